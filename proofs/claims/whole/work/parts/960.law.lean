/-! ===== the law's cases ===== -/
set_option maxRecDepth 16384 in
theorem cmp_self {x : Int64} : lg_cmp x x = 0 := by
  have h1 : ¬ lg_cmp x x < 0 := fun h => by rw [cmp_lt0] at h; omega
  have h2 : ¬ 0 < lg_cmp x x := fun h => by rw [cmp_gt0] at h; omega
  rw [Int32.lt_iff_toInt_lt] at h1 h2
  exact i32_ext (by omega)
section LWB
variable {dC : Nat → ClassId} {dI : Nat → Nat → Nat} {ac : Nat → ClassId} {sa : Nat → Nat} {z o a1 a2 : Nat} {P P' : tw_T → tw_T → Int64 → Prop} {H : Heap}
set_option maxRecDepth 16384 in
theorem JG.imp (h : JG dC dI ac sa z o a1 a2 P H) (hP : ∀ x mm v, P x mm v → P' x mm v) : JG dC dI ac sa z o a1 a2 P' H := by
  obtain ⟨AX, AM, adX, adM, x, mm, v, g1, g2, g3, g4, g5, g6, g7, g8, g9, g10, g11⟩ := h
  exact ⟨AX, AM, adX, adM, x, mm, v, g1, g2, g3, g4, g5, g6, g7, g8, g9, g10, hP _ _ _ g11⟩
set_option maxRecDepth 16384 in
theorem JG.out (h : JG dC dI ac sa z o a1 a2 P H) : ∃ v, OutAt ac o v H ∧ ∃ x mm, P x mm v := by
  obtain ⟨AX, AM, adX, adM, x, mm, v, g1, g2, g3, g4, g5, g6, g7, g8, g9, g10, g11⟩ := h
  exact ⟨v, g3, x, mm, g11⟩
end LWB
section LWS
variable {p : Program} {l : Launch} {e : Env} {s : State} {m : MethodId} {args : Array Value} {below : List Frame} {meth : Method} {c : Code} {H : Heap} {locs : List Loc} {cells slots : Nat} {Z : State → Prop}
variable {ls : Array Slot} {dC : Nat → ClassId} {dI : Nat → Nat → Nat} {ac : Nat → ClassId} {sa : Nat → Nat} {b L i n o a1 a2 : Nat} {xs : Nat → Int32}
variable {cc : ByteArray} {pc : Nat} {rest : List Value}
set_option maxRecDepth 16384 in
theorem lw_sld {R : Room} (hexec : p.tables.exec = Jvm.exec) (hb : c.code = cc) (hX : va_X b L xs s s.heap) (hbl : b < s.heap.size) (hL : L ≤ 3072) (hS : va_S (fun q => s.heap.size ≤ q) s.heap H locs) {j : Nat} {J : Int32} (hJ : J = i32 j) (hij : i + j < L) (hdg : decode cc pc = .ok (.iaload, 1))
    (kk : W p l e R s m args below meth c H locs cells slots Z (F0 m (pc + 1) ls (.int (xs (i + j)) :: rest))) : W p l e R s m args below meth c H locs cells slots Z (F0 m pc ls (.int (i32 i + J) :: .ref b :: rest)) := by
  have e : i32 i + J = i32 (i + j) := by rw [hJ]; exact (Int32.ofNat_add i j).symm
  rw [e]
  refine va_sld hexec hb hX hbl (by omega) hS (vpin (show i + j < L by omega) (by omega)) hdg ?_
  rw [i32_nat (by omega)]
  exact kk
end LWS

