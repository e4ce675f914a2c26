/-! ===== both worlds, and the law's array of one answer ===== -/
set_option maxRecDepth 16384 in
theorem tw_mono {D : va_G} {cl : List vw_C} {ac : Nat → ClassId} {tb : Nat → tw_F} {tg : Nat → Nat → Nat} {A B : Nat → Prop} {ad : Nat → Nat → Nat} {τ : tw_T} {H : Heap} (h : tw_P D cl ac tb tg A ad τ H) (hAB : ∀ q, q < H.size → A q → B q) : tw_P D cl ac tb tg B ad τ H :=
  ⟨h.1, h.2.1, fun f k hf hk => hAB _ (tw_lt_heap h hf hk) (h.2.2.1 f k hf hk), h.2.2.2⟩
set_option maxRecDepth 16384 in
theorem tw_stay {D : va_G} {cl : List vw_C} {ac : Nat → ClassId} {tb : Nat → tw_F} {tg : Nat → Nat → Nat} {A : Nat → Prop} {ad : Nat → Nat → Nat} {τ : tw_T} {H H1 : Heap} (h : tw_P D cl ac tb tg A ad τ H) (hq : ∀ q, A q → H1[q]? = H[q]?) : tw_P D cl ac tb tg A ad τ H1 :=
  ⟨fun f k hf hk => (h.1 f k hf hk).kept (hq _ (h.2.2.1 f k hf hk)), h.2⟩
section JGS
variable (dC : Nat → ClassId) (dI : Nat → Nat → Nat) (ac : Nat → ClassId) (sa : Nat → Nat) (z o a1 a2 : Nat)
set_option maxRecDepth 16384 in
/-- class and reference apart from each other and from the answer's array, all behind the cell z -/
def JG (P : tw_T → tw_T → Int64 → Prop) (H : Heap) : Prop := ∃ (AX AM : Nat → Prop) (adX adM : Nat → Nat → Nat) (x mm : tw_T) (v : Int64),
  PX dC dI ac AX adX x H ∧ PM dC dI ac AM adM mm H ∧ OutAt ac o v H ∧ (∀ q, AX q → z ≤ q ∧ q < H.size) ∧ (∀ q, AM q → z ≤ q ∧ q < H.size) ∧ (∀ q, AX q → AM q → False) ∧ ¬ AX o ∧ ¬ AM o ∧ z ≤ o ∧
  (adX 0 0 = a1 ∧ adM 0 0 = a2 ∧ 0 < gN x 0 ∧ 0 < gN mm 0 ∧ (∀ i, i < 8 → adX 1000 i = sa i) ∧ 8 ≤ gN x 1000) ∧ P x mm v
variable {dC dI ac sa z o a1 a2}
set_option maxRecDepth 16384 in
theorem JG.openX {P : tw_T → tw_T → Int64 → Prop} {H : Heap} {locs : List Loc} {s : State} (h : JG dC dI ac sa s.heap.size o a1 a2 P H) (hS : va_S (fun q => s.heap.size ≤ q) s.heap H locs) (hK : va_K (dC, dI) clW (tyW ac) s) (hZ : ZX sa (fun q => s.heap.size ≤ q) s s.heap) (hZL : ZL s) :
    ∃ (A : Nat → Prop) (ad : Nat → Nat → Nat) (x mm : tw_T) (v : Int64), (∀ U : State, U.heap = H → s.WarmedH U.vm → BW dC dI ac sa A ad o x v U) ∧ PX dC dI ac A ad x H ∧ (∀ q, A q → s.heap.size ≤ q) ∧ s.heap.size ≤ o ∧ ad 0 0 = a1 ∧ 0 < gN x 0 ∧ (∀ i, i < 8 → ad 1000 i = sa i) ∧ 8 ≤ gN x 1000 ∧ P x mm v ∧ OutAt ac o v H ∧ ¬ A o ∧
      ∀ (H1 : Heap) (ad' : Nat → Nat → Nat) (x' : tw_T) (v' : Int64) (P' : tw_T → tw_T → Int64 → Prop), PX dC dI ac A ad' x' H1 → OutAt ac o v' H1 → tw_le x ad x' ad' → H.size ≤ H1.size → (∀ q : Nat, q < H.size → ¬ (A q ∨ q = o) → H1[q]? = H[q]?) → P' x' mm v' → JG dC dI ac sa s.heap.size o a1 a2 P' H1 := by
  obtain ⟨AX, AM, adX, adM, x, mm, v, hX, hM, hO, hx, hm, hd, ho1, ho2, ho3, ⟨k1, k2, k3, k4, k5, k6⟩, hP⟩ := h
  have hsz := hS.1
  have hol := hO.lt
  have hPX : PX dC dI ac (fun q => AX q ∨ H.size ≤ q) adX x H := tw_mono hX (fun q _ h => Or.inl h)
  have hA0 : ∀ q, (AX q ∨ H.size ≤ q) → s.heap.size ≤ q := fun q h => h.elim (fun h => (hx q h).1) (fun h => Nat.le_trans hsz h)
  refine ⟨fun q => AX q ∨ H.size ≤ q, adX, x, mm, v, fun U hU hW => ⟨⟨by rw [hU]; exact hPX, va_K.moved hW.alike hK, fun q hq => Or.inr (by rw [← hU]; exact hq), ?_⟩, by rw [hU]; exact hO, fun h => h.elim ho1 (fun h => by omega), hZL.moved hW.alike⟩, hPX, hA0, ho3, k1, k3, k5, k6, hP, hO, fun h => h.elim ho1 (fun h => by omega), fun H1 ad' x' v' P' g1 g2 g3 g4 g5 g6 => ?_⟩
  · have h1 : ZX sa (fun q => s.heap.size ≤ q) s H := hZ.kept (fun a h1 h2 => hS.2.1 a h1 h2)
    rw [hU]
    exact ZX.warm hW (h1.narrow hA0)
  · refine ⟨fun q => (AX q ∨ H.size ≤ q) ∧ q < H1.size, AM, ad', adM, x', mm, v', tw_mono g1 (fun q h1 h2 => ⟨h2, h1⟩), tw_stay hM (fun q hq => g5 q (hm q hq).2 (fun h => ?_)), g2, fun q h => ⟨hA0 q h.1, h.2⟩, fun q h => ⟨(hm q h).1, Nat.lt_of_lt_of_le (hm q h).2 g4⟩, fun q h1 h2 => ?_, fun h => h.1.elim ho1 (fun h => by omega), ho2, ho3, ⟨by rw [g3.2 0 0 k3]; exact k1, k2, Nat.lt_of_lt_of_le k3 (g3.1 0), k4, fun i hi => by rw [g3.2 1000 i (by omega)]; exact k5 i hi, Nat.le_trans k6 (g3.1 1000)⟩, g6⟩
    · rcases h with (h | h) | h
      · exact hd q h hq
      · have := (hm q hq).2; omega
      · rw [h] at hq; exact ho2 hq
    · rcases h1.1 with h | h
      · exact hd q h h2
      · have := (hm q h2).2; omega
set_option maxRecDepth 16384 in
theorem JG.openM {P : tw_T → tw_T → Int64 → Prop} {H : Heap} {locs : List Loc} {s : State} (h : JG dC dI ac sa s.heap.size o a1 a2 P H) (hS : va_S (fun q => s.heap.size ≤ q) s.heap H locs) (hK : va_K (dC, dI) clW (tyW ac) s) :
    ∃ (A : Nat → Prop) (ad : Nat → Nat → Nat) (x mm : tw_T) (v : Int64), (∀ U : State, U.heap = H → s.WarmedH U.vm → BM dC dI ac sa A ad mm U) ∧ PM dC dI ac A ad mm H ∧ (∀ q, A q → s.heap.size ≤ q) ∧ ad 0 0 = a2 ∧ 0 < gN mm 0 ∧ P x mm v ∧
      ∀ (H1 : Heap) (m' : tw_T) (P' : tw_T → tw_T → Int64 → Prop), PM dC dI ac A ad m' H1 → gN m' = gN mm → H.size ≤ H1.size → (∀ q : Nat, q < H.size → ¬ A q → H1[q]? = H[q]?) → P' x m' v → JG dC dI ac sa s.heap.size o a1 a2 P' H1 := by
  obtain ⟨AX, AM, adX, adM, x, mm, v, hX, hM, hO, hx, hm, hd, ho1, ho2, ho3, ⟨k1, k2, k3, k4, k5, k6⟩, hP⟩ := h
  have hsz := hS.1
  have hol := hO.lt
  have hPM : PM dC dI ac (fun q => AM q ∨ H.size ≤ q) adM mm H := tw_mono hM (fun q _ h => Or.inl h)
  have hA0 : ∀ q, (AM q ∨ H.size ≤ q) → s.heap.size ≤ q := fun q h => h.elim (fun h => (hm q h).1) (fun h => Nat.le_trans hsz h)
  refine ⟨fun q => AM q ∨ H.size ≤ q, adM, x, mm, v, fun U hU hW => ⟨by rw [hU]; exact hPM, va_K.moved hW.alike hK, fun q hq => Or.inr (by rw [← hU]; exact hq), trivial⟩, hPM, hA0, k2, k4, hP, fun H1 m' P' g1 g3 g4 g5 g6 => ?_⟩
  refine ⟨AX, fun q => (AM q ∨ H.size ≤ q) ∧ q < H1.size, adX, adM, x, m', v, tw_stay hX (fun q hq => g5 q (hx q hq).2 (fun h => ?_)), tw_mono g1 (fun q h1 h2 => ⟨h2, h1⟩), hO.kept (g5 o hol (fun h => h.elim ho2 (fun h => by omega))), fun q h => ⟨(hx q h).1, Nat.lt_of_lt_of_le (hx q h).2 g4⟩, fun q h => ⟨hA0 q h.1, h.2⟩, fun q h1 h2 => ?_, ho1, fun h => h.1.elim ho2 (fun h => by omega), ho3, ⟨k1, k2, k3, by rw [g3]; exact k4, k5, k6⟩, g6⟩
  · rcases h with h | h
    · exact hd q hq h
    · have := (hx q hq).2; omega
  · rcases h2.1 with h | h
    · exact hd q h1 h
    · have := (hx q h1).2; omega
end JGS
