section LWL
variable {p : Program} {l : Launch} {e : Env} {s : State} {m : MethodId} {args : Array Value} {below : List Frame} {meth : Method} {c : Code} {H : Heap} {locs : List Loc} {cells slots : Nat} {Z : State → Prop}
variable {ls : Array Slot} {dC : Nat → ClassId} {dI : Nat → Nat → Nat} {ac : Nat → ClassId} {sa : Nat → Nat} {b L i n o a1 a2 : Nat} {xs : Nat → Int32}

set_option maxRecDepth 16384 in
set_option maxHeartbeats 4000000 in
theorem lw_loop (hx : p.tables.exec = Jvm.exec) (hb : c.code = cL_law) (hml : c.maxLocals = 7) (hown : s.vm.findClass RL = some m.cls) (hts : ∀ w ∈ wsL_law, w.before #[Value.ref b] s = true) (hlt : l.stackTraces = false) (hK : va_K (dC, dI) clW (tyW ac) s) (hZ : ZX sa (fun q => s.heap.size ≤ q) s s.heap) (hZL : ZL s) (hX : va_X b L xs s s.heap) (hbl : b < s.heap.size) (hL : L ≤ 3072) (hr : meth.sig.returnType = ret) (hlocks : meth.locks = false) :
    ∀ (k n : Nat) (H : Heap) (locs : List Loc) (ls : Array Slot), L < 6 * (n + k) + 6 → 6 * n ≤ L → lv_has ls 7 [(0, .ref b), (1, .ref a1), (2, .ref a2), (3, .ref o), (4, .int (i32 (6 * n)))] → va_S (fun q => s.heap.size ≤ q) s.heap H locs → JG dC dI ac sa s.heap.size o a1 a2 (fun x mm _ => Rel n x mm) H →
    W p l e room_1 s m #[Value.ref b] below meth c H locs (200 + 13 * n) (6000 + 423 * n) (lw_Z below #[Value.ref b] s) (F0 m 23 ls []) := by
  have hbA : ¬ (fun q : Nat => s.heap.size ≤ q) b := Nat.not_le.mpr hbl
  have hLi : (Int32.ofNat L).toInt = L := i32_int (by omega)
  have z6 : (6 : Int32).toInt = 6 := rfl
  have hsub : (Int32.ofNat L - 6).toInt = L - 6 := by rw [i32_sub] <;> rw [hLi, z6] <;> omega
  have start : ∀ (n : Nat) (H : Heap) (locs : List Loc) (ls : Array Slot), 6 * n ≤ L → lv_has ls 7 [(0, .ref b), (1, .ref a1), (2, .ref a2), (3, .ref o), (4, .int (i32 (6 * n)))] → va_S (fun q => s.heap.size ≤ q) s.heap H locs →
      (6 * n + 6 ≤ L → W p l e room_1 s m #[Value.ref b] below meth c H locs (200 + 13 * n) (6000 + 423 * n) (lw_Z below #[Value.ref b] s) (F0 m 33 ls [])) → W p l e room_1 s m #[Value.ref b] below meth c H locs (200 + 13 * n) (6000 + 423 * n) (lw_Z below #[Value.ref b] s) (F0 m 23 ls []) := by
    intro n H locs ls hnL hl hS go
    refine lv_iload hx hb dL_law_23 (lv_at hl 4 rfl) ?_
    refine lv_aload_n hx hb dL_law_25 rfl (lv_at hl 0 rfl) ?_
    refine va_slen hx hb hX hbl hbA hS dL_law_26 ?_
    refine lv_bipush (v := 6) hx hb dL_law_27 (by decide) ?_
    refine lv_isub hx hb dL_law_29 ?_
    refine lv_icmp_gt (tgt := 1838) hx hb dL_law_30 (by decide) (fun cg => ?_) (fun cg => ?_)
    · refine lv_iconst (v := 1) hx hb dL_law_1838 (by decide) ?_
      refine va_forget (fun q hq => hS.2.2 q hq) ?_
      refine W.widen (k := 1201024) (n := 5493034) (by omega) (by omega) ?_
      exact lw_ret hx hb hr hlocks dL_law_1839
    · refine go ?_
      rw [Int32.lt_iff_toInt_lt, hsub, i32_int (by omega)] at cg
      omega
  intro k
  induction k with
  | zero =>
    intro n H locs ls hk hnL hl hS hJ
    exact start n H locs ls hnL hl hS (fun h => by omega)
  | succ k ih =>
    intro n H locs ls hk hnL hl hS hJ
    refine start n H locs ls hnL hl hS (fun hi => ?_)
    have fin : ∀ (H1 : Heap) (locs1 : List Loc) (ls1 : Array Slot), lv_has ls1 7 [(0, .ref b), (1, .ref a1), (2, .ref a2), (3, .ref o), (4, .int (i32 (6 * n)))] → va_S (fun q => s.heap.size ≤ q) s.heap H1 locs1 → JG dC dI ac sa s.heap.size o a1 a2 (fun x mm _ => Rel (n + 1) x mm) H1 → W p l e room_1 s m #[Value.ref b] below meth c H1 locs1 (200 + 13 * n + 13) (6000 + 423 * n + 423) (lw_Z below #[Value.ref b] s) (F0 m 1832 ls1 []) := by
      intro H1 locs1 ls1 hl1 hS1 hJ1
      have e6 : i32 (6 * n) + 6 = i32 (6 * (n + 1)) := by rw [show 6 * (n + 1) = 6 * n + 6 by omega]; exact (Int32.ofNat_add (6 * n) 6).symm
      refine lv_iinc (v := i32 (6 * (n + 1))) (lv' := [(4, .int (i32 (6 * (n + 1)))), (0, .ref b), (1, .ref a1), (2, .ref a2), (3, .ref o)]) hx hb dL_law_1832 hl1 (k := 4) rfl (by rw [← e6]; rfl) (by decide) rfl (fun ls hl => ?_)
      refine lv_goto (tgt := 23) hx hb dL_law_1835 (by decide) ?_
      refine W.widen (k := 200 + 13 * (n + 1)) (n := 6000 + 423 * (n + 1)) (by omega) (by omega) ?_
      exact ih (n + 1) H1 locs1 ls (by omega) (by omega) (lv_sub hl [1, 2, 3, 4, 0] rfl) hS1 hJ1
    refine lv_aload_n hx hb dL_law_33 rfl (lv_at hl 0 rfl) ?_
    refine lv_iload hx hb dL_law_34 (lv_at hl 4 rfl) ?_
    refine va_sld hx hb hX hbl hbA hS (vpin (show 6 * n < L by omega) (by omega)) dL_law_36 ?_
    refine lv_bipush (v := 31) hx hb dL_law_37 (by decide) ?_
    refine lv_iand hx hb dL_law_39 ?_
    generalize (xs (i32 (6 * n)).toNatClampNeg &&& 31) = w
    by_cases cd : w.toInt < 0 ∨ 24 < w.toInt
    · refine lv_tableOut (tgt := 1832) hx hb dL_law_40 cd (by decide) ?_
      refine W.widen (k := 200 + 13 * n + 13) (n := 6000 + 423 * n + 423) (by omega) (by omega) ?_
      exact fin H locs ls hl hS (hJ.imp (fun _ _ _ h => h.up))
    · rcases (show w.toInt = 0 ∨ w.toInt = 1 ∨ w.toInt = 2 ∨ w.toInt = 3 ∨ w.toInt = 4 ∨ w.toInt = 5 ∨ w.toInt = 6 ∨ w.toInt = 7 ∨ w.toInt = 8 ∨ w.toInt = 9 ∨ w.toInt = 10 ∨ w.toInt = 11 ∨ w.toInt = 12 ∨ w.toInt = 13 ∨ w.toInt = 14 ∨ w.toInt = 15 ∨ w.toInt = 16 ∨ w.toInt = 17 ∨ w.toInt = 18 ∨ w.toInt = 19 ∨ w.toInt = 20 ∨ w.toInt = 21 ∨ w.toInt = 22 ∨ w.toInt = 23 ∨ w.toInt = 24 by omega) with e9 | e9 | e9 | e9 | e9 | e9 | e9 | e9 | e9 | e9 | e9 | e9 | e9 | e9 | e9 | e9 | e9 | e9 | e9 | e9 | e9 | e9 | e9 | e9 | e9
      · refine lv_tableIn (off := 116) (tgt := 156) hx hb dL_law_40 (by rw [e9]; decide) (by rw [e9]; decide) (by rw [e9]; rfl) (by decide) ?_
        exact lwc_kind hx hb hml hown hts hlt hK hZ hZL hX hbl hL hl hS hi (by omega) hJ ⟨by omega, by omega⟩ fin
      · refine lv_tableIn (off := 220) (tgt := 260) hx hb dL_law_40 (by rw [e9]; decide) (by rw [e9]; decide) (by rw [e9]; rfl) (by decide) ?_
        exact lwc_lot hx hb hml hown hts hlt hK hZ hZL hX hbl hL hl hS hi (by omega) hJ ⟨by omega, by omega⟩ fin
      · refine lv_tableIn (off := 300) (tgt := 340) hx hb dL_law_40 (by rw [e9]; decide) (by rw [e9]; decide) (by rw [e9]; rfl) (by decide) ?_
        exact lwc_told hx hb hml hown hts hlt hK hZ hZL hX hbl hL hl hS hi (by omega) hJ ⟨by omega, by omega⟩ fin
      · refine lv_tableIn (off := 368) (tgt := 408) hx hb dL_law_40 (by rw [e9]; decide) (by rw [e9]; decide) (by rw [e9]; rfl) (by decide) ?_
        exact lwc_worth hx hb hml hown hts hlt hK hZ hZL hX hbl hL hl hS hi (by omega) hJ ⟨by omega, by omega⟩ fin
      · refine lv_tableIn (off := 436) (tgt := 476) hx hb dL_law_40 (by rw [e9]; decide) (by rw [e9]; decide) (by rw [e9]; rfl) (by decide) ?_
        exact lwc_taste hx hb hml hown hts hlt hK hZ hZL hX hbl hL hl hS hi (by omega) hJ ⟨by omega, by omega⟩ fin
      · refine lv_tableIn (off := 504) (tgt := 544) hx hb dL_law_40 (by rw [e9]; decide) (by rw [e9]; decide) (by rw [e9]; rfl) (by decide) ?_
        exact lwc_put hx hb hml hown hts hlt hK hZ hZL hX hbl hL hl hS hi (by omega) hJ ⟨by omega, by omega⟩ fin
      · refine lv_tableIn (off := 584) (tgt := 624) hx hb dL_law_40 (by rw [e9]; decide) (by rw [e9]; decide) (by rw [e9]; rfl) (by decide) ?_
        exact lwc_move hx hb hml hown hts hlt hK hZ hZL hX hbl hL hl hS hi (by omega) hJ ⟨by omega, by omega⟩ fin
      · refine lv_tableIn (off := 664) (tgt := 704) hx hb dL_law_40 (by rw [e9]; decide) (by rw [e9]; decide) (by rw [e9]; rfl) (by decide) ?_
        exact lwc_cell hx hb hml hown hts hlt hK hZ hZL hX hbl hL hl hS hi (by omega) hJ ⟨by omega, by omega⟩ fin
      · refine lv_tableIn (off := 732) (tgt := 772) hx hb dL_law_40 (by rw [e9]; decide) (by rw [e9]; decide) (by rw [e9]; rfl) (by decide) ?_
        exact lwc_find hx hb hml hown hts hlt hK hZ hZL hX hbl hL hl hS hi (by omega) hJ ⟨by omega, by omega⟩ fin
      · refine lv_tableIn (off := 800) (tgt := 840) hx hb dL_law_40 (by rw [e9]; decide) (by rw [e9]; decide) (by rw [e9]; rfl) (by decide) ?_
        exact lwc_sell hx hb hml hown hts hlt hK hZ hZL hX hbl hL hl hS hi (by omega) hJ ⟨by omega, by omega⟩ fin
      · refine lv_tableIn (off := 856) (tgt := 896) hx hb dL_law_40 (by rw [e9]; decide) (by rw [e9]; decide) (by rw [e9]; rfl) (by decide) ?_
        exact lwc_broken hx hb hml hown hts hlt hK hZ hZL hX hbl hL hl hS hi (by omega) hJ ⟨by omega, by omega⟩ fin
      · refine lv_tableIn (off := 912) (tgt := 952) hx hb dL_law_40 (by rw [e9]; decide) (by rw [e9]; decide) (by rw [e9]; rfl) (by decide) ?_
        exact lwc_counted hx hb hml hown hts hlt hK hZ hZL hX hbl hL hl hS hi (by omega) hJ ⟨by omega, by omega⟩ fin
      · refine lv_tableIn (off := 980) (tgt := 1020) hx hb dL_law_40 (by rw [e9]; decide) (by rw [e9]; decide) (by rw [e9]; rfl) (by decide) ?_
        exact lwc_glass hx hb hml hown hts hlt hK hZ hZL hX hbl hL hl hS hi (by omega) hJ ⟨by omega, by omega⟩ fin
      · refine lv_tableIn (off := 1036) (tgt := 1076) hx hb dL_law_40 (by rw [e9]; decide) (by rw [e9]; decide) (by rw [e9]; rfl) (by decide) ?_
        exact lwc_wait hx hb hml hown hts hlt hK hZ hZL hX hbl hL hl hS hi (by omega) hJ ⟨by omega, by omega⟩ fin
      · refine lv_tableIn (off := 1092) (tgt := 1132) hx hb dL_law_40 (by rw [e9]; decide) (by rw [e9]; decide) (by rw [e9]; rfl) (by decide) ?_
        exact lwc_feed hx hb hml hown hts hlt hK hZ hZL hX hbl hL hl hS hi (by omega) hJ ⟨by omega, by omega⟩ fin
      · refine lv_tableIn (off := 1165) (tgt := 1205) hx hb dL_law_40 (by rw [e9]; decide) (by rw [e9]; decide) (by rw [e9]; rfl) (by decide) ?_
        exact lwc_dish hx hb hml hown hts hlt hK hZ hZL hX hbl hL hl hS hi (by omega) hJ ⟨by omega, by omega⟩ fin
      · refine lv_tableIn (off := 1221) (tgt := 1261) hx hb dL_law_40 (by rw [e9]; decide) (by rw [e9]; decide) (by rw [e9]; rfl) (by decide) ?_
        exact lwc_score hx hb hml hown hts hlt hK hZ hZL hX hbl hL hl hS hi (by omega) hJ ⟨by omega, by omega⟩ fin
      · refine lv_tableIn (off := 1289) (tgt := 1329) hx hb dL_law_40 (by rw [e9]; decide) (by rw [e9]; decide) (by rw [e9]; rfl) (by decide) ?_
        exact lwc_match hx hb hml hown hts hlt hK hZ hZL hX hbl hL hl hS hi (by omega) hJ ⟨by omega, by omega⟩ fin
      · refine lv_tableIn (off := 1357) (tgt := 1397) hx hb dL_law_40 (by rw [e9]; decide) (by rw [e9]; decide) (by rw [e9]; rfl) (by decide) ?_
        exact lwc_sheet hx hb hml hown hts hlt hK hZ hZL hX hbl hL hl hS hi (by omega) hJ ⟨by omega, by omega⟩ fin
      · refine lv_tableIn (off := 1413) (tgt := 1453) hx hb dL_law_40 (by rw [e9]; decide) (by rw [e9]; decide) (by rw [e9]; rfl) (by decide) ?_
        exact lwc_row hx hb hml hown hts hlt hK hZ hZL hX hbl hL hl hS hi (by omega) hJ ⟨by omega, by omega⟩ fin
      · refine lv_tableIn (off := 1493) (tgt := 1533) hx hb dL_law_40 (by rw [e9]; decide) (by rw [e9]; decide) (by rw [e9]; rfl) (by decide) ?_
        exact lwc_set hx hb hml hown hts hlt hK hZ hZL hX hbl hL hl hS hi (by omega) hJ ⟨by omega, by omega⟩ fin
      · refine lv_tableIn (off := 1617) (tgt := 1657) hx hb dL_law_40 (by rw [e9]; decide) (by rw [e9]; decide) (by rw [e9]; rfl) (by decide) ?_
        exact lwc_deliver hx hb hml hown hts hlt hK hZ hZL hX hbl hL hl hS hi (by omega) hJ ⟨by omega, by omega⟩ fin
      · refine lv_tableIn (off := 1685) (tgt := 1725) hx hb dL_law_40 (by rw [e9]; decide) (by rw [e9]; decide) (by rw [e9]; rfl) (by decide) ?_
        exact lwc_plan hx hb hml hown hts hlt hK hZ hZL hX hbl hL hl hS hi (by omega) hJ ⟨by omega, by omega⟩ fin
      · refine lv_tableIn (off := 1753) (tgt := 1793) hx hb dL_law_40 (by rw [e9]; decide) (by rw [e9]; decide) (by rw [e9]; rfl) (by decide) ?_
        exact lwc_count hx hb hml hown hts hlt hK hZ hZL hX hbl hL hl hS hi (by omega) hJ ⟨by omega, by omega⟩ fin
      · refine lv_tableIn (off := 1778) (tgt := 1818) hx hb dL_law_40 (by rw [e9]; decide) (by rw [e9]; decide) (by rw [e9]; rfl) (by decide) ?_
        exact lwc_till hx hb hml hown hts hlt hK hZ hZL hX hbl hL hl hS hi (by omega) hJ ⟨by omega, by omega⟩ fin
end LWL
