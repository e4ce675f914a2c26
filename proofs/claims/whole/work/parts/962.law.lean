section LWC
variable {p : Program} {l : Launch} {e : Env} {s : State} {m : MethodId} {args : Array Value} {below : List Frame} {meth : Method} {c : Code} {H : Heap} {locs : List Loc} {cells slots : Nat} {Z : State → Prop}
variable {ls : Array Slot} {dC : Nat → ClassId} {dI : Nat → Nat → Nat} {ac : Nat → ClassId} {sa : Nat → Nat} {b L i n o a1 a2 : Nat} {xs : Nat → Int32}
set_option maxHeartbeats 4000000 in
set_option maxRecDepth 100000 in
theorem lwc_cell (hx : p.tables.exec = Jvm.exec) (hb : c.code = cL_law) (hml : c.maxLocals = 7) (hown : s.vm.findClass RL = some m.cls) (hts : ∀ w ∈ wsL_law, w.before args s = true) (hlt : l.stackTraces = false) (hK : va_K (dC, dI) clW (tyW ac) s) (hZ : ZX sa (fun q => s.heap.size ≤ q) s s.heap) (hZL : ZL s) (hX : va_X b L xs s s.heap) (hbl : b < s.heap.size) (hL : L ≤ 3072) (hl : lv_has ls 7 [(0, .ref b), (1, .ref a1), (2, .ref a2), (3, .ref o), (4, .int (i32 i))]) (hS : va_S (fun q => s.heap.size ≤ q) s.heap H locs) (hi : i + 6 ≤ L) (hn : n < 1000) (hJ : JG dC dI ac sa s.heap.size o a1 a2 (fun x mm _ => Rel n x mm) H) (hc : cells + 13 ≤ 1201024 ∧ slots + 423 ≤ 5493034)
    (kk : ∀ (H1 : Heap) (locs1 : List Loc) (ls1 : Array Slot), lv_has ls1 7 [(0, .ref b), (1, .ref a1), (2, .ref a2), (3, .ref o), (4, .int (i32 i))] → va_S (fun q => s.heap.size ≤ q) s.heap H1 locs1 → JG dC dI ac sa s.heap.size o a1 a2 (fun x mm _ => Rel (n + 1) x mm) H1 → W p l e room_1 s m args below meth c H1 locs1 (cells + 13) (slots + 423) Z (F0 m 1832 ls1 [])) :
    W p l e room_1 s m args below meth c H locs cells slots Z (F0 m 704 ls []) := by
  refine lv_aload_n hx hb dL_law_704 rfl (lv_at hl 1 rfl) ?_
  refine lv_aload_n hx hb dL_law_705 rfl (lv_at hl 0 rfl) ?_
  refine lv_iload hx hb dL_law_706 (lv_at hl 4 rfl) ?_
  refine lv_iconst (v := 1) hx hb dL_law_708 (by decide) ?_
  refine lv_iadd hx hb dL_law_709 ?_
  refine lw_sld hx hb hX hbl hL hS (i := i) (j := 1) rfl (by omega) dL_law_710 ?_
  refine lv_aload_n hx hb dL_law_711 rfl (lv_at hl 0 rfl) ?_
  refine lv_iload hx hb dL_law_712 (lv_at hl 4 rfl) ?_
  refine lv_iconst (v := 2) hx hb dL_law_714 (by decide) ?_
  refine lv_iadd hx hb dL_law_715 ?_
  refine lw_sld hx hb hX hbl hL hS (i := i) (j := 2) rfl (by omega) dL_law_716 ?_
  refine lv_aload_n hx hb dL_law_717 rfl (lv_at hl 3 rfl) ?_
  obtain ⟨A, ad, x, mm, v, jB, jP, jA, jo, rfl, j3, jsa, j8, hR, jO, joA, jC⟩ := hJ.openX hS hK hZ hZL
  refine vx_calli (vx_runSX (hh := [(0, 10, 13, 34), (0, 10, 17, 13)]) (As := [.ref (ad 0 0), .int (xs (i + 1)), .int (xs (i + 2)), .ref o]) (rest := []) ⟨hx, hb, hml, hown, hts⟩ (mL_cell l hlt dC dI ac sa A ad o x 0 (xs (i + 1)) (xs (i + 2)) v _ (op_cell n x mm (xs (i + 1)) (xs (i + 2)) v hR) j3) (vx_cwSW 4 hts gL_law_L_cell rfl rfl rfl (by decide +kernel) ⟨Nat.le_of_ble_eq_true rfl, Nat.le_of_ble_eq_true rfl⟩) ⟨BW.blind, fun U hU hW => ⟨rfl, jB U hU hW⟩⟩ rfl rfl hl.1 rfl (lv_room (Nat.le_of_ble_eq_true rfl)) dL_law_718 ⟨by show cells + 2 ≤ 1201024; omega, by show slots + 12 ≤ 5493034; omega⟩) hS (fun q _ h => h.elim (jA q) (fun h => by rw [h]; exact jo)) (fun q h => h.elim (jA q) (fun h => by rw [h]; exact jo)) (fun q _ h => h.elim) (fun E9 ce9 q9 u9 t9 H9 locs9 ht9 hvm9 hpx => hpx.elim) (fun r1 u1 t H1 locs1 ht hvm hw hB hz hk hS1 => ?_)
  obtain ⟨x1, ad1, v1⟩ := u1
  obtain ⟨hQ, hle⟩ := hw
  obtain ⟨hP1, hO1⟩ := hB
  have hJ1 := jC H1 ad1 x1 v1 (fun x mm v => F_X10_cell mm 0 (xs (i + 1)) (xs (i + 2)) (fun rr m9 => gI m9 0 0 0 = r1 ∧ (r1 = 0 → v = rr.toInt64) ∧ Rel (n + 1) x m9)) (tw_back hP1 ht) (by rw [← ht]; exact hO1) hle hz hk hQ
  refine lv_istore (lv' := [(5, .int r1), (0, .ref b), (1, .ref (ad 0 0)), (2, .ref a2), (3, .ref o), (4, .int (i32 i))]) hx hb dL_law_721 hl (by decide) rfl (fun ls hl => ?_)
  refine lv_aload_n hx hb dL_law_723 rfl (lv_at hl 3 rfl) ?_
  refine lv_aload_n hx hb dL_law_724 rfl (lv_at hl 1 rfl) ?_
  refine lv_iload hx hb dL_law_725 (lv_at hl 5 rfl) ?_
  refine lv_iconst (v := 1) hx hb dL_law_727 (by decide) ?_
  refine lv_iadd hx hb dL_law_728 ?_
  refine lw_sld hx hb hX hbl hL hS1 (i := i) (j := 1) rfl (by omega) dL_law_729 ?_
  refine lv_aload_n hx hb dL_law_730 rfl (lv_at hl 1 rfl) ?_
  refine lv_iload hx hb dL_law_731 (lv_at hl 5 rfl) ?_
  refine lv_iconst (v := 2) hx hb dL_law_733 (by decide) ?_
  refine lv_iadd hx hb dL_law_734 ?_
  refine lw_sld hx hb hX hbl hL hS1 (i := i) (j := 2) rfl (by omega) dL_law_735 ?_
  obtain ⟨A2, ad2, x2, mm2, v2, kB, kP, kA, rfl, k4, kF, kC⟩ := hJ1.openM hS1 hK
  refine va_calli (va_runV (As := [.int (xs (i + 1)), .int (xs (i + 2))]) (rest := []) ⟨hx, hb, hml, hown, hts⟩ (mX10_cell l dC dI ac sa A2 ad2 mm2 0 (xs (i + 1)) (xs (i + 2)) _ kF k4) (cwV 2 hts gL_law_X10_cell rfl rfl rfl (by decide +kernel) ⟨Nat.le_of_ble_eq_true rfl, Nat.le_of_ble_eq_true rfl⟩) ⟨BM.blind, tw_recv hK kP (by decide) k4 rfl rfl, fun U hU hW => ⟨rfl, kB U hU hW⟩⟩ rfl rfl hl.1 rfl (lv_room (Nat.le_of_ble_eq_true rfl)) dL_law_736 ⟨by show cells + 2 + 0 ≤ 1201024; omega, by show slots + 12 + 0 ≤ 5493034; omega⟩) hS1 (fun q _ h => kA q h) (fun q h => kA q h) (fun r2 m2 t2 H2 locs2 ht2 hvm2 hw2 hB2 hz2 hk2 hS2 => ?_)
  have hJ2 := kC H2 m2 (fun x m9 v => gI m9 0 0 0 = r1 ∧ (r1 = 0 → v = r2.toInt64) ∧ Rel (n + 1) x m9) (tw_back hB2 ht2) hw2.2 hz2 hk2 hw2.1
  refine lv_istore (lv' := [(6, .int r2), (5, .int r1), (0, .ref b), (1, .ref (ad 0 0)), (2, .ref (ad2 0 0)), (3, .ref o), (4, .int (i32 i))]) hx hb dL_law_739 hl (by decide) rfl (fun ls hl => ?_)
  refine lv_aload_n hx hb dL_law_741 rfl (lv_at hl 4 rfl) ?_
  obtain ⟨A3, ad3, x3, mm3, v3, nB, nP, nA, n2, n4, nF, nC⟩ := hJ2.openM hS2 hK
  rw [← n2] at hl ⊢
  refine va_calli (va_runV (As := []) (rest := []) ⟨hx, hb, hml, hown, hts⟩ (mX10_thrown l dC dI ac sa A3 ad3 mm3 0 (fun r u => r = gI mm3 0 0 0 ∧ u = mm3) ⟨rfl, rfl⟩ n4) (cwV 0 hts gL_law_X10_thrown rfl rfl rfl (by decide +kernel) ⟨Nat.le_of_ble_eq_true rfl, Nat.le_of_ble_eq_true rfl⟩) ⟨BM.blind, tw_recv hK nP (by decide) n4 rfl rfl, fun U hU hW => ⟨rfl, nB U hU hW⟩⟩ rfl rfl hl.1 rfl (lv_room (Nat.le_of_ble_eq_true rfl)) dL_law_742 ⟨by show cells + 2 + 0 + 0 ≤ 1201024; omega, by show slots + 12 + 0 + 0 ≤ 5493034; omega⟩) hS2 (fun q _ h => nA q h) (fun q h => nA q h) (fun r3 m3 t3 H3 locs3 ht3 hvm3 hw3 hB3 hz3 hk3 hS3 => ?_)
  obtain ⟨⟨e3, rfl⟩, hN3⟩ := hw3
  obtain ⟨nF1, nF2, nF3⟩ := nF
  rw [nF1] at e3
  subst e3
  have hJ3 := nC H3 m3 (fun x m9 v => (r3 = 0 → v = r2.toInt64) ∧ Rel (n + 1) x m9) (tw_back hB3 ht3) rfl hz3 hk3 ⟨nF2, nF3⟩
  rw [n2] at hl
  refine lv_iload hx hb dL_law_745 (lv_at hl 1 rfl) ?_
  refine lv_icmp_eq (tgt := 752) hx hb dL_law_747 (by decide) (fun _ => ?_) (fun c9 => absurd rfl c9)
  have hlE := lv_sub (l' := [(0, .ref b), (1, .ref (ad 0 0)), (2, .ref (ad2 0 0)), (3, .ref o), (4, .int (i32 i))]) hl [2, 3, 4, 5, 6] rfl
  refine lv_iload hx hb dL_law_752 (lv_at hl 1 rfl) ?_
  refine lv_if_ne (tgt := 769) hx hb dL_law_754 (by decide) (fun _ => ?_) (fun c8 => ?_)
  · refine lv_goto (tgt := 1832) hx hb dL_law_769 (by decide) ?_
    refine W.widen (k := cells + 13) (n := slots + 423) (by omega) (by omega) ?_
    exact kk H3 locs3 ls hlE hS3 (hJ3.imp (fun _ _ _ h => h.2))
  obtain ⟨v9, hO9, x9, mm9, hv9, -⟩ := hJ3.out
  have hv9 := hv9 c8
  refine lv_aload_n hx hb dL_law_757 rfl (lv_at hl 5 rfl) ?_
  refine lv_iconst (v := 0) hx hb dL_law_758 (by decide) ?_
  refine wr_lald hx hb hK hO9 dL_law_759 ?_
  refine lv_iload hx hb dL_law_760 (lv_at hl 0 rfl) ?_
  refine lv_i2l (v := r2.toInt64) hx hb dL_law_762 rfl ?_
  refine W.lcmp hx hb dL_law_763 ?_
  refine lv_if_eq (tgt := 769) hx hb dL_law_764 (by decide) (fun _ => ?_) (fun c9 => absurd (by rw [hv9]; exact cmp_self) c9)
  refine lv_goto (tgt := 1832) hx hb dL_law_769 (by decide) ?_
  refine W.widen (k := cells + 13) (n := slots + 423) (by omega) (by omega) ?_
  exact kk H3 locs3 ls hlE hS3 (hJ3.imp (fun _ _ _ h => h.2))
set_option maxHeartbeats 4000000 in
set_option maxRecDepth 100000 in
theorem lwc_find (hx : p.tables.exec = Jvm.exec) (hb : c.code = cL_law) (hml : c.maxLocals = 7) (hown : s.vm.findClass RL = some m.cls) (hts : ∀ w ∈ wsL_law, w.before args s = true) (hlt : l.stackTraces = false) (hK : va_K (dC, dI) clW (tyW ac) s) (hZ : ZX sa (fun q => s.heap.size ≤ q) s s.heap) (hZL : ZL s) (hX : va_X b L xs s s.heap) (hbl : b < s.heap.size) (hL : L ≤ 3072) (hl : lv_has ls 7 [(0, .ref b), (1, .ref a1), (2, .ref a2), (3, .ref o), (4, .int (i32 i))]) (hS : va_S (fun q => s.heap.size ≤ q) s.heap H locs) (hi : i + 6 ≤ L) (hn : n < 1000) (hJ : JG dC dI ac sa s.heap.size o a1 a2 (fun x mm _ => Rel n x mm) H) (hc : cells + 13 ≤ 1201024 ∧ slots + 423 ≤ 5493034)
    (kk : ∀ (H1 : Heap) (locs1 : List Loc) (ls1 : Array Slot), lv_has ls1 7 [(0, .ref b), (1, .ref a1), (2, .ref a2), (3, .ref o), (4, .int (i32 i))] → va_S (fun q => s.heap.size ≤ q) s.heap H1 locs1 → JG dC dI ac sa s.heap.size o a1 a2 (fun x mm _ => Rel (n + 1) x mm) H1 → W p l e room_1 s m args below meth c H1 locs1 (cells + 13) (slots + 423) Z (F0 m 1832 ls1 [])) :
    W p l e room_1 s m args below meth c H locs cells slots Z (F0 m 772 ls []) := by
  refine lv_aload_n hx hb dL_law_772 rfl (lv_at hl 1 rfl) ?_
  refine lv_aload_n hx hb dL_law_773 rfl (lv_at hl 0 rfl) ?_
  refine lv_iload hx hb dL_law_774 (lv_at hl 4 rfl) ?_
  refine lv_iconst (v := 1) hx hb dL_law_776 (by decide) ?_
  refine lv_iadd hx hb dL_law_777 ?_
  refine lw_sld hx hb hX hbl hL hS (i := i) (j := 1) rfl (by omega) dL_law_778 ?_
  refine lv_aload_n hx hb dL_law_779 rfl (lv_at hl 0 rfl) ?_
  refine lv_iload hx hb dL_law_780 (lv_at hl 4 rfl) ?_
  refine lv_iconst (v := 2) hx hb dL_law_782 (by decide) ?_
  refine lv_iadd hx hb dL_law_783 ?_
  refine lw_sld hx hb hX hbl hL hS (i := i) (j := 2) rfl (by omega) dL_law_784 ?_
  refine lv_aload_n hx hb dL_law_785 rfl (lv_at hl 3 rfl) ?_
  obtain ⟨A, ad, x, mm, v, jB, jP, jA, jo, rfl, j3, jsa, j8, hR, jO, joA, jC⟩ := hJ.openX hS hK hZ hZL
  refine vx_calli (vx_runSX (hh := [(0, 10, 13, 19)]) (As := [.ref (ad 0 0), .int (xs (i + 1)), .int (xs (i + 2)), .ref o]) (rest := []) ⟨hx, hb, hml, hown, hts⟩ (mL_find l hlt dC dI ac sa A ad o x 0 (xs (i + 1)) (xs (i + 2)) v _ (op_find n x mm (xs (i + 1)) (xs (i + 2)) v hR) j3) (vx_cwSW 4 hts gL_law_L_find rfl rfl rfl (by decide +kernel) ⟨Nat.le_of_ble_eq_true rfl, Nat.le_of_ble_eq_true rfl⟩) ⟨BW.blind, fun U hU hW => ⟨rfl, jB U hU hW⟩⟩ rfl rfl hl.1 rfl (lv_room (Nat.le_of_ble_eq_true rfl)) dL_law_786 ⟨by show cells + 1 ≤ 1201024; omega, by show slots + 6 ≤ 5493034; omega⟩) hS (fun q _ h => h.elim (jA q) (fun h => by rw [h]; exact jo)) (fun q h => h.elim (jA q) (fun h => by rw [h]; exact jo)) (fun q _ h => h.elim) (fun E9 ce9 q9 u9 t9 H9 locs9 ht9 hvm9 hpx => hpx.elim) (fun r1 u1 t H1 locs1 ht hvm hw hB hz hk hS1 => ?_)
  obtain ⟨x1, ad1, v1⟩ := u1
  obtain ⟨hQ, hle⟩ := hw
  obtain ⟨hP1, hO1⟩ := hB
  have hJ1 := jC H1 ad1 x1 v1 (fun x mm v => F_X10_find mm 0 (xs (i + 1)) (xs (i + 2)) (fun rr m9 => gI m9 0 0 0 = r1 ∧ (r1 = 0 → v = rr.toInt64) ∧ Rel (n + 1) x m9)) (tw_back hP1 ht) (by rw [← ht]; exact hO1) hle hz hk hQ
  refine lv_istore (lv' := [(5, .int r1), (0, .ref b), (1, .ref (ad 0 0)), (2, .ref a2), (3, .ref o), (4, .int (i32 i))]) hx hb dL_law_789 hl (by decide) rfl (fun ls hl => ?_)
  refine lv_aload_n hx hb dL_law_791 rfl (lv_at hl 3 rfl) ?_
  refine lv_aload_n hx hb dL_law_792 rfl (lv_at hl 1 rfl) ?_
  refine lv_iload hx hb dL_law_793 (lv_at hl 5 rfl) ?_
  refine lv_iconst (v := 1) hx hb dL_law_795 (by decide) ?_
  refine lv_iadd hx hb dL_law_796 ?_
  refine lw_sld hx hb hX hbl hL hS1 (i := i) (j := 1) rfl (by omega) dL_law_797 ?_
  refine lv_aload_n hx hb dL_law_798 rfl (lv_at hl 1 rfl) ?_
  refine lv_iload hx hb dL_law_799 (lv_at hl 5 rfl) ?_
  refine lv_iconst (v := 2) hx hb dL_law_801 (by decide) ?_
  refine lv_iadd hx hb dL_law_802 ?_
  refine lw_sld hx hb hX hbl hL hS1 (i := i) (j := 2) rfl (by omega) dL_law_803 ?_
  obtain ⟨A2, ad2, x2, mm2, v2, kB, kP, kA, rfl, k4, kF, kC⟩ := hJ1.openM hS1 hK
  refine va_calli (va_runV (As := [.int (xs (i + 1)), .int (xs (i + 2))]) (rest := []) ⟨hx, hb, hml, hown, hts⟩ (mX10_find l dC dI ac sa A2 ad2 mm2 0 (xs (i + 1)) (xs (i + 2)) _ kF k4) (cwV 2 hts gL_law_X10_find rfl rfl rfl (by decide +kernel) ⟨Nat.le_of_ble_eq_true rfl, Nat.le_of_ble_eq_true rfl⟩) ⟨BM.blind, tw_recv hK kP (by decide) k4 rfl rfl, fun U hU hW => ⟨rfl, kB U hU hW⟩⟩ rfl rfl hl.1 rfl (lv_room (Nat.le_of_ble_eq_true rfl)) dL_law_804 ⟨by show cells + 1 + 0 ≤ 1201024; omega, by show slots + 6 + 0 ≤ 5493034; omega⟩) hS1 (fun q _ h => kA q h) (fun q h => kA q h) (fun r2 m2 t2 H2 locs2 ht2 hvm2 hw2 hB2 hz2 hk2 hS2 => ?_)
  have hJ2 := kC H2 m2 (fun x m9 v => gI m9 0 0 0 = r1 ∧ (r1 = 0 → v = r2.toInt64) ∧ Rel (n + 1) x m9) (tw_back hB2 ht2) hw2.2 hz2 hk2 hw2.1
  refine lv_istore (lv' := [(6, .int r2), (5, .int r1), (0, .ref b), (1, .ref (ad 0 0)), (2, .ref (ad2 0 0)), (3, .ref o), (4, .int (i32 i))]) hx hb dL_law_807 hl (by decide) rfl (fun ls hl => ?_)
  refine lv_aload_n hx hb dL_law_809 rfl (lv_at hl 4 rfl) ?_
  obtain ⟨A3, ad3, x3, mm3, v3, nB, nP, nA, n2, n4, nF, nC⟩ := hJ2.openM hS2 hK
  rw [← n2] at hl ⊢
  refine va_calli (va_runV (As := []) (rest := []) ⟨hx, hb, hml, hown, hts⟩ (mX10_thrown l dC dI ac sa A3 ad3 mm3 0 (fun r u => r = gI mm3 0 0 0 ∧ u = mm3) ⟨rfl, rfl⟩ n4) (cwV 0 hts gL_law_X10_thrown rfl rfl rfl (by decide +kernel) ⟨Nat.le_of_ble_eq_true rfl, Nat.le_of_ble_eq_true rfl⟩) ⟨BM.blind, tw_recv hK nP (by decide) n4 rfl rfl, fun U hU hW => ⟨rfl, nB U hU hW⟩⟩ rfl rfl hl.1 rfl (lv_room (Nat.le_of_ble_eq_true rfl)) dL_law_810 ⟨by show cells + 1 + 0 + 0 ≤ 1201024; omega, by show slots + 6 + 0 + 0 ≤ 5493034; omega⟩) hS2 (fun q _ h => nA q h) (fun q h => nA q h) (fun r3 m3 t3 H3 locs3 ht3 hvm3 hw3 hB3 hz3 hk3 hS3 => ?_)
  obtain ⟨⟨e3, rfl⟩, hN3⟩ := hw3
  obtain ⟨nF1, nF2, nF3⟩ := nF
  rw [nF1] at e3
  subst e3
  have hJ3 := nC H3 m3 (fun x m9 v => (r3 = 0 → v = r2.toInt64) ∧ Rel (n + 1) x m9) (tw_back hB3 ht3) rfl hz3 hk3 ⟨nF2, nF3⟩
  rw [n2] at hl
  refine lv_iload hx hb dL_law_813 (lv_at hl 1 rfl) ?_
  refine lv_icmp_eq (tgt := 820) hx hb dL_law_815 (by decide) (fun _ => ?_) (fun c9 => absurd rfl c9)
  have hlE := lv_sub (l' := [(0, .ref b), (1, .ref (ad 0 0)), (2, .ref (ad2 0 0)), (3, .ref o), (4, .int (i32 i))]) hl [2, 3, 4, 5, 6] rfl
  refine lv_iload hx hb dL_law_820 (lv_at hl 1 rfl) ?_
  refine lv_if_ne (tgt := 837) hx hb dL_law_822 (by decide) (fun _ => ?_) (fun c8 => ?_)
  · refine lv_goto (tgt := 1832) hx hb dL_law_837 (by decide) ?_
    refine W.widen (k := cells + 13) (n := slots + 423) (by omega) (by omega) ?_
    exact kk H3 locs3 ls hlE hS3 (hJ3.imp (fun _ _ _ h => h.2))
  obtain ⟨v9, hO9, x9, mm9, hv9, -⟩ := hJ3.out
  have hv9 := hv9 c8
  refine lv_aload_n hx hb dL_law_825 rfl (lv_at hl 5 rfl) ?_
  refine lv_iconst (v := 0) hx hb dL_law_826 (by decide) ?_
  refine wr_lald hx hb hK hO9 dL_law_827 ?_
  refine lv_iload hx hb dL_law_828 (lv_at hl 0 rfl) ?_
  refine lv_i2l (v := r2.toInt64) hx hb dL_law_830 rfl ?_
  refine W.lcmp hx hb dL_law_831 ?_
  refine lv_if_eq (tgt := 837) hx hb dL_law_832 (by decide) (fun _ => ?_) (fun c9 => absurd (by rw [hv9]; exact cmp_self) c9)
  refine lv_goto (tgt := 1832) hx hb dL_law_837 (by decide) ?_
  refine W.widen (k := cells + 13) (n := slots + 423) (by omega) (by omega) ?_
  exact kk H3 locs3 ls hlE hS3 (hJ3.imp (fun _ _ _ h => h.2))
set_option maxHeartbeats 4000000 in
set_option maxRecDepth 100000 in
theorem lwc_sell (hx : p.tables.exec = Jvm.exec) (hb : c.code = cL_law) (hml : c.maxLocals = 7) (hown : s.vm.findClass RL = some m.cls) (hts : ∀ w ∈ wsL_law, w.before args s = true) (hlt : l.stackTraces = false) (hK : va_K (dC, dI) clW (tyW ac) s) (hZ : ZX sa (fun q => s.heap.size ≤ q) s s.heap) (hZL : ZL s) (hX : va_X b L xs s s.heap) (hbl : b < s.heap.size) (hL : L ≤ 3072) (hl : lv_has ls 7 [(0, .ref b), (1, .ref a1), (2, .ref a2), (3, .ref o), (4, .int (i32 i))]) (hS : va_S (fun q => s.heap.size ≤ q) s.heap H locs) (hi : i + 6 ≤ L) (hn : n < 1000) (hJ : JG dC dI ac sa s.heap.size o a1 a2 (fun x mm _ => Rel n x mm) H) (hc : cells + 13 ≤ 1201024 ∧ slots + 423 ≤ 5493034)
    (kk : ∀ (H1 : Heap) (locs1 : List Loc) (ls1 : Array Slot), lv_has ls1 7 [(0, .ref b), (1, .ref a1), (2, .ref a2), (3, .ref o), (4, .int (i32 i))] → va_S (fun q => s.heap.size ≤ q) s.heap H1 locs1 → JG dC dI ac sa s.heap.size o a1 a2 (fun x mm _ => Rel (n + 1) x mm) H1 → W p l e room_1 s m args below meth c H1 locs1 (cells + 13) (slots + 423) Z (F0 m 1832 ls1 [])) :
    W p l e room_1 s m args below meth c H locs cells slots Z (F0 m 840 ls []) := by
  refine lv_aload_n hx hb dL_law_840 rfl (lv_at hl 1 rfl) ?_
  refine lv_aload_n hx hb dL_law_841 rfl (lv_at hl 0 rfl) ?_
  refine lv_iload hx hb dL_law_842 (lv_at hl 4 rfl) ?_
  refine lv_iconst (v := 1) hx hb dL_law_844 (by decide) ?_
  refine lv_iadd hx hb dL_law_845 ?_
  refine lw_sld hx hb hX hbl hL hS (i := i) (j := 1) rfl (by omega) dL_law_846 ?_
  refine lv_aload_n hx hb dL_law_847 rfl (lv_at hl 3 rfl) ?_
  obtain ⟨A, ad, x, mm, v, jB, jP, jA, jo, rfl, j3, jsa, j8, hR, jO, joA, jC⟩ := hJ.openX hS hK hZ hZL
  refine vx_calli (vx_runSX (hh := [(0, 9, 12, 34)]) (As := [.ref (ad 0 0), .int (xs (i + 1)), .ref o]) (rest := []) ⟨hx, hb, hml, hown, hts⟩ (mL_sell l hlt dC dI ac sa A ad o x 0 (xs (i + 1)) v _ (op_sell n x mm (xs (i + 1)) v hR) j3) (vx_cwSW 3 hts gL_law_L_sell rfl rfl rfl (by decide +kernel) ⟨Nat.le_of_ble_eq_true rfl, Nat.le_of_ble_eq_true rfl⟩) ⟨BW.blind, fun U hU hW => ⟨rfl, jB U hU hW⟩⟩ rfl rfl hl.1 rfl (lv_room (Nat.le_of_ble_eq_true rfl)) dL_law_848 ⟨by show cells + 1 ≤ 1201024; omega, by show slots + 6 ≤ 5493034; omega⟩) hS (fun q _ h => h.elim (jA q) (fun h => by rw [h]; exact jo)) (fun q h => h.elim (jA q) (fun h => by rw [h]; exact jo)) (fun q _ h => h.elim) (fun E9 ce9 q9 u9 t9 H9 locs9 ht9 hvm9 hpx => hpx.elim) (fun r1 u1 t H1 locs1 ht hvm hw hB hz hk hS1 => ?_)
  obtain ⟨x1, ad1, v1⟩ := u1
  obtain ⟨hQ, hle⟩ := hw
  obtain ⟨hP1, hO1⟩ := hB
  have hJ1 := jC H1 ad1 x1 v1 (fun x mm v => F_X10_sell mm 0 (xs (i + 1)) (fun rr m9 => gI m9 0 0 0 = r1 ∧ (r1 = 0 → v = rr.toInt64) ∧ Rel (n + 1) x m9)) (tw_back hP1 ht) (by rw [← ht]; exact hO1) hle hz hk hQ
  refine lv_istore (lv' := [(5, .int r1), (0, .ref b), (1, .ref (ad 0 0)), (2, .ref a2), (3, .ref o), (4, .int (i32 i))]) hx hb dL_law_851 hl (by decide) rfl (fun ls hl => ?_)
  refine lv_aload_n hx hb dL_law_853 rfl (lv_at hl 3 rfl) ?_
  refine lv_aload_n hx hb dL_law_854 rfl (lv_at hl 1 rfl) ?_
  refine lv_iload hx hb dL_law_855 (lv_at hl 5 rfl) ?_
  refine lv_iconst (v := 1) hx hb dL_law_857 (by decide) ?_
  refine lv_iadd hx hb dL_law_858 ?_
  refine lw_sld hx hb hX hbl hL hS1 (i := i) (j := 1) rfl (by omega) dL_law_859 ?_
  obtain ⟨A2, ad2, x2, mm2, v2, kB, kP, kA, rfl, k4, kF, kC⟩ := hJ1.openM hS1 hK
  refine va_calli (va_runV (As := [.int (xs (i + 1))]) (rest := []) ⟨hx, hb, hml, hown, hts⟩ (mX10_sell l dC dI ac sa A2 ad2 mm2 0 (xs (i + 1)) _ kF k4) (cwV 1 hts gL_law_X10_sell rfl rfl rfl (by decide +kernel) ⟨Nat.le_of_ble_eq_true rfl, Nat.le_of_ble_eq_true rfl⟩) ⟨BM.blind, tw_recv hK kP (by decide) k4 rfl rfl, fun U hU hW => ⟨rfl, kB U hU hW⟩⟩ rfl rfl hl.1 rfl (lv_room (Nat.le_of_ble_eq_true rfl)) dL_law_860 ⟨by show cells + 1 + 0 ≤ 1201024; omega, by show slots + 6 + 0 ≤ 5493034; omega⟩) hS1 (fun q _ h => kA q h) (fun q h => kA q h) (fun r2 m2 t2 H2 locs2 ht2 hvm2 hw2 hB2 hz2 hk2 hS2 => ?_)
  have hJ2 := kC H2 m2 (fun x m9 v => gI m9 0 0 0 = r1 ∧ (r1 = 0 → v = r2.toInt64) ∧ Rel (n + 1) x m9) (tw_back hB2 ht2) hw2.2 hz2 hk2 hw2.1
  refine lv_istore (lv' := [(6, .int r2), (5, .int r1), (0, .ref b), (1, .ref (ad 0 0)), (2, .ref (ad2 0 0)), (3, .ref o), (4, .int (i32 i))]) hx hb dL_law_863 hl (by decide) rfl (fun ls hl => ?_)
  refine lv_aload_n hx hb dL_law_865 rfl (lv_at hl 4 rfl) ?_
  obtain ⟨A3, ad3, x3, mm3, v3, nB, nP, nA, n2, n4, nF, nC⟩ := hJ2.openM hS2 hK
  rw [← n2] at hl ⊢
  refine va_calli (va_runV (As := []) (rest := []) ⟨hx, hb, hml, hown, hts⟩ (mX10_thrown l dC dI ac sa A3 ad3 mm3 0 (fun r u => r = gI mm3 0 0 0 ∧ u = mm3) ⟨rfl, rfl⟩ n4) (cwV 0 hts gL_law_X10_thrown rfl rfl rfl (by decide +kernel) ⟨Nat.le_of_ble_eq_true rfl, Nat.le_of_ble_eq_true rfl⟩) ⟨BM.blind, tw_recv hK nP (by decide) n4 rfl rfl, fun U hU hW => ⟨rfl, nB U hU hW⟩⟩ rfl rfl hl.1 rfl (lv_room (Nat.le_of_ble_eq_true rfl)) dL_law_866 ⟨by show cells + 1 + 0 + 0 ≤ 1201024; omega, by show slots + 6 + 0 + 0 ≤ 5493034; omega⟩) hS2 (fun q _ h => nA q h) (fun q h => nA q h) (fun r3 m3 t3 H3 locs3 ht3 hvm3 hw3 hB3 hz3 hk3 hS3 => ?_)
  obtain ⟨⟨e3, rfl⟩, hN3⟩ := hw3
  obtain ⟨nF1, nF2, nF3⟩ := nF
  rw [nF1] at e3
  subst e3
  have hJ3 := nC H3 m3 (fun x m9 v => (r3 = 0 → v = r2.toInt64) ∧ Rel (n + 1) x m9) (tw_back hB3 ht3) rfl hz3 hk3 ⟨nF2, nF3⟩
  rw [n2] at hl
  refine lv_iload hx hb dL_law_869 (lv_at hl 1 rfl) ?_
  refine lv_icmp_eq (tgt := 876) hx hb dL_law_871 (by decide) (fun _ => ?_) (fun c9 => absurd rfl c9)
  have hlE := lv_sub (l' := [(0, .ref b), (1, .ref (ad 0 0)), (2, .ref (ad2 0 0)), (3, .ref o), (4, .int (i32 i))]) hl [2, 3, 4, 5, 6] rfl
  refine lv_iload hx hb dL_law_876 (lv_at hl 1 rfl) ?_
  refine lv_if_ne (tgt := 893) hx hb dL_law_878 (by decide) (fun _ => ?_) (fun c8 => ?_)
  · refine lv_goto (tgt := 1832) hx hb dL_law_893 (by decide) ?_
    refine W.widen (k := cells + 13) (n := slots + 423) (by omega) (by omega) ?_
    exact kk H3 locs3 ls hlE hS3 (hJ3.imp (fun _ _ _ h => h.2))
  obtain ⟨v9, hO9, x9, mm9, hv9, -⟩ := hJ3.out
  have hv9 := hv9 c8
  refine lv_aload_n hx hb dL_law_881 rfl (lv_at hl 5 rfl) ?_
  refine lv_iconst (v := 0) hx hb dL_law_882 (by decide) ?_
  refine wr_lald hx hb hK hO9 dL_law_883 ?_
  refine lv_iload hx hb dL_law_884 (lv_at hl 0 rfl) ?_
  refine lv_i2l (v := r2.toInt64) hx hb dL_law_886 rfl ?_
  refine W.lcmp hx hb dL_law_887 ?_
  refine lv_if_eq (tgt := 893) hx hb dL_law_888 (by decide) (fun _ => ?_) (fun c9 => absurd (by rw [hv9]; exact cmp_self) c9)
  refine lv_goto (tgt := 1832) hx hb dL_law_893 (by decide) ?_
  refine W.widen (k := cells + 13) (n := slots + 423) (by omega) (by omega) ?_
  exact kk H3 locs3 ls hlE hS3 (hJ3.imp (fun _ _ _ h => h.2))
set_option maxHeartbeats 4000000 in
set_option maxRecDepth 100000 in
theorem lwc_broken (hx : p.tables.exec = Jvm.exec) (hb : c.code = cL_law) (hml : c.maxLocals = 7) (hown : s.vm.findClass RL = some m.cls) (hts : ∀ w ∈ wsL_law, w.before args s = true) (hlt : l.stackTraces = false) (hK : va_K (dC, dI) clW (tyW ac) s) (hZ : ZX sa (fun q => s.heap.size ≤ q) s s.heap) (hZL : ZL s) (hX : va_X b L xs s s.heap) (hbl : b < s.heap.size) (hL : L ≤ 3072) (hl : lv_has ls 7 [(0, .ref b), (1, .ref a1), (2, .ref a2), (3, .ref o), (4, .int (i32 i))]) (hS : va_S (fun q => s.heap.size ≤ q) s.heap H locs) (hi : i + 6 ≤ L) (hn : n < 1000) (hJ : JG dC dI ac sa s.heap.size o a1 a2 (fun x mm _ => Rel n x mm) H) (hc : cells + 13 ≤ 1201024 ∧ slots + 423 ≤ 5493034)
    (kk : ∀ (H1 : Heap) (locs1 : List Loc) (ls1 : Array Slot), lv_has ls1 7 [(0, .ref b), (1, .ref a1), (2, .ref a2), (3, .ref o), (4, .int (i32 i))] → va_S (fun q => s.heap.size ≤ q) s.heap H1 locs1 → JG dC dI ac sa s.heap.size o a1 a2 (fun x mm _ => Rel (n + 1) x mm) H1 → W p l e room_1 s m args below meth c H1 locs1 (cells + 13) (slots + 423) Z (F0 m 1832 ls1 [])) :
    W p l e room_1 s m args below meth c H locs cells slots Z (F0 m 896 ls []) := by
  refine lv_aload_n hx hb dL_law_896 rfl (lv_at hl 1 rfl) ?_
  refine lv_aload_n hx hb dL_law_897 rfl (lv_at hl 0 rfl) ?_
  refine lv_iload hx hb dL_law_898 (lv_at hl 4 rfl) ?_
  refine lv_iconst (v := 1) hx hb dL_law_900 (by decide) ?_
  refine lv_iadd hx hb dL_law_901 ?_
  refine lw_sld hx hb hX hbl hL hS (i := i) (j := 1) rfl (by omega) dL_law_902 ?_
  refine lv_aload_n hx hb dL_law_903 rfl (lv_at hl 3 rfl) ?_
  obtain ⟨A, ad, x, mm, v, jB, jP, jA, jo, rfl, j3, jsa, j8, hR, jO, joA, jC⟩ := hJ.openX hS hK hZ hZL
  refine vx_calli (vx_runSX (hh := [(0, 9, 12, 34)]) (As := [.ref (ad 0 0), .int (xs (i + 1)), .ref o]) (rest := []) ⟨hx, hb, hml, hown, hts⟩ (mL_broken l hlt dC dI ac sa A ad o x 0 (xs (i + 1)) v _ (op_broken n x mm (xs (i + 1)) v hR) j3) (vx_cwSW 3 hts gL_law_L_broken rfl rfl rfl (by decide +kernel) ⟨Nat.le_of_ble_eq_true rfl, Nat.le_of_ble_eq_true rfl⟩) ⟨BW.blind, fun U hU hW => ⟨rfl, jB U hU hW⟩⟩ rfl rfl hl.1 rfl (lv_room (Nat.le_of_ble_eq_true rfl)) dL_law_904 ⟨by show cells + 1 ≤ 1201024; omega, by show slots + 6 ≤ 5493034; omega⟩) hS (fun q _ h => h.elim (jA q) (fun h => by rw [h]; exact jo)) (fun q h => h.elim (jA q) (fun h => by rw [h]; exact jo)) (fun q _ h => h.elim) (fun E9 ce9 q9 u9 t9 H9 locs9 ht9 hvm9 hpx => hpx.elim) (fun r1 u1 t H1 locs1 ht hvm hw hB hz hk hS1 => ?_)
  obtain ⟨x1, ad1, v1⟩ := u1
  obtain ⟨hQ, hle⟩ := hw
  obtain ⟨hP1, hO1⟩ := hB
  have hJ1 := jC H1 ad1 x1 v1 (fun x mm v => F_X10_broken mm 0 (xs (i + 1)) (fun rr m9 => gI m9 0 0 0 = r1 ∧ (r1 = 0 → v = rr.toInt64) ∧ Rel (n + 1) x m9)) (tw_back hP1 ht) (by rw [← ht]; exact hO1) hle hz hk hQ
  refine lv_istore (lv' := [(5, .int r1), (0, .ref b), (1, .ref (ad 0 0)), (2, .ref a2), (3, .ref o), (4, .int (i32 i))]) hx hb dL_law_907 hl (by decide) rfl (fun ls hl => ?_)
  refine lv_aload_n hx hb dL_law_909 rfl (lv_at hl 3 rfl) ?_
  refine lv_aload_n hx hb dL_law_910 rfl (lv_at hl 1 rfl) ?_
  refine lv_iload hx hb dL_law_911 (lv_at hl 5 rfl) ?_
  refine lv_iconst (v := 1) hx hb dL_law_913 (by decide) ?_
  refine lv_iadd hx hb dL_law_914 ?_
  refine lw_sld hx hb hX hbl hL hS1 (i := i) (j := 1) rfl (by omega) dL_law_915 ?_
  obtain ⟨A2, ad2, x2, mm2, v2, kB, kP, kA, rfl, k4, kF, kC⟩ := hJ1.openM hS1 hK
  refine va_calli (va_runV (As := [.int (xs (i + 1))]) (rest := []) ⟨hx, hb, hml, hown, hts⟩ (mX10_broken l dC dI ac sa A2 ad2 mm2 0 (xs (i + 1)) _ kF k4) (cwV 1 hts gL_law_X10_broken rfl rfl rfl (by decide +kernel) ⟨Nat.le_of_ble_eq_true rfl, Nat.le_of_ble_eq_true rfl⟩) ⟨BM.blind, tw_recv hK kP (by decide) k4 rfl rfl, fun U hU hW => ⟨rfl, kB U hU hW⟩⟩ rfl rfl hl.1 rfl (lv_room (Nat.le_of_ble_eq_true rfl)) dL_law_916 ⟨by show cells + 1 + 0 ≤ 1201024; omega, by show slots + 6 + 0 ≤ 5493034; omega⟩) hS1 (fun q _ h => kA q h) (fun q h => kA q h) (fun r2 m2 t2 H2 locs2 ht2 hvm2 hw2 hB2 hz2 hk2 hS2 => ?_)
  have hJ2 := kC H2 m2 (fun x m9 v => gI m9 0 0 0 = r1 ∧ (r1 = 0 → v = r2.toInt64) ∧ Rel (n + 1) x m9) (tw_back hB2 ht2) hw2.2 hz2 hk2 hw2.1
  refine lv_istore (lv' := [(6, .int r2), (5, .int r1), (0, .ref b), (1, .ref (ad 0 0)), (2, .ref (ad2 0 0)), (3, .ref o), (4, .int (i32 i))]) hx hb dL_law_919 hl (by decide) rfl (fun ls hl => ?_)
  refine lv_aload_n hx hb dL_law_921 rfl (lv_at hl 4 rfl) ?_
  obtain ⟨A3, ad3, x3, mm3, v3, nB, nP, nA, n2, n4, nF, nC⟩ := hJ2.openM hS2 hK
  rw [← n2] at hl ⊢
  refine va_calli (va_runV (As := []) (rest := []) ⟨hx, hb, hml, hown, hts⟩ (mX10_thrown l dC dI ac sa A3 ad3 mm3 0 (fun r u => r = gI mm3 0 0 0 ∧ u = mm3) ⟨rfl, rfl⟩ n4) (cwV 0 hts gL_law_X10_thrown rfl rfl rfl (by decide +kernel) ⟨Nat.le_of_ble_eq_true rfl, Nat.le_of_ble_eq_true rfl⟩) ⟨BM.blind, tw_recv hK nP (by decide) n4 rfl rfl, fun U hU hW => ⟨rfl, nB U hU hW⟩⟩ rfl rfl hl.1 rfl (lv_room (Nat.le_of_ble_eq_true rfl)) dL_law_922 ⟨by show cells + 1 + 0 + 0 ≤ 1201024; omega, by show slots + 6 + 0 + 0 ≤ 5493034; omega⟩) hS2 (fun q _ h => nA q h) (fun q h => nA q h) (fun r3 m3 t3 H3 locs3 ht3 hvm3 hw3 hB3 hz3 hk3 hS3 => ?_)
  obtain ⟨⟨e3, rfl⟩, hN3⟩ := hw3
  obtain ⟨nF1, nF2, nF3⟩ := nF
  rw [nF1] at e3
  subst e3
  have hJ3 := nC H3 m3 (fun x m9 v => (r3 = 0 → v = r2.toInt64) ∧ Rel (n + 1) x m9) (tw_back hB3 ht3) rfl hz3 hk3 ⟨nF2, nF3⟩
  rw [n2] at hl
  refine lv_iload hx hb dL_law_925 (lv_at hl 1 rfl) ?_
  refine lv_icmp_eq (tgt := 932) hx hb dL_law_927 (by decide) (fun _ => ?_) (fun c9 => absurd rfl c9)
  have hlE := lv_sub (l' := [(0, .ref b), (1, .ref (ad 0 0)), (2, .ref (ad2 0 0)), (3, .ref o), (4, .int (i32 i))]) hl [2, 3, 4, 5, 6] rfl
  refine lv_iload hx hb dL_law_932 (lv_at hl 1 rfl) ?_
  refine lv_if_ne (tgt := 949) hx hb dL_law_934 (by decide) (fun _ => ?_) (fun c8 => ?_)
  · refine lv_goto (tgt := 1832) hx hb dL_law_949 (by decide) ?_
    refine W.widen (k := cells + 13) (n := slots + 423) (by omega) (by omega) ?_
    exact kk H3 locs3 ls hlE hS3 (hJ3.imp (fun _ _ _ h => h.2))
  obtain ⟨v9, hO9, x9, mm9, hv9, -⟩ := hJ3.out
  have hv9 := hv9 c8
  refine lv_aload_n hx hb dL_law_937 rfl (lv_at hl 5 rfl) ?_
  refine lv_iconst (v := 0) hx hb dL_law_938 (by decide) ?_
  refine wr_lald hx hb hK hO9 dL_law_939 ?_
  refine lv_iload hx hb dL_law_940 (lv_at hl 0 rfl) ?_
  refine lv_i2l (v := r2.toInt64) hx hb dL_law_942 rfl ?_
  refine W.lcmp hx hb dL_law_943 ?_
  refine lv_if_eq (tgt := 949) hx hb dL_law_944 (by decide) (fun _ => ?_) (fun c9 => absurd (by rw [hv9]; exact cmp_self) c9)
  refine lv_goto (tgt := 1832) hx hb dL_law_949 (by decide) ?_
  refine W.widen (k := cells + 13) (n := slots + 423) (by omega) (by omega) ?_
  exact kk H3 locs3 ls hlE hS3 (hJ3.imp (fun _ _ _ h => h.2))
set_option maxHeartbeats 4000000 in
set_option maxRecDepth 100000 in
theorem lwc_counted (hx : p.tables.exec = Jvm.exec) (hb : c.code = cL_law) (hml : c.maxLocals = 7) (hown : s.vm.findClass RL = some m.cls) (hts : ∀ w ∈ wsL_law, w.before args s = true) (hlt : l.stackTraces = false) (hK : va_K (dC, dI) clW (tyW ac) s) (hZ : ZX sa (fun q => s.heap.size ≤ q) s s.heap) (hZL : ZL s) (hX : va_X b L xs s s.heap) (hbl : b < s.heap.size) (hL : L ≤ 3072) (hl : lv_has ls 7 [(0, .ref b), (1, .ref a1), (2, .ref a2), (3, .ref o), (4, .int (i32 i))]) (hS : va_S (fun q => s.heap.size ≤ q) s.heap H locs) (hi : i + 6 ≤ L) (hn : n < 1000) (hJ : JG dC dI ac sa s.heap.size o a1 a2 (fun x mm _ => Rel n x mm) H) (hc : cells + 13 ≤ 1201024 ∧ slots + 423 ≤ 5493034)
    (kk : ∀ (H1 : Heap) (locs1 : List Loc) (ls1 : Array Slot), lv_has ls1 7 [(0, .ref b), (1, .ref a1), (2, .ref a2), (3, .ref o), (4, .int (i32 i))] → va_S (fun q => s.heap.size ≤ q) s.heap H1 locs1 → JG dC dI ac sa s.heap.size o a1 a2 (fun x mm _ => Rel (n + 1) x mm) H1 → W p l e room_1 s m args below meth c H1 locs1 (cells + 13) (slots + 423) Z (F0 m 1832 ls1 [])) :
    W p l e room_1 s m args below meth c H locs cells slots Z (F0 m 952 ls []) := by
  refine lv_aload_n hx hb dL_law_952 rfl (lv_at hl 1 rfl) ?_
  refine lv_aload_n hx hb dL_law_953 rfl (lv_at hl 0 rfl) ?_
  refine lv_iload hx hb dL_law_954 (lv_at hl 4 rfl) ?_
  refine lv_iconst (v := 1) hx hb dL_law_956 (by decide) ?_
  refine lv_iadd hx hb dL_law_957 ?_
  refine lw_sld hx hb hX hbl hL hS (i := i) (j := 1) rfl (by omega) dL_law_958 ?_
  refine lv_aload_n hx hb dL_law_959 rfl (lv_at hl 0 rfl) ?_
  refine lv_iload hx hb dL_law_960 (lv_at hl 4 rfl) ?_
  refine lv_iconst (v := 2) hx hb dL_law_962 (by decide) ?_
  refine lv_iadd hx hb dL_law_963 ?_
  refine lw_sld hx hb hX hbl hL hS (i := i) (j := 2) rfl (by omega) dL_law_964 ?_
  refine lv_aload_n hx hb dL_law_965 rfl (lv_at hl 3 rfl) ?_
  obtain ⟨A, ad, x, mm, v, jB, jP, jA, jo, rfl, j3, jsa, j8, hR, jO, joA, jC⟩ := hJ.openX hS hK hZ hZL
  refine vx_calli (vx_runSX (hh := [(0, 10, 13, 34), (0, 10, 17, 13)]) (As := [.ref (ad 0 0), .int (xs (i + 1)), .int (xs (i + 2)), .ref o]) (rest := []) ⟨hx, hb, hml, hown, hts⟩ (mL_counted l hlt dC dI ac sa A ad o x 0 (xs (i + 1)) (xs (i + 2)) v _ (op_counted n x mm (xs (i + 1)) (xs (i + 2)) v hR) j3) (vx_cwSW 4 hts gL_law_L_counted rfl rfl rfl (by decide +kernel) ⟨Nat.le_of_ble_eq_true rfl, Nat.le_of_ble_eq_true rfl⟩) ⟨BW.blind, fun U hU hW => ⟨rfl, jB U hU hW⟩⟩ rfl rfl hl.1 rfl (lv_room (Nat.le_of_ble_eq_true rfl)) dL_law_966 ⟨by show cells + 2 ≤ 1201024; omega, by show slots + 12 ≤ 5493034; omega⟩) hS (fun q _ h => h.elim (jA q) (fun h => by rw [h]; exact jo)) (fun q h => h.elim (jA q) (fun h => by rw [h]; exact jo)) (fun q _ h => h.elim) (fun E9 ce9 q9 u9 t9 H9 locs9 ht9 hvm9 hpx => hpx.elim) (fun r1 u1 t H1 locs1 ht hvm hw hB hz hk hS1 => ?_)
  obtain ⟨x1, ad1, v1⟩ := u1
  obtain ⟨hQ, hle⟩ := hw
  obtain ⟨hP1, hO1⟩ := hB
  have hJ1 := jC H1 ad1 x1 v1 (fun x mm v => F_X10_counted mm 0 (xs (i + 1)) (xs (i + 2)) (fun rr m9 => gI m9 0 0 0 = r1 ∧ (r1 = 0 → v = rr.toInt64) ∧ Rel (n + 1) x m9)) (tw_back hP1 ht) (by rw [← ht]; exact hO1) hle hz hk hQ
  refine lv_istore (lv' := [(5, .int r1), (0, .ref b), (1, .ref (ad 0 0)), (2, .ref a2), (3, .ref o), (4, .int (i32 i))]) hx hb dL_law_969 hl (by decide) rfl (fun ls hl => ?_)
  refine lv_aload_n hx hb dL_law_971 rfl (lv_at hl 3 rfl) ?_
  refine lv_aload_n hx hb dL_law_972 rfl (lv_at hl 1 rfl) ?_
  refine lv_iload hx hb dL_law_973 (lv_at hl 5 rfl) ?_
  refine lv_iconst (v := 1) hx hb dL_law_975 (by decide) ?_
  refine lv_iadd hx hb dL_law_976 ?_
  refine lw_sld hx hb hX hbl hL hS1 (i := i) (j := 1) rfl (by omega) dL_law_977 ?_
  refine lv_aload_n hx hb dL_law_978 rfl (lv_at hl 1 rfl) ?_
  refine lv_iload hx hb dL_law_979 (lv_at hl 5 rfl) ?_
  refine lv_iconst (v := 2) hx hb dL_law_981 (by decide) ?_
  refine lv_iadd hx hb dL_law_982 ?_
  refine lw_sld hx hb hX hbl hL hS1 (i := i) (j := 2) rfl (by omega) dL_law_983 ?_
  obtain ⟨A2, ad2, x2, mm2, v2, kB, kP, kA, rfl, k4, kF, kC⟩ := hJ1.openM hS1 hK
  refine va_calli (va_runV (As := [.int (xs (i + 1)), .int (xs (i + 2))]) (rest := []) ⟨hx, hb, hml, hown, hts⟩ (mX10_counted l dC dI ac sa A2 ad2 mm2 0 (xs (i + 1)) (xs (i + 2)) _ kF k4) (cwV 2 hts gL_law_X10_counted rfl rfl rfl (by decide +kernel) ⟨Nat.le_of_ble_eq_true rfl, Nat.le_of_ble_eq_true rfl⟩) ⟨BM.blind, tw_recv hK kP (by decide) k4 rfl rfl, fun U hU hW => ⟨rfl, kB U hU hW⟩⟩ rfl rfl hl.1 rfl (lv_room (Nat.le_of_ble_eq_true rfl)) dL_law_984 ⟨by show cells + 2 + 0 ≤ 1201024; omega, by show slots + 12 + 0 ≤ 5493034; omega⟩) hS1 (fun q _ h => kA q h) (fun q h => kA q h) (fun r2 m2 t2 H2 locs2 ht2 hvm2 hw2 hB2 hz2 hk2 hS2 => ?_)
  have hJ2 := kC H2 m2 (fun x m9 v => gI m9 0 0 0 = r1 ∧ (r1 = 0 → v = r2.toInt64) ∧ Rel (n + 1) x m9) (tw_back hB2 ht2) hw2.2 hz2 hk2 hw2.1
  refine lv_istore (lv' := [(6, .int r2), (5, .int r1), (0, .ref b), (1, .ref (ad 0 0)), (2, .ref (ad2 0 0)), (3, .ref o), (4, .int (i32 i))]) hx hb dL_law_987 hl (by decide) rfl (fun ls hl => ?_)
  refine lv_aload_n hx hb dL_law_989 rfl (lv_at hl 4 rfl) ?_
  obtain ⟨A3, ad3, x3, mm3, v3, nB, nP, nA, n2, n4, nF, nC⟩ := hJ2.openM hS2 hK
  rw [← n2] at hl ⊢
  refine va_calli (va_runV (As := []) (rest := []) ⟨hx, hb, hml, hown, hts⟩ (mX10_thrown l dC dI ac sa A3 ad3 mm3 0 (fun r u => r = gI mm3 0 0 0 ∧ u = mm3) ⟨rfl, rfl⟩ n4) (cwV 0 hts gL_law_X10_thrown rfl rfl rfl (by decide +kernel) ⟨Nat.le_of_ble_eq_true rfl, Nat.le_of_ble_eq_true rfl⟩) ⟨BM.blind, tw_recv hK nP (by decide) n4 rfl rfl, fun U hU hW => ⟨rfl, nB U hU hW⟩⟩ rfl rfl hl.1 rfl (lv_room (Nat.le_of_ble_eq_true rfl)) dL_law_990 ⟨by show cells + 2 + 0 + 0 ≤ 1201024; omega, by show slots + 12 + 0 + 0 ≤ 5493034; omega⟩) hS2 (fun q _ h => nA q h) (fun q h => nA q h) (fun r3 m3 t3 H3 locs3 ht3 hvm3 hw3 hB3 hz3 hk3 hS3 => ?_)
  obtain ⟨⟨e3, rfl⟩, hN3⟩ := hw3
  obtain ⟨nF1, nF2, nF3⟩ := nF
  rw [nF1] at e3
  subst e3
  have hJ3 := nC H3 m3 (fun x m9 v => (r3 = 0 → v = r2.toInt64) ∧ Rel (n + 1) x m9) (tw_back hB3 ht3) rfl hz3 hk3 ⟨nF2, nF3⟩
  rw [n2] at hl
  refine lv_iload hx hb dL_law_993 (lv_at hl 1 rfl) ?_
  refine lv_icmp_eq (tgt := 1000) hx hb dL_law_995 (by decide) (fun _ => ?_) (fun c9 => absurd rfl c9)
  have hlE := lv_sub (l' := [(0, .ref b), (1, .ref (ad 0 0)), (2, .ref (ad2 0 0)), (3, .ref o), (4, .int (i32 i))]) hl [2, 3, 4, 5, 6] rfl
  refine lv_iload hx hb dL_law_1000 (lv_at hl 1 rfl) ?_
  refine lv_if_ne (tgt := 1017) hx hb dL_law_1002 (by decide) (fun _ => ?_) (fun c8 => ?_)
  · refine lv_goto (tgt := 1832) hx hb dL_law_1017 (by decide) ?_
    refine W.widen (k := cells + 13) (n := slots + 423) (by omega) (by omega) ?_
    exact kk H3 locs3 ls hlE hS3 (hJ3.imp (fun _ _ _ h => h.2))
  obtain ⟨v9, hO9, x9, mm9, hv9, -⟩ := hJ3.out
  have hv9 := hv9 c8
  refine lv_aload_n hx hb dL_law_1005 rfl (lv_at hl 5 rfl) ?_
  refine lv_iconst (v := 0) hx hb dL_law_1006 (by decide) ?_
  refine wr_lald hx hb hK hO9 dL_law_1007 ?_
  refine lv_iload hx hb dL_law_1008 (lv_at hl 0 rfl) ?_
  refine lv_i2l (v := r2.toInt64) hx hb dL_law_1010 rfl ?_
  refine W.lcmp hx hb dL_law_1011 ?_
  refine lv_if_eq (tgt := 1017) hx hb dL_law_1012 (by decide) (fun _ => ?_) (fun c9 => absurd (by rw [hv9]; exact cmp_self) c9)
  refine lv_goto (tgt := 1832) hx hb dL_law_1017 (by decide) ?_
  refine W.widen (k := cells + 13) (n := slots + 423) (by omega) (by omega) ?_
  exact kk H3 locs3 ls hlE hS3 (hJ3.imp (fun _ _ _ h => h.2))
set_option maxHeartbeats 4000000 in
set_option maxRecDepth 100000 in
theorem lwc_glass (hx : p.tables.exec = Jvm.exec) (hb : c.code = cL_law) (hml : c.maxLocals = 7) (hown : s.vm.findClass RL = some m.cls) (hts : ∀ w ∈ wsL_law, w.before args s = true) (hlt : l.stackTraces = false) (hK : va_K (dC, dI) clW (tyW ac) s) (hZ : ZX sa (fun q => s.heap.size ≤ q) s s.heap) (hZL : ZL s) (hX : va_X b L xs s s.heap) (hbl : b < s.heap.size) (hL : L ≤ 3072) (hl : lv_has ls 7 [(0, .ref b), (1, .ref a1), (2, .ref a2), (3, .ref o), (4, .int (i32 i))]) (hS : va_S (fun q => s.heap.size ≤ q) s.heap H locs) (hi : i + 6 ≤ L) (hn : n < 1000) (hJ : JG dC dI ac sa s.heap.size o a1 a2 (fun x mm _ => Rel n x mm) H) (hc : cells + 13 ≤ 1201024 ∧ slots + 423 ≤ 5493034)
    (kk : ∀ (H1 : Heap) (locs1 : List Loc) (ls1 : Array Slot), lv_has ls1 7 [(0, .ref b), (1, .ref a1), (2, .ref a2), (3, .ref o), (4, .int (i32 i))] → va_S (fun q => s.heap.size ≤ q) s.heap H1 locs1 → JG dC dI ac sa s.heap.size o a1 a2 (fun x mm _ => Rel (n + 1) x mm) H1 → W p l e room_1 s m args below meth c H1 locs1 (cells + 13) (slots + 423) Z (F0 m 1832 ls1 [])) :
    W p l e room_1 s m args below meth c H locs cells slots Z (F0 m 1020 ls []) := by
  refine lv_aload_n hx hb dL_law_1020 rfl (lv_at hl 1 rfl) ?_
  refine lv_aload_n hx hb dL_law_1021 rfl (lv_at hl 0 rfl) ?_
  refine lv_iload hx hb dL_law_1022 (lv_at hl 4 rfl) ?_
  refine lv_iconst (v := 1) hx hb dL_law_1024 (by decide) ?_
  refine lv_iadd hx hb dL_law_1025 ?_
  refine lw_sld hx hb hX hbl hL hS (i := i) (j := 1) rfl (by omega) dL_law_1026 ?_
  refine lv_aload_n hx hb dL_law_1027 rfl (lv_at hl 3 rfl) ?_
  obtain ⟨A, ad, x, mm, v, jB, jP, jA, jo, rfl, j3, jsa, j8, hR, jO, joA, jC⟩ := hJ.openX hS hK hZ hZL
  refine vx_calli (vx_runSX (hh := [(0, 9, 12, 19)]) (As := [.ref (ad 0 0), .int (xs (i + 1)), .ref o]) (rest := []) ⟨hx, hb, hml, hown, hts⟩ (mL_glass l hlt dC dI ac sa A ad o x 0 (xs (i + 1)) v _ (op_glass n x mm (xs (i + 1)) v hR) j3) (vx_cwSW 3 hts gL_law_L_glass rfl rfl rfl (by decide +kernel) ⟨Nat.le_of_ble_eq_true rfl, Nat.le_of_ble_eq_true rfl⟩) ⟨BW.blind, fun U hU hW => ⟨rfl, jB U hU hW⟩⟩ rfl rfl hl.1 rfl (lv_room (Nat.le_of_ble_eq_true rfl)) dL_law_1028 ⟨by show cells + 1 ≤ 1201024; omega, by show slots + 6 ≤ 5493034; omega⟩) hS (fun q _ h => h.elim (jA q) (fun h => by rw [h]; exact jo)) (fun q h => h.elim (jA q) (fun h => by rw [h]; exact jo)) (fun q _ h => h.elim) (fun E9 ce9 q9 u9 t9 H9 locs9 ht9 hvm9 hpx => hpx.elim) (fun r1 u1 t H1 locs1 ht hvm hw hB hz hk hS1 => ?_)
  obtain ⟨x1, ad1, v1⟩ := u1
  obtain ⟨hQ, hle⟩ := hw
  obtain ⟨hP1, hO1⟩ := hB
  have hJ1 := jC H1 ad1 x1 v1 (fun x mm v => F_X10_glass mm 0 (xs (i + 1)) (fun rr m9 => gI m9 0 0 0 = r1 ∧ (r1 = 0 → v = rr.toInt64) ∧ Rel (n + 1) x m9)) (tw_back hP1 ht) (by rw [← ht]; exact hO1) hle hz hk hQ
  refine lv_istore (lv' := [(5, .int r1), (0, .ref b), (1, .ref (ad 0 0)), (2, .ref a2), (3, .ref o), (4, .int (i32 i))]) hx hb dL_law_1031 hl (by decide) rfl (fun ls hl => ?_)
  refine lv_aload_n hx hb dL_law_1033 rfl (lv_at hl 3 rfl) ?_
  refine lv_aload_n hx hb dL_law_1034 rfl (lv_at hl 1 rfl) ?_
  refine lv_iload hx hb dL_law_1035 (lv_at hl 5 rfl) ?_
  refine lv_iconst (v := 1) hx hb dL_law_1037 (by decide) ?_
  refine lv_iadd hx hb dL_law_1038 ?_
  refine lw_sld hx hb hX hbl hL hS1 (i := i) (j := 1) rfl (by omega) dL_law_1039 ?_
  obtain ⟨A2, ad2, x2, mm2, v2, kB, kP, kA, rfl, k4, kF, kC⟩ := hJ1.openM hS1 hK
  refine va_calli (va_runV (As := [.int (xs (i + 1))]) (rest := []) ⟨hx, hb, hml, hown, hts⟩ (mX10_glass l dC dI ac sa A2 ad2 mm2 0 (xs (i + 1)) _ kF k4) (cwV 1 hts gL_law_X10_glass rfl rfl rfl (by decide +kernel) ⟨Nat.le_of_ble_eq_true rfl, Nat.le_of_ble_eq_true rfl⟩) ⟨BM.blind, tw_recv hK kP (by decide) k4 rfl rfl, fun U hU hW => ⟨rfl, kB U hU hW⟩⟩ rfl rfl hl.1 rfl (lv_room (Nat.le_of_ble_eq_true rfl)) dL_law_1040 ⟨by show cells + 1 + 0 ≤ 1201024; omega, by show slots + 6 + 0 ≤ 5493034; omega⟩) hS1 (fun q _ h => kA q h) (fun q h => kA q h) (fun r2 m2 t2 H2 locs2 ht2 hvm2 hw2 hB2 hz2 hk2 hS2 => ?_)
  have hJ2 := kC H2 m2 (fun x m9 v => gI m9 0 0 0 = r1 ∧ (r1 = 0 → v = r2.toInt64) ∧ Rel (n + 1) x m9) (tw_back hB2 ht2) hw2.2 hz2 hk2 hw2.1
  refine lv_istore (lv' := [(6, .int r2), (5, .int r1), (0, .ref b), (1, .ref (ad 0 0)), (2, .ref (ad2 0 0)), (3, .ref o), (4, .int (i32 i))]) hx hb dL_law_1043 hl (by decide) rfl (fun ls hl => ?_)
  refine lv_aload_n hx hb dL_law_1045 rfl (lv_at hl 4 rfl) ?_
  obtain ⟨A3, ad3, x3, mm3, v3, nB, nP, nA, n2, n4, nF, nC⟩ := hJ2.openM hS2 hK
  rw [← n2] at hl ⊢
  refine va_calli (va_runV (As := []) (rest := []) ⟨hx, hb, hml, hown, hts⟩ (mX10_thrown l dC dI ac sa A3 ad3 mm3 0 (fun r u => r = gI mm3 0 0 0 ∧ u = mm3) ⟨rfl, rfl⟩ n4) (cwV 0 hts gL_law_X10_thrown rfl rfl rfl (by decide +kernel) ⟨Nat.le_of_ble_eq_true rfl, Nat.le_of_ble_eq_true rfl⟩) ⟨BM.blind, tw_recv hK nP (by decide) n4 rfl rfl, fun U hU hW => ⟨rfl, nB U hU hW⟩⟩ rfl rfl hl.1 rfl (lv_room (Nat.le_of_ble_eq_true rfl)) dL_law_1046 ⟨by show cells + 1 + 0 + 0 ≤ 1201024; omega, by show slots + 6 + 0 + 0 ≤ 5493034; omega⟩) hS2 (fun q _ h => nA q h) (fun q h => nA q h) (fun r3 m3 t3 H3 locs3 ht3 hvm3 hw3 hB3 hz3 hk3 hS3 => ?_)
  obtain ⟨⟨e3, rfl⟩, hN3⟩ := hw3
  obtain ⟨nF1, nF2, nF3⟩ := nF
  rw [nF1] at e3
  subst e3
  have hJ3 := nC H3 m3 (fun x m9 v => (r3 = 0 → v = r2.toInt64) ∧ Rel (n + 1) x m9) (tw_back hB3 ht3) rfl hz3 hk3 ⟨nF2, nF3⟩
  rw [n2] at hl
  refine lv_iload hx hb dL_law_1049 (lv_at hl 1 rfl) ?_
  refine lv_icmp_eq (tgt := 1056) hx hb dL_law_1051 (by decide) (fun _ => ?_) (fun c9 => absurd rfl c9)
  have hlE := lv_sub (l' := [(0, .ref b), (1, .ref (ad 0 0)), (2, .ref (ad2 0 0)), (3, .ref o), (4, .int (i32 i))]) hl [2, 3, 4, 5, 6] rfl
  refine lv_iload hx hb dL_law_1056 (lv_at hl 1 rfl) ?_
  refine lv_if_ne (tgt := 1073) hx hb dL_law_1058 (by decide) (fun _ => ?_) (fun c8 => ?_)
  · refine lv_goto (tgt := 1832) hx hb dL_law_1073 (by decide) ?_
    refine W.widen (k := cells + 13) (n := slots + 423) (by omega) (by omega) ?_
    exact kk H3 locs3 ls hlE hS3 (hJ3.imp (fun _ _ _ h => h.2))
  obtain ⟨v9, hO9, x9, mm9, hv9, -⟩ := hJ3.out
  have hv9 := hv9 c8
  refine lv_aload_n hx hb dL_law_1061 rfl (lv_at hl 5 rfl) ?_
  refine lv_iconst (v := 0) hx hb dL_law_1062 (by decide) ?_
  refine wr_lald hx hb hK hO9 dL_law_1063 ?_
  refine lv_iload hx hb dL_law_1064 (lv_at hl 0 rfl) ?_
  refine lv_i2l (v := r2.toInt64) hx hb dL_law_1066 rfl ?_
  refine W.lcmp hx hb dL_law_1067 ?_
  refine lv_if_eq (tgt := 1073) hx hb dL_law_1068 (by decide) (fun _ => ?_) (fun c9 => absurd (by rw [hv9]; exact cmp_self) c9)
  refine lv_goto (tgt := 1832) hx hb dL_law_1073 (by decide) ?_
  refine W.widen (k := cells + 13) (n := slots + 423) (by omega) (by omega) ?_
  exact kk H3 locs3 ls hlE hS3 (hJ3.imp (fun _ _ _ h => h.2))
set_option maxHeartbeats 4000000 in
set_option maxRecDepth 100000 in
theorem lwc_wait (hx : p.tables.exec = Jvm.exec) (hb : c.code = cL_law) (hml : c.maxLocals = 7) (hown : s.vm.findClass RL = some m.cls) (hts : ∀ w ∈ wsL_law, w.before args s = true) (hlt : l.stackTraces = false) (hK : va_K (dC, dI) clW (tyW ac) s) (hZ : ZX sa (fun q => s.heap.size ≤ q) s s.heap) (hZL : ZL s) (hX : va_X b L xs s s.heap) (hbl : b < s.heap.size) (hL : L ≤ 3072) (hl : lv_has ls 7 [(0, .ref b), (1, .ref a1), (2, .ref a2), (3, .ref o), (4, .int (i32 i))]) (hS : va_S (fun q => s.heap.size ≤ q) s.heap H locs) (hi : i + 6 ≤ L) (hn : n < 1000) (hJ : JG dC dI ac sa s.heap.size o a1 a2 (fun x mm _ => Rel n x mm) H) (hc : cells + 13 ≤ 1201024 ∧ slots + 423 ≤ 5493034)
    (kk : ∀ (H1 : Heap) (locs1 : List Loc) (ls1 : Array Slot), lv_has ls1 7 [(0, .ref b), (1, .ref a1), (2, .ref a2), (3, .ref o), (4, .int (i32 i))] → va_S (fun q => s.heap.size ≤ q) s.heap H1 locs1 → JG dC dI ac sa s.heap.size o a1 a2 (fun x mm _ => Rel (n + 1) x mm) H1 → W p l e room_1 s m args below meth c H1 locs1 (cells + 13) (slots + 423) Z (F0 m 1832 ls1 [])) :
    W p l e room_1 s m args below meth c H locs cells slots Z (F0 m 1076 ls []) := by
  refine lv_aload_n hx hb dL_law_1076 rfl (lv_at hl 1 rfl) ?_
  refine lv_aload_n hx hb dL_law_1077 rfl (lv_at hl 0 rfl) ?_
  refine lv_iload hx hb dL_law_1078 (lv_at hl 4 rfl) ?_
  refine lv_iconst (v := 1) hx hb dL_law_1080 (by decide) ?_
  refine lv_iadd hx hb dL_law_1081 ?_
  refine lw_sld hx hb hX hbl hL hS (i := i) (j := 1) rfl (by omega) dL_law_1082 ?_
  refine lv_aload_n hx hb dL_law_1083 rfl (lv_at hl 3 rfl) ?_
  obtain ⟨A, ad, x, mm, v, jB, jP, jA, jo, rfl, j3, jsa, j8, hR, jO, joA, jC⟩ := hJ.openX hS hK hZ hZL
  refine vx_calli (vx_runSX (hh := [(0, 9, 12, 13), (0, 9, 15, 61)]) (As := [.ref (ad 0 0), .int (xs (i + 1)), .ref o]) (rest := []) ⟨hx, hb, hml, hown, hts⟩ (mL_wait l hlt dC dI ac sa A ad o x 0 (xs (i + 1)) v _ (op_wait n x mm (xs (i + 1)) v hR) j3) (vx_cwSW 3 hts gL_law_L_wait rfl rfl rfl (by decide +kernel) ⟨Nat.le_of_ble_eq_true rfl, Nat.le_of_ble_eq_true rfl⟩) ⟨BW.blind, fun U hU hW => ⟨rfl, jB U hU hW⟩⟩ rfl rfl hl.1 rfl (lv_room (Nat.le_of_ble_eq_true rfl)) dL_law_1084 ⟨by show cells + 1 ≤ 1201024; omega, by show slots + 6 ≤ 5493034; omega⟩) hS (fun q _ h => h.elim (jA q) (fun h => by rw [h]; exact jo)) (fun q h => h.elim (jA q) (fun h => by rw [h]; exact jo)) (fun q _ h => h.elim) (fun E9 ce9 q9 u9 t9 H9 locs9 ht9 hvm9 hpx => hpx.elim) (fun r1 u1 t H1 locs1 ht hvm hw hB hz hk hS1 => ?_)
  obtain ⟨x1, ad1, v1⟩ := u1
  obtain ⟨hQ, hle⟩ := hw
  obtain ⟨hP1, hO1⟩ := hB
  have hJ1 := jC H1 ad1 x1 v1 (fun x mm v => F_X10_wait mm 0 (xs (i + 1)) (fun rr m9 => gI m9 0 0 0 = r1 ∧ (r1 = 0 → v = rr.toInt64) ∧ Rel (n + 1) x m9)) (tw_back hP1 ht) (by rw [← ht]; exact hO1) hle hz hk hQ
  refine lv_istore (lv' := [(5, .int r1), (0, .ref b), (1, .ref (ad 0 0)), (2, .ref a2), (3, .ref o), (4, .int (i32 i))]) hx hb dL_law_1087 hl (by decide) rfl (fun ls hl => ?_)
  refine lv_aload_n hx hb dL_law_1089 rfl (lv_at hl 3 rfl) ?_
  refine lv_aload_n hx hb dL_law_1090 rfl (lv_at hl 1 rfl) ?_
  refine lv_iload hx hb dL_law_1091 (lv_at hl 5 rfl) ?_
  refine lv_iconst (v := 1) hx hb dL_law_1093 (by decide) ?_
  refine lv_iadd hx hb dL_law_1094 ?_
  refine lw_sld hx hb hX hbl hL hS1 (i := i) (j := 1) rfl (by omega) dL_law_1095 ?_
  obtain ⟨A2, ad2, x2, mm2, v2, kB, kP, kA, rfl, k4, kF, kC⟩ := hJ1.openM hS1 hK
  refine va_calli (va_runV (As := [.int (xs (i + 1))]) (rest := []) ⟨hx, hb, hml, hown, hts⟩ (mX10_wait l dC dI ac sa A2 ad2 mm2 0 (xs (i + 1)) _ kF k4) (cwV 1 hts gL_law_X10_wait rfl rfl rfl (by decide +kernel) ⟨Nat.le_of_ble_eq_true rfl, Nat.le_of_ble_eq_true rfl⟩) ⟨BM.blind, tw_recv hK kP (by decide) k4 rfl rfl, fun U hU hW => ⟨rfl, kB U hU hW⟩⟩ rfl rfl hl.1 rfl (lv_room (Nat.le_of_ble_eq_true rfl)) dL_law_1096 ⟨by show cells + 1 + 0 ≤ 1201024; omega, by show slots + 6 + 0 ≤ 5493034; omega⟩) hS1 (fun q _ h => kA q h) (fun q h => kA q h) (fun r2 m2 t2 H2 locs2 ht2 hvm2 hw2 hB2 hz2 hk2 hS2 => ?_)
  have hJ2 := kC H2 m2 (fun x m9 v => gI m9 0 0 0 = r1 ∧ (r1 = 0 → v = r2.toInt64) ∧ Rel (n + 1) x m9) (tw_back hB2 ht2) hw2.2 hz2 hk2 hw2.1
  refine lv_istore (lv' := [(6, .int r2), (5, .int r1), (0, .ref b), (1, .ref (ad 0 0)), (2, .ref (ad2 0 0)), (3, .ref o), (4, .int (i32 i))]) hx hb dL_law_1099 hl (by decide) rfl (fun ls hl => ?_)
  refine lv_aload_n hx hb dL_law_1101 rfl (lv_at hl 4 rfl) ?_
  obtain ⟨A3, ad3, x3, mm3, v3, nB, nP, nA, n2, n4, nF, nC⟩ := hJ2.openM hS2 hK
  rw [← n2] at hl ⊢
  refine va_calli (va_runV (As := []) (rest := []) ⟨hx, hb, hml, hown, hts⟩ (mX10_thrown l dC dI ac sa A3 ad3 mm3 0 (fun r u => r = gI mm3 0 0 0 ∧ u = mm3) ⟨rfl, rfl⟩ n4) (cwV 0 hts gL_law_X10_thrown rfl rfl rfl (by decide +kernel) ⟨Nat.le_of_ble_eq_true rfl, Nat.le_of_ble_eq_true rfl⟩) ⟨BM.blind, tw_recv hK nP (by decide) n4 rfl rfl, fun U hU hW => ⟨rfl, nB U hU hW⟩⟩ rfl rfl hl.1 rfl (lv_room (Nat.le_of_ble_eq_true rfl)) dL_law_1102 ⟨by show cells + 1 + 0 + 0 ≤ 1201024; omega, by show slots + 6 + 0 + 0 ≤ 5493034; omega⟩) hS2 (fun q _ h => nA q h) (fun q h => nA q h) (fun r3 m3 t3 H3 locs3 ht3 hvm3 hw3 hB3 hz3 hk3 hS3 => ?_)
  obtain ⟨⟨e3, rfl⟩, hN3⟩ := hw3
  obtain ⟨nF1, nF2, nF3⟩ := nF
  rw [nF1] at e3
  subst e3
  have hJ3 := nC H3 m3 (fun x m9 v => (r3 = 0 → v = r2.toInt64) ∧ Rel (n + 1) x m9) (tw_back hB3 ht3) rfl hz3 hk3 ⟨nF2, nF3⟩
  rw [n2] at hl
  refine lv_iload hx hb dL_law_1105 (lv_at hl 1 rfl) ?_
  refine lv_icmp_eq (tgt := 1112) hx hb dL_law_1107 (by decide) (fun _ => ?_) (fun c9 => absurd rfl c9)
  have hlE := lv_sub (l' := [(0, .ref b), (1, .ref (ad 0 0)), (2, .ref (ad2 0 0)), (3, .ref o), (4, .int (i32 i))]) hl [2, 3, 4, 5, 6] rfl
  refine lv_iload hx hb dL_law_1112 (lv_at hl 1 rfl) ?_
  refine lv_if_ne (tgt := 1129) hx hb dL_law_1114 (by decide) (fun _ => ?_) (fun c8 => ?_)
  · refine lv_goto (tgt := 1832) hx hb dL_law_1129 (by decide) ?_
    refine W.widen (k := cells + 13) (n := slots + 423) (by omega) (by omega) ?_
    exact kk H3 locs3 ls hlE hS3 (hJ3.imp (fun _ _ _ h => h.2))
  obtain ⟨v9, hO9, x9, mm9, hv9, -⟩ := hJ3.out
  have hv9 := hv9 c8
  refine lv_aload_n hx hb dL_law_1117 rfl (lv_at hl 5 rfl) ?_
  refine lv_iconst (v := 0) hx hb dL_law_1118 (by decide) ?_
  refine wr_lald hx hb hK hO9 dL_law_1119 ?_
  refine lv_iload hx hb dL_law_1120 (lv_at hl 0 rfl) ?_
  refine lv_i2l (v := r2.toInt64) hx hb dL_law_1122 rfl ?_
  refine W.lcmp hx hb dL_law_1123 ?_
  refine lv_if_eq (tgt := 1129) hx hb dL_law_1124 (by decide) (fun _ => ?_) (fun c9 => absurd (by rw [hv9]; exact cmp_self) c9)
  refine lv_goto (tgt := 1832) hx hb dL_law_1129 (by decide) ?_
  refine W.widen (k := cells + 13) (n := slots + 423) (by omega) (by omega) ?_
  exact kk H3 locs3 ls hlE hS3 (hJ3.imp (fun _ _ _ h => h.2))
end LWC
