section LWC
variable {p : Program} {l : Launch} {e : Env} {s : State} {m : MethodId} {args : Array Value} {below : List Frame} {meth : Method} {c : Code} {H : Heap} {locs : List Loc} {cells slots : Nat} {Z : State → Prop}
variable {ls : Array Slot} {dC : Nat → ClassId} {dI : Nat → Nat → Nat} {ac : Nat → ClassId} {sa : Nat → Nat} {b L i n o a1 a2 : Nat} {xs : Nat → Int32}
set_option maxHeartbeats 4000000 in
set_option maxRecDepth 100000 in
theorem lwc_feed (hx : p.tables.exec = Jvm.exec) (hb : c.code = cL_law) (hml : c.maxLocals = 7) (hown : s.vm.findClass RL = some m.cls) (hts : ∀ w ∈ wsL_law, w.before args s = true) (hlt : l.stackTraces = false) (hK : va_K (dC, dI) clW (tyW ac) s) (hZ : ZX sa (fun q => s.heap.size ≤ q) s s.heap) (hZL : ZL s) (hX : va_X b L xs s s.heap) (hbl : b < s.heap.size) (hL : L ≤ 3072) (hl : lv_has ls 7 [(0, .ref b), (1, .ref a1), (2, .ref a2), (3, .ref o), (4, .int (i32 i))]) (hS : va_S (fun q => s.heap.size ≤ q) s.heap H locs) (hi : i + 6 ≤ L) (hn : n < 1000) (hJ : JG dC dI ac sa s.heap.size o a1 a2 (fun x mm _ => Rel n x mm) H) (hc : cells + 13 ≤ 1201024 ∧ slots + 423 ≤ 5493034)
    (kk : ∀ (H1 : Heap) (locs1 : List Loc) (ls1 : Array Slot), lv_has ls1 7 [(0, .ref b), (1, .ref a1), (2, .ref a2), (3, .ref o), (4, .int (i32 i))] → va_S (fun q => s.heap.size ≤ q) s.heap H1 locs1 → JG dC dI ac sa s.heap.size o a1 a2 (fun x mm _ => Rel (n + 1) x mm) H1 → W p l e room_1 s m args below meth c H1 locs1 (cells + 13) (slots + 423) Z (F0 m 1832 ls1 [])) :
    W p l e room_1 s m args below meth c H locs cells slots Z (F0 m 1132 ls []) := by
  refine lv_aload_n hx hb dL_law_1132 rfl (lv_at hl 1 rfl) ?_
  refine lv_aload_n hx hb dL_law_1133 rfl (lv_at hl 0 rfl) ?_
  refine lv_iload hx hb dL_law_1134 (lv_at hl 4 rfl) ?_
  refine lv_iconst (v := 1) hx hb dL_law_1136 (by decide) ?_
  refine lv_iadd hx hb dL_law_1137 ?_
  refine lw_sld hx hb hX hbl hL hS (i := i) (j := 1) rfl (by omega) dL_law_1138 ?_
  refine lv_aload_n hx hb dL_law_1139 rfl (lv_at hl 0 rfl) ?_
  refine lv_iload hx hb dL_law_1140 (lv_at hl 4 rfl) ?_
  refine lv_iconst (v := 2) hx hb dL_law_1142 (by decide) ?_
  refine lv_iadd hx hb dL_law_1143 ?_
  refine lw_sld hx hb hX hbl hL hS (i := i) (j := 2) rfl (by omega) dL_law_1144 ?_
  refine lv_aload_n hx hb dL_law_1145 rfl (lv_at hl 0 rfl) ?_
  refine lv_iload hx hb dL_law_1146 (lv_at hl 4 rfl) ?_
  refine lv_iconst (v := 3) hx hb dL_law_1148 (by decide) ?_
  refine lv_iadd hx hb dL_law_1149 ?_
  refine lw_sld hx hb hX hbl hL hS (i := i) (j := 3) rfl (by omega) dL_law_1150 ?_
  refine lv_aload_n hx hb dL_law_1151 rfl (lv_at hl 0 rfl) ?_
  refine lv_iload hx hb dL_law_1152 (lv_at hl 4 rfl) ?_
  refine lv_iconst (v := 4) hx hb dL_law_1154 (by decide) ?_
  refine lv_iadd hx hb dL_law_1155 ?_
  refine lw_sld hx hb hX hbl hL hS (i := i) (j := 4) rfl (by omega) dL_law_1156 ?_
  refine lv_aload_n hx hb dL_law_1157 rfl (lv_at hl 0 rfl) ?_
  refine lv_iload hx hb dL_law_1158 (lv_at hl 4 rfl) ?_
  refine lv_iconst (v := 5) hx hb dL_law_1160 (by decide) ?_
  refine lv_iadd hx hb dL_law_1161 ?_
  refine lw_sld hx hb hX hbl hL hS (i := i) (j := 5) rfl (by omega) dL_law_1162 ?_
  obtain ⟨A, ad, x, mm, v, jB, jP, jA, jo, rfl, j3, jsa, j8, hR, jO, joA, jC⟩ := hJ.openX hS hK hZ hZL
  refine va_calli (va_runV (As := [.int (xs (i + 1)), .int (xs (i + 2)), .int (xs (i + 3)), .int (xs (i + 4)), .int (xs (i + 5))]) (rest := []) ⟨hx, hb, hml, hown, hts⟩ (mX9_feed l dC dI ac sa A ad x 0 (xs (i + 1)) (xs (i + 2)) (xs (i + 3)) (xs (i + 4)) (xs (i + 5)) _ (op_feed n x mm (xs (i + 1)) (xs (i + 2)) (xs (i + 3)) (xs (i + 4)) (xs (i + 5)) hR) j3) (cwV 5 hts gL_law_X9_feed rfl rfl rfl (by decide +kernel) ⟨Nat.le_of_ble_eq_true rfl, Nat.le_of_ble_eq_true rfl⟩) ⟨BX.blind, tw_recv hK jP (by decide) j3 rfl rfl, fun U hU hW => ⟨rfl, (jB U hU hW).1⟩⟩ rfl rfl hl.1 rfl (lv_room (Nat.le_of_ble_eq_true rfl)) dL_law_1163 ⟨by show cells + 0 ≤ 1201024; omega, by show slots + 0 ≤ 5493034; omega⟩) hS (fun q _ h => jA q h) (fun q h => jA q h) (fun r1 x1 t H1 locs1 ht hvm hw hB hz hk hS1 => ?_)
  have hJ1 := jC H1 ad x1 v (fun x mm v => F_X10_feed mm 0 (xs (i + 1)) (xs (i + 2)) (xs (i + 3)) (xs (i + 4)) (xs (i + 5)) (fun r m9 => r1 = r ∧ Rel (n + 1) x m9)) (tw_back hB ht) (jO.kept (hk o jO.lt joA)) (tw_le.rf.same hw.2) hz (fun q h1 h2 => hk q h1 (fun h => h2 (Or.inl h))) hw.1
  refine lv_aload_n hx hb dL_law_1166 rfl (lv_at hl 2 rfl) ?_
  refine lv_aload_n hx hb dL_law_1167 rfl (lv_at hl 0 rfl) ?_
  refine lv_iload hx hb dL_law_1168 (lv_at hl 4 rfl) ?_
  refine lv_iconst (v := 1) hx hb dL_law_1170 (by decide) ?_
  refine lv_iadd hx hb dL_law_1171 ?_
  refine lw_sld hx hb hX hbl hL hS1 (i := i) (j := 1) rfl (by omega) dL_law_1172 ?_
  refine lv_aload_n hx hb dL_law_1173 rfl (lv_at hl 0 rfl) ?_
  refine lv_iload hx hb dL_law_1174 (lv_at hl 4 rfl) ?_
  refine lv_iconst (v := 2) hx hb dL_law_1176 (by decide) ?_
  refine lv_iadd hx hb dL_law_1177 ?_
  refine lw_sld hx hb hX hbl hL hS1 (i := i) (j := 2) rfl (by omega) dL_law_1178 ?_
  refine lv_aload_n hx hb dL_law_1179 rfl (lv_at hl 0 rfl) ?_
  refine lv_iload hx hb dL_law_1180 (lv_at hl 4 rfl) ?_
  refine lv_iconst (v := 3) hx hb dL_law_1182 (by decide) ?_
  refine lv_iadd hx hb dL_law_1183 ?_
  refine lw_sld hx hb hX hbl hL hS1 (i := i) (j := 3) rfl (by omega) dL_law_1184 ?_
  refine lv_aload_n hx hb dL_law_1185 rfl (lv_at hl 0 rfl) ?_
  refine lv_iload hx hb dL_law_1186 (lv_at hl 4 rfl) ?_
  refine lv_iconst (v := 4) hx hb dL_law_1188 (by decide) ?_
  refine lv_iadd hx hb dL_law_1189 ?_
  refine lw_sld hx hb hX hbl hL hS1 (i := i) (j := 4) rfl (by omega) dL_law_1190 ?_
  refine lv_aload_n hx hb dL_law_1191 rfl (lv_at hl 0 rfl) ?_
  refine lv_iload hx hb dL_law_1192 (lv_at hl 4 rfl) ?_
  refine lv_iconst (v := 5) hx hb dL_law_1194 (by decide) ?_
  refine lv_iadd hx hb dL_law_1195 ?_
  refine lw_sld hx hb hX hbl hL hS1 (i := i) (j := 5) rfl (by omega) dL_law_1196 ?_
  obtain ⟨A2, ad2, x2, mm2, v2, kB, kP, kA, rfl, k4, kF, kC⟩ := hJ1.openM hS1 hK
  refine va_calli (va_runV (As := [.int (xs (i + 1)), .int (xs (i + 2)), .int (xs (i + 3)), .int (xs (i + 4)), .int (xs (i + 5))]) (rest := [.int r1]) ⟨hx, hb, hml, hown, hts⟩ (mX10_feed l dC dI ac sa A2 ad2 mm2 0 (xs (i + 1)) (xs (i + 2)) (xs (i + 3)) (xs (i + 4)) (xs (i + 5)) _ kF k4) (cwV 5 hts gL_law_X10_feed rfl rfl rfl (by decide +kernel) ⟨Nat.le_of_ble_eq_true rfl, Nat.le_of_ble_eq_true rfl⟩) ⟨BM.blind, tw_recv hK kP (by decide) k4 rfl rfl, fun U hU hW => ⟨rfl, kB U hU hW⟩⟩ rfl rfl hl.1 rfl (lv_room (Nat.le_of_ble_eq_true rfl)) dL_law_1197 ⟨by show cells + 0 + 0 ≤ 1201024; omega, by show slots + 0 + 0 ≤ 5493034; omega⟩) hS1 (fun q _ h => kA q h) (fun q h => kA q h) (fun r2 m2 t2 H2 locs2 ht2 hvm2 hw2 hB2 hz2 hk2 hS2 => ?_)
  obtain ⟨⟨rfl, hQ⟩, hN2⟩ := hw2
  have hJ2 := kC H2 m2 (fun x m9 _ => Rel (n + 1) x m9) (tw_back hB2 ht2) hN2 hz2 hk2 hQ
  refine lv_icmp_eq (tgt := 1832) hx hb dL_law_1200 (by decide) (fun _ => ?_) (fun c9 => absurd rfl c9)
  refine W.widen (k := cells + 13) (n := slots + 423) (by omega) (by omega) ?_
  exact kk H2 locs2 ls hl hS2 hJ2
set_option maxHeartbeats 4000000 in
set_option maxRecDepth 100000 in
theorem lwc_count (hx : p.tables.exec = Jvm.exec) (hb : c.code = cL_law) (hml : c.maxLocals = 7) (hown : s.vm.findClass RL = some m.cls) (hts : ∀ w ∈ wsL_law, w.before args s = true) (hlt : l.stackTraces = false) (hK : va_K (dC, dI) clW (tyW ac) s) (hZ : ZX sa (fun q => s.heap.size ≤ q) s s.heap) (hZL : ZL s) (hX : va_X b L xs s s.heap) (hbl : b < s.heap.size) (hL : L ≤ 3072) (hl : lv_has ls 7 [(0, .ref b), (1, .ref a1), (2, .ref a2), (3, .ref o), (4, .int (i32 i))]) (hS : va_S (fun q => s.heap.size ≤ q) s.heap H locs) (hi : i + 6 ≤ L) (hn : n < 1000) (hJ : JG dC dI ac sa s.heap.size o a1 a2 (fun x mm _ => Rel n x mm) H) (hc : cells + 13 ≤ 1201024 ∧ slots + 423 ≤ 5493034)
    (kk : ∀ (H1 : Heap) (locs1 : List Loc) (ls1 : Array Slot), lv_has ls1 7 [(0, .ref b), (1, .ref a1), (2, .ref a2), (3, .ref o), (4, .int (i32 i))] → va_S (fun q => s.heap.size ≤ q) s.heap H1 locs1 → JG dC dI ac sa s.heap.size o a1 a2 (fun x mm _ => Rel (n + 1) x mm) H1 → W p l e room_1 s m args below meth c H1 locs1 (cells + 13) (slots + 423) Z (F0 m 1832 ls1 [])) :
    W p l e room_1 s m args below meth c H locs cells slots Z (F0 m 1793 ls []) := by
  refine lv_aload_n hx hb dL_law_1793 rfl (lv_at hl 1 rfl) ?_
  refine lv_aload_n hx hb dL_law_1794 rfl (lv_at hl 0 rfl) ?_
  refine lv_iload hx hb dL_law_1795 (lv_at hl 4 rfl) ?_
  refine lv_iconst (v := 1) hx hb dL_law_1797 (by decide) ?_
  refine lv_iadd hx hb dL_law_1798 ?_
  refine lw_sld hx hb hX hbl hL hS (i := i) (j := 1) rfl (by omega) dL_law_1799 ?_
  obtain ⟨A, ad, x, mm, v, jB, jP, jA, jo, rfl, j3, jsa, j8, hR, jO, joA, jC⟩ := hJ.openX hS hK hZ hZL
  refine va_calli (va_runV (As := [.int (xs (i + 1))]) (rest := []) ⟨hx, hb, hml, hown, hts⟩ (mX9_count l dC dI ac sa A ad x 0 (xs (i + 1)) _ (op_count n x mm (xs (i + 1)) hR) j3) (cwV 1 hts gL_law_X9_count rfl rfl rfl (by decide +kernel) ⟨Nat.le_of_ble_eq_true rfl, Nat.le_of_ble_eq_true rfl⟩) ⟨BX.blind, tw_recv hK jP (by decide) j3 rfl rfl, fun U hU hW => ⟨rfl, (jB U hU hW).1⟩⟩ rfl rfl hl.1 rfl (lv_room (Nat.le_of_ble_eq_true rfl)) dL_law_1800 ⟨by show cells + 0 ≤ 1201024; omega, by show slots + 0 ≤ 5493034; omega⟩) hS (fun q _ h => jA q h) (fun q h => jA q h) (fun r1 x1 t H1 locs1 ht hvm hw hB hz hk hS1 => ?_)
  have hJ1 := jC H1 ad x1 v (fun x mm v => F_X10_count mm 0 (xs (i + 1)) (fun r m9 => r1 = r ∧ Rel (n + 1) x m9)) (tw_back hB ht) (jO.kept (hk o jO.lt joA)) (tw_le.rf.same hw.2) hz (fun q h1 h2 => hk q h1 (fun h => h2 (Or.inl h))) hw.1
  refine lv_aload_n hx hb dL_law_1803 rfl (lv_at hl 2 rfl) ?_
  refine lv_aload_n hx hb dL_law_1804 rfl (lv_at hl 0 rfl) ?_
  refine lv_iload hx hb dL_law_1805 (lv_at hl 4 rfl) ?_
  refine lv_iconst (v := 1) hx hb dL_law_1807 (by decide) ?_
  refine lv_iadd hx hb dL_law_1808 ?_
  refine lw_sld hx hb hX hbl hL hS1 (i := i) (j := 1) rfl (by omega) dL_law_1809 ?_
  obtain ⟨A2, ad2, x2, mm2, v2, kB, kP, kA, rfl, k4, kF, kC⟩ := hJ1.openM hS1 hK
  refine va_calli (va_runV (As := [.int (xs (i + 1))]) (rest := [.int r1]) ⟨hx, hb, hml, hown, hts⟩ (mX10_count l dC dI ac sa A2 ad2 mm2 0 (xs (i + 1)) _ kF k4) (cwV 1 hts gL_law_X10_count rfl rfl rfl (by decide +kernel) ⟨Nat.le_of_ble_eq_true rfl, Nat.le_of_ble_eq_true rfl⟩) ⟨BM.blind, tw_recv hK kP (by decide) k4 rfl rfl, fun U hU hW => ⟨rfl, kB U hU hW⟩⟩ rfl rfl hl.1 rfl (lv_room (Nat.le_of_ble_eq_true rfl)) dL_law_1810 ⟨by show cells + 0 + 0 ≤ 1201024; omega, by show slots + 0 + 0 ≤ 5493034; omega⟩) hS1 (fun q _ h => kA q h) (fun q h => kA q h) (fun r2 m2 t2 H2 locs2 ht2 hvm2 hw2 hB2 hz2 hk2 hS2 => ?_)
  obtain ⟨⟨rfl, hQ⟩, hN2⟩ := hw2
  have hJ2 := kC H2 m2 (fun x m9 _ => Rel (n + 1) x m9) (tw_back hB2 ht2) hN2 hz2 hk2 hQ
  refine lv_icmp_eq (tgt := 1832) hx hb dL_law_1813 (by decide) (fun _ => ?_) (fun c9 => absurd rfl c9)
  refine W.widen (k := cells + 13) (n := slots + 423) (by omega) (by omega) ?_
  exact kk H2 locs2 ls hl hS2 hJ2
set_option maxHeartbeats 4000000 in
set_option maxRecDepth 100000 in
theorem lwc_till (hx : p.tables.exec = Jvm.exec) (hb : c.code = cL_law) (hml : c.maxLocals = 7) (hown : s.vm.findClass RL = some m.cls) (hts : ∀ w ∈ wsL_law, w.before args s = true) (hlt : l.stackTraces = false) (hK : va_K (dC, dI) clW (tyW ac) s) (hZ : ZX sa (fun q => s.heap.size ≤ q) s s.heap) (hZL : ZL s) (hX : va_X b L xs s s.heap) (hbl : b < s.heap.size) (hL : L ≤ 3072) (hl : lv_has ls 7 [(0, .ref b), (1, .ref a1), (2, .ref a2), (3, .ref o), (4, .int (i32 i))]) (hS : va_S (fun q => s.heap.size ≤ q) s.heap H locs) (hi : i + 6 ≤ L) (hn : n < 1000) (hJ : JG dC dI ac sa s.heap.size o a1 a2 (fun x mm _ => Rel n x mm) H) (hc : cells + 13 ≤ 1201024 ∧ slots + 423 ≤ 5493034)
    (kk : ∀ (H1 : Heap) (locs1 : List Loc) (ls1 : Array Slot), lv_has ls1 7 [(0, .ref b), (1, .ref a1), (2, .ref a2), (3, .ref o), (4, .int (i32 i))] → va_S (fun q => s.heap.size ≤ q) s.heap H1 locs1 → JG dC dI ac sa s.heap.size o a1 a2 (fun x mm _ => Rel (n + 1) x mm) H1 → W p l e room_1 s m args below meth c H1 locs1 (cells + 13) (slots + 423) Z (F0 m 1832 ls1 [])) :
    W p l e room_1 s m args below meth c H locs cells slots Z (F0 m 1818 ls []) := by
  refine lv_aload_n hx hb dL_law_1818 rfl (lv_at hl 1 rfl) ?_
  obtain ⟨A, ad, x, mm, v, jB, jP, jA, jo, rfl, j3, jsa, j8, hR, jO, joA, jC⟩ := hJ.openX hS hK hZ hZL
  refine va_calll (va_runV (As := []) (rest := []) ⟨hx, hb, hml, hown, hts⟩ (mX9_till l dC dI ac sa A ad x 0  _ (op_till n x mm  hR) j3) (cwV 0 hts gL_law_X9_till rfl rfl rfl (by decide +kernel) ⟨Nat.le_of_ble_eq_true rfl, Nat.le_of_ble_eq_true rfl⟩) ⟨BX.blind, tw_recv hK jP (by decide) j3 rfl rfl, fun U hU hW => ⟨rfl, (jB U hU hW).1⟩⟩ rfl rfl hl.1 rfl (lv_room (Nat.le_of_ble_eq_true rfl)) dL_law_1819 ⟨by show cells + 0 ≤ 1201024; omega, by show slots + 0 ≤ 5493034; omega⟩) hS (fun q _ h => jA q h) (fun q h => jA q h) (fun r1 x1 t H1 locs1 ht hvm hw hB hz hk hS1 => ?_)
  have hJ1 := jC H1 ad x1 v (fun x mm v => F_X10_till mm 0  (fun r m9 => r1 = r ∧ Rel (n + 1) x m9)) (tw_back hB ht) (jO.kept (hk o jO.lt joA)) (tw_le.rf.same hw.2) hz (fun q h1 h2 => hk q h1 (fun h => h2 (Or.inl h))) hw.1
  refine lv_aload_n hx hb dL_law_1822 rfl (lv_at hl 2 rfl) ?_
  obtain ⟨A2, ad2, x2, mm2, v2, kB, kP, kA, rfl, k4, kF, kC⟩ := hJ1.openM hS1 hK
  refine va_calll (va_runV (As := []) (rest := [.long r1]) ⟨hx, hb, hml, hown, hts⟩ (mX10_till l dC dI ac sa A2 ad2 mm2 0  _ kF k4) (cwV 0 hts gL_law_X10_till rfl rfl rfl (by decide +kernel) ⟨Nat.le_of_ble_eq_true rfl, Nat.le_of_ble_eq_true rfl⟩) ⟨BM.blind, tw_recv hK kP (by decide) k4 rfl rfl, fun U hU hW => ⟨rfl, kB U hU hW⟩⟩ rfl rfl hl.1 rfl (lv_room (Nat.le_of_ble_eq_true rfl)) dL_law_1823 ⟨by show cells + 0 + 0 ≤ 1201024; omega, by show slots + 0 + 0 ≤ 5493034; omega⟩) hS1 (fun q _ h => kA q h) (fun q h => kA q h) (fun r2 m2 t2 H2 locs2 ht2 hvm2 hw2 hB2 hz2 hk2 hS2 => ?_)
  obtain ⟨⟨rfl, hQ⟩, hN2⟩ := hw2
  have hJ2 := kC H2 m2 (fun x m9 _ => Rel (n + 1) x m9) (tw_back hB2 ht2) hN2 hz2 hk2 hQ
  refine W.lcmp hx hb dL_law_1826 ?_
  refine lv_if_eq (tgt := 1832) hx hb dL_law_1827 (by decide) (fun _ => ?_) (fun c9 => absurd cmp_self c9)
  refine W.widen (k := cells + 13) (n := slots + 423) (by omega) (by omega) ?_
  exact kk H2 locs2 ls hl hS2 hJ2
end LWC
