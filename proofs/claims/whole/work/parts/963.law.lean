section LWC
variable {p : Program} {l : Launch} {e : Env} {s : State} {m : MethodId} {args : Array Value} {below : List Frame} {meth : Method} {c : Code} {H : Heap} {locs : List Loc} {cells slots : Nat} {Z : State → Prop}
variable {ls : Array Slot} {dC : Nat → ClassId} {dI : Nat → Nat → Nat} {ac : Nat → ClassId} {sa : Nat → Nat} {b L i n o a1 a2 : Nat} {xs : Nat → Int32}
set_option maxHeartbeats 4000000 in
set_option maxRecDepth 100000 in
theorem lwc_dish (hx : p.tables.exec = Jvm.exec) (hb : c.code = cL_law) (hml : c.maxLocals = 7) (hown : s.vm.findClass RL = some m.cls) (hts : ∀ w ∈ wsL_law, w.before args s = true) (hlt : l.stackTraces = false) (hK : va_K (dC, dI) clW (tyW ac) s) (hZ : ZX sa (fun q => s.heap.size ≤ q) s s.heap) (hZL : ZL s) (hX : va_X b L xs s s.heap) (hbl : b < s.heap.size) (hL : L ≤ 3072) (hl : lv_has ls 7 [(0, .ref b), (1, .ref a1), (2, .ref a2), (3, .ref o), (4, .int (i32 i))]) (hS : va_S (fun q => s.heap.size ≤ q) s.heap H locs) (hi : i + 6 ≤ L) (hn : n < 1000) (hJ : JG dC dI ac sa s.heap.size o a1 a2 (fun x mm _ => Rel n x mm) H) (hc : cells + 13 ≤ 1201024 ∧ slots + 423 ≤ 5493034)
    (kk : ∀ (H1 : Heap) (locs1 : List Loc) (ls1 : Array Slot), lv_has ls1 7 [(0, .ref b), (1, .ref a1), (2, .ref a2), (3, .ref o), (4, .int (i32 i))] → va_S (fun q => s.heap.size ≤ q) s.heap H1 locs1 → JG dC dI ac sa s.heap.size o a1 a2 (fun x mm _ => Rel (n + 1) x mm) H1 → W p l e room_1 s m args below meth c H1 locs1 (cells + 13) (slots + 423) Z (F0 m 1832 ls1 [])) :
    W p l e room_1 s m args below meth c H locs cells slots Z (F0 m 1205 ls []) := by
  refine lv_aload_n hx hb dL_law_1205 rfl (lv_at hl 1 rfl) ?_
  refine lv_aload_n hx hb dL_law_1206 rfl (lv_at hl 0 rfl) ?_
  refine lv_iload hx hb dL_law_1207 (lv_at hl 4 rfl) ?_
  refine lv_iconst (v := 1) hx hb dL_law_1209 (by decide) ?_
  refine lv_iadd hx hb dL_law_1210 ?_
  refine lw_sld hx hb hX hbl hL hS (i := i) (j := 1) rfl (by omega) dL_law_1211 ?_
  refine lv_aload_n hx hb dL_law_1212 rfl (lv_at hl 3 rfl) ?_
  obtain ⟨A, ad, x, mm, v, jB, jP, jA, jo, rfl, j3, jsa, j8, hR, jO, joA, jC⟩ := hJ.openX hS hK hZ hZL
  refine vx_calli (vx_runSX (hh := [(0, 9, 12, 13), (0, 9, 15, 61)]) (As := [.ref (ad 0 0), .int (xs (i + 1)), .ref o]) (rest := []) ⟨hx, hb, hml, hown, hts⟩ (mL_dish l hlt dC dI ac sa A ad o x 0 (xs (i + 1)) v _ (op_dish n x mm (xs (i + 1)) v hR) j3 jsa j8) (vx_cwSW 3 hts gL_law_L_dish rfl rfl rfl (by decide +kernel) ⟨Nat.le_of_ble_eq_true rfl, Nat.le_of_ble_eq_true rfl⟩) ⟨BW.blind, fun U hU hW => ⟨rfl, jB U hU hW⟩⟩ rfl rfl hl.1 rfl (lv_room (Nat.le_of_ble_eq_true rfl)) dL_law_1213 ⟨by show cells + 5 ≤ 1201024; omega, by show slots + 53 ≤ 5493034; omega⟩) hS (fun q _ h => h.elim (jA q) (fun h => by rw [h]; exact jo)) (fun q h => h.elim (jA q) (fun h => by rw [h]; exact jo)) (fun q _ h => h.elim) (fun E9 ce9 q9 u9 t9 H9 locs9 ht9 hvm9 hpx => hpx.elim) (fun r1 u1 t H1 locs1 ht hvm hw hB hz hk hS1 => ?_)
  obtain ⟨x1, ad1, v1⟩ := u1
  obtain ⟨hQ, hle⟩ := hw
  obtain ⟨hP1, hO1⟩ := hB
  have hJ1 := jC H1 ad1 x1 v1 (fun x mm v => F_X10_dish mm 0 (xs (i + 1)) (fun rr m9 => gI m9 0 0 0 = r1 ∧ (r1 = 0 → v = rr.toInt64) ∧ Rel (n + 1) x m9)) (tw_back hP1 ht) (by rw [← ht]; exact hO1) hle hz hk hQ
  refine lv_istore (lv' := [(5, .int r1), (0, .ref b), (1, .ref (ad 0 0)), (2, .ref a2), (3, .ref o), (4, .int (i32 i))]) hx hb dL_law_1216 hl (by decide) rfl (fun ls hl => ?_)
  refine lv_aload_n hx hb dL_law_1218 rfl (lv_at hl 3 rfl) ?_
  refine lv_aload_n hx hb dL_law_1219 rfl (lv_at hl 1 rfl) ?_
  refine lv_iload hx hb dL_law_1220 (lv_at hl 5 rfl) ?_
  refine lv_iconst (v := 1) hx hb dL_law_1222 (by decide) ?_
  refine lv_iadd hx hb dL_law_1223 ?_
  refine lw_sld hx hb hX hbl hL hS1 (i := i) (j := 1) rfl (by omega) dL_law_1224 ?_
  obtain ⟨A2, ad2, x2, mm2, v2, kB, kP, kA, rfl, k4, kF, kC⟩ := hJ1.openM hS1 hK
  refine va_calli (va_runV (As := [.int (xs (i + 1))]) (rest := []) ⟨hx, hb, hml, hown, hts⟩ (mX10_dish l dC dI ac sa A2 ad2 mm2 0 (xs (i + 1)) _ kF k4) (cwV 1 hts gL_law_X10_dish rfl rfl rfl (by decide +kernel) ⟨Nat.le_of_ble_eq_true rfl, Nat.le_of_ble_eq_true rfl⟩) ⟨BM.blind, tw_recv hK kP (by decide) k4 rfl rfl, fun U hU hW => ⟨rfl, kB U hU hW⟩⟩ rfl rfl hl.1 rfl (lv_room (Nat.le_of_ble_eq_true rfl)) dL_law_1225 ⟨by show cells + 5 + 0 ≤ 1201024; omega, by show slots + 53 + 0 ≤ 5493034; omega⟩) hS1 (fun q _ h => kA q h) (fun q h => kA q h) (fun r2 m2 t2 H2 locs2 ht2 hvm2 hw2 hB2 hz2 hk2 hS2 => ?_)
  have hJ2 := kC H2 m2 (fun x m9 v => gI m9 0 0 0 = r1 ∧ (r1 = 0 → v = r2.toInt64) ∧ Rel (n + 1) x m9) (tw_back hB2 ht2) hw2.2 hz2 hk2 hw2.1
  refine lv_istore (lv' := [(6, .int r2), (5, .int r1), (0, .ref b), (1, .ref (ad 0 0)), (2, .ref (ad2 0 0)), (3, .ref o), (4, .int (i32 i))]) hx hb dL_law_1228 hl (by decide) rfl (fun ls hl => ?_)
  refine lv_aload_n hx hb dL_law_1230 rfl (lv_at hl 4 rfl) ?_
  obtain ⟨A3, ad3, x3, mm3, v3, nB, nP, nA, n2, n4, nF, nC⟩ := hJ2.openM hS2 hK
  rw [← n2] at hl ⊢
  refine va_calli (va_runV (As := []) (rest := []) ⟨hx, hb, hml, hown, hts⟩ (mX10_thrown l dC dI ac sa A3 ad3 mm3 0 (fun r u => r = gI mm3 0 0 0 ∧ u = mm3) ⟨rfl, rfl⟩ n4) (cwV 0 hts gL_law_X10_thrown rfl rfl rfl (by decide +kernel) ⟨Nat.le_of_ble_eq_true rfl, Nat.le_of_ble_eq_true rfl⟩) ⟨BM.blind, tw_recv hK nP (by decide) n4 rfl rfl, fun U hU hW => ⟨rfl, nB U hU hW⟩⟩ rfl rfl hl.1 rfl (lv_room (Nat.le_of_ble_eq_true rfl)) dL_law_1231 ⟨by show cells + 5 + 0 + 0 ≤ 1201024; omega, by show slots + 53 + 0 + 0 ≤ 5493034; omega⟩) hS2 (fun q _ h => nA q h) (fun q h => nA q h) (fun r3 m3 t3 H3 locs3 ht3 hvm3 hw3 hB3 hz3 hk3 hS3 => ?_)
  obtain ⟨⟨e3, rfl⟩, hN3⟩ := hw3
  obtain ⟨nF1, nF2, nF3⟩ := nF
  rw [nF1] at e3
  subst e3
  have hJ3 := nC H3 m3 (fun x m9 v => (r3 = 0 → v = r2.toInt64) ∧ Rel (n + 1) x m9) (tw_back hB3 ht3) rfl hz3 hk3 ⟨nF2, nF3⟩
  rw [n2] at hl
  refine lv_iload hx hb dL_law_1234 (lv_at hl 1 rfl) ?_
  refine lv_icmp_eq (tgt := 1241) hx hb dL_law_1236 (by decide) (fun _ => ?_) (fun c9 => absurd rfl c9)
  have hlE := lv_sub (l' := [(0, .ref b), (1, .ref (ad 0 0)), (2, .ref (ad2 0 0)), (3, .ref o), (4, .int (i32 i))]) hl [2, 3, 4, 5, 6] rfl
  refine lv_iload hx hb dL_law_1241 (lv_at hl 1 rfl) ?_
  refine lv_if_ne (tgt := 1258) hx hb dL_law_1243 (by decide) (fun _ => ?_) (fun c8 => ?_)
  · refine lv_goto (tgt := 1832) hx hb dL_law_1258 (by decide) ?_
    refine W.widen (k := cells + 13) (n := slots + 423) (by omega) (by omega) ?_
    exact kk H3 locs3 ls hlE hS3 (hJ3.imp (fun _ _ _ h => h.2))
  obtain ⟨v9, hO9, x9, mm9, hv9, -⟩ := hJ3.out
  have hv9 := hv9 c8
  refine lv_aload_n hx hb dL_law_1246 rfl (lv_at hl 5 rfl) ?_
  refine lv_iconst (v := 0) hx hb dL_law_1247 (by decide) ?_
  refine wr_lald hx hb hK hO9 dL_law_1248 ?_
  refine lv_iload hx hb dL_law_1249 (lv_at hl 0 rfl) ?_
  refine lv_i2l (v := r2.toInt64) hx hb dL_law_1251 rfl ?_
  refine W.lcmp hx hb dL_law_1252 ?_
  refine lv_if_eq (tgt := 1258) hx hb dL_law_1253 (by decide) (fun _ => ?_) (fun c9 => absurd (by rw [hv9]; exact cmp_self) c9)
  refine lv_goto (tgt := 1832) hx hb dL_law_1258 (by decide) ?_
  refine W.widen (k := cells + 13) (n := slots + 423) (by omega) (by omega) ?_
  exact kk H3 locs3 ls hlE hS3 (hJ3.imp (fun _ _ _ h => h.2))
set_option maxHeartbeats 4000000 in
set_option maxRecDepth 100000 in
theorem lwc_score (hx : p.tables.exec = Jvm.exec) (hb : c.code = cL_law) (hml : c.maxLocals = 7) (hown : s.vm.findClass RL = some m.cls) (hts : ∀ w ∈ wsL_law, w.before args s = true) (hlt : l.stackTraces = false) (hK : va_K (dC, dI) clW (tyW ac) s) (hZ : ZX sa (fun q => s.heap.size ≤ q) s s.heap) (hZL : ZL s) (hX : va_X b L xs s s.heap) (hbl : b < s.heap.size) (hL : L ≤ 3072) (hl : lv_has ls 7 [(0, .ref b), (1, .ref a1), (2, .ref a2), (3, .ref o), (4, .int (i32 i))]) (hS : va_S (fun q => s.heap.size ≤ q) s.heap H locs) (hi : i + 6 ≤ L) (hn : n < 1000) (hJ : JG dC dI ac sa s.heap.size o a1 a2 (fun x mm _ => Rel n x mm) H) (hc : cells + 13 ≤ 1201024 ∧ slots + 423 ≤ 5493034)
    (kk : ∀ (H1 : Heap) (locs1 : List Loc) (ls1 : Array Slot), lv_has ls1 7 [(0, .ref b), (1, .ref a1), (2, .ref a2), (3, .ref o), (4, .int (i32 i))] → va_S (fun q => s.heap.size ≤ q) s.heap H1 locs1 → JG dC dI ac sa s.heap.size o a1 a2 (fun x mm _ => Rel (n + 1) x mm) H1 → W p l e room_1 s m args below meth c H1 locs1 (cells + 13) (slots + 423) Z (F0 m 1832 ls1 [])) :
    W p l e room_1 s m args below meth c H locs cells slots Z (F0 m 1261 ls []) := by
  refine lv_aload_n hx hb dL_law_1261 rfl (lv_at hl 1 rfl) ?_
  refine lv_aload_n hx hb dL_law_1262 rfl (lv_at hl 0 rfl) ?_
  refine lv_iload hx hb dL_law_1263 (lv_at hl 4 rfl) ?_
  refine lv_iconst (v := 1) hx hb dL_law_1265 (by decide) ?_
  refine lv_iadd hx hb dL_law_1266 ?_
  refine lw_sld hx hb hX hbl hL hS (i := i) (j := 1) rfl (by omega) dL_law_1267 ?_
  refine lv_aload_n hx hb dL_law_1268 rfl (lv_at hl 0 rfl) ?_
  refine lv_iload hx hb dL_law_1269 (lv_at hl 4 rfl) ?_
  refine lv_iconst (v := 2) hx hb dL_law_1271 (by decide) ?_
  refine lv_iadd hx hb dL_law_1272 ?_
  refine lw_sld hx hb hX hbl hL hS (i := i) (j := 2) rfl (by omega) dL_law_1273 ?_
  refine lv_aload_n hx hb dL_law_1274 rfl (lv_at hl 3 rfl) ?_
  obtain ⟨A, ad, x, mm, v, jB, jP, jA, jo, rfl, j3, jsa, j8, hR, jO, joA, jC⟩ := hJ.openX hS hK hZ hZL
  refine vx_calli (vx_runSX (hh := [(0, 10, 13, 34), (0, 10, 17, 19)]) (As := [.ref (ad 0 0), .int (xs (i + 1)), .int (xs (i + 2)), .ref o]) (rest := []) ⟨hx, hb, hml, hown, hts⟩ (mL_score l hlt dC dI ac sa A ad o x 0 (xs (i + 1)) (xs (i + 2)) v _ (op_score n x mm (xs (i + 1)) (xs (i + 2)) v hR) j3 jsa j8) (vx_cwSW 4 hts gL_law_L_score rfl rfl rfl (by decide +kernel) ⟨Nat.le_of_ble_eq_true rfl, Nat.le_of_ble_eq_true rfl⟩) ⟨BW.blind, fun U hU hW => ⟨rfl, jB U hU hW⟩⟩ rfl rfl hl.1 rfl (lv_room (Nat.le_of_ble_eq_true rfl)) dL_law_1275 ⟨by show cells + 2 ≤ 1201024; omega, by show slots + 12 ≤ 5493034; omega⟩) hS (fun q _ h => h.elim (jA q) (fun h => by rw [h]; exact jo)) (fun q h => h.elim (jA q) (fun h => by rw [h]; exact jo)) (fun q _ h => h.elim) (fun E9 ce9 q9 u9 t9 H9 locs9 ht9 hvm9 hpx => hpx.elim) (fun r1 u1 t H1 locs1 ht hvm hw hB hz hk hS1 => ?_)
  obtain ⟨x1, ad1, v1⟩ := u1
  obtain ⟨hQ, hle⟩ := hw
  obtain ⟨hP1, hO1⟩ := hB
  have hJ1 := jC H1 ad1 x1 v1 (fun x mm v => F_X10_score mm 0 (xs (i + 1)) (xs (i + 2)) (fun rr m9 => gI m9 0 0 0 = r1 ∧ (r1 = 0 → v = rr.toInt64) ∧ Rel (n + 1) x m9)) (tw_back hP1 ht) (by rw [← ht]; exact hO1) hle hz hk hQ
  refine lv_istore (lv' := [(5, .int r1), (0, .ref b), (1, .ref (ad 0 0)), (2, .ref a2), (3, .ref o), (4, .int (i32 i))]) hx hb dL_law_1278 hl (by decide) rfl (fun ls hl => ?_)
  refine lv_aload_n hx hb dL_law_1280 rfl (lv_at hl 3 rfl) ?_
  refine lv_aload_n hx hb dL_law_1281 rfl (lv_at hl 1 rfl) ?_
  refine lv_iload hx hb dL_law_1282 (lv_at hl 5 rfl) ?_
  refine lv_iconst (v := 1) hx hb dL_law_1284 (by decide) ?_
  refine lv_iadd hx hb dL_law_1285 ?_
  refine lw_sld hx hb hX hbl hL hS1 (i := i) (j := 1) rfl (by omega) dL_law_1286 ?_
  refine lv_aload_n hx hb dL_law_1287 rfl (lv_at hl 1 rfl) ?_
  refine lv_iload hx hb dL_law_1288 (lv_at hl 5 rfl) ?_
  refine lv_iconst (v := 2) hx hb dL_law_1290 (by decide) ?_
  refine lv_iadd hx hb dL_law_1291 ?_
  refine lw_sld hx hb hX hbl hL hS1 (i := i) (j := 2) rfl (by omega) dL_law_1292 ?_
  obtain ⟨A2, ad2, x2, mm2, v2, kB, kP, kA, rfl, k4, kF, kC⟩ := hJ1.openM hS1 hK
  refine va_calli (va_runV (As := [.int (xs (i + 1)), .int (xs (i + 2))]) (rest := []) ⟨hx, hb, hml, hown, hts⟩ (mX10_score l dC dI ac sa A2 ad2 mm2 0 (xs (i + 1)) (xs (i + 2)) _ kF k4) (cwV 2 hts gL_law_X10_score rfl rfl rfl (by decide +kernel) ⟨Nat.le_of_ble_eq_true rfl, Nat.le_of_ble_eq_true rfl⟩) ⟨BM.blind, tw_recv hK kP (by decide) k4 rfl rfl, fun U hU hW => ⟨rfl, kB U hU hW⟩⟩ rfl rfl hl.1 rfl (lv_room (Nat.le_of_ble_eq_true rfl)) dL_law_1293 ⟨by show cells + 2 + 0 ≤ 1201024; omega, by show slots + 12 + 0 ≤ 5493034; omega⟩) hS1 (fun q _ h => kA q h) (fun q h => kA q h) (fun r2 m2 t2 H2 locs2 ht2 hvm2 hw2 hB2 hz2 hk2 hS2 => ?_)
  have hJ2 := kC H2 m2 (fun x m9 v => gI m9 0 0 0 = r1 ∧ (r1 = 0 → v = r2.toInt64) ∧ Rel (n + 1) x m9) (tw_back hB2 ht2) hw2.2 hz2 hk2 hw2.1
  refine lv_istore (lv' := [(6, .int r2), (5, .int r1), (0, .ref b), (1, .ref (ad 0 0)), (2, .ref (ad2 0 0)), (3, .ref o), (4, .int (i32 i))]) hx hb dL_law_1296 hl (by decide) rfl (fun ls hl => ?_)
  refine lv_aload_n hx hb dL_law_1298 rfl (lv_at hl 4 rfl) ?_
  obtain ⟨A3, ad3, x3, mm3, v3, nB, nP, nA, n2, n4, nF, nC⟩ := hJ2.openM hS2 hK
  rw [← n2] at hl ⊢
  refine va_calli (va_runV (As := []) (rest := []) ⟨hx, hb, hml, hown, hts⟩ (mX10_thrown l dC dI ac sa A3 ad3 mm3 0 (fun r u => r = gI mm3 0 0 0 ∧ u = mm3) ⟨rfl, rfl⟩ n4) (cwV 0 hts gL_law_X10_thrown rfl rfl rfl (by decide +kernel) ⟨Nat.le_of_ble_eq_true rfl, Nat.le_of_ble_eq_true rfl⟩) ⟨BM.blind, tw_recv hK nP (by decide) n4 rfl rfl, fun U hU hW => ⟨rfl, nB U hU hW⟩⟩ rfl rfl hl.1 rfl (lv_room (Nat.le_of_ble_eq_true rfl)) dL_law_1299 ⟨by show cells + 2 + 0 + 0 ≤ 1201024; omega, by show slots + 12 + 0 + 0 ≤ 5493034; omega⟩) hS2 (fun q _ h => nA q h) (fun q h => nA q h) (fun r3 m3 t3 H3 locs3 ht3 hvm3 hw3 hB3 hz3 hk3 hS3 => ?_)
  obtain ⟨⟨e3, rfl⟩, hN3⟩ := hw3
  obtain ⟨nF1, nF2, nF3⟩ := nF
  rw [nF1] at e3
  subst e3
  have hJ3 := nC H3 m3 (fun x m9 v => (r3 = 0 → v = r2.toInt64) ∧ Rel (n + 1) x m9) (tw_back hB3 ht3) rfl hz3 hk3 ⟨nF2, nF3⟩
  rw [n2] at hl
  refine lv_iload hx hb dL_law_1302 (lv_at hl 1 rfl) ?_
  refine lv_icmp_eq (tgt := 1309) hx hb dL_law_1304 (by decide) (fun _ => ?_) (fun c9 => absurd rfl c9)
  have hlE := lv_sub (l' := [(0, .ref b), (1, .ref (ad 0 0)), (2, .ref (ad2 0 0)), (3, .ref o), (4, .int (i32 i))]) hl [2, 3, 4, 5, 6] rfl
  refine lv_iload hx hb dL_law_1309 (lv_at hl 1 rfl) ?_
  refine lv_if_ne (tgt := 1326) hx hb dL_law_1311 (by decide) (fun _ => ?_) (fun c8 => ?_)
  · refine lv_goto (tgt := 1832) hx hb dL_law_1326 (by decide) ?_
    refine W.widen (k := cells + 13) (n := slots + 423) (by omega) (by omega) ?_
    exact kk H3 locs3 ls hlE hS3 (hJ3.imp (fun _ _ _ h => h.2))
  obtain ⟨v9, hO9, x9, mm9, hv9, -⟩ := hJ3.out
  have hv9 := hv9 c8
  refine lv_aload_n hx hb dL_law_1314 rfl (lv_at hl 5 rfl) ?_
  refine lv_iconst (v := 0) hx hb dL_law_1315 (by decide) ?_
  refine wr_lald hx hb hK hO9 dL_law_1316 ?_
  refine lv_iload hx hb dL_law_1317 (lv_at hl 0 rfl) ?_
  refine lv_i2l (v := r2.toInt64) hx hb dL_law_1319 rfl ?_
  refine W.lcmp hx hb dL_law_1320 ?_
  refine lv_if_eq (tgt := 1326) hx hb dL_law_1321 (by decide) (fun _ => ?_) (fun c9 => absurd (by rw [hv9]; exact cmp_self) c9)
  refine lv_goto (tgt := 1832) hx hb dL_law_1326 (by decide) ?_
  refine W.widen (k := cells + 13) (n := slots + 423) (by omega) (by omega) ?_
  exact kk H3 locs3 ls hlE hS3 (hJ3.imp (fun _ _ _ h => h.2))
set_option maxHeartbeats 4000000 in
set_option maxRecDepth 100000 in
theorem lwc_match (hx : p.tables.exec = Jvm.exec) (hb : c.code = cL_law) (hml : c.maxLocals = 7) (hown : s.vm.findClass RL = some m.cls) (hts : ∀ w ∈ wsL_law, w.before args s = true) (hlt : l.stackTraces = false) (hK : va_K (dC, dI) clW (tyW ac) s) (hZ : ZX sa (fun q => s.heap.size ≤ q) s s.heap) (hZL : ZL s) (hX : va_X b L xs s s.heap) (hbl : b < s.heap.size) (hL : L ≤ 3072) (hl : lv_has ls 7 [(0, .ref b), (1, .ref a1), (2, .ref a2), (3, .ref o), (4, .int (i32 i))]) (hS : va_S (fun q => s.heap.size ≤ q) s.heap H locs) (hi : i + 6 ≤ L) (hn : n < 1000) (hJ : JG dC dI ac sa s.heap.size o a1 a2 (fun x mm _ => Rel n x mm) H) (hc : cells + 13 ≤ 1201024 ∧ slots + 423 ≤ 5493034)
    (kk : ∀ (H1 : Heap) (locs1 : List Loc) (ls1 : Array Slot), lv_has ls1 7 [(0, .ref b), (1, .ref a1), (2, .ref a2), (3, .ref o), (4, .int (i32 i))] → va_S (fun q => s.heap.size ≤ q) s.heap H1 locs1 → JG dC dI ac sa s.heap.size o a1 a2 (fun x mm _ => Rel (n + 1) x mm) H1 → W p l e room_1 s m args below meth c H1 locs1 (cells + 13) (slots + 423) Z (F0 m 1832 ls1 [])) :
    W p l e room_1 s m args below meth c H locs cells slots Z (F0 m 1329 ls []) := by
  refine lv_aload_n hx hb dL_law_1329 rfl (lv_at hl 1 rfl) ?_
  refine lv_aload_n hx hb dL_law_1330 rfl (lv_at hl 0 rfl) ?_
  refine lv_iload hx hb dL_law_1331 (lv_at hl 4 rfl) ?_
  refine lv_iconst (v := 1) hx hb dL_law_1333 (by decide) ?_
  refine lv_iadd hx hb dL_law_1334 ?_
  refine lw_sld hx hb hX hbl hL hS (i := i) (j := 1) rfl (by omega) dL_law_1335 ?_
  refine lv_aload_n hx hb dL_law_1336 rfl (lv_at hl 0 rfl) ?_
  refine lv_iload hx hb dL_law_1337 (lv_at hl 4 rfl) ?_
  refine lv_iconst (v := 2) hx hb dL_law_1339 (by decide) ?_
  refine lv_iadd hx hb dL_law_1340 ?_
  refine lw_sld hx hb hX hbl hL hS (i := i) (j := 2) rfl (by omega) dL_law_1341 ?_
  refine lv_aload_n hx hb dL_law_1342 rfl (lv_at hl 3 rfl) ?_
  obtain ⟨A, ad, x, mm, v, jB, jP, jA, jo, rfl, j3, jsa, j8, hR, jO, joA, jC⟩ := hJ.openX hS hK hZ hZL
  refine vx_calli (vx_runSX (hh := [(0, 10, 13, 34)]) (As := [.ref (ad 0 0), .int (xs (i + 1)), .int (xs (i + 2)), .ref o]) (rest := []) ⟨hx, hb, hml, hown, hts⟩ (mL_match l hlt dC dI ac sa A ad o x 0 (xs (i + 1)) (xs (i + 2)) v _ (op_match n x mm (xs (i + 1)) (xs (i + 2)) v hR) j3 jsa j8) (vx_cwSW 4 hts gL_law_L_match rfl rfl rfl (by decide +kernel) ⟨Nat.le_of_ble_eq_true rfl, Nat.le_of_ble_eq_true rfl⟩) ⟨BW.blind, fun U hU hW => ⟨rfl, jB U hU hW⟩⟩ rfl rfl hl.1 rfl (lv_room (Nat.le_of_ble_eq_true rfl)) dL_law_1343 ⟨by show cells + 1 ≤ 1201024; omega, by show slots + 6 ≤ 5493034; omega⟩) hS (fun q _ h => h.elim (jA q) (fun h => by rw [h]; exact jo)) (fun q h => h.elim (jA q) (fun h => by rw [h]; exact jo)) (fun q _ h => h.elim) (fun E9 ce9 q9 u9 t9 H9 locs9 ht9 hvm9 hpx => hpx.elim) (fun r1 u1 t H1 locs1 ht hvm hw hB hz hk hS1 => ?_)
  obtain ⟨x1, ad1, v1⟩ := u1
  obtain ⟨hQ, hle⟩ := hw
  obtain ⟨hP1, hO1⟩ := hB
  have hJ1 := jC H1 ad1 x1 v1 (fun x mm v => F_X10_match mm 0 (xs (i + 1)) (xs (i + 2)) (fun rr m9 => gI m9 0 0 0 = r1 ∧ (r1 = 0 → v = rr.toInt64) ∧ Rel (n + 1) x m9)) (tw_back hP1 ht) (by rw [← ht]; exact hO1) hle hz hk hQ
  refine lv_istore (lv' := [(5, .int r1), (0, .ref b), (1, .ref (ad 0 0)), (2, .ref a2), (3, .ref o), (4, .int (i32 i))]) hx hb dL_law_1346 hl (by decide) rfl (fun ls hl => ?_)
  refine lv_aload_n hx hb dL_law_1348 rfl (lv_at hl 3 rfl) ?_
  refine lv_aload_n hx hb dL_law_1349 rfl (lv_at hl 1 rfl) ?_
  refine lv_iload hx hb dL_law_1350 (lv_at hl 5 rfl) ?_
  refine lv_iconst (v := 1) hx hb dL_law_1352 (by decide) ?_
  refine lv_iadd hx hb dL_law_1353 ?_
  refine lw_sld hx hb hX hbl hL hS1 (i := i) (j := 1) rfl (by omega) dL_law_1354 ?_
  refine lv_aload_n hx hb dL_law_1355 rfl (lv_at hl 1 rfl) ?_
  refine lv_iload hx hb dL_law_1356 (lv_at hl 5 rfl) ?_
  refine lv_iconst (v := 2) hx hb dL_law_1358 (by decide) ?_
  refine lv_iadd hx hb dL_law_1359 ?_
  refine lw_sld hx hb hX hbl hL hS1 (i := i) (j := 2) rfl (by omega) dL_law_1360 ?_
  obtain ⟨A2, ad2, x2, mm2, v2, kB, kP, kA, rfl, k4, kF, kC⟩ := hJ1.openM hS1 hK
  refine va_calli (va_runV (As := [.int (xs (i + 1)), .int (xs (i + 2))]) (rest := []) ⟨hx, hb, hml, hown, hts⟩ (mX10_match l dC dI ac sa A2 ad2 mm2 0 (xs (i + 1)) (xs (i + 2)) _ kF k4) (cwV 2 hts gL_law_X10_match rfl rfl rfl (by decide +kernel) ⟨Nat.le_of_ble_eq_true rfl, Nat.le_of_ble_eq_true rfl⟩) ⟨BM.blind, tw_recv hK kP (by decide) k4 rfl rfl, fun U hU hW => ⟨rfl, kB U hU hW⟩⟩ rfl rfl hl.1 rfl (lv_room (Nat.le_of_ble_eq_true rfl)) dL_law_1361 ⟨by show cells + 1 + 0 ≤ 1201024; omega, by show slots + 6 + 0 ≤ 5493034; omega⟩) hS1 (fun q _ h => kA q h) (fun q h => kA q h) (fun r2 m2 t2 H2 locs2 ht2 hvm2 hw2 hB2 hz2 hk2 hS2 => ?_)
  have hJ2 := kC H2 m2 (fun x m9 v => gI m9 0 0 0 = r1 ∧ (r1 = 0 → v = r2.toInt64) ∧ Rel (n + 1) x m9) (tw_back hB2 ht2) hw2.2 hz2 hk2 hw2.1
  refine lv_istore (lv' := [(6, .int r2), (5, .int r1), (0, .ref b), (1, .ref (ad 0 0)), (2, .ref (ad2 0 0)), (3, .ref o), (4, .int (i32 i))]) hx hb dL_law_1364 hl (by decide) rfl (fun ls hl => ?_)
  refine lv_aload_n hx hb dL_law_1366 rfl (lv_at hl 4 rfl) ?_
  obtain ⟨A3, ad3, x3, mm3, v3, nB, nP, nA, n2, n4, nF, nC⟩ := hJ2.openM hS2 hK
  rw [← n2] at hl ⊢
  refine va_calli (va_runV (As := []) (rest := []) ⟨hx, hb, hml, hown, hts⟩ (mX10_thrown l dC dI ac sa A3 ad3 mm3 0 (fun r u => r = gI mm3 0 0 0 ∧ u = mm3) ⟨rfl, rfl⟩ n4) (cwV 0 hts gL_law_X10_thrown rfl rfl rfl (by decide +kernel) ⟨Nat.le_of_ble_eq_true rfl, Nat.le_of_ble_eq_true rfl⟩) ⟨BM.blind, tw_recv hK nP (by decide) n4 rfl rfl, fun U hU hW => ⟨rfl, nB U hU hW⟩⟩ rfl rfl hl.1 rfl (lv_room (Nat.le_of_ble_eq_true rfl)) dL_law_1367 ⟨by show cells + 1 + 0 + 0 ≤ 1201024; omega, by show slots + 6 + 0 + 0 ≤ 5493034; omega⟩) hS2 (fun q _ h => nA q h) (fun q h => nA q h) (fun r3 m3 t3 H3 locs3 ht3 hvm3 hw3 hB3 hz3 hk3 hS3 => ?_)
  obtain ⟨⟨e3, rfl⟩, hN3⟩ := hw3
  obtain ⟨nF1, nF2, nF3⟩ := nF
  rw [nF1] at e3
  subst e3
  have hJ3 := nC H3 m3 (fun x m9 v => (r3 = 0 → v = r2.toInt64) ∧ Rel (n + 1) x m9) (tw_back hB3 ht3) rfl hz3 hk3 ⟨nF2, nF3⟩
  rw [n2] at hl
  refine lv_iload hx hb dL_law_1370 (lv_at hl 1 rfl) ?_
  refine lv_icmp_eq (tgt := 1377) hx hb dL_law_1372 (by decide) (fun _ => ?_) (fun c9 => absurd rfl c9)
  have hlE := lv_sub (l' := [(0, .ref b), (1, .ref (ad 0 0)), (2, .ref (ad2 0 0)), (3, .ref o), (4, .int (i32 i))]) hl [2, 3, 4, 5, 6] rfl
  refine lv_iload hx hb dL_law_1377 (lv_at hl 1 rfl) ?_
  refine lv_if_ne (tgt := 1394) hx hb dL_law_1379 (by decide) (fun _ => ?_) (fun c8 => ?_)
  · refine lv_goto (tgt := 1832) hx hb dL_law_1394 (by decide) ?_
    refine W.widen (k := cells + 13) (n := slots + 423) (by omega) (by omega) ?_
    exact kk H3 locs3 ls hlE hS3 (hJ3.imp (fun _ _ _ h => h.2))
  obtain ⟨v9, hO9, x9, mm9, hv9, -⟩ := hJ3.out
  have hv9 := hv9 c8
  refine lv_aload_n hx hb dL_law_1382 rfl (lv_at hl 5 rfl) ?_
  refine lv_iconst (v := 0) hx hb dL_law_1383 (by decide) ?_
  refine wr_lald hx hb hK hO9 dL_law_1384 ?_
  refine lv_iload hx hb dL_law_1385 (lv_at hl 0 rfl) ?_
  refine lv_i2l (v := r2.toInt64) hx hb dL_law_1387 rfl ?_
  refine W.lcmp hx hb dL_law_1388 ?_
  refine lv_if_eq (tgt := 1394) hx hb dL_law_1389 (by decide) (fun _ => ?_) (fun c9 => absurd (by rw [hv9]; exact cmp_self) c9)
  refine lv_goto (tgt := 1832) hx hb dL_law_1394 (by decide) ?_
  refine W.widen (k := cells + 13) (n := slots + 423) (by omega) (by omega) ?_
  exact kk H3 locs3 ls hlE hS3 (hJ3.imp (fun _ _ _ h => h.2))
set_option maxHeartbeats 4000000 in
set_option maxRecDepth 100000 in
theorem lwc_sheet (hx : p.tables.exec = Jvm.exec) (hb : c.code = cL_law) (hml : c.maxLocals = 7) (hown : s.vm.findClass RL = some m.cls) (hts : ∀ w ∈ wsL_law, w.before args s = true) (hlt : l.stackTraces = false) (hK : va_K (dC, dI) clW (tyW ac) s) (hZ : ZX sa (fun q => s.heap.size ≤ q) s s.heap) (hZL : ZL s) (hX : va_X b L xs s s.heap) (hbl : b < s.heap.size) (hL : L ≤ 3072) (hl : lv_has ls 7 [(0, .ref b), (1, .ref a1), (2, .ref a2), (3, .ref o), (4, .int (i32 i))]) (hS : va_S (fun q => s.heap.size ≤ q) s.heap H locs) (hi : i + 6 ≤ L) (hn : n < 1000) (hJ : JG dC dI ac sa s.heap.size o a1 a2 (fun x mm _ => Rel n x mm) H) (hc : cells + 13 ≤ 1201024 ∧ slots + 423 ≤ 5493034)
    (kk : ∀ (H1 : Heap) (locs1 : List Loc) (ls1 : Array Slot), lv_has ls1 7 [(0, .ref b), (1, .ref a1), (2, .ref a2), (3, .ref o), (4, .int (i32 i))] → va_S (fun q => s.heap.size ≤ q) s.heap H1 locs1 → JG dC dI ac sa s.heap.size o a1 a2 (fun x mm _ => Rel (n + 1) x mm) H1 → W p l e room_1 s m args below meth c H1 locs1 (cells + 13) (slots + 423) Z (F0 m 1832 ls1 [])) :
    W p l e room_1 s m args below meth c H locs cells slots Z (F0 m 1397 ls []) := by
  refine lv_aload_n hx hb dL_law_1397 rfl (lv_at hl 1 rfl) ?_
  refine lv_aload_n hx hb dL_law_1398 rfl (lv_at hl 0 rfl) ?_
  refine lv_iload hx hb dL_law_1399 (lv_at hl 4 rfl) ?_
  refine lv_iconst (v := 1) hx hb dL_law_1401 (by decide) ?_
  refine lv_iadd hx hb dL_law_1402 ?_
  refine lw_sld hx hb hX hbl hL hS (i := i) (j := 1) rfl (by omega) dL_law_1403 ?_
  refine lv_aload_n hx hb dL_law_1404 rfl (lv_at hl 3 rfl) ?_
  obtain ⟨A, ad, x, mm, v, jB, jP, jA, jo, rfl, j3, jsa, j8, hR, jO, joA, jC⟩ := hJ.openX hS hK hZ hZL
  refine vx_calli (vx_runSX (hh := [(0, 9, 12, 13)]) (As := [.ref (ad 0 0), .int (xs (i + 1)), .ref o]) (rest := []) ⟨hx, hb, hml, hown, hts⟩ (mL_sheet l hlt dC dI ac sa A ad o x 0 (xs (i + 1)) v _ (op_sheet n x mm (xs (i + 1)) v hR) j3) (vx_cwSW 3 hts gL_law_L_sheet rfl rfl rfl (by decide +kernel) ⟨Nat.le_of_ble_eq_true rfl, Nat.le_of_ble_eq_true rfl⟩) ⟨BW.blind, fun U hU hW => ⟨rfl, jB U hU hW⟩⟩ rfl rfl hl.1 rfl (lv_room (Nat.le_of_ble_eq_true rfl)) dL_law_1405 ⟨by show cells + 13 ≤ 1201024; omega, by show slots + 423 ≤ 5493034; omega⟩) hS (fun q _ h => h.elim (jA q) (fun h => by rw [h]; exact jo)) (fun q h => h.elim (jA q) (fun h => by rw [h]; exact jo)) (fun q _ h => h.elim) (fun E9 ce9 q9 u9 t9 H9 locs9 ht9 hvm9 hpx => hpx.elim) (fun r1 u1 t H1 locs1 ht hvm hw hB hz hk hS1 => ?_)
  obtain ⟨x1, ad1, v1⟩ := u1
  obtain ⟨hQ, hle⟩ := hw
  obtain ⟨hP1, hO1⟩ := hB
  have hJ1 := jC H1 ad1 x1 v1 (fun x mm v => F_X10_sheet mm 0 (xs (i + 1)) (fun rr m9 => gI m9 0 0 0 = r1 ∧ (r1 = 0 → v = rr.toInt64) ∧ Rel (n + 1) x m9)) (tw_back hP1 ht) (by rw [← ht]; exact hO1) hle hz hk hQ
  refine lv_istore (lv' := [(5, .int r1), (0, .ref b), (1, .ref (ad 0 0)), (2, .ref a2), (3, .ref o), (4, .int (i32 i))]) hx hb dL_law_1408 hl (by decide) rfl (fun ls hl => ?_)
  refine lv_aload_n hx hb dL_law_1410 rfl (lv_at hl 3 rfl) ?_
  refine lv_aload_n hx hb dL_law_1411 rfl (lv_at hl 1 rfl) ?_
  refine lv_iload hx hb dL_law_1412 (lv_at hl 5 rfl) ?_
  refine lv_iconst (v := 1) hx hb dL_law_1414 (by decide) ?_
  refine lv_iadd hx hb dL_law_1415 ?_
  refine lw_sld hx hb hX hbl hL hS1 (i := i) (j := 1) rfl (by omega) dL_law_1416 ?_
  obtain ⟨A2, ad2, x2, mm2, v2, kB, kP, kA, rfl, k4, kF, kC⟩ := hJ1.openM hS1 hK
  refine va_calli (va_runV (As := [.int (xs (i + 1))]) (rest := []) ⟨hx, hb, hml, hown, hts⟩ (mX10_sheet l dC dI ac sa A2 ad2 mm2 0 (xs (i + 1)) _ kF k4) (cwV 1 hts gL_law_X10_sheet rfl rfl rfl (by decide +kernel) ⟨Nat.le_of_ble_eq_true rfl, Nat.le_of_ble_eq_true rfl⟩) ⟨BM.blind, tw_recv hK kP (by decide) k4 rfl rfl, fun U hU hW => ⟨rfl, kB U hU hW⟩⟩ rfl rfl hl.1 rfl (lv_room (Nat.le_of_ble_eq_true rfl)) dL_law_1417 ⟨by show cells + 13 + 0 ≤ 1201024; omega, by show slots + 423 + 0 ≤ 5493034; omega⟩) hS1 (fun q _ h => kA q h) (fun q h => kA q h) (fun r2 m2 t2 H2 locs2 ht2 hvm2 hw2 hB2 hz2 hk2 hS2 => ?_)
  have hJ2 := kC H2 m2 (fun x m9 v => gI m9 0 0 0 = r1 ∧ (r1 = 0 → v = r2.toInt64) ∧ Rel (n + 1) x m9) (tw_back hB2 ht2) hw2.2 hz2 hk2 hw2.1
  refine lv_istore (lv' := [(6, .int r2), (5, .int r1), (0, .ref b), (1, .ref (ad 0 0)), (2, .ref (ad2 0 0)), (3, .ref o), (4, .int (i32 i))]) hx hb dL_law_1420 hl (by decide) rfl (fun ls hl => ?_)
  refine lv_aload_n hx hb dL_law_1422 rfl (lv_at hl 4 rfl) ?_
  obtain ⟨A3, ad3, x3, mm3, v3, nB, nP, nA, n2, n4, nF, nC⟩ := hJ2.openM hS2 hK
  rw [← n2] at hl ⊢
  refine va_calli (va_runV (As := []) (rest := []) ⟨hx, hb, hml, hown, hts⟩ (mX10_thrown l dC dI ac sa A3 ad3 mm3 0 (fun r u => r = gI mm3 0 0 0 ∧ u = mm3) ⟨rfl, rfl⟩ n4) (cwV 0 hts gL_law_X10_thrown rfl rfl rfl (by decide +kernel) ⟨Nat.le_of_ble_eq_true rfl, Nat.le_of_ble_eq_true rfl⟩) ⟨BM.blind, tw_recv hK nP (by decide) n4 rfl rfl, fun U hU hW => ⟨rfl, nB U hU hW⟩⟩ rfl rfl hl.1 rfl (lv_room (Nat.le_of_ble_eq_true rfl)) dL_law_1423 ⟨by show cells + 13 + 0 + 0 ≤ 1201024; omega, by show slots + 423 + 0 + 0 ≤ 5493034; omega⟩) hS2 (fun q _ h => nA q h) (fun q h => nA q h) (fun r3 m3 t3 H3 locs3 ht3 hvm3 hw3 hB3 hz3 hk3 hS3 => ?_)
  obtain ⟨⟨e3, rfl⟩, hN3⟩ := hw3
  obtain ⟨nF1, nF2, nF3⟩ := nF
  rw [nF1] at e3
  subst e3
  have hJ3 := nC H3 m3 (fun x m9 v => (r3 = 0 → v = r2.toInt64) ∧ Rel (n + 1) x m9) (tw_back hB3 ht3) rfl hz3 hk3 ⟨nF2, nF3⟩
  rw [n2] at hl
  refine lv_iload hx hb dL_law_1426 (lv_at hl 1 rfl) ?_
  refine lv_icmp_eq (tgt := 1433) hx hb dL_law_1428 (by decide) (fun _ => ?_) (fun c9 => absurd rfl c9)
  have hlE := lv_sub (l' := [(0, .ref b), (1, .ref (ad 0 0)), (2, .ref (ad2 0 0)), (3, .ref o), (4, .int (i32 i))]) hl [2, 3, 4, 5, 6] rfl
  refine lv_iload hx hb dL_law_1433 (lv_at hl 1 rfl) ?_
  refine lv_if_ne (tgt := 1450) hx hb dL_law_1435 (by decide) (fun _ => ?_) (fun c8 => ?_)
  · refine lv_goto (tgt := 1832) hx hb dL_law_1450 (by decide) ?_
    refine W.widen (k := cells + 13) (n := slots + 423) (by omega) (by omega) ?_
    exact kk H3 locs3 ls hlE hS3 (hJ3.imp (fun _ _ _ h => h.2))
  obtain ⟨v9, hO9, x9, mm9, hv9, -⟩ := hJ3.out
  have hv9 := hv9 c8
  refine lv_aload_n hx hb dL_law_1438 rfl (lv_at hl 5 rfl) ?_
  refine lv_iconst (v := 0) hx hb dL_law_1439 (by decide) ?_
  refine wr_lald hx hb hK hO9 dL_law_1440 ?_
  refine lv_iload hx hb dL_law_1441 (lv_at hl 0 rfl) ?_
  refine lv_i2l (v := r2.toInt64) hx hb dL_law_1443 rfl ?_
  refine W.lcmp hx hb dL_law_1444 ?_
  refine lv_if_eq (tgt := 1450) hx hb dL_law_1445 (by decide) (fun _ => ?_) (fun c9 => absurd (by rw [hv9]; exact cmp_self) c9)
  refine lv_goto (tgt := 1832) hx hb dL_law_1450 (by decide) ?_
  refine W.widen (k := cells + 13) (n := slots + 423) (by omega) (by omega) ?_
  exact kk H3 locs3 ls hlE hS3 (hJ3.imp (fun _ _ _ h => h.2))
set_option maxHeartbeats 4000000 in
set_option maxRecDepth 100000 in
theorem lwc_row (hx : p.tables.exec = Jvm.exec) (hb : c.code = cL_law) (hml : c.maxLocals = 7) (hown : s.vm.findClass RL = some m.cls) (hts : ∀ w ∈ wsL_law, w.before args s = true) (hlt : l.stackTraces = false) (hK : va_K (dC, dI) clW (tyW ac) s) (hZ : ZX sa (fun q => s.heap.size ≤ q) s s.heap) (hZL : ZL s) (hX : va_X b L xs s s.heap) (hbl : b < s.heap.size) (hL : L ≤ 3072) (hl : lv_has ls 7 [(0, .ref b), (1, .ref a1), (2, .ref a2), (3, .ref o), (4, .int (i32 i))]) (hS : va_S (fun q => s.heap.size ≤ q) s.heap H locs) (hi : i + 6 ≤ L) (hn : n < 1000) (hJ : JG dC dI ac sa s.heap.size o a1 a2 (fun x mm _ => Rel n x mm) H) (hc : cells + 13 ≤ 1201024 ∧ slots + 423 ≤ 5493034)
    (kk : ∀ (H1 : Heap) (locs1 : List Loc) (ls1 : Array Slot), lv_has ls1 7 [(0, .ref b), (1, .ref a1), (2, .ref a2), (3, .ref o), (4, .int (i32 i))] → va_S (fun q => s.heap.size ≤ q) s.heap H1 locs1 → JG dC dI ac sa s.heap.size o a1 a2 (fun x mm _ => Rel (n + 1) x mm) H1 → W p l e room_1 s m args below meth c H1 locs1 (cells + 13) (slots + 423) Z (F0 m 1832 ls1 [])) :
    W p l e room_1 s m args below meth c H locs cells slots Z (F0 m 1453 ls []) := by
  refine lv_aload_n hx hb dL_law_1453 rfl (lv_at hl 1 rfl) ?_
  refine lv_aload_n hx hb dL_law_1454 rfl (lv_at hl 0 rfl) ?_
  refine lv_iload hx hb dL_law_1455 (lv_at hl 4 rfl) ?_
  refine lv_iconst (v := 1) hx hb dL_law_1457 (by decide) ?_
  refine lv_iadd hx hb dL_law_1458 ?_
  refine lw_sld hx hb hX hbl hL hS (i := i) (j := 1) rfl (by omega) dL_law_1459 ?_
  refine lv_aload_n hx hb dL_law_1460 rfl (lv_at hl 0 rfl) ?_
  refine lv_iload hx hb dL_law_1461 (lv_at hl 4 rfl) ?_
  refine lv_iconst (v := 2) hx hb dL_law_1463 (by decide) ?_
  refine lv_iadd hx hb dL_law_1464 ?_
  refine lw_sld hx hb hX hbl hL hS (i := i) (j := 2) rfl (by omega) dL_law_1465 ?_
  refine lv_aload_n hx hb dL_law_1466 rfl (lv_at hl 0 rfl) ?_
  refine lv_iload hx hb dL_law_1467 (lv_at hl 4 rfl) ?_
  refine lv_iconst (v := 3) hx hb dL_law_1469 (by decide) ?_
  refine lv_iadd hx hb dL_law_1470 ?_
  refine lw_sld hx hb hX hbl hL hS (i := i) (j := 3) rfl (by omega) dL_law_1471 ?_
  refine lv_aload_n hx hb dL_law_1472 rfl (lv_at hl 3 rfl) ?_
  obtain ⟨A, ad, x, mm, v, jB, jP, jA, jo, rfl, j3, jsa, j8, hR, jO, joA, jC⟩ := hJ.openX hS hK hZ hZL
  refine vx_calli (vx_runSX (hh := [(0, 12, 15, 19)]) (As := [.ref (ad 0 0), .int (xs (i + 1)), .int (xs (i + 2)), .int (xs (i + 3)), .ref o]) (rest := []) ⟨hx, hb, hml, hown, hts⟩ (mL_row l hlt dC dI ac sa A ad o x 0 (xs (i + 1)) (xs (i + 2)) (xs (i + 3)) v _ (op_row n x mm (xs (i + 1)) (xs (i + 2)) (xs (i + 3)) v hR) j3) (vx_cwSW 5 hts gL_law_L_row rfl rfl rfl (by decide +kernel) ⟨Nat.le_of_ble_eq_true rfl, Nat.le_of_ble_eq_true rfl⟩) ⟨BW.blind, fun U hU hW => ⟨rfl, jB U hU hW⟩⟩ rfl rfl hl.1 rfl (lv_room (Nat.le_of_ble_eq_true rfl)) dL_law_1473 ⟨by show cells + 1 ≤ 1201024; omega, by show slots + 6 ≤ 5493034; omega⟩) hS (fun q _ h => h.elim (jA q) (fun h => by rw [h]; exact jo)) (fun q h => h.elim (jA q) (fun h => by rw [h]; exact jo)) (fun q _ h => h.elim) (fun E9 ce9 q9 u9 t9 H9 locs9 ht9 hvm9 hpx => hpx.elim) (fun r1 u1 t H1 locs1 ht hvm hw hB hz hk hS1 => ?_)
  obtain ⟨x1, ad1, v1⟩ := u1
  obtain ⟨hQ, hle⟩ := hw
  obtain ⟨hP1, hO1⟩ := hB
  have hJ1 := jC H1 ad1 x1 v1 (fun x mm v => F_X10_row mm 0 (xs (i + 1)) (xs (i + 2)) (xs (i + 3)) (fun rr m9 => gI m9 0 0 0 = r1 ∧ (r1 = 0 → v = rr.toInt64) ∧ Rel (n + 1) x m9)) (tw_back hP1 ht) (by rw [← ht]; exact hO1) hle hz hk hQ
  refine lv_istore (lv' := [(5, .int r1), (0, .ref b), (1, .ref (ad 0 0)), (2, .ref a2), (3, .ref o), (4, .int (i32 i))]) hx hb dL_law_1476 hl (by decide) rfl (fun ls hl => ?_)
  refine lv_aload_n hx hb dL_law_1478 rfl (lv_at hl 3 rfl) ?_
  refine lv_aload_n hx hb dL_law_1479 rfl (lv_at hl 1 rfl) ?_
  refine lv_iload hx hb dL_law_1480 (lv_at hl 5 rfl) ?_
  refine lv_iconst (v := 1) hx hb dL_law_1482 (by decide) ?_
  refine lv_iadd hx hb dL_law_1483 ?_
  refine lw_sld hx hb hX hbl hL hS1 (i := i) (j := 1) rfl (by omega) dL_law_1484 ?_
  refine lv_aload_n hx hb dL_law_1485 rfl (lv_at hl 1 rfl) ?_
  refine lv_iload hx hb dL_law_1486 (lv_at hl 5 rfl) ?_
  refine lv_iconst (v := 2) hx hb dL_law_1488 (by decide) ?_
  refine lv_iadd hx hb dL_law_1489 ?_
  refine lw_sld hx hb hX hbl hL hS1 (i := i) (j := 2) rfl (by omega) dL_law_1490 ?_
  refine lv_aload_n hx hb dL_law_1491 rfl (lv_at hl 1 rfl) ?_
  refine lv_iload hx hb dL_law_1492 (lv_at hl 5 rfl) ?_
  refine lv_iconst (v := 3) hx hb dL_law_1494 (by decide) ?_
  refine lv_iadd hx hb dL_law_1495 ?_
  refine lw_sld hx hb hX hbl hL hS1 (i := i) (j := 3) rfl (by omega) dL_law_1496 ?_
  obtain ⟨A2, ad2, x2, mm2, v2, kB, kP, kA, rfl, k4, kF, kC⟩ := hJ1.openM hS1 hK
  refine va_calli (va_runV (As := [.int (xs (i + 1)), .int (xs (i + 2)), .int (xs (i + 3))]) (rest := []) ⟨hx, hb, hml, hown, hts⟩ (mX10_row l dC dI ac sa A2 ad2 mm2 0 (xs (i + 1)) (xs (i + 2)) (xs (i + 3)) _ kF k4) (cwV 3 hts gL_law_X10_row rfl rfl rfl (by decide +kernel) ⟨Nat.le_of_ble_eq_true rfl, Nat.le_of_ble_eq_true rfl⟩) ⟨BM.blind, tw_recv hK kP (by decide) k4 rfl rfl, fun U hU hW => ⟨rfl, kB U hU hW⟩⟩ rfl rfl hl.1 rfl (lv_room (Nat.le_of_ble_eq_true rfl)) dL_law_1497 ⟨by show cells + 1 + 0 ≤ 1201024; omega, by show slots + 6 + 0 ≤ 5493034; omega⟩) hS1 (fun q _ h => kA q h) (fun q h => kA q h) (fun r2 m2 t2 H2 locs2 ht2 hvm2 hw2 hB2 hz2 hk2 hS2 => ?_)
  have hJ2 := kC H2 m2 (fun x m9 v => gI m9 0 0 0 = r1 ∧ (r1 = 0 → v = r2.toInt64) ∧ Rel (n + 1) x m9) (tw_back hB2 ht2) hw2.2 hz2 hk2 hw2.1
  refine lv_istore (lv' := [(6, .int r2), (5, .int r1), (0, .ref b), (1, .ref (ad 0 0)), (2, .ref (ad2 0 0)), (3, .ref o), (4, .int (i32 i))]) hx hb dL_law_1500 hl (by decide) rfl (fun ls hl => ?_)
  refine lv_aload_n hx hb dL_law_1502 rfl (lv_at hl 4 rfl) ?_
  obtain ⟨A3, ad3, x3, mm3, v3, nB, nP, nA, n2, n4, nF, nC⟩ := hJ2.openM hS2 hK
  rw [← n2] at hl ⊢
  refine va_calli (va_runV (As := []) (rest := []) ⟨hx, hb, hml, hown, hts⟩ (mX10_thrown l dC dI ac sa A3 ad3 mm3 0 (fun r u => r = gI mm3 0 0 0 ∧ u = mm3) ⟨rfl, rfl⟩ n4) (cwV 0 hts gL_law_X10_thrown rfl rfl rfl (by decide +kernel) ⟨Nat.le_of_ble_eq_true rfl, Nat.le_of_ble_eq_true rfl⟩) ⟨BM.blind, tw_recv hK nP (by decide) n4 rfl rfl, fun U hU hW => ⟨rfl, nB U hU hW⟩⟩ rfl rfl hl.1 rfl (lv_room (Nat.le_of_ble_eq_true rfl)) dL_law_1503 ⟨by show cells + 1 + 0 + 0 ≤ 1201024; omega, by show slots + 6 + 0 + 0 ≤ 5493034; omega⟩) hS2 (fun q _ h => nA q h) (fun q h => nA q h) (fun r3 m3 t3 H3 locs3 ht3 hvm3 hw3 hB3 hz3 hk3 hS3 => ?_)
  obtain ⟨⟨e3, rfl⟩, hN3⟩ := hw3
  obtain ⟨nF1, nF2, nF3⟩ := nF
  rw [nF1] at e3
  subst e3
  have hJ3 := nC H3 m3 (fun x m9 v => (r3 = 0 → v = r2.toInt64) ∧ Rel (n + 1) x m9) (tw_back hB3 ht3) rfl hz3 hk3 ⟨nF2, nF3⟩
  rw [n2] at hl
  refine lv_iload hx hb dL_law_1506 (lv_at hl 1 rfl) ?_
  refine lv_icmp_eq (tgt := 1513) hx hb dL_law_1508 (by decide) (fun _ => ?_) (fun c9 => absurd rfl c9)
  have hlE := lv_sub (l' := [(0, .ref b), (1, .ref (ad 0 0)), (2, .ref (ad2 0 0)), (3, .ref o), (4, .int (i32 i))]) hl [2, 3, 4, 5, 6] rfl
  refine lv_iload hx hb dL_law_1513 (lv_at hl 1 rfl) ?_
  refine lv_if_ne (tgt := 1530) hx hb dL_law_1515 (by decide) (fun _ => ?_) (fun c8 => ?_)
  · refine lv_goto (tgt := 1832) hx hb dL_law_1530 (by decide) ?_
    refine W.widen (k := cells + 13) (n := slots + 423) (by omega) (by omega) ?_
    exact kk H3 locs3 ls hlE hS3 (hJ3.imp (fun _ _ _ h => h.2))
  obtain ⟨v9, hO9, x9, mm9, hv9, -⟩ := hJ3.out
  have hv9 := hv9 c8
  refine lv_aload_n hx hb dL_law_1518 rfl (lv_at hl 5 rfl) ?_
  refine lv_iconst (v := 0) hx hb dL_law_1519 (by decide) ?_
  refine wr_lald hx hb hK hO9 dL_law_1520 ?_
  refine lv_iload hx hb dL_law_1521 (lv_at hl 0 rfl) ?_
  refine lv_i2l (v := r2.toInt64) hx hb dL_law_1523 rfl ?_
  refine W.lcmp hx hb dL_law_1524 ?_
  refine lv_if_eq (tgt := 1530) hx hb dL_law_1525 (by decide) (fun _ => ?_) (fun c9 => absurd (by rw [hv9]; exact cmp_self) c9)
  refine lv_goto (tgt := 1832) hx hb dL_law_1530 (by decide) ?_
  refine W.widen (k := cells + 13) (n := slots + 423) (by omega) (by omega) ?_
  exact kk H3 locs3 ls hlE hS3 (hJ3.imp (fun _ _ _ h => h.2))
set_option maxHeartbeats 4000000 in
set_option maxRecDepth 100000 in
theorem lwc_set (hx : p.tables.exec = Jvm.exec) (hb : c.code = cL_law) (hml : c.maxLocals = 7) (hown : s.vm.findClass RL = some m.cls) (hts : ∀ w ∈ wsL_law, w.before args s = true) (hlt : l.stackTraces = false) (hK : va_K (dC, dI) clW (tyW ac) s) (hZ : ZX sa (fun q => s.heap.size ≤ q) s s.heap) (hZL : ZL s) (hX : va_X b L xs s s.heap) (hbl : b < s.heap.size) (hL : L ≤ 3072) (hl : lv_has ls 7 [(0, .ref b), (1, .ref a1), (2, .ref a2), (3, .ref o), (4, .int (i32 i))]) (hS : va_S (fun q => s.heap.size ≤ q) s.heap H locs) (hi : i + 6 ≤ L) (hn : n < 1000) (hJ : JG dC dI ac sa s.heap.size o a1 a2 (fun x mm _ => Rel n x mm) H) (hc : cells + 13 ≤ 1201024 ∧ slots + 423 ≤ 5493034)
    (kk : ∀ (H1 : Heap) (locs1 : List Loc) (ls1 : Array Slot), lv_has ls1 7 [(0, .ref b), (1, .ref a1), (2, .ref a2), (3, .ref o), (4, .int (i32 i))] → va_S (fun q => s.heap.size ≤ q) s.heap H1 locs1 → JG dC dI ac sa s.heap.size o a1 a2 (fun x mm _ => Rel (n + 1) x mm) H1 → W p l e room_1 s m args below meth c H1 locs1 (cells + 13) (slots + 423) Z (F0 m 1832 ls1 [])) :
    W p l e room_1 s m args below meth c H locs cells slots Z (F0 m 1533 ls []) := by
  refine lv_aload_n hx hb dL_law_1533 rfl (lv_at hl 1 rfl) ?_
  refine lv_aload_n hx hb dL_law_1534 rfl (lv_at hl 0 rfl) ?_
  refine lv_iload hx hb dL_law_1535 (lv_at hl 4 rfl) ?_
  refine lv_iconst (v := 1) hx hb dL_law_1537 (by decide) ?_
  refine lv_iadd hx hb dL_law_1538 ?_
  refine lw_sld hx hb hX hbl hL hS (i := i) (j := 1) rfl (by omega) dL_law_1539 ?_
  refine lv_aload_n hx hb dL_law_1540 rfl (lv_at hl 0 rfl) ?_
  refine lv_iload hx hb dL_law_1541 (lv_at hl 4 rfl) ?_
  refine lv_iconst (v := 2) hx hb dL_law_1543 (by decide) ?_
  refine lv_iadd hx hb dL_law_1544 ?_
  refine lw_sld hx hb hX hbl hL hS (i := i) (j := 2) rfl (by omega) dL_law_1545 ?_
  refine lv_aload_n hx hb dL_law_1546 rfl (lv_at hl 0 rfl) ?_
  refine lv_iload hx hb dL_law_1547 (lv_at hl 4 rfl) ?_
  refine lv_iconst (v := 3) hx hb dL_law_1549 (by decide) ?_
  refine lv_iadd hx hb dL_law_1550 ?_
  refine lw_sld hx hb hX hbl hL hS (i := i) (j := 3) rfl (by omega) dL_law_1551 ?_
  refine lv_aload_n hx hb dL_law_1552 rfl (lv_at hl 0 rfl) ?_
  refine lv_iload hx hb dL_law_1553 (lv_at hl 4 rfl) ?_
  refine lv_iconst (v := 4) hx hb dL_law_1555 (by decide) ?_
  refine lv_iadd hx hb dL_law_1556 ?_
  refine lw_sld hx hb hX hbl hL hS (i := i) (j := 4) rfl (by omega) dL_law_1557 ?_
  refine lv_i2l (v := (xs (i + 4)).toInt64) hx hb dL_law_1558 rfl ?_
  refine lv_bipush (v := 32) hx hb dL_law_1559 (by decide) ?_
  refine lv_lshl (v := ((xs (i + 4)).toInt64) <<< ((32 : Int32).toInt64 &&& 63)) hx hb dL_law_1561 rfl ?_
  refine lv_aload_n hx hb dL_law_1562 rfl (lv_at hl 0 rfl) ?_
  refine lv_iload hx hb dL_law_1563 (lv_at hl 4 rfl) ?_
  refine lv_iconst (v := 5) hx hb dL_law_1565 (by decide) ?_
  refine lv_iadd hx hb dL_law_1566 ?_
  refine lw_sld hx hb hX hbl hL hS (i := i) (j := 5) rfl (by omega) dL_law_1567 ?_
  refine lv_i2l (v := (xs (i + 5)).toInt64) hx hb dL_law_1568 rfl ?_
  refine lv_ldc2 (v := 4294967295) hx hb hown (hts (.constantLong RL 163 4294967295) (by decide +kernel)) dL_law_1569 ?_
  refine lv_land hx hb dL_law_1572 ?_
  refine lv_lor hx hb dL_law_1573 ?_
  refine lv_aload_n hx hb dL_law_1574 rfl (lv_at hl 3 rfl) ?_
  obtain ⟨A, ad, x, mm, v, jB, jP, jA, jo, rfl, j3, jsa, j8, hR, jO, joA, jC⟩ := hJ.openX hS hK hZ hZL
  refine vx_calli (vx_runSX (hh := [(0, 14, 17, 19)]) (As := [.ref (ad 0 0), .int (xs (i + 1)), .int (xs (i + 2)), .int (xs (i + 3)), .long ((((xs (i + 4)).toInt64) <<< ((32 : Int32).toInt64 &&& 63)) ||| (((xs (i + 5)).toInt64) &&& (4294967295 : Int64))), .ref o]) (rest := []) ⟨hx, hb, hml, hown, hts⟩ (mL_set l hlt dC dI ac sa A ad o x 0 (xs (i + 1)) (xs (i + 2)) (xs (i + 3)) ((((xs (i + 4)).toInt64) <<< ((32 : Int32).toInt64 &&& 63)) ||| (((xs (i + 5)).toInt64) &&& (4294967295 : Int64))) v _ (op_set n x mm (xs (i + 1)) (xs (i + 2)) (xs (i + 3)) ((((xs (i + 4)).toInt64) <<< ((32 : Int32).toInt64 &&& 63)) ||| (((xs (i + 5)).toInt64) &&& (4294967295 : Int64))) v hR) j3) (vx_cwSW 6 hts gL_law_L_set rfl rfl rfl (by decide +kernel) ⟨Nat.le_of_ble_eq_true rfl, Nat.le_of_ble_eq_true rfl⟩) ⟨BW.blind, fun U hU hW => ⟨rfl, jB U hU hW⟩⟩ rfl rfl hl.1 rfl (lv_room (Nat.le_of_ble_eq_true rfl)) dL_law_1575 ⟨by show cells + 1 ≤ 1201024; omega, by show slots + 6 ≤ 5493034; omega⟩) hS (fun q _ h => h.elim (jA q) (fun h => by rw [h]; exact jo)) (fun q h => h.elim (jA q) (fun h => by rw [h]; exact jo)) (fun q _ h => h.elim) (fun E9 ce9 q9 u9 t9 H9 locs9 ht9 hvm9 hpx => hpx.elim) (fun r1 u1 t H1 locs1 ht hvm hw hB hz hk hS1 => ?_)
  obtain ⟨x1, ad1, v1⟩ := u1
  obtain ⟨hQ, hle⟩ := hw
  obtain ⟨hP1, hO1⟩ := hB
  have hJ1 := jC H1 ad1 x1 v1 (fun x mm v => F_X10_set mm 0 (xs (i + 1)) (xs (i + 2)) (xs (i + 3)) ((((xs (i + 4)).toInt64) <<< ((32 : Int32).toInt64 &&& 63)) ||| (((xs (i + 5)).toInt64) &&& (4294967295 : Int64))) (fun rr m9 => gI m9 0 0 0 = r1 ∧ (r1 = 0 → v = rr.toInt64) ∧ Rel (n + 1) x m9)) (tw_back hP1 ht) (by rw [← ht]; exact hO1) hle hz hk hQ
  refine lv_istore (lv' := [(5, .int r1), (0, .ref b), (1, .ref (ad 0 0)), (2, .ref a2), (3, .ref o), (4, .int (i32 i))]) hx hb dL_law_1578 hl (by decide) rfl (fun ls hl => ?_)
  refine lv_aload_n hx hb dL_law_1580 rfl (lv_at hl 3 rfl) ?_
  refine lv_aload_n hx hb dL_law_1581 rfl (lv_at hl 1 rfl) ?_
  refine lv_iload hx hb dL_law_1582 (lv_at hl 5 rfl) ?_
  refine lv_iconst (v := 1) hx hb dL_law_1584 (by decide) ?_
  refine lv_iadd hx hb dL_law_1585 ?_
  refine lw_sld hx hb hX hbl hL hS1 (i := i) (j := 1) rfl (by omega) dL_law_1586 ?_
  refine lv_aload_n hx hb dL_law_1587 rfl (lv_at hl 1 rfl) ?_
  refine lv_iload hx hb dL_law_1588 (lv_at hl 5 rfl) ?_
  refine lv_iconst (v := 2) hx hb dL_law_1590 (by decide) ?_
  refine lv_iadd hx hb dL_law_1591 ?_
  refine lw_sld hx hb hX hbl hL hS1 (i := i) (j := 2) rfl (by omega) dL_law_1592 ?_
  refine lv_aload_n hx hb dL_law_1593 rfl (lv_at hl 1 rfl) ?_
  refine lv_iload hx hb dL_law_1594 (lv_at hl 5 rfl) ?_
  refine lv_iconst (v := 3) hx hb dL_law_1596 (by decide) ?_
  refine lv_iadd hx hb dL_law_1597 ?_
  refine lw_sld hx hb hX hbl hL hS1 (i := i) (j := 3) rfl (by omega) dL_law_1598 ?_
  refine lv_aload_n hx hb dL_law_1599 rfl (lv_at hl 1 rfl) ?_
  refine lv_iload hx hb dL_law_1600 (lv_at hl 5 rfl) ?_
  refine lv_iconst (v := 4) hx hb dL_law_1602 (by decide) ?_
  refine lv_iadd hx hb dL_law_1603 ?_
  refine lw_sld hx hb hX hbl hL hS1 (i := i) (j := 4) rfl (by omega) dL_law_1604 ?_
  refine lv_i2l (v := (xs (i + 4)).toInt64) hx hb dL_law_1605 rfl ?_
  refine lv_bipush (v := 32) hx hb dL_law_1606 (by decide) ?_
  refine lv_lshl (v := ((xs (i + 4)).toInt64) <<< ((32 : Int32).toInt64 &&& 63)) hx hb dL_law_1608 rfl ?_
  refine lv_aload_n hx hb dL_law_1609 rfl (lv_at hl 1 rfl) ?_
  refine lv_iload hx hb dL_law_1610 (lv_at hl 5 rfl) ?_
  refine lv_iconst (v := 5) hx hb dL_law_1612 (by decide) ?_
  refine lv_iadd hx hb dL_law_1613 ?_
  refine lw_sld hx hb hX hbl hL hS1 (i := i) (j := 5) rfl (by omega) dL_law_1614 ?_
  refine lv_i2l (v := (xs (i + 5)).toInt64) hx hb dL_law_1615 rfl ?_
  refine lv_ldc2 (v := 4294967295) hx hb hown (hts (.constantLong RL 163 4294967295) (by decide +kernel)) dL_law_1616 ?_
  refine lv_land hx hb dL_law_1619 ?_
  refine lv_lor hx hb dL_law_1620 ?_
  obtain ⟨A2, ad2, x2, mm2, v2, kB, kP, kA, rfl, k4, kF, kC⟩ := hJ1.openM hS1 hK
  refine va_calli (va_runV (As := [.int (xs (i + 1)), .int (xs (i + 2)), .int (xs (i + 3)), .long ((((xs (i + 4)).toInt64) <<< ((32 : Int32).toInt64 &&& 63)) ||| (((xs (i + 5)).toInt64) &&& (4294967295 : Int64)))]) (rest := []) ⟨hx, hb, hml, hown, hts⟩ (mX10_set l dC dI ac sa A2 ad2 mm2 0 (xs (i + 1)) (xs (i + 2)) (xs (i + 3)) ((((xs (i + 4)).toInt64) <<< ((32 : Int32).toInt64 &&& 63)) ||| (((xs (i + 5)).toInt64) &&& (4294967295 : Int64))) _ kF k4) (cwV 4 hts gL_law_X10_set rfl rfl rfl (by decide +kernel) ⟨Nat.le_of_ble_eq_true rfl, Nat.le_of_ble_eq_true rfl⟩) ⟨BM.blind, tw_recv hK kP (by decide) k4 rfl rfl, fun U hU hW => ⟨rfl, kB U hU hW⟩⟩ rfl rfl hl.1 rfl (lv_room (Nat.le_of_ble_eq_true rfl)) dL_law_1621 ⟨by show cells + 1 + 0 ≤ 1201024; omega, by show slots + 6 + 0 ≤ 5493034; omega⟩) hS1 (fun q _ h => kA q h) (fun q h => kA q h) (fun r2 m2 t2 H2 locs2 ht2 hvm2 hw2 hB2 hz2 hk2 hS2 => ?_)
  have hJ2 := kC H2 m2 (fun x m9 v => gI m9 0 0 0 = r1 ∧ (r1 = 0 → v = r2.toInt64) ∧ Rel (n + 1) x m9) (tw_back hB2 ht2) hw2.2 hz2 hk2 hw2.1
  refine lv_istore (lv' := [(6, .int r2), (5, .int r1), (0, .ref b), (1, .ref (ad 0 0)), (2, .ref (ad2 0 0)), (3, .ref o), (4, .int (i32 i))]) hx hb dL_law_1624 hl (by decide) rfl (fun ls hl => ?_)
  refine lv_aload_n hx hb dL_law_1626 rfl (lv_at hl 4 rfl) ?_
  obtain ⟨A3, ad3, x3, mm3, v3, nB, nP, nA, n2, n4, nF, nC⟩ := hJ2.openM hS2 hK
  rw [← n2] at hl ⊢
  refine va_calli (va_runV (As := []) (rest := []) ⟨hx, hb, hml, hown, hts⟩ (mX10_thrown l dC dI ac sa A3 ad3 mm3 0 (fun r u => r = gI mm3 0 0 0 ∧ u = mm3) ⟨rfl, rfl⟩ n4) (cwV 0 hts gL_law_X10_thrown rfl rfl rfl (by decide +kernel) ⟨Nat.le_of_ble_eq_true rfl, Nat.le_of_ble_eq_true rfl⟩) ⟨BM.blind, tw_recv hK nP (by decide) n4 rfl rfl, fun U hU hW => ⟨rfl, nB U hU hW⟩⟩ rfl rfl hl.1 rfl (lv_room (Nat.le_of_ble_eq_true rfl)) dL_law_1627 ⟨by show cells + 1 + 0 + 0 ≤ 1201024; omega, by show slots + 6 + 0 + 0 ≤ 5493034; omega⟩) hS2 (fun q _ h => nA q h) (fun q h => nA q h) (fun r3 m3 t3 H3 locs3 ht3 hvm3 hw3 hB3 hz3 hk3 hS3 => ?_)
  obtain ⟨⟨e3, rfl⟩, hN3⟩ := hw3
  obtain ⟨nF1, nF2, nF3⟩ := nF
  rw [nF1] at e3
  subst e3
  have hJ3 := nC H3 m3 (fun x m9 v => (r3 = 0 → v = r2.toInt64) ∧ Rel (n + 1) x m9) (tw_back hB3 ht3) rfl hz3 hk3 ⟨nF2, nF3⟩
  rw [n2] at hl
  refine lv_iload hx hb dL_law_1630 (lv_at hl 1 rfl) ?_
  refine lv_icmp_eq (tgt := 1637) hx hb dL_law_1632 (by decide) (fun _ => ?_) (fun c9 => absurd rfl c9)
  have hlE := lv_sub (l' := [(0, .ref b), (1, .ref (ad 0 0)), (2, .ref (ad2 0 0)), (3, .ref o), (4, .int (i32 i))]) hl [2, 3, 4, 5, 6] rfl
  refine lv_iload hx hb dL_law_1637 (lv_at hl 1 rfl) ?_
  refine lv_if_ne (tgt := 1654) hx hb dL_law_1639 (by decide) (fun _ => ?_) (fun c8 => ?_)
  · refine lv_goto (tgt := 1832) hx hb dL_law_1654 (by decide) ?_
    refine W.widen (k := cells + 13) (n := slots + 423) (by omega) (by omega) ?_
    exact kk H3 locs3 ls hlE hS3 (hJ3.imp (fun _ _ _ h => h.2))
  obtain ⟨v9, hO9, x9, mm9, hv9, -⟩ := hJ3.out
  have hv9 := hv9 c8
  refine lv_aload_n hx hb dL_law_1642 rfl (lv_at hl 5 rfl) ?_
  refine lv_iconst (v := 0) hx hb dL_law_1643 (by decide) ?_
  refine wr_lald hx hb hK hO9 dL_law_1644 ?_
  refine lv_iload hx hb dL_law_1645 (lv_at hl 0 rfl) ?_
  refine lv_i2l (v := r2.toInt64) hx hb dL_law_1647 rfl ?_
  refine W.lcmp hx hb dL_law_1648 ?_
  refine lv_if_eq (tgt := 1654) hx hb dL_law_1649 (by decide) (fun _ => ?_) (fun c9 => absurd (by rw [hv9]; exact cmp_self) c9)
  refine lv_goto (tgt := 1832) hx hb dL_law_1654 (by decide) ?_
  refine W.widen (k := cells + 13) (n := slots + 423) (by omega) (by omega) ?_
  exact kk H3 locs3 ls hlE hS3 (hJ3.imp (fun _ _ _ h => h.2))
set_option maxHeartbeats 4000000 in
set_option maxRecDepth 100000 in
theorem lwc_deliver (hx : p.tables.exec = Jvm.exec) (hb : c.code = cL_law) (hml : c.maxLocals = 7) (hown : s.vm.findClass RL = some m.cls) (hts : ∀ w ∈ wsL_law, w.before args s = true) (hlt : l.stackTraces = false) (hK : va_K (dC, dI) clW (tyW ac) s) (hZ : ZX sa (fun q => s.heap.size ≤ q) s s.heap) (hZL : ZL s) (hX : va_X b L xs s s.heap) (hbl : b < s.heap.size) (hL : L ≤ 3072) (hl : lv_has ls 7 [(0, .ref b), (1, .ref a1), (2, .ref a2), (3, .ref o), (4, .int (i32 i))]) (hS : va_S (fun q => s.heap.size ≤ q) s.heap H locs) (hi : i + 6 ≤ L) (hn : n < 1000) (hJ : JG dC dI ac sa s.heap.size o a1 a2 (fun x mm _ => Rel n x mm) H) (hc : cells + 13 ≤ 1201024 ∧ slots + 423 ≤ 5493034)
    (kk : ∀ (H1 : Heap) (locs1 : List Loc) (ls1 : Array Slot), lv_has ls1 7 [(0, .ref b), (1, .ref a1), (2, .ref a2), (3, .ref o), (4, .int (i32 i))] → va_S (fun q => s.heap.size ≤ q) s.heap H1 locs1 → JG dC dI ac sa s.heap.size o a1 a2 (fun x mm _ => Rel (n + 1) x mm) H1 → W p l e room_1 s m args below meth c H1 locs1 (cells + 13) (slots + 423) Z (F0 m 1832 ls1 [])) :
    W p l e room_1 s m args below meth c H locs cells slots Z (F0 m 1657 ls []) := by
  refine lv_aload_n hx hb dL_law_1657 rfl (lv_at hl 1 rfl) ?_
  refine lv_aload_n hx hb dL_law_1658 rfl (lv_at hl 0 rfl) ?_
  refine lv_iload hx hb dL_law_1659 (lv_at hl 4 rfl) ?_
  refine lv_iconst (v := 1) hx hb dL_law_1661 (by decide) ?_
  refine lv_iadd hx hb dL_law_1662 ?_
  refine lw_sld hx hb hX hbl hL hS (i := i) (j := 1) rfl (by omega) dL_law_1663 ?_
  refine lv_aload_n hx hb dL_law_1664 rfl (lv_at hl 0 rfl) ?_
  refine lv_iload hx hb dL_law_1665 (lv_at hl 4 rfl) ?_
  refine lv_iconst (v := 2) hx hb dL_law_1667 (by decide) ?_
  refine lv_iadd hx hb dL_law_1668 ?_
  refine lw_sld hx hb hX hbl hL hS (i := i) (j := 2) rfl (by omega) dL_law_1669 ?_
  refine lv_aload_n hx hb dL_law_1670 rfl (lv_at hl 3 rfl) ?_
  obtain ⟨A, ad, x, mm, v, jB, jP, jA, jo, rfl, j3, jsa, j8, hR, jO, joA, jC⟩ := hJ.openX hS hK hZ hZL
  refine vx_calli (vx_runSX (hh := [(0, 10, 13, 19)]) (As := [.ref (ad 0 0), .int (xs (i + 1)), .int (xs (i + 2)), .ref o]) (rest := []) ⟨hx, hb, hml, hown, hts⟩ (mL_deliver l hlt dC dI ac sa A ad o x 0 (xs (i + 1)) (xs (i + 2)) v _ (op_deliver n x mm (xs (i + 1)) (xs (i + 2)) v hR) j3) (vx_cwSW 4 hts gL_law_L_deliver rfl rfl rfl (by decide +kernel) ⟨Nat.le_of_ble_eq_true rfl, Nat.le_of_ble_eq_true rfl⟩) ⟨BW.blind, fun U hU hW => ⟨rfl, jB U hU hW⟩⟩ rfl rfl hl.1 rfl (lv_room (Nat.le_of_ble_eq_true rfl)) dL_law_1671 ⟨by show cells + 12 ≤ 1201024; omega, by show slots + 94 ≤ 5493034; omega⟩) hS (fun q _ h => h.elim (jA q) (fun h => by rw [h]; exact jo)) (fun q h => h.elim (jA q) (fun h => by rw [h]; exact jo)) (fun q _ h => h.elim) (fun E9 ce9 q9 u9 t9 H9 locs9 ht9 hvm9 hpx => hpx.elim) (fun r1 u1 t H1 locs1 ht hvm hw hB hz hk hS1 => ?_)
  obtain ⟨x1, ad1, v1⟩ := u1
  obtain ⟨hQ, hle⟩ := hw
  obtain ⟨hP1, hO1⟩ := hB
  have hJ1 := jC H1 ad1 x1 v1 (fun x mm v => F_X10_deliver mm 0 (xs (i + 1)) (xs (i + 2)) (fun rr m9 => gI m9 0 0 0 = r1 ∧ (r1 = 0 → v = rr.toInt64) ∧ Rel (n + 1) x m9)) (tw_back hP1 ht) (by rw [← ht]; exact hO1) hle hz hk hQ
  refine lv_istore (lv' := [(5, .int r1), (0, .ref b), (1, .ref (ad 0 0)), (2, .ref a2), (3, .ref o), (4, .int (i32 i))]) hx hb dL_law_1674 hl (by decide) rfl (fun ls hl => ?_)
  refine lv_aload_n hx hb dL_law_1676 rfl (lv_at hl 3 rfl) ?_
  refine lv_aload_n hx hb dL_law_1677 rfl (lv_at hl 1 rfl) ?_
  refine lv_iload hx hb dL_law_1678 (lv_at hl 5 rfl) ?_
  refine lv_iconst (v := 1) hx hb dL_law_1680 (by decide) ?_
  refine lv_iadd hx hb dL_law_1681 ?_
  refine lw_sld hx hb hX hbl hL hS1 (i := i) (j := 1) rfl (by omega) dL_law_1682 ?_
  refine lv_aload_n hx hb dL_law_1683 rfl (lv_at hl 1 rfl) ?_
  refine lv_iload hx hb dL_law_1684 (lv_at hl 5 rfl) ?_
  refine lv_iconst (v := 2) hx hb dL_law_1686 (by decide) ?_
  refine lv_iadd hx hb dL_law_1687 ?_
  refine lw_sld hx hb hX hbl hL hS1 (i := i) (j := 2) rfl (by omega) dL_law_1688 ?_
  obtain ⟨A2, ad2, x2, mm2, v2, kB, kP, kA, rfl, k4, kF, kC⟩ := hJ1.openM hS1 hK
  refine va_calli (va_runV (As := [.int (xs (i + 1)), .int (xs (i + 2))]) (rest := []) ⟨hx, hb, hml, hown, hts⟩ (mX10_deliver l dC dI ac sa A2 ad2 mm2 0 (xs (i + 1)) (xs (i + 2)) _ kF k4) (cwV 2 hts gL_law_X10_deliver rfl rfl rfl (by decide +kernel) ⟨Nat.le_of_ble_eq_true rfl, Nat.le_of_ble_eq_true rfl⟩) ⟨BM.blind, tw_recv hK kP (by decide) k4 rfl rfl, fun U hU hW => ⟨rfl, kB U hU hW⟩⟩ rfl rfl hl.1 rfl (lv_room (Nat.le_of_ble_eq_true rfl)) dL_law_1689 ⟨by show cells + 12 + 0 ≤ 1201024; omega, by show slots + 94 + 0 ≤ 5493034; omega⟩) hS1 (fun q _ h => kA q h) (fun q h => kA q h) (fun r2 m2 t2 H2 locs2 ht2 hvm2 hw2 hB2 hz2 hk2 hS2 => ?_)
  have hJ2 := kC H2 m2 (fun x m9 v => gI m9 0 0 0 = r1 ∧ (r1 = 0 → v = r2.toInt64) ∧ Rel (n + 1) x m9) (tw_back hB2 ht2) hw2.2 hz2 hk2 hw2.1
  refine lv_istore (lv' := [(6, .int r2), (5, .int r1), (0, .ref b), (1, .ref (ad 0 0)), (2, .ref (ad2 0 0)), (3, .ref o), (4, .int (i32 i))]) hx hb dL_law_1692 hl (by decide) rfl (fun ls hl => ?_)
  refine lv_aload_n hx hb dL_law_1694 rfl (lv_at hl 4 rfl) ?_
  obtain ⟨A3, ad3, x3, mm3, v3, nB, nP, nA, n2, n4, nF, nC⟩ := hJ2.openM hS2 hK
  rw [← n2] at hl ⊢
  refine va_calli (va_runV (As := []) (rest := []) ⟨hx, hb, hml, hown, hts⟩ (mX10_thrown l dC dI ac sa A3 ad3 mm3 0 (fun r u => r = gI mm3 0 0 0 ∧ u = mm3) ⟨rfl, rfl⟩ n4) (cwV 0 hts gL_law_X10_thrown rfl rfl rfl (by decide +kernel) ⟨Nat.le_of_ble_eq_true rfl, Nat.le_of_ble_eq_true rfl⟩) ⟨BM.blind, tw_recv hK nP (by decide) n4 rfl rfl, fun U hU hW => ⟨rfl, nB U hU hW⟩⟩ rfl rfl hl.1 rfl (lv_room (Nat.le_of_ble_eq_true rfl)) dL_law_1695 ⟨by show cells + 12 + 0 + 0 ≤ 1201024; omega, by show slots + 94 + 0 + 0 ≤ 5493034; omega⟩) hS2 (fun q _ h => nA q h) (fun q h => nA q h) (fun r3 m3 t3 H3 locs3 ht3 hvm3 hw3 hB3 hz3 hk3 hS3 => ?_)
  obtain ⟨⟨e3, rfl⟩, hN3⟩ := hw3
  obtain ⟨nF1, nF2, nF3⟩ := nF
  rw [nF1] at e3
  subst e3
  have hJ3 := nC H3 m3 (fun x m9 v => (r3 = 0 → v = r2.toInt64) ∧ Rel (n + 1) x m9) (tw_back hB3 ht3) rfl hz3 hk3 ⟨nF2, nF3⟩
  rw [n2] at hl
  refine lv_iload hx hb dL_law_1698 (lv_at hl 1 rfl) ?_
  refine lv_icmp_eq (tgt := 1705) hx hb dL_law_1700 (by decide) (fun _ => ?_) (fun c9 => absurd rfl c9)
  have hlE := lv_sub (l' := [(0, .ref b), (1, .ref (ad 0 0)), (2, .ref (ad2 0 0)), (3, .ref o), (4, .int (i32 i))]) hl [2, 3, 4, 5, 6] rfl
  refine lv_iload hx hb dL_law_1705 (lv_at hl 1 rfl) ?_
  refine lv_if_ne (tgt := 1722) hx hb dL_law_1707 (by decide) (fun _ => ?_) (fun c8 => ?_)
  · refine lv_goto (tgt := 1832) hx hb dL_law_1722 (by decide) ?_
    refine W.widen (k := cells + 13) (n := slots + 423) (by omega) (by omega) ?_
    exact kk H3 locs3 ls hlE hS3 (hJ3.imp (fun _ _ _ h => h.2))
  obtain ⟨v9, hO9, x9, mm9, hv9, -⟩ := hJ3.out
  have hv9 := hv9 c8
  refine lv_aload_n hx hb dL_law_1710 rfl (lv_at hl 5 rfl) ?_
  refine lv_iconst (v := 0) hx hb dL_law_1711 (by decide) ?_
  refine wr_lald hx hb hK hO9 dL_law_1712 ?_
  refine lv_iload hx hb dL_law_1713 (lv_at hl 0 rfl) ?_
  refine lv_i2l (v := r2.toInt64) hx hb dL_law_1715 rfl ?_
  refine W.lcmp hx hb dL_law_1716 ?_
  refine lv_if_eq (tgt := 1722) hx hb dL_law_1717 (by decide) (fun _ => ?_) (fun c9 => absurd (by rw [hv9]; exact cmp_self) c9)
  refine lv_goto (tgt := 1832) hx hb dL_law_1722 (by decide) ?_
  refine W.widen (k := cells + 13) (n := slots + 423) (by omega) (by omega) ?_
  exact kk H3 locs3 ls hlE hS3 (hJ3.imp (fun _ _ _ h => h.2))
set_option maxHeartbeats 4000000 in
set_option maxRecDepth 100000 in
theorem lwc_plan (hx : p.tables.exec = Jvm.exec) (hb : c.code = cL_law) (hml : c.maxLocals = 7) (hown : s.vm.findClass RL = some m.cls) (hts : ∀ w ∈ wsL_law, w.before args s = true) (hlt : l.stackTraces = false) (hK : va_K (dC, dI) clW (tyW ac) s) (hZ : ZX sa (fun q => s.heap.size ≤ q) s s.heap) (hZL : ZL s) (hX : va_X b L xs s s.heap) (hbl : b < s.heap.size) (hL : L ≤ 3072) (hl : lv_has ls 7 [(0, .ref b), (1, .ref a1), (2, .ref a2), (3, .ref o), (4, .int (i32 i))]) (hS : va_S (fun q => s.heap.size ≤ q) s.heap H locs) (hi : i + 6 ≤ L) (hn : n < 1000) (hJ : JG dC dI ac sa s.heap.size o a1 a2 (fun x mm _ => Rel n x mm) H) (hc : cells + 13 ≤ 1201024 ∧ slots + 423 ≤ 5493034)
    (kk : ∀ (H1 : Heap) (locs1 : List Loc) (ls1 : Array Slot), lv_has ls1 7 [(0, .ref b), (1, .ref a1), (2, .ref a2), (3, .ref o), (4, .int (i32 i))] → va_S (fun q => s.heap.size ≤ q) s.heap H1 locs1 → JG dC dI ac sa s.heap.size o a1 a2 (fun x mm _ => Rel (n + 1) x mm) H1 → W p l e room_1 s m args below meth c H1 locs1 (cells + 13) (slots + 423) Z (F0 m 1832 ls1 [])) :
    W p l e room_1 s m args below meth c H locs cells slots Z (F0 m 1725 ls []) := by
  refine lv_aload_n hx hb dL_law_1725 rfl (lv_at hl 1 rfl) ?_
  refine lv_aload_n hx hb dL_law_1726 rfl (lv_at hl 0 rfl) ?_
  refine lv_iload hx hb dL_law_1727 (lv_at hl 4 rfl) ?_
  refine lv_iconst (v := 1) hx hb dL_law_1729 (by decide) ?_
  refine lv_iadd hx hb dL_law_1730 ?_
  refine lw_sld hx hb hX hbl hL hS (i := i) (j := 1) rfl (by omega) dL_law_1731 ?_
  refine lv_aload_n hx hb dL_law_1732 rfl (lv_at hl 0 rfl) ?_
  refine lv_iload hx hb dL_law_1733 (lv_at hl 4 rfl) ?_
  refine lv_iconst (v := 2) hx hb dL_law_1735 (by decide) ?_
  refine lv_iadd hx hb dL_law_1736 ?_
  refine lw_sld hx hb hX hbl hL hS (i := i) (j := 2) rfl (by omega) dL_law_1737 ?_
  refine lv_aload_n hx hb dL_law_1738 rfl (lv_at hl 3 rfl) ?_
  obtain ⟨A, ad, x, mm, v, jB, jP, jA, jo, rfl, j3, jsa, j8, hR, jO, joA, jC⟩ := hJ.openX hS hK hZ hZL
  refine vx_calli (vx_runSX (hh := [(0, 10, 13, 13)]) (As := [.ref (ad 0 0), .int (xs (i + 1)), .int (xs (i + 2)), .ref o]) (rest := []) ⟨hx, hb, hml, hown, hts⟩ (mL_plan l hlt dC dI ac sa A ad o x 0 (xs (i + 1)) (xs (i + 2)) v _ (op_plan n x mm (xs (i + 1)) (xs (i + 2)) v hR) j3) (vx_cwSW 4 hts gL_law_L_plan rfl rfl rfl (by decide +kernel) ⟨Nat.le_of_ble_eq_true rfl, Nat.le_of_ble_eq_true rfl⟩) ⟨BW.blind, fun U hU hW => ⟨rfl, jB U hU hW⟩⟩ rfl rfl hl.1 rfl (lv_room (Nat.le_of_ble_eq_true rfl)) dL_law_1739 ⟨by show cells + 1 ≤ 1201024; omega, by show slots + 6 ≤ 5493034; omega⟩) hS (fun q _ h => h.elim (jA q) (fun h => by rw [h]; exact jo)) (fun q h => h.elim (jA q) (fun h => by rw [h]; exact jo)) (fun q _ h => h.elim) (fun E9 ce9 q9 u9 t9 H9 locs9 ht9 hvm9 hpx => hpx.elim) (fun r1 u1 t H1 locs1 ht hvm hw hB hz hk hS1 => ?_)
  obtain ⟨x1, ad1, v1⟩ := u1
  obtain ⟨hQ, hle⟩ := hw
  obtain ⟨hP1, hO1⟩ := hB
  have hJ1 := jC H1 ad1 x1 v1 (fun x mm v => F_X10_plan mm 0 (xs (i + 1)) (xs (i + 2)) (fun rr m9 => gI m9 0 0 0 = r1 ∧ (r1 = 0 → v = rr.toInt64) ∧ Rel (n + 1) x m9)) (tw_back hP1 ht) (by rw [← ht]; exact hO1) hle hz hk hQ
  refine lv_istore (lv' := [(5, .int r1), (0, .ref b), (1, .ref (ad 0 0)), (2, .ref a2), (3, .ref o), (4, .int (i32 i))]) hx hb dL_law_1742 hl (by decide) rfl (fun ls hl => ?_)
  refine lv_aload_n hx hb dL_law_1744 rfl (lv_at hl 3 rfl) ?_
  refine lv_aload_n hx hb dL_law_1745 rfl (lv_at hl 1 rfl) ?_
  refine lv_iload hx hb dL_law_1746 (lv_at hl 5 rfl) ?_
  refine lv_iconst (v := 1) hx hb dL_law_1748 (by decide) ?_
  refine lv_iadd hx hb dL_law_1749 ?_
  refine lw_sld hx hb hX hbl hL hS1 (i := i) (j := 1) rfl (by omega) dL_law_1750 ?_
  refine lv_aload_n hx hb dL_law_1751 rfl (lv_at hl 1 rfl) ?_
  refine lv_iload hx hb dL_law_1752 (lv_at hl 5 rfl) ?_
  refine lv_iconst (v := 2) hx hb dL_law_1754 (by decide) ?_
  refine lv_iadd hx hb dL_law_1755 ?_
  refine lw_sld hx hb hX hbl hL hS1 (i := i) (j := 2) rfl (by omega) dL_law_1756 ?_
  obtain ⟨A2, ad2, x2, mm2, v2, kB, kP, kA, rfl, k4, kF, kC⟩ := hJ1.openM hS1 hK
  refine va_calli (va_runV (As := [.int (xs (i + 1)), .int (xs (i + 2))]) (rest := []) ⟨hx, hb, hml, hown, hts⟩ (mX10_plan l dC dI ac sa A2 ad2 mm2 0 (xs (i + 1)) (xs (i + 2)) _ kF k4) (cwV 2 hts gL_law_X10_plan rfl rfl rfl (by decide +kernel) ⟨Nat.le_of_ble_eq_true rfl, Nat.le_of_ble_eq_true rfl⟩) ⟨BM.blind, tw_recv hK kP (by decide) k4 rfl rfl, fun U hU hW => ⟨rfl, kB U hU hW⟩⟩ rfl rfl hl.1 rfl (lv_room (Nat.le_of_ble_eq_true rfl)) dL_law_1757 ⟨by show cells + 1 + 0 ≤ 1201024; omega, by show slots + 6 + 0 ≤ 5493034; omega⟩) hS1 (fun q _ h => kA q h) (fun q h => kA q h) (fun r2 m2 t2 H2 locs2 ht2 hvm2 hw2 hB2 hz2 hk2 hS2 => ?_)
  have hJ2 := kC H2 m2 (fun x m9 v => gI m9 0 0 0 = r1 ∧ (r1 = 0 → v = r2.toInt64) ∧ Rel (n + 1) x m9) (tw_back hB2 ht2) hw2.2 hz2 hk2 hw2.1
  refine lv_istore (lv' := [(6, .int r2), (5, .int r1), (0, .ref b), (1, .ref (ad 0 0)), (2, .ref (ad2 0 0)), (3, .ref o), (4, .int (i32 i))]) hx hb dL_law_1760 hl (by decide) rfl (fun ls hl => ?_)
  refine lv_aload_n hx hb dL_law_1762 rfl (lv_at hl 4 rfl) ?_
  obtain ⟨A3, ad3, x3, mm3, v3, nB, nP, nA, n2, n4, nF, nC⟩ := hJ2.openM hS2 hK
  rw [← n2] at hl ⊢
  refine va_calli (va_runV (As := []) (rest := []) ⟨hx, hb, hml, hown, hts⟩ (mX10_thrown l dC dI ac sa A3 ad3 mm3 0 (fun r u => r = gI mm3 0 0 0 ∧ u = mm3) ⟨rfl, rfl⟩ n4) (cwV 0 hts gL_law_X10_thrown rfl rfl rfl (by decide +kernel) ⟨Nat.le_of_ble_eq_true rfl, Nat.le_of_ble_eq_true rfl⟩) ⟨BM.blind, tw_recv hK nP (by decide) n4 rfl rfl, fun U hU hW => ⟨rfl, nB U hU hW⟩⟩ rfl rfl hl.1 rfl (lv_room (Nat.le_of_ble_eq_true rfl)) dL_law_1763 ⟨by show cells + 1 + 0 + 0 ≤ 1201024; omega, by show slots + 6 + 0 + 0 ≤ 5493034; omega⟩) hS2 (fun q _ h => nA q h) (fun q h => nA q h) (fun r3 m3 t3 H3 locs3 ht3 hvm3 hw3 hB3 hz3 hk3 hS3 => ?_)
  obtain ⟨⟨e3, rfl⟩, hN3⟩ := hw3
  obtain ⟨nF1, nF2, nF3⟩ := nF
  rw [nF1] at e3
  subst e3
  have hJ3 := nC H3 m3 (fun x m9 v => (r3 = 0 → v = r2.toInt64) ∧ Rel (n + 1) x m9) (tw_back hB3 ht3) rfl hz3 hk3 ⟨nF2, nF3⟩
  rw [n2] at hl
  refine lv_iload hx hb dL_law_1766 (lv_at hl 1 rfl) ?_
  refine lv_icmp_eq (tgt := 1773) hx hb dL_law_1768 (by decide) (fun _ => ?_) (fun c9 => absurd rfl c9)
  have hlE := lv_sub (l' := [(0, .ref b), (1, .ref (ad 0 0)), (2, .ref (ad2 0 0)), (3, .ref o), (4, .int (i32 i))]) hl [2, 3, 4, 5, 6] rfl
  refine lv_iload hx hb dL_law_1773 (lv_at hl 1 rfl) ?_
  refine lv_if_ne (tgt := 1790) hx hb dL_law_1775 (by decide) (fun _ => ?_) (fun c8 => ?_)
  · refine lv_goto (tgt := 1832) hx hb dL_law_1790 (by decide) ?_
    refine W.widen (k := cells + 13) (n := slots + 423) (by omega) (by omega) ?_
    exact kk H3 locs3 ls hlE hS3 (hJ3.imp (fun _ _ _ h => h.2))
  obtain ⟨v9, hO9, x9, mm9, hv9, -⟩ := hJ3.out
  have hv9 := hv9 c8
  refine lv_aload_n hx hb dL_law_1778 rfl (lv_at hl 5 rfl) ?_
  refine lv_iconst (v := 0) hx hb dL_law_1779 (by decide) ?_
  refine wr_lald hx hb hK hO9 dL_law_1780 ?_
  refine lv_iload hx hb dL_law_1781 (lv_at hl 0 rfl) ?_
  refine lv_i2l (v := r2.toInt64) hx hb dL_law_1783 rfl ?_
  refine W.lcmp hx hb dL_law_1784 ?_
  refine lv_if_eq (tgt := 1790) hx hb dL_law_1785 (by decide) (fun _ => ?_) (fun c9 => absurd (by rw [hv9]; exact cmp_self) c9)
  refine lv_goto (tgt := 1832) hx hb dL_law_1790 (by decide) ?_
  refine W.widen (k := cells + 13) (n := slots + 423) (by omega) (by omega) ?_
  exact kk H3 locs3 ls hlE hS3 (hJ3.imp (fun _ _ _ h => h.2))
end LWC
