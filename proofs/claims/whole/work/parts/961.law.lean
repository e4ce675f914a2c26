section LWC
variable {p : Program} {l : Launch} {e : Env} {s : State} {m : MethodId} {args : Array Value} {below : List Frame} {meth : Method} {c : Code} {H : Heap} {locs : List Loc} {cells slots : Nat} {Z : State → Prop}
variable {ls : Array Slot} {dC : Nat → ClassId} {dI : Nat → Nat → Nat} {ac : Nat → ClassId} {sa : Nat → Nat} {b L i n o a1 a2 : Nat} {xs : Nat → Int32}
set_option maxHeartbeats 4000000 in
set_option maxRecDepth 100000 in
theorem lwc_kind (hx : p.tables.exec = Jvm.exec) (hb : c.code = cL_law) (hml : c.maxLocals = 7) (hown : s.vm.findClass RL = some m.cls) (hts : ∀ w ∈ wsL_law, w.before args s = true) (hlt : l.stackTraces = false) (hK : va_K (dC, dI) clW (tyW ac) s) (hZ : ZX sa (fun q => s.heap.size ≤ q) s s.heap) (hZL : ZL s) (hX : va_X b L xs s s.heap) (hbl : b < s.heap.size) (hL : L ≤ 3072) (hl : lv_has ls 7 [(0, .ref b), (1, .ref a1), (2, .ref a2), (3, .ref o), (4, .int (i32 i))]) (hS : va_S (fun q => s.heap.size ≤ q) s.heap H locs) (hi : i + 6 ≤ L) (hn : n < 1000) (hJ : JG dC dI ac sa s.heap.size o a1 a2 (fun x mm _ => Rel n x mm) H) (hc : cells + 13 ≤ 1201024 ∧ slots + 423 ≤ 5493034)
    (kk : ∀ (H1 : Heap) (locs1 : List Loc) (ls1 : Array Slot), lv_has ls1 7 [(0, .ref b), (1, .ref a1), (2, .ref a2), (3, .ref o), (4, .int (i32 i))] → va_S (fun q => s.heap.size ≤ q) s.heap H1 locs1 → JG dC dI ac sa s.heap.size o a1 a2 (fun x mm _ => Rel (n + 1) x mm) H1 → W p l e room_1 s m args below meth c H1 locs1 (cells + 13) (slots + 423) Z (F0 m 1832 ls1 [])) :
    W p l e room_1 s m args below meth c H locs cells slots Z (F0 m 156 ls []) := by
  refine lv_aload_n hx hb dL_law_156 rfl (lv_at hl 1 rfl) ?_
  refine lv_aload_n hx hb dL_law_157 rfl (lv_at hl 0 rfl) ?_
  refine lv_iload hx hb dL_law_158 (lv_at hl 4 rfl) ?_
  refine lv_iconst (v := 1) hx hb dL_law_160 (by decide) ?_
  refine lv_iadd hx hb dL_law_161 ?_
  refine lw_sld hx hb hX hbl hL hS (i := i) (j := 1) rfl (by omega) dL_law_162 ?_
  refine lv_aload_n hx hb dL_law_163 rfl (lv_at hl 0 rfl) ?_
  refine lv_iload hx hb dL_law_164 (lv_at hl 4 rfl) ?_
  refine lv_iconst (v := 2) hx hb dL_law_166 (by decide) ?_
  refine lv_iadd hx hb dL_law_167 ?_
  refine lw_sld hx hb hX hbl hL hS (i := i) (j := 2) rfl (by omega) dL_law_168 ?_
  refine lv_aload_n hx hb dL_law_169 rfl (lv_at hl 0 rfl) ?_
  refine lv_iload hx hb dL_law_170 (lv_at hl 4 rfl) ?_
  refine lv_iconst (v := 3) hx hb dL_law_172 (by decide) ?_
  refine lv_iadd hx hb dL_law_173 ?_
  refine lw_sld hx hb hX hbl hL hS (i := i) (j := 3) rfl (by omega) dL_law_174 ?_
  refine lv_aload_n hx hb dL_law_175 rfl (lv_at hl 0 rfl) ?_
  refine lv_iload hx hb dL_law_176 (lv_at hl 4 rfl) ?_
  refine lv_iconst (v := 4) hx hb dL_law_178 (by decide) ?_
  refine lv_iadd hx hb dL_law_179 ?_
  refine lw_sld hx hb hX hbl hL hS (i := i) (j := 4) rfl (by omega) dL_law_180 ?_
  refine lv_aload_n hx hb dL_law_181 rfl (lv_at hl 0 rfl) ?_
  refine lv_iload hx hb dL_law_182 (lv_at hl 4 rfl) ?_
  refine lv_iconst (v := 5) hx hb dL_law_184 (by decide) ?_
  refine lv_iadd hx hb dL_law_185 ?_
  refine lw_sld hx hb hX hbl hL hS (i := i) (j := 5) rfl (by omega) dL_law_186 ?_
  refine lv_aload_n hx hb dL_law_187 rfl (lv_at hl 3 rfl) ?_
  obtain ⟨A, ad, x, mm, v, jB, jP, jA, jo, rfl, j3, jsa, j8, hR, jO, joA, jC⟩ := hJ.openX hS hK hZ hZL
  refine vx_calli (vx_runSX (hh := [(0, 16, 19, 13)]) (As := [.ref (ad 0 0), .int (xs (i + 1)), .int (xs (i + 2)), .int (xs (i + 3)), .int (xs (i + 4)), .int (xs (i + 5)), .ref o]) (rest := []) ⟨hx, hb, hml, hown, hts⟩ (mL_kind l hlt dC dI ac sa A ad o x 0 (xs (i + 1)) (xs (i + 2)) (xs (i + 3)) (xs (i + 4)) (xs (i + 5)) v _ (op_kind n x mm (xs (i + 1)) (xs (i + 2)) (xs (i + 3)) (xs (i + 4)) (xs (i + 5)) v hR) j3) (vx_cwSW 7 hts gL_law_L_kind rfl rfl rfl (by decide +kernel) ⟨Nat.le_of_ble_eq_true rfl, Nat.le_of_ble_eq_true rfl⟩) ⟨BW.blind, fun U hU hW => ⟨rfl, jB U hU hW⟩⟩ rfl rfl hl.1 rfl (lv_room (Nat.le_of_ble_eq_true rfl)) dL_law_188 ⟨by show cells + 1 ≤ 1201024; omega, by show slots + 6 ≤ 5493034; omega⟩) hS (fun q _ h => h.elim (jA q) (fun h => by rw [h]; exact jo)) (fun q h => h.elim (jA q) (fun h => by rw [h]; exact jo)) (fun q _ h => h.elim) (fun E9 ce9 q9 u9 t9 H9 locs9 ht9 hvm9 hpx => hpx.elim) (fun r1 u1 t H1 locs1 ht hvm hw hB hz hk hS1 => ?_)
  obtain ⟨x1, ad1, v1⟩ := u1
  obtain ⟨hQ, hle⟩ := hw
  obtain ⟨hP1, hO1⟩ := hB
  have hJ1 := jC H1 ad1 x1 v1 (fun x mm v => F_X10_kind mm 0 (xs (i + 1)) (xs (i + 2)) (xs (i + 3)) (xs (i + 4)) (xs (i + 5)) (fun rr m9 => gI m9 0 0 0 = r1 ∧ (r1 = 0 → v = rr.toInt64) ∧ Rel (n + 1) x m9)) (tw_back hP1 ht) (by rw [← ht]; exact hO1) hle hz hk hQ
  refine lv_istore (lv' := [(5, .int r1), (0, .ref b), (1, .ref (ad 0 0)), (2, .ref a2), (3, .ref o), (4, .int (i32 i))]) hx hb dL_law_191 hl (by decide) rfl (fun ls hl => ?_)
  refine lv_aload_n hx hb dL_law_193 rfl (lv_at hl 3 rfl) ?_
  refine lv_aload_n hx hb dL_law_194 rfl (lv_at hl 1 rfl) ?_
  refine lv_iload hx hb dL_law_195 (lv_at hl 5 rfl) ?_
  refine lv_iconst (v := 1) hx hb dL_law_197 (by decide) ?_
  refine lv_iadd hx hb dL_law_198 ?_
  refine lw_sld hx hb hX hbl hL hS1 (i := i) (j := 1) rfl (by omega) dL_law_199 ?_
  refine lv_aload_n hx hb dL_law_200 rfl (lv_at hl 1 rfl) ?_
  refine lv_iload hx hb dL_law_201 (lv_at hl 5 rfl) ?_
  refine lv_iconst (v := 2) hx hb dL_law_203 (by decide) ?_
  refine lv_iadd hx hb dL_law_204 ?_
  refine lw_sld hx hb hX hbl hL hS1 (i := i) (j := 2) rfl (by omega) dL_law_205 ?_
  refine lv_aload_n hx hb dL_law_206 rfl (lv_at hl 1 rfl) ?_
  refine lv_iload hx hb dL_law_207 (lv_at hl 5 rfl) ?_
  refine lv_iconst (v := 3) hx hb dL_law_209 (by decide) ?_
  refine lv_iadd hx hb dL_law_210 ?_
  refine lw_sld hx hb hX hbl hL hS1 (i := i) (j := 3) rfl (by omega) dL_law_211 ?_
  refine lv_aload_n hx hb dL_law_212 rfl (lv_at hl 1 rfl) ?_
  refine lv_iload hx hb dL_law_213 (lv_at hl 5 rfl) ?_
  refine lv_iconst (v := 4) hx hb dL_law_215 (by decide) ?_
  refine lv_iadd hx hb dL_law_216 ?_
  refine lw_sld hx hb hX hbl hL hS1 (i := i) (j := 4) rfl (by omega) dL_law_217 ?_
  refine lv_aload_n hx hb dL_law_218 rfl (lv_at hl 1 rfl) ?_
  refine lv_iload hx hb dL_law_219 (lv_at hl 5 rfl) ?_
  refine lv_iconst (v := 5) hx hb dL_law_221 (by decide) ?_
  refine lv_iadd hx hb dL_law_222 ?_
  refine lw_sld hx hb hX hbl hL hS1 (i := i) (j := 5) rfl (by omega) dL_law_223 ?_
  obtain ⟨A2, ad2, x2, mm2, v2, kB, kP, kA, rfl, k4, kF, kC⟩ := hJ1.openM hS1 hK
  refine va_calli (va_runV (As := [.int (xs (i + 1)), .int (xs (i + 2)), .int (xs (i + 3)), .int (xs (i + 4)), .int (xs (i + 5))]) (rest := []) ⟨hx, hb, hml, hown, hts⟩ (mX10_kind l dC dI ac sa A2 ad2 mm2 0 (xs (i + 1)) (xs (i + 2)) (xs (i + 3)) (xs (i + 4)) (xs (i + 5)) _ kF k4) (cwV 5 hts gL_law_X10_kind rfl rfl rfl (by decide +kernel) ⟨Nat.le_of_ble_eq_true rfl, Nat.le_of_ble_eq_true rfl⟩) ⟨BM.blind, tw_recv hK kP (by decide) k4 rfl rfl, fun U hU hW => ⟨rfl, kB U hU hW⟩⟩ rfl rfl hl.1 rfl (lv_room (Nat.le_of_ble_eq_true rfl)) dL_law_224 ⟨by show cells + 1 + 0 ≤ 1201024; omega, by show slots + 6 + 0 ≤ 5493034; omega⟩) hS1 (fun q _ h => kA q h) (fun q h => kA q h) (fun r2 m2 t2 H2 locs2 ht2 hvm2 hw2 hB2 hz2 hk2 hS2 => ?_)
  have hJ2 := kC H2 m2 (fun x m9 v => gI m9 0 0 0 = r1 ∧ (r1 = 0 → v = r2.toInt64) ∧ Rel (n + 1) x m9) (tw_back hB2 ht2) hw2.2 hz2 hk2 hw2.1
  refine lv_istore (lv' := [(6, .int r2), (5, .int r1), (0, .ref b), (1, .ref (ad 0 0)), (2, .ref (ad2 0 0)), (3, .ref o), (4, .int (i32 i))]) hx hb dL_law_227 hl (by decide) rfl (fun ls hl => ?_)
  refine lv_aload_n hx hb dL_law_229 rfl (lv_at hl 4 rfl) ?_
  obtain ⟨A3, ad3, x3, mm3, v3, nB, nP, nA, n2, n4, nF, nC⟩ := hJ2.openM hS2 hK
  rw [← n2] at hl ⊢
  refine va_calli (va_runV (As := []) (rest := []) ⟨hx, hb, hml, hown, hts⟩ (mX10_thrown l dC dI ac sa A3 ad3 mm3 0 (fun r u => r = gI mm3 0 0 0 ∧ u = mm3) ⟨rfl, rfl⟩ n4) (cwV 0 hts gL_law_X10_thrown rfl rfl rfl (by decide +kernel) ⟨Nat.le_of_ble_eq_true rfl, Nat.le_of_ble_eq_true rfl⟩) ⟨BM.blind, tw_recv hK nP (by decide) n4 rfl rfl, fun U hU hW => ⟨rfl, nB U hU hW⟩⟩ rfl rfl hl.1 rfl (lv_room (Nat.le_of_ble_eq_true rfl)) dL_law_230 ⟨by show cells + 1 + 0 + 0 ≤ 1201024; omega, by show slots + 6 + 0 + 0 ≤ 5493034; omega⟩) hS2 (fun q _ h => nA q h) (fun q h => nA q h) (fun r3 m3 t3 H3 locs3 ht3 hvm3 hw3 hB3 hz3 hk3 hS3 => ?_)
  obtain ⟨⟨e3, rfl⟩, hN3⟩ := hw3
  obtain ⟨nF1, nF2, nF3⟩ := nF
  rw [nF1] at e3
  subst e3
  have hJ3 := nC H3 m3 (fun x m9 v => (r3 = 0 → v = r2.toInt64) ∧ Rel (n + 1) x m9) (tw_back hB3 ht3) rfl hz3 hk3 ⟨nF2, nF3⟩
  rw [n2] at hl
  refine lv_iload hx hb dL_law_233 (lv_at hl 1 rfl) ?_
  refine lv_icmp_eq (tgt := 240) hx hb dL_law_235 (by decide) (fun _ => ?_) (fun c9 => absurd rfl c9)
  have hlE := lv_sub (l' := [(0, .ref b), (1, .ref (ad 0 0)), (2, .ref (ad2 0 0)), (3, .ref o), (4, .int (i32 i))]) hl [2, 3, 4, 5, 6] rfl
  refine lv_iload hx hb dL_law_240 (lv_at hl 1 rfl) ?_
  refine lv_if_ne (tgt := 257) hx hb dL_law_242 (by decide) (fun _ => ?_) (fun c8 => ?_)
  · refine lv_goto (tgt := 1832) hx hb dL_law_257 (by decide) ?_
    refine W.widen (k := cells + 13) (n := slots + 423) (by omega) (by omega) ?_
    exact kk H3 locs3 ls hlE hS3 (hJ3.imp (fun _ _ _ h => h.2))
  obtain ⟨v9, hO9, x9, mm9, hv9, -⟩ := hJ3.out
  have hv9 := hv9 c8
  refine lv_aload_n hx hb dL_law_245 rfl (lv_at hl 5 rfl) ?_
  refine lv_iconst (v := 0) hx hb dL_law_246 (by decide) ?_
  refine wr_lald hx hb hK hO9 dL_law_247 ?_
  refine lv_iload hx hb dL_law_248 (lv_at hl 0 rfl) ?_
  refine lv_i2l (v := r2.toInt64) hx hb dL_law_250 rfl ?_
  refine W.lcmp hx hb dL_law_251 ?_
  refine lv_if_eq (tgt := 257) hx hb dL_law_252 (by decide) (fun _ => ?_) (fun c9 => absurd (by rw [hv9]; exact cmp_self) c9)
  refine lv_goto (tgt := 1832) hx hb dL_law_257 (by decide) ?_
  refine W.widen (k := cells + 13) (n := slots + 423) (by omega) (by omega) ?_
  exact kk H3 locs3 ls hlE hS3 (hJ3.imp (fun _ _ _ h => h.2))
set_option maxHeartbeats 4000000 in
set_option maxRecDepth 100000 in
theorem lwc_lot (hx : p.tables.exec = Jvm.exec) (hb : c.code = cL_law) (hml : c.maxLocals = 7) (hown : s.vm.findClass RL = some m.cls) (hts : ∀ w ∈ wsL_law, w.before args s = true) (hlt : l.stackTraces = false) (hK : va_K (dC, dI) clW (tyW ac) s) (hZ : ZX sa (fun q => s.heap.size ≤ q) s s.heap) (hZL : ZL s) (hX : va_X b L xs s s.heap) (hbl : b < s.heap.size) (hL : L ≤ 3072) (hl : lv_has ls 7 [(0, .ref b), (1, .ref a1), (2, .ref a2), (3, .ref o), (4, .int (i32 i))]) (hS : va_S (fun q => s.heap.size ≤ q) s.heap H locs) (hi : i + 6 ≤ L) (hn : n < 1000) (hJ : JG dC dI ac sa s.heap.size o a1 a2 (fun x mm _ => Rel n x mm) H) (hc : cells + 13 ≤ 1201024 ∧ slots + 423 ≤ 5493034)
    (kk : ∀ (H1 : Heap) (locs1 : List Loc) (ls1 : Array Slot), lv_has ls1 7 [(0, .ref b), (1, .ref a1), (2, .ref a2), (3, .ref o), (4, .int (i32 i))] → va_S (fun q => s.heap.size ≤ q) s.heap H1 locs1 → JG dC dI ac sa s.heap.size o a1 a2 (fun x mm _ => Rel (n + 1) x mm) H1 → W p l e room_1 s m args below meth c H1 locs1 (cells + 13) (slots + 423) Z (F0 m 1832 ls1 [])) :
    W p l e room_1 s m args below meth c H locs cells slots Z (F0 m 260 ls []) := by
  refine lv_aload_n hx hb dL_law_260 rfl (lv_at hl 1 rfl) ?_
  refine lv_aload_n hx hb dL_law_261 rfl (lv_at hl 0 rfl) ?_
  refine lv_iload hx hb dL_law_262 (lv_at hl 4 rfl) ?_
  refine lv_iconst (v := 1) hx hb dL_law_264 (by decide) ?_
  refine lv_iadd hx hb dL_law_265 ?_
  refine lw_sld hx hb hX hbl hL hS (i := i) (j := 1) rfl (by omega) dL_law_266 ?_
  refine lv_aload_n hx hb dL_law_267 rfl (lv_at hl 0 rfl) ?_
  refine lv_iload hx hb dL_law_268 (lv_at hl 4 rfl) ?_
  refine lv_iconst (v := 2) hx hb dL_law_270 (by decide) ?_
  refine lv_iadd hx hb dL_law_271 ?_
  refine lw_sld hx hb hX hbl hL hS (i := i) (j := 2) rfl (by omega) dL_law_272 ?_
  refine lv_aload_n hx hb dL_law_273 rfl (lv_at hl 0 rfl) ?_
  refine lv_iload hx hb dL_law_274 (lv_at hl 4 rfl) ?_
  refine lv_iconst (v := 3) hx hb dL_law_276 (by decide) ?_
  refine lv_iadd hx hb dL_law_277 ?_
  refine lw_sld hx hb hX hbl hL hS (i := i) (j := 3) rfl (by omega) dL_law_278 ?_
  refine lv_aload_n hx hb dL_law_279 rfl (lv_at hl 3 rfl) ?_
  obtain ⟨A, ad, x, mm, v, jB, jP, jA, jo, rfl, j3, jsa, j8, hR, jO, joA, jC⟩ := hJ.openX hS hK hZ hZL
  refine vx_calli (vx_runSX (hh := [(0, 12, 15, 19), (0, 12, 19, 13)]) (As := [.ref (ad 0 0), .int (xs (i + 1)), .int (xs (i + 2)), .int (xs (i + 3)), .ref o]) (rest := []) ⟨hx, hb, hml, hown, hts⟩ (mL_lot l hlt dC dI ac sa A ad o x 0 (xs (i + 1)) (xs (i + 2)) (xs (i + 3)) v _ (op_lot n x mm (xs (i + 1)) (xs (i + 2)) (xs (i + 3)) v hR) j3) (vx_cwSW 5 hts gL_law_L_lot rfl rfl rfl (by decide +kernel) ⟨Nat.le_of_ble_eq_true rfl, Nat.le_of_ble_eq_true rfl⟩) ⟨BW.blind, fun U hU hW => ⟨rfl, jB U hU hW⟩⟩ rfl rfl hl.1 rfl (lv_room (Nat.le_of_ble_eq_true rfl)) dL_law_280 ⟨by show cells + 1 ≤ 1201024; omega, by show slots + 8 ≤ 5493034; omega⟩) hS (fun q _ h => h.elim (jA q) (fun h => by rw [h]; exact jo)) (fun q h => h.elim (jA q) (fun h => by rw [h]; exact jo)) (fun q _ h => h.elim) (fun E9 ce9 q9 u9 t9 H9 locs9 ht9 hvm9 hpx => hpx.elim) (fun r1 u1 t H1 locs1 ht hvm hw hB hz hk hS1 => ?_)
  obtain ⟨x1, ad1, v1⟩ := u1
  obtain ⟨hQ, hle⟩ := hw
  obtain ⟨hP1, hO1⟩ := hB
  have hJ1 := jC H1 ad1 x1 v1 (fun x mm v => F_X10_lot mm 0 (xs (i + 1)) (xs (i + 2)) (xs (i + 3)) (fun rr m9 => gI m9 0 0 0 = r1 ∧ (r1 = 0 → v = rr.toInt64) ∧ Rel (n + 1) x m9)) (tw_back hP1 ht) (by rw [← ht]; exact hO1) hle hz hk hQ
  refine lv_istore (lv' := [(5, .int r1), (0, .ref b), (1, .ref (ad 0 0)), (2, .ref a2), (3, .ref o), (4, .int (i32 i))]) hx hb dL_law_283 hl (by decide) rfl (fun ls hl => ?_)
  refine lv_aload_n hx hb dL_law_285 rfl (lv_at hl 3 rfl) ?_
  refine lv_aload_n hx hb dL_law_286 rfl (lv_at hl 1 rfl) ?_
  refine lv_iload hx hb dL_law_287 (lv_at hl 5 rfl) ?_
  refine lv_iconst (v := 1) hx hb dL_law_289 (by decide) ?_
  refine lv_iadd hx hb dL_law_290 ?_
  refine lw_sld hx hb hX hbl hL hS1 (i := i) (j := 1) rfl (by omega) dL_law_291 ?_
  refine lv_aload_n hx hb dL_law_292 rfl (lv_at hl 1 rfl) ?_
  refine lv_iload hx hb dL_law_293 (lv_at hl 5 rfl) ?_
  refine lv_iconst (v := 2) hx hb dL_law_295 (by decide) ?_
  refine lv_iadd hx hb dL_law_296 ?_
  refine lw_sld hx hb hX hbl hL hS1 (i := i) (j := 2) rfl (by omega) dL_law_297 ?_
  refine lv_aload_n hx hb dL_law_298 rfl (lv_at hl 1 rfl) ?_
  refine lv_iload hx hb dL_law_299 (lv_at hl 5 rfl) ?_
  refine lv_iconst (v := 3) hx hb dL_law_301 (by decide) ?_
  refine lv_iadd hx hb dL_law_302 ?_
  refine lw_sld hx hb hX hbl hL hS1 (i := i) (j := 3) rfl (by omega) dL_law_303 ?_
  obtain ⟨A2, ad2, x2, mm2, v2, kB, kP, kA, rfl, k4, kF, kC⟩ := hJ1.openM hS1 hK
  refine va_calli (va_runV (As := [.int (xs (i + 1)), .int (xs (i + 2)), .int (xs (i + 3))]) (rest := []) ⟨hx, hb, hml, hown, hts⟩ (mX10_lot l dC dI ac sa A2 ad2 mm2 0 (xs (i + 1)) (xs (i + 2)) (xs (i + 3)) _ kF k4) (cwV 3 hts gL_law_X10_lot rfl rfl rfl (by decide +kernel) ⟨Nat.le_of_ble_eq_true rfl, Nat.le_of_ble_eq_true rfl⟩) ⟨BM.blind, tw_recv hK kP (by decide) k4 rfl rfl, fun U hU hW => ⟨rfl, kB U hU hW⟩⟩ rfl rfl hl.1 rfl (lv_room (Nat.le_of_ble_eq_true rfl)) dL_law_304 ⟨by show cells + 1 + 0 ≤ 1201024; omega, by show slots + 8 + 0 ≤ 5493034; omega⟩) hS1 (fun q _ h => kA q h) (fun q h => kA q h) (fun r2 m2 t2 H2 locs2 ht2 hvm2 hw2 hB2 hz2 hk2 hS2 => ?_)
  have hJ2 := kC H2 m2 (fun x m9 v => gI m9 0 0 0 = r1 ∧ (r1 = 0 → v = r2.toInt64) ∧ Rel (n + 1) x m9) (tw_back hB2 ht2) hw2.2 hz2 hk2 hw2.1
  refine lv_istore (lv' := [(6, .int r2), (5, .int r1), (0, .ref b), (1, .ref (ad 0 0)), (2, .ref (ad2 0 0)), (3, .ref o), (4, .int (i32 i))]) hx hb dL_law_307 hl (by decide) rfl (fun ls hl => ?_)
  refine lv_aload_n hx hb dL_law_309 rfl (lv_at hl 4 rfl) ?_
  obtain ⟨A3, ad3, x3, mm3, v3, nB, nP, nA, n2, n4, nF, nC⟩ := hJ2.openM hS2 hK
  rw [← n2] at hl ⊢
  refine va_calli (va_runV (As := []) (rest := []) ⟨hx, hb, hml, hown, hts⟩ (mX10_thrown l dC dI ac sa A3 ad3 mm3 0 (fun r u => r = gI mm3 0 0 0 ∧ u = mm3) ⟨rfl, rfl⟩ n4) (cwV 0 hts gL_law_X10_thrown rfl rfl rfl (by decide +kernel) ⟨Nat.le_of_ble_eq_true rfl, Nat.le_of_ble_eq_true rfl⟩) ⟨BM.blind, tw_recv hK nP (by decide) n4 rfl rfl, fun U hU hW => ⟨rfl, nB U hU hW⟩⟩ rfl rfl hl.1 rfl (lv_room (Nat.le_of_ble_eq_true rfl)) dL_law_310 ⟨by show cells + 1 + 0 + 0 ≤ 1201024; omega, by show slots + 8 + 0 + 0 ≤ 5493034; omega⟩) hS2 (fun q _ h => nA q h) (fun q h => nA q h) (fun r3 m3 t3 H3 locs3 ht3 hvm3 hw3 hB3 hz3 hk3 hS3 => ?_)
  obtain ⟨⟨e3, rfl⟩, hN3⟩ := hw3
  obtain ⟨nF1, nF2, nF3⟩ := nF
  rw [nF1] at e3
  subst e3
  have hJ3 := nC H3 m3 (fun x m9 v => (r3 = 0 → v = r2.toInt64) ∧ Rel (n + 1) x m9) (tw_back hB3 ht3) rfl hz3 hk3 ⟨nF2, nF3⟩
  rw [n2] at hl
  refine lv_iload hx hb dL_law_313 (lv_at hl 1 rfl) ?_
  refine lv_icmp_eq (tgt := 320) hx hb dL_law_315 (by decide) (fun _ => ?_) (fun c9 => absurd rfl c9)
  have hlE := lv_sub (l' := [(0, .ref b), (1, .ref (ad 0 0)), (2, .ref (ad2 0 0)), (3, .ref o), (4, .int (i32 i))]) hl [2, 3, 4, 5, 6] rfl
  refine lv_iload hx hb dL_law_320 (lv_at hl 1 rfl) ?_
  refine lv_if_ne (tgt := 337) hx hb dL_law_322 (by decide) (fun _ => ?_) (fun c8 => ?_)
  · refine lv_goto (tgt := 1832) hx hb dL_law_337 (by decide) ?_
    refine W.widen (k := cells + 13) (n := slots + 423) (by omega) (by omega) ?_
    exact kk H3 locs3 ls hlE hS3 (hJ3.imp (fun _ _ _ h => h.2))
  obtain ⟨v9, hO9, x9, mm9, hv9, -⟩ := hJ3.out
  have hv9 := hv9 c8
  refine lv_aload_n hx hb dL_law_325 rfl (lv_at hl 5 rfl) ?_
  refine lv_iconst (v := 0) hx hb dL_law_326 (by decide) ?_
  refine wr_lald hx hb hK hO9 dL_law_327 ?_
  refine lv_iload hx hb dL_law_328 (lv_at hl 0 rfl) ?_
  refine lv_i2l (v := r2.toInt64) hx hb dL_law_330 rfl ?_
  refine W.lcmp hx hb dL_law_331 ?_
  refine lv_if_eq (tgt := 337) hx hb dL_law_332 (by decide) (fun _ => ?_) (fun c9 => absurd (by rw [hv9]; exact cmp_self) c9)
  refine lv_goto (tgt := 1832) hx hb dL_law_337 (by decide) ?_
  refine W.widen (k := cells + 13) (n := slots + 423) (by omega) (by omega) ?_
  exact kk H3 locs3 ls hlE hS3 (hJ3.imp (fun _ _ _ h => h.2))
set_option maxHeartbeats 4000000 in
set_option maxRecDepth 100000 in
theorem lwc_told (hx : p.tables.exec = Jvm.exec) (hb : c.code = cL_law) (hml : c.maxLocals = 7) (hown : s.vm.findClass RL = some m.cls) (hts : ∀ w ∈ wsL_law, w.before args s = true) (hlt : l.stackTraces = false) (hK : va_K (dC, dI) clW (tyW ac) s) (hZ : ZX sa (fun q => s.heap.size ≤ q) s s.heap) (hZL : ZL s) (hX : va_X b L xs s s.heap) (hbl : b < s.heap.size) (hL : L ≤ 3072) (hl : lv_has ls 7 [(0, .ref b), (1, .ref a1), (2, .ref a2), (3, .ref o), (4, .int (i32 i))]) (hS : va_S (fun q => s.heap.size ≤ q) s.heap H locs) (hi : i + 6 ≤ L) (hn : n < 1000) (hJ : JG dC dI ac sa s.heap.size o a1 a2 (fun x mm _ => Rel n x mm) H) (hc : cells + 13 ≤ 1201024 ∧ slots + 423 ≤ 5493034)
    (kk : ∀ (H1 : Heap) (locs1 : List Loc) (ls1 : Array Slot), lv_has ls1 7 [(0, .ref b), (1, .ref a1), (2, .ref a2), (3, .ref o), (4, .int (i32 i))] → va_S (fun q => s.heap.size ≤ q) s.heap H1 locs1 → JG dC dI ac sa s.heap.size o a1 a2 (fun x mm _ => Rel (n + 1) x mm) H1 → W p l e room_1 s m args below meth c H1 locs1 (cells + 13) (slots + 423) Z (F0 m 1832 ls1 [])) :
    W p l e room_1 s m args below meth c H locs cells slots Z (F0 m 340 ls []) := by
  refine lv_aload_n hx hb dL_law_340 rfl (lv_at hl 1 rfl) ?_
  refine lv_aload_n hx hb dL_law_341 rfl (lv_at hl 0 rfl) ?_
  refine lv_iload hx hb dL_law_342 (lv_at hl 4 rfl) ?_
  refine lv_iconst (v := 1) hx hb dL_law_344 (by decide) ?_
  refine lv_iadd hx hb dL_law_345 ?_
  refine lw_sld hx hb hX hbl hL hS (i := i) (j := 1) rfl (by omega) dL_law_346 ?_
  refine lv_aload_n hx hb dL_law_347 rfl (lv_at hl 0 rfl) ?_
  refine lv_iload hx hb dL_law_348 (lv_at hl 4 rfl) ?_
  refine lv_iconst (v := 2) hx hb dL_law_350 (by decide) ?_
  refine lv_iadd hx hb dL_law_351 ?_
  refine lw_sld hx hb hX hbl hL hS (i := i) (j := 2) rfl (by omega) dL_law_352 ?_
  refine lv_aload_n hx hb dL_law_353 rfl (lv_at hl 3 rfl) ?_
  obtain ⟨A, ad, x, mm, v, jB, jP, jA, jo, rfl, j3, jsa, j8, hR, jO, joA, jC⟩ := hJ.openX hS hK hZ hZL
  refine vx_calli (vx_runSX (hh := [(0, 10, 13, 19), (0, 10, 17, 13)]) (As := [.ref (ad 0 0), .int (xs (i + 1)), .int (xs (i + 2)), .ref o]) (rest := []) ⟨hx, hb, hml, hown, hts⟩ (mL_told l hlt dC dI ac sa A ad o x 0 (xs (i + 1)) (xs (i + 2)) v _ (op_told n x mm (xs (i + 1)) (xs (i + 2)) v hR) j3) (vx_cwSW 4 hts gL_law_L_told rfl rfl rfl (by decide +kernel) ⟨Nat.le_of_ble_eq_true rfl, Nat.le_of_ble_eq_true rfl⟩) ⟨BW.blind, fun U hU hW => ⟨rfl, jB U hU hW⟩⟩ rfl rfl hl.1 rfl (lv_room (Nat.le_of_ble_eq_true rfl)) dL_law_354 ⟨by show cells + 2 ≤ 1201024; omega, by show slots + 12 ≤ 5493034; omega⟩) hS (fun q _ h => h.elim (jA q) (fun h => by rw [h]; exact jo)) (fun q h => h.elim (jA q) (fun h => by rw [h]; exact jo)) (fun q _ h => h.elim) (fun E9 ce9 q9 u9 t9 H9 locs9 ht9 hvm9 hpx => hpx.elim) (fun r1 u1 t H1 locs1 ht hvm hw hB hz hk hS1 => ?_)
  obtain ⟨x1, ad1, v1⟩ := u1
  obtain ⟨hQ, hle⟩ := hw
  obtain ⟨hP1, hO1⟩ := hB
  have hJ1 := jC H1 ad1 x1 v1 (fun x mm v => F_X10_told mm 0 (xs (i + 1)) (xs (i + 2)) (fun rr m9 => gI m9 0 0 0 = r1 ∧ (r1 = 0 → v = rr.toInt64) ∧ Rel (n + 1) x m9)) (tw_back hP1 ht) (by rw [← ht]; exact hO1) hle hz hk hQ
  refine lv_istore (lv' := [(5, .int r1), (0, .ref b), (1, .ref (ad 0 0)), (2, .ref a2), (3, .ref o), (4, .int (i32 i))]) hx hb dL_law_357 hl (by decide) rfl (fun ls hl => ?_)
  refine lv_aload_n hx hb dL_law_359 rfl (lv_at hl 3 rfl) ?_
  refine lv_aload_n hx hb dL_law_360 rfl (lv_at hl 1 rfl) ?_
  refine lv_iload hx hb dL_law_361 (lv_at hl 5 rfl) ?_
  refine lv_iconst (v := 1) hx hb dL_law_363 (by decide) ?_
  refine lv_iadd hx hb dL_law_364 ?_
  refine lw_sld hx hb hX hbl hL hS1 (i := i) (j := 1) rfl (by omega) dL_law_365 ?_
  refine lv_aload_n hx hb dL_law_366 rfl (lv_at hl 1 rfl) ?_
  refine lv_iload hx hb dL_law_367 (lv_at hl 5 rfl) ?_
  refine lv_iconst (v := 2) hx hb dL_law_369 (by decide) ?_
  refine lv_iadd hx hb dL_law_370 ?_
  refine lw_sld hx hb hX hbl hL hS1 (i := i) (j := 2) rfl (by omega) dL_law_371 ?_
  obtain ⟨A2, ad2, x2, mm2, v2, kB, kP, kA, rfl, k4, kF, kC⟩ := hJ1.openM hS1 hK
  refine va_calli (va_runV (As := [.int (xs (i + 1)), .int (xs (i + 2))]) (rest := []) ⟨hx, hb, hml, hown, hts⟩ (mX10_told l dC dI ac sa A2 ad2 mm2 0 (xs (i + 1)) (xs (i + 2)) _ kF k4) (cwV 2 hts gL_law_X10_told rfl rfl rfl (by decide +kernel) ⟨Nat.le_of_ble_eq_true rfl, Nat.le_of_ble_eq_true rfl⟩) ⟨BM.blind, tw_recv hK kP (by decide) k4 rfl rfl, fun U hU hW => ⟨rfl, kB U hU hW⟩⟩ rfl rfl hl.1 rfl (lv_room (Nat.le_of_ble_eq_true rfl)) dL_law_372 ⟨by show cells + 2 + 0 ≤ 1201024; omega, by show slots + 12 + 0 ≤ 5493034; omega⟩) hS1 (fun q _ h => kA q h) (fun q h => kA q h) (fun r2 m2 t2 H2 locs2 ht2 hvm2 hw2 hB2 hz2 hk2 hS2 => ?_)
  have hJ2 := kC H2 m2 (fun x m9 v => gI m9 0 0 0 = r1 ∧ (r1 = 0 → v = r2.toInt64) ∧ Rel (n + 1) x m9) (tw_back hB2 ht2) hw2.2 hz2 hk2 hw2.1
  refine lv_istore (lv' := [(6, .int r2), (5, .int r1), (0, .ref b), (1, .ref (ad 0 0)), (2, .ref (ad2 0 0)), (3, .ref o), (4, .int (i32 i))]) hx hb dL_law_375 hl (by decide) rfl (fun ls hl => ?_)
  refine lv_aload_n hx hb dL_law_377 rfl (lv_at hl 4 rfl) ?_
  obtain ⟨A3, ad3, x3, mm3, v3, nB, nP, nA, n2, n4, nF, nC⟩ := hJ2.openM hS2 hK
  rw [← n2] at hl ⊢
  refine va_calli (va_runV (As := []) (rest := []) ⟨hx, hb, hml, hown, hts⟩ (mX10_thrown l dC dI ac sa A3 ad3 mm3 0 (fun r u => r = gI mm3 0 0 0 ∧ u = mm3) ⟨rfl, rfl⟩ n4) (cwV 0 hts gL_law_X10_thrown rfl rfl rfl (by decide +kernel) ⟨Nat.le_of_ble_eq_true rfl, Nat.le_of_ble_eq_true rfl⟩) ⟨BM.blind, tw_recv hK nP (by decide) n4 rfl rfl, fun U hU hW => ⟨rfl, nB U hU hW⟩⟩ rfl rfl hl.1 rfl (lv_room (Nat.le_of_ble_eq_true rfl)) dL_law_378 ⟨by show cells + 2 + 0 + 0 ≤ 1201024; omega, by show slots + 12 + 0 + 0 ≤ 5493034; omega⟩) hS2 (fun q _ h => nA q h) (fun q h => nA q h) (fun r3 m3 t3 H3 locs3 ht3 hvm3 hw3 hB3 hz3 hk3 hS3 => ?_)
  obtain ⟨⟨e3, rfl⟩, hN3⟩ := hw3
  obtain ⟨nF1, nF2, nF3⟩ := nF
  rw [nF1] at e3
  subst e3
  have hJ3 := nC H3 m3 (fun x m9 v => (r3 = 0 → v = r2.toInt64) ∧ Rel (n + 1) x m9) (tw_back hB3 ht3) rfl hz3 hk3 ⟨nF2, nF3⟩
  rw [n2] at hl
  refine lv_iload hx hb dL_law_381 (lv_at hl 1 rfl) ?_
  refine lv_icmp_eq (tgt := 388) hx hb dL_law_383 (by decide) (fun _ => ?_) (fun c9 => absurd rfl c9)
  have hlE := lv_sub (l' := [(0, .ref b), (1, .ref (ad 0 0)), (2, .ref (ad2 0 0)), (3, .ref o), (4, .int (i32 i))]) hl [2, 3, 4, 5, 6] rfl
  refine lv_iload hx hb dL_law_388 (lv_at hl 1 rfl) ?_
  refine lv_if_ne (tgt := 405) hx hb dL_law_390 (by decide) (fun _ => ?_) (fun c8 => ?_)
  · refine lv_goto (tgt := 1832) hx hb dL_law_405 (by decide) ?_
    refine W.widen (k := cells + 13) (n := slots + 423) (by omega) (by omega) ?_
    exact kk H3 locs3 ls hlE hS3 (hJ3.imp (fun _ _ _ h => h.2))
  obtain ⟨v9, hO9, x9, mm9, hv9, -⟩ := hJ3.out
  have hv9 := hv9 c8
  refine lv_aload_n hx hb dL_law_393 rfl (lv_at hl 5 rfl) ?_
  refine lv_iconst (v := 0) hx hb dL_law_394 (by decide) ?_
  refine wr_lald hx hb hK hO9 dL_law_395 ?_
  refine lv_iload hx hb dL_law_396 (lv_at hl 0 rfl) ?_
  refine lv_i2l (v := r2.toInt64) hx hb dL_law_398 rfl ?_
  refine W.lcmp hx hb dL_law_399 ?_
  refine lv_if_eq (tgt := 405) hx hb dL_law_400 (by decide) (fun _ => ?_) (fun c9 => absurd (by rw [hv9]; exact cmp_self) c9)
  refine lv_goto (tgt := 1832) hx hb dL_law_405 (by decide) ?_
  refine W.widen (k := cells + 13) (n := slots + 423) (by omega) (by omega) ?_
  exact kk H3 locs3 ls hlE hS3 (hJ3.imp (fun _ _ _ h => h.2))
set_option maxHeartbeats 4000000 in
set_option maxRecDepth 100000 in
theorem lwc_worth (hx : p.tables.exec = Jvm.exec) (hb : c.code = cL_law) (hml : c.maxLocals = 7) (hown : s.vm.findClass RL = some m.cls) (hts : ∀ w ∈ wsL_law, w.before args s = true) (hlt : l.stackTraces = false) (hK : va_K (dC, dI) clW (tyW ac) s) (hZ : ZX sa (fun q => s.heap.size ≤ q) s s.heap) (hZL : ZL s) (hX : va_X b L xs s s.heap) (hbl : b < s.heap.size) (hL : L ≤ 3072) (hl : lv_has ls 7 [(0, .ref b), (1, .ref a1), (2, .ref a2), (3, .ref o), (4, .int (i32 i))]) (hS : va_S (fun q => s.heap.size ≤ q) s.heap H locs) (hi : i + 6 ≤ L) (hn : n < 1000) (hJ : JG dC dI ac sa s.heap.size o a1 a2 (fun x mm _ => Rel n x mm) H) (hc : cells + 13 ≤ 1201024 ∧ slots + 423 ≤ 5493034)
    (kk : ∀ (H1 : Heap) (locs1 : List Loc) (ls1 : Array Slot), lv_has ls1 7 [(0, .ref b), (1, .ref a1), (2, .ref a2), (3, .ref o), (4, .int (i32 i))] → va_S (fun q => s.heap.size ≤ q) s.heap H1 locs1 → JG dC dI ac sa s.heap.size o a1 a2 (fun x mm _ => Rel (n + 1) x mm) H1 → W p l e room_1 s m args below meth c H1 locs1 (cells + 13) (slots + 423) Z (F0 m 1832 ls1 [])) :
    W p l e room_1 s m args below meth c H locs cells slots Z (F0 m 408 ls []) := by
  refine lv_aload_n hx hb dL_law_408 rfl (lv_at hl 1 rfl) ?_
  refine lv_aload_n hx hb dL_law_409 rfl (lv_at hl 0 rfl) ?_
  refine lv_iload hx hb dL_law_410 (lv_at hl 4 rfl) ?_
  refine lv_iconst (v := 1) hx hb dL_law_412 (by decide) ?_
  refine lv_iadd hx hb dL_law_413 ?_
  refine lw_sld hx hb hX hbl hL hS (i := i) (j := 1) rfl (by omega) dL_law_414 ?_
  refine lv_aload_n hx hb dL_law_415 rfl (lv_at hl 0 rfl) ?_
  refine lv_iload hx hb dL_law_416 (lv_at hl 4 rfl) ?_
  refine lv_iconst (v := 2) hx hb dL_law_418 (by decide) ?_
  refine lv_iadd hx hb dL_law_419 ?_
  refine lw_sld hx hb hX hbl hL hS (i := i) (j := 2) rfl (by omega) dL_law_420 ?_
  refine lv_aload_n hx hb dL_law_421 rfl (lv_at hl 3 rfl) ?_
  obtain ⟨A, ad, x, mm, v, jB, jP, jA, jo, rfl, j3, jsa, j8, hR, jO, joA, jC⟩ := hJ.openX hS hK hZ hZL
  refine vx_calli (vx_runSX (hh := [(0, 10, 13, 19), (0, 10, 17, 13)]) (As := [.ref (ad 0 0), .int (xs (i + 1)), .int (xs (i + 2)), .ref o]) (rest := []) ⟨hx, hb, hml, hown, hts⟩ (mL_worth l hlt dC dI ac sa A ad o x 0 (xs (i + 1)) (xs (i + 2)) v _ (op_worth n x mm (xs (i + 1)) (xs (i + 2)) v hR) j3) (vx_cwSW 4 hts gL_law_L_worth rfl rfl rfl (by decide +kernel) ⟨Nat.le_of_ble_eq_true rfl, Nat.le_of_ble_eq_true rfl⟩) ⟨BW.blind, fun U hU hW => ⟨rfl, jB U hU hW⟩⟩ rfl rfl hl.1 rfl (lv_room (Nat.le_of_ble_eq_true rfl)) dL_law_422 ⟨by show cells + 2 ≤ 1201024; omega, by show slots + 12 ≤ 5493034; omega⟩) hS (fun q _ h => h.elim (jA q) (fun h => by rw [h]; exact jo)) (fun q h => h.elim (jA q) (fun h => by rw [h]; exact jo)) (fun q _ h => h.elim) (fun E9 ce9 q9 u9 t9 H9 locs9 ht9 hvm9 hpx => hpx.elim) (fun r1 u1 t H1 locs1 ht hvm hw hB hz hk hS1 => ?_)
  obtain ⟨x1, ad1, v1⟩ := u1
  obtain ⟨hQ, hle⟩ := hw
  obtain ⟨hP1, hO1⟩ := hB
  have hJ1 := jC H1 ad1 x1 v1 (fun x mm v => F_X10_worth mm 0 (xs (i + 1)) (xs (i + 2)) (fun rr m9 => gI m9 0 0 0 = r1 ∧ (r1 = 0 → v = rr.toInt64) ∧ Rel (n + 1) x m9)) (tw_back hP1 ht) (by rw [← ht]; exact hO1) hle hz hk hQ
  refine lv_istore (lv' := [(5, .int r1), (0, .ref b), (1, .ref (ad 0 0)), (2, .ref a2), (3, .ref o), (4, .int (i32 i))]) hx hb dL_law_425 hl (by decide) rfl (fun ls hl => ?_)
  refine lv_aload_n hx hb dL_law_427 rfl (lv_at hl 3 rfl) ?_
  refine lv_aload_n hx hb dL_law_428 rfl (lv_at hl 1 rfl) ?_
  refine lv_iload hx hb dL_law_429 (lv_at hl 5 rfl) ?_
  refine lv_iconst (v := 1) hx hb dL_law_431 (by decide) ?_
  refine lv_iadd hx hb dL_law_432 ?_
  refine lw_sld hx hb hX hbl hL hS1 (i := i) (j := 1) rfl (by omega) dL_law_433 ?_
  refine lv_aload_n hx hb dL_law_434 rfl (lv_at hl 1 rfl) ?_
  refine lv_iload hx hb dL_law_435 (lv_at hl 5 rfl) ?_
  refine lv_iconst (v := 2) hx hb dL_law_437 (by decide) ?_
  refine lv_iadd hx hb dL_law_438 ?_
  refine lw_sld hx hb hX hbl hL hS1 (i := i) (j := 2) rfl (by omega) dL_law_439 ?_
  obtain ⟨A2, ad2, x2, mm2, v2, kB, kP, kA, rfl, k4, kF, kC⟩ := hJ1.openM hS1 hK
  refine va_calli (va_runV (As := [.int (xs (i + 1)), .int (xs (i + 2))]) (rest := []) ⟨hx, hb, hml, hown, hts⟩ (mX10_worth l dC dI ac sa A2 ad2 mm2 0 (xs (i + 1)) (xs (i + 2)) _ kF k4) (cwV 2 hts gL_law_X10_worth rfl rfl rfl (by decide +kernel) ⟨Nat.le_of_ble_eq_true rfl, Nat.le_of_ble_eq_true rfl⟩) ⟨BM.blind, tw_recv hK kP (by decide) k4 rfl rfl, fun U hU hW => ⟨rfl, kB U hU hW⟩⟩ rfl rfl hl.1 rfl (lv_room (Nat.le_of_ble_eq_true rfl)) dL_law_440 ⟨by show cells + 2 + 0 ≤ 1201024; omega, by show slots + 12 + 0 ≤ 5493034; omega⟩) hS1 (fun q _ h => kA q h) (fun q h => kA q h) (fun r2 m2 t2 H2 locs2 ht2 hvm2 hw2 hB2 hz2 hk2 hS2 => ?_)
  have hJ2 := kC H2 m2 (fun x m9 v => gI m9 0 0 0 = r1 ∧ (r1 = 0 → v = r2.toInt64) ∧ Rel (n + 1) x m9) (tw_back hB2 ht2) hw2.2 hz2 hk2 hw2.1
  refine lv_istore (lv' := [(6, .int r2), (5, .int r1), (0, .ref b), (1, .ref (ad 0 0)), (2, .ref (ad2 0 0)), (3, .ref o), (4, .int (i32 i))]) hx hb dL_law_443 hl (by decide) rfl (fun ls hl => ?_)
  refine lv_aload_n hx hb dL_law_445 rfl (lv_at hl 4 rfl) ?_
  obtain ⟨A3, ad3, x3, mm3, v3, nB, nP, nA, n2, n4, nF, nC⟩ := hJ2.openM hS2 hK
  rw [← n2] at hl ⊢
  refine va_calli (va_runV (As := []) (rest := []) ⟨hx, hb, hml, hown, hts⟩ (mX10_thrown l dC dI ac sa A3 ad3 mm3 0 (fun r u => r = gI mm3 0 0 0 ∧ u = mm3) ⟨rfl, rfl⟩ n4) (cwV 0 hts gL_law_X10_thrown rfl rfl rfl (by decide +kernel) ⟨Nat.le_of_ble_eq_true rfl, Nat.le_of_ble_eq_true rfl⟩) ⟨BM.blind, tw_recv hK nP (by decide) n4 rfl rfl, fun U hU hW => ⟨rfl, nB U hU hW⟩⟩ rfl rfl hl.1 rfl (lv_room (Nat.le_of_ble_eq_true rfl)) dL_law_446 ⟨by show cells + 2 + 0 + 0 ≤ 1201024; omega, by show slots + 12 + 0 + 0 ≤ 5493034; omega⟩) hS2 (fun q _ h => nA q h) (fun q h => nA q h) (fun r3 m3 t3 H3 locs3 ht3 hvm3 hw3 hB3 hz3 hk3 hS3 => ?_)
  obtain ⟨⟨e3, rfl⟩, hN3⟩ := hw3
  obtain ⟨nF1, nF2, nF3⟩ := nF
  rw [nF1] at e3
  subst e3
  have hJ3 := nC H3 m3 (fun x m9 v => (r3 = 0 → v = r2.toInt64) ∧ Rel (n + 1) x m9) (tw_back hB3 ht3) rfl hz3 hk3 ⟨nF2, nF3⟩
  rw [n2] at hl
  refine lv_iload hx hb dL_law_449 (lv_at hl 1 rfl) ?_
  refine lv_icmp_eq (tgt := 456) hx hb dL_law_451 (by decide) (fun _ => ?_) (fun c9 => absurd rfl c9)
  have hlE := lv_sub (l' := [(0, .ref b), (1, .ref (ad 0 0)), (2, .ref (ad2 0 0)), (3, .ref o), (4, .int (i32 i))]) hl [2, 3, 4, 5, 6] rfl
  refine lv_iload hx hb dL_law_456 (lv_at hl 1 rfl) ?_
  refine lv_if_ne (tgt := 473) hx hb dL_law_458 (by decide) (fun _ => ?_) (fun c8 => ?_)
  · refine lv_goto (tgt := 1832) hx hb dL_law_473 (by decide) ?_
    refine W.widen (k := cells + 13) (n := slots + 423) (by omega) (by omega) ?_
    exact kk H3 locs3 ls hlE hS3 (hJ3.imp (fun _ _ _ h => h.2))
  obtain ⟨v9, hO9, x9, mm9, hv9, -⟩ := hJ3.out
  have hv9 := hv9 c8
  refine lv_aload_n hx hb dL_law_461 rfl (lv_at hl 5 rfl) ?_
  refine lv_iconst (v := 0) hx hb dL_law_462 (by decide) ?_
  refine wr_lald hx hb hK hO9 dL_law_463 ?_
  refine lv_iload hx hb dL_law_464 (lv_at hl 0 rfl) ?_
  refine lv_i2l (v := r2.toInt64) hx hb dL_law_466 rfl ?_
  refine W.lcmp hx hb dL_law_467 ?_
  refine lv_if_eq (tgt := 473) hx hb dL_law_468 (by decide) (fun _ => ?_) (fun c9 => absurd (by rw [hv9]; exact cmp_self) c9)
  refine lv_goto (tgt := 1832) hx hb dL_law_473 (by decide) ?_
  refine W.widen (k := cells + 13) (n := slots + 423) (by omega) (by omega) ?_
  exact kk H3 locs3 ls hlE hS3 (hJ3.imp (fun _ _ _ h => h.2))
set_option maxHeartbeats 4000000 in
set_option maxRecDepth 100000 in
theorem lwc_taste (hx : p.tables.exec = Jvm.exec) (hb : c.code = cL_law) (hml : c.maxLocals = 7) (hown : s.vm.findClass RL = some m.cls) (hts : ∀ w ∈ wsL_law, w.before args s = true) (hlt : l.stackTraces = false) (hK : va_K (dC, dI) clW (tyW ac) s) (hZ : ZX sa (fun q => s.heap.size ≤ q) s s.heap) (hZL : ZL s) (hX : va_X b L xs s s.heap) (hbl : b < s.heap.size) (hL : L ≤ 3072) (hl : lv_has ls 7 [(0, .ref b), (1, .ref a1), (2, .ref a2), (3, .ref o), (4, .int (i32 i))]) (hS : va_S (fun q => s.heap.size ≤ q) s.heap H locs) (hi : i + 6 ≤ L) (hn : n < 1000) (hJ : JG dC dI ac sa s.heap.size o a1 a2 (fun x mm _ => Rel n x mm) H) (hc : cells + 13 ≤ 1201024 ∧ slots + 423 ≤ 5493034)
    (kk : ∀ (H1 : Heap) (locs1 : List Loc) (ls1 : Array Slot), lv_has ls1 7 [(0, .ref b), (1, .ref a1), (2, .ref a2), (3, .ref o), (4, .int (i32 i))] → va_S (fun q => s.heap.size ≤ q) s.heap H1 locs1 → JG dC dI ac sa s.heap.size o a1 a2 (fun x mm _ => Rel (n + 1) x mm) H1 → W p l e room_1 s m args below meth c H1 locs1 (cells + 13) (slots + 423) Z (F0 m 1832 ls1 [])) :
    W p l e room_1 s m args below meth c H locs cells slots Z (F0 m 476 ls []) := by
  refine lv_aload_n hx hb dL_law_476 rfl (lv_at hl 1 rfl) ?_
  refine lv_aload_n hx hb dL_law_477 rfl (lv_at hl 0 rfl) ?_
  refine lv_iload hx hb dL_law_478 (lv_at hl 4 rfl) ?_
  refine lv_iconst (v := 1) hx hb dL_law_480 (by decide) ?_
  refine lv_iadd hx hb dL_law_481 ?_
  refine lw_sld hx hb hX hbl hL hS (i := i) (j := 1) rfl (by omega) dL_law_482 ?_
  refine lv_aload_n hx hb dL_law_483 rfl (lv_at hl 0 rfl) ?_
  refine lv_iload hx hb dL_law_484 (lv_at hl 4 rfl) ?_
  refine lv_iconst (v := 2) hx hb dL_law_486 (by decide) ?_
  refine lv_iadd hx hb dL_law_487 ?_
  refine lw_sld hx hb hX hbl hL hS (i := i) (j := 2) rfl (by omega) dL_law_488 ?_
  refine lv_aload_n hx hb dL_law_489 rfl (lv_at hl 3 rfl) ?_
  obtain ⟨A, ad, x, mm, v, jB, jP, jA, jo, rfl, j3, jsa, j8, hR, jO, joA, jC⟩ := hJ.openX hS hK hZ hZL
  refine vx_calli (vx_runSX (hh := [(0, 10, 13, 19), (0, 10, 17, 13)]) (As := [.ref (ad 0 0), .int (xs (i + 1)), .int (xs (i + 2)), .ref o]) (rest := []) ⟨hx, hb, hml, hown, hts⟩ (mL_taste l hlt dC dI ac sa A ad o x 0 (xs (i + 1)) (xs (i + 2)) v _ (op_taste n x mm (xs (i + 1)) (xs (i + 2)) v hR hn) j3) (vx_cwSW 4 hts gL_law_L_taste rfl rfl rfl (by decide +kernel) ⟨Nat.le_of_ble_eq_true rfl, Nat.le_of_ble_eq_true rfl⟩) ⟨BW.blind, fun U hU hW => ⟨rfl, jB U hU hW⟩⟩ rfl rfl hl.1 rfl (lv_room (Nat.le_of_ble_eq_true rfl)) dL_law_490 ⟨by show cells + 2 ≤ 1201024; omega, by show slots + 12 ≤ 5493034; omega⟩) hS (fun q _ h => h.elim (jA q) (fun h => by rw [h]; exact jo)) (fun q h => h.elim (jA q) (fun h => by rw [h]; exact jo)) (fun q _ h => h.elim) (fun E9 ce9 q9 u9 t9 H9 locs9 ht9 hvm9 hpx => hpx.elim) (fun r1 u1 t H1 locs1 ht hvm hw hB hz hk hS1 => ?_)
  obtain ⟨x1, ad1, v1⟩ := u1
  obtain ⟨hQ, hle⟩ := hw
  obtain ⟨hP1, hO1⟩ := hB
  have hJ1 := jC H1 ad1 x1 v1 (fun x mm v => F_X10_taste mm 0 (xs (i + 1)) (xs (i + 2)) (fun rr m9 => gI m9 0 0 0 = r1 ∧ (r1 = 0 → v = rr.toInt64) ∧ Rel (n + 1) x m9)) (tw_back hP1 ht) (by rw [← ht]; exact hO1) hle hz hk hQ
  refine lv_istore (lv' := [(5, .int r1), (0, .ref b), (1, .ref (ad 0 0)), (2, .ref a2), (3, .ref o), (4, .int (i32 i))]) hx hb dL_law_493 hl (by decide) rfl (fun ls hl => ?_)
  refine lv_aload_n hx hb dL_law_495 rfl (lv_at hl 3 rfl) ?_
  refine lv_aload_n hx hb dL_law_496 rfl (lv_at hl 1 rfl) ?_
  refine lv_iload hx hb dL_law_497 (lv_at hl 5 rfl) ?_
  refine lv_iconst (v := 1) hx hb dL_law_499 (by decide) ?_
  refine lv_iadd hx hb dL_law_500 ?_
  refine lw_sld hx hb hX hbl hL hS1 (i := i) (j := 1) rfl (by omega) dL_law_501 ?_
  refine lv_aload_n hx hb dL_law_502 rfl (lv_at hl 1 rfl) ?_
  refine lv_iload hx hb dL_law_503 (lv_at hl 5 rfl) ?_
  refine lv_iconst (v := 2) hx hb dL_law_505 (by decide) ?_
  refine lv_iadd hx hb dL_law_506 ?_
  refine lw_sld hx hb hX hbl hL hS1 (i := i) (j := 2) rfl (by omega) dL_law_507 ?_
  obtain ⟨A2, ad2, x2, mm2, v2, kB, kP, kA, rfl, k4, kF, kC⟩ := hJ1.openM hS1 hK
  refine va_calli (va_runV (As := [.int (xs (i + 1)), .int (xs (i + 2))]) (rest := []) ⟨hx, hb, hml, hown, hts⟩ (mX10_taste l dC dI ac sa A2 ad2 mm2 0 (xs (i + 1)) (xs (i + 2)) _ kF k4) (cwV 2 hts gL_law_X10_taste rfl rfl rfl (by decide +kernel) ⟨Nat.le_of_ble_eq_true rfl, Nat.le_of_ble_eq_true rfl⟩) ⟨BM.blind, tw_recv hK kP (by decide) k4 rfl rfl, fun U hU hW => ⟨rfl, kB U hU hW⟩⟩ rfl rfl hl.1 rfl (lv_room (Nat.le_of_ble_eq_true rfl)) dL_law_508 ⟨by show cells + 2 + 0 ≤ 1201024; omega, by show slots + 12 + 0 ≤ 5493034; omega⟩) hS1 (fun q _ h => kA q h) (fun q h => kA q h) (fun r2 m2 t2 H2 locs2 ht2 hvm2 hw2 hB2 hz2 hk2 hS2 => ?_)
  have hJ2 := kC H2 m2 (fun x m9 v => gI m9 0 0 0 = r1 ∧ (r1 = 0 → v = r2.toInt64) ∧ Rel (n + 1) x m9) (tw_back hB2 ht2) hw2.2 hz2 hk2 hw2.1
  refine lv_istore (lv' := [(6, .int r2), (5, .int r1), (0, .ref b), (1, .ref (ad 0 0)), (2, .ref (ad2 0 0)), (3, .ref o), (4, .int (i32 i))]) hx hb dL_law_511 hl (by decide) rfl (fun ls hl => ?_)
  refine lv_aload_n hx hb dL_law_513 rfl (lv_at hl 4 rfl) ?_
  obtain ⟨A3, ad3, x3, mm3, v3, nB, nP, nA, n2, n4, nF, nC⟩ := hJ2.openM hS2 hK
  rw [← n2] at hl ⊢
  refine va_calli (va_runV (As := []) (rest := []) ⟨hx, hb, hml, hown, hts⟩ (mX10_thrown l dC dI ac sa A3 ad3 mm3 0 (fun r u => r = gI mm3 0 0 0 ∧ u = mm3) ⟨rfl, rfl⟩ n4) (cwV 0 hts gL_law_X10_thrown rfl rfl rfl (by decide +kernel) ⟨Nat.le_of_ble_eq_true rfl, Nat.le_of_ble_eq_true rfl⟩) ⟨BM.blind, tw_recv hK nP (by decide) n4 rfl rfl, fun U hU hW => ⟨rfl, nB U hU hW⟩⟩ rfl rfl hl.1 rfl (lv_room (Nat.le_of_ble_eq_true rfl)) dL_law_514 ⟨by show cells + 2 + 0 + 0 ≤ 1201024; omega, by show slots + 12 + 0 + 0 ≤ 5493034; omega⟩) hS2 (fun q _ h => nA q h) (fun q h => nA q h) (fun r3 m3 t3 H3 locs3 ht3 hvm3 hw3 hB3 hz3 hk3 hS3 => ?_)
  obtain ⟨⟨e3, rfl⟩, hN3⟩ := hw3
  obtain ⟨nF1, nF2, nF3⟩ := nF
  rw [nF1] at e3
  subst e3
  have hJ3 := nC H3 m3 (fun x m9 v => (r3 = 0 → v = r2.toInt64) ∧ Rel (n + 1) x m9) (tw_back hB3 ht3) rfl hz3 hk3 ⟨nF2, nF3⟩
  rw [n2] at hl
  refine lv_iload hx hb dL_law_517 (lv_at hl 1 rfl) ?_
  refine lv_icmp_eq (tgt := 524) hx hb dL_law_519 (by decide) (fun _ => ?_) (fun c9 => absurd rfl c9)
  have hlE := lv_sub (l' := [(0, .ref b), (1, .ref (ad 0 0)), (2, .ref (ad2 0 0)), (3, .ref o), (4, .int (i32 i))]) hl [2, 3, 4, 5, 6] rfl
  refine lv_iload hx hb dL_law_524 (lv_at hl 1 rfl) ?_
  refine lv_if_ne (tgt := 541) hx hb dL_law_526 (by decide) (fun _ => ?_) (fun c8 => ?_)
  · refine lv_goto (tgt := 1832) hx hb dL_law_541 (by decide) ?_
    refine W.widen (k := cells + 13) (n := slots + 423) (by omega) (by omega) ?_
    exact kk H3 locs3 ls hlE hS3 (hJ3.imp (fun _ _ _ h => h.2))
  obtain ⟨v9, hO9, x9, mm9, hv9, -⟩ := hJ3.out
  have hv9 := hv9 c8
  refine lv_aload_n hx hb dL_law_529 rfl (lv_at hl 5 rfl) ?_
  refine lv_iconst (v := 0) hx hb dL_law_530 (by decide) ?_
  refine wr_lald hx hb hK hO9 dL_law_531 ?_
  refine lv_iload hx hb dL_law_532 (lv_at hl 0 rfl) ?_
  refine lv_i2l (v := r2.toInt64) hx hb dL_law_534 rfl ?_
  refine W.lcmp hx hb dL_law_535 ?_
  refine lv_if_eq (tgt := 541) hx hb dL_law_536 (by decide) (fun _ => ?_) (fun c9 => absurd (by rw [hv9]; exact cmp_self) c9)
  refine lv_goto (tgt := 1832) hx hb dL_law_541 (by decide) ?_
  refine W.widen (k := cells + 13) (n := slots + 423) (by omega) (by omega) ?_
  exact kk H3 locs3 ls hlE hS3 (hJ3.imp (fun _ _ _ h => h.2))
set_option maxHeartbeats 4000000 in
set_option maxRecDepth 100000 in
theorem lwc_put (hx : p.tables.exec = Jvm.exec) (hb : c.code = cL_law) (hml : c.maxLocals = 7) (hown : s.vm.findClass RL = some m.cls) (hts : ∀ w ∈ wsL_law, w.before args s = true) (hlt : l.stackTraces = false) (hK : va_K (dC, dI) clW (tyW ac) s) (hZ : ZX sa (fun q => s.heap.size ≤ q) s s.heap) (hZL : ZL s) (hX : va_X b L xs s s.heap) (hbl : b < s.heap.size) (hL : L ≤ 3072) (hl : lv_has ls 7 [(0, .ref b), (1, .ref a1), (2, .ref a2), (3, .ref o), (4, .int (i32 i))]) (hS : va_S (fun q => s.heap.size ≤ q) s.heap H locs) (hi : i + 6 ≤ L) (hn : n < 1000) (hJ : JG dC dI ac sa s.heap.size o a1 a2 (fun x mm _ => Rel n x mm) H) (hc : cells + 13 ≤ 1201024 ∧ slots + 423 ≤ 5493034)
    (kk : ∀ (H1 : Heap) (locs1 : List Loc) (ls1 : Array Slot), lv_has ls1 7 [(0, .ref b), (1, .ref a1), (2, .ref a2), (3, .ref o), (4, .int (i32 i))] → va_S (fun q => s.heap.size ≤ q) s.heap H1 locs1 → JG dC dI ac sa s.heap.size o a1 a2 (fun x mm _ => Rel (n + 1) x mm) H1 → W p l e room_1 s m args below meth c H1 locs1 (cells + 13) (slots + 423) Z (F0 m 1832 ls1 [])) :
    W p l e room_1 s m args below meth c H locs cells slots Z (F0 m 544 ls []) := by
  refine lv_aload_n hx hb dL_law_544 rfl (lv_at hl 1 rfl) ?_
  refine lv_aload_n hx hb dL_law_545 rfl (lv_at hl 0 rfl) ?_
  refine lv_iload hx hb dL_law_546 (lv_at hl 4 rfl) ?_
  refine lv_iconst (v := 1) hx hb dL_law_548 (by decide) ?_
  refine lv_iadd hx hb dL_law_549 ?_
  refine lw_sld hx hb hX hbl hL hS (i := i) (j := 1) rfl (by omega) dL_law_550 ?_
  refine lv_aload_n hx hb dL_law_551 rfl (lv_at hl 0 rfl) ?_
  refine lv_iload hx hb dL_law_552 (lv_at hl 4 rfl) ?_
  refine lv_iconst (v := 2) hx hb dL_law_554 (by decide) ?_
  refine lv_iadd hx hb dL_law_555 ?_
  refine lw_sld hx hb hX hbl hL hS (i := i) (j := 2) rfl (by omega) dL_law_556 ?_
  refine lv_aload_n hx hb dL_law_557 rfl (lv_at hl 0 rfl) ?_
  refine lv_iload hx hb dL_law_558 (lv_at hl 4 rfl) ?_
  refine lv_iconst (v := 3) hx hb dL_law_560 (by decide) ?_
  refine lv_iadd hx hb dL_law_561 ?_
  refine lw_sld hx hb hX hbl hL hS (i := i) (j := 3) rfl (by omega) dL_law_562 ?_
  refine lv_aload_n hx hb dL_law_563 rfl (lv_at hl 3 rfl) ?_
  obtain ⟨A, ad, x, mm, v, jB, jP, jA, jo, rfl, j3, jsa, j8, hR, jO, joA, jC⟩ := hJ.openX hS hK hZ hZL
  refine vx_calli (vx_runSX (hh := [(0, 12, 15, 34), (0, 12, 19, 19), (0, 12, 23, 13)]) (As := [.ref (ad 0 0), .int (xs (i + 1)), .int (xs (i + 2)), .int (xs (i + 3)), .ref o]) (rest := []) ⟨hx, hb, hml, hown, hts⟩ (mL_put l hlt dC dI ac sa A ad o x 0 (xs (i + 1)) (xs (i + 2)) (xs (i + 3)) v _ (op_put n x mm (xs (i + 1)) (xs (i + 2)) (xs (i + 3)) v hR) j3) (vx_cwSW 5 hts gL_law_L_put rfl rfl rfl (by decide +kernel) ⟨Nat.le_of_ble_eq_true rfl, Nat.le_of_ble_eq_true rfl⟩) ⟨BW.blind, fun U hU hW => ⟨rfl, jB U hU hW⟩⟩ rfl rfl hl.1 rfl (lv_room (Nat.le_of_ble_eq_true rfl)) dL_law_564 ⟨by show cells + 3 ≤ 1201024; omega, by show slots + 18 ≤ 5493034; omega⟩) hS (fun q _ h => h.elim (jA q) (fun h => by rw [h]; exact jo)) (fun q h => h.elim (jA q) (fun h => by rw [h]; exact jo)) (fun q _ h => h.elim) (fun E9 ce9 q9 u9 t9 H9 locs9 ht9 hvm9 hpx => hpx.elim) (fun r1 u1 t H1 locs1 ht hvm hw hB hz hk hS1 => ?_)
  obtain ⟨x1, ad1, v1⟩ := u1
  obtain ⟨hQ, hle⟩ := hw
  obtain ⟨hP1, hO1⟩ := hB
  have hJ1 := jC H1 ad1 x1 v1 (fun x mm v => F_X10_put mm 0 (xs (i + 1)) (xs (i + 2)) (xs (i + 3)) (fun rr m9 => gI m9 0 0 0 = r1 ∧ (r1 = 0 → v = rr.toInt64) ∧ Rel (n + 1) x m9)) (tw_back hP1 ht) (by rw [← ht]; exact hO1) hle hz hk hQ
  refine lv_istore (lv' := [(5, .int r1), (0, .ref b), (1, .ref (ad 0 0)), (2, .ref a2), (3, .ref o), (4, .int (i32 i))]) hx hb dL_law_567 hl (by decide) rfl (fun ls hl => ?_)
  refine lv_aload_n hx hb dL_law_569 rfl (lv_at hl 3 rfl) ?_
  refine lv_aload_n hx hb dL_law_570 rfl (lv_at hl 1 rfl) ?_
  refine lv_iload hx hb dL_law_571 (lv_at hl 5 rfl) ?_
  refine lv_iconst (v := 1) hx hb dL_law_573 (by decide) ?_
  refine lv_iadd hx hb dL_law_574 ?_
  refine lw_sld hx hb hX hbl hL hS1 (i := i) (j := 1) rfl (by omega) dL_law_575 ?_
  refine lv_aload_n hx hb dL_law_576 rfl (lv_at hl 1 rfl) ?_
  refine lv_iload hx hb dL_law_577 (lv_at hl 5 rfl) ?_
  refine lv_iconst (v := 2) hx hb dL_law_579 (by decide) ?_
  refine lv_iadd hx hb dL_law_580 ?_
  refine lw_sld hx hb hX hbl hL hS1 (i := i) (j := 2) rfl (by omega) dL_law_581 ?_
  refine lv_aload_n hx hb dL_law_582 rfl (lv_at hl 1 rfl) ?_
  refine lv_iload hx hb dL_law_583 (lv_at hl 5 rfl) ?_
  refine lv_iconst (v := 3) hx hb dL_law_585 (by decide) ?_
  refine lv_iadd hx hb dL_law_586 ?_
  refine lw_sld hx hb hX hbl hL hS1 (i := i) (j := 3) rfl (by omega) dL_law_587 ?_
  obtain ⟨A2, ad2, x2, mm2, v2, kB, kP, kA, rfl, k4, kF, kC⟩ := hJ1.openM hS1 hK
  refine va_calli (va_runV (As := [.int (xs (i + 1)), .int (xs (i + 2)), .int (xs (i + 3))]) (rest := []) ⟨hx, hb, hml, hown, hts⟩ (mX10_put l dC dI ac sa A2 ad2 mm2 0 (xs (i + 1)) (xs (i + 2)) (xs (i + 3)) _ kF k4) (cwV 3 hts gL_law_X10_put rfl rfl rfl (by decide +kernel) ⟨Nat.le_of_ble_eq_true rfl, Nat.le_of_ble_eq_true rfl⟩) ⟨BM.blind, tw_recv hK kP (by decide) k4 rfl rfl, fun U hU hW => ⟨rfl, kB U hU hW⟩⟩ rfl rfl hl.1 rfl (lv_room (Nat.le_of_ble_eq_true rfl)) dL_law_588 ⟨by show cells + 3 + 0 ≤ 1201024; omega, by show slots + 18 + 0 ≤ 5493034; omega⟩) hS1 (fun q _ h => kA q h) (fun q h => kA q h) (fun r2 m2 t2 H2 locs2 ht2 hvm2 hw2 hB2 hz2 hk2 hS2 => ?_)
  have hJ2 := kC H2 m2 (fun x m9 v => gI m9 0 0 0 = r1 ∧ (r1 = 0 → v = r2.toInt64) ∧ Rel (n + 1) x m9) (tw_back hB2 ht2) hw2.2 hz2 hk2 hw2.1
  refine lv_istore (lv' := [(6, .int r2), (5, .int r1), (0, .ref b), (1, .ref (ad 0 0)), (2, .ref (ad2 0 0)), (3, .ref o), (4, .int (i32 i))]) hx hb dL_law_591 hl (by decide) rfl (fun ls hl => ?_)
  refine lv_aload_n hx hb dL_law_593 rfl (lv_at hl 4 rfl) ?_
  obtain ⟨A3, ad3, x3, mm3, v3, nB, nP, nA, n2, n4, nF, nC⟩ := hJ2.openM hS2 hK
  rw [← n2] at hl ⊢
  refine va_calli (va_runV (As := []) (rest := []) ⟨hx, hb, hml, hown, hts⟩ (mX10_thrown l dC dI ac sa A3 ad3 mm3 0 (fun r u => r = gI mm3 0 0 0 ∧ u = mm3) ⟨rfl, rfl⟩ n4) (cwV 0 hts gL_law_X10_thrown rfl rfl rfl (by decide +kernel) ⟨Nat.le_of_ble_eq_true rfl, Nat.le_of_ble_eq_true rfl⟩) ⟨BM.blind, tw_recv hK nP (by decide) n4 rfl rfl, fun U hU hW => ⟨rfl, nB U hU hW⟩⟩ rfl rfl hl.1 rfl (lv_room (Nat.le_of_ble_eq_true rfl)) dL_law_594 ⟨by show cells + 3 + 0 + 0 ≤ 1201024; omega, by show slots + 18 + 0 + 0 ≤ 5493034; omega⟩) hS2 (fun q _ h => nA q h) (fun q h => nA q h) (fun r3 m3 t3 H3 locs3 ht3 hvm3 hw3 hB3 hz3 hk3 hS3 => ?_)
  obtain ⟨⟨e3, rfl⟩, hN3⟩ := hw3
  obtain ⟨nF1, nF2, nF3⟩ := nF
  rw [nF1] at e3
  subst e3
  have hJ3 := nC H3 m3 (fun x m9 v => (r3 = 0 → v = r2.toInt64) ∧ Rel (n + 1) x m9) (tw_back hB3 ht3) rfl hz3 hk3 ⟨nF2, nF3⟩
  rw [n2] at hl
  refine lv_iload hx hb dL_law_597 (lv_at hl 1 rfl) ?_
  refine lv_icmp_eq (tgt := 604) hx hb dL_law_599 (by decide) (fun _ => ?_) (fun c9 => absurd rfl c9)
  have hlE := lv_sub (l' := [(0, .ref b), (1, .ref (ad 0 0)), (2, .ref (ad2 0 0)), (3, .ref o), (4, .int (i32 i))]) hl [2, 3, 4, 5, 6] rfl
  refine lv_iload hx hb dL_law_604 (lv_at hl 1 rfl) ?_
  refine lv_if_ne (tgt := 621) hx hb dL_law_606 (by decide) (fun _ => ?_) (fun c8 => ?_)
  · refine lv_goto (tgt := 1832) hx hb dL_law_621 (by decide) ?_
    refine W.widen (k := cells + 13) (n := slots + 423) (by omega) (by omega) ?_
    exact kk H3 locs3 ls hlE hS3 (hJ3.imp (fun _ _ _ h => h.2))
  obtain ⟨v9, hO9, x9, mm9, hv9, -⟩ := hJ3.out
  have hv9 := hv9 c8
  refine lv_aload_n hx hb dL_law_609 rfl (lv_at hl 5 rfl) ?_
  refine lv_iconst (v := 0) hx hb dL_law_610 (by decide) ?_
  refine wr_lald hx hb hK hO9 dL_law_611 ?_
  refine lv_iload hx hb dL_law_612 (lv_at hl 0 rfl) ?_
  refine lv_i2l (v := r2.toInt64) hx hb dL_law_614 rfl ?_
  refine W.lcmp hx hb dL_law_615 ?_
  refine lv_if_eq (tgt := 621) hx hb dL_law_616 (by decide) (fun _ => ?_) (fun c9 => absurd (by rw [hv9]; exact cmp_self) c9)
  refine lv_goto (tgt := 1832) hx hb dL_law_621 (by decide) ?_
  refine W.widen (k := cells + 13) (n := slots + 423) (by omega) (by omega) ?_
  exact kk H3 locs3 ls hlE hS3 (hJ3.imp (fun _ _ _ h => h.2))
set_option maxHeartbeats 4000000 in
set_option maxRecDepth 100000 in
theorem lwc_move (hx : p.tables.exec = Jvm.exec) (hb : c.code = cL_law) (hml : c.maxLocals = 7) (hown : s.vm.findClass RL = some m.cls) (hts : ∀ w ∈ wsL_law, w.before args s = true) (hlt : l.stackTraces = false) (hK : va_K (dC, dI) clW (tyW ac) s) (hZ : ZX sa (fun q => s.heap.size ≤ q) s s.heap) (hZL : ZL s) (hX : va_X b L xs s s.heap) (hbl : b < s.heap.size) (hL : L ≤ 3072) (hl : lv_has ls 7 [(0, .ref b), (1, .ref a1), (2, .ref a2), (3, .ref o), (4, .int (i32 i))]) (hS : va_S (fun q => s.heap.size ≤ q) s.heap H locs) (hi : i + 6 ≤ L) (hn : n < 1000) (hJ : JG dC dI ac sa s.heap.size o a1 a2 (fun x mm _ => Rel n x mm) H) (hc : cells + 13 ≤ 1201024 ∧ slots + 423 ≤ 5493034)
    (kk : ∀ (H1 : Heap) (locs1 : List Loc) (ls1 : Array Slot), lv_has ls1 7 [(0, .ref b), (1, .ref a1), (2, .ref a2), (3, .ref o), (4, .int (i32 i))] → va_S (fun q => s.heap.size ≤ q) s.heap H1 locs1 → JG dC dI ac sa s.heap.size o a1 a2 (fun x mm _ => Rel (n + 1) x mm) H1 → W p l e room_1 s m args below meth c H1 locs1 (cells + 13) (slots + 423) Z (F0 m 1832 ls1 [])) :
    W p l e room_1 s m args below meth c H locs cells slots Z (F0 m 624 ls []) := by
  refine lv_aload_n hx hb dL_law_624 rfl (lv_at hl 1 rfl) ?_
  refine lv_aload_n hx hb dL_law_625 rfl (lv_at hl 0 rfl) ?_
  refine lv_iload hx hb dL_law_626 (lv_at hl 4 rfl) ?_
  refine lv_iconst (v := 1) hx hb dL_law_628 (by decide) ?_
  refine lv_iadd hx hb dL_law_629 ?_
  refine lw_sld hx hb hX hbl hL hS (i := i) (j := 1) rfl (by omega) dL_law_630 ?_
  refine lv_aload_n hx hb dL_law_631 rfl (lv_at hl 0 rfl) ?_
  refine lv_iload hx hb dL_law_632 (lv_at hl 4 rfl) ?_
  refine lv_iconst (v := 2) hx hb dL_law_634 (by decide) ?_
  refine lv_iadd hx hb dL_law_635 ?_
  refine lw_sld hx hb hX hbl hL hS (i := i) (j := 2) rfl (by omega) dL_law_636 ?_
  refine lv_aload_n hx hb dL_law_637 rfl (lv_at hl 0 rfl) ?_
  refine lv_iload hx hb dL_law_638 (lv_at hl 4 rfl) ?_
  refine lv_iconst (v := 3) hx hb dL_law_640 (by decide) ?_
  refine lv_iadd hx hb dL_law_641 ?_
  refine lw_sld hx hb hX hbl hL hS (i := i) (j := 3) rfl (by omega) dL_law_642 ?_
  refine lv_aload_n hx hb dL_law_643 rfl (lv_at hl 3 rfl) ?_
  obtain ⟨A, ad, x, mm, v, jB, jP, jA, jo, rfl, j3, jsa, j8, hR, jO, joA, jC⟩ := hJ.openX hS hK hZ hZL
  refine vx_calli (vx_runSX (hh := [(0, 12, 15, 34), (0, 12, 19, 13)]) (As := [.ref (ad 0 0), .int (xs (i + 1)), .int (xs (i + 2)), .int (xs (i + 3)), .ref o]) (rest := []) ⟨hx, hb, hml, hown, hts⟩ (mL_move l hlt dC dI ac sa A ad o x 0 (xs (i + 1)) (xs (i + 2)) (xs (i + 3)) v _ (op_move n x mm (xs (i + 1)) (xs (i + 2)) (xs (i + 3)) v hR) j3) (vx_cwSW 5 hts gL_law_L_move rfl rfl rfl (by decide +kernel) ⟨Nat.le_of_ble_eq_true rfl, Nat.le_of_ble_eq_true rfl⟩) ⟨BW.blind, fun U hU hW => ⟨rfl, jB U hU hW⟩⟩ rfl rfl hl.1 rfl (lv_room (Nat.le_of_ble_eq_true rfl)) dL_law_644 ⟨by show cells + 3 ≤ 1201024; omega, by show slots + 18 ≤ 5493034; omega⟩) hS (fun q _ h => h.elim (jA q) (fun h => by rw [h]; exact jo)) (fun q h => h.elim (jA q) (fun h => by rw [h]; exact jo)) (fun q _ h => h.elim) (fun E9 ce9 q9 u9 t9 H9 locs9 ht9 hvm9 hpx => hpx.elim) (fun r1 u1 t H1 locs1 ht hvm hw hB hz hk hS1 => ?_)
  obtain ⟨x1, ad1, v1⟩ := u1
  obtain ⟨hQ, hle⟩ := hw
  obtain ⟨hP1, hO1⟩ := hB
  have hJ1 := jC H1 ad1 x1 v1 (fun x mm v => F_X10_move mm 0 (xs (i + 1)) (xs (i + 2)) (xs (i + 3)) (fun rr m9 => gI m9 0 0 0 = r1 ∧ (r1 = 0 → v = rr.toInt64) ∧ Rel (n + 1) x m9)) (tw_back hP1 ht) (by rw [← ht]; exact hO1) hle hz hk hQ
  refine lv_istore (lv' := [(5, .int r1), (0, .ref b), (1, .ref (ad 0 0)), (2, .ref a2), (3, .ref o), (4, .int (i32 i))]) hx hb dL_law_647 hl (by decide) rfl (fun ls hl => ?_)
  refine lv_aload_n hx hb dL_law_649 rfl (lv_at hl 3 rfl) ?_
  refine lv_aload_n hx hb dL_law_650 rfl (lv_at hl 1 rfl) ?_
  refine lv_iload hx hb dL_law_651 (lv_at hl 5 rfl) ?_
  refine lv_iconst (v := 1) hx hb dL_law_653 (by decide) ?_
  refine lv_iadd hx hb dL_law_654 ?_
  refine lw_sld hx hb hX hbl hL hS1 (i := i) (j := 1) rfl (by omega) dL_law_655 ?_
  refine lv_aload_n hx hb dL_law_656 rfl (lv_at hl 1 rfl) ?_
  refine lv_iload hx hb dL_law_657 (lv_at hl 5 rfl) ?_
  refine lv_iconst (v := 2) hx hb dL_law_659 (by decide) ?_
  refine lv_iadd hx hb dL_law_660 ?_
  refine lw_sld hx hb hX hbl hL hS1 (i := i) (j := 2) rfl (by omega) dL_law_661 ?_
  refine lv_aload_n hx hb dL_law_662 rfl (lv_at hl 1 rfl) ?_
  refine lv_iload hx hb dL_law_663 (lv_at hl 5 rfl) ?_
  refine lv_iconst (v := 3) hx hb dL_law_665 (by decide) ?_
  refine lv_iadd hx hb dL_law_666 ?_
  refine lw_sld hx hb hX hbl hL hS1 (i := i) (j := 3) rfl (by omega) dL_law_667 ?_
  obtain ⟨A2, ad2, x2, mm2, v2, kB, kP, kA, rfl, k4, kF, kC⟩ := hJ1.openM hS1 hK
  refine va_calli (va_runV (As := [.int (xs (i + 1)), .int (xs (i + 2)), .int (xs (i + 3))]) (rest := []) ⟨hx, hb, hml, hown, hts⟩ (mX10_move l dC dI ac sa A2 ad2 mm2 0 (xs (i + 1)) (xs (i + 2)) (xs (i + 3)) _ kF k4) (cwV 3 hts gL_law_X10_move rfl rfl rfl (by decide +kernel) ⟨Nat.le_of_ble_eq_true rfl, Nat.le_of_ble_eq_true rfl⟩) ⟨BM.blind, tw_recv hK kP (by decide) k4 rfl rfl, fun U hU hW => ⟨rfl, kB U hU hW⟩⟩ rfl rfl hl.1 rfl (lv_room (Nat.le_of_ble_eq_true rfl)) dL_law_668 ⟨by show cells + 3 + 0 ≤ 1201024; omega, by show slots + 18 + 0 ≤ 5493034; omega⟩) hS1 (fun q _ h => kA q h) (fun q h => kA q h) (fun r2 m2 t2 H2 locs2 ht2 hvm2 hw2 hB2 hz2 hk2 hS2 => ?_)
  have hJ2 := kC H2 m2 (fun x m9 v => gI m9 0 0 0 = r1 ∧ (r1 = 0 → v = r2.toInt64) ∧ Rel (n + 1) x m9) (tw_back hB2 ht2) hw2.2 hz2 hk2 hw2.1
  refine lv_istore (lv' := [(6, .int r2), (5, .int r1), (0, .ref b), (1, .ref (ad 0 0)), (2, .ref (ad2 0 0)), (3, .ref o), (4, .int (i32 i))]) hx hb dL_law_671 hl (by decide) rfl (fun ls hl => ?_)
  refine lv_aload_n hx hb dL_law_673 rfl (lv_at hl 4 rfl) ?_
  obtain ⟨A3, ad3, x3, mm3, v3, nB, nP, nA, n2, n4, nF, nC⟩ := hJ2.openM hS2 hK
  rw [← n2] at hl ⊢
  refine va_calli (va_runV (As := []) (rest := []) ⟨hx, hb, hml, hown, hts⟩ (mX10_thrown l dC dI ac sa A3 ad3 mm3 0 (fun r u => r = gI mm3 0 0 0 ∧ u = mm3) ⟨rfl, rfl⟩ n4) (cwV 0 hts gL_law_X10_thrown rfl rfl rfl (by decide +kernel) ⟨Nat.le_of_ble_eq_true rfl, Nat.le_of_ble_eq_true rfl⟩) ⟨BM.blind, tw_recv hK nP (by decide) n4 rfl rfl, fun U hU hW => ⟨rfl, nB U hU hW⟩⟩ rfl rfl hl.1 rfl (lv_room (Nat.le_of_ble_eq_true rfl)) dL_law_674 ⟨by show cells + 3 + 0 + 0 ≤ 1201024; omega, by show slots + 18 + 0 + 0 ≤ 5493034; omega⟩) hS2 (fun q _ h => nA q h) (fun q h => nA q h) (fun r3 m3 t3 H3 locs3 ht3 hvm3 hw3 hB3 hz3 hk3 hS3 => ?_)
  obtain ⟨⟨e3, rfl⟩, hN3⟩ := hw3
  obtain ⟨nF1, nF2, nF3⟩ := nF
  rw [nF1] at e3
  subst e3
  have hJ3 := nC H3 m3 (fun x m9 v => (r3 = 0 → v = r2.toInt64) ∧ Rel (n + 1) x m9) (tw_back hB3 ht3) rfl hz3 hk3 ⟨nF2, nF3⟩
  rw [n2] at hl
  refine lv_iload hx hb dL_law_677 (lv_at hl 1 rfl) ?_
  refine lv_icmp_eq (tgt := 684) hx hb dL_law_679 (by decide) (fun _ => ?_) (fun c9 => absurd rfl c9)
  have hlE := lv_sub (l' := [(0, .ref b), (1, .ref (ad 0 0)), (2, .ref (ad2 0 0)), (3, .ref o), (4, .int (i32 i))]) hl [2, 3, 4, 5, 6] rfl
  refine lv_iload hx hb dL_law_684 (lv_at hl 1 rfl) ?_
  refine lv_if_ne (tgt := 701) hx hb dL_law_686 (by decide) (fun _ => ?_) (fun c8 => ?_)
  · refine lv_goto (tgt := 1832) hx hb dL_law_701 (by decide) ?_
    refine W.widen (k := cells + 13) (n := slots + 423) (by omega) (by omega) ?_
    exact kk H3 locs3 ls hlE hS3 (hJ3.imp (fun _ _ _ h => h.2))
  obtain ⟨v9, hO9, x9, mm9, hv9, -⟩ := hJ3.out
  have hv9 := hv9 c8
  refine lv_aload_n hx hb dL_law_689 rfl (lv_at hl 5 rfl) ?_
  refine lv_iconst (v := 0) hx hb dL_law_690 (by decide) ?_
  refine wr_lald hx hb hK hO9 dL_law_691 ?_
  refine lv_iload hx hb dL_law_692 (lv_at hl 0 rfl) ?_
  refine lv_i2l (v := r2.toInt64) hx hb dL_law_694 rfl ?_
  refine W.lcmp hx hb dL_law_695 ?_
  refine lv_if_eq (tgt := 701) hx hb dL_law_696 (by decide) (fun _ => ?_) (fun c9 => absurd (by rw [hv9]; exact cmp_self) c9)
  refine lv_goto (tgt := 1832) hx hb dL_law_701 (by decide) ?_
  refine W.widen (k := cells + 13) (n := slots + 423) (by omega) (by omega) ?_
  exact kk H3 locs3 ls hlE hS3 (hJ3.imp (fun _ _ _ h => h.2))
end LWC
