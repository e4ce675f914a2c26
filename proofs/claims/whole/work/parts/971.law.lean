set_option maxRecDepth 16384 in
set_option maxHeartbeats 4000000 in
/-- THE LAW, from its entry -/
theorem whole_start {p : Program} {e : Env} {s : State} {m : MethodId} {below : List Frame} {meth : Method} {c : Code} (l : Launch) (hlt : l.stackTraces = false) {b L : Nat} {xs : Nat → Int32} (hL : L ≤ 3072) (C0 : lw_At p s m meth c b L xs) : W p l e room_1 s m #[Value.ref b] below meth c s.heap [] 0 0 (lw_Z below #[Value.ref b] s) (entryFrame m ([Value.ref b] : List Value).toArray 7) := by
  obtain ⟨hx, hb, hr, hml, hown, htsT, hX, hbl, hlocks, hgv⟩ := id C0
  have hts : ∀ w ∈ wsL_law, w.before #[Value.ref b] s = true := fun w hw => htsT w (wsL_law_in w hw)
  have hown : s.vm.findClass RL = some m.cls := hown
  obtain ⟨dC, dI, ac, hK⟩ := lw_K htsT
  obtain ⟨sa, hZ, hZL⟩ := lw_Zx htsT hgv
  have hS : va_S (fun q : Nat => s.heap.size ≤ q) s.heap s.heap [] := va_S.rf
  have hA : ∀ q : Nat, s.heap.size ≤ q → (fun q : Nat => s.heap.size ≤ q) q := fun _ h => h
  have hl := lv_entry ([.ref b]) (n := 7) (Nat.le_of_ble_eq_true rfl)
  rw [lg_entry_eq]
  generalize (lg_sl ([.ref b]) ++ List.replicate (7 - (lg_sl ([.ref b])).length) Slot.unset).toArray = ls at hl ⊢
  have hl : lv_has ls 7 [(0, .ref b)] := hl
  have g0 : ∀ n f : Nat, f < 1000 → gN (E0 n) f = 0 := fun n f hf => if_neg (by omega)
  have hP0 : ∀ (tb : Nat → tw_F) (tg : Nat → Nat → Nat) (n : Nat) (A : Nat → Prop) (ad : Nat → Nat → Nat) (H : Heap), tw_P (dC, dI) clW ac tb tg A ad (E0 n) H := fun tb tg n A ad H => ⟨fun f k hf hk => by rw [g0 n f hf] at hk; omega, fun f k f' k' hf _ hk => by rw [g0 n f hf] at hk; omega, fun f k hf hk => by rw [g0 n f hf] at hk; omega, fun f k j r hf hk => by rw [g0 n f hf] at hk; omega⟩
  refine tw_new (tb := tbX) (tg := tgX) (ad := fun _ k => sa k) (τ := E0 8) (A := fun q => s.heap.size ≤ q) (f := 0) (fs := [.null, .null, .null, .null, .null, .null, .null, .null, .null, .null, .null, .int 0, .int 0, .int 0, .int 0, .int 0]) hx hb hts inlX9 tyX9 tyX9_ok hown (hts (.classLink RL 8 RX9) (by decide +kernel)) (hts (.instantiable RX9 16) (by decide +kernel)) (hts (.initialized RX9) (by decide +kernel)) hK (hP0 tbX tgX 8 _ _ _) hS hA (by decide) (fun _ => rfl) rfl (fun j hj => by rcases (show j = 0 ∨ j = 1 ∨ j = 2 ∨ j = 3 ∨ j = 4 ∨ j = 5 ∨ j = 6 ∨ j = 7 ∨ j = 8 ∨ j = 9 ∨ j = 10 ∨ j = 11 ∨ j = 12 ∨ j = 13 ∨ j = 14 ∨ j = 15 by omega) with rfl | rfl | rfl | rfl | rfl | rfl | rfl | rfl | rfl | rfl | rfl | rfl | rfl | rfl | rfl | rfl <;> rfl) (Nat.le_of_ble_eq_true rfl) (Nat.le_of_ble_eq_true rfl) dL_law_0 (fun ad1 H1 hP1 hle1 hS1 => ?_)
  have hk1 : 0 < gN (nW (E0 8) 0 1) 0 := by decide
  refine W.eq (g2 := F0 m 3 ls [.ref (ad1 0 0)]) rfl ?_
  refine lv_dup hx hb dL_law_3 rfl ?_
  refine va_callv (va_runI (As := []) (rest := [.ref (ad1 0 0)]) ⟨hx, hb, hml, hown, hts⟩ (mX9_init l dC dI ac sa (fun q => s.heap.size ≤ q) ad1 (nW (E0 8) 0 1) 0 (fun x => XI x) (xX_init (fun x h => h)) hk1) (cwI 0 hts gL_law_X9_init rfl rfl rfl (hts (.initialized RX9) (by decide +kernel)) (hts (.methodLink RL 88 yX9_init) (by decide +kernel)) (hts (.instanceMethod yX9_init) (by decide +kernel)) rfl (by decide +kernel) ⟨Nat.le_of_ble_eq_true rfl, Nat.le_of_ble_eq_true rfl⟩) ⟨BX.blind, fun U hU hW => ⟨rfl, BX.of hP1 hK hS1 hA hZ hU hW⟩⟩ rfl rfl hl.1 rfl (lv_room (Nat.le_of_ble_eq_true rfl)) dL_law_4 ⟨Nat.le_of_ble_eq_true rfl, Nat.le_of_ble_eq_true rfl⟩) hS1 (fun q _ h => h) (fun q h => h) (fun u t H2 locs2 ht hvm hw hB hz2 hk2 hS2 => ?_)
  obtain ⟨x, ad2⟩ := u
  obtain ⟨hXI, hle2⟩ := hw
  have hP2 : PX dC dI ac (fun q => s.heap.size ≤ q) ad2 x H2 := tw_back hB ht
  have ea : ad2 0 0 = ad1 0 0 := hle2.2 0 0 hk1
  have es : ∀ i, i < 8 → ad2 1000 i = sa i := fun i hi => by
    have h1 : i < gN (E0 8) 1000 := hi
    have h2 : i < gN (nW (E0 8) 0 1) 1000 := hi
    exact (hle2.2 1000 i h2).trans (hle1.2 1000 i h1)
  refine lv_astore_n (lv' := [(1, .ref (ad1 0 0)), (0, .ref b)]) hx hb dL_law_7 rfl hl (by decide) rfl (fun ls hl => ?_)
  refine va_forget (fun q hq => hS2.2.2 q hq) ?_
  have hs2 := hS2.1
  have hA2 : ∀ q : Nat, H2.size ≤ q → (fun q : Nat => H2.size ≤ q) q := fun _ h => h
  refine tw_new (tb := tbM) (tg := tgM) (ad := fun _ k => k) (τ := E0 0) (A := fun q => H2.size ≤ q) (H0 := H2) (f := 0) (fs := [.int 0, .int 0, .int 0, .int 0, .long 0, .null, .null, .null, .null, .null, .null, .null, .null, .null, .null, .int 0, .int 0, .int 0, .int 0, .int 0, .int 0, .int 0, .int 0, .null, .null, .null, .null, .null, .int 0, .int 0, .int 0, .int 0, .int 0, .null, .null, .null, .null, .null, .null, .int 0, .null, .null, .null, .null, .null, .null, .null, .null, .null]) hx hb hts inlX10 tyX10 tyX10_ok hown (hts (.classLink RL 89 RX10) (by decide +kernel)) (hts (.instantiable RX10 49) (by decide +kernel)) (hts (.initialized RX10) (by decide +kernel)) hK (hP0 tbM tgM 0 _ _ _) va_S.rf hA2 (by decide) (fun _ => rfl) rfl (fun j hj => by rcases (show j = 0 ∨ j = 1 ∨ j = 2 ∨ j = 3 ∨ j = 4 ∨ j = 5 ∨ j = 6 ∨ j = 7 ∨ j = 8 ∨ j = 9 ∨ j = 10 ∨ j = 11 ∨ j = 12 ∨ j = 13 ∨ j = 14 ∨ j = 15 ∨ j = 16 ∨ j = 17 ∨ j = 18 ∨ j = 19 ∨ j = 20 ∨ j = 21 ∨ j = 22 ∨ j = 23 ∨ j = 24 ∨ j = 25 ∨ j = 26 ∨ j = 27 ∨ j = 28 ∨ j = 29 ∨ j = 30 ∨ j = 31 ∨ j = 32 ∨ j = 33 ∨ j = 34 ∨ j = 35 ∨ j = 36 ∨ j = 37 ∨ j = 38 ∨ j = 39 ∨ j = 40 ∨ j = 41 ∨ j = 42 ∨ j = 43 ∨ j = 44 ∨ j = 45 ∨ j = 46 ∨ j = 47 ∨ j = 48 by omega) with rfl | rfl | rfl | rfl | rfl | rfl | rfl | rfl | rfl | rfl | rfl | rfl | rfl | rfl | rfl | rfl | rfl | rfl | rfl | rfl | rfl | rfl | rfl | rfl | rfl | rfl | rfl | rfl | rfl | rfl | rfl | rfl | rfl | rfl | rfl | rfl | rfl | rfl | rfl | rfl | rfl | rfl | rfl | rfl | rfl | rfl | rfl | rfl | rfl <;> rfl) (Nat.le_of_ble_eq_true rfl) (Nat.le_of_ble_eq_true rfl) dL_law_8 (fun ad3 H3 hP3 hle3 hS3 => ?_)
  have hk3 : 0 < gN (nW (E0 0) 0 1) 0 := by decide
  have hs3 := hS3.1
  refine W.eq (g2 := F0 m 11 ls [.ref (ad3 0 0)]) rfl ?_
  refine lv_dup hx hb dL_law_11 rfl ?_
  refine va_callv (va_runI (As := []) (rest := [.ref (ad3 0 0)]) ⟨hx, hb, hml, hown, hts⟩ (mX10_init l dC dI ac sa (fun q => H2.size ≤ q) ad3 (nW (E0 0) 0 1) 0 (fun x => MI x) (eM_init (fun x h => h)) hk3) (cwI 0 hts gL_law_X10_init rfl rfl rfl (hts (.initialized RX10) (by decide +kernel)) (hts (.methodLink RL 91 yX10_init) (by decide +kernel)) (hts (.instanceMethod yX10_init) (by decide +kernel)) rfl (by decide +kernel) ⟨Nat.le_of_ble_eq_true rfl, Nat.le_of_ble_eq_true rfl⟩) ⟨BM.blind, fun U hU hW => ⟨rfl, by rw [hU]; exact hP3, va_K.moved hW.alike hK, fun q hq => by rw [hU] at hq; exact Nat.le_trans hs3 hq, trivial⟩⟩ rfl rfl hl.1 rfl (lv_room (Nat.le_of_ble_eq_true rfl)) dL_law_12 ⟨Nat.le_of_ble_eq_true rfl, Nat.le_of_ble_eq_true rfl⟩) hS3 (fun q _ h => h) (fun q h => h) (fun u t4 H4 locs4 ht4 hvm4 hw4 hB4 hz4 hk4 hS4 => ?_)
  obtain ⟨mm, ad4⟩ := u
  obtain ⟨hMI, hle4⟩ := hw4
  have hP4 : PM dC dI ac (fun q => H2.size ≤ q) ad4 mm H4 := tw_back hB4 ht4
  have eb : ad4 0 0 = ad3 0 0 := hle4.2 0 0 hk3
  have hs4 := hS4.1
  refine lv_astore_n (lv' := [(2, .ref (ad3 0 0)), (1, .ref (ad1 0 0)), (0, .ref b)]) hx hb dL_law_15 rfl hl (by decide) rfl (fun ls hl => ?_)
  refine va_forget (fun q hq => Nat.le_trans hs2 (hS4.2.2 q hq)) ?_
  refine lv_iconst (v := 1) hx hb dL_law_16 (by decide) ?_
  refine va_newaK (atype := .long) (N := 1) hx hb (hts (.arrayClass .long) (by decide +kernel)) rfl dL_law_17 rfl (by decide) (by decide) (by decide) (Nat.le_of_ble_eq_true rfl) (Nat.le_of_ble_eq_true rfl) rfl (fun H5 cA n1 n2 n3 n4 n5 => ?_)
  have ec : cA = ac 1 := Option.some.inj (n5.symm.trans (hK.2 1 _ rfl).2)
  subst ec
  refine W.eq (g2 := F0 m 19 ls [.ref H4.size]) rfl ?_
  refine lv_astore_n (lv' := [(3, .ref H4.size), (2, .ref (ad3 0 0)), (1, .ref (ad1 0 0)), (0, .ref b)]) hx hb dL_law_19 rfl hl (by decide) rfl (fun ls hl => ?_)
  refine lv_iconst (v := 0) hx hb dL_law_20 (by decide) ?_
  refine lv_istore (lv' := [(4, .int 0), (3, .ref H4.size), (2, .ref (ad3 0 0)), (1, .ref (ad1 0 0)), (0, .ref b)]) hx hb dL_law_21 hl (by decide) rfl (fun ls hl => ?_)
  have hold : ∀ q : Nat, q < H2.size → H5[q]? = H2[q]? := fun q hq => by
    rw [n3 q (by omega)]
    exact hS4.2.1 q hq (Nat.not_le.mpr hq)
  have hS5 : va_S (fun q => s.heap.size ≤ q) s.heap H5 [] := ⟨by omega, fun q h1 h2 => by rw [hold q (by omega)]; exact hS2.2.1 q h1 h2, fun _ h => by cases h⟩
  have hP5 : PX dC dI ac (fun q => s.heap.size ≤ q ∧ q < H2.size) ad2 x H5 := tw_stay (tw_mono hP2 (fun q h1 h2 => ⟨h2, h1⟩)) (fun q hq => hold q hq.2)
  have hM5 : PM dC dI ac (fun q => H2.size ≤ q ∧ q < H4.size) ad4 mm H5 := tw_stay (tw_mono hP4 (fun q h1 h2 => ⟨h2, h1⟩)) (fun q hq => n3 q hq.2)
  have hO5 : OutAt ac H4.size 0 H5 := ⟨fun _ => 0, rfl, by rw [n1, vp_cell_l]; rfl⟩
  have hJ : JG dC dI ac sa s.heap.size H4.size (ad1 0 0) (ad3 0 0) (fun x mm _ => Rel 0 x mm) H5 := by
    refine ⟨_, _, ad2, ad4, x, mm, 0, hP5, hM5, hO5, fun q h => ⟨h.1, by omega⟩, fun q h => ⟨by omega, by omega⟩, fun q h1 h2 => by omega, fun h => by omega, fun h => by omega, by omega, ⟨ea, eb, Nat.lt_of_lt_of_le hk1 (hle2.1 0), Nat.lt_of_lt_of_le hk3 (hle4.1 0), es, Nat.le_trans (by decide) (hle2.1 1000)⟩, Rel0 hXI hMI⟩
  refine W.widen (k := 200 + 13 * 0) (n := 6000 + 423 * 0) (Nat.le_of_ble_eq_true rfl) (Nat.le_of_ble_eq_true rfl) ?_
  exact lw_loop hx hb hml hown hts hlt hK hZ hZL hX hbl hL hr hlocks 512 0 H5 [] ls (by omega) (by omega) (lv_sub hl [4, 3, 2, 1, 0] rfl) hS5 hJ
