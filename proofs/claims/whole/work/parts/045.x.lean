def F_X5_init (τ0 : tw_T) (k0 : Nat) (Q : tw_T → Prop) : Prop := ∀ τ2 : tw_T, τ2 = nW τ0 12 1 → (∀ τ4 : tw_T, τ4 = sR τ2 5 k0 0 (some (gN τ0 12)) → (∀ τ6 : tw_T, τ6 = nW τ4 13 1 → (∀ τ8 : tw_T, τ8 = sR τ6 5 k0 1 (some (gN τ4 13)) → (∃ o9 : Nat, gR τ8 5 k0 0 = some o9 ∧ (F_J7_fill_53178 τ8 12 30 o9 ((-1 : Int32)) (fun (τ10 : tw_T) => (Q τ10)))))))
def rmX5_init : Room := { frames := 1, cells := 2, slots := 60, locals := 23 }
set_option maxHeartbeats 4000000 in
set_option maxRecDepth 100000 in
theorem mX5_init (l : Launch) (dC : Nat → ClassId) (dI : Nat → Nat → Nat) (ac : Nat → ClassId) (sa : Nat → Nat) (A : Nat → Prop) (ad : Nat → Nat → Nat) (τ0 : tw_T) (k0 : Nat) (Q : tw_T → Prop) (hF : F_X5_init τ0 k0 Q) (hk0 : k0 < gN τ0 5) : Met l yX5_init wsX5_init rmX5_init (va_Pc [.ref (ad 5 k0)] (BX dC dI ac sa A ad τ0)) (va_Qv (fun (u : tw_T × (Nat → Nat → Nat)) => Q u.1 ∧ tw_le τ0 ad u.1 u.2) (fun (u : tw_T × (Nat → Nat → Nat)) t => PX dC dI ac A u.2 u.1 t.heap) A) 2 60 A := by
  refine Met.ofW (cc := cX5_init) (maxL := 1) (ret := none) (by decide) rfl ?_
  intro p e s m args below meth c s₁ B hml hv
  obtain ⟨rfl, hP, hK, hA, hZ⟩ := hv
  have hx := B.exec
  have hb := B.bytes
  have hr := B.returns
  have hts := atoms_spec (ws := wsX5_init) B.pre
  have hown : s.vm.findClass RX5 = some m.cls := findClass_of_methodNamed B.named
  have hlocks := B.notSynchronized
  have hin : meth.name = "<init>" := (name_of_methodNamed B.named B.method).1
  have hS : va_S A s.heap s.heap [] := va_S.rf
  have hN : tw_le τ0 ad τ0 ad := tw_le.rf
  have hl := lv_entry ([.ref (ad 5 k0)]) (n := 1) (Nat.le_of_ble_eq_true rfl)
  rw [lg_entry_eq]
  generalize (lg_sl ([.ref (ad 5 k0)]) ++ List.replicate (1 - (lg_sl ([.ref (ad 5 k0)])).length) Slot.unset).toArray = ls at hl ⊢
  have hl : lv_has ls 1 [(0, .ref (ad 5 k0))] := hl
  unfold F_X5_init at hF
  refine lv_aload_n hx hb dX5_init_0 rfl (lv_at hl 0 rfl) ?_
  refine W.objInit hx hb hown (hts (.methodLink RX5 3 objectInit) (by decide +kernel)) (hts (.instanceMethod objectInit) (by decide +kernel)) (hts (.code objectInit ⟨#[0xb1]⟩ 1 none) (by decide +kernel)) rfl (by rw [hml]; exact hl.1) rfl dX5_init_1 (Nat.le_of_ble_eq_true rfl) (Nat.le_of_ble_eq_true rfl) ?_
  refine W.eq (g2 := F0 m 4 ls []) rfl ?_
  refine lv_aload_n hx hb dX5_init_4 rfl (lv_at hl 0 rfl) ?_
  refine lv_bipush (v := 30) hx hb dX5_init_5 (by decide) ?_
  refine tw_newa (atype := .int) (f := 12) (t0 := 0) (n9 := 30) (kd := 0) hx hb (hts (.arrayClass .int) (by decide +kernel)) hK hP hS hA (by decide) rfl (hK.2 0 _ rfl).2 (fun cA => vp_cell_i cA 30 (fun _ => 0)) (by decide) (by decide) (by decide) (Nat.le_of_ble_eq_true rfl) (Nat.le_of_ble_eq_true rfl) dX5_init_7 (fun ad1 H hP hle hS => ?_)
  obtain ⟨τ2, eτ2⟩ : ∃ y : tw_T, y = nW τ0 12 1 := ⟨_, rfl⟩
  have hF := hF τ2 eτ2
  rw [← eτ2] at hP hle
  have hl : lv_has ls 1 [(0, .ref (ad1 5 k0))] := by rw [hle.2 5 k0 hk0]; exact hl
  refine W.eq (g2 := F0 m 9 ls [.ref (ad1 12 (gN τ0 12)), .ref (ad1 5 k0)]) (by rw [hle.2 5 k0 hk0]) ?_
  have hk0 : k0 < gN τ2 5 := Nat.lt_of_lt_of_le hk0 (hle.1 5)
  have hN : tw_le τ0 ad τ2 ad1 := hN.tr hle
  have hq3 : gN τ0 12 < gN τ2 12 := by rw [eτ2, gN_nW, if_pos rfl]; exact Nat.lt_succ_self _
  refine tw_putF (τ' := sR τ2 5 k0 0 (some (gN τ0 12))) (ty := .array .int) hx hb hts (by decide +kernel) tyX5 tyX5_ok nmX5 hown hK hP hS (by decide) hk0 rfl rfl 0 (by decide) (hts (.fieldLink RX5 9 "WineCellar$Rack" "lots" "[I") (by decide +kernel)) (fun _ h9 => h9) rfl hin rfl (by decide +kernel) rfl rfl (Nat.le_of_ble_eq_true rfl) dX5_init_9 (fun H1 ha ho => tw_updR hP (by decide) hk0 (fun r9 h9 => by cases h9; exact hq3) ha ho) (fun H locs hP hS => ?_)
  obtain ⟨τ4, eτ4⟩ : ∃ y : tw_T, y = sR τ2 5 k0 0 (some (gN τ0 12)) := ⟨_, rfl⟩
  have hF := hF τ4 eτ4
  rw [← eτ4] at hP
  have hN : tw_le τ0 ad τ4 ad1 := hN.same (by rw [eτ4]; rfl)
  have hk0 : k0 < gN τ4 5 := by rw [eτ4]; exact hk0
  refine lv_aload_n hx hb dX5_init_12 rfl (lv_at hl 0 rfl) ?_
  refine lv_bipush (v := 30) hx hb dX5_init_13 (by decide) ?_
  refine tw_newa (atype := .int) (f := 13) (t0 := 0) (n9 := 30) (kd := 0) hx hb (hts (.arrayClass .int) (by decide +kernel)) hK hP hS hA (by decide) rfl (hK.2 0 _ rfl).2 (fun cA => vp_cell_i cA 30 (fun _ => 0)) (by decide) (by decide) (by decide) (Nat.le_of_ble_eq_true rfl) (Nat.le_of_ble_eq_true rfl) dX5_init_15 (fun ad5 H hP hle hS => ?_)
  obtain ⟨τ6, eτ6⟩ : ∃ y : tw_T, y = nW τ4 13 1 := ⟨_, rfl⟩
  have hF := hF τ6 eτ6
  rw [← eτ6] at hP hle
  have hl : lv_has ls 1 [(0, .ref (ad5 5 k0))] := by rw [hle.2 5 k0 hk0]; exact hl
  refine W.eq (g2 := F0 m 17 ls [.ref (ad5 13 (gN τ4 13)), .ref (ad5 5 k0)]) (by rw [hle.2 5 k0 hk0]) ?_
  have hk0 : k0 < gN τ6 5 := Nat.lt_of_lt_of_le hk0 (hle.1 5)
  have hN : tw_le τ0 ad τ6 ad5 := hN.tr hle
  have hq7 : gN τ4 13 < gN τ6 13 := by rw [eτ6, gN_nW, if_pos rfl]; exact Nat.lt_succ_self _
  refine tw_putF (τ' := sR τ6 5 k0 1 (some (gN τ4 13))) (ty := .array .int) hx hb hts (by decide +kernel) tyX5 tyX5_ok nmX5 hown hK hP hS (by decide) hk0 rfl rfl 1 (by decide) (hts (.fieldLink RX5 15 "WineCellar$Rack" "bottles" "[I") (by decide +kernel)) (fun _ h9 => h9) rfl hin rfl (by decide +kernel) rfl rfl (Nat.le_of_ble_eq_true rfl) dX5_init_17 (fun H1 ha ho => tw_updR hP (by decide) hk0 (fun r9 h9 => by cases h9; exact hq7) ha ho) (fun H locs hP hS => ?_)
  obtain ⟨τ8, eτ8⟩ : ∃ y : tw_T, y = sR τ6 5 k0 1 (some (gN τ4 13)) := ⟨_, rfl⟩
  have hF := hF τ8 eτ8
  rw [← eτ8] at hP
  have hN : tw_le τ0 ad τ8 ad5 := hN.same (by rw [eτ8]; rfl)
  have hk0 : k0 < gN τ8 5 := by rw [eτ8]; exact hk0
  refine lv_aload_n hx hb dX5_init_20 rfl (lv_at hl 0 rfl) ?_
  obtain ⟨o9, eo9, hF⟩ := hF
  have ho9 : o9 < gN τ8 12 := hP.2.2.2 5 k0 0 o9 (by decide) hk0 eo9
  refine tw_get (v := .ref (ad5 12 o9)) hx hb hts (by decide +kernel) hown hK hP (by decide) hk0 rfl rfl 0 (by decide) (hts (.fieldLink RX5 9 "WineCellar$Rack" "lots" "[I") (by decide +kernel)) (fun _ h9 => h9) (show some (va_rf ((gR τ8 5 k0 0).map (ad5 12))) = some (.ref (ad5 12 o9)) by rw [eo9]; rfl) dX5_init_21 ?_
  refine lv_iconst (v := (-1)) hx hb dX5_init_24 (by decide) ?_
  refine va_callv (va_runS (As := [.ref (ad5 12 o9), .int ((-1 : Int32))]) (rest := []) ⟨hx, hb, hml, hown, hts⟩ (mJ7_fill_53178 l dC dI ac sa A ad5 τ8 12 30 o9 ((-1 : Int32)) _ hF (by decide) rfl ho9) (va_cwS 2 hts gX5_init_J7_fill_53178 rfl rfl rfl (by decide +kernel) ⟨Nat.le_of_ble_eq_true rfl, Nat.le_of_ble_eq_true rfl⟩) ⟨BX.blind, fun U hU hW => ⟨rfl, BX.of hP hK hS hA hZ hU hW⟩⟩ rfl rfl hl.1 rfl (lv_room (Nat.le_of_ble_eq_true rfl)) dX5_init_25 ⟨Nat.le_of_ble_eq_true rfl, Nat.le_of_ble_eq_true rfl⟩) hS (fun q _ h => h) (fun q h => h) (fun τ10 t H locs ht hvm hw hB hz hk hS => ?_)
  obtain ⟨hF, hN9⟩ := hw
  have hP : PX dC dI ac A ad5 τ10 H := tw_back hB ht
  have hN : tw_le τ0 ad τ10 ad5 := hN.same hN9
  have hk0 : k0 < gN τ10 5 := by rw [hN9]; exact hk0
  exact W.vret hx hb hr (fun t ht hW => ⟨⟨(τ10, ad5), rfl, ⟨hF, hN⟩, tw_at hP ht⟩, hS.F ht⟩) hS.2.2 dX5_init_28
def F_X7_init (τ0 : tw_T) (k0 : Nat) (Q : tw_T → Prop) : Prop := ∀ τ2 : tw_T, τ2 = nW τ0 14 1 → (∀ τ4 : tw_T, τ4 = sR τ2 6 k0 0 (some (gN τ0 14)) → (∀ τ5 : tw_T, τ5 = sI τ4 6 k0 1 ((0 : Int32)) → (∀ τ6 : tw_T, τ6 = sI τ5 6 k0 2 ((0 : Int32)) → (∀ τ7 : tw_T, τ7 = sI τ6 6 k0 3 ((0 : Int32)) → (Q τ7)))))
def rmX7_init : Room := { frames := 1, cells := 1, slots := 200, locals := 12 }
set_option maxHeartbeats 4000000 in
set_option maxRecDepth 100000 in
theorem mX7_init (l : Launch) (dC : Nat → ClassId) (dI : Nat → Nat → Nat) (ac : Nat → ClassId) (sa : Nat → Nat) (A : Nat → Prop) (ad : Nat → Nat → Nat) (τ0 : tw_T) (k0 : Nat) (Q : tw_T → Prop) (hF : F_X7_init τ0 k0 Q) (hk0 : k0 < gN τ0 6) : Met l yX7_init wsX7_init rmX7_init (va_Pc [.ref (ad 6 k0)] (BX dC dI ac sa A ad τ0)) (va_Qv (fun (u : tw_T × (Nat → Nat → Nat)) => Q u.1 ∧ tw_le τ0 ad u.1 u.2) (fun (u : tw_T × (Nat → Nat → Nat)) t => PX dC dI ac A u.2 u.1 t.heap) A) 1 200 A := by
  refine Met.ofW (cc := cX7_init) (maxL := 1) (ret := none) (by decide) rfl ?_
  intro p e s m args below meth c s₁ B hml hv
  obtain ⟨rfl, hP, hK, hA, hZ⟩ := hv
  have hx := B.exec
  have hb := B.bytes
  have hr := B.returns
  have hts := atoms_spec (ws := wsX7_init) B.pre
  have hown : s.vm.findClass RX7 = some m.cls := findClass_of_methodNamed B.named
  have hlocks := B.notSynchronized
  have hin : meth.name = "<init>" := (name_of_methodNamed B.named B.method).1
  have hS : va_S A s.heap s.heap [] := va_S.rf
  have hN : tw_le τ0 ad τ0 ad := tw_le.rf
  have hl := lv_entry ([.ref (ad 6 k0)]) (n := 1) (Nat.le_of_ble_eq_true rfl)
  rw [lg_entry_eq]
  generalize (lg_sl ([.ref (ad 6 k0)]) ++ List.replicate (1 - (lg_sl ([.ref (ad 6 k0)])).length) Slot.unset).toArray = ls at hl ⊢
  have hl : lv_has ls 1 [(0, .ref (ad 6 k0))] := hl
  unfold F_X7_init at hF
  refine lv_aload_n hx hb dX7_init_0 rfl (lv_at hl 0 rfl) ?_
  refine W.objInit hx hb hown (hts (.methodLink RX7 3 objectInit) (by decide +kernel)) (hts (.instanceMethod objectInit) (by decide +kernel)) (hts (.code objectInit ⟨#[0xb1]⟩ 1 none) (by decide +kernel)) rfl (by rw [hml]; exact hl.1) rfl dX7_init_1 (Nat.le_of_ble_eq_true rfl) (Nat.le_of_ble_eq_true rfl) ?_
  refine W.eq (g2 := F0 m 4 ls []) rfl ?_
  refine lv_aload_n hx hb dX7_init_4 rfl (lv_at hl 0 rfl) ?_
  refine lv_sipush (v := 200) hx hb dX7_init_5 (by decide) ?_
  refine tw_newa (atype := .int) (f := 14) (t0 := 0) (n9 := 200) (kd := 0) hx hb (hts (.arrayClass .int) (by decide +kernel)) hK hP hS hA (by decide) rfl (hK.2 0 _ rfl).2 (fun cA => vp_cell_i cA 200 (fun _ => 0)) (by decide) (by decide) (by decide) (Nat.le_of_ble_eq_true rfl) (Nat.le_of_ble_eq_true rfl) dX7_init_8 (fun ad1 H hP hle hS => ?_)
  obtain ⟨τ2, eτ2⟩ : ∃ y : tw_T, y = nW τ0 14 1 := ⟨_, rfl⟩
  have hF := hF τ2 eτ2
  rw [← eτ2] at hP hle
  have hl : lv_has ls 1 [(0, .ref (ad1 6 k0))] := by rw [hle.2 6 k0 hk0]; exact hl
  refine W.eq (g2 := F0 m 10 ls [.ref (ad1 14 (gN τ0 14)), .ref (ad1 6 k0)]) (by rw [hle.2 6 k0 hk0]) ?_
  have hk0 : k0 < gN τ2 6 := Nat.lt_of_lt_of_le hk0 (hle.1 6)
  have hN : tw_le τ0 ad τ2 ad1 := hN.tr hle
  have hq3 : gN τ0 14 < gN τ2 14 := by rw [eτ2, gN_nW, if_pos rfl]; exact Nat.lt_succ_self _
  refine tw_putF (τ' := sR τ2 6 k0 0 (some (gN τ0 14))) (ty := .array .int) hx hb hts (by decide +kernel) tyX7 tyX7_ok nmX7 hown hK hP hS (by decide) hk0 rfl rfl 0 (by decide) (hts (.fieldLink RX7 11 "WineCellar$Tape" "bytes" "[I") (by decide +kernel)) (fun _ h9 => h9) rfl hin rfl (by decide +kernel) rfl rfl (Nat.le_of_ble_eq_true rfl) dX7_init_10 (fun H1 ha ho => tw_updR hP (by decide) hk0 (fun r9 h9 => by cases h9; exact hq3) ha ho) (fun H locs hP hS => ?_)
  obtain ⟨τ4, eτ4⟩ : ∃ y : tw_T, y = sR τ2 6 k0 0 (some (gN τ0 14)) := ⟨_, rfl⟩
  have hF := hF τ4 eτ4
  rw [← eτ4] at hP
  have hN : tw_le τ0 ad τ4 ad1 := hN.same (by rw [eτ4]; rfl)
  have hk0 : k0 < gN τ4 6 := by rw [eτ4]; exact hk0
  refine lv_aload_n hx hb dX7_init_13 rfl (lv_at hl 0 rfl) ?_
  refine lv_iconst (v := 0) hx hb dX7_init_14 (by decide) ?_
  refine tw_put (τ' := sI τ4 6 k0 1 ((0 : Int32))) (ty := .int) hx hb hts (by decide +kernel) tyX7 tyX7_ok nmX7 hown hK hP hS (by decide) hk0 rfl rfl 1 (by decide) (hts (.fieldLink RX7 15 "WineCellar$Tape" "length" "I") (by decide +kernel)) (fun _ h9 => h9) rfl (by decide +kernel) rfl rfl (Nat.le_of_ble_eq_true rfl) dX7_init_15 (fun H1 ha ho => tw_updI hP (by decide) hk0 ha ho) (fun H locs hP hS => ?_)
  obtain ⟨τ5, eτ5⟩ : ∃ y : tw_T, y = sI τ4 6 k0 1 ((0 : Int32)) := ⟨_, rfl⟩
  have hF := hF τ5 eτ5
  rw [← eτ5] at hP
  have hN : tw_le τ0 ad τ5 ad1 := hN.same (by rw [eτ5]; rfl)
  have hk0 : k0 < gN τ5 6 := by rw [eτ5]; exact hk0
  refine lv_aload_n hx hb dX7_init_18 rfl (lv_at hl 0 rfl) ?_
  refine lv_iconst (v := 0) hx hb dX7_init_19 (by decide) ?_
  refine tw_put (τ' := sI τ5 6 k0 2 ((0 : Int32))) (ty := .int) hx hb hts (by decide +kernel) tyX7 tyX7_ok nmX7 hown hK hP hS (by decide) hk0 rfl rfl 2 (by decide) (hts (.fieldLink RX7 19 "WineCellar$Tape" "at" "I") (by decide +kernel)) (fun _ h9 => h9) rfl (by decide +kernel) rfl rfl (Nat.le_of_ble_eq_true rfl) dX7_init_20 (fun H1 ha ho => tw_updI hP (by decide) hk0 ha ho) (fun H locs hP hS => ?_)
  obtain ⟨τ6, eτ6⟩ : ∃ y : tw_T, y = sI τ5 6 k0 2 ((0 : Int32)) := ⟨_, rfl⟩
  have hF := hF τ6 eτ6
  rw [← eτ6] at hP
  have hN : tw_le τ0 ad τ6 ad1 := hN.same (by rw [eτ6]; rfl)
  have hk0 : k0 < gN τ6 6 := by rw [eτ6]; exact hk0
  refine lv_aload_n hx hb dX7_init_23 rfl (lv_at hl 0 rfl) ?_
  refine lv_iconst (v := 0) hx hb dX7_init_24 (by decide) ?_
  refine tw_put (τ' := sI τ6 6 k0 3 ((0 : Int32))) (ty := .int) hx hb hts (by decide +kernel) tyX7 tyX7_ok nmX7 hown hK hP hS (by decide) hk0 rfl rfl 3 (by decide) (hts (.fieldLink RX7 22 "WineCellar$Tape" "end" "I") (by decide +kernel)) (fun _ h9 => h9) rfl (by decide +kernel) rfl rfl (Nat.le_of_ble_eq_true rfl) dX7_init_25 (fun H1 ha ho => tw_updI hP (by decide) hk0 ha ho) (fun H locs hP hS => ?_)
  obtain ⟨τ7, eτ7⟩ : ∃ y : tw_T, y = sI τ6 6 k0 3 ((0 : Int32)) := ⟨_, rfl⟩
  have hF := hF τ7 eτ7
  rw [← eτ7] at hP
  have hN : tw_le τ0 ad τ7 ad1 := hN.same (by rw [eτ7]; rfl)
  have hk0 : k0 < gN τ7 6 := by rw [eτ7]; exact hk0
  exact W.vret hx hb hr (fun t ht hW => ⟨⟨(τ7, ad1), rfl, ⟨hF, hN⟩, tw_at hP ht⟩, hS.F ht⟩) hS.2.2 dX7_init_28
def F_X9_addLot (τ0 : tw_T) (k0 : Nat) (x1 : Int32) (x2 : Int32) (x3 : Int32) (Q : Int32 → tw_T → Prop) : Prop := ∃ o1 : Nat, gR τ0 0 k0 1 = some o1 ∧ (∀ τ3 : tw_T, τ3 = nW τ0 21 1 → (∃ o5 : Nat, gR τ3 0 k0 0 = some o5 ∧ (vp_in x1 20 ∧ (∃ o6 : Nat, gR τ3 1 o5 x1.toNatClampNeg = some o6 ∧ (F_X3_init τ3 (gN τ0 21) x1 o6 x2 x3 (fun (τ8 : tw_T) => (vp_in (gI τ0 0 k0 12) 60 ∧ (∀ τ10 : tw_T, τ10 = sR τ8 2 o1 (gI τ0 0 k0 12).toNatClampNeg (some (gN τ0 21)) → (∀ τ11 : tw_T, τ11 = sI τ10 0 k0 12 ((gI τ10 0 k0 12) + ((1 : Int32))) → (Q ((gI τ11 0 k0 12) - ((1 : Int32))) τ11))))))))))
def rmX9_addLot : Room := { frames := 2, cells := 1, slots := 8, locals := 36 }
set_option maxHeartbeats 4000000 in
set_option maxRecDepth 100000 in
theorem mX9_addLot (l : Launch) (dC : Nat → ClassId) (dI : Nat → Nat → Nat) (ac : Nat → ClassId) (sa : Nat → Nat) (A : Nat → Prop) (ad : Nat → Nat → Nat) (τ0 : tw_T) (k0 : Nat) (x1 : Int32) (x2 : Int32) (x3 : Int32) (Q : Int32 → tw_T → Prop) (hF : F_X9_addLot τ0 k0 x1 x2 x3 Q) (hk0 : k0 < gN τ0 0) : Met l yX9_addLot wsX9_addLot rmX9_addLot (va_Pc [.ref (ad 0 k0), .int x1, .int x2, .int x3] (BX dC dI ac sa A ad τ0)) (va_Qi (fun r (u : tw_T × (Nat → Nat → Nat)) => Q r u.1 ∧ tw_le τ0 ad u.1 u.2) (fun (u : tw_T × (Nat → Nat → Nat)) t => PX dC dI ac A u.2 u.1 t.heap) A) 1 8 A := by
  refine Met.ofW (cc := cX9_addLot) (maxL := 4) (ret := (some .int)) (by decide) rfl ?_
  intro p e s m args below meth c s₁ B hml hv
  obtain ⟨rfl, hP, hK, hA, hZ⟩ := hv
  have hx := B.exec
  have hb := B.bytes
  have hr := B.returns
  have hts := atoms_spec (ws := wsX9_addLot) B.pre
  have hown : s.vm.findClass RX9 = some m.cls := findClass_of_methodNamed B.named
  have hlocks := B.notSynchronized
  have hS : va_S A s.heap s.heap [] := va_S.rf
  have hN : tw_le τ0 ad τ0 ad := tw_le.rf
  have hl := lv_entry ([.ref (ad 0 k0), .int x1, .int x2, .int x3]) (n := 4) (Nat.le_of_ble_eq_true rfl)
  rw [lg_entry_eq]
  generalize (lg_sl ([.ref (ad 0 k0), .int x1, .int x2, .int x3]) ++ List.replicate (4 - (lg_sl ([.ref (ad 0 k0), .int x1, .int x2, .int x3])).length) Slot.unset).toArray = ls at hl ⊢
  have hl : lv_has ls 4 [(0, .ref (ad 0 k0)), (1, .int x1), (2, .int x2), (3, .int x3)] := hl
  unfold F_X9_addLot at hF
  refine lv_aload_n hx hb dX9_addLot_0 rfl (lv_at hl 0 rfl) ?_
  obtain ⟨o1, eo1, hF⟩ := hF
  have ho1 : o1 < gN τ0 2 := hP.2.2.2 0 k0 1 o1 (by decide) hk0 eo1
  refine tw_get (v := .ref (ad 2 o1)) hx hb hts (by decide +kernel) hown hK hP (by decide) hk0 rfl rfl 1 (by decide) (hts (.fieldLink RX9 17 "WineCellar" "lots" "[LWineCellar$Lot;") (by decide +kernel)) (fun _ h9 => h9) (show some (va_rf ((gR τ0 0 k0 1).map (ad 2))) = some (.ref (ad 2 o1)) by rw [eo1]; rfl) dX9_addLot_1 ?_
  refine lv_aload_n hx hb dX9_addLot_4 rfl (lv_at hl 0 rfl) ?_
  refine tw_get (v := .int (gI τ0 0 k0 12)) hx hb hts (by decide +kernel) hown hK hP (by decide) hk0 rfl rfl 12 (by decide) (hts (.fieldLink RX9 76 "WineCellar" "lotCount" "I") (by decide +kernel)) (fun _ h9 => h9) rfl dX9_addLot_5 ?_
  refine tw_new (f := 21) (fs := [.int 0, .null, .int 0, .int 0, .int 0, .int 0, .int 0, .int 0]) hx hb hts (by decide +kernel) tyX3 tyX3_ok hown (hts (.classLink RX9 15 RX3) (by decide +kernel)) (hts (.instantiable RX3 8) (by decide +kernel)) (hts (.initialized RX3) (by decide +kernel)) hK hP hS hA (by decide) (fun _ => rfl) rfl (fun j hj => by rcases (show j = 0 ∨ j = 1 ∨ j = 2 ∨ j = 3 ∨ j = 4 ∨ j = 5 ∨ j = 6 ∨ j = 7 by omega) with rfl | rfl | rfl | rfl | rfl | rfl | rfl | rfl <;> rfl) (Nat.le_of_ble_eq_true rfl) (Nat.le_of_ble_eq_true rfl) dX9_addLot_8 (fun ad2 H hP hle hS => ?_)
  obtain ⟨τ3, eτ3⟩ : ∃ y : tw_T, y = nW τ0 21 1 := ⟨_, rfl⟩
  have hF := hF τ3 eτ3
  rw [← eτ3] at hP hle
  have hl : lv_has ls 4 [(0, .ref (ad2 0 k0)), (1, .int x1), (2, .int x2), (3, .int x3)] := by rw [hle.2 0 k0 hk0]; exact hl
  refine W.eq (g2 := F0 m 11 ls [.ref (ad2 21 (gN τ0 21)), .int (gI τ0 0 k0 12), .ref (ad2 2 o1)]) (by rw [hle.2 2 o1 ho1]) ?_
  have hk0 : k0 < gN τ3 0 := Nat.lt_of_lt_of_le hk0 (hle.1 0)
  have ho1 : o1 < gN τ3 2 := Nat.lt_of_lt_of_le ho1 (hle.1 2)
  have hN : tw_le τ0 ad τ3 ad2 := hN.tr hle
  have hq4 : gN τ0 21 < gN τ3 21 := by rw [eτ3, gN_nW, if_pos rfl]; exact Nat.lt_succ_self _
  refine lv_dup hx hb dX9_addLot_11 rfl ?_
  refine lv_iload_n hx hb dX9_addLot_12 rfl (lv_at hl 1 rfl) ?_
  refine lv_aload_n hx hb dX9_addLot_13 rfl (lv_at hl 0 rfl) ?_
  obtain ⟨o5, eo5, hF⟩ := hF
  have ho5 : o5 < gN τ3 1 := hP.2.2.2 0 k0 0 o5 (by decide) hk0 eo5
  refine tw_get (v := .ref (ad2 1 o5)) hx hb hts (by decide +kernel) hown hK hP (by decide) hk0 rfl rfl 0 (by decide) (hts (.fieldLink RX9 11 "WineCellar" "kinds" "[LWineCellar$Kind;") (by decide +kernel)) (fun _ h9 => h9) (show some (va_rf ((gR τ3 0 k0 0).map (ad2 1))) = some (.ref (ad2 1 o5)) by rw [eo5]; rfl) dX9_addLot_14 ?_
  refine lv_iload_n hx hb dX9_addLot_17 rfl (lv_at hl 1 rfl) ?_
  obtain ⟨hi7, o6, eo6, hF⟩ := hF
  have ho6 : o6 < gN τ3 20 := hP.2.2.2 1 o5 _ o6 (by decide) ho5 eo6
  refine tw_aald hx hb hK hP (by decide) ho5 rfl 3 rfl rfl (fun _ => rfl) hi7 dX9_addLot_18 ?_
  refine W.eq (g2 := F0 m 19 ls [.ref (ad2 20 o6), .int x1, .ref (ad2 21 (gN τ0 21)), .ref (ad2 21 (gN τ0 21)), .int (gI τ0 0 k0 12), .ref (ad2 2 o1)]) (by rw [eo6]; rfl) ?_
  refine lv_iload_n hx hb dX9_addLot_19 rfl (lv_at hl 2 rfl) ?_
  refine lv_iload_n hx hb dX9_addLot_20 rfl (lv_at hl 3 rfl) ?_
  refine va_callv (va_runI (As := [.int x1, .ref (ad2 20 o6), .int x2, .int x3]) (rest := [.ref (ad2 21 (gN τ0 21)), .int (gI τ0 0 k0 12), .ref (ad2 2 o1)]) ⟨hx, hb, hml, hown, hts⟩ (mX3_init l dC dI ac sa A ad2 τ3 (gN τ0 21) x1 o6 x2 x3 _ hF hq4 ho6) (cwI 4 hts gX9_addLot_X3_init rfl rfl rfl (hts (.initialized RX3) (by decide +kernel)) (hts (.methodLink RX9 366 yX3_init) (by decide +kernel)) (hts (.instanceMethod yX3_init) (by decide +kernel)) rfl (by decide +kernel) ⟨Nat.le_of_ble_eq_true rfl, Nat.le_of_ble_eq_true rfl⟩) ⟨BX.blind, fun U hU hW => ⟨rfl, BX.of hP hK hS hA hZ hU hW⟩⟩ rfl rfl hl.1 rfl (lv_room (Nat.le_of_ble_eq_true rfl)) dX9_addLot_21 ⟨Nat.le_of_ble_eq_true rfl, Nat.le_of_ble_eq_true rfl⟩) hS (fun q _ h => h) (fun q h => h) (fun τ8 t H locs ht hvm hw hB hz hk hS => ?_)
  obtain ⟨hF, hN9⟩ := hw
  have hP : PX dC dI ac A ad2 τ8 H := tw_back hB ht
  have hN : tw_le τ0 ad τ8 ad2 := hN.same hN9
  have hk0 : k0 < gN τ8 0 := by rw [hN9]; exact hk0
  have hq4 : gN τ0 21 < gN τ8 21 := by rw [hN9]; exact hq4
  have ho1 : o1 < gN τ8 2 := by rw [hN9]; exact ho1
  obtain ⟨hi9, hF⟩ := hF
  refine tw_aast hx hb hK hP hS (by decide) ho1 rfl (by decide) hq4 rfl rfl 4 rfl (fun _ => rfl) hi9 dX9_addLot_24 (fun H locs hP hS => ?_)
  obtain ⟨τ10, eτ10⟩ : ∃ y : tw_T, y = sR τ8 2 o1 (gI τ0 0 k0 12).toNatClampNeg (some (gN τ0 21)) := ⟨_, rfl⟩
  have hF := hF τ10 eτ10
  rw [← eτ10] at hP
  have hN : tw_le τ0 ad τ10 ad2 := hN.same (by rw [eτ10]; rfl)
  have hk0 : k0 < gN τ10 0 := by rw [eτ10]; exact hk0
  refine lv_aload_n hx hb dX9_addLot_25 rfl (lv_at hl 0 rfl) ?_
  refine lv_dup hx hb dX9_addLot_26 rfl ?_
  refine tw_get (v := .int (gI τ10 0 k0 12)) hx hb hts (by decide +kernel) hown hK hP (by decide) hk0 rfl rfl 12 (by decide) (hts (.fieldLink RX9 76 "WineCellar" "lotCount" "I") (by decide +kernel)) (fun _ h9 => h9) rfl dX9_addLot_27 ?_
  refine lv_iconst (v := 1) hx hb dX9_addLot_30 (by decide) ?_
  refine lv_iadd hx hb dX9_addLot_31 ?_
  refine tw_put (τ' := sI τ10 0 k0 12 ((gI τ10 0 k0 12) + ((1 : Int32)))) (ty := .int) hx hb hts (by decide +kernel) tyX9 tyX9_ok nmX9 hown hK hP hS (by decide) hk0 rfl rfl 12 (by decide) (hts (.fieldLink RX9 76 "WineCellar" "lotCount" "I") (by decide +kernel)) (fun _ h9 => h9) rfl (by decide +kernel) rfl rfl (Nat.le_of_ble_eq_true rfl) dX9_addLot_32 (fun H1 ha ho => tw_updI hP (by decide) hk0 ha ho) (fun H locs hP hS => ?_)
  obtain ⟨τ11, eτ11⟩ : ∃ y : tw_T, y = sI τ10 0 k0 12 ((gI τ10 0 k0 12) + ((1 : Int32))) := ⟨_, rfl⟩
  have hF := hF τ11 eτ11
  rw [← eτ11] at hP
  have hN : tw_le τ0 ad τ11 ad2 := hN.same (by rw [eτ11]; rfl)
  have hk0 : k0 < gN τ11 0 := by rw [eτ11]; exact hk0
  refine lv_aload_n hx hb dX9_addLot_35 rfl (lv_at hl 0 rfl) ?_
  refine tw_get (v := .int (gI τ11 0 k0 12)) hx hb hts (by decide +kernel) hown hK hP (by decide) hk0 rfl rfl 12 (by decide) (hts (.fieldLink RX9 76 "WineCellar" "lotCount" "I") (by decide +kernel)) (fun _ h9 => h9) rfl dX9_addLot_36 ?_
  refine lv_iconst (v := 1) hx hb dX9_addLot_39 (by decide) ?_
  refine lv_isub hx hb dX9_addLot_40 ?_
  exact W.iret (v := (gI τ11 0 k0 12) - ((1 : Int32))) hx hb hr (fun t ht hW => ⟨⟨((gI τ11 0 k0 12) - ((1 : Int32))), (τ11, ad2), rfl, ⟨hF, hN⟩, tw_at hP ht⟩, hS.F ht⟩) hS.2.2 dX9_addLot_41
