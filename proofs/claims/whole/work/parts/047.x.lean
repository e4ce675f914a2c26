def F_X0_init (τ0 : tw_T) (k0 : Nat) (Q : tw_T → Prop) : Prop := ∀ τ2 : tw_T, τ2 = nW τ0 30 1 → (∀ τ4 : tw_T, τ4 = sR τ2 22 k0 0 (some (gN τ0 30)) → (∀ τ6 : tw_T, τ6 = nW τ4 31 1 → (∀ τ8 : tw_T, τ8 = sR τ6 22 k0 1 (some (gN τ4 31)) → (∀ τ10 : tw_T, τ10 = nW τ8 32 1 → (∀ τ12 : tw_T, τ12 = sR τ10 22 k0 2 (some (gN τ8 32)) → (∀ τ14 : tw_T, τ14 = nW τ12 33 1 → (∀ τ16 : tw_T, τ16 = sR τ14 22 k0 3 (some (gN τ12 33)) → (∀ τ17 : tw_T, τ17 = sI τ16 22 k0 4 ((0 : Int32)) → (Q τ17)))))))))
def rmX0_init : Room := { frames := 1, cells := 4, slots := 48, locals := 12 }
set_option maxHeartbeats 4000000 in
set_option maxRecDepth 100000 in
theorem mX0_init (l : Launch) (dC : Nat → ClassId) (dI : Nat → Nat → Nat) (ac : Nat → ClassId) (sa : Nat → Nat) (A : Nat → Prop) (ad : Nat → Nat → Nat) (τ0 : tw_T) (k0 : Nat) (Q : tw_T → Prop) (hF : F_X0_init τ0 k0 Q) (hk0 : k0 < gN τ0 22) : Met l yX0_init wsX0_init rmX0_init (va_Pc [.ref (ad 22 k0)] (BX dC dI ac sa A ad τ0)) (va_Qv (fun (u : tw_T × (Nat → Nat → Nat)) => Q u.1 ∧ tw_le τ0 ad u.1 u.2) (fun (u : tw_T × (Nat → Nat → Nat)) t => PX dC dI ac A u.2 u.1 t.heap) A) 4 48 A := by
  refine Met.ofW (cc := cX0_init) (maxL := 1) (ret := none) (by decide) rfl ?_
  intro p e s m args below meth c s₁ B hml hv
  obtain ⟨rfl, hP, hK, hA, hZ⟩ := hv
  have hx := B.exec
  have hb := B.bytes
  have hr := B.returns
  have hts := atoms_spec (ws := wsX0_init) B.pre
  have hown : s.vm.findClass RX0 = some m.cls := findClass_of_methodNamed B.named
  have hlocks := B.notSynchronized
  have hin : meth.name = "<init>" := (name_of_methodNamed B.named B.method).1
  have hS : va_S A s.heap s.heap [] := va_S.rf
  have hN : tw_le τ0 ad τ0 ad := tw_le.rf
  have hl := lv_entry ([.ref (ad 22 k0)]) (n := 1) (Nat.le_of_ble_eq_true rfl)
  rw [lg_entry_eq]
  generalize (lg_sl ([.ref (ad 22 k0)]) ++ List.replicate (1 - (lg_sl ([.ref (ad 22 k0)])).length) Slot.unset).toArray = ls at hl ⊢
  have hl : lv_has ls 1 [(0, .ref (ad 22 k0))] := hl
  unfold F_X0_init at hF
  refine lv_aload_n hx hb dX0_init_0 rfl (lv_at hl 0 rfl) ?_
  refine W.objInit hx hb hown (hts (.methodLink RX0 3 objectInit) (by decide +kernel)) (hts (.instanceMethod objectInit) (by decide +kernel)) (hts (.code objectInit ⟨#[0xb1]⟩ 1 none) (by decide +kernel)) rfl (by rw [hml]; exact hl.1) rfl dX0_init_1 (Nat.le_of_ble_eq_true rfl) (Nat.le_of_ble_eq_true rfl) ?_
  refine W.eq (g2 := F0 m 4 ls []) rfl ?_
  refine lv_aload_n hx hb dX0_init_4 rfl (lv_at hl 0 rfl) ?_
  refine lv_bipush (v := 12) hx hb dX0_init_5 (by decide) ?_
  refine tw_anew (f := 30) (t0 := 7) (n9 := 12) hx hb hown (hts (.classLink RX0 9 RX8) (by decide +kernel)) hZ.2.2.2.1.2.2.2.2.1 hK hP hS hA (by decide) rfl (tw_ac_obj (hK.2 7 _ rfl).2) (by decide) (by decide) (by decide) (Nat.le_of_ble_eq_true rfl) (Nat.le_of_ble_eq_true rfl) dX0_init_7 (fun ad1 H hP hle hS => ?_)
  obtain ⟨τ2, eτ2⟩ : ∃ y : tw_T, y = nW τ0 30 1 := ⟨_, rfl⟩
  have hF := hF τ2 eτ2
  rw [← eτ2] at hP hle
  have hl : lv_has ls 1 [(0, .ref (ad1 22 k0))] := by rw [hle.2 22 k0 hk0]; exact hl
  refine W.eq (g2 := F0 m 10 ls [.ref (ad1 30 (gN τ0 30)), .ref (ad1 22 k0)]) (by rw [hle.2 22 k0 hk0]) ?_
  have hk0 : k0 < gN τ2 22 := Nat.lt_of_lt_of_le hk0 (hle.1 22)
  have hN : tw_le τ0 ad τ2 ad1 := hN.tr hle
  have hq3 : gN τ0 30 < gN τ2 30 := by rw [eτ2, gN_nW, if_pos rfl]; exact Nat.lt_succ_self _
  refine tw_putF (τ' := sR τ2 22 k0 0 (some (gN τ0 30))) (ty := .array (.object "WineCellar$Test")) hx hb hts (by decide +kernel) tyX0 tyX0_ok nmX0 hown hK hP hS (by decide) hk0 rfl rfl 0 (by decide) (hts (.fieldLink RX0 11 "WineCellar$Dish" "tests" "[LWineCellar$Test;") (by decide +kernel)) (fun _ h9 => h9) rfl hin rfl (by decide +kernel) rfl rfl (Nat.le_of_ble_eq_true rfl) dX0_init_10 (fun H1 ha ho => tw_updR hP (by decide) hk0 (fun r9 h9 => by cases h9; exact hq3) ha ho) (fun H locs hP hS => ?_)
  obtain ⟨τ4, eτ4⟩ : ∃ y : tw_T, y = sR τ2 22 k0 0 (some (gN τ0 30)) := ⟨_, rfl⟩
  have hF := hF τ4 eτ4
  rw [← eτ4] at hP
  have hN : tw_le τ0 ad τ4 ad1 := hN.same (by rw [eτ4]; rfl)
  have hk0 : k0 < gN τ4 22 := by rw [eτ4]; exact hk0
  refine lv_aload_n hx hb dX0_init_13 rfl (lv_at hl 0 rfl) ?_
  refine lv_bipush (v := 12) hx hb dX0_init_14 (by decide) ?_
  refine tw_newa (atype := .int) (f := 31) (t0 := 0) (n9 := 12) (kd := 0) hx hb (hts (.arrayClass .int) (by decide +kernel)) hK hP hS hA (by decide) rfl (hK.2 0 _ rfl).2 (fun cA => vp_cell_i cA 12 (fun _ => 0)) (by decide) (by decide) (by decide) (Nat.le_of_ble_eq_true rfl) (Nat.le_of_ble_eq_true rfl) dX0_init_16 (fun ad5 H hP hle hS => ?_)
  obtain ⟨τ6, eτ6⟩ : ∃ y : tw_T, y = nW τ4 31 1 := ⟨_, rfl⟩
  have hF := hF τ6 eτ6
  rw [← eτ6] at hP hle
  have hl : lv_has ls 1 [(0, .ref (ad5 22 k0))] := by rw [hle.2 22 k0 hk0]; exact hl
  refine W.eq (g2 := F0 m 18 ls [.ref (ad5 31 (gN τ4 31)), .ref (ad5 22 k0)]) (by rw [hle.2 22 k0 hk0]) ?_
  have hk0 : k0 < gN τ6 22 := Nat.lt_of_lt_of_le hk0 (hle.1 22)
  have hN : tw_le τ0 ad τ6 ad5 := hN.tr hle
  have hq7 : gN τ4 31 < gN τ6 31 := by rw [eτ6, gN_nW, if_pos rfl]; exact Nat.lt_succ_self _
  refine tw_putF (τ' := sR τ6 22 k0 1 (some (gN τ4 31))) (ty := .array .int) hx hb hts (by decide +kernel) tyX0 tyX0_ok nmX0 hown hK hP hS (by decide) hk0 rfl rfl 1 (by decide) (hts (.fieldLink RX0 17 "WineCellar$Dish" "signs" "[I") (by decide +kernel)) (fun _ h9 => h9) rfl hin rfl (by decide +kernel) rfl rfl (Nat.le_of_ble_eq_true rfl) dX0_init_18 (fun H1 ha ho => tw_updR hP (by decide) hk0 (fun r9 h9 => by cases h9; exact hq7) ha ho) (fun H locs hP hS => ?_)
  obtain ⟨τ8, eτ8⟩ : ∃ y : tw_T, y = sR τ6 22 k0 1 (some (gN τ4 31)) := ⟨_, rfl⟩
  have hF := hF τ8 eτ8
  rw [← eτ8] at hP
  have hN : tw_le τ0 ad τ8 ad5 := hN.same (by rw [eτ8]; rfl)
  have hk0 : k0 < gN τ8 22 := by rw [eτ8]; exact hk0
  refine lv_aload_n hx hb dX0_init_21 rfl (lv_at hl 0 rfl) ?_
  refine lv_bipush (v := 12) hx hb dX0_init_22 (by decide) ?_
  refine tw_newa (atype := .int) (f := 32) (t0 := 0) (n9 := 12) (kd := 0) hx hb (hts (.arrayClass .int) (by decide +kernel)) hK hP hS hA (by decide) rfl (hK.2 0 _ rfl).2 (fun cA => vp_cell_i cA 12 (fun _ => 0)) (by decide) (by decide) (by decide) (Nat.le_of_ble_eq_true rfl) (Nat.le_of_ble_eq_true rfl) dX0_init_24 (fun ad9 H hP hle hS => ?_)
  obtain ⟨τ10, eτ10⟩ : ∃ y : tw_T, y = nW τ8 32 1 := ⟨_, rfl⟩
  have hF := hF τ10 eτ10
  rw [← eτ10] at hP hle
  have hl : lv_has ls 1 [(0, .ref (ad9 22 k0))] := by rw [hle.2 22 k0 hk0]; exact hl
  refine W.eq (g2 := F0 m 26 ls [.ref (ad9 32 (gN τ8 32)), .ref (ad9 22 k0)]) (by rw [hle.2 22 k0 hk0]) ?_
  have hk0 : k0 < gN τ10 22 := Nat.lt_of_lt_of_le hk0 (hle.1 22)
  have hN : tw_le τ0 ad τ10 ad9 := hN.tr hle
  have hq11 : gN τ8 32 < gN τ10 32 := by rw [eτ10, gN_nW, if_pos rfl]; exact Nat.lt_succ_self _
  refine tw_putF (τ' := sR τ10 22 k0 2 (some (gN τ8 32))) (ty := .array .int) hx hb hts (by decide +kernel) tyX0 tyX0_ok nmX0 hown hK hP hS (by decide) hk0 rfl rfl 2 (by decide) (hts (.fieldLink RX0 21 "WineCellar$Dish" "limits" "[I") (by decide +kernel)) (fun _ h9 => h9) rfl hin rfl (by decide +kernel) rfl rfl (Nat.le_of_ble_eq_true rfl) dX0_init_26 (fun H1 ha ho => tw_updR hP (by decide) hk0 (fun r9 h9 => by cases h9; exact hq11) ha ho) (fun H locs hP hS => ?_)
  obtain ⟨τ12, eτ12⟩ : ∃ y : tw_T, y = sR τ10 22 k0 2 (some (gN τ8 32)) := ⟨_, rfl⟩
  have hF := hF τ12 eτ12
  rw [← eτ12] at hP
  have hN : tw_le τ0 ad τ12 ad9 := hN.same (by rw [eτ12]; rfl)
  have hk0 : k0 < gN τ12 22 := by rw [eτ12]; exact hk0
  refine lv_aload_n hx hb dX0_init_29 rfl (lv_at hl 0 rfl) ?_
  refine lv_bipush (v := 12) hx hb dX0_init_30 (by decide) ?_
  refine tw_newa (atype := .int) (f := 33) (t0 := 0) (n9 := 12) (kd := 0) hx hb (hts (.arrayClass .int) (by decide +kernel)) hK hP hS hA (by decide) rfl (hK.2 0 _ rfl).2 (fun cA => vp_cell_i cA 12 (fun _ => 0)) (by decide) (by decide) (by decide) (Nat.le_of_ble_eq_true rfl) (Nat.le_of_ble_eq_true rfl) dX0_init_32 (fun ad13 H hP hle hS => ?_)
  obtain ⟨τ14, eτ14⟩ : ∃ y : tw_T, y = nW τ12 33 1 := ⟨_, rfl⟩
  have hF := hF τ14 eτ14
  rw [← eτ14] at hP hle
  have hl : lv_has ls 1 [(0, .ref (ad13 22 k0))] := by rw [hle.2 22 k0 hk0]; exact hl
  refine W.eq (g2 := F0 m 34 ls [.ref (ad13 33 (gN τ12 33)), .ref (ad13 22 k0)]) (by rw [hle.2 22 k0 hk0]) ?_
  have hk0 : k0 < gN τ14 22 := Nat.lt_of_lt_of_le hk0 (hle.1 22)
  have hN : tw_le τ0 ad τ14 ad13 := hN.tr hle
  have hq15 : gN τ12 33 < gN τ14 33 := by rw [eτ14, gN_nW, if_pos rfl]; exact Nat.lt_succ_self _
  refine tw_putF (τ' := sR τ14 22 k0 3 (some (gN τ12 33))) (ty := .array .int) hx hb hts (by decide +kernel) tyX0 tyX0_ok nmX0 hown hK hP hS (by decide) hk0 rfl rfl 3 (by decide) (hts (.fieldLink RX0 24 "WineCellar$Dish" "points" "[I") (by decide +kernel)) (fun _ h9 => h9) rfl hin rfl (by decide +kernel) rfl rfl (Nat.le_of_ble_eq_true rfl) dX0_init_34 (fun H1 ha ho => tw_updR hP (by decide) hk0 (fun r9 h9 => by cases h9; exact hq15) ha ho) (fun H locs hP hS => ?_)
  obtain ⟨τ16, eτ16⟩ : ∃ y : tw_T, y = sR τ14 22 k0 3 (some (gN τ12 33)) := ⟨_, rfl⟩
  have hF := hF τ16 eτ16
  rw [← eτ16] at hP
  have hN : tw_le τ0 ad τ16 ad13 := hN.same (by rw [eτ16]; rfl)
  have hk0 : k0 < gN τ16 22 := by rw [eτ16]; exact hk0
  refine lv_aload_n hx hb dX0_init_37 rfl (lv_at hl 0 rfl) ?_
  refine lv_iconst (v := 0) hx hb dX0_init_38 (by decide) ?_
  refine tw_put (τ' := sI τ16 22 k0 4 ((0 : Int32))) (ty := .int) hx hb hts (by decide +kernel) tyX0 tyX0_ok nmX0 hown hK hP hS (by decide) hk0 rfl rfl 4 (by decide) (hts (.fieldLink RX0 27 "WineCellar$Dish" "terms" "I") (by decide +kernel)) (fun _ h9 => h9) rfl (by decide +kernel) rfl rfl (Nat.le_of_ble_eq_true rfl) dX0_init_39 (fun H1 ha ho => tw_updI hP (by decide) hk0 ha ho) (fun H locs hP hS => ?_)
  obtain ⟨τ17, eτ17⟩ : ∃ y : tw_T, y = sI τ16 22 k0 4 ((0 : Int32)) := ⟨_, rfl⟩
  have hF := hF τ17 eτ17
  rw [← eτ17] at hP
  have hN : tw_le τ0 ad τ17 ad13 := hN.same (by rw [eτ17]; rfl)
  have hk0 : k0 < gN τ17 22 := by rw [eτ17]; exact hk0
  exact W.vret hx hb hr (fun t ht hW => ⟨⟨(τ17, ad13), rfl, ⟨hF, hN⟩, tw_at hP ht⟩, hS.F ht⟩) hS.2.2 dX0_init_42
def F_X6_init (τ0 : tw_T) (k0 : Nat) (x1 : Int32) (Q : tw_T → Prop) : Prop := ∀ τ2 : tw_T, τ2 = sM (nW (nW τ0 36 10) 34 1) 34 (gN τ0 34) (gN τ0 36) 10 → (∀ τ4 : tw_T, τ4 = sR τ2 23 k0 0 (some (gN τ0 34)) → (∀ τ6 : tw_T, τ6 = nW τ4 35 1 → (∀ τ8 : tw_T, τ8 = sR τ6 23 k0 1 (some (gN τ4 35)) → (∀ τ9 : tw_T, τ9 = sI τ8 23 k0 2 x1 → (∃ o10 : Nat, gR τ9 23 k0 1 = some o10 ∧ (F_J7_fill_53178 τ9 35 10 o10 ((-1 : Int32)) (fun (τ11 : tw_T) => (Q τ11))))))))
def rmX6_init : Room := { frames := 1, cells := 12, slots := 420, locals := 23 }
set_option maxHeartbeats 4000000 in
set_option maxRecDepth 100000 in
theorem mX6_init (l : Launch) (dC : Nat → ClassId) (dI : Nat → Nat → Nat) (ac : Nat → ClassId) (sa : Nat → Nat) (A : Nat → Prop) (ad : Nat → Nat → Nat) (τ0 : tw_T) (k0 : Nat) (x1 : Int32) (Q : tw_T → Prop) (hF : F_X6_init τ0 k0 x1 Q) (hk0 : k0 < gN τ0 23) : Met l yX6_init wsX6_init rmX6_init (va_Pc [.ref (ad 23 k0), .int x1] (BX dC dI ac sa A ad τ0)) (va_Qv (fun (u : tw_T × (Nat → Nat → Nat)) => Q u.1 ∧ tw_le τ0 ad u.1 u.2) (fun (u : tw_T × (Nat → Nat → Nat)) t => PX dC dI ac A u.2 u.1 t.heap) A) 12 420 A := by
  refine Met.ofW (cc := cX6_init) (maxL := 2) (ret := none) (by decide) rfl ?_
  intro p e s m args below meth c s₁ B hml hv
  obtain ⟨rfl, hP, hK, hA, hZ⟩ := hv
  have hx := B.exec
  have hb := B.bytes
  have hr := B.returns
  have hts := atoms_spec (ws := wsX6_init) B.pre
  have hown : s.vm.findClass RX6 = some m.cls := findClass_of_methodNamed B.named
  have hlocks := B.notSynchronized
  have hin : meth.name = "<init>" := (name_of_methodNamed B.named B.method).1
  have hS : va_S A s.heap s.heap [] := va_S.rf
  have hN : tw_le τ0 ad τ0 ad := tw_le.rf
  have hl := lv_entry ([.ref (ad 23 k0), .int x1]) (n := 2) (Nat.le_of_ble_eq_true rfl)
  rw [lg_entry_eq]
  generalize (lg_sl ([.ref (ad 23 k0), .int x1]) ++ List.replicate (2 - (lg_sl ([.ref (ad 23 k0), .int x1])).length) Slot.unset).toArray = ls at hl ⊢
  have hl : lv_has ls 2 [(0, .ref (ad 23 k0)), (1, .int x1)] := hl
  unfold F_X6_init at hF
  refine lv_aload_n hx hb dX6_init_0 rfl (lv_at hl 0 rfl) ?_
  refine W.objInit hx hb hown (hts (.methodLink RX6 3 objectInit) (by decide +kernel)) (hts (.instanceMethod objectInit) (by decide +kernel)) (hts (.code objectInit ⟨#[0xb1]⟩ 1 none) (by decide +kernel)) rfl (by rw [hml]; exact hl.1) rfl dX6_init_1 (Nat.le_of_ble_eq_true rfl) (Nat.le_of_ble_eq_true rfl) ?_
  refine W.eq (g2 := F0 m 4 ls []) rfl ?_
  refine lv_aload_n hx hb dX6_init_4 rfl (lv_at hl 0 rfl) ?_
  refine lv_bipush (v := 10) hx hb dX6_init_5 (by decide) ?_
  refine lv_bipush (v := 40) hx hb dX6_init_7 (by decide) ?_
  refine tw_mna (f := 34) (g := 36) (t1 := 9) (t2 := 1) (n9 := 10) (m9 := 40) (kd := 1) (ty := .long) hx hb hown (hts (.classLink RX6 9 "[[J") (by decide +kernel)) hZ.2.2.2.1.2.2.2.2.2.2 (hts (.arrayClass .long) (by decide +kernel)) hP hS hA (by decide) (by decide) (by decide) rfl rfl (fun _ => rfl) (hK.2 9 _ rfl).2 (hK.2 1 _ rfl).2 (by decide) (by decide) (by decide) (by decide) (by decide) (by decide) (by decide) rfl rfl (Nat.le_of_ble_eq_true rfl) (Nat.le_of_ble_eq_true rfl) (fun cA => by show ({ cls := cA, slots := Array.replicate 40 (.long 0), vm := .none } : Cell) = _; rw [arrV_new]; rfl) dX6_init_9 (fun ad1 H hP hle hS => ?_)
  obtain ⟨τ2, eτ2⟩ : ∃ y : tw_T, y = sM (nW (nW τ0 36 10) 34 1) 34 (gN τ0 34) (gN τ0 36) 10 := ⟨_, rfl⟩
  have hF := hF τ2 eτ2
  rw [← eτ2] at hP hle
  have hl : lv_has ls 2 [(0, .ref (ad1 23 k0)), (1, .int x1)] := by rw [hle.2 23 k0 hk0]; exact hl
  refine W.eq (g2 := F0 m 13 ls [.ref (ad1 34 (gN τ0 34)), .ref (ad1 23 k0)]) (by rw [hle.2 23 k0 hk0]) ?_
  have hk0 : k0 < gN τ2 23 := Nat.lt_of_lt_of_le hk0 (hle.1 23)
  have hN : tw_le τ0 ad τ2 ad1 := hN.tr hle
  have hq3 : gN τ0 34 < gN τ2 34 := by rw [eτ2, gN_sM, gN_nW, if_pos rfl, gN_nW, if_neg (by decide)]; exact Nat.lt_succ_self _
  refine tw_putF (τ' := sR τ2 23 k0 0 (some (gN τ0 34))) (ty := .array (.array .long)) hx hb hts (by decide +kernel) tyX6 tyX6_ok nmX6 hown hK hP hS (by decide) hk0 rfl rfl 0 (by decide) (hts (.fieldLink RX6 11 "WineCellar$Sheet" "rows" "[[J") (by decide +kernel)) (fun _ h9 => h9) rfl hin rfl (by decide +kernel) rfl rfl (Nat.le_of_ble_eq_true rfl) dX6_init_13 (fun H1 ha ho => tw_updR hP (by decide) hk0 (fun r9 h9 => by cases h9; exact hq3) ha ho) (fun H locs hP hS => ?_)
  obtain ⟨τ4, eτ4⟩ : ∃ y : tw_T, y = sR τ2 23 k0 0 (some (gN τ0 34)) := ⟨_, rfl⟩
  have hF := hF τ4 eτ4
  rw [← eτ4] at hP
  have hN : tw_le τ0 ad τ4 ad1 := hN.same (by rw [eτ4]; rfl)
  have hk0 : k0 < gN τ4 23 := by rw [eτ4]; exact hk0
  refine lv_aload_n hx hb dX6_init_16 rfl (lv_at hl 0 rfl) ?_
  refine lv_bipush (v := 10) hx hb dX6_init_17 (by decide) ?_
  refine tw_newa (atype := .int) (f := 35) (t0 := 0) (n9 := 10) (kd := 0) hx hb (hts (.arrayClass .int) (by decide +kernel)) hK hP hS hA (by decide) rfl (hK.2 0 _ rfl).2 (fun cA => vp_cell_i cA 10 (fun _ => 0)) (by decide) (by decide) (by decide) (Nat.le_of_ble_eq_true rfl) (Nat.le_of_ble_eq_true rfl) dX6_init_19 (fun ad5 H hP hle hS => ?_)
  obtain ⟨τ6, eτ6⟩ : ∃ y : tw_T, y = nW τ4 35 1 := ⟨_, rfl⟩
  have hF := hF τ6 eτ6
  rw [← eτ6] at hP hle
  have hl : lv_has ls 2 [(0, .ref (ad5 23 k0)), (1, .int x1)] := by rw [hle.2 23 k0 hk0]; exact hl
  refine W.eq (g2 := F0 m 21 ls [.ref (ad5 35 (gN τ4 35)), .ref (ad5 23 k0)]) (by rw [hle.2 23 k0 hk0]) ?_
  have hk0 : k0 < gN τ6 23 := Nat.lt_of_lt_of_le hk0 (hle.1 23)
  have hN : tw_le τ0 ad τ6 ad5 := hN.tr hle
  have hq7 : gN τ4 35 < gN τ6 35 := by rw [eτ6, gN_nW, if_pos rfl]; exact Nat.lt_succ_self _
  refine tw_putF (τ' := sR τ6 23 k0 1 (some (gN τ4 35))) (ty := .array .int) hx hb hts (by decide +kernel) tyX6 tyX6_ok nmX6 hown hK hP hS (by decide) hk0 rfl rfl 1 (by decide) (hts (.fieldLink RX6 16 "WineCellar$Sheet" "lengths" "[I") (by decide +kernel)) (fun _ h9 => h9) rfl hin rfl (by decide +kernel) rfl rfl (Nat.le_of_ble_eq_true rfl) dX6_init_21 (fun H1 ha ho => tw_updR hP (by decide) hk0 (fun r9 h9 => by cases h9; exact hq7) ha ho) (fun H locs hP hS => ?_)
  obtain ⟨τ8, eτ8⟩ : ∃ y : tw_T, y = sR τ6 23 k0 1 (some (gN τ4 35)) := ⟨_, rfl⟩
  have hF := hF τ8 eτ8
  rw [← eτ8] at hP
  have hN : tw_le τ0 ad τ8 ad5 := hN.same (by rw [eτ8]; rfl)
  have hk0 : k0 < gN τ8 23 := by rw [eτ8]; exact hk0
  refine lv_aload_n hx hb dX6_init_24 rfl (lv_at hl 0 rfl) ?_
  refine lv_iload_n hx hb dX6_init_25 rfl (lv_at hl 1 rfl) ?_
  refine tw_putF (τ' := sI τ8 23 k0 2 x1) (ty := .int) hx hb hts (by decide +kernel) tyX6 tyX6_ok nmX6 hown hK hP hS (by decide) hk0 rfl rfl 2 (by decide) (hts (.fieldLink RX6 20 "WineCellar$Sheet" "width" "I") (by decide +kernel)) (fun _ h9 => h9) rfl hin rfl (by decide +kernel) rfl rfl (Nat.le_of_ble_eq_true rfl) dX6_init_26 (fun H1 ha ho => tw_updI hP (by decide) hk0 ha ho) (fun H locs hP hS => ?_)
  obtain ⟨τ9, eτ9⟩ : ∃ y : tw_T, y = sI τ8 23 k0 2 x1 := ⟨_, rfl⟩
  have hF := hF τ9 eτ9
  rw [← eτ9] at hP
  have hN : tw_le τ0 ad τ9 ad5 := hN.same (by rw [eτ9]; rfl)
  have hk0 : k0 < gN τ9 23 := by rw [eτ9]; exact hk0
  refine lv_aload_n hx hb dX6_init_29 rfl (lv_at hl 0 rfl) ?_
  obtain ⟨o10, eo10, hF⟩ := hF
  have ho10 : o10 < gN τ9 35 := hP.2.2.2 23 k0 1 o10 (by decide) hk0 eo10
  refine tw_get (v := .ref (ad5 35 o10)) hx hb hts (by decide +kernel) hown hK hP (by decide) hk0 rfl rfl 1 (by decide) (hts (.fieldLink RX6 16 "WineCellar$Sheet" "lengths" "[I") (by decide +kernel)) (fun _ h9 => h9) (show some (va_rf ((gR τ9 23 k0 1).map (ad5 35))) = some (.ref (ad5 35 o10)) by rw [eo10]; rfl) dX6_init_30 ?_
  refine lv_iconst (v := (-1)) hx hb dX6_init_33 (by decide) ?_
  refine va_callv (va_runS (As := [.ref (ad5 35 o10), .int ((-1 : Int32))]) (rest := []) ⟨hx, hb, hml, hown, hts⟩ (mJ7_fill_53178 l dC dI ac sa A ad5 τ9 35 10 o10 ((-1 : Int32)) _ hF (by decide) rfl ho10) (va_cwS 2 hts gX6_init_J7_fill_53178 rfl rfl rfl (by decide +kernel) ⟨Nat.le_of_ble_eq_true rfl, Nat.le_of_ble_eq_true rfl⟩) ⟨BX.blind, fun U hU hW => ⟨rfl, BX.of hP hK hS hA hZ hU hW⟩⟩ rfl rfl hl.1 rfl (lv_room (Nat.le_of_ble_eq_true rfl)) dX6_init_34 ⟨Nat.le_of_ble_eq_true rfl, Nat.le_of_ble_eq_true rfl⟩) hS (fun q _ h => h) (fun q h => h) (fun τ11 t H locs ht hvm hw hB hz hk hS => ?_)
  obtain ⟨hF, hN9⟩ := hw
  have hP : PX dC dI ac A ad5 τ11 H := tw_back hB ht
  have hN : tw_le τ0 ad τ11 ad5 := hN.same hN9
  have hk0 : k0 < gN τ11 23 := by rw [hN9]; exact hk0
  exact W.vret hx hb hr (fun t ht hW => ⟨⟨(τ11, ad5), rfl, ⟨hF, hN⟩, tw_at hP ht⟩, hS.F ht⟩) hS.2.2 dX6_init_37
def F_X4_init (τ0 : tw_T) (k0 : Nat) (Q : tw_T → Prop) : Prop := ∀ τ2 : tw_T, τ2 = sM (nW (nW τ0 26 30) 15 1) 15 (gN τ0 15) (gN τ0 26) 30 → (∀ τ4 : tw_T, τ4 = sR τ2 8 k0 0 (some (gN τ0 15)) → (∀ τ6 : tw_T, τ6 = sM (nW (nW τ4 27 30) 16 1) 16 (gN τ4 16) (gN τ4 27) 30 → (∀ τ8 : tw_T, τ8 = sR τ6 8 k0 1 (some (gN τ4 16)) → (∀ τ10 : tw_T, τ10 = nW τ8 17 1 → (∀ τ12 : tw_T, τ12 = sR τ10 8 k0 2 (some (gN τ8 17)) → (∀ τ14 : tw_T, τ14 = nW τ12 18 1 → (∀ τ16 : tw_T, τ16 = sR τ14 8 k0 3 (some (gN τ12 18)) → (∀ τ18 : tw_T, τ18 = nW τ16 19 1 → (∀ τ20 : tw_T, τ20 = sR τ18 8 k0 4 (some (gN τ16 19)) → (∀ τ22 : tw_T, τ22 = sM (nW (nW τ20 28 6) 24 1) 24 (gN τ20 24) (gN τ20 28) 6 → (∀ τ24 : tw_T, τ24 = sR τ22 8 k0 5 (some (gN τ20 24)) → (∀ τ26 : tw_T, τ26 = sM (nW (nW τ24 29 6) 25 1) 25 (gN τ24 25) (gN τ24 29) 6 → (∀ τ28 : tw_T, τ28 = sR τ26 8 k0 6 (some (gN τ24 25)) → (∀ τ29 : tw_T, τ29 = sI τ28 8 k0 7 ((0 : Int32)) → (∀ τ30 : tw_T, τ30 = sI τ29 8 k0 8 ((0 : Int32)) → (∀ τ31 : tw_T, τ31 = sI τ30 8 k0 9 ((0 : Int32)) → (Q τ31)))))))))))))))))
def rmX4_init : Room := { frames := 1, cells := 79, slots := 597, locals := 12 }
set_option maxHeartbeats 4000000 in
set_option maxRecDepth 100000 in
theorem mX4_init (l : Launch) (dC : Nat → ClassId) (dI : Nat → Nat → Nat) (ac : Nat → ClassId) (sa : Nat → Nat) (A : Nat → Prop) (ad : Nat → Nat → Nat) (τ0 : tw_T) (k0 : Nat) (Q : tw_T → Prop) (hF : F_X4_init τ0 k0 Q) (hk0 : k0 < gN τ0 8) : Met l yX4_init wsX4_init rmX4_init (va_Pc [.ref (ad 8 k0)] (BX dC dI ac sa A ad τ0)) (va_Qv (fun (u : tw_T × (Nat → Nat → Nat)) => Q u.1 ∧ tw_le τ0 ad u.1 u.2) (fun (u : tw_T × (Nat → Nat → Nat)) t => PX dC dI ac A u.2 u.1 t.heap) A) 79 597 A := by
  refine Met.ofW (cc := cX4_init) (maxL := 1) (ret := none) (by decide) rfl ?_
  intro p e s m args below meth c s₁ B hml hv
  obtain ⟨rfl, hP, hK, hA, hZ⟩ := hv
  have hx := B.exec
  have hb := B.bytes
  have hr := B.returns
  have hts := atoms_spec (ws := wsX4_init) B.pre
  have hown : s.vm.findClass RX4 = some m.cls := findClass_of_methodNamed B.named
  have hlocks := B.notSynchronized
  have hin : meth.name = "<init>" := (name_of_methodNamed B.named B.method).1
  have hS : va_S A s.heap s.heap [] := va_S.rf
  have hN : tw_le τ0 ad τ0 ad := tw_le.rf
  have hl := lv_entry ([.ref (ad 8 k0)]) (n := 1) (Nat.le_of_ble_eq_true rfl)
  rw [lg_entry_eq]
  generalize (lg_sl ([.ref (ad 8 k0)]) ++ List.replicate (1 - (lg_sl ([.ref (ad 8 k0)])).length) Slot.unset).toArray = ls at hl ⊢
  have hl : lv_has ls 1 [(0, .ref (ad 8 k0))] := hl
  unfold F_X4_init at hF
  refine lv_aload_n hx hb dX4_init_0 rfl (lv_at hl 0 rfl) ?_
  refine W.objInit hx hb hown (hts (.methodLink RX4 5 objectInit) (by decide +kernel)) (hts (.instanceMethod objectInit) (by decide +kernel)) (hts (.code objectInit ⟨#[0xb1]⟩ 1 none) (by decide +kernel)) rfl (by rw [hml]; exact hl.1) rfl dX4_init_1 (Nat.le_of_ble_eq_true rfl) (Nat.le_of_ble_eq_true rfl) ?_
  refine W.eq (g2 := F0 m 4 ls []) rfl ?_
  refine lv_aload_n hx hb dX4_init_4 rfl (lv_at hl 0 rfl) ?_
  refine lv_bipush (v := 30) hx hb dX4_init_5 (by decide) ?_
  refine lv_bipush (v := 7) hx hb dX4_init_7 (by decide) ?_
  refine tw_mna (f := 15) (g := 26) (t1 := 8) (t2 := 0) (n9 := 30) (m9 := 7) (kd := 0) (ty := .int) hx hb hown (hts (.classLink RX4 11 "[[I") (by decide +kernel)) hZ.2.2.2.1.2.2.2.2.2.1 (hts (.arrayClass .int) (by decide +kernel)) hP hS hA (by decide) (by decide) (by decide) rfl rfl (fun _ => rfl) (hK.2 8 _ rfl).2 (hK.2 0 _ rfl).2 (by decide) (by decide) (by decide) (by decide) (by decide) (by decide) (by decide) rfl rfl (Nat.le_of_ble_eq_true rfl) (Nat.le_of_ble_eq_true rfl) (fun cA => by show ({ cls := cA, slots := Array.replicate 7 (.int 0), vm := .none } : Cell) = _; rw [arrV_new]; rfl) dX4_init_9 (fun ad1 H hP hle hS => ?_)
  obtain ⟨τ2, eτ2⟩ : ∃ y : tw_T, y = sM (nW (nW τ0 26 30) 15 1) 15 (gN τ0 15) (gN τ0 26) 30 := ⟨_, rfl⟩
  have hF := hF τ2 eτ2
  rw [← eτ2] at hP hle
  have hl : lv_has ls 1 [(0, .ref (ad1 8 k0))] := by rw [hle.2 8 k0 hk0]; exact hl
  refine W.eq (g2 := F0 m 13 ls [.ref (ad1 15 (gN τ0 15)), .ref (ad1 8 k0)]) (by rw [hle.2 8 k0 hk0]) ?_
  have hk0 : k0 < gN τ2 8 := Nat.lt_of_lt_of_le hk0 (hle.1 8)
  have hN : tw_le τ0 ad τ2 ad1 := hN.tr hle
  have hq3 : gN τ0 15 < gN τ2 15 := by rw [eτ2, gN_sM, gN_nW, if_pos rfl, gN_nW, if_neg (by decide)]; exact Nat.lt_succ_self _
  refine tw_putF (τ' := sR τ2 8 k0 0 (some (gN τ0 15))) (ty := .array (.array .int)) hx hb hts (by decide +kernel) tyX4 tyX4_ok nmX4 hown hK hP hS (by decide) hk0 rfl rfl 0 (by decide) (hts (.fieldLink RX4 13 "WineCellar$Planner" "gains" "[[I") (by decide +kernel)) (fun _ h9 => h9) rfl hin rfl (by decide +kernel) rfl rfl (Nat.le_of_ble_eq_true rfl) dX4_init_13 (fun H1 ha ho => tw_updR hP (by decide) hk0 (fun r9 h9 => by cases h9; exact hq3) ha ho) (fun H locs hP hS => ?_)
  obtain ⟨τ4, eτ4⟩ : ∃ y : tw_T, y = sR τ2 8 k0 0 (some (gN τ0 15)) := ⟨_, rfl⟩
  have hF := hF τ4 eτ4
  rw [← eτ4] at hP
  have hN : tw_le τ0 ad τ4 ad1 := hN.same (by rw [eτ4]; rfl)
  have hk0 : k0 < gN τ4 8 := by rw [eτ4]; exact hk0
  refine lv_aload_n hx hb dX4_init_16 rfl (lv_at hl 0 rfl) ?_
  refine lv_bipush (v := 30) hx hb dX4_init_17 (by decide) ?_
  refine lv_bipush (v := 7) hx hb dX4_init_19 (by decide) ?_
  refine tw_mna (f := 16) (g := 27) (t1 := 8) (t2 := 0) (n9 := 30) (m9 := 7) (kd := 0) (ty := .int) hx hb hown (hts (.classLink RX4 11 "[[I") (by decide +kernel)) hZ.2.2.2.1.2.2.2.2.2.1 (hts (.arrayClass .int) (by decide +kernel)) hP hS hA (by decide) (by decide) (by decide) rfl rfl (fun _ => rfl) (hK.2 8 _ rfl).2 (hK.2 0 _ rfl).2 (by decide) (by decide) (by decide) (by decide) (by decide) (by decide) (by decide) rfl rfl (Nat.le_of_ble_eq_true rfl) (Nat.le_of_ble_eq_true rfl) (fun cA => by show ({ cls := cA, slots := Array.replicate 7 (.int 0), vm := .none } : Cell) = _; rw [arrV_new]; rfl) dX4_init_21 (fun ad5 H hP hle hS => ?_)
  obtain ⟨τ6, eτ6⟩ : ∃ y : tw_T, y = sM (nW (nW τ4 27 30) 16 1) 16 (gN τ4 16) (gN τ4 27) 30 := ⟨_, rfl⟩
  have hF := hF τ6 eτ6
  rw [← eτ6] at hP hle
  have hl : lv_has ls 1 [(0, .ref (ad5 8 k0))] := by rw [hle.2 8 k0 hk0]; exact hl
  refine W.eq (g2 := F0 m 25 ls [.ref (ad5 16 (gN τ4 16)), .ref (ad5 8 k0)]) (by rw [hle.2 8 k0 hk0]) ?_
  have hk0 : k0 < gN τ6 8 := Nat.lt_of_lt_of_le hk0 (hle.1 8)
  have hN : tw_le τ0 ad τ6 ad5 := hN.tr hle
  have hq7 : gN τ4 16 < gN τ6 16 := by rw [eτ6, gN_sM, gN_nW, if_pos rfl, gN_nW, if_neg (by decide)]; exact Nat.lt_succ_self _
  refine tw_putF (τ' := sR τ6 8 k0 1 (some (gN τ4 16))) (ty := .array (.array .int)) hx hb hts (by decide +kernel) tyX4 tyX4_ok nmX4 hown hK hP hS (by decide) hk0 rfl rfl 1 (by decide) (hts (.fieldLink RX4 18 "WineCellar$Planner" "placed" "[[I") (by decide +kernel)) (fun _ h9 => h9) rfl hin rfl (by decide +kernel) rfl rfl (Nat.le_of_ble_eq_true rfl) dX4_init_25 (fun H1 ha ho => tw_updR hP (by decide) hk0 (fun r9 h9 => by cases h9; exact hq7) ha ho) (fun H locs hP hS => ?_)
  obtain ⟨τ8, eτ8⟩ : ∃ y : tw_T, y = sR τ6 8 k0 1 (some (gN τ4 16)) := ⟨_, rfl⟩
  have hF := hF τ8 eτ8
  rw [← eτ8] at hP
  have hN : tw_le τ0 ad τ8 ad5 := hN.same (by rw [eτ8]; rfl)
  have hk0 : k0 < gN τ8 8 := by rw [eτ8]; exact hk0
  refine lv_aload_n hx hb dX4_init_28 rfl (lv_at hl 0 rfl) ?_
  refine lv_bipush (v := 7) hx hb dX4_init_29 (by decide) ?_
  refine tw_newa (atype := .int) (f := 17) (t0 := 0) (n9 := 7) (kd := 0) hx hb (hts (.arrayClass .int) (by decide +kernel)) hK hP hS hA (by decide) rfl (hK.2 0 _ rfl).2 (fun cA => vp_cell_i cA 7 (fun _ => 0)) (by decide) (by decide) (by decide) (Nat.le_of_ble_eq_true rfl) (Nat.le_of_ble_eq_true rfl) dX4_init_31 (fun ad9 H hP hle hS => ?_)
  obtain ⟨τ10, eτ10⟩ : ∃ y : tw_T, y = nW τ8 17 1 := ⟨_, rfl⟩
  have hF := hF τ10 eτ10
  rw [← eτ10] at hP hle
  have hl : lv_has ls 1 [(0, .ref (ad9 8 k0))] := by rw [hle.2 8 k0 hk0]; exact hl
  refine W.eq (g2 := F0 m 33 ls [.ref (ad9 17 (gN τ8 17)), .ref (ad9 8 k0)]) (by rw [hle.2 8 k0 hk0]) ?_
  have hk0 : k0 < gN τ10 8 := Nat.lt_of_lt_of_le hk0 (hle.1 8)
  have hN : tw_le τ0 ad τ10 ad9 := hN.tr hle
  have hq11 : gN τ8 17 < gN τ10 17 := by rw [eτ10, gN_nW, if_pos rfl]; exact Nat.lt_succ_self _
  refine tw_putF (τ' := sR τ10 8 k0 2 (some (gN τ8 17))) (ty := .array .int) hx hb hts (by decide +kernel) tyX4 tyX4_ok nmX4 hown hK hP hS (by decide) hk0 rfl rfl 2 (by decide) (hts (.fieldLink RX4 21 "WineCellar$Planner" "room" "[I") (by decide +kernel)) (fun _ h9 => h9) rfl hin rfl (by decide +kernel) rfl rfl (Nat.le_of_ble_eq_true rfl) dX4_init_33 (fun H1 ha ho => tw_updR hP (by decide) hk0 (fun r9 h9 => by cases h9; exact hq11) ha ho) (fun H locs hP hS => ?_)
  obtain ⟨τ12, eτ12⟩ : ∃ y : tw_T, y = sR τ10 8 k0 2 (some (gN τ8 17)) := ⟨_, rfl⟩
  have hF := hF τ12 eτ12
  rw [← eτ12] at hP
  have hN : tw_le τ0 ad τ12 ad9 := hN.same (by rw [eτ12]; rfl)
  have hk0 : k0 < gN τ12 8 := by rw [eτ12]; exact hk0
  refine lv_aload_n hx hb dX4_init_36 rfl (lv_at hl 0 rfl) ?_
  refine lv_bipush (v := 7) hx hb dX4_init_37 (by decide) ?_
  refine tw_newa (atype := .int) (f := 18) (t0 := 0) (n9 := 7) (kd := 0) hx hb (hts (.arrayClass .int) (by decide +kernel)) hK hP hS hA (by decide) rfl (hK.2 0 _ rfl).2 (fun cA => vp_cell_i cA 7 (fun _ => 0)) (by decide) (by decide) (by decide) (Nat.le_of_ble_eq_true rfl) (Nat.le_of_ble_eq_true rfl) dX4_init_39 (fun ad13 H hP hle hS => ?_)
  obtain ⟨τ14, eτ14⟩ : ∃ y : tw_T, y = nW τ12 18 1 := ⟨_, rfl⟩
  have hF := hF τ14 eτ14
  rw [← eτ14] at hP hle
  have hl : lv_has ls 1 [(0, .ref (ad13 8 k0))] := by rw [hle.2 8 k0 hk0]; exact hl
  refine W.eq (g2 := F0 m 41 ls [.ref (ad13 18 (gN τ12 18)), .ref (ad13 8 k0)]) (by rw [hle.2 8 k0 hk0]) ?_
  have hk0 : k0 < gN τ14 8 := Nat.lt_of_lt_of_le hk0 (hle.1 8)
  have hN : tw_le τ0 ad τ14 ad13 := hN.tr hle
  have hq15 : gN τ12 18 < gN τ14 18 := by rw [eτ14, gN_nW, if_pos rfl]; exact Nat.lt_succ_self _
  refine tw_putF (τ' := sR τ14 8 k0 3 (some (gN τ12 18))) (ty := .array .int) hx hb hts (by decide +kernel) tyX4 tyX4_ok nmX4 hown hK hP hS (by decide) hk0 rfl rfl 3 (by decide) (hts (.fieldLink RX4 25 "WineCellar$Planner" "best" "[I") (by decide +kernel)) (fun _ h9 => h9) rfl hin rfl (by decide +kernel) rfl rfl (Nat.le_of_ble_eq_true rfl) dX4_init_41 (fun H1 ha ho => tw_updR hP (by decide) hk0 (fun r9 h9 => by cases h9; exact hq15) ha ho) (fun H locs hP hS => ?_)
  obtain ⟨τ16, eτ16⟩ : ∃ y : tw_T, y = sR τ14 8 k0 3 (some (gN τ12 18)) := ⟨_, rfl⟩
  have hF := hF τ16 eτ16
  rw [← eτ16] at hP
  have hN : tw_le τ0 ad τ16 ad13 := hN.same (by rw [eτ16]; rfl)
  have hk0 : k0 < gN τ16 8 := by rw [eτ16]; exact hk0
  refine lv_aload_n hx hb dX4_init_44 rfl (lv_at hl 0 rfl) ?_
  refine lv_bipush (v := 7) hx hb dX4_init_45 (by decide) ?_
  refine tw_newa (atype := .int) (f := 19) (t0 := 0) (n9 := 7) (kd := 0) hx hb (hts (.arrayClass .int) (by decide +kernel)) hK hP hS hA (by decide) rfl (hK.2 0 _ rfl).2 (fun cA => vp_cell_i cA 7 (fun _ => 0)) (by decide) (by decide) (by decide) (Nat.le_of_ble_eq_true rfl) (Nat.le_of_ble_eq_true rfl) dX4_init_47 (fun ad17 H hP hle hS => ?_)
  obtain ⟨τ18, eτ18⟩ : ∃ y : tw_T, y = nW τ16 19 1 := ⟨_, rfl⟩
  have hF := hF τ18 eτ18
  rw [← eτ18] at hP hle
  have hl : lv_has ls 1 [(0, .ref (ad17 8 k0))] := by rw [hle.2 8 k0 hk0]; exact hl
  refine W.eq (g2 := F0 m 49 ls [.ref (ad17 19 (gN τ16 19)), .ref (ad17 8 k0)]) (by rw [hle.2 8 k0 hk0]) ?_
  have hk0 : k0 < gN τ18 8 := Nat.lt_of_lt_of_le hk0 (hle.1 8)
  have hN : tw_le τ0 ad τ18 ad17 := hN.tr hle
  have hq19 : gN τ16 19 < gN τ18 19 := by rw [eτ18, gN_nW, if_pos rfl]; exact Nat.lt_succ_self _
  refine tw_putF (τ' := sR τ18 8 k0 4 (some (gN τ16 19))) (ty := .array .int) hx hb hts (by decide +kernel) tyX4 tyX4_ok nmX4 hown hK hP hS (by decide) hk0 rfl rfl 4 (by decide) (hts (.fieldLink RX4 28 "WineCellar$Planner" "ahead" "[I") (by decide +kernel)) (fun _ h9 => h9) rfl hin rfl (by decide +kernel) rfl rfl (Nat.le_of_ble_eq_true rfl) dX4_init_49 (fun H1 ha ho => tw_updR hP (by decide) hk0 (fun r9 h9 => by cases h9; exact hq19) ha ho) (fun H locs hP hS => ?_)
  obtain ⟨τ20, eτ20⟩ : ∃ y : tw_T, y = sR τ18 8 k0 4 (some (gN τ16 19)) := ⟨_, rfl⟩
  have hF := hF τ20 eτ20
  rw [← eτ20] at hP
  have hN : tw_le τ0 ad τ20 ad17 := hN.same (by rw [eτ20]; rfl)
  have hk0 : k0 < gN τ20 8 := by rw [eτ20]; exact hk0
  refine lv_aload_n hx hb dX4_init_52 rfl (lv_at hl 0 rfl) ?_
  refine lv_bipush (v := 6) hx hb dX4_init_53 (by decide) ?_
  refine lv_bipush (v := 7) hx hb dX4_init_55 (by decide) ?_
  refine tw_mna (f := 24) (g := 28) (t1 := 8) (t2 := 0) (n9 := 6) (m9 := 7) (kd := 0) (ty := .int) hx hb hown (hts (.classLink RX4 11 "[[I") (by decide +kernel)) hZ.2.2.2.1.2.2.2.2.2.1 (hts (.arrayClass .int) (by decide +kernel)) hP hS hA (by decide) (by decide) (by decide) rfl rfl (fun _ => rfl) (hK.2 8 _ rfl).2 (hK.2 0 _ rfl).2 (by decide) (by decide) (by decide) (by decide) (by decide) (by decide) (by decide) rfl rfl (Nat.le_of_ble_eq_true rfl) (Nat.le_of_ble_eq_true rfl) (fun cA => by show ({ cls := cA, slots := Array.replicate 7 (.int 0), vm := .none } : Cell) = _; rw [arrV_new]; rfl) dX4_init_57 (fun ad21 H hP hle hS => ?_)
  obtain ⟨τ22, eτ22⟩ : ∃ y : tw_T, y = sM (nW (nW τ20 28 6) 24 1) 24 (gN τ20 24) (gN τ20 28) 6 := ⟨_, rfl⟩
  have hF := hF τ22 eτ22
  rw [← eτ22] at hP hle
  have hl : lv_has ls 1 [(0, .ref (ad21 8 k0))] := by rw [hle.2 8 k0 hk0]; exact hl
  refine W.eq (g2 := F0 m 61 ls [.ref (ad21 24 (gN τ20 24)), .ref (ad21 8 k0)]) (by rw [hle.2 8 k0 hk0]) ?_
  have hk0 : k0 < gN τ22 8 := Nat.lt_of_lt_of_le hk0 (hle.1 8)
  have hN : tw_le τ0 ad τ22 ad21 := hN.tr hle
  have hq23 : gN τ20 24 < gN τ22 24 := by rw [eτ22, gN_sM, gN_nW, if_pos rfl, gN_nW, if_neg (by decide)]; exact Nat.lt_succ_self _
  refine tw_putF (τ' := sR τ22 8 k0 5 (some (gN τ20 24))) (ty := .array (.array .int)) hx hb hts (by decide +kernel) tyX4 tyX4_ok nmX4 hown hK hP hS (by decide) hk0 rfl rfl 5 (by decide) (hts (.fieldLink RX4 31 "WineCellar$Planner" "changes" "[[I") (by decide +kernel)) (fun _ h9 => h9) rfl hin rfl (by decide +kernel) rfl rfl (Nat.le_of_ble_eq_true rfl) dX4_init_61 (fun H1 ha ho => tw_updR hP (by decide) hk0 (fun r9 h9 => by cases h9; exact hq23) ha ho) (fun H locs hP hS => ?_)
  obtain ⟨τ24, eτ24⟩ : ∃ y : tw_T, y = sR τ22 8 k0 5 (some (gN τ20 24)) := ⟨_, rfl⟩
  have hF := hF τ24 eτ24
  rw [← eτ24] at hP
  have hN : tw_le τ0 ad τ24 ad21 := hN.same (by rw [eτ24]; rfl)
  have hk0 : k0 < gN τ24 8 := by rw [eτ24]; exact hk0
  refine lv_aload_n hx hb dX4_init_64 rfl (lv_at hl 0 rfl) ?_
  refine lv_bipush (v := 6) hx hb dX4_init_65 (by decide) ?_
  refine lv_bipush (v := 7) hx hb dX4_init_67 (by decide) ?_
  refine tw_mna (f := 25) (g := 29) (t1 := 8) (t2 := 0) (n9 := 6) (m9 := 7) (kd := 0) (ty := .int) hx hb hown (hts (.classLink RX4 11 "[[I") (by decide +kernel)) hZ.2.2.2.1.2.2.2.2.2.1 (hts (.arrayClass .int) (by decide +kernel)) hP hS hA (by decide) (by decide) (by decide) rfl rfl (fun _ => rfl) (hK.2 8 _ rfl).2 (hK.2 0 _ rfl).2 (by decide) (by decide) (by decide) (by decide) (by decide) (by decide) (by decide) rfl rfl (Nat.le_of_ble_eq_true rfl) (Nat.le_of_ble_eq_true rfl) (fun cA => by show ({ cls := cA, slots := Array.replicate 7 (.int 0), vm := .none } : Cell) = _; rw [arrV_new]; rfl) dX4_init_69 (fun ad25 H hP hle hS => ?_)
  obtain ⟨τ26, eτ26⟩ : ∃ y : tw_T, y = sM (nW (nW τ24 29 6) 25 1) 25 (gN τ24 25) (gN τ24 29) 6 := ⟨_, rfl⟩
  have hF := hF τ26 eτ26
  rw [← eτ26] at hP hle
  have hl : lv_has ls 1 [(0, .ref (ad25 8 k0))] := by rw [hle.2 8 k0 hk0]; exact hl
  refine W.eq (g2 := F0 m 73 ls [.ref (ad25 25 (gN τ24 25)), .ref (ad25 8 k0)]) (by rw [hle.2 8 k0 hk0]) ?_
  have hk0 : k0 < gN τ26 8 := Nat.lt_of_lt_of_le hk0 (hle.1 8)
  have hN : tw_le τ0 ad τ26 ad25 := hN.tr hle
  have hq27 : gN τ24 25 < gN τ26 25 := by rw [eτ26, gN_sM, gN_nW, if_pos rfl, gN_nW, if_neg (by decide)]; exact Nat.lt_succ_self _
  refine tw_putF (τ' := sR τ26 8 k0 6 (some (gN τ24 25))) (ty := .array (.array .int)) hx hb hts (by decide +kernel) tyX4 tyX4_ok nmX4 hown hK hP hS (by decide) hk0 rfl rfl 6 (by decide) (hts (.fieldLink RX4 34 "WineCellar$Planner" "movers" "[[I") (by decide +kernel)) (fun _ h9 => h9) rfl hin rfl (by decide +kernel) rfl rfl (Nat.le_of_ble_eq_true rfl) dX4_init_73 (fun H1 ha ho => tw_updR hP (by decide) hk0 (fun r9 h9 => by cases h9; exact hq27) ha ho) (fun H locs hP hS => ?_)
  obtain ⟨τ28, eτ28⟩ : ∃ y : tw_T, y = sR τ26 8 k0 6 (some (gN τ24 25)) := ⟨_, rfl⟩
  have hF := hF τ28 eτ28
  rw [← eτ28] at hP
  have hN : tw_le τ0 ad τ28 ad25 := hN.same (by rw [eτ28]; rfl)
  have hk0 : k0 < gN τ28 8 := by rw [eτ28]; exact hk0
  refine lv_aload_n hx hb dX4_init_76 rfl (lv_at hl 0 rfl) ?_
  refine lv_iconst (v := 0) hx hb dX4_init_77 (by decide) ?_
  refine tw_put (τ' := sI τ28 8 k0 7 ((0 : Int32))) (ty := .int) hx hb hts (by decide +kernel) tyX4 tyX4_ok nmX4 hown hK hP hS (by decide) hk0 rfl rfl 7 (by decide) (hts (.fieldLink RX4 37 "WineCellar$Planner" "firstYear" "I") (by decide +kernel)) (fun _ h9 => h9) rfl (by decide +kernel) rfl rfl (Nat.le_of_ble_eq_true rfl) dX4_init_78 (fun H1 ha ho => tw_updI hP (by decide) hk0 ha ho) (fun H locs hP hS => ?_)
  obtain ⟨τ29, eτ29⟩ : ∃ y : tw_T, y = sI τ28 8 k0 7 ((0 : Int32)) := ⟨_, rfl⟩
  have hF := hF τ29 eτ29
  rw [← eτ29] at hP
  have hN : tw_le τ0 ad τ29 ad25 := hN.same (by rw [eτ29]; rfl)
  have hk0 : k0 < gN τ29 8 := by rw [eτ29]; exact hk0
  refine lv_aload_n hx hb dX4_init_81 rfl (lv_at hl 0 rfl) ?_
  refine lv_iconst (v := 0) hx hb dX4_init_82 (by decide) ?_
  refine tw_put (τ' := sI τ29 8 k0 8 ((0 : Int32))) (ty := .int) hx hb hts (by decide +kernel) tyX4 tyX4_ok nmX4 hown hK hP hS (by decide) hk0 rfl rfl 8 (by decide) (hts (.fieldLink RX4 41 "WineCellar$Planner" "groups" "I") (by decide +kernel)) (fun _ h9 => h9) rfl (by decide +kernel) rfl rfl (Nat.le_of_ble_eq_true rfl) dX4_init_83 (fun H1 ha ho => tw_updI hP (by decide) hk0 ha ho) (fun H locs hP hS => ?_)
  obtain ⟨τ30, eτ30⟩ : ∃ y : tw_T, y = sI τ29 8 k0 8 ((0 : Int32)) := ⟨_, rfl⟩
  have hF := hF τ30 eτ30
  rw [← eτ30] at hP
  have hN : tw_le τ0 ad τ30 ad25 := hN.same (by rw [eτ30]; rfl)
  have hk0 : k0 < gN τ30 8 := by rw [eτ30]; exact hk0
  refine lv_aload_n hx hb dX4_init_86 rfl (lv_at hl 0 rfl) ?_
  refine lv_iconst (v := 0) hx hb dX4_init_87 (by decide) ?_
  refine tw_put (τ' := sI τ30 8 k0 9 ((0 : Int32))) (ty := .int) hx hb hts (by decide +kernel) tyX4 tyX4_ok nmX4 hown hK hP hS (by decide) hk0 rfl rfl 9 (by decide) (hts (.fieldLink RX4 44 "WineCellar$Planner" "never" "I") (by decide +kernel)) (fun _ h9 => h9) rfl (by decide +kernel) rfl rfl (Nat.le_of_ble_eq_true rfl) dX4_init_88 (fun H1 ha ho => tw_updI hP (by decide) hk0 ha ho) (fun H locs hP hS => ?_)
  obtain ⟨τ31, eτ31⟩ : ∃ y : tw_T, y = sI τ30 8 k0 9 ((0 : Int32)) := ⟨_, rfl⟩
  have hF := hF τ31 eτ31
  rw [← eτ31] at hP
  have hN : tw_le τ0 ad τ31 ad25 := hN.same (by rw [eτ31]; rfl)
  have hk0 : k0 < gN τ31 8 := by rw [eτ31]; exact hk0
  exact W.vret hx hb hr (fun t ht hW => ⟨⟨(τ31, ad25), rfl, ⟨hF, hN⟩, tw_at hP ht⟩, hS.F ht⟩) hS.2.2 dX4_init_91
def F_X9_init (τ0 : tw_T) (k0 : Nat) (Q : tw_T → Prop) : Prop := ∀ τ2 : tw_T, τ2 = nW τ0 1 1 → (∀ τ4 : tw_T, τ4 = sR τ2 0 k0 0 (some (gN τ0 1)) → (∀ τ6 : tw_T, τ6 = nW τ4 2 1 → (∀ τ8 : tw_T, τ8 = sR τ6 0 k0 1 (some (gN τ4 2)) → (∀ τ10 : tw_T, τ10 = nW τ8 3 1 → (∀ τ12 : tw_T, τ12 = sR τ10 0 k0 2 (some (gN τ8 3)) → (∀ τ14 : tw_T, τ14 = nW τ12 4 1 → (∀ τ16 : tw_T, τ16 = sR τ14 0 k0 3 (some (gN τ12 4)) → (∀ τ18 : tw_T, τ18 = nW τ16 5 1 → (F_X5_init τ18 (gN τ16 5) (fun (τ20 : tw_T) => (∀ τ21 : tw_T, τ21 = sR τ20 0 k0 4 (some (gN τ16 5)) → (∀ τ23 : tw_T, τ23 = nW τ21 6 1 → (F_X7_init τ23 (gN τ21 6) (fun (τ25 : tw_T) => (∀ τ26 : tw_T, τ26 = sR τ25 0 k0 5 (some (gN τ21 6)) → (∀ τ28 : tw_T, τ28 = nW τ26 7 1 → (F_X2_init τ28 (gN τ26 7) (fun (τ30 : tw_T) => (∀ τ31 : tw_T, τ31 = sR τ30 0 k0 6 (some (gN τ26 7)) → (∀ τ33 : tw_T, τ33 = nW τ31 8 1 → (F_X4_init τ33 (gN τ31 8) (fun (τ35 : tw_T) => (∀ τ36 : tw_T, τ36 = sR τ35 0 k0 7 (some (gN τ31 8)) → (∀ τ38 : tw_T, τ38 = nW τ36 9 1 → (∀ τ40 : tw_T, τ40 = sR τ38 0 k0 8 (some (gN τ36 9)) → (∀ τ42 : tw_T, τ42 = nW τ40 10 1 → (∀ τ44 : tw_T, τ44 = sR τ42 0 k0 9 (some (gN τ40 10)) → (∀ τ46 : tw_T, τ46 = nW τ44 11 1 → (∀ τ48 : tw_T, τ48 = sR τ46 0 k0 10 (some (gN τ44 11)) → (∀ τ49 : tw_T, τ49 = sI τ48 0 k0 11 ((0 : Int32)) → (∀ τ50 : tw_T, τ50 = sI τ49 0 k0 12 ((0 : Int32)) → (∀ τ51 : tw_T, τ51 = sI τ50 0 k0 13 ((0 : Int32)) → (∀ τ52 : tw_T, τ52 = sI τ51 0 k0 14 ((0 : Int32)) → (∀ τ53 : tw_T, τ53 = sI τ52 0 k0 15 ((0 : Int32)) → (Q τ53)))))))))))))))))))))))))))))))))))
def rmX9_init : Room := { frames := 2, cells := 93, slots := 1165, locals := 43 }
set_option maxHeartbeats 4000000 in
set_option maxRecDepth 100000 in
theorem mX9_init (l : Launch) (dC : Nat → ClassId) (dI : Nat → Nat → Nat) (ac : Nat → ClassId) (sa : Nat → Nat) (A : Nat → Prop) (ad : Nat → Nat → Nat) (τ0 : tw_T) (k0 : Nat) (Q : tw_T → Prop) (hF : F_X9_init τ0 k0 Q) (hk0 : k0 < gN τ0 0) : Met l yX9_init wsX9_init rmX9_init (va_Pc [.ref (ad 0 k0)] (BX dC dI ac sa A ad τ0)) (va_Qv (fun (u : tw_T × (Nat → Nat → Nat)) => Q u.1 ∧ tw_le τ0 ad u.1 u.2) (fun (u : tw_T × (Nat → Nat → Nat)) t => PX dC dI ac A u.2 u.1 t.heap) A) 93 1165 A := by
  refine Met.ofW (cc := cX9_init) (maxL := 1) (ret := none) (by decide) rfl ?_
  intro p e s m args below meth c s₁ B hml hv
  obtain ⟨rfl, hP, hK, hA, hZ⟩ := hv
  have hx := B.exec
  have hb := B.bytes
  have hr := B.returns
  have hts := atoms_spec (ws := wsX9_init) B.pre
  have hown : s.vm.findClass RX9 = some m.cls := findClass_of_methodNamed B.named
  have hlocks := B.notSynchronized
  have hin : meth.name = "<init>" := (name_of_methodNamed B.named B.method).1
  have hS : va_S A s.heap s.heap [] := va_S.rf
  have hN : tw_le τ0 ad τ0 ad := tw_le.rf
  have hl := lv_entry ([.ref (ad 0 k0)]) (n := 1) (Nat.le_of_ble_eq_true rfl)
  rw [lg_entry_eq]
  generalize (lg_sl ([.ref (ad 0 k0)]) ++ List.replicate (1 - (lg_sl ([.ref (ad 0 k0)])).length) Slot.unset).toArray = ls at hl ⊢
  have hl : lv_has ls 1 [(0, .ref (ad 0 k0))] := hl
  unfold F_X9_init at hF
  refine lv_aload_n hx hb dX9_init_0 rfl (lv_at hl 0 rfl) ?_
  refine W.objInit hx hb hown (hts (.methodLink RX9 1 objectInit) (by decide +kernel)) (hts (.instanceMethod objectInit) (by decide +kernel)) (hts (.code objectInit ⟨#[0xb1]⟩ 1 none) (by decide +kernel)) rfl (by rw [hml]; exact hl.1) rfl dX9_init_1 (Nat.le_of_ble_eq_true rfl) (Nat.le_of_ble_eq_true rfl) ?_
  refine W.eq (g2 := F0 m 4 ls []) rfl ?_
  refine lv_aload_n hx hb dX9_init_4 rfl (lv_at hl 0 rfl) ?_
  refine lv_bipush (v := 20) hx hb dX9_init_5 (by decide) ?_
  refine tw_anew (f := 1) (t0 := 3) (n9 := 20) hx hb hown (hts (.classLink RX9 9 RX1) (by decide +kernel)) hZ.2.2.2.1.1 hK hP hS hA (by decide) rfl (tw_ac_obj (hK.2 3 _ rfl).2) (by decide) (by decide) (by decide) (Nat.le_of_ble_eq_true rfl) (Nat.le_of_ble_eq_true rfl) dX9_init_7 (fun ad1 H hP hle hS => ?_)
  obtain ⟨τ2, eτ2⟩ : ∃ y : tw_T, y = nW τ0 1 1 := ⟨_, rfl⟩
  have hF := hF τ2 eτ2
  rw [← eτ2] at hP hle
  have hl : lv_has ls 1 [(0, .ref (ad1 0 k0))] := by rw [hle.2 0 k0 hk0]; exact hl
  refine W.eq (g2 := F0 m 10 ls [.ref (ad1 1 (gN τ0 1)), .ref (ad1 0 k0)]) (by rw [hle.2 0 k0 hk0]) ?_
  have hk0 : k0 < gN τ2 0 := Nat.lt_of_lt_of_le hk0 (hle.1 0)
  have hN : tw_le τ0 ad τ2 ad1 := hN.tr hle
  have hq3 : gN τ0 1 < gN τ2 1 := by rw [eτ2, gN_nW, if_pos rfl]; exact Nat.lt_succ_self _
  refine tw_putF (τ' := sR τ2 0 k0 0 (some (gN τ0 1))) (ty := .array (.object "WineCellar$Kind")) hx hb hts (by decide +kernel) tyX9 tyX9_ok nmX9 hown hK hP hS (by decide) hk0 rfl rfl 0 (by decide) (hts (.fieldLink RX9 11 "WineCellar" "kinds" "[LWineCellar$Kind;") (by decide +kernel)) (fun _ h9 => h9) rfl hin rfl (by decide +kernel) rfl rfl (Nat.le_of_ble_eq_true rfl) dX9_init_10 (fun H1 ha ho => tw_updR hP (by decide) hk0 (fun r9 h9 => by cases h9; exact hq3) ha ho) (fun H locs hP hS => ?_)
  obtain ⟨τ4, eτ4⟩ : ∃ y : tw_T, y = sR τ2 0 k0 0 (some (gN τ0 1)) := ⟨_, rfl⟩
  have hF := hF τ4 eτ4
  rw [← eτ4] at hP
  have hN : tw_le τ0 ad τ4 ad1 := hN.same (by rw [eτ4]; rfl)
  have hk0 : k0 < gN τ4 0 := by rw [eτ4]; exact hk0
  refine lv_aload_n hx hb dX9_init_13 rfl (lv_at hl 0 rfl) ?_
  refine lv_bipush (v := 60) hx hb dX9_init_14 (by decide) ?_
  refine tw_anew (f := 2) (t0 := 4) (n9 := 60) hx hb hown (hts (.classLink RX9 15 RX3) (by decide +kernel)) hZ.2.2.2.1.2.1 hK hP hS hA (by decide) rfl (tw_ac_obj (hK.2 4 _ rfl).2) (by decide) (by decide) (by decide) (Nat.le_of_ble_eq_true rfl) (Nat.le_of_ble_eq_true rfl) dX9_init_16 (fun ad5 H hP hle hS => ?_)
  obtain ⟨τ6, eτ6⟩ : ∃ y : tw_T, y = nW τ4 2 1 := ⟨_, rfl⟩
  have hF := hF τ6 eτ6
  rw [← eτ6] at hP hle
  have hl : lv_has ls 1 [(0, .ref (ad5 0 k0))] := by rw [hle.2 0 k0 hk0]; exact hl
  refine W.eq (g2 := F0 m 19 ls [.ref (ad5 2 (gN τ4 2)), .ref (ad5 0 k0)]) (by rw [hle.2 0 k0 hk0]) ?_
  have hk0 : k0 < gN τ6 0 := Nat.lt_of_lt_of_le hk0 (hle.1 0)
  have hN : tw_le τ0 ad τ6 ad5 := hN.tr hle
  have hq7 : gN τ4 2 < gN τ6 2 := by rw [eτ6, gN_nW, if_pos rfl]; exact Nat.lt_succ_self _
  refine tw_putF (τ' := sR τ6 0 k0 1 (some (gN τ4 2))) (ty := .array (.object "WineCellar$Lot")) hx hb hts (by decide +kernel) tyX9 tyX9_ok nmX9 hown hK hP hS (by decide) hk0 rfl rfl 1 (by decide) (hts (.fieldLink RX9 17 "WineCellar" "lots" "[LWineCellar$Lot;") (by decide +kernel)) (fun _ h9 => h9) rfl hin rfl (by decide +kernel) rfl rfl (Nat.le_of_ble_eq_true rfl) dX9_init_19 (fun H1 ha ho => tw_updR hP (by decide) hk0 (fun r9 h9 => by cases h9; exact hq7) ha ho) (fun H locs hP hS => ?_)
  obtain ⟨τ8, eτ8⟩ : ∃ y : tw_T, y = sR τ6 0 k0 1 (some (gN τ4 2)) := ⟨_, rfl⟩
  have hF := hF τ8 eτ8
  rw [← eτ8] at hP
  have hN : tw_le τ0 ad τ8 ad5 := hN.same (by rw [eτ8]; rfl)
  have hk0 : k0 < gN τ8 0 := by rw [eτ8]; exact hk0
  refine lv_aload_n hx hb dX9_init_22 rfl (lv_at hl 0 rfl) ?_
  refine lv_bipush (v := 20) hx hb dX9_init_23 (by decide) ?_
  refine tw_anew (f := 3) (t0 := 5) (n9 := 20) hx hb hown (hts (.classLink RX9 21 RX0) (by decide +kernel)) hZ.2.2.2.1.2.2.1 hK hP hS hA (by decide) rfl (tw_ac_obj (hK.2 5 _ rfl).2) (by decide) (by decide) (by decide) (Nat.le_of_ble_eq_true rfl) (Nat.le_of_ble_eq_true rfl) dX9_init_25 (fun ad9 H hP hle hS => ?_)
  obtain ⟨τ10, eτ10⟩ : ∃ y : tw_T, y = nW τ8 3 1 := ⟨_, rfl⟩
  have hF := hF τ10 eτ10
  rw [← eτ10] at hP hle
  have hl : lv_has ls 1 [(0, .ref (ad9 0 k0))] := by rw [hle.2 0 k0 hk0]; exact hl
  refine W.eq (g2 := F0 m 28 ls [.ref (ad9 3 (gN τ8 3)), .ref (ad9 0 k0)]) (by rw [hle.2 0 k0 hk0]) ?_
  have hk0 : k0 < gN τ10 0 := Nat.lt_of_lt_of_le hk0 (hle.1 0)
  have hN : tw_le τ0 ad τ10 ad9 := hN.tr hle
  have hq11 : gN τ8 3 < gN τ10 3 := by rw [eτ10, gN_nW, if_pos rfl]; exact Nat.lt_succ_self _
  refine tw_putF (τ' := sR τ10 0 k0 2 (some (gN τ8 3))) (ty := .array (.object "WineCellar$Dish")) hx hb hts (by decide +kernel) tyX9 tyX9_ok nmX9 hown hK hP hS (by decide) hk0 rfl rfl 2 (by decide) (hts (.fieldLink RX9 23 "WineCellar" "dishes" "[LWineCellar$Dish;") (by decide +kernel)) (fun _ h9 => h9) rfl hin rfl (by decide +kernel) rfl rfl (Nat.le_of_ble_eq_true rfl) dX9_init_28 (fun H1 ha ho => tw_updR hP (by decide) hk0 (fun r9 h9 => by cases h9; exact hq11) ha ho) (fun H locs hP hS => ?_)
  obtain ⟨τ12, eτ12⟩ : ∃ y : tw_T, y = sR τ10 0 k0 2 (some (gN τ8 3)) := ⟨_, rfl⟩
  have hF := hF τ12 eτ12
  rw [← eτ12] at hP
  have hN : tw_le τ0 ad τ12 ad9 := hN.same (by rw [eτ12]; rfl)
  have hk0 : k0 < gN τ12 0 := by rw [eτ12]; exact hk0
  refine lv_aload_n hx hb dX9_init_31 rfl (lv_at hl 0 rfl) ?_
  refine lv_iconst (v := 4) hx hb dX9_init_32 (by decide) ?_
  refine tw_anew (f := 4) (t0 := 6) (n9 := 4) hx hb hown (hts (.classLink RX9 27 RX6) (by decide +kernel)) hZ.2.2.2.1.2.2.2.1 hK hP hS hA (by decide) rfl (tw_ac_obj (hK.2 6 _ rfl).2) (by decide) (by decide) (by decide) (Nat.le_of_ble_eq_true rfl) (Nat.le_of_ble_eq_true rfl) dX9_init_33 (fun ad13 H hP hle hS => ?_)
  obtain ⟨τ14, eτ14⟩ : ∃ y : tw_T, y = nW τ12 4 1 := ⟨_, rfl⟩
  have hF := hF τ14 eτ14
  rw [← eτ14] at hP hle
  have hl : lv_has ls 1 [(0, .ref (ad13 0 k0))] := by rw [hle.2 0 k0 hk0]; exact hl
  refine W.eq (g2 := F0 m 36 ls [.ref (ad13 4 (gN τ12 4)), .ref (ad13 0 k0)]) (by rw [hle.2 0 k0 hk0]) ?_
  have hk0 : k0 < gN τ14 0 := Nat.lt_of_lt_of_le hk0 (hle.1 0)
  have hN : tw_le τ0 ad τ14 ad13 := hN.tr hle
  have hq15 : gN τ12 4 < gN τ14 4 := by rw [eτ14, gN_nW, if_pos rfl]; exact Nat.lt_succ_self _
  refine tw_putF (τ' := sR τ14 0 k0 3 (some (gN τ12 4))) (ty := .array (.object "WineCellar$Sheet")) hx hb hts (by decide +kernel) tyX9 tyX9_ok nmX9 hown hK hP hS (by decide) hk0 rfl rfl 3 (by decide) (hts (.fieldLink RX9 29 "WineCellar" "sheets" "[LWineCellar$Sheet;") (by decide +kernel)) (fun _ h9 => h9) rfl hin rfl (by decide +kernel) rfl rfl (Nat.le_of_ble_eq_true rfl) dX9_init_36 (fun H1 ha ho => tw_updR hP (by decide) hk0 (fun r9 h9 => by cases h9; exact hq15) ha ho) (fun H locs hP hS => ?_)
  obtain ⟨τ16, eτ16⟩ : ∃ y : tw_T, y = sR τ14 0 k0 3 (some (gN τ12 4)) := ⟨_, rfl⟩
  have hF := hF τ16 eτ16
  rw [← eτ16] at hP
  have hN : tw_le τ0 ad τ16 ad13 := hN.same (by rw [eτ16]; rfl)
  have hk0 : k0 < gN τ16 0 := by rw [eτ16]; exact hk0
  refine lv_aload_n hx hb dX9_init_39 rfl (lv_at hl 0 rfl) ?_
  refine tw_new (f := 5) (fs := [.null, .null]) hx hb hts (by decide +kernel) tyX5 tyX5_ok hown (hts (.classLink RX9 33 RX5) (by decide +kernel)) (hts (.instantiable RX5 2) (by decide +kernel)) (hts (.initialized RX5) (by decide +kernel)) hK hP hS hA (by decide) (fun _ => rfl) rfl (fun j hj => by rcases (show j = 0 ∨ j = 1 by omega) with rfl | rfl <;> rfl) (Nat.le_of_ble_eq_true rfl) (Nat.le_of_ble_eq_true rfl) dX9_init_40 (fun ad17 H hP hle hS => ?_)
  obtain ⟨τ18, eτ18⟩ : ∃ y : tw_T, y = nW τ16 5 1 := ⟨_, rfl⟩
  have hF := hF τ18 eτ18
  rw [← eτ18] at hP hle
  have hl : lv_has ls 1 [(0, .ref (ad17 0 k0))] := by rw [hle.2 0 k0 hk0]; exact hl
  refine W.eq (g2 := F0 m 43 ls [.ref (ad17 5 (gN τ16 5)), .ref (ad17 0 k0)]) (by rw [hle.2 0 k0 hk0]) ?_
  have hk0 : k0 < gN τ18 0 := Nat.lt_of_lt_of_le hk0 (hle.1 0)
  have hN : tw_le τ0 ad τ18 ad17 := hN.tr hle
  have hq19 : gN τ16 5 < gN τ18 5 := by rw [eτ18, gN_nW, if_pos rfl]; exact Nat.lt_succ_self _
  refine lv_dup hx hb dX9_init_43 rfl ?_
  refine va_callv (va_runI (As := []) (rest := [.ref (ad17 5 (gN τ16 5)), .ref (ad17 0 k0)]) ⟨hx, hb, hml, hown, hts⟩ (mX5_init l dC dI ac sa A ad17 τ18 (gN τ16 5) _ hF hq19) (cwI 0 hts gX9_init_X5_init rfl rfl rfl (hts (.initialized RX5) (by decide +kernel)) (hts (.methodLink RX9 35 yX5_init) (by decide +kernel)) (hts (.instanceMethod yX5_init) (by decide +kernel)) rfl (by decide +kernel) ⟨Nat.le_of_ble_eq_true rfl, Nat.le_of_ble_eq_true rfl⟩) ⟨BX.blind, fun U hU hW => ⟨rfl, BX.of hP hK hS hA hZ hU hW⟩⟩ rfl rfl hl.1 rfl (lv_room (Nat.le_of_ble_eq_true rfl)) dX9_init_44 ⟨Nat.le_of_ble_eq_true rfl, Nat.le_of_ble_eq_true rfl⟩) hS (fun q _ h => h) (fun q h => h) (fun u9 t H locs ht hvm hw hB hz hk hS => ?_)
  obtain ⟨τ20, adτ20⟩ := u9
  obtain ⟨hF, hN9⟩ := hw
  try dsimp only at hF hN9 hB
  have hP : PX dC dI ac A adτ20 τ20 H := tw_back hB ht
  have hl : lv_has ls 1 [(0, .ref (adτ20 0 k0))] := by rw [hN9.2 0 k0 hk0]; exact hl
  refine W.eq (g2 := F0 m 47 ls [.ref (adτ20 5 (gN τ16 5)), .ref (adτ20 0 k0)]) (by rw [hN9.2 5 (gN τ16 5) hq19, hN9.2 0 k0 hk0]) ?_
  have hk0 : k0 < gN τ20 0 := Nat.lt_of_lt_of_le hk0 (hN9.1 0)
  have hq19 : gN τ16 5 < gN τ20 5 := Nat.lt_of_lt_of_le hq19 (hN9.1 5)
  have hN : tw_le τ0 ad τ20 adτ20 := hN.tr hN9
  refine tw_putF (τ' := sR τ20 0 k0 4 (some (gN τ16 5))) (ty := .object "WineCellar$Rack") hx hb hts (by decide +kernel) tyX9 tyX9_ok nmX9 hown hK hP hS (by decide) hk0 rfl rfl 4 (by decide) (hts (.fieldLink RX9 36 "WineCellar" "rack" "LWineCellar$Rack;") (by decide +kernel)) (fun _ h9 => h9) rfl hin rfl (by decide +kernel) rfl rfl (Nat.le_of_ble_eq_true rfl) dX9_init_47 (fun H1 ha ho => tw_updR hP (by decide) hk0 (fun r9 h9 => by cases h9; exact hq19) ha ho) (fun H locs hP hS => ?_)
  obtain ⟨τ21, eτ21⟩ : ∃ y : tw_T, y = sR τ20 0 k0 4 (some (gN τ16 5)) := ⟨_, rfl⟩
  have hF := hF τ21 eτ21
  rw [← eτ21] at hP
  have hN : tw_le τ0 ad τ21 adτ20 := hN.same (by rw [eτ21]; rfl)
  have hk0 : k0 < gN τ21 0 := by rw [eτ21]; exact hk0
  refine lv_aload_n hx hb dX9_init_50 rfl (lv_at hl 0 rfl) ?_
  refine tw_new (f := 6) (fs := [.null, .int 0, .int 0, .int 0]) hx hb hts (by decide +kernel) tyX7 tyX7_ok hown (hts (.classLink RX9 40 RX7) (by decide +kernel)) (hts (.instantiable RX7 4) (by decide +kernel)) (hts (.initialized RX7) (by decide +kernel)) hK hP hS hA (by decide) (fun _ => rfl) rfl (fun j hj => by rcases (show j = 0 ∨ j = 1 ∨ j = 2 ∨ j = 3 by omega) with rfl | rfl | rfl | rfl <;> rfl) (Nat.le_of_ble_eq_true rfl) (Nat.le_of_ble_eq_true rfl) dX9_init_51 (fun ad22 H hP hle hS => ?_)
  obtain ⟨τ23, eτ23⟩ : ∃ y : tw_T, y = nW τ21 6 1 := ⟨_, rfl⟩
  have hF := hF τ23 eτ23
  rw [← eτ23] at hP hle
  have hl : lv_has ls 1 [(0, .ref (ad22 0 k0))] := by rw [hle.2 0 k0 hk0]; exact hl
  refine W.eq (g2 := F0 m 54 ls [.ref (ad22 6 (gN τ21 6)), .ref (ad22 0 k0)]) (by rw [hle.2 0 k0 hk0]) ?_
  have hk0 : k0 < gN τ23 0 := Nat.lt_of_lt_of_le hk0 (hle.1 0)
  have hN : tw_le τ0 ad τ23 ad22 := hN.tr hle
  have hq24 : gN τ21 6 < gN τ23 6 := by rw [eτ23, gN_nW, if_pos rfl]; exact Nat.lt_succ_self _
  refine lv_dup hx hb dX9_init_54 rfl ?_
  refine va_callv (va_runIN (As := []) (rest := [.ref (ad22 6 (gN τ21 6)), .ref (ad22 0 k0)]) ⟨hx, hb, hml, hown, hts⟩ (mX7_init l dC dI ac sa A ad22 τ23 (gN τ21 6) _ hF hq24) ⟨va_cnB 0 hts ggX9_init_X7_init rfl rfl rfl hZ.2.2.2.2.1.2.1 (hts (.initialized RX7) (by decide +kernel)) (by decide +kernel) ⟨Nat.le_of_ble_eq_true rfl, Nat.le_of_ble_eq_true rfl⟩, rfl, hts (.instanceMethod yX7_init) (by decide +kernel)⟩ ⟨BX.blind, fun U hU hW => ⟨rfl, BX.of hP hK hS hA hZ hU hW⟩⟩ rfl rfl hl.1 rfl (lv_room (Nat.le_of_ble_eq_true rfl)) dX9_init_55 ⟨Nat.le_of_ble_eq_true rfl, Nat.le_of_ble_eq_true rfl⟩) hS (fun q _ h => h) (fun q h => h) (fun u9 t H locs ht hvm hw hB hz hk hS => ?_)
  obtain ⟨τ25, adτ25⟩ := u9
  obtain ⟨hF, hN9⟩ := hw
  try dsimp only at hF hN9 hB
  have hP : PX dC dI ac A adτ25 τ25 H := tw_back hB ht
  have hl : lv_has ls 1 [(0, .ref (adτ25 0 k0))] := by rw [hN9.2 0 k0 hk0]; exact hl
  refine W.eq (g2 := F0 m 58 ls [.ref (adτ25 6 (gN τ21 6)), .ref (adτ25 0 k0)]) (by rw [hN9.2 6 (gN τ21 6) hq24, hN9.2 0 k0 hk0]) ?_
  have hk0 : k0 < gN τ25 0 := Nat.lt_of_lt_of_le hk0 (hN9.1 0)
  have hq24 : gN τ21 6 < gN τ25 6 := Nat.lt_of_lt_of_le hq24 (hN9.1 6)
  have hN : tw_le τ0 ad τ25 adτ25 := hN.tr hN9
  refine tw_putF (τ' := sR τ25 0 k0 5 (some (gN τ21 6))) (ty := .object "WineCellar$Tape") hx hb hts (by decide +kernel) tyX9 tyX9_ok nmX9 hown hK hP hS (by decide) hk0 rfl rfl 5 (by decide) (hts (.fieldLink RX9 43 "WineCellar" "tape" "LWineCellar$Tape;") (by decide +kernel)) (fun _ h9 => h9) rfl hin rfl (by decide +kernel) rfl rfl (Nat.le_of_ble_eq_true rfl) dX9_init_58 (fun H1 ha ho => tw_updR hP (by decide) hk0 (fun r9 h9 => by cases h9; exact hq24) ha ho) (fun H locs hP hS => ?_)
  obtain ⟨τ26, eτ26⟩ : ∃ y : tw_T, y = sR τ25 0 k0 5 (some (gN τ21 6)) := ⟨_, rfl⟩
  have hF := hF τ26 eτ26
  rw [← eτ26] at hP
  have hN : tw_le τ0 ad τ26 adτ25 := hN.same (by rw [eτ26]; rfl)
  have hk0 : k0 < gN τ26 0 := by rw [eτ26]; exact hk0
  refine lv_aload_n hx hb dX9_init_61 rfl (lv_at hl 0 rfl) ?_
  refine tw_new (f := 7) (fs := [.int 0, .int 0, .int 0, .int 0, .int 0, .int 0, .int 0, .long 0]) hx hb hts (by decide +kernel) tyX2 tyX2_ok hown (hts (.classLink RX9 47 RX2) (by decide +kernel)) (hts (.instantiable RX2 8) (by decide +kernel)) (hts (.initialized RX2) (by decide +kernel)) hK hP hS hA (by decide) (fun _ => rfl) rfl (fun j hj => by rcases (show j = 0 ∨ j = 1 ∨ j = 2 ∨ j = 3 ∨ j = 4 ∨ j = 5 ∨ j = 6 ∨ j = 7 by omega) with rfl | rfl | rfl | rfl | rfl | rfl | rfl | rfl <;> rfl) (Nat.le_of_ble_eq_true rfl) (Nat.le_of_ble_eq_true rfl) dX9_init_62 (fun ad27 H hP hle hS => ?_)
  obtain ⟨τ28, eτ28⟩ : ∃ y : tw_T, y = nW τ26 7 1 := ⟨_, rfl⟩
  have hF := hF τ28 eτ28
  rw [← eτ28] at hP hle
  have hl : lv_has ls 1 [(0, .ref (ad27 0 k0))] := by rw [hle.2 0 k0 hk0]; exact hl
  refine W.eq (g2 := F0 m 65 ls [.ref (ad27 7 (gN τ26 7)), .ref (ad27 0 k0)]) (by rw [hle.2 0 k0 hk0]) ?_
  have hk0 : k0 < gN τ28 0 := Nat.lt_of_lt_of_le hk0 (hle.1 0)
  have hN : tw_le τ0 ad τ28 ad27 := hN.tr hle
  have hq29 : gN τ26 7 < gN τ28 7 := by rw [eτ28, gN_nW, if_pos rfl]; exact Nat.lt_succ_self _
  refine lv_dup hx hb dX9_init_65 rfl ?_
  refine va_callv (va_runIN (As := []) (rest := [.ref (ad27 7 (gN τ26 7)), .ref (ad27 0 k0)]) ⟨hx, hb, hml, hown, hts⟩ (mX2_init l dC dI ac sa A ad27 τ28 (gN τ26 7) _ hF hq29) ⟨va_cnB 0 hts ggX9_init_X2_init rfl rfl rfl hZ.2.2.2.2.1.2.2.1 (hts (.initialized RX2) (by decide +kernel)) (by decide +kernel) ⟨Nat.le_of_ble_eq_true rfl, Nat.le_of_ble_eq_true rfl⟩, rfl, hts (.instanceMethod yX2_init) (by decide +kernel)⟩ ⟨BX.blind, fun U hU hW => ⟨rfl, BX.of hP hK hS hA hZ hU hW⟩⟩ rfl rfl hl.1 rfl (lv_room (Nat.le_of_ble_eq_true rfl)) dX9_init_66 ⟨Nat.le_of_ble_eq_true rfl, Nat.le_of_ble_eq_true rfl⟩) hS (fun q _ h => h) (fun q h => h) (fun τ30 t H locs ht hvm hw hB hz hk hS => ?_)
  obtain ⟨hF, hN9⟩ := hw
  have hP : PX dC dI ac A ad27 τ30 H := tw_back hB ht
  have hN : tw_le τ0 ad τ30 ad27 := hN.same hN9
  have hk0 : k0 < gN τ30 0 := by rw [hN9]; exact hk0
  have hq29 : gN τ26 7 < gN τ30 7 := by rw [hN9]; exact hq29
  refine tw_putF (τ' := sR τ30 0 k0 6 (some (gN τ26 7))) (ty := .object "WineCellar$Ledger") hx hb hts (by decide +kernel) tyX9 tyX9_ok nmX9 hown hK hP hS (by decide) hk0 rfl rfl 6 (by decide) (hts (.fieldLink RX9 50 "WineCellar" "ledger" "LWineCellar$Ledger;") (by decide +kernel)) (fun _ h9 => h9) rfl hin rfl (by decide +kernel) rfl rfl (Nat.le_of_ble_eq_true rfl) dX9_init_69 (fun H1 ha ho => tw_updR hP (by decide) hk0 (fun r9 h9 => by cases h9; exact hq29) ha ho) (fun H locs hP hS => ?_)
  obtain ⟨τ31, eτ31⟩ : ∃ y : tw_T, y = sR τ30 0 k0 6 (some (gN τ26 7)) := ⟨_, rfl⟩
  have hF := hF τ31 eτ31
  rw [← eτ31] at hP
  have hN : tw_le τ0 ad τ31 ad27 := hN.same (by rw [eτ31]; rfl)
  have hk0 : k0 < gN τ31 0 := by rw [eτ31]; exact hk0
  refine lv_aload_n hx hb dX9_init_72 rfl (lv_at hl 0 rfl) ?_
  refine tw_new (f := 8) (fs := [.null, .null, .null, .null, .null, .null, .null, .int 0, .int 0, .int 0]) hx hb hts (by decide +kernel) tyX4 tyX4_ok hown (hts (.classLink RX9 54 RX4) (by decide +kernel)) (hts (.instantiable RX4 10) (by decide +kernel)) (hts (.initialized RX4) (by decide +kernel)) hK hP hS hA (by decide) (fun _ => rfl) rfl (fun j hj => by rcases (show j = 0 ∨ j = 1 ∨ j = 2 ∨ j = 3 ∨ j = 4 ∨ j = 5 ∨ j = 6 ∨ j = 7 ∨ j = 8 ∨ j = 9 by omega) with rfl | rfl | rfl | rfl | rfl | rfl | rfl | rfl | rfl | rfl <;> rfl) (Nat.le_of_ble_eq_true rfl) (Nat.le_of_ble_eq_true rfl) dX9_init_73 (fun ad32 H hP hle hS => ?_)
  obtain ⟨τ33, eτ33⟩ : ∃ y : tw_T, y = nW τ31 8 1 := ⟨_, rfl⟩
  have hF := hF τ33 eτ33
  rw [← eτ33] at hP hle
  have hl : lv_has ls 1 [(0, .ref (ad32 0 k0))] := by rw [hle.2 0 k0 hk0]; exact hl
  refine W.eq (g2 := F0 m 76 ls [.ref (ad32 8 (gN τ31 8)), .ref (ad32 0 k0)]) (by rw [hle.2 0 k0 hk0]) ?_
  have hk0 : k0 < gN τ33 0 := Nat.lt_of_lt_of_le hk0 (hle.1 0)
  have hN : tw_le τ0 ad τ33 ad32 := hN.tr hle
  have hq34 : gN τ31 8 < gN τ33 8 := by rw [eτ33, gN_nW, if_pos rfl]; exact Nat.lt_succ_self _
  refine lv_dup hx hb dX9_init_76 rfl ?_
  refine va_callv (va_runIN (As := []) (rest := [.ref (ad32 8 (gN τ31 8)), .ref (ad32 0 k0)]) ⟨hx, hb, hml, hown, hts⟩ (mX4_init l dC dI ac sa A ad32 τ33 (gN τ31 8) _ hF hq34) ⟨va_cnB 0 hts ggX9_init_X4_init rfl rfl rfl hZ.2.2.2.2.1.2.2.2.1 (hts (.initialized RX4) (by decide +kernel)) (by decide +kernel) ⟨Nat.le_of_ble_eq_true rfl, Nat.le_of_ble_eq_true rfl⟩, rfl, hts (.instanceMethod yX4_init) (by decide +kernel)⟩ ⟨BX.blind, fun U hU hW => ⟨rfl, BX.of hP hK hS hA hZ hU hW⟩⟩ rfl rfl hl.1 rfl (lv_room (Nat.le_of_ble_eq_true rfl)) dX9_init_77 ⟨Nat.le_of_ble_eq_true rfl, Nat.le_of_ble_eq_true rfl⟩) hS (fun q _ h => h) (fun q h => h) (fun u9 t H locs ht hvm hw hB hz hk hS => ?_)
  obtain ⟨τ35, adτ35⟩ := u9
  obtain ⟨hF, hN9⟩ := hw
  try dsimp only at hF hN9 hB
  have hP : PX dC dI ac A adτ35 τ35 H := tw_back hB ht
  have hl : lv_has ls 1 [(0, .ref (adτ35 0 k0))] := by rw [hN9.2 0 k0 hk0]; exact hl
  refine W.eq (g2 := F0 m 80 ls [.ref (adτ35 8 (gN τ31 8)), .ref (adτ35 0 k0)]) (by rw [hN9.2 8 (gN τ31 8) hq34, hN9.2 0 k0 hk0]) ?_
  have hk0 : k0 < gN τ35 0 := Nat.lt_of_lt_of_le hk0 (hN9.1 0)
  have hq34 : gN τ31 8 < gN τ35 8 := Nat.lt_of_lt_of_le hq34 (hN9.1 8)
  have hN : tw_le τ0 ad τ35 adτ35 := hN.tr hN9
  refine tw_putF (τ' := sR τ35 0 k0 7 (some (gN τ31 8))) (ty := .object "WineCellar$Planner") hx hb hts (by decide +kernel) tyX9 tyX9_ok nmX9 hown hK hP hS (by decide) hk0 rfl rfl 7 (by decide) (hts (.fieldLink RX9 57 "WineCellar" "planner" "LWineCellar$Planner;") (by decide +kernel)) (fun _ h9 => h9) rfl hin rfl (by decide +kernel) rfl rfl (Nat.le_of_ble_eq_true rfl) dX9_init_80 (fun H1 ha ho => tw_updR hP (by decide) hk0 (fun r9 h9 => by cases h9; exact hq34) ha ho) (fun H locs hP hS => ?_)
  obtain ⟨τ36, eτ36⟩ : ∃ y : tw_T, y = sR τ35 0 k0 7 (some (gN τ31 8)) := ⟨_, rfl⟩
  have hF := hF τ36 eτ36
  rw [← eτ36] at hP
  have hN : tw_le τ0 ad τ36 adτ35 := hN.same (by rw [eτ36]; rfl)
  have hk0 : k0 < gN τ36 0 := by rw [eτ36]; exact hk0
  refine lv_aload_n hx hb dX9_init_83 rfl (lv_at hl 0 rfl) ?_
  refine lv_bipush (v := 60) hx hb dX9_init_84 (by decide) ?_
  refine tw_newa (atype := .int) (f := 9) (t0 := 0) (n9 := 60) (kd := 0) hx hb (hts (.arrayClass .int) (by decide +kernel)) hK hP hS hA (by decide) rfl (hK.2 0 _ rfl).2 (fun cA => vp_cell_i cA 60 (fun _ => 0)) (by decide) (by decide) (by decide) (Nat.le_of_ble_eq_true rfl) (Nat.le_of_ble_eq_true rfl) dX9_init_86 (fun ad37 H hP hle hS => ?_)
  obtain ⟨τ38, eτ38⟩ : ∃ y : tw_T, y = nW τ36 9 1 := ⟨_, rfl⟩
  have hF := hF τ38 eτ38
  rw [← eτ38] at hP hle
  have hl : lv_has ls 1 [(0, .ref (ad37 0 k0))] := by rw [hle.2 0 k0 hk0]; exact hl
  refine W.eq (g2 := F0 m 88 ls [.ref (ad37 9 (gN τ36 9)), .ref (ad37 0 k0)]) (by rw [hle.2 0 k0 hk0]) ?_
  have hk0 : k0 < gN τ38 0 := Nat.lt_of_lt_of_le hk0 (hle.1 0)
  have hN : tw_le τ0 ad τ38 ad37 := hN.tr hle
  have hq39 : gN τ36 9 < gN τ38 9 := by rw [eτ38, gN_nW, if_pos rfl]; exact Nat.lt_succ_self _
  refine tw_putF (τ' := sR τ38 0 k0 8 (some (gN τ36 9))) (ty := .array .int) hx hb hts (by decide +kernel) tyX9 tyX9_ok nmX9 hown hK hP hS (by decide) hk0 rfl rfl 8 (by decide) (hts (.fieldLink RX9 61 "WineCellar" "scores" "[I") (by decide +kernel)) (fun _ h9 => h9) rfl hin rfl (by decide +kernel) rfl rfl (Nat.le_of_ble_eq_true rfl) dX9_init_88 (fun H1 ha ho => tw_updR hP (by decide) hk0 (fun r9 h9 => by cases h9; exact hq39) ha ho) (fun H locs hP hS => ?_)
  obtain ⟨τ40, eτ40⟩ : ∃ y : tw_T, y = sR τ38 0 k0 8 (some (gN τ36 9)) := ⟨_, rfl⟩
  have hF := hF τ40 eτ40
  rw [← eτ40] at hP
  have hN : tw_le τ0 ad τ40 ad37 := hN.same (by rw [eτ40]; rfl)
  have hk0 : k0 < gN τ40 0 := by rw [eτ40]; exact hk0
  refine lv_aload_n hx hb dX9_init_91 rfl (lv_at hl 0 rfl) ?_
  refine lv_bipush (v := 60) hx hb dX9_init_92 (by decide) ?_
  refine tw_newa (atype := .int) (f := 10) (t0 := 0) (n9 := 60) (kd := 0) hx hb (hts (.arrayClass .int) (by decide +kernel)) hK hP hS hA (by decide) rfl (hK.2 0 _ rfl).2 (fun cA => vp_cell_i cA 60 (fun _ => 0)) (by decide) (by decide) (by decide) (Nat.le_of_ble_eq_true rfl) (Nat.le_of_ble_eq_true rfl) dX9_init_94 (fun ad41 H hP hle hS => ?_)
  obtain ⟨τ42, eτ42⟩ : ∃ y : tw_T, y = nW τ40 10 1 := ⟨_, rfl⟩
  have hF := hF τ42 eτ42
  rw [← eτ42] at hP hle
  have hl : lv_has ls 1 [(0, .ref (ad41 0 k0))] := by rw [hle.2 0 k0 hk0]; exact hl
  refine W.eq (g2 := F0 m 96 ls [.ref (ad41 10 (gN τ40 10)), .ref (ad41 0 k0)]) (by rw [hle.2 0 k0 hk0]) ?_
  have hk0 : k0 < gN τ42 0 := Nat.lt_of_lt_of_le hk0 (hle.1 0)
  have hN : tw_le τ0 ad τ42 ad41 := hN.tr hle
  have hq43 : gN τ40 10 < gN τ42 10 := by rw [eτ42, gN_nW, if_pos rfl]; exact Nat.lt_succ_self _
  refine tw_putF (τ' := sR τ42 0 k0 9 (some (gN τ40 10))) (ty := .array .int) hx hb hts (by decide +kernel) tyX9 tyX9_ok nmX9 hown hK hP hS (by decide) hk0 rfl rfl 9 (by decide) (hts (.fieldLink RX9 65 "WineCellar" "worths" "[I") (by decide +kernel)) (fun _ h9 => h9) rfl hin rfl (by decide +kernel) rfl rfl (Nat.le_of_ble_eq_true rfl) dX9_init_96 (fun H1 ha ho => tw_updR hP (by decide) hk0 (fun r9 h9 => by cases h9; exact hq43) ha ho) (fun H locs hP hS => ?_)
  obtain ⟨τ44, eτ44⟩ : ∃ y : tw_T, y = sR τ42 0 k0 9 (some (gN τ40 10)) := ⟨_, rfl⟩
  have hF := hF τ44 eτ44
  rw [← eτ44] at hP
  have hN : tw_le τ0 ad τ44 ad41 := hN.same (by rw [eτ44]; rfl)
  have hk0 : k0 < gN τ44 0 := by rw [eτ44]; exact hk0
  refine lv_aload_n hx hb dX9_init_99 rfl (lv_at hl 0 rfl) ?_
  refine lv_bipush (v := 60) hx hb dX9_init_100 (by decide) ?_
  refine tw_newa (atype := .boolean) (f := 11) (t0 := 2) (n9 := 60) (kd := 0) hx hb (hts (.arrayClass .boolean) (by decide +kernel)) hK hP hS hA (by decide) rfl (hK.2 2 _ rfl).2 (fun cA => vp_cell_i cA 60 (fun _ => 0)) (by decide) (by decide) (by decide) (Nat.le_of_ble_eq_true rfl) (Nat.le_of_ble_eq_true rfl) dX9_init_102 (fun ad45 H hP hle hS => ?_)
  obtain ⟨τ46, eτ46⟩ : ∃ y : tw_T, y = nW τ44 11 1 := ⟨_, rfl⟩
  have hF := hF τ46 eτ46
  rw [← eτ46] at hP hle
  have hl : lv_has ls 1 [(0, .ref (ad45 0 k0))] := by rw [hle.2 0 k0 hk0]; exact hl
  refine W.eq (g2 := F0 m 104 ls [.ref (ad45 11 (gN τ44 11)), .ref (ad45 0 k0)]) (by rw [hle.2 0 k0 hk0]) ?_
  have hk0 : k0 < gN τ46 0 := Nat.lt_of_lt_of_le hk0 (hle.1 0)
  have hN : tw_le τ0 ad τ46 ad45 := hN.tr hle
  have hq47 : gN τ44 11 < gN τ46 11 := by rw [eτ46, gN_nW, if_pos rfl]; exact Nat.lt_succ_self _
  refine tw_putF (τ' := sR τ46 0 k0 10 (some (gN τ44 11))) (ty := .array .boolean) hx hb hts (by decide +kernel) tyX9 tyX9_ok nmX9 hown hK hP hS (by decide) hk0 rfl rfl 10 (by decide) (hts (.fieldLink RX9 68 "WineCellar" "matched" "[Z") (by decide +kernel)) (fun _ h9 => h9) rfl hin rfl (by decide +kernel) rfl rfl (Nat.le_of_ble_eq_true rfl) dX9_init_104 (fun H1 ha ho => tw_updR hP (by decide) hk0 (fun r9 h9 => by cases h9; exact hq47) ha ho) (fun H locs hP hS => ?_)
  obtain ⟨τ48, eτ48⟩ : ∃ y : tw_T, y = sR τ46 0 k0 10 (some (gN τ44 11)) := ⟨_, rfl⟩
  have hF := hF τ48 eτ48
  rw [← eτ48] at hP
  have hN : tw_le τ0 ad τ48 ad45 := hN.same (by rw [eτ48]; rfl)
  have hk0 : k0 < gN τ48 0 := by rw [eτ48]; exact hk0
  refine lv_aload_n hx hb dX9_init_107 rfl (lv_at hl 0 rfl) ?_
  refine lv_iconst (v := 0) hx hb dX9_init_108 (by decide) ?_
  refine tw_put (τ' := sI τ48 0 k0 11 ((0 : Int32))) (ty := .int) hx hb hts (by decide +kernel) tyX9 tyX9_ok nmX9 hown hK hP hS (by decide) hk0 rfl rfl 11 (by decide) (hts (.fieldLink RX9 72 "WineCellar" "kindCount" "I") (by decide +kernel)) (fun _ h9 => h9) rfl (by decide +kernel) rfl rfl (Nat.le_of_ble_eq_true rfl) dX9_init_109 (fun H1 ha ho => tw_updI hP (by decide) hk0 ha ho) (fun H locs hP hS => ?_)
  obtain ⟨τ49, eτ49⟩ : ∃ y : tw_T, y = sI τ48 0 k0 11 ((0 : Int32)) := ⟨_, rfl⟩
  have hF := hF τ49 eτ49
  rw [← eτ49] at hP
  have hN : tw_le τ0 ad τ49 ad45 := hN.same (by rw [eτ49]; rfl)
  have hk0 : k0 < gN τ49 0 := by rw [eτ49]; exact hk0
  refine lv_aload_n hx hb dX9_init_112 rfl (lv_at hl 0 rfl) ?_
  refine lv_iconst (v := 0) hx hb dX9_init_113 (by decide) ?_
  refine tw_put (τ' := sI τ49 0 k0 12 ((0 : Int32))) (ty := .int) hx hb hts (by decide +kernel) tyX9 tyX9_ok nmX9 hown hK hP hS (by decide) hk0 rfl rfl 12 (by decide) (hts (.fieldLink RX9 76 "WineCellar" "lotCount" "I") (by decide +kernel)) (fun _ h9 => h9) rfl (by decide +kernel) rfl rfl (Nat.le_of_ble_eq_true rfl) dX9_init_114 (fun H1 ha ho => tw_updI hP (by decide) hk0 ha ho) (fun H locs hP hS => ?_)
  obtain ⟨τ50, eτ50⟩ : ∃ y : tw_T, y = sI τ49 0 k0 12 ((0 : Int32)) := ⟨_, rfl⟩
  have hF := hF τ50 eτ50
  rw [← eτ50] at hP
  have hN : tw_le τ0 ad τ50 ad45 := hN.same (by rw [eτ50]; rfl)
  have hk0 : k0 < gN τ50 0 := by rw [eτ50]; exact hk0
  refine lv_aload_n hx hb dX9_init_117 rfl (lv_at hl 0 rfl) ?_
  refine lv_iconst (v := 0) hx hb dX9_init_118 (by decide) ?_
  refine tw_put (τ' := sI τ50 0 k0 13 ((0 : Int32))) (ty := .int) hx hb hts (by decide +kernel) tyX9 tyX9_ok nmX9 hown hK hP hS (by decide) hk0 rfl rfl 13 (by decide) (hts (.fieldLink RX9 79 "WineCellar" "dishCount" "I") (by decide +kernel)) (fun _ h9 => h9) rfl (by decide +kernel) rfl rfl (Nat.le_of_ble_eq_true rfl) dX9_init_119 (fun H1 ha ho => tw_updI hP (by decide) hk0 ha ho) (fun H locs hP hS => ?_)
  obtain ⟨τ51, eτ51⟩ : ∃ y : tw_T, y = sI τ50 0 k0 13 ((0 : Int32)) := ⟨_, rfl⟩
  have hF := hF τ51 eτ51
  rw [← eτ51] at hP
  have hN : tw_le τ0 ad τ51 ad45 := hN.same (by rw [eτ51]; rfl)
  have hk0 : k0 < gN τ51 0 := by rw [eτ51]; exact hk0
  refine lv_aload_n hx hb dX9_init_122 rfl (lv_at hl 0 rfl) ?_
  refine lv_iconst (v := 0) hx hb dX9_init_123 (by decide) ?_
  refine tw_put (τ' := sI τ51 0 k0 14 ((0 : Int32))) (ty := .int) hx hb hts (by decide +kernel) tyX9 tyX9_ok nmX9 hown hK hP hS (by decide) hk0 rfl rfl 14 (by decide) (hts (.fieldLink RX9 82 "WineCellar" "sheetCount" "I") (by decide +kernel)) (fun _ h9 => h9) rfl (by decide +kernel) rfl rfl (Nat.le_of_ble_eq_true rfl) dX9_init_124 (fun H1 ha ho => tw_updI hP (by decide) hk0 ha ho) (fun H locs hP hS => ?_)
  obtain ⟨τ52, eτ52⟩ : ∃ y : tw_T, y = sI τ51 0 k0 14 ((0 : Int32)) := ⟨_, rfl⟩
  have hF := hF τ52 eτ52
  rw [← eτ52] at hP
  have hN : tw_le τ0 ad τ52 ad45 := hN.same (by rw [eτ52]; rfl)
  have hk0 : k0 < gN τ52 0 := by rw [eτ52]; exact hk0
  refine lv_aload_n hx hb dX9_init_127 rfl (lv_at hl 0 rfl) ?_
  refine lv_iconst (v := 0) hx hb dX9_init_128 (by decide) ?_
  refine tw_put (τ' := sI τ52 0 k0 15 ((0 : Int32))) (ty := .int) hx hb hts (by decide +kernel) tyX9 tyX9_ok nmX9 hown hK hP hS (by decide) hk0 rfl rfl 15 (by decide) (hts (.fieldLink RX9 85 "WineCellar" "hour" "I") (by decide +kernel)) (fun _ h9 => h9) rfl (by decide +kernel) rfl rfl (Nat.le_of_ble_eq_true rfl) dX9_init_129 (fun H1 ha ho => tw_updI hP (by decide) hk0 ha ho) (fun H locs hP hS => ?_)
  obtain ⟨τ53, eτ53⟩ : ∃ y : tw_T, y = sI τ52 0 k0 15 ((0 : Int32)) := ⟨_, rfl⟩
  have hF := hF τ53 eτ53
  rw [← eτ53] at hP
  have hN : tw_le τ0 ad τ53 ad45 := hN.same (by rw [eτ53]; rfl)
  have hk0 : k0 < gN τ53 0 := by rw [eτ53]; exact hk0
  exact W.vret hx hb hr (fun t ht hW => ⟨⟨(τ53, ad45), rfl, ⟨hF, hN⟩, tw_at hP ht⟩, hS.F ht⟩) hS.2.2 dX9_init_132
def F_X9_sheet (τ0 : tw_T) (k0 : Nat) (x1 : Int32) (Q : Int32 → tw_T → Prop) (X : Nat → tw_T → Prop) : Prop := F_X9_isWithin τ0 x1.toInt64 ((0 : Int64)) ((2 : Int64)) (fun (r2 : Int32) (τ1 : tw_T) => (((¬ r2 = 0 → ((((gI τ1 0 k0 14) < ((4 : Int32)) → (∃ o5 : Nat, gR τ1 0 k0 3 = some o5 ∧ (∀ τ7 : tw_T, τ7 = nW τ1 23 1 → (F_X6_init τ7 (gN τ1 23) x1 (fun (τ9 : tw_T) => (vp_in (gI τ1 0 k0 14) 4 ∧ (∀ τ11 : tw_T, τ11 = sR τ9 4 o5 (gI τ1 0 k0 14).toNatClampNeg (some (gN τ1 23)) → (∀ τ12 : tw_T, τ12 = sI τ11 0 k0 14 ((gI τ11 0 k0 14) + ((1 : Int32))) → (Q ((gI τ12 0 k0 14) - ((1 : Int32))) τ12))))))))) ∧ (¬ (gI τ1 0 k0 14) < ((4 : Int32)) → (Q ((-1 : Int32)) τ1))))) ∧ (r2 = 0 → (X 0 τ1)))))
def rmX9_sheet : Room := { frames := 6, cells := 13, slots := 423, locals := 82 }
set_option maxHeartbeats 4000000 in
set_option maxRecDepth 100000 in
theorem mX9_sheet (l : Launch) (hlt : l.stackTraces = false) (dC : Nat → ClassId) (dI : Nat → Nat → Nat) (ac : Nat → ClassId) (sa : Nat → Nat) (A : Nat → Prop) (ad : Nat → Nat → Nat) (τ0 : tw_T) (k0 : Nat) (x1 : Int32) (Q : Int32 → tw_T → Prop) (X : Nat → tw_T → Prop) (hF : F_X9_sheet τ0 k0 x1 Q X) (hk0 : k0 < gN τ0 0) : vx_Met l yX9_sheet wsX9_sheet rmX9_sheet (va_Pc [.ref (ad 0 k0), .int x1] (BX dC dI ac sa A ad τ0)) (va_Qi (fun r (u : tw_T × (Nat → Nat → Nat)) => Q r u.1 ∧ tw_le τ0 ad u.1 u.2) (fun (u : tw_T × (Nat → Nat → Nat)) t => PX dC dI ac A u.2 u.1 t.heap) A) (vx_X (fun (u : Nat × tw_T × (Nat → Nat → Nat)) => X u.1 u.2.1 ∧ tw_le τ0 ad u.2.1 u.2.2) (fun E u t => E = exn u.1 ∧ PX dC dI ac A u.2.2 u.2.1 t.heap) A) 13 423 A := by
  refine vx_ofW (cc := cX9_sheet) (maxL := 2) (ret := (some .int)) (by decide) rfl ?_
  intro p e s m args below meth c s₁ B hml htab hv
  obtain ⟨rfl, hP, hK, hA, hZ⟩ := hv
  have hx := B.exec
  have hb := B.bytes
  have hr := B.returns
  have hts := atoms_spec (ws := wsX9_sheet) B.pre
  have hown : s.vm.findClass RX9 = some m.cls := findClass_of_methodNamed B.named
  have hlocks := B.notSynchronized
  have hS : va_S A s.heap s.heap [] := va_S.rf
  have hN : tw_le τ0 ad τ0 ad := tw_le.rf
  have hl := lv_entry ([.ref (ad 0 k0), .int x1]) (n := 2) (Nat.le_of_ble_eq_true rfl)
  rw [lg_entry_eq]
  generalize (lg_sl ([.ref (ad 0 k0), .int x1]) ++ List.replicate (2 - (lg_sl ([.ref (ad 0 k0), .int x1])).length) Slot.unset).toArray = ls at hl ⊢
  have hl : lv_has ls 2 [(0, .ref (ad 0 k0)), (1, .int x1)] := hl
  unfold F_X9_sheet at hF
  refine lv_iload_n hx hb dX9_sheet_0 rfl (lv_at hl 1 rfl) ?_
  refine lv_i2l (v := x1.toInt64) hx hb dX9_sheet_1 rfl ?_
  refine lv_lconst (v := 0) hx hb dX9_sheet_2 (by decide) ?_
  refine lv_ldc2 (v := 2) hx hb hown (hts (.constantLong RX9 88 2) (by decide +kernel)) dX9_sheet_3 ?_
  refine va_calli (va_runS (As := [.long x1.toInt64, .long ((0 : Int64)), .long ((2 : Int64))]) (rest := []) ⟨hx, hb, hml, hown, hts⟩ (mX9_isWithin l dC dI ac sa A ad τ0 x1.toInt64 ((0 : Int64)) ((2 : Int64)) _ hF ) (va_cwS 3 hts gX9_sheet_X9_isWithin rfl rfl rfl (by decide +kernel) ⟨Nat.le_of_ble_eq_true rfl, Nat.le_of_ble_eq_true rfl⟩) ⟨BX.blind, fun U hU hW => ⟨rfl, BX.of hP hK hS hA hZ hU hW⟩⟩ rfl rfl hl.1 rfl (lv_room (Nat.le_of_ble_eq_true rfl)) dX9_sheet_6 ⟨Nat.le_of_ble_eq_true rfl, Nat.le_of_ble_eq_true rfl⟩) hS (fun q _ h => h) (fun q h => h) (fun r2 τ1 t H locs ht hvm hw hB hz hk hS => ?_)
  obtain ⟨hF, hN9⟩ := hw
  have hP : PX dC dI ac A ad τ1 H := tw_back hB ht
  have hN : tw_le τ0 ad τ1 ad := hN.same hN9
  have hk0 : k0 < gN τ1 0 := by rw [hN9]; exact hk0
  refine lv_if_ne (tgt := 23) hx hb dX9_sheet_9 (by decide) (fun c3 => ?_) (fun c3 => ?_)
  · have hF := hF.1 c3
    refine lv_aload_n hx hb dX9_sheet_23 rfl (lv_at hl 0 rfl) ?_
    refine tw_get (v := .int (gI τ1 0 k0 14)) hx hb hts (by decide +kernel) hown hK hP (by decide) hk0 rfl rfl 14 (by decide) (hts (.fieldLink RX9 82 "WineCellar" "sheetCount" "I") (by decide +kernel)) (fun _ h9 => h9) rfl dX9_sheet_24 ?_
    refine lv_iconst (v := 4) hx hb dX9_sheet_27 (by decide) ?_
    refine lv_icmp_lt (tgt := 33) hx hb dX9_sheet_28 (by decide) (fun c4 => ?_) (fun c4 => ?_)
    · have hF := hF.1 c4
      refine lv_aload_n hx hb dX9_sheet_33 rfl (lv_at hl 0 rfl) ?_
      obtain ⟨o5, eo5, hF⟩ := hF
      have ho5 : o5 < gN τ1 4 := hP.2.2.2 0 k0 3 o5 (by decide) hk0 eo5
      refine tw_get (v := .ref (ad 4 o5)) hx hb hts (by decide +kernel) hown hK hP (by decide) hk0 rfl rfl 3 (by decide) (hts (.fieldLink RX9 29 "WineCellar" "sheets" "[LWineCellar$Sheet;") (by decide +kernel)) (fun _ h9 => h9) (show some (va_rf ((gR τ1 0 k0 3).map (ad 4))) = some (.ref (ad 4 o5)) by rw [eo5]; rfl) dX9_sheet_34 ?_
      refine lv_aload_n hx hb dX9_sheet_37 rfl (lv_at hl 0 rfl) ?_
      refine tw_get (v := .int (gI τ1 0 k0 14)) hx hb hts (by decide +kernel) hown hK hP (by decide) hk0 rfl rfl 14 (by decide) (hts (.fieldLink RX9 82 "WineCellar" "sheetCount" "I") (by decide +kernel)) (fun _ h9 => h9) rfl dX9_sheet_38 ?_
      refine tw_new (f := 23) (fs := [.null, .null, .int 0]) hx hb hts (by decide +kernel) tyX6 tyX6_ok hown (hts (.classLink RX9 27 RX6) (by decide +kernel)) (hts (.instantiable RX6 3) (by decide +kernel)) (hts (.initialized RX6) (by decide +kernel)) hK hP hS hA (by decide) (fun _ => rfl) rfl (fun j hj => by rcases (show j = 0 ∨ j = 1 ∨ j = 2 by omega) with rfl | rfl | rfl <;> rfl) (Nat.le_of_ble_eq_true rfl) (Nat.le_of_ble_eq_true rfl) dX9_sheet_41 (fun ad6 H hP hle hS => ?_)
      obtain ⟨τ7, eτ7⟩ : ∃ y : tw_T, y = nW τ1 23 1 := ⟨_, rfl⟩
      have hF := hF τ7 eτ7
      rw [← eτ7] at hP hle
      have hl : lv_has ls 2 [(0, .ref (ad6 0 k0)), (1, .int x1)] := by rw [hle.2 0 k0 hk0]; exact hl
      refine W.eq (g2 := F0 m 44 ls [.ref (ad6 23 (gN τ1 23)), .int (gI τ1 0 k0 14), .ref (ad6 4 o5)]) (by rw [hle.2 4 o5 ho5]) ?_
      have hk0 : k0 < gN τ7 0 := Nat.lt_of_lt_of_le hk0 (hle.1 0)
      have ho5 : o5 < gN τ7 4 := Nat.lt_of_lt_of_le ho5 (hle.1 4)
      have hN : tw_le τ0 ad τ7 ad6 := hN.tr hle
      have hq8 : gN τ1 23 < gN τ7 23 := by rw [eτ7, gN_nW, if_pos rfl]; exact Nat.lt_succ_self _
      refine lv_dup hx hb dX9_sheet_44 rfl ?_
      refine lv_iload_n hx hb dX9_sheet_45 rfl (lv_at hl 1 rfl) ?_
      refine va_callv (va_runI (As := [.int x1]) (rest := [.ref (ad6 23 (gN τ1 23)), .int (gI τ1 0 k0 14), .ref (ad6 4 o5)]) ⟨hx, hb, hml, hown, hts⟩ (mX6_init l dC dI ac sa A ad6 τ7 (gN τ1 23) x1 _ hF hq8) (cwI 1 hts gX9_sheet_X6_init rfl rfl rfl (hts (.initialized RX6) (by decide +kernel)) (hts (.methodLink RX9 307 yX6_init) (by decide +kernel)) (hts (.instanceMethod yX6_init) (by decide +kernel)) rfl (by decide +kernel) ⟨Nat.le_of_ble_eq_true rfl, Nat.le_of_ble_eq_true rfl⟩) ⟨BX.blind, fun U hU hW => ⟨rfl, BX.of hP hK hS hA hZ hU hW⟩⟩ rfl rfl hl.1 rfl (lv_room (Nat.le_of_ble_eq_true rfl)) dX9_sheet_46 ⟨Nat.le_of_ble_eq_true rfl, Nat.le_of_ble_eq_true rfl⟩) hS (fun q _ h => h) (fun q h => h) (fun u9 t H locs ht hvm hw hB hz hk hS => ?_)
      obtain ⟨τ9, adτ9⟩ := u9
      obtain ⟨hF, hN9⟩ := hw
      try dsimp only at hF hN9 hB
      have hP : PX dC dI ac A adτ9 τ9 H := tw_back hB ht
      have hl : lv_has ls 2 [(0, .ref (adτ9 0 k0)), (1, .int x1)] := by rw [hN9.2 0 k0 hk0]; exact hl
      refine W.eq (g2 := F0 m 49 ls [.ref (adτ9 23 (gN τ1 23)), .int (gI τ1 0 k0 14), .ref (adτ9 4 o5)]) (by rw [hN9.2 23 (gN τ1 23) hq8, hN9.2 4 o5 ho5]) ?_
      have hk0 : k0 < gN τ9 0 := Nat.lt_of_lt_of_le hk0 (hN9.1 0)
      have hq8 : gN τ1 23 < gN τ9 23 := Nat.lt_of_lt_of_le hq8 (hN9.1 23)
      have ho5 : o5 < gN τ9 4 := Nat.lt_of_lt_of_le ho5 (hN9.1 4)
      have hN : tw_le τ0 ad τ9 adτ9 := hN.tr hN9
      obtain ⟨hi10, hF⟩ := hF
      refine tw_aast hx hb hK hP hS (by decide) ho5 rfl (by decide) hq8 rfl rfl 6 rfl (fun _ => rfl) hi10 dX9_sheet_49 (fun H locs hP hS => ?_)
      obtain ⟨τ11, eτ11⟩ : ∃ y : tw_T, y = sR τ9 4 o5 (gI τ1 0 k0 14).toNatClampNeg (some (gN τ1 23)) := ⟨_, rfl⟩
      have hF := hF τ11 eτ11
      rw [← eτ11] at hP
      have hN : tw_le τ0 ad τ11 adτ9 := hN.same (by rw [eτ11]; rfl)
      have hk0 : k0 < gN τ11 0 := by rw [eτ11]; exact hk0
      refine lv_aload_n hx hb dX9_sheet_50 rfl (lv_at hl 0 rfl) ?_
      refine lv_dup hx hb dX9_sheet_51 rfl ?_
      refine tw_get (v := .int (gI τ11 0 k0 14)) hx hb hts (by decide +kernel) hown hK hP (by decide) hk0 rfl rfl 14 (by decide) (hts (.fieldLink RX9 82 "WineCellar" "sheetCount" "I") (by decide +kernel)) (fun _ h9 => h9) rfl dX9_sheet_52 ?_
      refine lv_iconst (v := 1) hx hb dX9_sheet_55 (by decide) ?_
      refine lv_iadd hx hb dX9_sheet_56 ?_
      refine tw_put (τ' := sI τ11 0 k0 14 ((gI τ11 0 k0 14) + ((1 : Int32)))) (ty := .int) hx hb hts (by decide +kernel) tyX9 tyX9_ok nmX9 hown hK hP hS (by decide) hk0 rfl rfl 14 (by decide) (hts (.fieldLink RX9 82 "WineCellar" "sheetCount" "I") (by decide +kernel)) (fun _ h9 => h9) rfl (by decide +kernel) rfl rfl (Nat.le_of_ble_eq_true rfl) dX9_sheet_57 (fun H1 ha ho => tw_updI hP (by decide) hk0 ha ho) (fun H locs hP hS => ?_)
      obtain ⟨τ12, eτ12⟩ : ∃ y : tw_T, y = sI τ11 0 k0 14 ((gI τ11 0 k0 14) + ((1 : Int32))) := ⟨_, rfl⟩
      have hF := hF τ12 eτ12
      rw [← eτ12] at hP
      have hN : tw_le τ0 ad τ12 adτ9 := hN.same (by rw [eτ12]; rfl)
      have hk0 : k0 < gN τ12 0 := by rw [eτ12]; exact hk0
      refine lv_aload_n hx hb dX9_sheet_60 rfl (lv_at hl 0 rfl) ?_
      refine tw_get (v := .int (gI τ12 0 k0 14)) hx hb hts (by decide +kernel) hown hK hP (by decide) hk0 rfl rfl 14 (by decide) (hts (.fieldLink RX9 82 "WineCellar" "sheetCount" "I") (by decide +kernel)) (fun _ h9 => h9) rfl dX9_sheet_61 ?_
      refine lv_iconst (v := 1) hx hb dX9_sheet_64 (by decide) ?_
      refine lv_isub hx hb dX9_sheet_65 ?_
      exact vx_ret (W.iret (v := (gI τ12 0 k0 14) - ((1 : Int32))) hx hb hr (fun t ht hW => ⟨⟨((gI τ12 0 k0 14) - ((1 : Int32))), (τ12, adτ9), rfl, ⟨hF, hN⟩, tw_at hP ht⟩, hS.F ht⟩) hS.2.2 dX9_sheet_66)
    · have hF := hF.2 c4
      refine lv_iconst (v := (-1)) hx hb dX9_sheet_31 (by decide) ?_
      refine W.widen (k := 13) (n := 423) (by decide) (by decide) ?_
      exact vx_ret (W.iret (v := (-1 : Int32)) hx hb hr (fun t ht hW => ⟨⟨((-1 : Int32)), (τ1, ad), rfl, ⟨hF, hN⟩, tw_at hP ht⟩, hS.F ht⟩) hS.2.2 dX9_sheet_32)
  · have hF := hF.2 c3
    exact vx_throwSW (names := zx_names) hx hb hlt hown (by decide +kernel) (by decide +kernel) (hts (.classLink RX9 96 "java/lang/IllegalArgumentException") (by decide +kernel)) (hts (.initialized "java/lang/IllegalArgumentException") (by decide +kernel)) (hZ.2.2.1 (305, "no such width", 42) (by decide +kernel)) (zx_hat0 hts (by decide +kernel) hZ.2.2.2.2.2) zx_ot0 hZ.2.1.1 hZ.2.1.2 hS (hl.1.trans hml.symm) dX9_sheet_12 dX9_sheet_15 dX9_sheet_16 dX9_sheet_19 dX9_sheet_22 (fun x9 hx9 => (htab x9 hx9).elim) (Nat.le_of_ble_eq_true rfl) (Nat.le_of_ble_eq_true rfl) (Nat.le_of_ble_eq_true rfl) (Nat.le_of_ble_eq_true rfl) hlocks (fun t hvm hz hk => ⟨(0, τ1, ad), ⟨hF, hN⟩, ⟨rfl, (tw_thrown hP hS hz hk).1⟩, (tw_thrown hP hS hz hk).2⟩) hS.2.2 (by decide) (by decide)
def L_X9_deliver_25 (p0 : Nat) (u2 : Int32) (p3 : Nat) (Q : Int32 → tw_T → Prop) (X : Nat → tw_T → Prop) (EX : tw_T → Int32 → Int32 → Prop) : Nat → tw_T → Int32 → Int32 → Prop
  | 0, _, _, _ => False
  | n + 1, τ, u4, u5 => ∃ o1 : Nat, gR τ 23 p3 1 = some o1 ∧ (vp_in u2 10 ∧ ((((gI τ 35 o1 u2.toNatClampNeg) < (u5 + ((5 : Int32))) → (EX τ u4 u5)) ∧ (¬ (gI τ 35 o1 u2.toNatClampNeg) < (u5 + ((5 : Int32))) → (∃ o4 : Nat, gR τ 23 p3 0 = some o4 ∧ (vp_in u2 10 ∧ (∃ o5 : Nat, gR τ 34 o4 u2.toNatClampNeg = some o5 ∧ (F_X9_takesFive τ p0 o5 u5 (fun (r8 : Int32) (τ7 : tw_T) => (((¬ r8 = 0 → (∀ z10 : Int32, z10 = u4 + (1 : Int32) → (∀ z11 : Int32, z11 = u5 + (5 : Int32) → (L_X9_deliver_25 p0 u2 p3 Q X EX n τ7 z10 z11)))) ∧ (r8 = 0 → (EX τ7 u4 u5)))))))))))))
def F_X9_deliver (τ0 : tw_T) (k0 : Nat) (x1 : Int32) (x2 : Int32) (Q : Int32 → tw_T → Prop) (X : Nat → tw_T → Prop) : Prop := F_X9_sheetWithRow τ0 k0 x1 x2 (fun (o13 : Nat) (τ12 : tw_T) => (∃ o14 : Nat, gR τ12 23 o13 1 = some o14 ∧ (vp_in x2 10 ∧ (((¬ (gI τ12 35 o14 x2.toNatClampNeg) = ((-1 : Int32)) → (∃ n17 : Nat, n17 ≤ 9 ∧ L_X9_deliver_25 k0 x2 o13 Q X (fun (τ18 : tw_T) (z19 : Int32) (z20 : Int32) => Q z19 τ18) n17 τ12 ((0 : Int32)) ((0 : Int32)))) ∧ ((gI τ12 35 o14 x2.toNatClampNeg) = ((-1 : Int32)) → (Q ((-1 : Int32)) τ12))))))) X
def rmX9_deliver : Room := { frames := 7, cells := 12, slots := 94, locals := 104 }
set_option maxHeartbeats 4000000 in
set_option maxRecDepth 100000 in
theorem mX9_deliver (l : Launch) (hlt : l.stackTraces = false) (dC : Nat → ClassId) (dI : Nat → Nat → Nat) (ac : Nat → ClassId) (sa : Nat → Nat) (A : Nat → Prop) (ad : Nat → Nat → Nat) (τ0 : tw_T) (k0 : Nat) (x1 : Int32) (x2 : Int32) (Q : Int32 → tw_T → Prop) (X : Nat → tw_T → Prop) (hF : F_X9_deliver τ0 k0 x1 x2 Q X) (hk0 : k0 < gN τ0 0) : vx_Met l yX9_deliver wsX9_deliver rmX9_deliver (va_Pc [.ref (ad 0 k0), .int x1, .int x2] (BX dC dI ac sa A ad τ0)) (va_Qi (fun r (u : tw_T × (Nat → Nat → Nat)) => Q r u.1 ∧ tw_le τ0 ad u.1 u.2) (fun (u : tw_T × (Nat → Nat → Nat)) t => PX dC dI ac A u.2 u.1 t.heap) A) (vx_X (fun (u : Nat × tw_T × (Nat → Nat → Nat)) => X u.1 u.2.1 ∧ tw_le τ0 ad u.2.1 u.2.2) (fun E u t => E = exn u.1 ∧ PX dC dI ac A u.2.2 u.2.1 t.heap) A) 12 94 A := by
  refine vx_ofW (cc := cX9_deliver) (maxL := 6) (ret := (some .int)) (by decide) rfl ?_
  intro p e s m args below meth c s₁ B hml htab hv
  obtain ⟨rfl, hP, hK, hA, hZ⟩ := hv
  have hx := B.exec
  have hb := B.bytes
  have hr := B.returns
  have hts := atoms_spec (ws := wsX9_deliver) B.pre
  have hown : s.vm.findClass RX9 = some m.cls := findClass_of_methodNamed B.named
  have hlocks := B.notSynchronized
  have hS : va_S A s.heap s.heap [] := va_S.rf
  have hN : tw_le τ0 ad τ0 ad := tw_le.rf
  have hl := lv_entry ([.ref (ad 0 k0), .int x1, .int x2]) (n := 6) (Nat.le_of_ble_eq_true rfl)
  rw [lg_entry_eq]
  generalize (lg_sl ([.ref (ad 0 k0), .int x1, .int x2]) ++ List.replicate (6 - (lg_sl ([.ref (ad 0 k0), .int x1, .int x2])).length) Slot.unset).toArray = ls at hl ⊢
  have hl : lv_has ls 6 [(0, .ref (ad 0 k0)), (1, .int x1), (2, .int x2)] := hl
  unfold F_X9_deliver at hF
  have l25 : ∀ (p0 : Nat) (u2 : Int32) (p3 : Nat) (EX : tw_T → Int32 → Int32 → Prop) (n : Nat) (bd : Nat → Nat → Nat) (τ : tw_T) (u4 : Int32) (u5 : Int32) (hp0 : p0 < gN τ 0) (hp3 : p3 < gN τ 23) (H : Heap) (locs : List Loc) (ls : Array Slot), n ≤ 9 → L_X9_deliver_25 p0 u2 p3 Q X EX n τ u4 u5 → PX dC dI ac A bd τ H → tw_le τ0 ad τ bd → va_S A s.heap H locs → lv_has ls 6 [(0, .ref (bd 0 p0)), (2, .int u2), (3, .ref (bd 23 p3)), (4, .int u4), (5, .int u5)] → (∀ (bd : Nat → Nat → Nat) (τ : tw_T) (u4 : Int32) (u5 : Int32) (H : Heap) (locs : List Loc) (ls : Array Slot), EX τ u4 u5 → PX dC dI ac A bd τ H → tw_le τ0 ad τ bd → va_S A s.heap H locs → lv_has ls 6 [(0, .ref (bd 0 p0)), (2, .int u2), (3, .ref (bd 23 p3)), (4, .int u4), (5, .int u5)] → W p l e rmX9_deliver s m ([.ref (ad 0 k0), .int x1, .int x2] : List Value).toArray below meth c H locs 11 86 (vx_MQ below (va_Qi (fun r (u : tw_T × (Nat → Nat → Nat)) => Q r u.1 ∧ tw_le τ0 ad u.1 u.2) (fun (u : tw_T × (Nat → Nat → Nat)) t => PX dC dI ac A u.2 u.1 t.heap) A) (vx_X (fun (u : Nat × tw_T × (Nat → Nat → Nat)) => X u.1 u.2.1 ∧ tw_le τ0 ad u.2.1 u.2.2) (fun E u t => E = exn u.1 ∧ PX dC dI ac A u.2.2 u.2.1 t.heap) A) ([.ref (ad 0 k0), .int x1, .int x2] : List Value).toArray s 12 94 A) (F0 m 65 ls [])) → W p l e rmX9_deliver s m ([.ref (ad 0 k0), .int x1, .int x2] : List Value).toArray below meth c H locs (1 + (9 - n) * 1) (6 + (9 - n) * 8) (vx_MQ below (va_Qi (fun r (u : tw_T × (Nat → Nat → Nat)) => Q r u.1 ∧ tw_le τ0 ad u.1 u.2) (fun (u : tw_T × (Nat → Nat → Nat)) t => PX dC dI ac A u.2 u.1 t.heap) A) (vx_X (fun (u : Nat × tw_T × (Nat → Nat → Nat)) => X u.1 u.2.1 ∧ tw_le τ0 ad u.2.1 u.2.2) (fun E u t => E = exn u.1 ∧ PX dC dI ac A u.2.2 u.2.1 t.heap) A) ([.ref (ad 0 k0), .int x1, .int x2] : List Value).toArray s 12 94 A) (F0 m 25 ls []) := by
    intro p0 u2 p3 EX n
    induction n with
    | zero => intro bd τ u4 u5 hp0 hp3 H locs ls hBn hF; exact hF.elim
    | succ n ih =>
      intro bd τ u4 u5 hp0 hp3 H locs ls hBn hF hP hN hS hl hEX
      rw [L_X9_deliver_25] at hF
      refine lv_iload hx hb dX9_deliver_25 (lv_at hl 4 rfl) ?_
      refine lv_iconst (v := 5) hx hb dX9_deliver_27 (by decide) ?_
      refine lv_iadd hx hb dX9_deliver_28 ?_
      refine lv_aload_n hx hb dX9_deliver_29 rfl (lv_at hl 2 rfl) ?_
      obtain ⟨o1, eo1, hF⟩ := hF
      have ho1 : o1 < gN τ 35 := hP.2.2.2 23 p3 1 o1 (by decide) hp3 eo1
      refine tw_get (v := .ref (bd 35 o1)) hx hb hts (by decide +kernel) hown hK hP (by decide) hp3 rfl rfl 1 (by decide) (hts (.fieldLink RX9 318 "WineCellar$Sheet" "lengths" "[I") (by decide +kernel)) (fun _ h9 => h9) (show some (va_rf ((gR τ 23 p3 1).map (bd 35))) = some (.ref (bd 35 o1)) by rw [eo1]; rfl) dX9_deliver_30 ?_
      refine lv_iload_n hx hb dX9_deliver_33 rfl (lv_at hl 1 rfl) ?_
      obtain ⟨hi2, hF⟩ := hF
      refine tw_iald hx hb hK hP (by decide) ho1 rfl 0 rfl hi2 dX9_deliver_34 ?_
      refine lv_icmp_gt (tgt := 65) hx hb dX9_deliver_35 (by decide) (fun c3 => ?_) (fun c3 => ?_)
      · have hF := hF.1 c3
        refine W.widen (k := 11) (n := 86) (by omega) (by omega) ?_
        exact hEX bd τ u4 u5 _ _ _ hF hP hN hS (lv_sub hl [0, 1, 2, 3, 4] rfl)
      · have hF := hF.2 c3
        refine lv_aload_n hx hb dX9_deliver_38 rfl (lv_at hl 0 rfl) ?_
        refine lv_aload_n hx hb dX9_deliver_39 rfl (lv_at hl 2 rfl) ?_
        obtain ⟨o4, eo4, hF⟩ := hF
        have ho4 : o4 < gN τ 34 := hP.2.2.2 23 p3 0 o4 (by decide) hp3 eo4
        refine tw_get (v := .ref (bd 34 o4)) hx hb hts (by decide +kernel) hown hK hP (by decide) hp3 rfl rfl 0 (by decide) (hts (.fieldLink RX9 321 "WineCellar$Sheet" "rows" "[[J") (by decide +kernel)) (fun _ h9 => h9) (show some (va_rf ((gR τ 23 p3 0).map (bd 34))) = some (.ref (bd 34 o4)) by rw [eo4]; rfl) dX9_deliver_40 ?_
        refine lv_iload_n hx hb dX9_deliver_43 rfl (lv_at hl 1 rfl) ?_
        obtain ⟨hi6, o5, eo5, hF⟩ := hF
        have ho5 : o5 < gN τ 36 := hP.2.2.2 34 o4 _ o5 (by decide) ho4 eo5
        refine tw_aald hx hb hK hP (by decide) ho4 rfl 9 rfl rfl (fun _ => rfl) hi6 dX9_deliver_44 ?_
        refine W.eq (g2 := F0 m 45 ls [.ref (bd 36 o5), .ref (bd 0 p0)]) (by rw [eo5]; rfl) ?_
        refine lv_iload hx hb dX9_deliver_45 (lv_at hl 4 rfl) ?_
        refine va_calli (va_runV (As := [.ref (bd 36 o5), .int u5]) (rest := []) ⟨hx, hb, hml, hown, hts⟩ (mX9_takesFive l dC dI ac sa A bd τ p0 o5 u5 _ hF hp0 ho5) (cwV 2 hts gX9_deliver_X9_takesFive rfl rfl rfl (by decide +kernel) ⟨Nat.le_of_ble_eq_true rfl, Nat.le_of_ble_eq_true rfl⟩) ⟨BX.blind, tw_recv hK hP (by decide) hp0 rfl rfl, fun U hU hW => ⟨rfl, BX.of hP hK hS hA hZ hU hW⟩⟩ rfl rfl hl.1 rfl (lv_room (Nat.le_of_ble_eq_true rfl)) dX9_deliver_47 ⟨(by show 1 + (9 - (n + 1)) * 1 + 1 ≤ 12; omega), (by show 6 + (9 - (n + 1)) * 8 + 8 ≤ 94; omega)⟩) hS (fun q _ h => h) (fun q h => h) (fun r8 u9 t H locs ht hvm hw hB hz hk hS => ?_)
        obtain ⟨τ7, adτ7⟩ := u9
        obtain ⟨hF, hN9⟩ := hw
        try dsimp only at hF hN9 hB
        have hP : PX dC dI ac A adτ7 τ7 H := tw_back hB ht
        have hl : lv_has ls 6 [(0, .ref (adτ7 0 p0)), (2, .int u2), (3, .ref (adτ7 23 p3)), (4, .int u4), (5, .int u5)] := by rw [hN9.2 0 p0 hp0, hN9.2 23 p3 hp3]; exact hl
        have hp0 : p0 < gN τ7 0 := Nat.lt_of_lt_of_le hp0 (hN9.1 0)
        have hp3 : p3 < gN τ7 23 := Nat.lt_of_lt_of_le hp3 (hN9.1 23)
        have hN : tw_le τ0 ad τ7 adτ7 := hN.tr hN9
        refine lv_if_ne (tgt := 56) hx hb dX9_deliver_50 (by decide) (fun c9 => ?_) (fun c9 => ?_)
        · have hF := hF.1 c9
          obtain ⟨z10, ez10⟩ : ∃ y : Int32, y = u4 + (1 : Int32) := ⟨_, rfl⟩
          have hF := hF z10 ez10
          refine lv_iinc (v := z10) (lv' := [(4, .int z10), (0, .ref (adτ7 0 p0)), (2, .int u2), (3, .ref (adτ7 23 p3)), (5, .int u5)]) hx hb dX9_deliver_56 hl (k := 3) rfl (by rw [ez10]; rfl) (by decide) rfl (fun ls hl => ?_)
          obtain ⟨z11, ez11⟩ : ∃ y : Int32, y = u5 + (5 : Int32) := ⟨_, rfl⟩
          have hF := hF z11 ez11
          refine lv_iinc (v := z11) (lv' := [(5, .int z11), (4, .int z10), (0, .ref (adτ7 0 p0)), (2, .int u2), (3, .ref (adτ7 23 p3))]) hx hb dX9_deliver_59 hl (k := 4) rfl (by rw [ez11]; rfl) (by decide) rfl (fun ls hl => ?_)
          refine lv_goto (tgt := 25) hx hb dX9_deliver_62 (by decide) ?_
          refine W.widen (k := 1 + (9 - n) * 1) (n := 6 + (9 - n) * 8) (by omega) (by omega) ?_
          exact ih adτ7 τ7 z10 z11 hp0 hp3 _ _ _ (by omega) hF hP hN hS (lv_sub hl [2, 3, 4, 1, 0] rfl) hEX
        · have hF := hF.2 c9
          refine lv_goto (tgt := 65) hx hb dX9_deliver_53 (by decide) ?_
          refine W.widen (k := 11) (n := 86) (by omega) (by omega) ?_
          exact hEX adτ7 τ7 u4 u5 _ _ _ hF hP hN hS (lv_sub hl [0, 1, 2, 3, 4] rfl)
  refine lv_aload_n hx hb dX9_deliver_0 rfl (lv_at hl 0 rfl) ?_
  refine lv_iload_n hx hb dX9_deliver_1 rfl (lv_at hl 1 rfl) ?_
  refine lv_iload_n hx hb dX9_deliver_2 rfl (lv_at hl 2 rfl) ?_
  refine vx_callr (vx_runV (As := [.int x1, .int x2]) (rest := []) ⟨hx, hb, hml, hown, hts⟩ (mX9_sheetWithRow l hlt dC dI ac sa A ad τ0 k0 x1 x2 _ _ hF hk0) (cwV 2 hts gX9_deliver_X9_sheetWithRow rfl rfl rfl (by decide +kernel) ⟨Nat.le_of_ble_eq_true rfl, Nat.le_of_ble_eq_true rfl⟩) ⟨BX.blind, tw_recv hK hP (by decide) hk0 rfl rfl, fun U hU hW => ⟨rfl, BX.of hP hK hS hA hZ hU hW⟩⟩ rfl rfl hl.1 rfl (lv_room (Nat.le_of_ble_eq_true rfl)) dX9_deliver_3 ⟨Nat.le_of_ble_eq_true rfl, Nat.le_of_ble_eq_true rfl⟩) hS (fun q _ h => h) (fun q h => h) (fun q _ h => h) (fun E9 ce9 q9 u9 t9 H locs ht hvm hpx hBX hz9 hk9 hS hce hcv hcl => ?_) (fun u9 ra9 t H locs ht hvm hw hB hz hk hS => ?_)
  · obtain ⟨ec9, τ9⟩ := u9
    obtain ⟨hF9, hN9⟩ := hpx
    obtain ⟨rfl, hP9⟩ := hBX
    exact vx_out (fun x9 hx9 => (htab x9 hx9).elim) hlocks hce hcv hcl (fun t2 ht2 hvm2 => ⟨(ec9, τ9, ad), ⟨hF9, hN.same hN9⟩, ⟨rfl, tw_at (tw_back hP9 ht) ht2⟩, hS.F ht2⟩) hS.2.2 (by decide) (by decide)
  obtain ⟨τ12, o13⟩ := u9
  obtain ⟨hF, ho13, hN9⟩ := hw
  obtain ⟨rfl, hB⟩ := hB
  try dsimp only at hF ho13 hN9 hB ⊢
  have ho13 : o13 < gN τ12 23 := by rw [hN9]; exact ho13
  have hP : PX dC dI ac A ad τ12 H := tw_back hB ht
  have hN : tw_le τ0 ad τ12 ad := hN.same hN9
  have hk0 : k0 < gN τ12 0 := by rw [hN9]; exact hk0
  refine lv_astore_n (lv' := [(3, .ref (ad 23 o13)), (0, .ref (ad 0 k0)), (1, .int x1), (2, .int x2)]) hx hb dX9_deliver_6 rfl hl (by decide) rfl (fun ls hl => ?_)
  refine lv_aload_n hx hb dX9_deliver_7 rfl (lv_at hl 0 rfl) ?_
  obtain ⟨o14, eo14, hF⟩ := hF
  have ho14 : o14 < gN τ12 35 := hP.2.2.2 23 o13 1 o14 (by decide) ho13 eo14
  refine tw_get (v := .ref (ad 35 o14)) hx hb hts (by decide +kernel) hown hK hP (by decide) ho13 rfl rfl 1 (by decide) (hts (.fieldLink RX9 318 "WineCellar$Sheet" "lengths" "[I") (by decide +kernel)) (fun _ h9 => h9) (show some (va_rf ((gR τ12 23 o13 1).map (ad 35))) = some (.ref (ad 35 o14)) by rw [eo14]; rfl) dX9_deliver_8 ?_
  refine lv_iload_n hx hb dX9_deliver_11 rfl (lv_at hl 3 rfl) ?_
  obtain ⟨hi15, hF⟩ := hF
  refine tw_iald hx hb hK hP (by decide) ho14 rfl 0 rfl hi15 dX9_deliver_12 ?_
  refine lv_iconst (v := (-1)) hx hb dX9_deliver_13 (by decide) ?_
  refine lv_icmp_ne (tgt := 19) hx hb dX9_deliver_14 (by decide) (fun c16 => ?_) (fun c16 => ?_)
  · have hF := hF.1 c16
    refine lv_iconst (v := 0) hx hb dX9_deliver_19 (by decide) ?_
    refine lv_istore (lv' := [(4, .int ((0 : Int32))), (3, .ref (ad 23 o13)), (0, .ref (ad 0 k0)), (1, .int x1), (2, .int x2)]) hx hb dX9_deliver_20 hl (by decide) rfl (fun ls hl => ?_)
    refine lv_iconst (v := 0) hx hb dX9_deliver_22 (by decide) ?_
    refine lv_istore (lv' := [(5, .int ((0 : Int32))), (4, .int ((0 : Int32))), (3, .ref (ad 23 o13)), (0, .ref (ad 0 k0)), (1, .int x1), (2, .int x2)]) hx hb dX9_deliver_23 hl (by decide) rfl (fun ls hl => ?_)
    obtain ⟨n17, hBn, hF⟩ := hF
    refine W.widen (k := 1 + (9 - n17) * 1) (n := 6 + (9 - n17) * 8) (by omega) (by omega) ?_
    refine l25 k0 x2 o13 _ n17 ad τ12 ((0 : Int32)) ((0 : Int32)) hk0 ho13 _ _ _ hBn hF hP hN hS (lv_sub hl [3, 5, 2, 1, 0] rfl) ?_
    intro bd τ18 z19 z20 H locs ls hF hP hN hS hl
    refine lv_iload hx hb dX9_deliver_65 (lv_at hl 3 rfl) ?_
    refine W.widen (k := 12) (n := 94) (by decide) (by decide) ?_
    exact vx_ret (W.iret (v := z19) hx hb hr (fun t ht hW => ⟨⟨z19, (τ18, bd), rfl, ⟨hF, hN⟩, tw_at hP ht⟩, hS.F ht⟩) hS.2.2 dX9_deliver_67)
  · have hF := hF.2 c16
    refine lv_iconst (v := (-1)) hx hb dX9_deliver_17 (by decide) ?_
    refine W.widen (k := 12) (n := 94) (by decide) (by decide) ?_
    exact vx_ret (W.iret (v := (-1 : Int32)) hx hb hr (fun t ht hW => ⟨⟨((-1 : Int32)), (τ12, ad), rfl, ⟨hF, hN⟩, tw_at hP ht⟩, hS.F ht⟩) hS.2.2 dX9_deliver_18)
