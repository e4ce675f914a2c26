def F_X1_init (τ0 : tw_T) (k0 : Nat) (x1 : Int32) (x2 : Int32) (x3 : Int32) (x4 : Int32) (x5 : Int32) (Q : tw_T → Prop) : Prop := ∀ τ1 : tw_T, τ1 = sI τ0 20 k0 0 x1 → (∀ τ2 : tw_T, τ2 = sI τ1 20 k0 1 x2 → (tw_b x3 ∧ (∀ τ3 : tw_T, τ3 = sI τ2 20 k0 2 x3 → (∀ τ4 : tw_T, τ4 = sI τ3 20 k0 3 x4 → (∀ τ5 : tw_T, τ5 = sI τ4 20 k0 4 x5 → (Q τ5))))))
def rmX1_init : Room := { frames := 1, cells := 0, slots := 0, locals := 12 }
set_option maxHeartbeats 4000000 in
set_option maxRecDepth 100000 in
theorem mX1_init (l : Launch) (dC : Nat → ClassId) (dI : Nat → Nat → Nat) (ac : Nat → ClassId) (sa : Nat → Nat) (A : Nat → Prop) (ad : Nat → Nat → Nat) (τ0 : tw_T) (k0 : Nat) (x1 : Int32) (x2 : Int32) (x3 : Int32) (x4 : Int32) (x5 : Int32) (Q : tw_T → Prop) (hF : F_X1_init τ0 k0 x1 x2 x3 x4 x5 Q) (hk0 : k0 < gN τ0 20) : Met l yX1_init wsX1_init rmX1_init (va_Pc [.ref (ad 20 k0), .int x1, .int x2, .int x3, .int x4, .int x5] (BX dC dI ac sa A ad τ0)) (va_Qv (fun (u : tw_T) => Q u ∧ gN u = gN τ0) (fun u t => PX dC dI ac A ad u t.heap) A) 0 0 A := by
  refine Met.ofW (cc := cX1_init) (maxL := 6) (ret := none) (by decide) rfl ?_
  intro p e s m args below meth c s₁ B hml hv
  obtain ⟨rfl, hP, hK, hA, hZ⟩ := hv
  have hx := B.exec
  have hb := B.bytes
  have hr := B.returns
  have hts := atoms_spec (ws := wsX1_init) B.pre
  have hown : s.vm.findClass RX1 = some m.cls := findClass_of_methodNamed B.named
  have hlocks := B.notSynchronized
  have hin : meth.name = "<init>" := (name_of_methodNamed B.named B.method).1
  have hS : va_S A s.heap s.heap [] := va_S.rf
  have hN : gN τ0 = gN τ0 := rfl
  have hl := lv_entry ([.ref (ad 20 k0), .int x1, .int x2, .int x3, .int x4, .int x5]) (n := 6) (Nat.le_of_ble_eq_true rfl)
  rw [lg_entry_eq]
  generalize (lg_sl ([.ref (ad 20 k0), .int x1, .int x2, .int x3, .int x4, .int x5]) ++ List.replicate (6 - (lg_sl ([.ref (ad 20 k0), .int x1, .int x2, .int x3, .int x4, .int x5])).length) Slot.unset).toArray = ls at hl ⊢
  have hl : lv_has ls 6 [(0, .ref (ad 20 k0)), (1, .int x1), (2, .int x2), (3, .int x3), (4, .int x4), (5, .int x5)] := hl
  unfold F_X1_init at hF
  refine lv_aload_n hx hb dX1_init_0 rfl (lv_at hl 0 rfl) ?_
  refine W.objInit hx hb hown (hts (.methodLink RX1 1 objectInit) (by decide +kernel)) (hts (.instanceMethod objectInit) (by decide +kernel)) (hts (.code objectInit ⟨#[0xb1]⟩ 1 none) (by decide +kernel)) rfl (by rw [hml]; exact hl.1) rfl dX1_init_1 (Nat.le_of_ble_eq_true rfl) (Nat.le_of_ble_eq_true rfl) ?_
  refine W.eq (g2 := F0 m 4 ls []) rfl ?_
  refine lv_aload_n hx hb dX1_init_4 rfl (lv_at hl 0 rfl) ?_
  refine lv_iload_n hx hb dX1_init_5 rfl (lv_at hl 1 rfl) ?_
  refine tw_putF (τ' := sI τ0 20 k0 0 x1) (ty := .int) hx hb hts (by decide +kernel) tyX1 tyX1_ok nmX1 hown hK hP hS (by decide) hk0 rfl rfl 0 (by decide) (hts (.fieldLink RX1 7 "WineCellar$Kind" "sort" "I") (by decide +kernel)) (fun _ h9 => h9) rfl hin rfl (by decide +kernel) rfl rfl (Nat.le_of_ble_eq_true rfl) dX1_init_6 (fun H1 ha ho => tw_updI hP (by decide) hk0 ha ho) (fun H locs hP hS => ?_)
  obtain ⟨τ1, eτ1⟩ : ∃ y : tw_T, y = sI τ0 20 k0 0 x1 := ⟨_, rfl⟩
  have hF := hF τ1 eτ1
  rw [← eτ1] at hP
  have hN : gN τ1 = gN τ0 := by rw [eτ1]; exact hN
  refine lv_aload_n hx hb dX1_init_9 rfl (lv_at hl 0 rfl) ?_
  refine lv_iload_n hx hb dX1_init_10 rfl (lv_at hl 2 rfl) ?_
  refine tw_putF (τ' := sI τ1 20 k0 1 x2) (ty := .int) hx hb hts (by decide +kernel) tyX1 tyX1_ok nmX1 hown hK hP hS (by decide) (tw_lt hk0 (congrFun hN 20)) rfl rfl 1 (by decide) (hts (.fieldLink RX1 13 "WineCellar$Kind" "body" "I") (by decide +kernel)) (fun _ h9 => h9) rfl hin rfl (by decide +kernel) rfl rfl (Nat.le_of_ble_eq_true rfl) dX1_init_11 (fun H1 ha ho => tw_updI hP (by decide) (tw_lt hk0 (congrFun hN 20)) ha ho) (fun H locs hP hS => ?_)
  obtain ⟨τ2, eτ2⟩ : ∃ y : tw_T, y = sI τ1 20 k0 1 x2 := ⟨_, rfl⟩
  have hF := hF τ2 eτ2
  rw [← eτ2] at hP
  have hN : gN τ2 = gN τ0 := by rw [eτ2]; exact hN
  refine lv_aload_n hx hb dX1_init_14 rfl (lv_at hl 0 rfl) ?_
  refine lv_iload_n hx hb dX1_init_15 rfl (lv_at hl 3 rfl) ?_
  obtain ⟨hb9, hF⟩ := hF
  refine tw_putF (τ' := sI τ2 20 k0 2 x3) (ty := .boolean) hx hb hts (by decide +kernel) tyX1 tyX1_ok nmX1 hown hK hP hS (by decide) (tw_lt hk0 (congrFun hN 20)) rfl rfl 2 (by decide) (hts (.fieldLink RX1 16 "WineCellar$Kind" "red" "Z") (by decide +kernel)) (fun _ h9 => h9) rfl hin rfl (by decide +kernel) (tw_bn hb9) (tw_bf hb9) (Nat.le_of_ble_eq_true rfl) dX1_init_16 (fun H1 ha ho => tw_updI hP (by decide) (tw_lt hk0 (congrFun hN 20)) ha ho) (fun H locs hP hS => ?_)
  obtain ⟨τ3, eτ3⟩ : ∃ y : tw_T, y = sI τ2 20 k0 2 x3 := ⟨_, rfl⟩
  have hF := hF τ3 eτ3
  rw [← eτ3] at hP
  have hN : gN τ3 = gN τ0 := by rw [eτ3]; exact hN
  refine lv_aload_n hx hb dX1_init_19 rfl (lv_at hl 0 rfl) ?_
  refine lv_iload hx hb dX1_init_20 (lv_at hl 4 rfl) ?_
  refine tw_putF (τ' := sI τ3 20 k0 3 x4) (ty := .int) hx hb hts (by decide +kernel) tyX1 tyX1_ok nmX1 hown hK hP hS (by decide) (tw_lt hk0 (congrFun hN 20)) rfl rfl 3 (by decide) (hts (.fieldLink RX1 20 "WineCellar$Kind" "young" "I") (by decide +kernel)) (fun _ h9 => h9) rfl hin rfl (by decide +kernel) rfl rfl (Nat.le_of_ble_eq_true rfl) dX1_init_22 (fun H1 ha ho => tw_updI hP (by decide) (tw_lt hk0 (congrFun hN 20)) ha ho) (fun H locs hP hS => ?_)
  obtain ⟨τ4, eτ4⟩ : ∃ y : tw_T, y = sI τ3 20 k0 3 x4 := ⟨_, rfl⟩
  have hF := hF τ4 eτ4
  rw [← eτ4] at hP
  have hN : gN τ4 = gN τ0 := by rw [eτ4]; exact hN
  refine lv_aload_n hx hb dX1_init_25 rfl (lv_at hl 0 rfl) ?_
  refine lv_iload hx hb dX1_init_26 (lv_at hl 5 rfl) ?_
  refine tw_putF (τ' := sI τ4 20 k0 4 x5) (ty := .int) hx hb hts (by decide +kernel) tyX1 tyX1_ok nmX1 hown hK hP hS (by decide) (tw_lt hk0 (congrFun hN 20)) rfl rfl 4 (by decide) (hts (.fieldLink RX1 23 "WineCellar$Kind" "old" "I") (by decide +kernel)) (fun _ h9 => h9) rfl hin rfl (by decide +kernel) rfl rfl (Nat.le_of_ble_eq_true rfl) dX1_init_28 (fun H1 ha ho => tw_updI hP (by decide) (tw_lt hk0 (congrFun hN 20)) ha ho) (fun H locs hP hS => ?_)
  obtain ⟨τ5, eτ5⟩ : ∃ y : tw_T, y = sI τ4 20 k0 4 x5 := ⟨_, rfl⟩
  have hF := hF τ5 eτ5
  rw [← eτ5] at hP
  have hN : gN τ5 = gN τ0 := by rw [eτ5]; exact hN
  exact W.vret hx hb hr (fun t ht hW => ⟨⟨τ5, rfl, ⟨hF, hN⟩, tw_at hP ht⟩, hS.F ht⟩) hS.2.2 dX1_init_31
def F_X3_init (τ0 : tw_T) (k0 : Nat) (x1 : Int32) (k2 : Nat) (x3 : Int32) (x4 : Int32) (Q : tw_T → Prop) : Prop := ∀ τ1 : tw_T, τ1 = sI τ0 21 k0 6 ((0 : Int32)) → (∀ τ2 : tw_T, τ2 = sI τ1 21 k0 7 ((0 : Int32)) → (∀ τ3 : tw_T, τ3 = sI τ2 21 k0 0 x1 → (∀ τ4 : tw_T, τ4 = sR τ3 21 k0 1 (some k2) → (∀ τ5 : tw_T, τ5 = sI τ4 21 k0 2 x3 → (∀ τ6 : tw_T, τ6 = sI τ5 21 k0 3 x4 → (∀ τ7 : tw_T, τ7 = sI τ6 21 k0 4 (x3 + (gI τ6 20 k2 3)) → (∀ τ8 : tw_T, τ8 = sI τ7 21 k0 5 (x3 + (gI τ7 20 k2 4)) → (Q τ8))))))))
def rmX3_init : Room := { frames := 1, cells := 0, slots := 0, locals := 12 }
set_option maxHeartbeats 4000000 in
set_option maxRecDepth 100000 in
theorem mX3_init (l : Launch) (dC : Nat → ClassId) (dI : Nat → Nat → Nat) (ac : Nat → ClassId) (sa : Nat → Nat) (A : Nat → Prop) (ad : Nat → Nat → Nat) (τ0 : tw_T) (k0 : Nat) (x1 : Int32) (k2 : Nat) (x3 : Int32) (x4 : Int32) (Q : tw_T → Prop) (hF : F_X3_init τ0 k0 x1 k2 x3 x4 Q) (hk0 : k0 < gN τ0 21) (hk2 : k2 < gN τ0 20) : Met l yX3_init wsX3_init rmX3_init (va_Pc [.ref (ad 21 k0), .int x1, .ref (ad 20 k2), .int x3, .int x4] (BX dC dI ac sa A ad τ0)) (va_Qv (fun (u : tw_T) => Q u ∧ gN u = gN τ0) (fun u t => PX dC dI ac A ad u t.heap) A) 0 0 A := by
  refine Met.ofW (cc := cX3_init) (maxL := 5) (ret := none) (by decide) rfl ?_
  intro p e s m args below meth c s₁ B hml hv
  obtain ⟨rfl, hP, hK, hA, hZ⟩ := hv
  have hx := B.exec
  have hb := B.bytes
  have hr := B.returns
  have hts := atoms_spec (ws := wsX3_init) B.pre
  have hown : s.vm.findClass RX3 = some m.cls := findClass_of_methodNamed B.named
  have hlocks := B.notSynchronized
  have hin : meth.name = "<init>" := (name_of_methodNamed B.named B.method).1
  have hS : va_S A s.heap s.heap [] := va_S.rf
  have hN : gN τ0 = gN τ0 := rfl
  have hl := lv_entry ([.ref (ad 21 k0), .int x1, .ref (ad 20 k2), .int x3, .int x4]) (n := 5) (Nat.le_of_ble_eq_true rfl)
  rw [lg_entry_eq]
  generalize (lg_sl ([.ref (ad 21 k0), .int x1, .ref (ad 20 k2), .int x3, .int x4]) ++ List.replicate (5 - (lg_sl ([.ref (ad 21 k0), .int x1, .ref (ad 20 k2), .int x3, .int x4])).length) Slot.unset).toArray = ls at hl ⊢
  have hl : lv_has ls 5 [(0, .ref (ad 21 k0)), (1, .int x1), (2, .ref (ad 20 k2)), (3, .int x3), (4, .int x4)] := hl
  unfold F_X3_init at hF
  refine lv_aload_n hx hb dX3_init_0 rfl (lv_at hl 0 rfl) ?_
  refine W.objInit hx hb hown (hts (.methodLink RX3 3 objectInit) (by decide +kernel)) (hts (.instanceMethod objectInit) (by decide +kernel)) (hts (.code objectInit ⟨#[0xb1]⟩ 1 none) (by decide +kernel)) rfl (by rw [hml]; exact hl.1) rfl dX3_init_1 (Nat.le_of_ble_eq_true rfl) (Nat.le_of_ble_eq_true rfl) ?_
  refine W.eq (g2 := F0 m 4 ls []) rfl ?_
  refine lv_aload_n hx hb dX3_init_4 rfl (lv_at hl 0 rfl) ?_
  refine lv_iconst (v := 0) hx hb dX3_init_5 (by decide) ?_
  refine tw_put (τ' := sI τ0 21 k0 6 ((0 : Int32))) (ty := .int) hx hb hts (by decide +kernel) tyX3 tyX3_ok nmX3 hown hK hP hS (by decide) hk0 rfl rfl 6 (by decide) (hts (.fieldLink RX3 9 "WineCellar$Lot" "openedAt" "I") (by decide +kernel)) (fun _ h9 => h9) rfl (by decide +kernel) rfl rfl (Nat.le_of_ble_eq_true rfl) dX3_init_6 (fun H1 ha ho => tw_updI hP (by decide) hk0 ha ho) (fun H locs hP hS => ?_)
  obtain ⟨τ1, eτ1⟩ : ∃ y : tw_T, y = sI τ0 21 k0 6 ((0 : Int32)) := ⟨_, rfl⟩
  have hF := hF τ1 eτ1
  rw [← eτ1] at hP
  have hN : gN τ1 = gN τ0 := by rw [eτ1]; exact hN
  refine lv_aload_n hx hb dX3_init_9 rfl (lv_at hl 0 rfl) ?_
  refine lv_iconst (v := 0) hx hb dX3_init_10 (by decide) ?_
  refine tw_put (τ' := sI τ1 21 k0 7 ((0 : Int32))) (ty := .int) hx hb hts (by decide +kernel) tyX3 tyX3_ok nmX3 hown hK hP hS (by decide) (tw_lt hk0 (congrFun hN 21)) rfl rfl 7 (by decide) (hts (.fieldLink RX3 15 "WineCellar$Lot" "glassesLeft" "I") (by decide +kernel)) (fun _ h9 => h9) rfl (by decide +kernel) rfl rfl (Nat.le_of_ble_eq_true rfl) dX3_init_11 (fun H1 ha ho => tw_updI hP (by decide) (tw_lt hk0 (congrFun hN 21)) ha ho) (fun H locs hP hS => ?_)
  obtain ⟨τ2, eτ2⟩ : ∃ y : tw_T, y = sI τ1 21 k0 7 ((0 : Int32)) := ⟨_, rfl⟩
  have hF := hF τ2 eτ2
  rw [← eτ2] at hP
  have hN : gN τ2 = gN τ0 := by rw [eτ2]; exact hN
  refine lv_aload_n hx hb dX3_init_14 rfl (lv_at hl 0 rfl) ?_
  refine lv_iload_n hx hb dX3_init_15 rfl (lv_at hl 1 rfl) ?_
  refine tw_putF (τ' := sI τ2 21 k0 0 x1) (ty := .int) hx hb hts (by decide +kernel) tyX3 tyX3_ok nmX3 hown hK hP hS (by decide) (tw_lt hk0 (congrFun hN 21)) rfl rfl 0 (by decide) (hts (.fieldLink RX3 18 "WineCellar$Lot" "kindNumber" "I") (by decide +kernel)) (fun _ h9 => h9) rfl hin rfl (by decide +kernel) rfl rfl (Nat.le_of_ble_eq_true rfl) dX3_init_16 (fun H1 ha ho => tw_updI hP (by decide) (tw_lt hk0 (congrFun hN 21)) ha ho) (fun H locs hP hS => ?_)
  obtain ⟨τ3, eτ3⟩ : ∃ y : tw_T, y = sI τ2 21 k0 0 x1 := ⟨_, rfl⟩
  have hF := hF τ3 eτ3
  rw [← eτ3] at hP
  have hN : gN τ3 = gN τ0 := by rw [eτ3]; exact hN
  refine lv_aload_n hx hb dX3_init_19 rfl (lv_at hl 0 rfl) ?_
  refine lv_aload_n hx hb dX3_init_20 rfl (lv_at hl 2 rfl) ?_
  refine tw_putF (τ' := sR τ3 21 k0 1 (some k2)) (ty := .object "WineCellar$Kind") hx hb hts (by decide +kernel) tyX3 tyX3_ok nmX3 hown hK hP hS (by decide) (tw_lt hk0 (congrFun hN 21)) rfl rfl 1 (by decide) (hts (.fieldLink RX3 21 "WineCellar$Lot" "kind" "LWineCellar$Kind;") (by decide +kernel)) (fun _ h9 => h9) rfl hin rfl (by decide +kernel) rfl rfl (Nat.le_of_ble_eq_true rfl) dX3_init_21 (fun H1 ha ho => tw_updR hP (by decide) (tw_lt hk0 (congrFun hN 21)) (fun r9 h9 => by cases h9; exact (tw_lt hk2 (congrFun hN 20))) ha ho) (fun H locs hP hS => ?_)
  obtain ⟨τ4, eτ4⟩ : ∃ y : tw_T, y = sR τ3 21 k0 1 (some k2) := ⟨_, rfl⟩
  have hF := hF τ4 eτ4
  rw [← eτ4] at hP
  have hN : gN τ4 = gN τ0 := by rw [eτ4]; exact hN
  refine lv_aload_n hx hb dX3_init_24 rfl (lv_at hl 0 rfl) ?_
  refine lv_iload_n hx hb dX3_init_25 rfl (lv_at hl 3 rfl) ?_
  refine tw_putF (τ' := sI τ4 21 k0 2 x3) (ty := .int) hx hb hts (by decide +kernel) tyX3 tyX3_ok nmX3 hown hK hP hS (by decide) (tw_lt hk0 (congrFun hN 21)) rfl rfl 2 (by decide) (hts (.fieldLink RX3 25 "WineCellar$Lot" "vintage" "I") (by decide +kernel)) (fun _ h9 => h9) rfl hin rfl (by decide +kernel) rfl rfl (Nat.le_of_ble_eq_true rfl) dX3_init_26 (fun H1 ha ho => tw_updI hP (by decide) (tw_lt hk0 (congrFun hN 21)) ha ho) (fun H locs hP hS => ?_)
  obtain ⟨τ5, eτ5⟩ : ∃ y : tw_T, y = sI τ4 21 k0 2 x3 := ⟨_, rfl⟩
  have hF := hF τ5 eτ5
  rw [← eτ5] at hP
  have hN : gN τ5 = gN τ0 := by rw [eτ5]; exact hN
  refine lv_aload_n hx hb dX3_init_29 rfl (lv_at hl 0 rfl) ?_
  refine lv_iload hx hb dX3_init_30 (lv_at hl 4 rfl) ?_
  refine tw_putF (τ' := sI τ5 21 k0 3 x4) (ty := .int) hx hb hts (by decide +kernel) tyX3 tyX3_ok nmX3 hown hK hP hS (by decide) (tw_lt hk0 (congrFun hN 21)) rfl rfl 3 (by decide) (hts (.fieldLink RX3 28 "WineCellar$Lot" "price" "I") (by decide +kernel)) (fun _ h9 => h9) rfl hin rfl (by decide +kernel) rfl rfl (Nat.le_of_ble_eq_true rfl) dX3_init_32 (fun H1 ha ho => tw_updI hP (by decide) (tw_lt hk0 (congrFun hN 21)) ha ho) (fun H locs hP hS => ?_)
  obtain ⟨τ6, eτ6⟩ : ∃ y : tw_T, y = sI τ5 21 k0 3 x4 := ⟨_, rfl⟩
  have hF := hF τ6 eτ6
  rw [← eτ6] at hP
  have hN : gN τ6 = gN τ0 := by rw [eτ6]; exact hN
  refine lv_aload_n hx hb dX3_init_35 rfl (lv_at hl 0 rfl) ?_
  refine lv_iload_n hx hb dX3_init_36 rfl (lv_at hl 3 rfl) ?_
  refine lv_aload_n hx hb dX3_init_37 rfl (lv_at hl 2 rfl) ?_
  refine tw_get (v := .int (gI τ6 20 k2 3)) hx hb hts (by decide +kernel) hown hK hP (by decide) (tw_lt hk2 (congrFun hN 20)) rfl rfl 3 (by decide) (hts (.fieldLink RX3 31 "WineCellar$Kind" "young" "I") (by decide +kernel)) (fun _ h9 => h9) rfl dX3_init_38 ?_
  refine lv_iadd hx hb dX3_init_41 ?_
  refine tw_put (τ' := sI τ6 21 k0 4 (x3 + (gI τ6 20 k2 3))) (ty := .int) hx hb hts (by decide +kernel) tyX3 tyX3_ok nmX3 hown hK hP hS (by decide) (tw_lt hk0 (congrFun hN 21)) rfl rfl 4 (by decide) (hts (.fieldLink RX3 36 "WineCellar$Lot" "from" "I") (by decide +kernel)) (fun _ h9 => h9) rfl (by decide +kernel) rfl rfl (Nat.le_of_ble_eq_true rfl) dX3_init_42 (fun H1 ha ho => tw_updI hP (by decide) (tw_lt hk0 (congrFun hN 21)) ha ho) (fun H locs hP hS => ?_)
  obtain ⟨τ7, eτ7⟩ : ∃ y : tw_T, y = sI τ6 21 k0 4 (x3 + (gI τ6 20 k2 3)) := ⟨_, rfl⟩
  have hF := hF τ7 eτ7
  rw [← eτ7] at hP
  have hN : gN τ7 = gN τ0 := by rw [eτ7]; exact hN
  refine lv_aload_n hx hb dX3_init_45 rfl (lv_at hl 0 rfl) ?_
  refine lv_iload_n hx hb dX3_init_46 rfl (lv_at hl 3 rfl) ?_
  refine lv_aload_n hx hb dX3_init_47 rfl (lv_at hl 2 rfl) ?_
  refine tw_get (v := .int (gI τ7 20 k2 4)) hx hb hts (by decide +kernel) hown hK hP (by decide) (tw_lt hk2 (congrFun hN 20)) rfl rfl 4 (by decide) (hts (.fieldLink RX3 39 "WineCellar$Kind" "old" "I") (by decide +kernel)) (fun _ h9 => h9) rfl dX3_init_48 ?_
  refine lv_iadd hx hb dX3_init_51 ?_
  refine tw_put (τ' := sI τ7 21 k0 5 (x3 + (gI τ7 20 k2 4))) (ty := .int) hx hb hts (by decide +kernel) tyX3 tyX3_ok nmX3 hown hK hP hS (by decide) (tw_lt hk0 (congrFun hN 21)) rfl rfl 5 (by decide) (hts (.fieldLink RX3 42 "WineCellar$Lot" "until" "I") (by decide +kernel)) (fun _ h9 => h9) rfl (by decide +kernel) rfl rfl (Nat.le_of_ble_eq_true rfl) dX3_init_52 (fun H1 ha ho => tw_updI hP (by decide) (tw_lt hk0 (congrFun hN 21)) ha ho) (fun H locs hP hS => ?_)
  obtain ⟨τ8, eτ8⟩ : ∃ y : tw_T, y = sI τ7 21 k0 5 (x3 + (gI τ7 20 k2 4)) := ⟨_, rfl⟩
  have hF := hF τ8 eτ8
  rw [← eτ8] at hP
  have hN : gN τ8 = gN τ0 := by rw [eτ8]; exact hN
  exact W.vret hx hb hr (fun t ht hW => ⟨⟨τ8, rfl, ⟨hF, hN⟩, tw_at hP ht⟩, hS.F ht⟩) hS.2.2 dX3_init_55
def F_X2_init (τ0 : tw_T) (k0 : Nat) (Q : tw_T → Prop) : Prop := ∀ τ1 : tw_T, τ1 = sI τ0 7 k0 0 ((0 : Int32)) → (∀ τ2 : tw_T, τ2 = sI τ1 7 k0 1 ((0 : Int32)) → (∀ τ3 : tw_T, τ3 = sI τ2 7 k0 2 ((0 : Int32)) → (∀ τ4 : tw_T, τ4 = sI τ3 7 k0 3 ((0 : Int32)) → (∀ τ5 : tw_T, τ5 = sI τ4 7 k0 4 ((0 : Int32)) → (∀ τ6 : tw_T, τ6 = sI τ5 7 k0 5 ((0 : Int32)) → (∀ τ7 : tw_T, τ7 = sI τ6 7 k0 6 ((0 : Int32)) → (∀ τ8 : tw_T, τ8 = sJ τ7 7 k0 7 ((0 : Int64)) → (Q τ8))))))))
def rmX2_init : Room := { frames := 1, cells := 0, slots := 0, locals := 12 }
set_option maxHeartbeats 4000000 in
set_option maxRecDepth 100000 in
theorem mX2_init (l : Launch) (dC : Nat → ClassId) (dI : Nat → Nat → Nat) (ac : Nat → ClassId) (sa : Nat → Nat) (A : Nat → Prop) (ad : Nat → Nat → Nat) (τ0 : tw_T) (k0 : Nat) (Q : tw_T → Prop) (hF : F_X2_init τ0 k0 Q) (hk0 : k0 < gN τ0 7) : Met l yX2_init wsX2_init rmX2_init (va_Pc [.ref (ad 7 k0)] (BX dC dI ac sa A ad τ0)) (va_Qv (fun (u : tw_T) => Q u ∧ gN u = gN τ0) (fun u t => PX dC dI ac A ad u t.heap) A) 0 0 A := by
  refine Met.ofW (cc := cX2_init) (maxL := 1) (ret := none) (by decide) rfl ?_
  intro p e s m args below meth c s₁ B hml hv
  obtain ⟨rfl, hP, hK, hA, hZ⟩ := hv
  have hx := B.exec
  have hb := B.bytes
  have hr := B.returns
  have hts := atoms_spec (ws := wsX2_init) B.pre
  have hown : s.vm.findClass RX2 = some m.cls := findClass_of_methodNamed B.named
  have hlocks := B.notSynchronized
  have hin : meth.name = "<init>" := (name_of_methodNamed B.named B.method).1
  have hS : va_S A s.heap s.heap [] := va_S.rf
  have hN : gN τ0 = gN τ0 := rfl
  have hl := lv_entry ([.ref (ad 7 k0)]) (n := 1) (Nat.le_of_ble_eq_true rfl)
  rw [lg_entry_eq]
  generalize (lg_sl ([.ref (ad 7 k0)]) ++ List.replicate (1 - (lg_sl ([.ref (ad 7 k0)])).length) Slot.unset).toArray = ls at hl ⊢
  have hl : lv_has ls 1 [(0, .ref (ad 7 k0))] := hl
  unfold F_X2_init at hF
  refine lv_aload_n hx hb dX2_init_0 rfl (lv_at hl 0 rfl) ?_
  refine W.objInit hx hb hown (hts (.methodLink RX2 1 objectInit) (by decide +kernel)) (hts (.instanceMethod objectInit) (by decide +kernel)) (hts (.code objectInit ⟨#[0xb1]⟩ 1 none) (by decide +kernel)) rfl (by rw [hml]; exact hl.1) rfl dX2_init_1 (Nat.le_of_ble_eq_true rfl) (Nat.le_of_ble_eq_true rfl) ?_
  refine W.eq (g2 := F0 m 4 ls []) rfl ?_
  refine lv_aload_n hx hb dX2_init_4 rfl (lv_at hl 0 rfl) ?_
  refine lv_iconst (v := 0) hx hb dX2_init_5 (by decide) ?_
  refine tw_put (τ' := sI τ0 7 k0 0 ((0 : Int32))) (ty := .int) hx hb hts (by decide +kernel) tyX2 tyX2_ok nmX2 hown hK hP hS (by decide) hk0 rfl rfl 0 (by decide) (hts (.fieldLink RX2 7 "WineCellar$Ledger" "bought" "I") (by decide +kernel)) (fun _ h9 => h9) rfl (by decide +kernel) rfl rfl (Nat.le_of_ble_eq_true rfl) dX2_init_6 (fun H1 ha ho => tw_updI hP (by decide) hk0 ha ho) (fun H locs hP hS => ?_)
  obtain ⟨τ1, eτ1⟩ : ∃ y : tw_T, y = sI τ0 7 k0 0 ((0 : Int32)) := ⟨_, rfl⟩
  have hF := hF τ1 eτ1
  rw [← eτ1] at hP
  have hN : gN τ1 = gN τ0 := by rw [eτ1]; exact hN
  refine lv_aload_n hx hb dX2_init_9 rfl (lv_at hl 0 rfl) ?_
  refine lv_iconst (v := 0) hx hb dX2_init_10 (by decide) ?_
  refine tw_put (τ' := sI τ1 7 k0 1 ((0 : Int32))) (ty := .int) hx hb hts (by decide +kernel) tyX2 tyX2_ok nmX2 hown hK hP hS (by decide) (tw_lt hk0 (congrFun hN 7)) rfl rfl 1 (by decide) (hts (.fieldLink RX2 13 "WineCellar$Ledger" "found" "I") (by decide +kernel)) (fun _ h9 => h9) rfl (by decide +kernel) rfl rfl (Nat.le_of_ble_eq_true rfl) dX2_init_11 (fun H1 ha ho => tw_updI hP (by decide) (tw_lt hk0 (congrFun hN 7)) ha ho) (fun H locs hP hS => ?_)
  obtain ⟨τ2, eτ2⟩ : ∃ y : tw_T, y = sI τ1 7 k0 1 ((0 : Int32)) := ⟨_, rfl⟩
  have hF := hF τ2 eτ2
  rw [← eτ2] at hP
  have hN : gN τ2 = gN τ0 := by rw [eτ2]; exact hN
  refine lv_aload_n hx hb dX2_init_14 rfl (lv_at hl 0 rfl) ?_
  refine lv_iconst (v := 0) hx hb dX2_init_15 (by decide) ?_
  refine tw_put (τ' := sI τ2 7 k0 2 ((0 : Int32))) (ty := .int) hx hb hts (by decide +kernel) tyX2 tyX2_ok nmX2 hown hK hP hS (by decide) (tw_lt hk0 (congrFun hN 7)) rfl rfl 2 (by decide) (hts (.fieldLink RX2 16 "WineCellar$Ledger" "sold" "I") (by decide +kernel)) (fun _ h9 => h9) rfl (by decide +kernel) rfl rfl (Nat.le_of_ble_eq_true rfl) dX2_init_16 (fun H1 ha ho => tw_updI hP (by decide) (tw_lt hk0 (congrFun hN 7)) ha ho) (fun H locs hP hS => ?_)
  obtain ⟨τ3, eτ3⟩ : ∃ y : tw_T, y = sI τ2 7 k0 2 ((0 : Int32)) := ⟨_, rfl⟩
  have hF := hF τ3 eτ3
  rw [← eτ3] at hP
  have hN : gN τ3 = gN τ0 := by rw [eτ3]; exact hN
  refine lv_aload_n hx hb dX2_init_19 rfl (lv_at hl 0 rfl) ?_
  refine lv_iconst (v := 0) hx hb dX2_init_20 (by decide) ?_
  refine tw_put (τ' := sI τ3 7 k0 3 ((0 : Int32))) (ty := .int) hx hb hts (by decide +kernel) tyX2 tyX2_ok nmX2 hown hK hP hS (by decide) (tw_lt hk0 (congrFun hN 7)) rfl rfl 3 (by decide) (hts (.fieldLink RX2 19 "WineCellar$Ledger" "emptied" "I") (by decide +kernel)) (fun _ h9 => h9) rfl (by decide +kernel) rfl rfl (Nat.le_of_ble_eq_true rfl) dX2_init_21 (fun H1 ha ho => tw_updI hP (by decide) (tw_lt hk0 (congrFun hN 7)) ha ho) (fun H locs hP hS => ?_)
  obtain ⟨τ4, eτ4⟩ : ∃ y : tw_T, y = sI τ3 7 k0 3 ((0 : Int32)) := ⟨_, rfl⟩
  have hF := hF τ4 eτ4
  rw [← eτ4] at hP
  have hN : gN τ4 = gN τ0 := by rw [eτ4]; exact hN
  refine lv_aload_n hx hb dX2_init_24 rfl (lv_at hl 0 rfl) ?_
  refine lv_iconst (v := 0) hx hb dX2_init_25 (by decide) ?_
  refine tw_put (τ' := sI τ4 7 k0 4 ((0 : Int32))) (ty := .int) hx hb hts (by decide +kernel) tyX2 tyX2_ok nmX2 hown hK hP hS (by decide) (tw_lt hk0 (congrFun hN 7)) rfl rfl 4 (by decide) (hts (.fieldLink RX2 22 "WineCellar$Ledger" "broken" "I") (by decide +kernel)) (fun _ h9 => h9) rfl (by decide +kernel) rfl rfl (Nat.le_of_ble_eq_true rfl) dX2_init_26 (fun H1 ha ho => tw_updI hP (by decide) (tw_lt hk0 (congrFun hN 7)) ha ho) (fun H locs hP hS => ?_)
  obtain ⟨τ5, eτ5⟩ : ∃ y : tw_T, y = sI τ4 7 k0 4 ((0 : Int32)) := ⟨_, rfl⟩
  have hF := hF τ5 eτ5
  rw [← eτ5] at hP
  have hN : gN τ5 = gN τ0 := by rw [eτ5]; exact hN
  refine lv_aload_n hx hb dX2_init_29 rfl (lv_at hl 0 rfl) ?_
  refine lv_iconst (v := 0) hx hb dX2_init_30 (by decide) ?_
  refine tw_put (τ' := sI τ5 7 k0 5 ((0 : Int32))) (ty := .int) hx hb hts (by decide +kernel) tyX2 tyX2_ok nmX2 hown hK hP hS (by decide) (tw_lt hk0 (congrFun hN 7)) rfl rfl 5 (by decide) (hts (.fieldLink RX2 25 "WineCellar$Ledger" "poured" "I") (by decide +kernel)) (fun _ h9 => h9) rfl (by decide +kernel) rfl rfl (Nat.le_of_ble_eq_true rfl) dX2_init_31 (fun H1 ha ho => tw_updI hP (by decide) (tw_lt hk0 (congrFun hN 7)) ha ho) (fun H locs hP hS => ?_)
  obtain ⟨τ6, eτ6⟩ : ∃ y : tw_T, y = sI τ5 7 k0 5 ((0 : Int32)) := ⟨_, rfl⟩
  have hF := hF τ6 eτ6
  rw [← eτ6] at hP
  have hN : gN τ6 = gN τ0 := by rw [eτ6]; exact hN
  refine lv_aload_n hx hb dX2_init_34 rfl (lv_at hl 0 rfl) ?_
  refine lv_iconst (v := 0) hx hb dX2_init_35 (by decide) ?_
  refine tw_put (τ' := sI τ6 7 k0 6 ((0 : Int32))) (ty := .int) hx hb hts (by decide +kernel) tyX2 tyX2_ok nmX2 hown hK hP hS (by decide) (tw_lt hk0 (congrFun hN 7)) rfl rfl 6 (by decide) (hts (.fieldLink RX2 28 "WineCellar$Ledger" "spilt" "I") (by decide +kernel)) (fun _ h9 => h9) rfl (by decide +kernel) rfl rfl (Nat.le_of_ble_eq_true rfl) dX2_init_36 (fun H1 ha ho => tw_updI hP (by decide) (tw_lt hk0 (congrFun hN 7)) ha ho) (fun H locs hP hS => ?_)
  obtain ⟨τ7, eτ7⟩ : ∃ y : tw_T, y = sI τ6 7 k0 6 ((0 : Int32)) := ⟨_, rfl⟩
  have hF := hF τ7 eτ7
  rw [← eτ7] at hP
  have hN : gN τ7 = gN τ0 := by rw [eτ7]; exact hN
  refine lv_aload_n hx hb dX2_init_39 rfl (lv_at hl 0 rfl) ?_
  refine lv_lconst (v := 0) hx hb dX2_init_40 (by decide) ?_
  refine tw_put (τ' := sJ τ7 7 k0 7 ((0 : Int64))) (ty := .long) hx hb hts (by decide +kernel) tyX2 tyX2_ok nmX2 hown hK hP hS (by decide) (tw_lt hk0 (congrFun hN 7)) rfl rfl 7 (by decide) (hts (.fieldLink RX2 31 "WineCellar$Ledger" "paid" "J") (by decide +kernel)) (fun _ h9 => h9) rfl (by decide +kernel) rfl rfl (Nat.le_of_ble_eq_true rfl) dX2_init_41 (fun H1 ha ho => tw_updJ hP (by decide) (tw_lt hk0 (congrFun hN 7)) ha ho) (fun H locs hP hS => ?_)
  obtain ⟨τ8, eτ8⟩ : ∃ y : tw_T, y = sJ τ7 7 k0 7 ((0 : Int64)) := ⟨_, rfl⟩
  have hF := hF τ8 eτ8
  rw [← eτ8] at hP
  have hN : gN τ8 = gN τ0 := by rw [eτ8]; exact hN
  exact W.vret hx hb hr (fun t ht hW => ⟨⟨τ8, rfl, ⟨hF, hN⟩, tw_at hP ht⟩, hS.F ht⟩) hS.2.2 dX2_init_44
