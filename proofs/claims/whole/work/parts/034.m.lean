def F_X10_sheet (τ0 : tw_T) (k0 : Nat) (x1 : Int32) (Q : Int32 → tw_T → Prop) : Prop := ∀ τ1 : tw_T, τ1 = sI τ0 0 k0 0 ((0 : Int32)) → (F_X10_within τ1 x1 ((0 : Int32)) ((2 : Int32)) (fun (r3 : Int32) (τ2 : tw_T) => (F_X10_may τ2 k0 r3 ((1 : Int32)) (fun (r5 : Int32) (τ4 : tw_T) => (((¬ r5 = 0 → (((¬ (gI τ4 0 k0 39) = ((4 : Int32)) → (∃ o8 : Nat, gR τ4 0 k0 40 = some o8 ∧ (vp_in (gI τ4 0 k0 39) 4 ∧ (∀ τ10 : tw_T, τ10 = sI τ4 140 o8 (gI τ4 0 k0 39).toNatClampNeg x1 → (∀ τ11 : tw_T, τ11 = sI τ10 0 k0 39 ((gI τ10 0 k0 39) + ((1 : Int32))) → (Q ((gI τ11 0 k0 39) - ((1 : Int32))) τ11)))))) ∧ ((gI τ4 0 k0 39) = ((4 : Int32)) → (Q ((-1 : Int32)) τ4))))) ∧ (r5 = 0 → (Q ((0 : Int32)) τ4))))))))
def rmX10_sheet : Room := { frames := 1, cells := 0, slots := 0, locals := 22 }
set_option maxHeartbeats 4000000 in
set_option maxRecDepth 100000 in
theorem mX10_sheet (l : Launch) (dC : Nat → ClassId) (dI : Nat → Nat → Nat) (ac : Nat → ClassId) (sa : Nat → Nat) (A : Nat → Prop) (ad : Nat → Nat → Nat) (τ0 : tw_T) (k0 : Nat) (x1 : Int32) (Q : Int32 → tw_T → Prop) (hF : F_X10_sheet τ0 k0 x1 Q) (hk0 : k0 < gN τ0 0) : Met l yX10_sheet wsX10_sheet rmX10_sheet (va_Pc [.ref (ad 0 k0), .int x1] (BM dC dI ac sa A ad τ0)) (va_Qi (fun r (u : tw_T) => Q r u ∧ gN u = gN τ0) (fun u t => PM dC dI ac A ad u t.heap) A) 0 0 A := by
  refine Met.ofW (cc := cX10_sheet) (maxL := 2) (ret := (some .int)) (by decide) rfl ?_
  intro p e s m args below meth c s₁ B hml hv
  obtain ⟨rfl, hP, hK, hA, hZ⟩ := hv
  have hx := B.exec
  have hb := B.bytes
  have hr := B.returns
  have hts := atoms_spec (ws := wsX10_sheet) B.pre
  have hown : s.vm.findClass RX10 = some m.cls := findClass_of_methodNamed B.named
  have hlocks := B.notSynchronized
  have hS : va_S A s.heap s.heap [] := va_S.rf
  have hN : gN τ0 = gN τ0 := rfl
  have hl := lv_entry ([.ref (ad 0 k0), .int x1]) (n := 2) (Nat.le_of_ble_eq_true rfl)
  rw [lg_entry_eq]
  generalize (lg_sl ([.ref (ad 0 k0), .int x1]) ++ List.replicate (2 - (lg_sl ([.ref (ad 0 k0), .int x1])).length) Slot.unset).toArray = ls at hl ⊢
  have hl : lv_has ls 2 [(0, .ref (ad 0 k0)), (1, .int x1)] := hl
  unfold F_X10_sheet at hF
  refine lv_aload_n hx hb dX10_sheet_0 rfl (lv_at hl 0 rfl) ?_
  refine lv_iconst (v := 0) hx hb dX10_sheet_1 (by decide) ?_
  refine tw_put (τ' := sI τ0 0 k0 0 ((0 : Int32))) (ty := .int) hx hb hts (by decide +kernel) tyX10 tyX10_ok nmX10 hown hK hP hS (by decide) hk0 rfl rfl 0 (by decide) (hts (.fieldLink RX10 1 "WineCellarModel" "thrown" "I") (by decide +kernel)) (fun _ h9 => h9) rfl (by decide +kernel) rfl rfl (Nat.le_of_ble_eq_true rfl) dX10_sheet_2 (fun H1 ha ho => tw_updI hP (by decide) hk0 ha ho) (fun H locs hP hS => ?_)
  obtain ⟨τ1, eτ1⟩ : ∃ y : tw_T, y = sI τ0 0 k0 0 ((0 : Int32)) := ⟨_, rfl⟩
  have hF := hF τ1 eτ1
  rw [← eτ1] at hP
  have hN : gN τ1 = gN τ0 := by rw [eτ1]; exact hN
  refine lv_aload_n hx hb dX10_sheet_5 rfl (lv_at hl 0 rfl) ?_
  refine lv_iload_n hx hb dX10_sheet_6 rfl (lv_at hl 1 rfl) ?_
  refine lv_iconst (v := 0) hx hb dX10_sheet_7 (by decide) ?_
  refine lv_iconst (v := 2) hx hb dX10_sheet_8 (by decide) ?_
  refine va_calli (va_runS (As := [.int x1, .int ((0 : Int32)), .int ((2 : Int32))]) (rest := [.ref (ad 0 k0)]) ⟨hx, hb, hml, hown, hts⟩ (mX10_within l dC dI ac sa A ad τ1 x1 ((0 : Int32)) ((2 : Int32)) _ hF ) (va_cwS 3 hts gX10_sheet_X10_within rfl rfl rfl (by decide +kernel) ⟨Nat.le_of_ble_eq_true rfl, Nat.le_of_ble_eq_true rfl⟩) ⟨BM.blind, fun U hU hW => ⟨rfl, BM.of hP hK hS hA hZ hU hW⟩⟩ rfl rfl hl.1 rfl (lv_room (Nat.le_of_ble_eq_true rfl)) dX10_sheet_9 ⟨Nat.le_of_ble_eq_true rfl, Nat.le_of_ble_eq_true rfl⟩) hS (fun q _ h => h) (fun q h => h) (fun r3 τ2 t H locs ht hvm hw hB hz hk hS => ?_)
  obtain ⟨hF, hN9⟩ := hw
  have hP : PM dC dI ac A ad τ2 H := tw_back hB ht
  have hN : gN τ2 = gN τ0 := hN9.trans hN
  refine lv_iconst (v := 1) hx hb dX10_sheet_12 (by decide) ?_
  refine va_calli (va_runV (As := [.int r3, .int ((1 : Int32))]) (rest := []) ⟨hx, hb, hml, hown, hts⟩ (mX10_may l dC dI ac sa A ad τ2 k0 r3 ((1 : Int32)) _ hF (tw_lt hk0 (congrFun hN 0))) (cwV 2 hts gX10_sheet_X10_may rfl rfl rfl (by decide +kernel) ⟨Nat.le_of_ble_eq_true rfl, Nat.le_of_ble_eq_true rfl⟩) ⟨BM.blind, tw_recv hK hP (by decide) (tw_lt hk0 (congrFun hN 0)) rfl rfl, fun U hU hW => ⟨rfl, BM.of hP hK hS hA hZ hU hW⟩⟩ rfl rfl hl.1 rfl (lv_room (Nat.le_of_ble_eq_true rfl)) dX10_sheet_13 ⟨Nat.le_of_ble_eq_true rfl, Nat.le_of_ble_eq_true rfl⟩) hS (fun q _ h => h) (fun q h => h) (fun r5 τ4 t H locs ht hvm hw hB hz hk hS => ?_)
  obtain ⟨hF, hN9⟩ := hw
  have hP : PM dC dI ac A ad τ4 H := tw_back hB ht
  have hN : gN τ4 = gN τ0 := hN9.trans hN
  refine lv_if_ne (tgt := 21) hx hb dX10_sheet_16 (by decide) (fun c6 => ?_) (fun c6 => ?_)
  · have hF := hF.1 c6
    refine lv_aload_n hx hb dX10_sheet_21 rfl (lv_at hl 0 rfl) ?_
    refine tw_get (v := .int (gI τ4 0 k0 39)) hx hb hts (by decide +kernel) hown hK hP (by decide) (tw_lt hk0 (congrFun hN 0)) rfl rfl 39 (by decide) (hts (.fieldLink RX10 254 "WineCellarModel" "sheets" "I") (by decide +kernel)) (fun _ h9 => h9) rfl dX10_sheet_22 ?_
    refine lv_iconst (v := 4) hx hb dX10_sheet_25 (by decide) ?_
    refine lv_icmp_ne (tgt := 31) hx hb dX10_sheet_26 (by decide) (fun c7 => ?_) (fun c7 => ?_)
    · have hF := hF.1 c7
      refine lv_aload_n hx hb dX10_sheet_31 rfl (lv_at hl 0 rfl) ?_
      obtain ⟨o8, eo8, hF⟩ := hF
      have ho8 : o8 < gN τ0 140 := tw_lt (hP.2.2.2 0 k0 40 o8 (by decide) (tw_lt hk0 (congrFun hN 0)) eo8) (congrFun hN 140).symm
      refine tw_get (v := .ref (ad 140 o8)) hx hb hts (by decide +kernel) hown hK hP (by decide) (tw_lt hk0 (congrFun hN 0)) rfl rfl 40 (by decide) (hts (.fieldLink RX10 77 "WineCellarModel" "width" "[I") (by decide +kernel)) (fun _ h9 => h9) (show some (va_rf ((gR τ4 0 k0 40).map (ad 140))) = some (.ref (ad 140 o8)) by rw [eo8]; rfl) dX10_sheet_32 ?_
      refine lv_aload_n hx hb dX10_sheet_35 rfl (lv_at hl 0 rfl) ?_
      refine tw_get (v := .int (gI τ4 0 k0 39)) hx hb hts (by decide +kernel) hown hK hP (by decide) (tw_lt hk0 (congrFun hN 0)) rfl rfl 39 (by decide) (hts (.fieldLink RX10 254 "WineCellarModel" "sheets" "I") (by decide +kernel)) (fun _ h9 => h9) rfl dX10_sheet_36 ?_
      refine lv_iload_n hx hb dX10_sheet_39 rfl (lv_at hl 1 rfl) ?_
      obtain ⟨hi9, hF⟩ := hF
      refine tw_iast hx hb hK hP hS (by decide) (tw_lt ho8 (congrFun hN 140)) rfl 0 rfl hi9 dX10_sheet_40 (fun H locs hP hS => ?_)
      obtain ⟨τ10, eτ10⟩ : ∃ y : tw_T, y = sI τ4 140 o8 (gI τ4 0 k0 39).toNatClampNeg x1 := ⟨_, rfl⟩
      have hF := hF τ10 eτ10
      rw [← eτ10] at hP
      have hN : gN τ10 = gN τ0 := by rw [eτ10]; exact hN
      refine lv_aload_n hx hb dX10_sheet_41 rfl (lv_at hl 0 rfl) ?_
      refine lv_dup hx hb dX10_sheet_42 rfl ?_
      refine tw_get (v := .int (gI τ10 0 k0 39)) hx hb hts (by decide +kernel) hown hK hP (by decide) (tw_lt hk0 (congrFun hN 0)) rfl rfl 39 (by decide) (hts (.fieldLink RX10 254 "WineCellarModel" "sheets" "I") (by decide +kernel)) (fun _ h9 => h9) rfl dX10_sheet_43 ?_
      refine lv_iconst (v := 1) hx hb dX10_sheet_46 (by decide) ?_
      refine lv_iadd hx hb dX10_sheet_47 ?_
      refine tw_put (τ' := sI τ10 0 k0 39 ((gI τ10 0 k0 39) + ((1 : Int32)))) (ty := .int) hx hb hts (by decide +kernel) tyX10 tyX10_ok nmX10 hown hK hP hS (by decide) (tw_lt hk0 (congrFun hN 0)) rfl rfl 39 (by decide) (hts (.fieldLink RX10 254 "WineCellarModel" "sheets" "I") (by decide +kernel)) (fun _ h9 => h9) rfl (by decide +kernel) rfl rfl (Nat.le_of_ble_eq_true rfl) dX10_sheet_48 (fun H1 ha ho => tw_updI hP (by decide) (tw_lt hk0 (congrFun hN 0)) ha ho) (fun H locs hP hS => ?_)
      obtain ⟨τ11, eτ11⟩ : ∃ y : tw_T, y = sI τ10 0 k0 39 ((gI τ10 0 k0 39) + ((1 : Int32))) := ⟨_, rfl⟩
      have hF := hF τ11 eτ11
      rw [← eτ11] at hP
      have hN : gN τ11 = gN τ0 := by rw [eτ11]; exact hN
      refine lv_aload_n hx hb dX10_sheet_51 rfl (lv_at hl 0 rfl) ?_
      refine tw_get (v := .int (gI τ11 0 k0 39)) hx hb hts (by decide +kernel) hown hK hP (by decide) (tw_lt hk0 (congrFun hN 0)) rfl rfl 39 (by decide) (hts (.fieldLink RX10 254 "WineCellarModel" "sheets" "I") (by decide +kernel)) (fun _ h9 => h9) rfl dX10_sheet_52 ?_
      refine lv_iconst (v := 1) hx hb dX10_sheet_55 (by decide) ?_
      refine lv_isub hx hb dX10_sheet_56 ?_
      exact W.iret (v := (gI τ11 0 k0 39) - ((1 : Int32))) hx hb hr (fun t ht hW => ⟨⟨((gI τ11 0 k0 39) - ((1 : Int32))), τ11, rfl, ⟨hF, hN⟩, tw_at hP ht⟩, hS.F ht⟩) hS.2.2 dX10_sheet_57
    · have hF := hF.2 c7
      refine lv_iconst (v := (-1)) hx hb dX10_sheet_29 (by decide) ?_
      exact W.iret (v := (-1 : Int32)) hx hb hr (fun t ht hW => ⟨⟨((-1 : Int32)), τ4, rfl, ⟨hF, hN⟩, tw_at hP ht⟩, hS.F ht⟩) hS.2.2 dX10_sheet_30
  · have hF := hF.2 c6
    refine lv_iconst (v := 0) hx hb dX10_sheet_19 (by decide) ?_
    exact W.iret (v := (0 : Int32)) hx hb hr (fun t ht hW => ⟨⟨((0 : Int32)), τ4, rfl, ⟨hF, hN⟩, tw_at hP ht⟩, hS.F ht⟩) hS.2.2 dX10_sheet_20
def J_X10_isRow_30 (τ : tw_T) (y0 : Int32) (q1 : Nat) (Q : Int32 → tw_T → Prop) : Prop := F_X10_may τ q1 y0 ((1 : Int32)) (fun (r2 : Int32) (τ1 : tw_T) => (tw_b r2 ∧ (Q r2 τ1)))
def J_X10_isRow_29 (τ : tw_T) (q0 : Nat) (Q : Int32 → tw_T → Prop) : Prop := J_X10_isRow_30 τ  ((0 : Int32)) q0 Q
def F_X10_isRow (τ0 : tw_T) (k0 : Nat) (x1 : Int32) (x2 : Int32) (Q : Int32 → tw_T → Prop) : Prop := F_X10_within τ0 x1 ((0 : Int32)) ((gI τ0 0 k0 39) - ((1 : Int32))) (fun (r4 : Int32) (τ3 : tw_T) => (((r4 = 0 → (J_X10_isRow_29 τ3  k0 Q)) ∧ (¬ r4 = 0 → (F_X10_within τ3 x2 ((0 : Int32)) ((9 : Int32)) (fun (r7 : Int32) (τ6 : tw_T) => (((r7 = 0 → (J_X10_isRow_29 τ6  k0 Q)) ∧ (¬ r7 = 0 → (J_X10_isRow_30 τ6  ((1 : Int32)) k0 Q))))))))))
def rmX10_isRow : Room := { frames := 1, cells := 0, slots := 0, locals := 22 }
set_option maxHeartbeats 4000000 in
set_option maxRecDepth 100000 in
theorem mX10_isRow (l : Launch) (dC : Nat → ClassId) (dI : Nat → Nat → Nat) (ac : Nat → ClassId) (sa : Nat → Nat) (A : Nat → Prop) (ad : Nat → Nat → Nat) (τ0 : tw_T) (k0 : Nat) (x1 : Int32) (x2 : Int32) (Q : Int32 → tw_T → Prop) (hF : F_X10_isRow τ0 k0 x1 x2 Q) (hk0 : k0 < gN τ0 0) : Met l yX10_isRow wsX10_isRow rmX10_isRow (va_Pc [.ref (ad 0 k0), .int x1, .int x2] (BM dC dI ac sa A ad τ0)) (va_Qi (fun r (u : tw_T) => Q r u ∧ gN u = gN τ0) (fun u t => PM dC dI ac A ad u t.heap) A) 0 0 A := by
  refine Met.ofW (cc := cX10_isRow) (maxL := 3) (ret := (some .boolean)) (by decide) rfl ?_
  intro p e s m args below meth c s₁ B hml hv
  obtain ⟨rfl, hP, hK, hA, hZ⟩ := hv
  have hx := B.exec
  have hb := B.bytes
  have hr := B.returns
  have hts := atoms_spec (ws := wsX10_isRow) B.pre
  have hown : s.vm.findClass RX10 = some m.cls := findClass_of_methodNamed B.named
  have hlocks := B.notSynchronized
  have hS : va_S A s.heap s.heap [] := va_S.rf
  have hN : gN τ0 = gN τ0 := rfl
  have hl := lv_entry ([.ref (ad 0 k0), .int x1, .int x2]) (n := 3) (Nat.le_of_ble_eq_true rfl)
  rw [lg_entry_eq]
  generalize (lg_sl ([.ref (ad 0 k0), .int x1, .int x2]) ++ List.replicate (3 - (lg_sl ([.ref (ad 0 k0), .int x1, .int x2])).length) Slot.unset).toArray = ls at hl ⊢
  have hl : lv_has ls 3 [(0, .ref (ad 0 k0)), (1, .int x1), (2, .int x2)] := hl
  unfold F_X10_isRow at hF
  have j30 : ∀ (τ : tw_T) (y0 : Int32) (q1 : Nat) (hq1 : q1 < gN τ0 0) (H : Heap) (locs : List Loc) (ls : Array Slot), J_X10_isRow_30 τ y0 q1 Q → PM dC dI ac A ad τ H → gN τ = gN τ0 → va_S A s.heap H locs → lv_has ls 3 [] → W p l e rmX10_isRow s m ([.ref (ad 0 k0), .int x1, .int x2] : List Value).toArray below meth c H locs 0 0 (MQ below (va_Qi (fun r (u : tw_T) => Q r u ∧ gN u = gN τ0) (fun u t => PM dC dI ac A ad u t.heap) A) ([.ref (ad 0 k0), .int x1, .int x2] : List Value).toArray s 0 0 A) (F0 m 30 ls [.int y0, .ref (ad 0 q1)]) := by
    intro τ y0 q1 hq1 H locs ls hF hP hN hS hl
    unfold J_X10_isRow_30 at hF
    refine lv_iconst (v := 1) hx hb dX10_isRow_30 (by decide) ?_
    refine va_calli (va_runV (As := [.int y0, .int ((1 : Int32))]) (rest := []) ⟨hx, hb, hml, hown, hts⟩ (mX10_may l dC dI ac sa A ad τ q1 y0 ((1 : Int32)) _ hF (tw_lt hq1 (congrFun hN 0))) (cwV 2 hts gX10_isRow_X10_may rfl rfl rfl (by decide +kernel) ⟨Nat.le_of_ble_eq_true rfl, Nat.le_of_ble_eq_true rfl⟩) ⟨BM.blind, tw_recv hK hP (by decide) (tw_lt hq1 (congrFun hN 0)) rfl rfl, fun U hU hW => ⟨rfl, BM.of hP hK hS hA hZ hU hW⟩⟩ rfl rfl hl.1 rfl (lv_room (Nat.le_of_ble_eq_true rfl)) dX10_isRow_31 ⟨Nat.le_of_ble_eq_true rfl, Nat.le_of_ble_eq_true rfl⟩) hS (fun q _ h => h) (fun q h => h) (fun r2 τ1 t H locs ht hvm hw hB hz hk hS => ?_)
    obtain ⟨hF, hN9⟩ := hw
    have hP : PM dC dI ac A ad τ1 H := tw_back hB ht
    have hN : gN τ1 = gN τ0 := hN9.trans hN
    obtain ⟨hb9, hF⟩ := hF
    exact W.zret (v := r2) (ty := .boolean) hx hb hr (tw_bn hb9) (fun t ht hW => ⟨⟨r2, τ1, rfl, ⟨hF, hN⟩, tw_at hP ht⟩, hS.F ht⟩) hS.2.2 dX10_isRow_34
  have j29 : ∀ (τ : tw_T) (q0 : Nat) (hq0 : q0 < gN τ0 0) (H : Heap) (locs : List Loc) (ls : Array Slot), J_X10_isRow_29 τ q0 Q → PM dC dI ac A ad τ H → gN τ = gN τ0 → va_S A s.heap H locs → lv_has ls 3 [] → W p l e rmX10_isRow s m ([.ref (ad 0 k0), .int x1, .int x2] : List Value).toArray below meth c H locs 0 0 (MQ below (va_Qi (fun r (u : tw_T) => Q r u ∧ gN u = gN τ0) (fun u t => PM dC dI ac A ad u t.heap) A) ([.ref (ad 0 k0), .int x1, .int x2] : List Value).toArray s 0 0 A) (F0 m 29 ls [.ref (ad 0 q0)]) := by
    intro τ q0 hq0 H locs ls hF hP hN hS hl
    unfold J_X10_isRow_29 at hF
    refine lv_iconst (v := 0) hx hb dX10_isRow_29 (by decide) ?_
    exact j30 τ  ((0 : Int32)) q0 hq0 _ _ _ hF hP hN hS (lv_sub hl [] rfl)
  refine lv_aload_n hx hb dX10_isRow_0 rfl (lv_at hl 0 rfl) ?_
  refine lv_iload_n hx hb dX10_isRow_1 rfl (lv_at hl 1 rfl) ?_
  refine lv_iconst (v := 0) hx hb dX10_isRow_2 (by decide) ?_
  refine lv_aload_n hx hb dX10_isRow_3 rfl (lv_at hl 0 rfl) ?_
  refine tw_get (v := .int (gI τ0 0 k0 39)) hx hb hts (by decide +kernel) hown hK hP (by decide) hk0 rfl rfl 39 (by decide) (hts (.fieldLink RX10 254 "WineCellarModel" "sheets" "I") (by decide +kernel)) (fun _ h9 => h9) rfl dX10_isRow_4 ?_
  refine lv_iconst (v := 1) hx hb dX10_isRow_7 (by decide) ?_
  refine lv_isub hx hb dX10_isRow_8 ?_
  refine va_calli (va_runS (As := [.int x1, .int ((0 : Int32)), .int ((gI τ0 0 k0 39) - ((1 : Int32)))]) (rest := [.ref (ad 0 k0)]) ⟨hx, hb, hml, hown, hts⟩ (mX10_within l dC dI ac sa A ad τ0 x1 ((0 : Int32)) ((gI τ0 0 k0 39) - ((1 : Int32))) _ hF ) (va_cwS 3 hts gX10_isRow_X10_within rfl rfl rfl (by decide +kernel) ⟨Nat.le_of_ble_eq_true rfl, Nat.le_of_ble_eq_true rfl⟩) ⟨BM.blind, fun U hU hW => ⟨rfl, BM.of hP hK hS hA hZ hU hW⟩⟩ rfl rfl hl.1 rfl (lv_room (Nat.le_of_ble_eq_true rfl)) dX10_isRow_9 ⟨Nat.le_of_ble_eq_true rfl, Nat.le_of_ble_eq_true rfl⟩) hS (fun q _ h => h) (fun q h => h) (fun r4 τ3 t H locs ht hvm hw hB hz hk hS => ?_)
  obtain ⟨hF, hN9⟩ := hw
  have hP : PM dC dI ac A ad τ3 H := tw_back hB ht
  have hN : gN τ3 = gN τ0 := hN9.trans hN
  refine lv_if_eq (tgt := 29) hx hb dX10_isRow_12 (by decide) (fun c5 => ?_) (fun c5 => ?_)
  · have hF := hF.1 c5
    exact j29 τ3  k0 hk0 _ _ _ hF hP hN hS (lv_sub hl [] rfl)
  · have hF := hF.2 c5
    refine lv_iload_n hx hb dX10_isRow_15 rfl (lv_at hl 2 rfl) ?_
    refine lv_iconst (v := 0) hx hb dX10_isRow_16 (by decide) ?_
    refine lv_bipush (v := 9) hx hb dX10_isRow_17 (by decide) ?_
    refine va_calli (va_runS (As := [.int x2, .int ((0 : Int32)), .int ((9 : Int32))]) (rest := [.ref (ad 0 k0)]) ⟨hx, hb, hml, hown, hts⟩ (mX10_within l dC dI ac sa A ad τ3 x2 ((0 : Int32)) ((9 : Int32)) _ hF ) (va_cwS 3 hts gX10_isRow_X10_within rfl rfl rfl (by decide +kernel) ⟨Nat.le_of_ble_eq_true rfl, Nat.le_of_ble_eq_true rfl⟩) ⟨BM.blind, fun U hU hW => ⟨rfl, BM.of hP hK hS hA hZ hU hW⟩⟩ rfl rfl hl.1 rfl (lv_room (Nat.le_of_ble_eq_true rfl)) dX10_isRow_19 ⟨Nat.le_of_ble_eq_true rfl, Nat.le_of_ble_eq_true rfl⟩) hS (fun q _ h => h) (fun q h => h) (fun r7 τ6 t H locs ht hvm hw hB hz hk hS => ?_)
    obtain ⟨hF, hN9⟩ := hw
    have hP : PM dC dI ac A ad τ6 H := tw_back hB ht
    have hN : gN τ6 = gN τ0 := hN9.trans hN
    refine lv_if_eq (tgt := 29) hx hb dX10_isRow_22 (by decide) (fun c8 => ?_) (fun c8 => ?_)
    · have hF := hF.1 c8
      exact j29 τ6  k0 hk0 _ _ _ hF hP hN hS (lv_sub hl [] rfl)
    · have hF := hF.2 c8
      refine lv_iconst (v := 1) hx hb dX10_isRow_25 (by decide) ?_
      refine lv_goto (tgt := 30) hx hb dX10_isRow_26 (by decide) ?_
      exact j30 τ6  ((1 : Int32)) k0 hk0 _ _ _ hF hP hN hS (lv_sub hl [] rfl)
def L_X10_row_43 (p0 : Nat) (u1 : Int32) (u2 : Int32) (u3 : Int32) (Q : Int32 → tw_T → Prop) (EX : tw_T → Int32 → Prop) : Nat → tw_T → Int32 → Prop
  | 0, _, _ => False
  | n + 1, τ, u4 => ((((40 : Int32)) ≤ u4 → (EX τ u4)) ∧ (¬ ((40 : Int32)) ≤ u4 → (∃ o2 : Nat, gR τ 0 p0 42 = some o2 ∧ (vp_in ((((40 : Int32)) * ((((10 : Int32)) * u1) + u2)) + u4) 1600 ∧ (∀ τ4 : tw_T, τ4 = sJ τ 142 o2 ((((40 : Int32)) * ((((10 : Int32)) * u1) + u2)) + u4).toNatClampNeg ((0 : Int64)) → (∀ z5 : Int32, z5 = u4 + (1 : Int32) → (L_X10_row_43 p0 u1 u2 u3 Q EX n τ4 z5)))))))
def F_X10_row (τ0 : tw_T) (k0 : Nat) (x1 : Int32) (x2 : Int32) (x3 : Int32) (Q : Int32 → tw_T → Prop) : Prop := ∀ τ6 : tw_T, τ6 = sI τ0 0 k0 0 ((0 : Int32)) → (F_X10_isRow τ6 k0 x1 x2 (fun (r8 : Int32) (τ7 : tw_T) => (((¬ r8 = 0 → (F_X10_within τ7 x3 ((0 : Int32)) ((40 : Int32)) (fun (r11 : Int32) (τ10 : tw_T) => (((¬ r11 = 0 → (∃ o13 : Nat, gR τ10 0 k0 41 = some o13 ∧ (vp_in ((((10 : Int32)) * x1) + x2) 40 ∧ (∀ τ15 : tw_T, τ15 = sI τ10 141 o13 ((((10 : Int32)) * x1) + x2).toNatClampNeg x3 → (∃ n16 : Nat, L_X10_row_43 k0 x1 x2 x3 Q (fun (τ17 : tw_T) (z18 : Int32) => Q x3 τ17) n16 τ15 ((0 : Int32))))))) ∧ (r11 = 0 → (Q ((-1 : Int32)) τ10))))))) ∧ (r8 = 0 → (Q ((0 : Int32)) τ7))))))
def rmX10_row : Room := { frames := 2, cells := 0, slots := 0, locals := 44 }
set_option maxHeartbeats 4000000 in
set_option maxRecDepth 100000 in
theorem mX10_row (l : Launch) (dC : Nat → ClassId) (dI : Nat → Nat → Nat) (ac : Nat → ClassId) (sa : Nat → Nat) (A : Nat → Prop) (ad : Nat → Nat → Nat) (τ0 : tw_T) (k0 : Nat) (x1 : Int32) (x2 : Int32) (x3 : Int32) (Q : Int32 → tw_T → Prop) (hF : F_X10_row τ0 k0 x1 x2 x3 Q) (hk0 : k0 < gN τ0 0) : Met l yX10_row wsX10_row rmX10_row (va_Pc [.ref (ad 0 k0), .int x1, .int x2, .int x3] (BM dC dI ac sa A ad τ0)) (va_Qi (fun r (u : tw_T) => Q r u ∧ gN u = gN τ0) (fun u t => PM dC dI ac A ad u t.heap) A) 0 0 A := by
  refine Met.ofW (cc := cX10_row) (maxL := 5) (ret := (some .int)) (by decide) rfl ?_
  intro p e s m args below meth c s₁ B hml hv
  obtain ⟨rfl, hP, hK, hA, hZ⟩ := hv
  have hx := B.exec
  have hb := B.bytes
  have hr := B.returns
  have hts := atoms_spec (ws := wsX10_row) B.pre
  have hown : s.vm.findClass RX10 = some m.cls := findClass_of_methodNamed B.named
  have hlocks := B.notSynchronized
  have hS : va_S A s.heap s.heap [] := va_S.rf
  have hN : gN τ0 = gN τ0 := rfl
  have hl := lv_entry ([.ref (ad 0 k0), .int x1, .int x2, .int x3]) (n := 5) (Nat.le_of_ble_eq_true rfl)
  rw [lg_entry_eq]
  generalize (lg_sl ([.ref (ad 0 k0), .int x1, .int x2, .int x3]) ++ List.replicate (5 - (lg_sl ([.ref (ad 0 k0), .int x1, .int x2, .int x3])).length) Slot.unset).toArray = ls at hl ⊢
  have hl : lv_has ls 5 [(0, .ref (ad 0 k0)), (1, .int x1), (2, .int x2), (3, .int x3)] := hl
  unfold F_X10_row at hF
  have l43 : ∀ (p0 : Nat) (hp0 : p0 < gN τ0 0) (u1 : Int32) (u2 : Int32) (u3 : Int32) (EX : tw_T → Int32 → Prop) (n : Nat) (τ : tw_T) (u4 : Int32) (H : Heap) (locs : List Loc) (ls : Array Slot), L_X10_row_43 p0 u1 u2 u3 Q EX n τ u4 → PM dC dI ac A ad τ H → gN τ = gN τ0 → va_S A s.heap H locs → lv_has ls 5 [(0, .ref (ad 0 p0)), (1, .int u1), (2, .int u2), (3, .int u3), (4, .int u4)] → (∀ (τ : tw_T) (u4 : Int32) (H : Heap) (locs : List Loc) (ls : Array Slot), EX τ u4 → PM dC dI ac A ad τ H → gN τ = gN τ0 → va_S A s.heap H locs → lv_has ls 5 [(0, .ref (ad 0 p0)), (1, .int u1), (2, .int u2), (3, .int u3), (4, .int u4)] → W p l e rmX10_row s m ([.ref (ad 0 k0), .int x1, .int x2, .int x3] : List Value).toArray below meth c H locs 0 0 (MQ below (va_Qi (fun r (u : tw_T) => Q r u ∧ gN u = gN τ0) (fun u t => PM dC dI ac A ad u t.heap) A) ([.ref (ad 0 k0), .int x1, .int x2, .int x3] : List Value).toArray s 0 0 A) (F0 m 74 ls [])) → W p l e rmX10_row s m ([.ref (ad 0 k0), .int x1, .int x2, .int x3] : List Value).toArray below meth c H locs 0 0 (MQ below (va_Qi (fun r (u : tw_T) => Q r u ∧ gN u = gN τ0) (fun u t => PM dC dI ac A ad u t.heap) A) ([.ref (ad 0 k0), .int x1, .int x2, .int x3] : List Value).toArray s 0 0 A) (F0 m 43 ls []) := by
    intro p0 hp0 u1 u2 u3 EX n
    induction n with
    | zero => intro τ u4 H locs ls hF; exact hF.elim
    | succ n ih =>
      intro τ u4 H locs ls hF hP hN hS hl hEX
      rw [L_X10_row_43] at hF
      refine lv_iload hx hb dX10_row_43 (lv_at hl 4 rfl) ?_
      refine lv_bipush (v := 40) hx hb dX10_row_45 (by decide) ?_
      refine lv_icmp_ge (tgt := 74) hx hb dX10_row_47 (by decide) (fun c1 => ?_) (fun c1 => ?_)
      · have hF := hF.1 c1
        exact hEX τ u4 _ _ _ hF hP hN hS (lv_sub hl [0, 1, 2, 3, 4] rfl)
      · have hF := hF.2 c1
        refine lv_aload_n hx hb dX10_row_50 rfl (lv_at hl 0 rfl) ?_
        obtain ⟨o2, eo2, hF⟩ := hF
        have ho2 : o2 < gN τ0 142 := tw_lt (hP.2.2.2 0 p0 42 o2 (by decide) (tw_lt hp0 (congrFun hN 0)) eo2) (congrFun hN 142).symm
        refine tw_get (v := .ref (ad 142 o2)) hx hb hts (by decide +kernel) hown hK hP (by decide) (tw_lt hp0 (congrFun hN 0)) rfl rfl 42 (by decide) (hts (.fieldLink RX10 83 "WineCellarModel" "number" "[J") (by decide +kernel)) (fun _ h9 => h9) (show some (va_rf ((gR τ 0 p0 42).map (ad 142))) = some (.ref (ad 142 o2)) by rw [eo2]; rfl) dX10_row_51 ?_
        refine lv_bipush (v := 40) hx hb dX10_row_54 (by decide) ?_
        refine lv_bipush (v := 10) hx hb dX10_row_56 (by decide) ?_
        refine lv_iload_n hx hb dX10_row_58 rfl (lv_at hl 1 rfl) ?_
        refine lv_imul hx hb dX10_row_59 ?_
        refine lv_iload_n hx hb dX10_row_60 rfl (lv_at hl 2 rfl) ?_
        refine lv_iadd hx hb dX10_row_61 ?_
        refine lv_imul hx hb dX10_row_62 ?_
        refine lv_iload hx hb dX10_row_63 (lv_at hl 4 rfl) ?_
        refine lv_iadd hx hb dX10_row_65 ?_
        refine lv_lconst (v := 0) hx hb dX10_row_66 (by decide) ?_
        obtain ⟨hi3, hF⟩ := hF
        refine tw_last hx hb hK hP hS (by decide) (tw_lt ho2 (congrFun hN 142)) rfl 1 rfl hi3 dX10_row_67 (fun H locs hP hS => ?_)
        obtain ⟨τ4, eτ4⟩ : ∃ y : tw_T, y = sJ τ 142 o2 ((((40 : Int32)) * ((((10 : Int32)) * u1) + u2)) + u4).toNatClampNeg ((0 : Int64)) := ⟨_, rfl⟩
        have hF := hF τ4 eτ4
        rw [← eτ4] at hP
        have hN : gN τ4 = gN τ0 := by rw [eτ4]; exact hN
        obtain ⟨z5, ez5⟩ : ∃ y : Int32, y = u4 + (1 : Int32) := ⟨_, rfl⟩
        have hF := hF z5 ez5
        refine lv_iinc (v := z5) (lv' := [(4, .int z5), (0, .ref (ad 0 p0)), (1, .int u1), (2, .int u2), (3, .int u3)]) hx hb dX10_row_68 hl (k := 4) rfl (by rw [ez5]; rfl) (by decide) rfl (fun ls hl => ?_)
        refine lv_goto (tgt := 43) hx hb dX10_row_71 (by decide) ?_
        exact ih τ4 z5 _ _ _ hF hP hN hS (lv_sub hl [1, 2, 3, 4, 0] rfl) hEX
  refine lv_aload_n hx hb dX10_row_0 rfl (lv_at hl 0 rfl) ?_
  refine lv_iconst (v := 0) hx hb dX10_row_1 (by decide) ?_
  refine tw_put (τ' := sI τ0 0 k0 0 ((0 : Int32))) (ty := .int) hx hb hts (by decide +kernel) tyX10 tyX10_ok nmX10 hown hK hP hS (by decide) hk0 rfl rfl 0 (by decide) (hts (.fieldLink RX10 1 "WineCellarModel" "thrown" "I") (by decide +kernel)) (fun _ h9 => h9) rfl (by decide +kernel) rfl rfl (Nat.le_of_ble_eq_true rfl) dX10_row_2 (fun H1 ha ho => tw_updI hP (by decide) hk0 ha ho) (fun H locs hP hS => ?_)
  obtain ⟨τ6, eτ6⟩ : ∃ y : tw_T, y = sI τ0 0 k0 0 ((0 : Int32)) := ⟨_, rfl⟩
  have hF := hF τ6 eτ6
  rw [← eτ6] at hP
  have hN : gN τ6 = gN τ0 := by rw [eτ6]; exact hN
  refine lv_aload_n hx hb dX10_row_5 rfl (lv_at hl 0 rfl) ?_
  refine lv_iload_n hx hb dX10_row_6 rfl (lv_at hl 1 rfl) ?_
  refine lv_iload_n hx hb dX10_row_7 rfl (lv_at hl 2 rfl) ?_
  refine va_calli (va_runV (As := [.int x1, .int x2]) (rest := []) ⟨hx, hb, hml, hown, hts⟩ (mX10_isRow l dC dI ac sa A ad τ6 k0 x1 x2 _ hF (tw_lt hk0 (congrFun hN 0))) (cwV 2 hts gX10_row_X10_isRow rfl rfl rfl (by decide +kernel) ⟨Nat.le_of_ble_eq_true rfl, Nat.le_of_ble_eq_true rfl⟩) ⟨BM.blind, tw_recv hK hP (by decide) (tw_lt hk0 (congrFun hN 0)) rfl rfl, fun U hU hW => ⟨rfl, BM.of hP hK hS hA hZ hU hW⟩⟩ rfl rfl hl.1 rfl (lv_room (Nat.le_of_ble_eq_true rfl)) dX10_row_8 ⟨Nat.le_of_ble_eq_true rfl, Nat.le_of_ble_eq_true rfl⟩) hS (fun q _ h => h) (fun q h => h) (fun r8 τ7 t H locs ht hvm hw hB hz hk hS => ?_)
  obtain ⟨hF, hN9⟩ := hw
  have hP : PM dC dI ac A ad τ7 H := tw_back hB ht
  have hN : gN τ7 = gN τ0 := hN9.trans hN
  refine lv_if_ne (tgt := 16) hx hb dX10_row_11 (by decide) (fun c9 => ?_) (fun c9 => ?_)
  · have hF := hF.1 c9
    refine lv_iload_n hx hb dX10_row_16 rfl (lv_at hl 3 rfl) ?_
    refine lv_iconst (v := 0) hx hb dX10_row_17 (by decide) ?_
    refine lv_bipush (v := 40) hx hb dX10_row_18 (by decide) ?_
    refine va_calli (va_runS (As := [.int x3, .int ((0 : Int32)), .int ((40 : Int32))]) (rest := []) ⟨hx, hb, hml, hown, hts⟩ (mX10_within l dC dI ac sa A ad τ7 x3 ((0 : Int32)) ((40 : Int32)) _ hF ) (va_cwS 3 hts gX10_row_X10_within rfl rfl rfl (by decide +kernel) ⟨Nat.le_of_ble_eq_true rfl, Nat.le_of_ble_eq_true rfl⟩) ⟨BM.blind, fun U hU hW => ⟨rfl, BM.of hP hK hS hA hZ hU hW⟩⟩ rfl rfl hl.1 rfl (lv_room (Nat.le_of_ble_eq_true rfl)) dX10_row_20 ⟨Nat.le_of_ble_eq_true rfl, Nat.le_of_ble_eq_true rfl⟩) hS (fun q _ h => h) (fun q h => h) (fun r11 τ10 t H locs ht hvm hw hB hz hk hS => ?_)
    obtain ⟨hF, hN9⟩ := hw
    have hP : PM dC dI ac A ad τ10 H := tw_back hB ht
    have hN : gN τ10 = gN τ0 := hN9.trans hN
    refine lv_if_ne (tgt := 28) hx hb dX10_row_23 (by decide) (fun c12 => ?_) (fun c12 => ?_)
    · have hF := hF.1 c12
      refine lv_aload_n hx hb dX10_row_28 rfl (lv_at hl 0 rfl) ?_
      obtain ⟨o13, eo13, hF⟩ := hF
      have ho13 : o13 < gN τ0 141 := tw_lt (hP.2.2.2 0 k0 41 o13 (by decide) (tw_lt hk0 (congrFun hN 0)) eo13) (congrFun hN 141).symm
      refine tw_get (v := .ref (ad 141 o13)) hx hb hts (by decide +kernel) hown hK hP (by decide) (tw_lt hk0 (congrFun hN 0)) rfl rfl 41 (by decide) (hts (.fieldLink RX10 80 "WineCellarModel" "rowSize" "[I") (by decide +kernel)) (fun _ h9 => h9) (show some (va_rf ((gR τ10 0 k0 41).map (ad 141))) = some (.ref (ad 141 o13)) by rw [eo13]; rfl) dX10_row_29 ?_
      refine lv_bipush (v := 10) hx hb dX10_row_32 (by decide) ?_
      refine lv_iload_n hx hb dX10_row_34 rfl (lv_at hl 1 rfl) ?_
      refine lv_imul hx hb dX10_row_35 ?_
      refine lv_iload_n hx hb dX10_row_36 rfl (lv_at hl 2 rfl) ?_
      refine lv_iadd hx hb dX10_row_37 ?_
      refine lv_iload_n hx hb dX10_row_38 rfl (lv_at hl 3 rfl) ?_
      obtain ⟨hi14, hF⟩ := hF
      refine tw_iast hx hb hK hP hS (by decide) (tw_lt ho13 (congrFun hN 141)) rfl 0 rfl hi14 dX10_row_39 (fun H locs hP hS => ?_)
      obtain ⟨τ15, eτ15⟩ : ∃ y : tw_T, y = sI τ10 141 o13 ((((10 : Int32)) * x1) + x2).toNatClampNeg x3 := ⟨_, rfl⟩
      have hF := hF τ15 eτ15
      rw [← eτ15] at hP
      have hN : gN τ15 = gN τ0 := by rw [eτ15]; exact hN
      refine lv_iconst (v := 0) hx hb dX10_row_40 (by decide) ?_
      refine lv_istore (lv' := [(4, .int ((0 : Int32))), (0, .ref (ad 0 k0)), (1, .int x1), (2, .int x2), (3, .int x3)]) hx hb dX10_row_41 hl (by decide) rfl (fun ls hl => ?_)
      obtain ⟨n16, hF⟩ := hF
      refine l43 k0 hk0 x1 x2 x3 _ n16 τ15 ((0 : Int32)) _ _ _ hF hP hN hS (lv_sub hl [1, 2, 3, 4, 0] rfl) ?_
      intro τ17 z18 H locs ls hF hP hN hS hl
      refine lv_iload_n hx hb dX10_row_74 rfl (lv_at hl 3 rfl) ?_
      exact W.iret (v := x3) hx hb hr (fun t ht hW => ⟨⟨x3, τ17, rfl, ⟨hF, hN⟩, tw_at hP ht⟩, hS.F ht⟩) hS.2.2 dX10_row_75
    · have hF := hF.2 c12
      refine lv_iconst (v := (-1)) hx hb dX10_row_26 (by decide) ?_
      exact W.iret (v := (-1 : Int32)) hx hb hr (fun t ht hW => ⟨⟨((-1 : Int32)), τ10, rfl, ⟨hF, hN⟩, tw_at hP ht⟩, hS.F ht⟩) hS.2.2 dX10_row_27
  · have hF := hF.2 c9
    refine lv_iconst (v := 0) hx hb dX10_row_14 (by decide) ?_
    exact W.iret (v := (0 : Int32)) hx hb hr (fun t ht hW => ⟨⟨((0 : Int32)), τ7, rfl, ⟨hF, hN⟩, tw_at hP ht⟩, hS.F ht⟩) hS.2.2 dX10_row_15
def J_X10_set_104 (τ : tw_T) (y0 : Int64) (y1 : Int32) (q2 : Nat) (Q : Int32 → tw_T → Prop) : Prop := vp_in y1 1600 ∧ (∀ τ2 : tw_T, τ2 = sJ τ 142 q2 y1.toNatClampNeg y0 → (Q ((1 : Int32)) τ2))
def F_X10_set (τ0 : tw_T) (k0 : Nat) (x1 : Int32) (x2 : Int32) (x3 : Int32) (x4 : Int64) (Q : Int32 → tw_T → Prop) : Prop := ∀ τ3 : tw_T, τ3 = sI τ0 0 k0 0 ((0 : Int32)) → (F_X10_isRow τ3 k0 x1 x2 (fun (r5 : Int32) (τ4 : tw_T) => (((¬ r5 = 0 → (∀ z7 : Int32, z7 = (((10 : Int32)) * x1) + x2 → (∃ o8 : Nat, gR τ4 0 k0 41 = some o8 ∧ (vp_in z7 40 ∧ (((¬ (gI τ4 141 o8 z7.toNatClampNeg) = ((-1 : Int32)) → (∃ o11 : Nat, gR τ4 0 k0 41 = some o11 ∧ (vp_in z7 40 ∧ (F_X10_within τ4 x3 ((0 : Int32)) ((gI τ4 141 o11 z7.toNatClampNeg) - ((1 : Int32))) (fun (r14 : Int32) (τ13 : tw_T) => (((¬ r14 = 0 → (∃ o16 : Nat, gR τ13 0 k0 42 = some o16 ∧ (∃ o17 : Nat, gR τ13 0 k0 40 = some o17 ∧ (vp_in x1 4 ∧ (((¬ (gI τ13 140 o17 x1.toNatClampNeg) = 0 → (∃ o20 : Nat, gR τ13 0 k0 40 = some o20 ∧ (vp_in x1 4 ∧ (((¬ (gI τ13 140 o20 x1.toNatClampNeg) = ((1 : Int32)) → (J_X10_set_104 τ13  x4 ((((40 : Int32)) * z7) + x3) o16 Q)) ∧ ((gI τ13 140 o20 x1.toNatClampNeg) = ((1 : Int32)) → (J_X10_set_104 τ13  x4.toInt32.toInt64 ((((40 : Int32)) * z7) + x3) o16 Q))))))) ∧ ((gI τ13 140 o17 x1.toNatClampNeg) = 0 → (J_X10_set_104 τ13  x4.toInt32.toInt16.toInt32.toInt64 ((((40 : Int32)) * z7) + x3) o16 Q)))))))) ∧ (r14 = 0 → (Q ((-2 : Int32)) τ13))))))))) ∧ ((gI τ4 141 o8 z7.toNatClampNeg) = ((-1 : Int32)) → (Q ((-1 : Int32)) τ4)))))))) ∧ (r5 = 0 → (Q ((0 : Int32)) τ4))))))
def rmX10_set : Room := { frames := 2, cells := 0, slots := 0, locals := 44 }
set_option maxHeartbeats 4000000 in
set_option maxRecDepth 100000 in
theorem mX10_set (l : Launch) (dC : Nat → ClassId) (dI : Nat → Nat → Nat) (ac : Nat → ClassId) (sa : Nat → Nat) (A : Nat → Prop) (ad : Nat → Nat → Nat) (τ0 : tw_T) (k0 : Nat) (x1 : Int32) (x2 : Int32) (x3 : Int32) (x4 : Int64) (Q : Int32 → tw_T → Prop) (hF : F_X10_set τ0 k0 x1 x2 x3 x4 Q) (hk0 : k0 < gN τ0 0) : Met l yX10_set wsX10_set rmX10_set (va_Pc [.ref (ad 0 k0), .int x1, .int x2, .int x3, .long x4] (BM dC dI ac sa A ad τ0)) (va_Qi (fun r (u : tw_T) => Q r u ∧ gN u = gN τ0) (fun u t => PM dC dI ac A ad u t.heap) A) 0 0 A := by
  refine Met.ofW (cc := cX10_set) (maxL := 7) (ret := (some .int)) (by decide) rfl ?_
  intro p e s m args below meth c s₁ B hml hv
  obtain ⟨rfl, hP, hK, hA, hZ⟩ := hv
  have hx := B.exec
  have hb := B.bytes
  have hr := B.returns
  have hts := atoms_spec (ws := wsX10_set) B.pre
  have hown : s.vm.findClass RX10 = some m.cls := findClass_of_methodNamed B.named
  have hlocks := B.notSynchronized
  have hS : va_S A s.heap s.heap [] := va_S.rf
  have hN : gN τ0 = gN τ0 := rfl
  have hl := lv_entry ([.ref (ad 0 k0), .int x1, .int x2, .int x3, .long x4]) (n := 7) (Nat.le_of_ble_eq_true rfl)
  rw [lg_entry_eq]
  generalize (lg_sl ([.ref (ad 0 k0), .int x1, .int x2, .int x3, .long x4]) ++ List.replicate (7 - (lg_sl ([.ref (ad 0 k0), .int x1, .int x2, .int x3, .long x4])).length) Slot.unset).toArray = ls at hl ⊢
  have hl : lv_has ls 7 [(0, .ref (ad 0 k0)), (1, .int x1), (2, .int x2), (3, .int x3), (4, .long x4)] := hl
  unfold F_X10_set at hF
  have j104 : ∀ (τ : tw_T) (y0 : Int64) (y1 : Int32) (q2 : Nat) (hq2 : q2 < gN τ0 142) (H : Heap) (locs : List Loc) (ls : Array Slot), J_X10_set_104 τ y0 y1 q2 Q → PM dC dI ac A ad τ H → gN τ = gN τ0 → va_S A s.heap H locs → lv_has ls 7 [] → W p l e rmX10_set s m ([.ref (ad 0 k0), .int x1, .int x2, .int x3, .long x4] : List Value).toArray below meth c H locs 0 0 (MQ below (va_Qi (fun r (u : tw_T) => Q r u ∧ gN u = gN τ0) (fun u t => PM dC dI ac A ad u t.heap) A) ([.ref (ad 0 k0), .int x1, .int x2, .int x3, .long x4] : List Value).toArray s 0 0 A) (F0 m 104 ls [.long y0, .int y1, .ref (ad 142 q2)]) := by
    intro τ y0 y1 q2 hq2 H locs ls hF hP hN hS hl
    unfold J_X10_set_104 at hF
    obtain ⟨hi1, hF⟩ := hF
    refine tw_last hx hb hK hP hS (by decide) (tw_lt hq2 (congrFun hN 142)) rfl 1 rfl hi1 dX10_set_104 (fun H locs hP hS => ?_)
    obtain ⟨τ2, eτ2⟩ : ∃ y : tw_T, y = sJ τ 142 q2 y1.toNatClampNeg y0 := ⟨_, rfl⟩
    have hF := hF τ2 eτ2
    rw [← eτ2] at hP
    have hN : gN τ2 = gN τ0 := by rw [eτ2]; exact hN
    refine lv_iconst (v := 1) hx hb dX10_set_105 (by decide) ?_
    exact W.iret (v := (1 : Int32)) hx hb hr (fun t ht hW => ⟨⟨((1 : Int32)), τ2, rfl, ⟨hF, hN⟩, tw_at hP ht⟩, hS.F ht⟩) hS.2.2 dX10_set_106
  refine lv_aload_n hx hb dX10_set_0 rfl (lv_at hl 0 rfl) ?_
  refine lv_iconst (v := 0) hx hb dX10_set_1 (by decide) ?_
  refine tw_put (τ' := sI τ0 0 k0 0 ((0 : Int32))) (ty := .int) hx hb hts (by decide +kernel) tyX10 tyX10_ok nmX10 hown hK hP hS (by decide) hk0 rfl rfl 0 (by decide) (hts (.fieldLink RX10 1 "WineCellarModel" "thrown" "I") (by decide +kernel)) (fun _ h9 => h9) rfl (by decide +kernel) rfl rfl (Nat.le_of_ble_eq_true rfl) dX10_set_2 (fun H1 ha ho => tw_updI hP (by decide) hk0 ha ho) (fun H locs hP hS => ?_)
  obtain ⟨τ3, eτ3⟩ : ∃ y : tw_T, y = sI τ0 0 k0 0 ((0 : Int32)) := ⟨_, rfl⟩
  have hF := hF τ3 eτ3
  rw [← eτ3] at hP
  have hN : gN τ3 = gN τ0 := by rw [eτ3]; exact hN
  refine lv_aload_n hx hb dX10_set_5 rfl (lv_at hl 0 rfl) ?_
  refine lv_iload_n hx hb dX10_set_6 rfl (lv_at hl 1 rfl) ?_
  refine lv_iload_n hx hb dX10_set_7 rfl (lv_at hl 2 rfl) ?_
  refine va_calli (va_runV (As := [.int x1, .int x2]) (rest := []) ⟨hx, hb, hml, hown, hts⟩ (mX10_isRow l dC dI ac sa A ad τ3 k0 x1 x2 _ hF (tw_lt hk0 (congrFun hN 0))) (cwV 2 hts gX10_set_X10_isRow rfl rfl rfl (by decide +kernel) ⟨Nat.le_of_ble_eq_true rfl, Nat.le_of_ble_eq_true rfl⟩) ⟨BM.blind, tw_recv hK hP (by decide) (tw_lt hk0 (congrFun hN 0)) rfl rfl, fun U hU hW => ⟨rfl, BM.of hP hK hS hA hZ hU hW⟩⟩ rfl rfl hl.1 rfl (lv_room (Nat.le_of_ble_eq_true rfl)) dX10_set_8 ⟨Nat.le_of_ble_eq_true rfl, Nat.le_of_ble_eq_true rfl⟩) hS (fun q _ h => h) (fun q h => h) (fun r5 τ4 t H locs ht hvm hw hB hz hk hS => ?_)
  obtain ⟨hF, hN9⟩ := hw
  have hP : PM dC dI ac A ad τ4 H := tw_back hB ht
  have hN : gN τ4 = gN τ0 := hN9.trans hN
  refine lv_if_ne (tgt := 16) hx hb dX10_set_11 (by decide) (fun c6 => ?_) (fun c6 => ?_)
  · have hF := hF.1 c6
    refine lv_bipush (v := 10) hx hb dX10_set_16 (by decide) ?_
    refine lv_iload_n hx hb dX10_set_18 rfl (lv_at hl 1 rfl) ?_
    refine lv_imul hx hb dX10_set_19 ?_
    refine lv_iload_n hx hb dX10_set_20 rfl (lv_at hl 2 rfl) ?_
    refine lv_iadd hx hb dX10_set_21 ?_
    refine lv_topi (fun z7 ez7 => ?_)
    have hF := hF z7 ez7
    refine lv_istore (lv' := [(6, .int z7), (0, .ref (ad 0 k0)), (1, .int x1), (2, .int x2), (3, .int x3), (4, .long x4)]) hx hb dX10_set_22 hl (by decide) rfl (fun ls hl => ?_)
    refine lv_aload_n hx hb dX10_set_24 rfl (lv_at hl 1 rfl) ?_
    obtain ⟨o8, eo8, hF⟩ := hF
    have ho8 : o8 < gN τ0 141 := tw_lt (hP.2.2.2 0 k0 41 o8 (by decide) (tw_lt hk0 (congrFun hN 0)) eo8) (congrFun hN 141).symm
    refine tw_get (v := .ref (ad 141 o8)) hx hb hts (by decide +kernel) hown hK hP (by decide) (tw_lt hk0 (congrFun hN 0)) rfl rfl 41 (by decide) (hts (.fieldLink RX10 80 "WineCellarModel" "rowSize" "[I") (by decide +kernel)) (fun _ h9 => h9) (show some (va_rf ((gR τ4 0 k0 41).map (ad 141))) = some (.ref (ad 141 o8)) by rw [eo8]; rfl) dX10_set_25 ?_
    refine lv_iload hx hb dX10_set_28 (lv_at hl 0 rfl) ?_
    obtain ⟨hi9, hF⟩ := hF
    refine tw_iald hx hb hK hP (by decide) (tw_lt ho8 (congrFun hN 141)) rfl 0 rfl hi9 dX10_set_30 ?_
    refine lv_iconst (v := (-1)) hx hb dX10_set_31 (by decide) ?_
    refine lv_icmp_ne (tgt := 37) hx hb dX10_set_32 (by decide) (fun c10 => ?_) (fun c10 => ?_)
    · have hF := hF.1 c10
      refine lv_iload_n hx hb dX10_set_37 rfl (lv_at hl 4 rfl) ?_
      refine lv_iconst (v := 0) hx hb dX10_set_38 (by decide) ?_
      refine lv_aload_n hx hb dX10_set_39 rfl (lv_at hl 1 rfl) ?_
      obtain ⟨o11, eo11, hF⟩ := hF
      have ho11 : o11 < gN τ0 141 := tw_lt (hP.2.2.2 0 k0 41 o11 (by decide) (tw_lt hk0 (congrFun hN 0)) eo11) (congrFun hN 141).symm
      refine tw_get (v := .ref (ad 141 o11)) hx hb hts (by decide +kernel) hown hK hP (by decide) (tw_lt hk0 (congrFun hN 0)) rfl rfl 41 (by decide) (hts (.fieldLink RX10 80 "WineCellarModel" "rowSize" "[I") (by decide +kernel)) (fun _ h9 => h9) (show some (va_rf ((gR τ4 0 k0 41).map (ad 141))) = some (.ref (ad 141 o11)) by rw [eo11]; rfl) dX10_set_40 ?_
      refine lv_iload hx hb dX10_set_43 (lv_at hl 0 rfl) ?_
      obtain ⟨hi12, hF⟩ := hF
      refine tw_iald hx hb hK hP (by decide) (tw_lt ho11 (congrFun hN 141)) rfl 0 rfl hi12 dX10_set_45 ?_
      refine lv_iconst (v := 1) hx hb dX10_set_46 (by decide) ?_
      refine lv_isub hx hb dX10_set_47 ?_
      refine va_calli (va_runS (As := [.int x3, .int ((0 : Int32)), .int ((gI τ4 141 o11 z7.toNatClampNeg) - ((1 : Int32)))]) (rest := []) ⟨hx, hb, hml, hown, hts⟩ (mX10_within l dC dI ac sa A ad τ4 x3 ((0 : Int32)) ((gI τ4 141 o11 z7.toNatClampNeg) - ((1 : Int32))) _ hF ) (va_cwS 3 hts gX10_set_X10_within rfl rfl rfl (by decide +kernel) ⟨Nat.le_of_ble_eq_true rfl, Nat.le_of_ble_eq_true rfl⟩) ⟨BM.blind, fun U hU hW => ⟨rfl, BM.of hP hK hS hA hZ hU hW⟩⟩ rfl rfl hl.1 rfl (lv_room (Nat.le_of_ble_eq_true rfl)) dX10_set_48 ⟨Nat.le_of_ble_eq_true rfl, Nat.le_of_ble_eq_true rfl⟩) hS (fun q _ h => h) (fun q h => h) (fun r14 τ13 t H locs ht hvm hw hB hz hk hS => ?_)
      obtain ⟨hF, hN9⟩ := hw
      have hP : PM dC dI ac A ad τ13 H := tw_back hB ht
      have hN : gN τ13 = gN τ0 := hN9.trans hN
      refine lv_if_ne (tgt := 57) hx hb dX10_set_51 (by decide) (fun c15 => ?_) (fun c15 => ?_)
      · have hF := hF.1 c15
        refine lv_aload_n hx hb dX10_set_57 rfl (lv_at hl 1 rfl) ?_
        obtain ⟨o16, eo16, hF⟩ := hF
        have ho16 : o16 < gN τ0 142 := tw_lt (hP.2.2.2 0 k0 42 o16 (by decide) (tw_lt hk0 (congrFun hN 0)) eo16) (congrFun hN 142).symm
        refine tw_get (v := .ref (ad 142 o16)) hx hb hts (by decide +kernel) hown hK hP (by decide) (tw_lt hk0 (congrFun hN 0)) rfl rfl 42 (by decide) (hts (.fieldLink RX10 83 "WineCellarModel" "number" "[J") (by decide +kernel)) (fun _ h9 => h9) (show some (va_rf ((gR τ13 0 k0 42).map (ad 142))) = some (.ref (ad 142 o16)) by rw [eo16]; rfl) dX10_set_58 ?_
        refine lv_bipush (v := 40) hx hb dX10_set_61 (by decide) ?_
        refine lv_iload hx hb dX10_set_63 (lv_at hl 0 rfl) ?_
        refine lv_imul hx hb dX10_set_65 ?_
        refine lv_iload_n hx hb dX10_set_66 rfl (lv_at hl 4 rfl) ?_
        refine lv_iadd hx hb dX10_set_67 ?_
        refine lv_aload_n hx hb dX10_set_68 rfl (lv_at hl 1 rfl) ?_
        obtain ⟨o17, eo17, hF⟩ := hF
        have ho17 : o17 < gN τ0 140 := tw_lt (hP.2.2.2 0 k0 40 o17 (by decide) (tw_lt hk0 (congrFun hN 0)) eo17) (congrFun hN 140).symm
        refine tw_get (v := .ref (ad 140 o17)) hx hb hts (by decide +kernel) hown hK hP (by decide) (tw_lt hk0 (congrFun hN 0)) rfl rfl 40 (by decide) (hts (.fieldLink RX10 77 "WineCellarModel" "width" "[I") (by decide +kernel)) (fun _ h9 => h9) (show some (va_rf ((gR τ13 0 k0 40).map (ad 140))) = some (.ref (ad 140 o17)) by rw [eo17]; rfl) dX10_set_69 ?_
        refine lv_iload_n hx hb dX10_set_72 rfl (lv_at hl 2 rfl) ?_
        obtain ⟨hi18, hF⟩ := hF
        refine tw_iald hx hb hK hP (by decide) (tw_lt ho17 (congrFun hN 140)) rfl 0 rfl hi18 dX10_set_73 ?_
        refine lv_if_ne (tgt := 85) hx hb dX10_set_74 (by decide) (fun c19 => ?_) (fun c19 => ?_)
        · have hF := hF.1 c19
          refine lv_aload_n hx hb dX10_set_85 rfl (lv_at hl 1 rfl) ?_
          obtain ⟨o20, eo20, hF⟩ := hF
          have ho20 : o20 < gN τ0 140 := tw_lt (hP.2.2.2 0 k0 40 o20 (by decide) (tw_lt hk0 (congrFun hN 0)) eo20) (congrFun hN 140).symm
          refine tw_get (v := .ref (ad 140 o20)) hx hb hts (by decide +kernel) hown hK hP (by decide) (tw_lt hk0 (congrFun hN 0)) rfl rfl 40 (by decide) (hts (.fieldLink RX10 77 "WineCellarModel" "width" "[I") (by decide +kernel)) (fun _ h9 => h9) (show some (va_rf ((gR τ13 0 k0 40).map (ad 140))) = some (.ref (ad 140 o20)) by rw [eo20]; rfl) dX10_set_86 ?_
          refine lv_iload_n hx hb dX10_set_89 rfl (lv_at hl 2 rfl) ?_
          obtain ⟨hi21, hF⟩ := hF
          refine tw_iald hx hb hK hP (by decide) (tw_lt ho20 (congrFun hN 140)) rfl 0 rfl hi21 dX10_set_90 ?_
          refine lv_iconst (v := 1) hx hb dX10_set_91 (by decide) ?_
          refine lv_icmp_ne (tgt := 102) hx hb dX10_set_92 (by decide) (fun c22 => ?_) (fun c22 => ?_)
          · have hF := hF.1 c22
            refine lv_lload hx hb dX10_set_102 (lv_at hl 5 rfl) ?_
            exact j104 τ13  x4 ((((40 : Int32)) * z7) + x3) o16 ho16 _ _ _ hF hP hN hS (lv_sub hl [] rfl)
          · have hF := hF.2 c22
            refine lv_lload hx hb dX10_set_95 (lv_at hl 5 rfl) ?_
            refine lv_l2i (v := x4.toInt32) hx hb dX10_set_97 rfl ?_
            refine lv_i2l (v := x4.toInt32.toInt64) hx hb dX10_set_98 rfl ?_
            refine lv_goto (tgt := 104) hx hb dX10_set_99 (by decide) ?_
            exact j104 τ13  x4.toInt32.toInt64 ((((40 : Int32)) * z7) + x3) o16 ho16 _ _ _ hF hP hN hS (lv_sub hl [] rfl)
        · have hF := hF.2 c19
          refine lv_lload hx hb dX10_set_77 (lv_at hl 5 rfl) ?_
          refine lv_l2i (v := x4.toInt32) hx hb dX10_set_79 rfl ?_
          refine lv_i2s (v := x4.toInt32.toInt16.toInt32) hx hb dX10_set_80 rfl ?_
          refine lv_i2l (v := x4.toInt32.toInt16.toInt32.toInt64) hx hb dX10_set_81 rfl ?_
          refine lv_goto (tgt := 104) hx hb dX10_set_82 (by decide) ?_
          exact j104 τ13  x4.toInt32.toInt16.toInt32.toInt64 ((((40 : Int32)) * z7) + x3) o16 ho16 _ _ _ hF hP hN hS (lv_sub hl [] rfl)
      · have hF := hF.2 c15
        refine lv_bipush (v := (-2)) hx hb dX10_set_54 (by decide) ?_
        exact W.iret (v := (-2 : Int32)) hx hb hr (fun t ht hW => ⟨⟨((-2 : Int32)), τ13, rfl, ⟨hF, hN⟩, tw_at hP ht⟩, hS.F ht⟩) hS.2.2 dX10_set_56
    · have hF := hF.2 c10
      refine lv_iconst (v := (-1)) hx hb dX10_set_35 (by decide) ?_
      exact W.iret (v := (-1 : Int32)) hx hb hr (fun t ht hW => ⟨⟨((-1 : Int32)), τ4, rfl, ⟨hF, hN⟩, tw_at hP ht⟩, hS.F ht⟩) hS.2.2 dX10_set_36
  · have hF := hF.2 c6
    refine lv_iconst (v := 0) hx hb dX10_set_14 (by decide) ?_
    exact W.iret (v := (0 : Int32)) hx hb hr (fun t ht hW => ⟨⟨((0 : Int32)), τ4, rfl, ⟨hF, hN⟩, tw_at hP ht⟩, hS.F ht⟩) hS.2.2 dX10_set_15
def F_X10_isNumber (τ0 : tw_T) (k0 : Nat) (x1 : Int32) (x2 : Int64) (x4 : Int64) (Q : Int32 → tw_T → Prop) : Prop := ∃ o1 : Nat, gR τ0 0 k0 42 = some o1 ∧ (vp_in x1 1600 ∧ ((((lg_cmp (gJ τ0 142 o1 x1.toNatClampNeg) x2) < 0 → (Q ((0 : Int32)) τ0)) ∧ (¬ (lg_cmp (gJ τ0 142 o1 x1.toNatClampNeg) x2) < 0 → (∃ o4 : Nat, gR τ0 0 k0 42 = some o4 ∧ (vp_in x1 1600 ∧ (((0 < (lg_cmp (gJ τ0 142 o4 x1.toNatClampNeg) x4) → (Q ((0 : Int32)) τ0)) ∧ (¬ 0 < (lg_cmp (gJ τ0 142 o4 x1.toNatClampNeg) x4) → (Q ((1 : Int32)) τ0))))))))))
def rmX10_isNumber : Room := { frames := 0, cells := 0, slots := 0, locals := 0 }
set_option maxHeartbeats 4000000 in
set_option maxRecDepth 100000 in
theorem mX10_isNumber (l : Launch) (dC : Nat → ClassId) (dI : Nat → Nat → Nat) (ac : Nat → ClassId) (sa : Nat → Nat) (A : Nat → Prop) (ad : Nat → Nat → Nat) (τ0 : tw_T) (k0 : Nat) (x1 : Int32) (x2 : Int64) (x4 : Int64) (Q : Int32 → tw_T → Prop) (hF : F_X10_isNumber τ0 k0 x1 x2 x4 Q) (hk0 : k0 < gN τ0 0) : Met l yX10_isNumber wsX10_isNumber rmX10_isNumber (va_Pc [.ref (ad 0 k0), .int x1, .long x2, .long x4] (BM dC dI ac sa A ad τ0)) (va_Qi (fun r (u : tw_T) => Q r u ∧ gN u = gN τ0) (fun u t => PM dC dI ac A ad u t.heap) A) 0 0 A := by
  refine Met.ofW (cc := cX10_isNumber) (maxL := 6) (ret := (some .boolean)) (by decide) rfl ?_
  intro p e s m args below meth c s₁ B hml hv
  obtain ⟨rfl, hP, hK, hA, hZ⟩ := hv
  have hx := B.exec
  have hb := B.bytes
  have hr := B.returns
  have hts := atoms_spec (ws := wsX10_isNumber) B.pre
  have hown : s.vm.findClass RX10 = some m.cls := findClass_of_methodNamed B.named
  have hlocks := B.notSynchronized
  have hS : va_S A s.heap s.heap [] := va_S.rf
  have hN : gN τ0 = gN τ0 := rfl
  have hl := lv_entry ([.ref (ad 0 k0), .int x1, .long x2, .long x4]) (n := 6) (Nat.le_of_ble_eq_true rfl)
  rw [lg_entry_eq]
  generalize (lg_sl ([.ref (ad 0 k0), .int x1, .long x2, .long x4]) ++ List.replicate (6 - (lg_sl ([.ref (ad 0 k0), .int x1, .long x2, .long x4])).length) Slot.unset).toArray = ls at hl ⊢
  have hl : lv_has ls 6 [(0, .ref (ad 0 k0)), (1, .int x1), (2, .long x2), (4, .long x4)] := hl
  unfold F_X10_isNumber at hF
  refine lv_aload_n hx hb dX10_isNumber_0 rfl (lv_at hl 0 rfl) ?_
  obtain ⟨o1, eo1, hF⟩ := hF
  have ho1 : o1 < gN τ0 142 := tw_lt (hP.2.2.2 0 k0 42 o1 (by decide) hk0 eo1) (congrFun hN 142).symm
  refine tw_get (v := .ref (ad 142 o1)) hx hb hts (by decide +kernel) hown hK hP (by decide) hk0 rfl rfl 42 (by decide) (hts (.fieldLink RX10 83 "WineCellarModel" "number" "[J") (by decide +kernel)) (fun _ h9 => h9) (show some (va_rf ((gR τ0 0 k0 42).map (ad 142))) = some (.ref (ad 142 o1)) by rw [eo1]; rfl) dX10_isNumber_1 ?_
  refine lv_iload_n hx hb dX10_isNumber_4 rfl (lv_at hl 1 rfl) ?_
  obtain ⟨hi2, hF⟩ := hF
  refine tw_lald hx hb hK hP (by decide) ho1 rfl 1 rfl hi2 dX10_isNumber_5 ?_
  refine lv_lload_n hx hb dX10_isNumber_6 rfl (lv_at hl 2 rfl) ?_
  refine W.lcmp hx hb dX10_isNumber_7 ?_
  refine lv_if_lt (tgt := 27) hx hb dX10_isNumber_8 (by decide) (fun c3 => ?_) (fun c3 => ?_)
  · have hF := hF.1 c3
    refine lv_iconst (v := 0) hx hb dX10_isNumber_27 (by decide) ?_
    exact W.zret (v := (0 : Int32)) (ty := .boolean) hx hb hr rfl (fun t ht hW => ⟨⟨((0 : Int32)), τ0, rfl, ⟨hF, hN⟩, tw_at hP ht⟩, hS.F ht⟩) hS.2.2 dX10_isNumber_28
  · have hF := hF.2 c3
    refine lv_aload_n hx hb dX10_isNumber_11 rfl (lv_at hl 0 rfl) ?_
    obtain ⟨o4, eo4, hF⟩ := hF
    have ho4 : o4 < gN τ0 142 := tw_lt (hP.2.2.2 0 k0 42 o4 (by decide) hk0 eo4) (congrFun hN 142).symm
    refine tw_get (v := .ref (ad 142 o4)) hx hb hts (by decide +kernel) hown hK hP (by decide) hk0 rfl rfl 42 (by decide) (hts (.fieldLink RX10 83 "WineCellarModel" "number" "[J") (by decide +kernel)) (fun _ h9 => h9) (show some (va_rf ((gR τ0 0 k0 42).map (ad 142))) = some (.ref (ad 142 o4)) by rw [eo4]; rfl) dX10_isNumber_12 ?_
    refine lv_iload_n hx hb dX10_isNumber_15 rfl (lv_at hl 1 rfl) ?_
    obtain ⟨hi5, hF⟩ := hF
    refine tw_lald hx hb hK hP (by decide) ho4 rfl 1 rfl hi5 dX10_isNumber_16 ?_
    refine lv_lload hx hb dX10_isNumber_17 (lv_at hl 3 rfl) ?_
    refine W.lcmp hx hb dX10_isNumber_19 ?_
    refine lv_if_gt (tgt := 27) hx hb dX10_isNumber_20 (by decide) (fun c6 => ?_) (fun c6 => ?_)
    · have hF := hF.1 c6
      refine lv_iconst (v := 0) hx hb dX10_isNumber_27 (by decide) ?_
      exact W.zret (v := (0 : Int32)) (ty := .boolean) hx hb hr rfl (fun t ht hW => ⟨⟨((0 : Int32)), τ0, rfl, ⟨hF, hN⟩, tw_at hP ht⟩, hS.F ht⟩) hS.2.2 dX10_isNumber_28
    · have hF := hF.2 c6
      refine lv_iconst (v := 1) hx hb dX10_isNumber_23 (by decide) ?_
      refine lv_goto (tgt := 28) hx hb dX10_isNumber_24 (by decide) ?_
      exact W.zret (v := (1 : Int32)) (ty := .boolean) hx hb hr rfl (fun t ht hW => ⟨⟨((1 : Int32)), τ0, rfl, ⟨hF, hN⟩, tw_at hP ht⟩, hS.F ht⟩) hS.2.2 dX10_isNumber_28
def J_X10_deliver_156 (τ : tw_T) (p0 : Nat) (u3 : Int32) (u4 : Int32) (u5 : Int32) (u6 : Int32) (y0 : Int32) (Q : Int32 → tw_T → Prop) (RC EX : tw_T → Int32 → Int32 → Prop) : Prop := ((y0 = 0 → (Q u4 τ)) ∧ (¬ y0 = 0 → (∃ o2 : Nat, gR τ 0 p0 23 = some o2 ∧ (∃ o3 : Nat, gR τ 0 p0 42 = some o3 ∧ (vp_in (u6 + ((3 : Int32))) 1600 ∧ (vp_in ((gJ τ 142 o3 (u6 + ((3 : Int32))).toNatClampNeg).toInt32) 30 ∧ ((((gI τ 123 o2 ((gJ τ 142 o3 (u6 + ((3 : Int32))).toNatClampNeg).toInt32).toNatClampNeg) = ((-1 : Int32)) → (∃ o7 : Nat, gR τ 0 p0 42 = some o7 ∧ (vp_in u6 1600 ∧ (∃ o9 : Nat, gR τ 0 p0 42 = some o9 ∧ (vp_in (u6 + ((1 : Int32))) 1600 ∧ (∃ o11 : Nat, gR τ 0 p0 42 = some o11 ∧ (vp_in (u6 + ((2 : Int32))) 1600 ∧ (F_X10_newLot τ p0 ((gJ τ 142 o7 u6.toNatClampNeg).toInt32) ((gJ τ 142 o9 (u6 + ((1 : Int32))).toNatClampNeg).toInt32) ((gJ τ 142 o11 (u6 + ((2 : Int32))).toNatClampNeg).toInt32) (fun (r14 : Int32) (τ13 : tw_T) => (∃ o15 : Nat, gR τ13 0 p0 42 = some o15 ∧ (vp_in (u6 + ((3 : Int32))) 1600 ∧ (∃ o17 : Nat, gR τ13 0 p0 42 = some o17 ∧ (vp_in (u6 + ((4 : Int32))) 1600 ∧ (F_X10_adds τ13 p0 ((gJ τ13 142 o15 (u6 + ((3 : Int32))).toNatClampNeg).toInt32) r14 ((gJ τ13 142 o17 (u6 + ((4 : Int32))).toNatClampNeg).toInt32) (fun (τ19 : tw_T) => (∃ o20 : Nat, gR τ19 0 p0 42 = some o20 ∧ (vp_in (u6 + ((4 : Int32))) 1600 ∧ (∀ τ22 : tw_T, τ22 = sI τ19 0 p0 15 ((gI τ19 0 p0 15) + ((gJ τ19 142 o20 (u6 + ((4 : Int32))).toNatClampNeg).toInt32)) → (∀ z23 : Int32, z23 = u4 + (1 : Int32) → (∀ z24 : Int32, z24 = u5 + (5 : Int32) → (RC τ22 z23 z24))))))))))))))))))))) ∧ (¬ (gI τ 123 o2 ((gJ τ 142 o3 (u6 + ((3 : Int32))).toNatClampNeg).toInt32).toNatClampNeg) = ((-1 : Int32)) → (Q u4 τ))))))))))
def J_X10_deliver_155 (τ : tw_T) (p0 : Nat) (u3 : Int32) (u4 : Int32) (u5 : Int32) (u6 : Int32) (Q : Int32 → tw_T → Prop) (RC EX : tw_T → Int32 → Int32 → Prop) : Prop := J_X10_deliver_156 τ p0 u3 u4 u5 u6 ((0 : Int32)) Q RC EX
def L_X10_deliver_41 (p0 : Nat) (u3 : Int32) (Q : Int32 → tw_T → Prop) (EX : tw_T → Int32 → Int32 → Prop) : Nat → tw_T → Int32 → Int32 → Prop
  | 0, _, _, _ => False
  | n + 1, τ, u4, u5 => ∃ o25 : Nat, gR τ 0 p0 41 = some o25 ∧ (vp_in u3 40 ∧ ((((gI τ 141 o25 u3.toNatClampNeg) < (u5 + ((5 : Int32))) → (EX τ u4 u5)) ∧ (¬ (gI τ 141 o25 u3.toNatClampNeg) < (u5 + ((5 : Int32))) → (∀ z28 : Int32, z28 = (((40 : Int32)) * u3) + u5 → (((((60 : Int32)) ≤ (gI τ 0 p0 2) → (J_X10_deliver_155 τ p0 u3 u4 u5 z28 Q (fun t v4 v5 => L_X10_deliver_41 p0 u3 Q EX n t v4 v5) EX)) ∧ (¬ ((60 : Int32)) ≤ (gI τ 0 p0 2) → (F_X10_isNumber τ p0 z28 ((0 : Int64)) (((gI τ 0 p0 1).toInt64) - ((1 : Int64))) (fun (r31 : Int32) (τ30 : tw_T) => (((r31 = 0 → (J_X10_deliver_155 τ30 p0 u3 u4 u5 z28 Q (fun t v4 v5 => L_X10_deliver_41 p0 u3 Q EX n t v4 v5) EX)) ∧ (¬ r31 = 0 → (F_X10_isNumber τ30 p0 (z28 + ((1 : Int32))) ((1900 : Int64)) ((2100 : Int64)) (fun (r34 : Int32) (τ33 : tw_T) => (((r34 = 0 → (J_X10_deliver_155 τ33 p0 u3 u4 u5 z28 Q (fun t v4 v5 => L_X10_deliver_41 p0 u3 Q EX n t v4 v5) EX)) ∧ (¬ r34 = 0 → (F_X10_isNumber τ33 p0 (z28 + ((2 : Int32))) ((1 : Int64)) ((10000 : Int64)) (fun (r37 : Int32) (τ36 : tw_T) => (((r37 = 0 → (J_X10_deliver_155 τ36 p0 u3 u4 u5 z28 Q (fun t v4 v5 => L_X10_deliver_41 p0 u3 Q EX n t v4 v5) EX)) ∧ (¬ r37 = 0 → (F_X10_isNumber τ36 p0 (z28 + ((3 : Int32))) ((0 : Int64)) ((29 : Int64)) (fun (r40 : Int32) (τ39 : tw_T) => (((r40 = 0 → (J_X10_deliver_155 τ39 p0 u3 u4 u5 z28 Q (fun t v4 v5 => L_X10_deliver_41 p0 u3 Q EX n t v4 v5) EX)) ∧ (¬ r40 = 0 → (F_X10_isNumber τ39 p0 (z28 + ((4 : Int32))) ((1 : Int64)) ((12 : Int64)) (fun (r43 : Int32) (τ42 : tw_T) => (((r43 = 0 → (J_X10_deliver_155 τ42 p0 u3 u4 u5 z28 Q (fun t v4 v5 => L_X10_deliver_41 p0 u3 Q EX n t v4 v5) EX)) ∧ (¬ r43 = 0 → (J_X10_deliver_156 τ42 p0 u3 u4 u5 z28 ((1 : Int32)) Q (fun t v4 v5 => L_X10_deliver_41 p0 u3 Q EX n t v4 v5) EX))))))))))))))))))))))))))))))))))
def F_X10_deliver (τ0 : tw_T) (k0 : Nat) (x1 : Int32) (x2 : Int32) (Q : Int32 → tw_T → Prop) : Prop := ∀ τ45 : tw_T, τ45 = sI τ0 0 k0 0 ((0 : Int32)) → (F_X10_isRow τ45 k0 x1 x2 (fun (r47 : Int32) (τ46 : tw_T) => (((¬ r47 = 0 → (∀ z49 : Int32, z49 = (((10 : Int32)) * x1) + x2 → (∃ o50 : Nat, gR τ46 0 k0 41 = some o50 ∧ (vp_in z49 40 ∧ (((¬ (gI τ46 141 o50 z49.toNatClampNeg) = ((-1 : Int32)) → (∃ n53 : Nat, L_X10_deliver_41 k0 z49 Q (fun (τ54 : tw_T) (z55 : Int32) (z56 : Int32) => Q z55 τ54) n53 τ46 ((0 : Int32)) ((0 : Int32)))) ∧ ((gI τ46 141 o50 z49.toNatClampNeg) = ((-1 : Int32)) → (Q ((-1 : Int32)) τ46)))))))) ∧ (r47 = 0 → (Q ((0 : Int32)) τ46))))))
def rmX10_deliver : Room := { frames := 2, cells := 0, slots := 0, locals := 44 }
set_option maxHeartbeats 4000000 in
set_option maxRecDepth 100000 in
theorem mX10_deliver (l : Launch) (dC : Nat → ClassId) (dI : Nat → Nat → Nat) (ac : Nat → ClassId) (sa : Nat → Nat) (A : Nat → Prop) (ad : Nat → Nat → Nat) (τ0 : tw_T) (k0 : Nat) (x1 : Int32) (x2 : Int32) (Q : Int32 → tw_T → Prop) (hF : F_X10_deliver τ0 k0 x1 x2 Q) (hk0 : k0 < gN τ0 0) : Met l yX10_deliver wsX10_deliver rmX10_deliver (va_Pc [.ref (ad 0 k0), .int x1, .int x2] (BM dC dI ac sa A ad τ0)) (va_Qi (fun r (u : tw_T) => Q r u ∧ gN u = gN τ0) (fun u t => PM dC dI ac A ad u t.heap) A) 0 0 A := by
  refine Met.ofW (cc := cX10_deliver) (maxL := 9) (ret := (some .int)) (by decide) rfl ?_
  intro p e s m args below meth c s₁ B hml hv
  obtain ⟨rfl, hP, hK, hA, hZ⟩ := hv
  have hx := B.exec
  have hb := B.bytes
  have hr := B.returns
  have hts := atoms_spec (ws := wsX10_deliver) B.pre
  have hown : s.vm.findClass RX10 = some m.cls := findClass_of_methodNamed B.named
  have hlocks := B.notSynchronized
  have hS : va_S A s.heap s.heap [] := va_S.rf
  have hN : gN τ0 = gN τ0 := rfl
  have hl := lv_entry ([.ref (ad 0 k0), .int x1, .int x2]) (n := 9) (Nat.le_of_ble_eq_true rfl)
  rw [lg_entry_eq]
  generalize (lg_sl ([.ref (ad 0 k0), .int x1, .int x2]) ++ List.replicate (9 - (lg_sl ([.ref (ad 0 k0), .int x1, .int x2])).length) Slot.unset).toArray = ls at hl ⊢
  have hl : lv_has ls 9 [(0, .ref (ad 0 k0)), (1, .int x1), (2, .int x2)] := hl
  unfold F_X10_deliver at hF
  have l41 : ∀ (p0 : Nat) (hp0 : p0 < gN τ0 0) (u3 : Int32) (EX : tw_T → Int32 → Int32 → Prop) (n : Nat) (τ : tw_T) (u4 : Int32) (u5 : Int32) (H : Heap) (locs : List Loc) (ls : Array Slot), L_X10_deliver_41 p0 u3 Q EX n τ u4 u5 → PM dC dI ac A ad τ H → gN τ = gN τ0 → va_S A s.heap H locs → lv_has ls 9 [(0, .ref (ad 0 p0)), (3, .int u3), (4, .int u4), (5, .int u5)] → (∀ (τ : tw_T) (u4 : Int32) (u5 : Int32) (H : Heap) (locs : List Loc) (ls : Array Slot), EX τ u4 u5 → PM dC dI ac A ad τ H → gN τ = gN τ0 → va_S A s.heap H locs → lv_has ls 9 [(0, .ref (ad 0 p0)), (3, .int u3), (4, .int u4), (5, .int u5)] → W p l e rmX10_deliver s m ([.ref (ad 0 k0), .int x1, .int x2] : List Value).toArray below meth c H locs 0 0 (MQ below (va_Qi (fun r (u : tw_T) => Q r u ∧ gN u = gN τ0) (fun u t => PM dC dI ac A ad u t.heap) A) ([.ref (ad 0 k0), .int x1, .int x2] : List Value).toArray s 0 0 A) (F0 m 273 ls [])) → W p l e rmX10_deliver s m ([.ref (ad 0 k0), .int x1, .int x2] : List Value).toArray below meth c H locs 0 0 (MQ below (va_Qi (fun r (u : tw_T) => Q r u ∧ gN u = gN τ0) (fun u t => PM dC dI ac A ad u t.heap) A) ([.ref (ad 0 k0), .int x1, .int x2] : List Value).toArray s 0 0 A) (F0 m 41 ls []) := by
    intro p0 hp0 u3 EX n
    induction n with
    | zero => intro τ u4 u5 H locs ls hF; exact hF.elim
    | succ n ih =>
      intro τ u4 u5 H locs ls hF hP hN hS hl hEX
      rw [L_X10_deliver_41] at hF
      have j156 : ∀ (τ : tw_T) (p0 : Nat) (hp0 : p0 < gN τ0 0) (u3 : Int32) (u4 : Int32) (u5 : Int32) (u6 : Int32) (y0 : Int32) (H : Heap) (locs : List Loc) (ls : Array Slot) (RC EX : tw_T → Int32 → Int32 → Prop), J_X10_deliver_156 τ p0 u3 u4 u5 u6 y0 Q RC EX → PM dC dI ac A ad τ H → gN τ = gN τ0 → va_S A s.heap H locs → lv_has ls 9 [(0, .ref (ad 0 p0)), (3, .int u3), (4, .int u4), (5, .int u5), (6, .int u6)] → (∀ (τ : tw_T) (u4 : Int32) (u5 : Int32) (H : Heap) (locs : List Loc) (ls : Array Slot), RC τ u4 u5 → PM dC dI ac A ad τ H → gN τ = gN τ0 → va_S A s.heap H locs → lv_has ls 9 [(0, .ref (ad 0 p0)), (3, .int u3), (4, .int u4), (5, .int u5)] → W p l e rmX10_deliver s m ([.ref (ad 0 k0), .int x1, .int x2] : List Value).toArray below meth c H locs 0 0 (MQ below (va_Qi (fun r (u : tw_T) => Q r u ∧ gN u = gN τ0) (fun u t => PM dC dI ac A ad u t.heap) A) ([.ref (ad 0 k0), .int x1, .int x2] : List Value).toArray s 0 0 A) (F0 m 41 ls [])) → (∀ (τ : tw_T) (u4 : Int32) (u5 : Int32) (H : Heap) (locs : List Loc) (ls : Array Slot), EX τ u4 u5 → PM dC dI ac A ad τ H → gN τ = gN τ0 → va_S A s.heap H locs → lv_has ls 9 [(0, .ref (ad 0 p0)), (3, .int u3), (4, .int u4), (5, .int u5)] → W p l e rmX10_deliver s m ([.ref (ad 0 k0), .int x1, .int x2] : List Value).toArray below meth c H locs 0 0 (MQ below (va_Qi (fun r (u : tw_T) => Q r u ∧ gN u = gN τ0) (fun u t => PM dC dI ac A ad u t.heap) A) ([.ref (ad 0 k0), .int x1, .int x2] : List Value).toArray s 0 0 A) (F0 m 273 ls [])) → W p l e rmX10_deliver s m ([.ref (ad 0 k0), .int x1, .int x2] : List Value).toArray below meth c H locs 0 0 (MQ below (va_Qi (fun r (u : tw_T) => Q r u ∧ gN u = gN τ0) (fun u t => PM dC dI ac A ad u t.heap) A) ([.ref (ad 0 k0), .int x1, .int x2] : List Value).toArray s 0 0 A) (F0 m 156 ls [.int y0]) := by
        intro τ p0 hp0 u3 u4 u5 u6 y0 H locs ls RC EX hF hP hN hS hl hRC hEX
        unfold J_X10_deliver_156 at hF
        refine lv_istore (lv' := [(7, .int y0), (0, .ref (ad 0 p0)), (3, .int u3), (4, .int u4), (5, .int u5), (6, .int u6)]) hx hb dX10_deliver_156 hl (by decide) rfl (fun ls hl => ?_)
        refine lv_iload hx hb dX10_deliver_158 (lv_at hl 0 rfl) ?_
        refine lv_if_eq (tgt := 182) hx hb dX10_deliver_160 (by decide) (fun c1 => ?_) (fun c1 => ?_)
        · have hF := hF.1 c1
          refine lv_iload hx hb dX10_deliver_182 (lv_at hl 3 rfl) ?_
          exact W.iret (v := u4) hx hb hr (fun t ht hW => ⟨⟨u4, τ, rfl, ⟨hF, hN⟩, tw_at hP ht⟩, hS.F ht⟩) hS.2.2 dX10_deliver_184
        · have hF := hF.2 c1
          refine lv_aload_n hx hb dX10_deliver_163 rfl (lv_at hl 1 rfl) ?_
          obtain ⟨o2, eo2, hF⟩ := hF
          have ho2 : o2 < gN τ0 123 := tw_lt (hP.2.2.2 0 p0 23 o2 (by decide) (tw_lt hp0 (congrFun hN 0)) eo2) (congrFun hN 123).symm
          refine tw_get (v := .ref (ad 123 o2)) hx hb hts (by decide +kernel) hown hK hP (by decide) (tw_lt hp0 (congrFun hN 0)) rfl rfl 23 (by decide) (hts (.fieldLink RX10 44 "WineCellarModel" "cellLot" "[I") (by decide +kernel)) (fun _ h9 => h9) (show some (va_rf ((gR τ 0 p0 23).map (ad 123))) = some (.ref (ad 123 o2)) by rw [eo2]; rfl) dX10_deliver_164 ?_
          refine lv_aload_n hx hb dX10_deliver_167 rfl (lv_at hl 1 rfl) ?_
          obtain ⟨o3, eo3, hF⟩ := hF
          have ho3 : o3 < gN τ0 142 := tw_lt (hP.2.2.2 0 p0 42 o3 (by decide) (tw_lt hp0 (congrFun hN 0)) eo3) (congrFun hN 142).symm
          refine tw_get (v := .ref (ad 142 o3)) hx hb hts (by decide +kernel) hown hK hP (by decide) (tw_lt hp0 (congrFun hN 0)) rfl rfl 42 (by decide) (hts (.fieldLink RX10 83 "WineCellarModel" "number" "[J") (by decide +kernel)) (fun _ h9 => h9) (show some (va_rf ((gR τ 0 p0 42).map (ad 142))) = some (.ref (ad 142 o3)) by rw [eo3]; rfl) dX10_deliver_168 ?_
          refine lv_iload hx hb dX10_deliver_171 (lv_at hl 5 rfl) ?_
          refine lv_iconst (v := 3) hx hb dX10_deliver_173 (by decide) ?_
          refine lv_iadd hx hb dX10_deliver_174 ?_
          obtain ⟨hi4, hF⟩ := hF
          refine tw_lald hx hb hK hP (by decide) (tw_lt ho3 (congrFun hN 142)) rfl 1 rfl hi4 dX10_deliver_175 ?_
          refine lv_l2i (v := (gJ τ 142 o3 (u6 + ((3 : Int32))).toNatClampNeg).toInt32) hx hb dX10_deliver_176 rfl ?_
          obtain ⟨hi5, hF⟩ := hF
          refine tw_iald hx hb hK hP (by decide) (tw_lt ho2 (congrFun hN 123)) rfl 0 rfl hi5 dX10_deliver_177 ?_
          refine lv_iconst (v := (-1)) hx hb dX10_deliver_178 (by decide) ?_
          refine lv_icmp_eq (tgt := 185) hx hb dX10_deliver_179 (by decide) (fun c6 => ?_) (fun c6 => ?_)
          · have hF := hF.1 c6
            refine lv_aload_n hx hb dX10_deliver_185 rfl (lv_at hl 1 rfl) ?_
            refine lv_aload_n hx hb dX10_deliver_186 rfl (lv_at hl 1 rfl) ?_
            obtain ⟨o7, eo7, hF⟩ := hF
            have ho7 : o7 < gN τ0 142 := tw_lt (hP.2.2.2 0 p0 42 o7 (by decide) (tw_lt hp0 (congrFun hN 0)) eo7) (congrFun hN 142).symm
            refine tw_get (v := .ref (ad 142 o7)) hx hb hts (by decide +kernel) hown hK hP (by decide) (tw_lt hp0 (congrFun hN 0)) rfl rfl 42 (by decide) (hts (.fieldLink RX10 83 "WineCellarModel" "number" "[J") (by decide +kernel)) (fun _ h9 => h9) (show some (va_rf ((gR τ 0 p0 42).map (ad 142))) = some (.ref (ad 142 o7)) by rw [eo7]; rfl) dX10_deliver_187 ?_
            refine lv_iload hx hb dX10_deliver_190 (lv_at hl 5 rfl) ?_
            obtain ⟨hi8, hF⟩ := hF
            refine tw_lald hx hb hK hP (by decide) (tw_lt ho7 (congrFun hN 142)) rfl 1 rfl hi8 dX10_deliver_192 ?_
            refine lv_l2i (v := (gJ τ 142 o7 u6.toNatClampNeg).toInt32) hx hb dX10_deliver_193 rfl ?_
            refine lv_aload_n hx hb dX10_deliver_194 rfl (lv_at hl 1 rfl) ?_
            obtain ⟨o9, eo9, hF⟩ := hF
            have ho9 : o9 < gN τ0 142 := tw_lt (hP.2.2.2 0 p0 42 o9 (by decide) (tw_lt hp0 (congrFun hN 0)) eo9) (congrFun hN 142).symm
            refine tw_get (v := .ref (ad 142 o9)) hx hb hts (by decide +kernel) hown hK hP (by decide) (tw_lt hp0 (congrFun hN 0)) rfl rfl 42 (by decide) (hts (.fieldLink RX10 83 "WineCellarModel" "number" "[J") (by decide +kernel)) (fun _ h9 => h9) (show some (va_rf ((gR τ 0 p0 42).map (ad 142))) = some (.ref (ad 142 o9)) by rw [eo9]; rfl) dX10_deliver_195 ?_
            refine lv_iload hx hb dX10_deliver_198 (lv_at hl 5 rfl) ?_
            refine lv_iconst (v := 1) hx hb dX10_deliver_200 (by decide) ?_
            refine lv_iadd hx hb dX10_deliver_201 ?_
            obtain ⟨hi10, hF⟩ := hF
            refine tw_lald hx hb hK hP (by decide) (tw_lt ho9 (congrFun hN 142)) rfl 1 rfl hi10 dX10_deliver_202 ?_
            refine lv_l2i (v := (gJ τ 142 o9 (u6 + ((1 : Int32))).toNatClampNeg).toInt32) hx hb dX10_deliver_203 rfl ?_
            refine lv_aload_n hx hb dX10_deliver_204 rfl (lv_at hl 1 rfl) ?_
            obtain ⟨o11, eo11, hF⟩ := hF
            have ho11 : o11 < gN τ0 142 := tw_lt (hP.2.2.2 0 p0 42 o11 (by decide) (tw_lt hp0 (congrFun hN 0)) eo11) (congrFun hN 142).symm
            refine tw_get (v := .ref (ad 142 o11)) hx hb hts (by decide +kernel) hown hK hP (by decide) (tw_lt hp0 (congrFun hN 0)) rfl rfl 42 (by decide) (hts (.fieldLink RX10 83 "WineCellarModel" "number" "[J") (by decide +kernel)) (fun _ h9 => h9) (show some (va_rf ((gR τ 0 p0 42).map (ad 142))) = some (.ref (ad 142 o11)) by rw [eo11]; rfl) dX10_deliver_205 ?_
            refine lv_iload hx hb dX10_deliver_208 (lv_at hl 5 rfl) ?_
            refine lv_iconst (v := 2) hx hb dX10_deliver_210 (by decide) ?_
            refine lv_iadd hx hb dX10_deliver_211 ?_
            obtain ⟨hi12, hF⟩ := hF
            refine tw_lald hx hb hK hP (by decide) (tw_lt ho11 (congrFun hN 142)) rfl 1 rfl hi12 dX10_deliver_212 ?_
            refine lv_l2i (v := (gJ τ 142 o11 (u6 + ((2 : Int32))).toNatClampNeg).toInt32) hx hb dX10_deliver_213 rfl ?_
            refine va_calli (va_runV (As := [.int ((gJ τ 142 o7 u6.toNatClampNeg).toInt32), .int ((gJ τ 142 o9 (u6 + ((1 : Int32))).toNatClampNeg).toInt32), .int ((gJ τ 142 o11 (u6 + ((2 : Int32))).toNatClampNeg).toInt32)]) (rest := []) ⟨hx, hb, hml, hown, hts⟩ (mX10_newLot l dC dI ac sa A ad τ p0 ((gJ τ 142 o7 u6.toNatClampNeg).toInt32) ((gJ τ 142 o9 (u6 + ((1 : Int32))).toNatClampNeg).toInt32) ((gJ τ 142 o11 (u6 + ((2 : Int32))).toNatClampNeg).toInt32) _ hF (tw_lt hp0 (congrFun hN 0))) (cwV 3 hts gX10_deliver_X10_newLot rfl rfl rfl (by decide +kernel) ⟨Nat.le_of_ble_eq_true rfl, Nat.le_of_ble_eq_true rfl⟩) ⟨BM.blind, tw_recv hK hP (by decide) (tw_lt hp0 (congrFun hN 0)) rfl rfl, fun U hU hW => ⟨rfl, BM.of hP hK hS hA hZ hU hW⟩⟩ rfl rfl hl.1 rfl (lv_room (Nat.le_of_ble_eq_true rfl)) dX10_deliver_214 ⟨Nat.le_of_ble_eq_true rfl, Nat.le_of_ble_eq_true rfl⟩) hS (fun q _ h => h) (fun q h => h) (fun r14 τ13 t H locs ht hvm hw hB hz hk hS => ?_)
            obtain ⟨hF, hN9⟩ := hw
            have hP : PM dC dI ac A ad τ13 H := tw_back hB ht
            have hN : gN τ13 = gN τ0 := hN9.trans hN
            refine lv_istore (lv' := [(8, .int r14), (7, .int y0), (0, .ref (ad 0 p0)), (3, .int u3), (4, .int u4), (5, .int u5), (6, .int u6)]) hx hb dX10_deliver_217 hl (by decide) rfl (fun ls hl => ?_)
            refine lv_aload_n hx hb dX10_deliver_219 rfl (lv_at hl 2 rfl) ?_
            refine lv_aload_n hx hb dX10_deliver_220 rfl (lv_at hl 2 rfl) ?_
            obtain ⟨o15, eo15, hF⟩ := hF
            have ho15 : o15 < gN τ0 142 := tw_lt (hP.2.2.2 0 p0 42 o15 (by decide) (tw_lt hp0 (congrFun hN 0)) eo15) (congrFun hN 142).symm
            refine tw_get (v := .ref (ad 142 o15)) hx hb hts (by decide +kernel) hown hK hP (by decide) (tw_lt hp0 (congrFun hN 0)) rfl rfl 42 (by decide) (hts (.fieldLink RX10 83 "WineCellarModel" "number" "[J") (by decide +kernel)) (fun _ h9 => h9) (show some (va_rf ((gR τ13 0 p0 42).map (ad 142))) = some (.ref (ad 142 o15)) by rw [eo15]; rfl) dX10_deliver_221 ?_
            refine lv_iload hx hb dX10_deliver_224 (lv_at hl 6 rfl) ?_
            refine lv_iconst (v := 3) hx hb dX10_deliver_226 (by decide) ?_
            refine lv_iadd hx hb dX10_deliver_227 ?_
            obtain ⟨hi16, hF⟩ := hF
            refine tw_lald hx hb hK hP (by decide) (tw_lt ho15 (congrFun hN 142)) rfl 1 rfl hi16 dX10_deliver_228 ?_
            refine lv_l2i (v := (gJ τ13 142 o15 (u6 + ((3 : Int32))).toNatClampNeg).toInt32) hx hb dX10_deliver_229 rfl ?_
            refine lv_iload hx hb dX10_deliver_230 (lv_at hl 0 rfl) ?_
            refine lv_aload_n hx hb dX10_deliver_232 rfl (lv_at hl 2 rfl) ?_
            obtain ⟨o17, eo17, hF⟩ := hF
            have ho17 : o17 < gN τ0 142 := tw_lt (hP.2.2.2 0 p0 42 o17 (by decide) (tw_lt hp0 (congrFun hN 0)) eo17) (congrFun hN 142).symm
            refine tw_get (v := .ref (ad 142 o17)) hx hb hts (by decide +kernel) hown hK hP (by decide) (tw_lt hp0 (congrFun hN 0)) rfl rfl 42 (by decide) (hts (.fieldLink RX10 83 "WineCellarModel" "number" "[J") (by decide +kernel)) (fun _ h9 => h9) (show some (va_rf ((gR τ13 0 p0 42).map (ad 142))) = some (.ref (ad 142 o17)) by rw [eo17]; rfl) dX10_deliver_233 ?_
            refine lv_iload hx hb dX10_deliver_236 (lv_at hl 6 rfl) ?_
            refine lv_iconst (v := 4) hx hb dX10_deliver_238 (by decide) ?_
            refine lv_iadd hx hb dX10_deliver_239 ?_
            obtain ⟨hi18, hF⟩ := hF
            refine tw_lald hx hb hK hP (by decide) (tw_lt ho17 (congrFun hN 142)) rfl 1 rfl hi18 dX10_deliver_240 ?_
            refine lv_l2i (v := (gJ τ13 142 o17 (u6 + ((4 : Int32))).toNatClampNeg).toInt32) hx hb dX10_deliver_241 rfl ?_
            refine va_callv (va_runV (As := [.int ((gJ τ13 142 o15 (u6 + ((3 : Int32))).toNatClampNeg).toInt32), .int r14, .int ((gJ τ13 142 o17 (u6 + ((4 : Int32))).toNatClampNeg).toInt32)]) (rest := []) ⟨hx, hb, hml, hown, hts⟩ (mX10_adds l dC dI ac sa A ad τ13 p0 ((gJ τ13 142 o15 (u6 + ((3 : Int32))).toNatClampNeg).toInt32) r14 ((gJ τ13 142 o17 (u6 + ((4 : Int32))).toNatClampNeg).toInt32) _ hF (tw_lt hp0 (congrFun hN 0))) (cwV 3 hts gX10_deliver_X10_adds rfl rfl rfl (by decide +kernel) ⟨Nat.le_of_ble_eq_true rfl, Nat.le_of_ble_eq_true rfl⟩) ⟨BM.blind, tw_recv hK hP (by decide) (tw_lt hp0 (congrFun hN 0)) rfl rfl, fun U hU hW => ⟨rfl, BM.of hP hK hS hA hZ hU hW⟩⟩ rfl rfl hl.1 rfl (lv_room (Nat.le_of_ble_eq_true rfl)) dX10_deliver_242 ⟨Nat.le_of_ble_eq_true rfl, Nat.le_of_ble_eq_true rfl⟩) hS (fun q _ h => h) (fun q h => h) (fun τ19 t H locs ht hvm hw hB hz hk hS => ?_)
            obtain ⟨hF, hN9⟩ := hw
            have hP : PM dC dI ac A ad τ19 H := tw_back hB ht
            have hN : gN τ19 = gN τ0 := hN9.trans hN
            refine lv_aload_n hx hb dX10_deliver_245 rfl (lv_at hl 2 rfl) ?_
            refine lv_dup hx hb dX10_deliver_246 rfl ?_
            refine tw_get (v := .int (gI τ19 0 p0 15)) hx hb hts (by decide +kernel) hown hK hP (by decide) (tw_lt hp0 (congrFun hN 0)) rfl rfl 15 (by decide) (hts (.fieldLink RX10 146 "WineCellarModel" "bought" "I") (by decide +kernel)) (fun _ h9 => h9) rfl dX10_deliver_247 ?_
            refine lv_aload_n hx hb dX10_deliver_250 rfl (lv_at hl 2 rfl) ?_
            obtain ⟨o20, eo20, hF⟩ := hF
            have ho20 : o20 < gN τ0 142 := tw_lt (hP.2.2.2 0 p0 42 o20 (by decide) (tw_lt hp0 (congrFun hN 0)) eo20) (congrFun hN 142).symm
            refine tw_get (v := .ref (ad 142 o20)) hx hb hts (by decide +kernel) hown hK hP (by decide) (tw_lt hp0 (congrFun hN 0)) rfl rfl 42 (by decide) (hts (.fieldLink RX10 83 "WineCellarModel" "number" "[J") (by decide +kernel)) (fun _ h9 => h9) (show some (va_rf ((gR τ19 0 p0 42).map (ad 142))) = some (.ref (ad 142 o20)) by rw [eo20]; rfl) dX10_deliver_251 ?_
            refine lv_iload hx hb dX10_deliver_254 (lv_at hl 6 rfl) ?_
            refine lv_iconst (v := 4) hx hb dX10_deliver_256 (by decide) ?_
            refine lv_iadd hx hb dX10_deliver_257 ?_
            obtain ⟨hi21, hF⟩ := hF
            refine tw_lald hx hb hK hP (by decide) (tw_lt ho20 (congrFun hN 142)) rfl 1 rfl hi21 dX10_deliver_258 ?_
            refine lv_l2i (v := (gJ τ19 142 o20 (u6 + ((4 : Int32))).toNatClampNeg).toInt32) hx hb dX10_deliver_259 rfl ?_
            refine lv_iadd hx hb dX10_deliver_260 ?_
            refine tw_put (τ' := sI τ19 0 p0 15 ((gI τ19 0 p0 15) + ((gJ τ19 142 o20 (u6 + ((4 : Int32))).toNatClampNeg).toInt32))) (ty := .int) hx hb hts (by decide +kernel) tyX10 tyX10_ok nmX10 hown hK hP hS (by decide) (tw_lt hp0 (congrFun hN 0)) rfl rfl 15 (by decide) (hts (.fieldLink RX10 146 "WineCellarModel" "bought" "I") (by decide +kernel)) (fun _ h9 => h9) rfl (by decide +kernel) rfl rfl (Nat.le_of_ble_eq_true rfl) dX10_deliver_261 (fun H1 ha ho => tw_updI hP (by decide) (tw_lt hp0 (congrFun hN 0)) ha ho) (fun H locs hP hS => ?_)
            obtain ⟨τ22, eτ22⟩ : ∃ y : tw_T, y = sI τ19 0 p0 15 ((gI τ19 0 p0 15) + ((gJ τ19 142 o20 (u6 + ((4 : Int32))).toNatClampNeg).toInt32)) := ⟨_, rfl⟩
            have hF := hF τ22 eτ22
            rw [← eτ22] at hP
            have hN : gN τ22 = gN τ0 := by rw [eτ22]; exact hN
            obtain ⟨z23, ez23⟩ : ∃ y : Int32, y = u4 + (1 : Int32) := ⟨_, rfl⟩
            have hF := hF z23 ez23
            refine lv_iinc (v := z23) (lv' := [(4, .int z23), (8, .int r14), (7, .int y0), (0, .ref (ad 0 p0)), (3, .int u3), (5, .int u5), (6, .int u6)]) hx hb dX10_deliver_264 hl (k := 4) rfl (by rw [ez23]; rfl) (by decide) rfl (fun ls hl => ?_)
            obtain ⟨z24, ez24⟩ : ∃ y : Int32, y = u5 + (5 : Int32) := ⟨_, rfl⟩
            have hF := hF z24 ez24
            refine lv_iinc (v := z24) (lv' := [(5, .int z24), (4, .int z23), (8, .int r14), (7, .int y0), (0, .ref (ad 0 p0)), (3, .int u3), (6, .int u6)]) hx hb dX10_deliver_267 hl (k := 5) rfl (by rw [ez24]; rfl) (by decide) rfl (fun ls hl => ?_)
            refine lv_goto (tgt := 41) hx hb dX10_deliver_270 (by decide) ?_
            exact hRC τ22 z23 z24 _ _ _ hF hP hN hS (lv_sub hl [4, 5, 1, 0] rfl)
          · have hF := hF.2 c6
            refine lv_iload hx hb dX10_deliver_182 (lv_at hl 3 rfl) ?_
            exact W.iret (v := u4) hx hb hr (fun t ht hW => ⟨⟨u4, τ, rfl, ⟨hF, hN⟩, tw_at hP ht⟩, hS.F ht⟩) hS.2.2 dX10_deliver_184
      have j155 : ∀ (τ : tw_T) (p0 : Nat) (hp0 : p0 < gN τ0 0) (u3 : Int32) (u4 : Int32) (u5 : Int32) (u6 : Int32) (H : Heap) (locs : List Loc) (ls : Array Slot) (RC EX : tw_T → Int32 → Int32 → Prop), J_X10_deliver_155 τ p0 u3 u4 u5 u6 Q RC EX → PM dC dI ac A ad τ H → gN τ = gN τ0 → va_S A s.heap H locs → lv_has ls 9 [(0, .ref (ad 0 p0)), (3, .int u3), (4, .int u4), (5, .int u5), (6, .int u6)] → (∀ (τ : tw_T) (u4 : Int32) (u5 : Int32) (H : Heap) (locs : List Loc) (ls : Array Slot), RC τ u4 u5 → PM dC dI ac A ad τ H → gN τ = gN τ0 → va_S A s.heap H locs → lv_has ls 9 [(0, .ref (ad 0 p0)), (3, .int u3), (4, .int u4), (5, .int u5)] → W p l e rmX10_deliver s m ([.ref (ad 0 k0), .int x1, .int x2] : List Value).toArray below meth c H locs 0 0 (MQ below (va_Qi (fun r (u : tw_T) => Q r u ∧ gN u = gN τ0) (fun u t => PM dC dI ac A ad u t.heap) A) ([.ref (ad 0 k0), .int x1, .int x2] : List Value).toArray s 0 0 A) (F0 m 41 ls [])) → (∀ (τ : tw_T) (u4 : Int32) (u5 : Int32) (H : Heap) (locs : List Loc) (ls : Array Slot), EX τ u4 u5 → PM dC dI ac A ad τ H → gN τ = gN τ0 → va_S A s.heap H locs → lv_has ls 9 [(0, .ref (ad 0 p0)), (3, .int u3), (4, .int u4), (5, .int u5)] → W p l e rmX10_deliver s m ([.ref (ad 0 k0), .int x1, .int x2] : List Value).toArray below meth c H locs 0 0 (MQ below (va_Qi (fun r (u : tw_T) => Q r u ∧ gN u = gN τ0) (fun u t => PM dC dI ac A ad u t.heap) A) ([.ref (ad 0 k0), .int x1, .int x2] : List Value).toArray s 0 0 A) (F0 m 273 ls [])) → W p l e rmX10_deliver s m ([.ref (ad 0 k0), .int x1, .int x2] : List Value).toArray below meth c H locs 0 0 (MQ below (va_Qi (fun r (u : tw_T) => Q r u ∧ gN u = gN τ0) (fun u t => PM dC dI ac A ad u t.heap) A) ([.ref (ad 0 k0), .int x1, .int x2] : List Value).toArray s 0 0 A) (F0 m 155 ls []) := by
        intro τ p0 hp0 u3 u4 u5 u6 H locs ls RC EX hF hP hN hS hl hRC hEX
        unfold J_X10_deliver_155 at hF
        refine lv_iconst (v := 0) hx hb dX10_deliver_155 (by decide) ?_
        exact j156 τ p0 hp0 u3 u4 u5 u6 ((0 : Int32)) _ _ _ RC EX hF hP hN hS (lv_sub hl [0, 1, 2, 3, 4] rfl) hRC hEX
      refine lv_iload hx hb dX10_deliver_41 (lv_at hl 3 rfl) ?_
      refine lv_iconst (v := 5) hx hb dX10_deliver_43 (by decide) ?_
      refine lv_iadd hx hb dX10_deliver_44 ?_
      refine lv_aload_n hx hb dX10_deliver_45 rfl (lv_at hl 0 rfl) ?_
      obtain ⟨o25, eo25, hF⟩ := hF
      have ho25 : o25 < gN τ0 141 := tw_lt (hP.2.2.2 0 p0 41 o25 (by decide) (tw_lt hp0 (congrFun hN 0)) eo25) (congrFun hN 141).symm
      refine tw_get (v := .ref (ad 141 o25)) hx hb hts (by decide +kernel) hown hK hP (by decide) (tw_lt hp0 (congrFun hN 0)) rfl rfl 41 (by decide) (hts (.fieldLink RX10 80 "WineCellarModel" "rowSize" "[I") (by decide +kernel)) (fun _ h9 => h9) (show some (va_rf ((gR τ 0 p0 41).map (ad 141))) = some (.ref (ad 141 o25)) by rw [eo25]; rfl) dX10_deliver_46 ?_
      refine lv_iload_n hx hb dX10_deliver_49 rfl (lv_at hl 1 rfl) ?_
      obtain ⟨hi26, hF⟩ := hF
      refine tw_iald hx hb hK hP (by decide) (tw_lt ho25 (congrFun hN 141)) rfl 0 rfl hi26 dX10_deliver_50 ?_
      refine lv_icmp_gt (tgt := 273) hx hb dX10_deliver_51 (by decide) (fun c27 => ?_) (fun c27 => ?_)
      · have hF := hF.1 c27
        exact hEX τ u4 u5 _ _ _ hF hP hN hS (lv_sub hl [0, 1, 2, 3] rfl)
      · have hF := hF.2 c27
        refine lv_bipush (v := 40) hx hb dX10_deliver_54 (by decide) ?_
        refine lv_iload_n hx hb dX10_deliver_56 rfl (lv_at hl 1 rfl) ?_
        refine lv_imul hx hb dX10_deliver_57 ?_
        refine lv_iload hx hb dX10_deliver_58 (lv_at hl 3 rfl) ?_
        refine lv_iadd hx hb dX10_deliver_60 ?_
        refine lv_topi (fun z28 ez28 => ?_)
        have hF := hF z28 ez28
        refine lv_istore (lv' := [(6, .int z28), (0, .ref (ad 0 p0)), (3, .int u3), (4, .int u4), (5, .int u5)]) hx hb dX10_deliver_61 hl (by decide) rfl (fun ls hl => ?_)
        refine lv_aload_n hx hb dX10_deliver_63 rfl (lv_at hl 1 rfl) ?_
        refine tw_get (v := .int (gI τ 0 p0 2)) hx hb hts (by decide +kernel) hown hK hP (by decide) (tw_lt hp0 (congrFun hN 0)) rfl rfl 2 (by decide) (hts (.fieldLink RX10 119 "WineCellarModel" "lots" "I") (by decide +kernel)) (fun _ h9 => h9) rfl dX10_deliver_64 ?_
        refine lv_bipush (v := 60) hx hb dX10_deliver_67 (by decide) ?_
        refine lv_icmp_ge (tgt := 155) hx hb dX10_deliver_69 (by decide) (fun c29 => ?_) (fun c29 => ?_)
        · have hF := hF.1 c29
          exact j155 τ p0 hp0 u3 u4 u5 z28 _ _ _ _ _ hF hP hN hS (lv_sub hl [1, 2, 3, 4, 0] rfl) (fun t v4 v5 H locs ls hF hP hN hS hl => ih t v4 v5 _ _ _ hF hP hN hS hl hEX) hEX
        · have hF := hF.2 c29
          refine lv_aload_n hx hb dX10_deliver_72 rfl (lv_at hl 1 rfl) ?_
          refine lv_iload hx hb dX10_deliver_73 (lv_at hl 0 rfl) ?_
          refine lv_lconst (v := 0) hx hb dX10_deliver_75 (by decide) ?_
          refine lv_aload_n hx hb dX10_deliver_76 rfl (lv_at hl 1 rfl) ?_
          refine tw_get (v := .int (gI τ 0 p0 1)) hx hb hts (by decide +kernel) hown hK hP (by decide) (tw_lt hp0 (congrFun hN 0)) rfl rfl 1 (by decide) (hts (.fieldLink RX10 116 "WineCellarModel" "kinds" "I") (by decide +kernel)) (fun _ h9 => h9) rfl dX10_deliver_77 ?_
          refine lv_i2l (v := (gI τ 0 p0 1).toInt64) hx hb dX10_deliver_80 rfl ?_
          refine lv_lconst (v := 1) hx hb dX10_deliver_81 (by decide) ?_
          refine lv_lsub hx hb dX10_deliver_82 ?_
          refine va_calli (va_runV (As := [.int z28, .long ((0 : Int64)), .long (((gI τ 0 p0 1).toInt64) - ((1 : Int64)))]) (rest := []) ⟨hx, hb, hml, hown, hts⟩ (mX10_isNumber l dC dI ac sa A ad τ p0 z28 ((0 : Int64)) (((gI τ 0 p0 1).toInt64) - ((1 : Int64))) _ hF (tw_lt hp0 (congrFun hN 0))) (cwV 3 hts gX10_deliver_X10_isNumber rfl rfl rfl (by decide +kernel) ⟨Nat.le_of_ble_eq_true rfl, Nat.le_of_ble_eq_true rfl⟩) ⟨BM.blind, tw_recv hK hP (by decide) (tw_lt hp0 (congrFun hN 0)) rfl rfl, fun U hU hW => ⟨rfl, BM.of hP hK hS hA hZ hU hW⟩⟩ rfl rfl hl.1 rfl (lv_room (Nat.le_of_ble_eq_true rfl)) dX10_deliver_83 ⟨Nat.le_of_ble_eq_true rfl, Nat.le_of_ble_eq_true rfl⟩) hS (fun q _ h => h) (fun q h => h) (fun r31 τ30 t H locs ht hvm hw hB hz hk hS => ?_)
          obtain ⟨hF, hN9⟩ := hw
          have hP : PM dC dI ac A ad τ30 H := tw_back hB ht
          have hN : gN τ30 = gN τ0 := hN9.trans hN
          refine lv_if_eq (tgt := 155) hx hb dX10_deliver_86 (by decide) (fun c32 => ?_) (fun c32 => ?_)
          · have hF := hF.1 c32
            exact j155 τ30 p0 hp0 u3 u4 u5 z28 _ _ _ _ _ hF hP hN hS (lv_sub hl [1, 2, 3, 4, 0] rfl) (fun t v4 v5 H locs ls hF hP hN hS hl => ih t v4 v5 _ _ _ hF hP hN hS hl hEX) hEX
          · have hF := hF.2 c32
            refine lv_aload_n hx hb dX10_deliver_89 rfl (lv_at hl 1 rfl) ?_
            refine lv_iload hx hb dX10_deliver_90 (lv_at hl 0 rfl) ?_
            refine lv_iconst (v := 1) hx hb dX10_deliver_92 (by decide) ?_
            refine lv_iadd hx hb dX10_deliver_93 ?_
            refine lv_ldc2 (v := 1900) hx hb hown (hts (.constantLong RX10 264 1900) (by decide +kernel)) dX10_deliver_94 ?_
            refine lv_ldc2 (v := 2100) hx hb hown (hts (.constantLong RX10 266 2100) (by decide +kernel)) dX10_deliver_97 ?_
            refine va_calli (va_runV (As := [.int (z28 + ((1 : Int32))), .long ((1900 : Int64)), .long ((2100 : Int64))]) (rest := []) ⟨hx, hb, hml, hown, hts⟩ (mX10_isNumber l dC dI ac sa A ad τ30 p0 (z28 + ((1 : Int32))) ((1900 : Int64)) ((2100 : Int64)) _ hF (tw_lt hp0 (congrFun hN 0))) (cwV 3 hts gX10_deliver_X10_isNumber rfl rfl rfl (by decide +kernel) ⟨Nat.le_of_ble_eq_true rfl, Nat.le_of_ble_eq_true rfl⟩) ⟨BM.blind, tw_recv hK hP (by decide) (tw_lt hp0 (congrFun hN 0)) rfl rfl, fun U hU hW => ⟨rfl, BM.of hP hK hS hA hZ hU hW⟩⟩ rfl rfl hl.1 rfl (lv_room (Nat.le_of_ble_eq_true rfl)) dX10_deliver_100 ⟨Nat.le_of_ble_eq_true rfl, Nat.le_of_ble_eq_true rfl⟩) hS (fun q _ h => h) (fun q h => h) (fun r34 τ33 t H locs ht hvm hw hB hz hk hS => ?_)
            obtain ⟨hF, hN9⟩ := hw
            have hP : PM dC dI ac A ad τ33 H := tw_back hB ht
            have hN : gN τ33 = gN τ0 := hN9.trans hN
            refine lv_if_eq (tgt := 155) hx hb dX10_deliver_103 (by decide) (fun c35 => ?_) (fun c35 => ?_)
            · have hF := hF.1 c35
              exact j155 τ33 p0 hp0 u3 u4 u5 z28 _ _ _ _ _ hF hP hN hS (lv_sub hl [1, 2, 3, 4, 0] rfl) (fun t v4 v5 H locs ls hF hP hN hS hl => ih t v4 v5 _ _ _ hF hP hN hS hl hEX) hEX
            · have hF := hF.2 c35
              refine lv_aload_n hx hb dX10_deliver_106 rfl (lv_at hl 1 rfl) ?_
              refine lv_iload hx hb dX10_deliver_107 (lv_at hl 0 rfl) ?_
              refine lv_iconst (v := 2) hx hb dX10_deliver_109 (by decide) ?_
              refine lv_iadd hx hb dX10_deliver_110 ?_
              refine lv_lconst (v := 1) hx hb dX10_deliver_111 (by decide) ?_
              refine lv_ldc2 (v := 10000) hx hb hown (hts (.constantLong RX10 268 10000) (by decide +kernel)) dX10_deliver_112 ?_
              refine va_calli (va_runV (As := [.int (z28 + ((2 : Int32))), .long ((1 : Int64)), .long ((10000 : Int64))]) (rest := []) ⟨hx, hb, hml, hown, hts⟩ (mX10_isNumber l dC dI ac sa A ad τ33 p0 (z28 + ((2 : Int32))) ((1 : Int64)) ((10000 : Int64)) _ hF (tw_lt hp0 (congrFun hN 0))) (cwV 3 hts gX10_deliver_X10_isNumber rfl rfl rfl (by decide +kernel) ⟨Nat.le_of_ble_eq_true rfl, Nat.le_of_ble_eq_true rfl⟩) ⟨BM.blind, tw_recv hK hP (by decide) (tw_lt hp0 (congrFun hN 0)) rfl rfl, fun U hU hW => ⟨rfl, BM.of hP hK hS hA hZ hU hW⟩⟩ rfl rfl hl.1 rfl (lv_room (Nat.le_of_ble_eq_true rfl)) dX10_deliver_115 ⟨Nat.le_of_ble_eq_true rfl, Nat.le_of_ble_eq_true rfl⟩) hS (fun q _ h => h) (fun q h => h) (fun r37 τ36 t H locs ht hvm hw hB hz hk hS => ?_)
              obtain ⟨hF, hN9⟩ := hw
              have hP : PM dC dI ac A ad τ36 H := tw_back hB ht
              have hN : gN τ36 = gN τ0 := hN9.trans hN
              refine lv_if_eq (tgt := 155) hx hb dX10_deliver_118 (by decide) (fun c38 => ?_) (fun c38 => ?_)
              · have hF := hF.1 c38
                exact j155 τ36 p0 hp0 u3 u4 u5 z28 _ _ _ _ _ hF hP hN hS (lv_sub hl [1, 2, 3, 4, 0] rfl) (fun t v4 v5 H locs ls hF hP hN hS hl => ih t v4 v5 _ _ _ hF hP hN hS hl hEX) hEX
              · have hF := hF.2 c38
                refine lv_aload_n hx hb dX10_deliver_121 rfl (lv_at hl 1 rfl) ?_
                refine lv_iload hx hb dX10_deliver_122 (lv_at hl 0 rfl) ?_
                refine lv_iconst (v := 3) hx hb dX10_deliver_124 (by decide) ?_
                refine lv_iadd hx hb dX10_deliver_125 ?_
                refine lv_lconst (v := 0) hx hb dX10_deliver_126 (by decide) ?_
                refine lv_ldc2 (v := 29) hx hb hown (hts (.constantLong RX10 270 29) (by decide +kernel)) dX10_deliver_127 ?_
                refine va_calli (va_runV (As := [.int (z28 + ((3 : Int32))), .long ((0 : Int64)), .long ((29 : Int64))]) (rest := []) ⟨hx, hb, hml, hown, hts⟩ (mX10_isNumber l dC dI ac sa A ad τ36 p0 (z28 + ((3 : Int32))) ((0 : Int64)) ((29 : Int64)) _ hF (tw_lt hp0 (congrFun hN 0))) (cwV 3 hts gX10_deliver_X10_isNumber rfl rfl rfl (by decide +kernel) ⟨Nat.le_of_ble_eq_true rfl, Nat.le_of_ble_eq_true rfl⟩) ⟨BM.blind, tw_recv hK hP (by decide) (tw_lt hp0 (congrFun hN 0)) rfl rfl, fun U hU hW => ⟨rfl, BM.of hP hK hS hA hZ hU hW⟩⟩ rfl rfl hl.1 rfl (lv_room (Nat.le_of_ble_eq_true rfl)) dX10_deliver_130 ⟨Nat.le_of_ble_eq_true rfl, Nat.le_of_ble_eq_true rfl⟩) hS (fun q _ h => h) (fun q h => h) (fun r40 τ39 t H locs ht hvm hw hB hz hk hS => ?_)
                obtain ⟨hF, hN9⟩ := hw
                have hP : PM dC dI ac A ad τ39 H := tw_back hB ht
                have hN : gN τ39 = gN τ0 := hN9.trans hN
                refine lv_if_eq (tgt := 155) hx hb dX10_deliver_133 (by decide) (fun c41 => ?_) (fun c41 => ?_)
                · have hF := hF.1 c41
                  exact j155 τ39 p0 hp0 u3 u4 u5 z28 _ _ _ _ _ hF hP hN hS (lv_sub hl [1, 2, 3, 4, 0] rfl) (fun t v4 v5 H locs ls hF hP hN hS hl => ih t v4 v5 _ _ _ hF hP hN hS hl hEX) hEX
                · have hF := hF.2 c41
                  refine lv_aload_n hx hb dX10_deliver_136 rfl (lv_at hl 1 rfl) ?_
                  refine lv_iload hx hb dX10_deliver_137 (lv_at hl 0 rfl) ?_
                  refine lv_iconst (v := 4) hx hb dX10_deliver_139 (by decide) ?_
                  refine lv_iadd hx hb dX10_deliver_140 ?_
                  refine lv_lconst (v := 1) hx hb dX10_deliver_141 (by decide) ?_
                  refine lv_ldc2 (v := 12) hx hb hown (hts (.constantLong RX10 272 12) (by decide +kernel)) dX10_deliver_142 ?_
                  refine va_calli (va_runV (As := [.int (z28 + ((4 : Int32))), .long ((1 : Int64)), .long ((12 : Int64))]) (rest := []) ⟨hx, hb, hml, hown, hts⟩ (mX10_isNumber l dC dI ac sa A ad τ39 p0 (z28 + ((4 : Int32))) ((1 : Int64)) ((12 : Int64)) _ hF (tw_lt hp0 (congrFun hN 0))) (cwV 3 hts gX10_deliver_X10_isNumber rfl rfl rfl (by decide +kernel) ⟨Nat.le_of_ble_eq_true rfl, Nat.le_of_ble_eq_true rfl⟩) ⟨BM.blind, tw_recv hK hP (by decide) (tw_lt hp0 (congrFun hN 0)) rfl rfl, fun U hU hW => ⟨rfl, BM.of hP hK hS hA hZ hU hW⟩⟩ rfl rfl hl.1 rfl (lv_room (Nat.le_of_ble_eq_true rfl)) dX10_deliver_145 ⟨Nat.le_of_ble_eq_true rfl, Nat.le_of_ble_eq_true rfl⟩) hS (fun q _ h => h) (fun q h => h) (fun r43 τ42 t H locs ht hvm hw hB hz hk hS => ?_)
                  obtain ⟨hF, hN9⟩ := hw
                  have hP : PM dC dI ac A ad τ42 H := tw_back hB ht
                  have hN : gN τ42 = gN τ0 := hN9.trans hN
                  refine lv_if_eq (tgt := 155) hx hb dX10_deliver_148 (by decide) (fun c44 => ?_) (fun c44 => ?_)
                  · have hF := hF.1 c44
                    exact j155 τ42 p0 hp0 u3 u4 u5 z28 _ _ _ _ _ hF hP hN hS (lv_sub hl [1, 2, 3, 4, 0] rfl) (fun t v4 v5 H locs ls hF hP hN hS hl => ih t v4 v5 _ _ _ hF hP hN hS hl hEX) hEX
                  · have hF := hF.2 c44
                    refine lv_iconst (v := 1) hx hb dX10_deliver_151 (by decide) ?_
                    refine lv_goto (tgt := 156) hx hb dX10_deliver_152 (by decide) ?_
                    exact j156 τ42 p0 hp0 u3 u4 u5 z28 ((1 : Int32)) _ _ _ _ _ hF hP hN hS (lv_sub hl [1, 2, 3, 4, 0] rfl) (fun t v4 v5 H locs ls hF hP hN hS hl => ih t v4 v5 _ _ _ hF hP hN hS hl hEX) hEX
  refine lv_aload_n hx hb dX10_deliver_0 rfl (lv_at hl 0 rfl) ?_
  refine lv_iconst (v := 0) hx hb dX10_deliver_1 (by decide) ?_
  refine tw_put (τ' := sI τ0 0 k0 0 ((0 : Int32))) (ty := .int) hx hb hts (by decide +kernel) tyX10 tyX10_ok nmX10 hown hK hP hS (by decide) hk0 rfl rfl 0 (by decide) (hts (.fieldLink RX10 1 "WineCellarModel" "thrown" "I") (by decide +kernel)) (fun _ h9 => h9) rfl (by decide +kernel) rfl rfl (Nat.le_of_ble_eq_true rfl) dX10_deliver_2 (fun H1 ha ho => tw_updI hP (by decide) hk0 ha ho) (fun H locs hP hS => ?_)
  obtain ⟨τ45, eτ45⟩ : ∃ y : tw_T, y = sI τ0 0 k0 0 ((0 : Int32)) := ⟨_, rfl⟩
  have hF := hF τ45 eτ45
  rw [← eτ45] at hP
  have hN : gN τ45 = gN τ0 := by rw [eτ45]; exact hN
  refine lv_aload_n hx hb dX10_deliver_5 rfl (lv_at hl 0 rfl) ?_
  refine lv_iload_n hx hb dX10_deliver_6 rfl (lv_at hl 1 rfl) ?_
  refine lv_iload_n hx hb dX10_deliver_7 rfl (lv_at hl 2 rfl) ?_
  refine va_calli (va_runV (As := [.int x1, .int x2]) (rest := []) ⟨hx, hb, hml, hown, hts⟩ (mX10_isRow l dC dI ac sa A ad τ45 k0 x1 x2 _ hF (tw_lt hk0 (congrFun hN 0))) (cwV 2 hts gX10_deliver_X10_isRow rfl rfl rfl (by decide +kernel) ⟨Nat.le_of_ble_eq_true rfl, Nat.le_of_ble_eq_true rfl⟩) ⟨BM.blind, tw_recv hK hP (by decide) (tw_lt hk0 (congrFun hN 0)) rfl rfl, fun U hU hW => ⟨rfl, BM.of hP hK hS hA hZ hU hW⟩⟩ rfl rfl hl.1 rfl (lv_room (Nat.le_of_ble_eq_true rfl)) dX10_deliver_8 ⟨Nat.le_of_ble_eq_true rfl, Nat.le_of_ble_eq_true rfl⟩) hS (fun q _ h => h) (fun q h => h) (fun r47 τ46 t H locs ht hvm hw hB hz hk hS => ?_)
  obtain ⟨hF, hN9⟩ := hw
  have hP : PM dC dI ac A ad τ46 H := tw_back hB ht
  have hN : gN τ46 = gN τ0 := hN9.trans hN
  refine lv_if_ne (tgt := 16) hx hb dX10_deliver_11 (by decide) (fun c48 => ?_) (fun c48 => ?_)
  · have hF := hF.1 c48
    refine lv_bipush (v := 10) hx hb dX10_deliver_16 (by decide) ?_
    refine lv_iload_n hx hb dX10_deliver_18 rfl (lv_at hl 1 rfl) ?_
    refine lv_imul hx hb dX10_deliver_19 ?_
    refine lv_iload_n hx hb dX10_deliver_20 rfl (lv_at hl 2 rfl) ?_
    refine lv_iadd hx hb dX10_deliver_21 ?_
    refine lv_topi (fun z49 ez49 => ?_)
    have hF := hF z49 ez49
    refine lv_istore_n (lv' := [(3, .int z49), (0, .ref (ad 0 k0)), (1, .int x1), (2, .int x2)]) hx hb dX10_deliver_22 rfl hl (by decide) rfl (fun ls hl => ?_)
    refine lv_aload_n hx hb dX10_deliver_23 rfl (lv_at hl 1 rfl) ?_
    obtain ⟨o50, eo50, hF⟩ := hF
    have ho50 : o50 < gN τ0 141 := tw_lt (hP.2.2.2 0 k0 41 o50 (by decide) (tw_lt hk0 (congrFun hN 0)) eo50) (congrFun hN 141).symm
    refine tw_get (v := .ref (ad 141 o50)) hx hb hts (by decide +kernel) hown hK hP (by decide) (tw_lt hk0 (congrFun hN 0)) rfl rfl 41 (by decide) (hts (.fieldLink RX10 80 "WineCellarModel" "rowSize" "[I") (by decide +kernel)) (fun _ h9 => h9) (show some (va_rf ((gR τ46 0 k0 41).map (ad 141))) = some (.ref (ad 141 o50)) by rw [eo50]; rfl) dX10_deliver_24 ?_
    refine lv_iload_n hx hb dX10_deliver_27 rfl (lv_at hl 0 rfl) ?_
    obtain ⟨hi51, hF⟩ := hF
    refine tw_iald hx hb hK hP (by decide) (tw_lt ho50 (congrFun hN 141)) rfl 0 rfl hi51 dX10_deliver_28 ?_
    refine lv_iconst (v := (-1)) hx hb dX10_deliver_29 (by decide) ?_
    refine lv_icmp_ne (tgt := 35) hx hb dX10_deliver_30 (by decide) (fun c52 => ?_) (fun c52 => ?_)
    · have hF := hF.1 c52
      refine lv_iconst (v := 0) hx hb dX10_deliver_35 (by decide) ?_
      refine lv_istore (lv' := [(4, .int ((0 : Int32))), (3, .int z49), (0, .ref (ad 0 k0)), (1, .int x1), (2, .int x2)]) hx hb dX10_deliver_36 hl (by decide) rfl (fun ls hl => ?_)
      refine lv_iconst (v := 0) hx hb dX10_deliver_38 (by decide) ?_
      refine lv_istore (lv' := [(5, .int ((0 : Int32))), (4, .int ((0 : Int32))), (3, .int z49), (0, .ref (ad 0 k0)), (1, .int x1), (2, .int x2)]) hx hb dX10_deliver_39 hl (by decide) rfl (fun ls hl => ?_)
      obtain ⟨n53, hF⟩ := hF
      refine l41 k0 hk0 z49 _ n53 τ46 ((0 : Int32)) ((0 : Int32)) _ _ _ hF hP hN hS (lv_sub hl [3, 2, 1, 0] rfl) ?_
      intro τ54 z55 z56 H locs ls hF hP hN hS hl
      refine lv_iload hx hb dX10_deliver_273 (lv_at hl 2 rfl) ?_
      exact W.iret (v := z55) hx hb hr (fun t ht hW => ⟨⟨z55, τ54, rfl, ⟨hF, hN⟩, tw_at hP ht⟩, hS.F ht⟩) hS.2.2 dX10_deliver_275
    · have hF := hF.2 c52
      refine lv_iconst (v := (-1)) hx hb dX10_deliver_33 (by decide) ?_
      exact W.iret (v := (-1 : Int32)) hx hb hr (fun t ht hW => ⟨⟨((-1 : Int32)), τ46, rfl, ⟨hF, hN⟩, tw_at hP ht⟩, hS.F ht⟩) hS.2.2 dX10_deliver_34
  · have hF := hF.2 c48
    refine lv_iconst (v := 0) hx hb dX10_deliver_14 (by decide) ?_
    exact W.iret (v := (0 : Int32)) hx hb hr (fun t ht hW => ⟨⟨((0 : Int32)), τ46, rfl, ⟨hF, hN⟩, tw_at hP ht⟩, hS.F ht⟩) hS.2.2 dX10_deliver_15
def F_X10_mayIn (τ0 : tw_T) (k0 : Nat) (x1 : Int32) (x2 : Int32) (Q : Int32 → tw_T → Prop) : Prop := ∃ o1 : Nat, gR τ0 0 k0 13 = some o1 ∧ (vp_in x1 60 ∧ (((x2 < (gI τ0 113 o1 x1.toNatClampNeg) → (Q ((0 : Int32)) τ0)) ∧ (¬ x2 < (gI τ0 113 o1 x1.toNatClampNeg) → (∃ o4 : Nat, gR τ0 0 k0 14 = some o4 ∧ (vp_in x1 60 ∧ ((((gI τ0 114 o4 x1.toNatClampNeg) < x2 → (Q ((0 : Int32)) τ0)) ∧ (¬ (gI τ0 114 o4 x1.toNatClampNeg) < x2 → (Q ((1 : Int32)) τ0))))))))))
def rmX10_mayIn : Room := { frames := 0, cells := 0, slots := 0, locals := 0 }
set_option maxHeartbeats 4000000 in
set_option maxRecDepth 100000 in
theorem mX10_mayIn (l : Launch) (dC : Nat → ClassId) (dI : Nat → Nat → Nat) (ac : Nat → ClassId) (sa : Nat → Nat) (A : Nat → Prop) (ad : Nat → Nat → Nat) (τ0 : tw_T) (k0 : Nat) (x1 : Int32) (x2 : Int32) (Q : Int32 → tw_T → Prop) (hF : F_X10_mayIn τ0 k0 x1 x2 Q) (hk0 : k0 < gN τ0 0) : Met l yX10_mayIn wsX10_mayIn rmX10_mayIn (va_Pc [.ref (ad 0 k0), .int x1, .int x2] (BM dC dI ac sa A ad τ0)) (va_Qi (fun r (u : tw_T) => Q r u ∧ gN u = gN τ0) (fun u t => PM dC dI ac A ad u t.heap) A) 0 0 A := by
  refine Met.ofW (cc := cX10_mayIn) (maxL := 3) (ret := (some .boolean)) (by decide) rfl ?_
  intro p e s m args below meth c s₁ B hml hv
  obtain ⟨rfl, hP, hK, hA, hZ⟩ := hv
  have hx := B.exec
  have hb := B.bytes
  have hr := B.returns
  have hts := atoms_spec (ws := wsX10_mayIn) B.pre
  have hown : s.vm.findClass RX10 = some m.cls := findClass_of_methodNamed B.named
  have hlocks := B.notSynchronized
  have hS : va_S A s.heap s.heap [] := va_S.rf
  have hN : gN τ0 = gN τ0 := rfl
  have hl := lv_entry ([.ref (ad 0 k0), .int x1, .int x2]) (n := 3) (Nat.le_of_ble_eq_true rfl)
  rw [lg_entry_eq]
  generalize (lg_sl ([.ref (ad 0 k0), .int x1, .int x2]) ++ List.replicate (3 - (lg_sl ([.ref (ad 0 k0), .int x1, .int x2])).length) Slot.unset).toArray = ls at hl ⊢
  have hl : lv_has ls 3 [(0, .ref (ad 0 k0)), (1, .int x1), (2, .int x2)] := hl
  unfold F_X10_mayIn at hF
  refine lv_iload_n hx hb dX10_mayIn_0 rfl (lv_at hl 2 rfl) ?_
  refine lv_aload_n hx hb dX10_mayIn_1 rfl (lv_at hl 0 rfl) ?_
  obtain ⟨o1, eo1, hF⟩ := hF
  have ho1 : o1 < gN τ0 113 := tw_lt (hP.2.2.2 0 k0 13 o1 (by decide) hk0 eo1) (congrFun hN 113).symm
  refine tw_get (v := .ref (ad 113 o1)) hx hb hts (by decide +kernel) hown hK hP (by decide) hk0 rfl rfl 13 (by decide) (hts (.fieldLink RX10 38 "WineCellarModel" "from" "[I") (by decide +kernel)) (fun _ h9 => h9) (show some (va_rf ((gR τ0 0 k0 13).map (ad 113))) = some (.ref (ad 113 o1)) by rw [eo1]; rfl) dX10_mayIn_2 ?_
  refine lv_iload_n hx hb dX10_mayIn_5 rfl (lv_at hl 1 rfl) ?_
  obtain ⟨hi2, hF⟩ := hF
  refine tw_iald hx hb hK hP (by decide) ho1 rfl 0 rfl hi2 dX10_mayIn_6 ?_
  refine lv_icmp_lt (tgt := 24) hx hb dX10_mayIn_7 (by decide) (fun c3 => ?_) (fun c3 => ?_)
  · have hF := hF.1 c3
    refine lv_iconst (v := 0) hx hb dX10_mayIn_24 (by decide) ?_
    exact W.zret (v := (0 : Int32)) (ty := .boolean) hx hb hr rfl (fun t ht hW => ⟨⟨((0 : Int32)), τ0, rfl, ⟨hF, hN⟩, tw_at hP ht⟩, hS.F ht⟩) hS.2.2 dX10_mayIn_25
  · have hF := hF.2 c3
    refine lv_iload_n hx hb dX10_mayIn_10 rfl (lv_at hl 2 rfl) ?_
    refine lv_aload_n hx hb dX10_mayIn_11 rfl (lv_at hl 0 rfl) ?_
    obtain ⟨o4, eo4, hF⟩ := hF
    have ho4 : o4 < gN τ0 114 := tw_lt (hP.2.2.2 0 k0 14 o4 (by decide) hk0 eo4) (congrFun hN 114).symm
    refine tw_get (v := .ref (ad 114 o4)) hx hb hts (by decide +kernel) hown hK hP (by decide) hk0 rfl rfl 14 (by decide) (hts (.fieldLink RX10 41 "WineCellarModel" "until" "[I") (by decide +kernel)) (fun _ h9 => h9) (show some (va_rf ((gR τ0 0 k0 14).map (ad 114))) = some (.ref (ad 114 o4)) by rw [eo4]; rfl) dX10_mayIn_12 ?_
    refine lv_iload_n hx hb dX10_mayIn_15 rfl (lv_at hl 1 rfl) ?_
    obtain ⟨hi5, hF⟩ := hF
    refine tw_iald hx hb hK hP (by decide) ho4 rfl 0 rfl hi5 dX10_mayIn_16 ?_
    refine lv_icmp_gt (tgt := 24) hx hb dX10_mayIn_17 (by decide) (fun c6 => ?_) (fun c6 => ?_)
    · have hF := hF.1 c6
      refine lv_iconst (v := 0) hx hb dX10_mayIn_24 (by decide) ?_
      exact W.zret (v := (0 : Int32)) (ty := .boolean) hx hb hr rfl (fun t ht hW => ⟨⟨((0 : Int32)), τ0, rfl, ⟨hF, hN⟩, tw_at hP ht⟩, hS.F ht⟩) hS.2.2 dX10_mayIn_25
    · have hF := hF.2 c6
      refine lv_iconst (v := 1) hx hb dX10_mayIn_20 (by decide) ?_
      refine lv_goto (tgt := 25) hx hb dX10_mayIn_21 (by decide) ?_
      exact W.zret (v := (1 : Int32)) (ty := .boolean) hx hb hr rfl (fun t ht hW => ⟨⟨((1 : Int32)), τ0, rfl, ⟨hF, hN⟩, tw_at hP ht⟩, hS.F ht⟩) hS.2.2 dX10_mayIn_25
def L_X10_count_94 (p0 : Nat) (Q : Int32 → tw_T → Prop) (EX : tw_T → Int32 → Int32 → Prop) : Nat → tw_T → Int32 → Int32 → Prop
  | 0, _, _, _ => False
  | n + 1, τ, u2, u3 => ((((30 : Int32)) ≤ u3 → (EX τ u2 u3)) ∧ (¬ ((30 : Int32)) ≤ u3 → (∃ o2 : Nat, gR τ 0 p0 24 = some o2 ∧ (vp_in u3 30 ∧ (∀ z4 : Int32, z4 = u2 + (gI τ 124 o2 u3.toNatClampNeg) → (∀ z5 : Int32, z5 = u3 + (1 : Int32) → (L_X10_count_94 p0 Q EX n τ z4 z5)))))))
def F_X10_count (τ0 : tw_T) (k0 : Nat) (x1 : Int32) (Q : Int32 → tw_T → Prop) : Prop := ∀ τ6 : tw_T, τ6 = sI τ0 0 k0 0 ((0 : Int32)) → (((x1.toInt < 0 ∨ 14 < x1.toInt → (Q ((-1 : Int32)) τ6)) ∧ (x1 = (0 : Int32) → (Q (gI τ6 0 k0 15) τ6)) ∧ (x1 = (1 : Int32) → (Q (gI τ6 0 k0 16) τ6)) ∧ (x1 = (2 : Int32) → (∃ n7 : Nat, L_X10_count_94 k0 Q (fun (τ8 : tw_T) (z9 : Int32) (z10 : Int32) => Q z9 τ8) n7 τ6 ((0 : Int32)) ((0 : Int32)))) ∧ (x1 = (3 : Int32) → (Q (gI τ6 0 k0 22) τ6)) ∧ (x1 = (4 : Int32) → (Q (gI τ6 0 k0 17) τ6)) ∧ (x1 = (5 : Int32) → (Q (gI τ6 0 k0 18) τ6)) ∧ (x1 = (6 : Int32) → (Q (gI τ6 0 k0 19) τ6)) ∧ (x1 = (7 : Int32) → (Q (gI τ6 0 k0 20) τ6)) ∧ (x1 = (8 : Int32) → (Q (gI τ6 0 k0 21) τ6)) ∧ (x1 = (9 : Int32) → (Q (gI τ6 0 k0 1) τ6)) ∧ (x1 = (10 : Int32) → (Q (gI τ6 0 k0 2) τ6)) ∧ (x1 = (11 : Int32) → (Q (gI τ6 0 k0 29) τ6)) ∧ (x1 = (12 : Int32) → (Q (gI τ6 0 k0 39) τ6)) ∧ (x1 = (13 : Int32) → (Q (gI τ6 0 k0 3) τ6)) ∧ (x1 = (14 : Int32) → (Q (gI τ6 0 k0 28) τ6))))
def rmX10_count : Room := { frames := 0, cells := 0, slots := 0, locals := 0 }
set_option maxHeartbeats 4000000 in
set_option maxRecDepth 100000 in
theorem mX10_count (l : Launch) (dC : Nat → ClassId) (dI : Nat → Nat → Nat) (ac : Nat → ClassId) (sa : Nat → Nat) (A : Nat → Prop) (ad : Nat → Nat → Nat) (τ0 : tw_T) (k0 : Nat) (x1 : Int32) (Q : Int32 → tw_T → Prop) (hF : F_X10_count τ0 k0 x1 Q) (hk0 : k0 < gN τ0 0) : Met l yX10_count wsX10_count rmX10_count (va_Pc [.ref (ad 0 k0), .int x1] (BM dC dI ac sa A ad τ0)) (va_Qi (fun r (u : tw_T) => Q r u ∧ gN u = gN τ0) (fun u t => PM dC dI ac A ad u t.heap) A) 0 0 A := by
  refine Met.ofW (cc := cX10_count) (maxL := 4) (ret := (some .int)) (by decide) rfl ?_
  intro p e s m args below meth c s₁ B hml hv
  obtain ⟨rfl, hP, hK, hA, hZ⟩ := hv
  have hx := B.exec
  have hb := B.bytes
  have hr := B.returns
  have hts := atoms_spec (ws := wsX10_count) B.pre
  have hown : s.vm.findClass RX10 = some m.cls := findClass_of_methodNamed B.named
  have hlocks := B.notSynchronized
  have hS : va_S A s.heap s.heap [] := va_S.rf
  have hN : gN τ0 = gN τ0 := rfl
  have hl := lv_entry ([.ref (ad 0 k0), .int x1]) (n := 4) (Nat.le_of_ble_eq_true rfl)
  rw [lg_entry_eq]
  generalize (lg_sl ([.ref (ad 0 k0), .int x1]) ++ List.replicate (4 - (lg_sl ([.ref (ad 0 k0), .int x1])).length) Slot.unset).toArray = ls at hl ⊢
  have hl : lv_has ls 4 [(0, .ref (ad 0 k0)), (1, .int x1)] := hl
  unfold F_X10_count at hF
  have l94 : ∀ (p0 : Nat) (hp0 : p0 < gN τ0 0) (EX : tw_T → Int32 → Int32 → Prop) (n : Nat) (τ : tw_T) (u2 : Int32) (u3 : Int32) (H : Heap) (locs : List Loc) (ls : Array Slot), L_X10_count_94 p0 Q EX n τ u2 u3 → PM dC dI ac A ad τ H → gN τ = gN τ0 → va_S A s.heap H locs → lv_has ls 4 [(0, .ref (ad 0 p0)), (2, .int u2), (3, .int u3)] → (∀ (τ : tw_T) (u2 : Int32) (u3 : Int32) (H : Heap) (locs : List Loc) (ls : Array Slot), EX τ u2 u3 → PM dC dI ac A ad τ H → gN τ = gN τ0 → va_S A s.heap H locs → lv_has ls 4 [(0, .ref (ad 0 p0)), (2, .int u2), (3, .int u3)] → W p l e rmX10_count s m ([.ref (ad 0 k0), .int x1] : List Value).toArray below meth c H locs 0 0 (MQ below (va_Qi (fun r (u : tw_T) => Q r u ∧ gN u = gN τ0) (fun u t => PM dC dI ac A ad u t.heap) A) ([.ref (ad 0 k0), .int x1] : List Value).toArray s 0 0 A) (F0 m 115 ls [])) → W p l e rmX10_count s m ([.ref (ad 0 k0), .int x1] : List Value).toArray below meth c H locs 0 0 (MQ below (va_Qi (fun r (u : tw_T) => Q r u ∧ gN u = gN τ0) (fun u t => PM dC dI ac A ad u t.heap) A) ([.ref (ad 0 k0), .int x1] : List Value).toArray s 0 0 A) (F0 m 94 ls []) := by
    intro p0 hp0 EX n
    induction n with
    | zero => intro τ u2 u3 H locs ls hF; exact hF.elim
    | succ n ih =>
      intro τ u2 u3 H locs ls hF hP hN hS hl hEX
      rw [L_X10_count_94] at hF
      refine lv_iload_n hx hb dX10_count_94 rfl (lv_at hl 2 rfl) ?_
      refine lv_bipush (v := 30) hx hb dX10_count_95 (by decide) ?_
      refine lv_icmp_ge (tgt := 115) hx hb dX10_count_97 (by decide) (fun c1 => ?_) (fun c1 => ?_)
      · have hF := hF.1 c1
        exact hEX τ u2 u3 _ _ _ hF hP hN hS (lv_sub hl [0, 1, 2] rfl)
      · have hF := hF.2 c1
        refine lv_iload_n hx hb dX10_count_100 rfl (lv_at hl 1 rfl) ?_
        refine lv_aload_n hx hb dX10_count_101 rfl (lv_at hl 0 rfl) ?_
        obtain ⟨o2, eo2, hF⟩ := hF
        have ho2 : o2 < gN τ0 124 := tw_lt (hP.2.2.2 0 p0 24 o2 (by decide) (tw_lt hp0 (congrFun hN 0)) eo2) (congrFun hN 124).symm
        refine tw_get (v := .ref (ad 124 o2)) hx hb hts (by decide +kernel) hown hK hP (by decide) (tw_lt hp0 (congrFun hN 0)) rfl rfl 24 (by decide) (hts (.fieldLink RX10 47 "WineCellarModel" "cellMany" "[I") (by decide +kernel)) (fun _ h9 => h9) (show some (va_rf ((gR τ 0 p0 24).map (ad 124))) = some (.ref (ad 124 o2)) by rw [eo2]; rfl) dX10_count_102 ?_
        refine lv_iload_n hx hb dX10_count_105 rfl (lv_at hl 2 rfl) ?_
        obtain ⟨hi3, hF⟩ := hF
        refine tw_iald hx hb hK hP (by decide) (tw_lt ho2 (congrFun hN 124)) rfl 0 rfl hi3 dX10_count_106 ?_
        refine lv_iadd hx hb dX10_count_107 ?_
        refine lv_topi (fun z4 ez4 => ?_)
        have hF := hF z4 ez4
        refine lv_istore_n (lv' := [(2, .int z4), (0, .ref (ad 0 p0)), (3, .int u3)]) hx hb dX10_count_108 rfl hl (by decide) rfl (fun ls hl => ?_)
        obtain ⟨z5, ez5⟩ : ∃ y : Int32, y = u3 + (1 : Int32) := ⟨_, rfl⟩
        have hF := hF z5 ez5
        refine lv_iinc (v := z5) (lv' := [(3, .int z5), (2, .int z4), (0, .ref (ad 0 p0))]) hx hb dX10_count_109 hl (k := 2) rfl (by rw [ez5]; rfl) (by decide) rfl (fun ls hl => ?_)
        refine lv_goto (tgt := 94) hx hb dX10_count_112 (by decide) ?_
        exact ih τ z4 z5 _ _ _ hF hP hN hS (lv_sub hl [2, 1, 0] rfl) hEX
  refine lv_aload_n hx hb dX10_count_0 rfl (lv_at hl 0 rfl) ?_
  refine lv_iconst (v := 0) hx hb dX10_count_1 (by decide) ?_
  refine tw_put (τ' := sI τ0 0 k0 0 ((0 : Int32))) (ty := .int) hx hb hts (by decide +kernel) tyX10 tyX10_ok nmX10 hown hK hP hS (by decide) hk0 rfl rfl 0 (by decide) (hts (.fieldLink RX10 1 "WineCellarModel" "thrown" "I") (by decide +kernel)) (fun _ h9 => h9) rfl (by decide +kernel) rfl rfl (Nat.le_of_ble_eq_true rfl) dX10_count_2 (fun H1 ha ho => tw_updI hP (by decide) hk0 ha ho) (fun H locs hP hS => ?_)
  obtain ⟨τ6, eτ6⟩ : ∃ y : tw_T, y = sI τ0 0 k0 0 ((0 : Int32)) := ⟨_, rfl⟩
  have hF := hF τ6 eτ6
  rw [← eτ6] at hP
  have hN : gN τ6 = gN τ0 := by rw [eτ6]; exact hN
  refine lv_iload_n hx hb dX10_count_5 rfl (lv_at hl 1 rfl) ?_
  by_cases cd : x1.toInt < 0 ∨ 14 < x1.toInt
  · have hF := hF.1 cd
    refine lv_tableOut (tgt := 177) hx hb dX10_count_6 cd (by decide) ?_
    refine lv_iconst (v := (-1)) hx hb dX10_count_177 (by decide) ?_
    exact W.iret (v := (-1 : Int32)) hx hb hr (fun t ht hW => ⟨⟨((-1 : Int32)), τ6, rfl, ⟨hF, hN⟩, tw_at hP ht⟩, hS.F ht⟩) hS.2.2 dX10_count_178
  · have hF := hF.2
    rcases (show x1.toInt = 0 ∨ x1.toInt = 1 ∨ x1.toInt = 2 ∨ x1.toInt = 3 ∨ x1.toInt = 4 ∨ x1.toInt = 5 ∨ x1.toInt = 6 ∨ x1.toInt = 7 ∨ x1.toInt = 8 ∨ x1.toInt = 9 ∨ x1.toInt = 10 ∨ x1.toInt = 11 ∨ x1.toInt = 12 ∨ x1.toInt = 13 ∨ x1.toInt = 14 by omega) with e9 | e9 | e9 | e9 | e9 | e9 | e9 | e9 | e9 | e9 | e9 | e9 | e9 | e9 | e9
    · have c9 : x1 = (0 : Int32) := tw_sw e9 rfl
      have hF := hF.1 c9
      refine lv_tableIn (off := 74) (tgt := 80) hx hb dX10_count_6 (by rw [e9]; decide) (by rw [e9]; decide) (by rw [e9]; rfl) (by decide) ?_
      refine lv_aload_n hx hb dX10_count_80 rfl (lv_at hl 0 rfl) ?_
      refine tw_get (v := .int (gI τ6 0 k0 15)) hx hb hts (by decide +kernel) hown hK hP (by decide) (tw_lt hk0 (congrFun hN 0)) rfl rfl 15 (by decide) (hts (.fieldLink RX10 146 "WineCellarModel" "bought" "I") (by decide +kernel)) (fun _ h9 => h9) rfl dX10_count_81 ?_
      exact W.iret (v := gI τ6 0 k0 15) hx hb hr (fun t ht hW => ⟨⟨(gI τ6 0 k0 15), τ6, rfl, ⟨hF, hN⟩, tw_at hP ht⟩, hS.F ht⟩) hS.2.2 dX10_count_84
    · have c9 : x1 = (1 : Int32) := tw_sw e9 rfl
      have hF := hF.2.1 c9
      refine lv_tableIn (off := 79) (tgt := 85) hx hb dX10_count_6 (by rw [e9]; decide) (by rw [e9]; decide) (by rw [e9]; rfl) (by decide) ?_
      refine lv_aload_n hx hb dX10_count_85 rfl (lv_at hl 0 rfl) ?_
      refine tw_get (v := .int (gI τ6 0 k0 16)) hx hb hts (by decide +kernel) hown hK hP (by decide) (tw_lt hk0 (congrFun hN 0)) rfl rfl 16 (by decide) (hts (.fieldLink RX10 169 "WineCellarModel" "foundMany" "I") (by decide +kernel)) (fun _ h9 => h9) rfl dX10_count_86 ?_
      exact W.iret (v := gI τ6 0 k0 16) hx hb hr (fun t ht hW => ⟨⟨(gI τ6 0 k0 16), τ6, rfl, ⟨hF, hN⟩, tw_at hP ht⟩, hS.F ht⟩) hS.2.2 dX10_count_89
    · have c9 : x1 = (2 : Int32) := tw_sw e9 rfl
      have hF := hF.2.2.1 c9
      refine lv_tableIn (off := 84) (tgt := 90) hx hb dX10_count_6 (by rw [e9]; decide) (by rw [e9]; decide) (by rw [e9]; rfl) (by decide) ?_
      refine lv_iconst (v := 0) hx hb dX10_count_90 (by decide) ?_
      refine lv_istore_n (lv' := [(2, .int ((0 : Int32))), (0, .ref (ad 0 k0)), (1, .int x1)]) hx hb dX10_count_91 rfl hl (by decide) rfl (fun ls hl => ?_)
      refine lv_iconst (v := 0) hx hb dX10_count_92 (by decide) ?_
      refine lv_istore_n (lv' := [(3, .int ((0 : Int32))), (2, .int ((0 : Int32))), (0, .ref (ad 0 k0)), (1, .int x1)]) hx hb dX10_count_93 rfl hl (by decide) rfl (fun ls hl => ?_)
      obtain ⟨n7, hF⟩ := hF
      refine l94 k0 hk0 _ n7 τ6 ((0 : Int32)) ((0 : Int32)) _ _ _ hF hP hN hS (lv_sub hl [2, 1, 0] rfl) ?_
      intro τ8 z9 z10 H locs ls hF hP hN hS hl
      refine lv_iload_n hx hb dX10_count_115 rfl (lv_at hl 1 rfl) ?_
      exact W.iret (v := z9) hx hb hr (fun t ht hW => ⟨⟨z9, τ8, rfl, ⟨hF, hN⟩, tw_at hP ht⟩, hS.F ht⟩) hS.2.2 dX10_count_116
    · have c9 : x1 = (3 : Int32) := tw_sw e9 rfl
      have hF := hF.2.2.2.1 c9
      refine lv_tableIn (off := 111) (tgt := 117) hx hb dX10_count_6 (by rw [e9]; decide) (by rw [e9]; decide) (by rw [e9]; rfl) (by decide) ?_
      refine lv_aload_n hx hb dX10_count_117 rfl (lv_at hl 0 rfl) ?_
      refine tw_get (v := .int (gI τ6 0 k0 22)) hx hb hts (by decide +kernel) hown hK hP (by decide) (tw_lt hk0 (congrFun hN 0)) rfl rfl 22 (by decide) (hts (.fieldLink RX10 149 "WineCellarModel" "open" "I") (by decide +kernel)) (fun _ h9 => h9) rfl dX10_count_118 ?_
      exact W.iret (v := gI τ6 0 k0 22) hx hb hr (fun t ht hW => ⟨⟨(gI τ6 0 k0 22), τ6, rfl, ⟨hF, hN⟩, tw_at hP ht⟩, hS.F ht⟩) hS.2.2 dX10_count_121
    · have c9 : x1 = (4 : Int32) := tw_sw e9 rfl
      have hF := hF.2.2.2.2.1 c9
      refine lv_tableIn (off := 116) (tgt := 122) hx hb dX10_count_6 (by rw [e9]; decide) (by rw [e9]; decide) (by rw [e9]; rfl) (by decide) ?_
      refine lv_aload_n hx hb dX10_count_122 rfl (lv_at hl 0 rfl) ?_
      refine tw_get (v := .int (gI τ6 0 k0 17)) hx hb hts (by decide +kernel) hown hK hP (by decide) (tw_lt hk0 (congrFun hN 0)) rfl rfl 17 (by decide) (hts (.fieldLink RX10 159 "WineCellarModel" "soldMany" "I") (by decide +kernel)) (fun _ h9 => h9) rfl dX10_count_123 ?_
      exact W.iret (v := gI τ6 0 k0 17) hx hb hr (fun t ht hW => ⟨⟨(gI τ6 0 k0 17), τ6, rfl, ⟨hF, hN⟩, tw_at hP ht⟩, hS.F ht⟩) hS.2.2 dX10_count_126
    · have c9 : x1 = (5 : Int32) := tw_sw e9 rfl
      have hF := hF.2.2.2.2.2.1 c9
      refine lv_tableIn (off := 121) (tgt := 127) hx hb dX10_count_6 (by rw [e9]; decide) (by rw [e9]; decide) (by rw [e9]; rfl) (by decide) ?_
      refine lv_aload_n hx hb dX10_count_127 rfl (lv_at hl 0 rfl) ?_
      refine tw_get (v := .int (gI τ6 0 k0 18)) hx hb hts (by decide +kernel) hown hK hP (by decide) (tw_lt hk0 (congrFun hN 0)) rfl rfl 18 (by decide) (hts (.fieldLink RX10 172 "WineCellarModel" "emptied" "I") (by decide +kernel)) (fun _ h9 => h9) rfl dX10_count_128 ?_
      exact W.iret (v := gI τ6 0 k0 18) hx hb hr (fun t ht hW => ⟨⟨(gI τ6 0 k0 18), τ6, rfl, ⟨hF, hN⟩, tw_at hP ht⟩, hS.F ht⟩) hS.2.2 dX10_count_131
    · have c9 : x1 = (6 : Int32) := tw_sw e9 rfl
      have hF := hF.2.2.2.2.2.2.1 c9
      refine lv_tableIn (off := 126) (tgt := 132) hx hb dX10_count_6 (by rw [e9]; decide) (by rw [e9]; decide) (by rw [e9]; rfl) (by decide) ?_
      refine lv_aload_n hx hb dX10_count_132 rfl (lv_at hl 0 rfl) ?_
      refine tw_get (v := .int (gI τ6 0 k0 19)) hx hb hts (by decide +kernel) hown hK hP (by decide) (tw_lt hk0 (congrFun hN 0)) rfl rfl 19 (by decide) (hts (.fieldLink RX10 166 "WineCellarModel" "brokenMany" "I") (by decide +kernel)) (fun _ h9 => h9) rfl dX10_count_133 ?_
      exact W.iret (v := gI τ6 0 k0 19) hx hb hr (fun t ht hW => ⟨⟨(gI τ6 0 k0 19), τ6, rfl, ⟨hF, hN⟩, tw_at hP ht⟩, hS.F ht⟩) hS.2.2 dX10_count_136
    · have c9 : x1 = (7 : Int32) := tw_sw e9 rfl
      have hF := hF.2.2.2.2.2.2.2.1 c9
      refine lv_tableIn (off := 131) (tgt := 137) hx hb dX10_count_6 (by rw [e9]; decide) (by rw [e9]; decide) (by rw [e9]; rfl) (by decide) ?_
      refine lv_aload_n hx hb dX10_count_137 rfl (lv_at hl 0 rfl) ?_
      refine tw_get (v := .int (gI τ6 0 k0 20)) hx hb hts (by decide +kernel) hown hK hP (by decide) (tw_lt hk0 (congrFun hN 0)) rfl rfl 20 (by decide) (hts (.fieldLink RX10 178 "WineCellarModel" "poured" "I") (by decide +kernel)) (fun _ h9 => h9) rfl dX10_count_138 ?_
      exact W.iret (v := gI τ6 0 k0 20) hx hb hr (fun t ht hW => ⟨⟨(gI τ6 0 k0 20), τ6, rfl, ⟨hF, hN⟩, tw_at hP ht⟩, hS.F ht⟩) hS.2.2 dX10_count_141
    · have c9 : x1 = (8 : Int32) := tw_sw e9 rfl
      have hF := hF.2.2.2.2.2.2.2.2.1 c9
      refine lv_tableIn (off := 136) (tgt := 142) hx hb dX10_count_6 (by rw [e9]; decide) (by rw [e9]; decide) (by rw [e9]; rfl) (by decide) ?_
      refine lv_aload_n hx hb dX10_count_142 rfl (lv_at hl 0 rfl) ?_
      refine tw_get (v := .int (gI τ6 0 k0 21)) hx hb hts (by decide +kernel) hown hK hP (by decide) (tw_lt hk0 (congrFun hN 0)) rfl rfl 21 (by decide) (hts (.fieldLink RX10 175 "WineCellarModel" "spilt" "I") (by decide +kernel)) (fun _ h9 => h9) rfl dX10_count_143 ?_
      exact W.iret (v := gI τ6 0 k0 21) hx hb hr (fun t ht hW => ⟨⟨(gI τ6 0 k0 21), τ6, rfl, ⟨hF, hN⟩, tw_at hP ht⟩, hS.F ht⟩) hS.2.2 dX10_count_146
    · have c9 : x1 = (9 : Int32) := tw_sw e9 rfl
      have hF := hF.2.2.2.2.2.2.2.2.2.1 c9
      refine lv_tableIn (off := 141) (tgt := 147) hx hb dX10_count_6 (by rw [e9]; decide) (by rw [e9]; decide) (by rw [e9]; rfl) (by decide) ?_
      refine lv_aload_n hx hb dX10_count_147 rfl (lv_at hl 0 rfl) ?_
      refine tw_get (v := .int (gI τ6 0 k0 1)) hx hb hts (by decide +kernel) hown hK hP (by decide) (tw_lt hk0 (congrFun hN 0)) rfl rfl 1 (by decide) (hts (.fieldLink RX10 116 "WineCellarModel" "kinds" "I") (by decide +kernel)) (fun _ h9 => h9) rfl dX10_count_148 ?_
      exact W.iret (v := gI τ6 0 k0 1) hx hb hr (fun t ht hW => ⟨⟨(gI τ6 0 k0 1), τ6, rfl, ⟨hF, hN⟩, tw_at hP ht⟩, hS.F ht⟩) hS.2.2 dX10_count_151
    · have c9 : x1 = (10 : Int32) := tw_sw e9 rfl
      have hF := hF.2.2.2.2.2.2.2.2.2.2.1 c9
      refine lv_tableIn (off := 146) (tgt := 152) hx hb dX10_count_6 (by rw [e9]; decide) (by rw [e9]; decide) (by rw [e9]; rfl) (by decide) ?_
      refine lv_aload_n hx hb dX10_count_152 rfl (lv_at hl 0 rfl) ?_
      refine tw_get (v := .int (gI τ6 0 k0 2)) hx hb hts (by decide +kernel) hown hK hP (by decide) (tw_lt hk0 (congrFun hN 0)) rfl rfl 2 (by decide) (hts (.fieldLink RX10 119 "WineCellarModel" "lots" "I") (by decide +kernel)) (fun _ h9 => h9) rfl dX10_count_153 ?_
      exact W.iret (v := gI τ6 0 k0 2) hx hb hr (fun t ht hW => ⟨⟨(gI τ6 0 k0 2), τ6, rfl, ⟨hF, hN⟩, tw_at hP ht⟩, hS.F ht⟩) hS.2.2 dX10_count_156
    · have c9 : x1 = (11 : Int32) := tw_sw e9 rfl
      have hF := hF.2.2.2.2.2.2.2.2.2.2.2.1 c9
      refine lv_tableIn (off := 151) (tgt := 157) hx hb dX10_count_6 (by rw [e9]; decide) (by rw [e9]; decide) (by rw [e9]; rfl) (by decide) ?_
      refine lv_aload_n hx hb dX10_count_157 rfl (lv_at hl 0 rfl) ?_
      refine tw_get (v := .int (gI τ6 0 k0 29)) hx hb hts (by decide +kernel) hown hK hP (by decide) (tw_lt hk0 (congrFun hN 0)) rfl rfl 29 (by decide) (hts (.fieldLink RX10 224 "WineCellarModel" "dishes" "I") (by decide +kernel)) (fun _ h9 => h9) rfl dX10_count_158 ?_
      exact W.iret (v := gI τ6 0 k0 29) hx hb hr (fun t ht hW => ⟨⟨(gI τ6 0 k0 29), τ6, rfl, ⟨hF, hN⟩, tw_at hP ht⟩, hS.F ht⟩) hS.2.2 dX10_count_161
    · have c9 : x1 = (12 : Int32) := tw_sw e9 rfl
      have hF := hF.2.2.2.2.2.2.2.2.2.2.2.2.1 c9
      refine lv_tableIn (off := 156) (tgt := 162) hx hb dX10_count_6 (by rw [e9]; decide) (by rw [e9]; decide) (by rw [e9]; rfl) (by decide) ?_
      refine lv_aload_n hx hb dX10_count_162 rfl (lv_at hl 0 rfl) ?_
      refine tw_get (v := .int (gI τ6 0 k0 39)) hx hb hts (by decide +kernel) hown hK hP (by decide) (tw_lt hk0 (congrFun hN 0)) rfl rfl 39 (by decide) (hts (.fieldLink RX10 254 "WineCellarModel" "sheets" "I") (by decide +kernel)) (fun _ h9 => h9) rfl dX10_count_163 ?_
      exact W.iret (v := gI τ6 0 k0 39) hx hb hr (fun t ht hW => ⟨⟨(gI τ6 0 k0 39), τ6, rfl, ⟨hF, hN⟩, tw_at hP ht⟩, hS.F ht⟩) hS.2.2 dX10_count_166
    · have c9 : x1 = (13 : Int32) := tw_sw e9 rfl
      have hF := hF.2.2.2.2.2.2.2.2.2.2.2.2.2.1 c9
      refine lv_tableIn (off := 161) (tgt := 167) hx hb dX10_count_6 (by rw [e9]; decide) (by rw [e9]; decide) (by rw [e9]; rfl) (by decide) ?_
      refine lv_aload_n hx hb dX10_count_167 rfl (lv_at hl 0 rfl) ?_
      refine tw_get (v := .int (gI τ6 0 k0 3)) hx hb hts (by decide +kernel) hown hK hP (by decide) (tw_lt hk0 (congrFun hN 0)) rfl rfl 3 (by decide) (hts (.fieldLink RX10 105 "WineCellarModel" "hour" "I") (by decide +kernel)) (fun _ h9 => h9) rfl dX10_count_168 ?_
      exact W.iret (v := gI τ6 0 k0 3) hx hb hr (fun t ht hW => ⟨⟨(gI τ6 0 k0 3), τ6, rfl, ⟨hF, hN⟩, tw_at hP ht⟩, hS.F ht⟩) hS.2.2 dX10_count_171
    · have c9 : x1 = (14 : Int32) := tw_sw e9 rfl
      have hF := hF.2.2.2.2.2.2.2.2.2.2.2.2.2.2 c9
      refine lv_tableIn (off := 166) (tgt := 172) hx hb dX10_count_6 (by rw [e9]; decide) (by rw [e9]; decide) (by rw [e9]; rfl) (by decide) ?_
      refine lv_aload_n hx hb dX10_count_172 rfl (lv_at hl 0 rfl) ?_
      refine tw_get (v := .int (gI τ6 0 k0 28)) hx hb hts (by decide +kernel) hown hK hP (by decide) (tw_lt hk0 (congrFun hN 0)) rfl rfl 28 (by decide) (hts (.fieldLink RX10 190 "WineCellarModel" "taped" "I") (by decide +kernel)) (fun _ h9 => h9) rfl dX10_count_173 ?_
      exact W.iret (v := gI τ6 0 k0 28) hx hb hr (fun t ht hW => ⟨⟨(gI τ6 0 k0 28), τ6, rfl, ⟨hF, hN⟩, tw_at hP ht⟩, hS.F ht⟩) hS.2.2 dX10_count_176
def F_X10_till (τ0 : tw_T) (k0 : Nat) (Q : Int64 → tw_T → Prop) : Prop := ∀ τ1 : tw_T, τ1 = sI τ0 0 k0 0 ((0 : Int32)) → (Q (gJ τ1 0 k0 4) τ1)
def rmX10_till : Room := { frames := 0, cells := 0, slots := 0, locals := 0 }
set_option maxHeartbeats 4000000 in
set_option maxRecDepth 100000 in
theorem mX10_till (l : Launch) (dC : Nat → ClassId) (dI : Nat → Nat → Nat) (ac : Nat → ClassId) (sa : Nat → Nat) (A : Nat → Prop) (ad : Nat → Nat → Nat) (τ0 : tw_T) (k0 : Nat) (Q : Int64 → tw_T → Prop) (hF : F_X10_till τ0 k0 Q) (hk0 : k0 < gN τ0 0) : Met l yX10_till wsX10_till rmX10_till (va_Pc [.ref (ad 0 k0)] (BM dC dI ac sa A ad τ0)) (va_Ql (fun r (u : tw_T) => Q r u ∧ gN u = gN τ0) (fun u t => PM dC dI ac A ad u t.heap) A) 0 0 A := by
  refine Met.ofW (cc := cX10_till) (maxL := 1) (ret := (some .long)) (by decide) rfl ?_
  intro p e s m args below meth c s₁ B hml hv
  obtain ⟨rfl, hP, hK, hA, hZ⟩ := hv
  have hx := B.exec
  have hb := B.bytes
  have hr := B.returns
  have hts := atoms_spec (ws := wsX10_till) B.pre
  have hown : s.vm.findClass RX10 = some m.cls := findClass_of_methodNamed B.named
  have hlocks := B.notSynchronized
  have hS : va_S A s.heap s.heap [] := va_S.rf
  have hN : gN τ0 = gN τ0 := rfl
  have hl := lv_entry ([.ref (ad 0 k0)]) (n := 1) (Nat.le_of_ble_eq_true rfl)
  rw [lg_entry_eq]
  generalize (lg_sl ([.ref (ad 0 k0)]) ++ List.replicate (1 - (lg_sl ([.ref (ad 0 k0)])).length) Slot.unset).toArray = ls at hl ⊢
  have hl : lv_has ls 1 [(0, .ref (ad 0 k0))] := hl
  unfold F_X10_till at hF
  refine lv_aload_n hx hb dX10_till_0 rfl (lv_at hl 0 rfl) ?_
  refine lv_iconst (v := 0) hx hb dX10_till_1 (by decide) ?_
  refine tw_put (τ' := sI τ0 0 k0 0 ((0 : Int32))) (ty := .int) hx hb hts (by decide +kernel) tyX10 tyX10_ok nmX10 hown hK hP hS (by decide) hk0 rfl rfl 0 (by decide) (hts (.fieldLink RX10 1 "WineCellarModel" "thrown" "I") (by decide +kernel)) (fun _ h9 => h9) rfl (by decide +kernel) rfl rfl (Nat.le_of_ble_eq_true rfl) dX10_till_2 (fun H1 ha ho => tw_updI hP (by decide) hk0 ha ho) (fun H locs hP hS => ?_)
  obtain ⟨τ1, eτ1⟩ : ∃ y : tw_T, y = sI τ0 0 k0 0 ((0 : Int32)) := ⟨_, rfl⟩
  have hF := hF τ1 eτ1
  rw [← eτ1] at hP
  have hN : gN τ1 = gN τ0 := by rw [eτ1]; exact hN
  refine lv_aload_n hx hb dX10_till_5 rfl (lv_at hl 0 rfl) ?_
  refine tw_get (v := .long (gJ τ1 0 k0 4)) hx hb hts (by decide +kernel) hown hK hP (by decide) (tw_lt hk0 (congrFun hN 0)) rfl rfl 4 (by decide) (hts (.fieldLink RX10 162 "WineCellarModel" "till" "J") (by decide +kernel)) (fun _ h9 => h9) rfl dX10_till_6 ?_
  exact W.lret (v := gJ τ1 0 k0 4) hx hb hr (fun t ht hW => ⟨⟨(gJ τ1 0 k0 4), τ1, rfl, ⟨hF, hN⟩, tw_at hP ht⟩, hS.F ht⟩) hS.2.2 dX10_till_9
