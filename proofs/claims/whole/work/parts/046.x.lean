def F_X9_takesFive (τ0 : tw_T) (k0 : Nat) (k1 : Nat) (x2 : Int32) (Q : Int32 → tw_T → Prop) : Prop := vp_in x2 40 ∧ (∀ z2 : Int64, z2 = gJ τ0 36 k1 x2.toNatClampNeg → (vp_in (x2 + ((1 : Int32))) 40 ∧ (∀ z4 : Int64, z4 = gJ τ0 36 k1 (x2 + ((1 : Int32))).toNatClampNeg → (vp_in (x2 + ((2 : Int32))) 40 ∧ (∀ z6 : Int64, z6 = gJ τ0 36 k1 (x2 + ((2 : Int32))).toNatClampNeg → (vp_in (x2 + ((3 : Int32))) 40 ∧ (∀ z8 : Int64, z8 = gJ τ0 36 k1 (x2 + ((3 : Int32))).toNatClampNeg → (vp_in (x2 + ((4 : Int32))) 40 ∧ (∀ z10 : Int64, z10 = gJ τ0 36 k1 (x2 + ((4 : Int32))).toNatClampNeg → (F_X9_isWithin τ0 z2 ((0 : Int64)) (((gI τ0 0 k0 11) - ((1 : Int32))).toInt64) (fun (r12 : Int32) (τ11 : tw_T) => (((r12 = 0 → (Q ((0 : Int32)) τ11)) ∧ (¬ r12 = 0 → (F_X9_isVintage τ11 z4 (fun (r15 : Int32) (τ14 : tw_T) => (((r15 = 0 → (Q ((0 : Int32)) τ14)) ∧ (¬ r15 = 0 → (F_X9_isPrice τ14 z6 (fun (r18 : Int32) (τ17 : tw_T) => (((¬ r18 = 0 → (F_X9_isWithin τ17 z8 ((0 : Int64)) ((29 : Int64)) (fun (r21 : Int32) (τ20 : tw_T) => (((r21 = 0 → (Q ((0 : Int32)) τ20)) ∧ (¬ r21 = 0 → (F_X9_isWithin τ20 z10 ((1 : Int64)) ((12 : Int64)) (fun (r24 : Int32) (τ23 : tw_T) => (((¬ r24 = 0 → (∃ o26 : Nat, gR τ23 0 k0 4 = some o26 ∧ (F_X5_isEmpty τ23 o26 z8.toInt32 (fun (r28 : Int32) (τ27 : tw_T) => (((r28 = 0 → (Q ((0 : Int32)) τ27)) ∧ (¬ r28 = 0 → ((((gI τ27 0 k0 12) < ((60 : Int32)) → (F_X9_addLot τ27 k0 z2.toInt32 z4.toInt32 z6.toInt32 (fun (r32 : Int32) (τ31 : tw_T) => (∃ o33 : Nat, gR τ31 0 k0 4 = some o33 ∧ (F_X5_add τ31 o33 z8.toInt32 r32 z10.toInt32 (fun (τ34 : tw_T) => (∃ o35 : Nat, gR τ34 0 k0 6 = some o35 ∧ (∀ τ36 : tw_T, τ36 = sI τ34 7 o35 0 ((gI τ34 7 o35 0) + z10.toInt32) → (Q ((1 : Int32)) τ36))))))))) ∧ (¬ (gI τ27 0 k0 12) < ((60 : Int32)) → (Q ((0 : Int32)) τ27))))))))))) ∧ (r24 = 0 → (Q ((0 : Int32)) τ23)))))))))))) ∧ (r18 = 0 → (Q ((0 : Int32)) τ17)))))))))))))))))))))))))
def rmX9_takesFive : Room := { frames := 3, cells := 1, slots := 8, locals := 59 }
set_option maxHeartbeats 4000000 in
set_option maxRecDepth 100000 in
theorem mX9_takesFive (l : Launch) (dC : Nat → ClassId) (dI : Nat → Nat → Nat) (ac : Nat → ClassId) (sa : Nat → Nat) (A : Nat → Prop) (ad : Nat → Nat → Nat) (τ0 : tw_T) (k0 : Nat) (k1 : Nat) (x2 : Int32) (Q : Int32 → tw_T → Prop) (hF : F_X9_takesFive τ0 k0 k1 x2 Q) (hk0 : k0 < gN τ0 0) (hk1 : k1 < gN τ0 36) : Met l yX9_takesFive wsX9_takesFive rmX9_takesFive (va_Pc [.ref (ad 0 k0), .ref (ad 36 k1), .int x2] (BX dC dI ac sa A ad τ0)) (va_Qi (fun r (u : tw_T × (Nat → Nat → Nat)) => Q r u.1 ∧ tw_le τ0 ad u.1 u.2) (fun (u : tw_T × (Nat → Nat → Nat)) t => PX dC dI ac A u.2 u.1 t.heap) A) 1 8 A := by
  refine Met.ofW (cc := cX9_takesFive) (maxL := 14) (ret := (some .boolean)) (by decide) rfl ?_
  intro p e s m args below meth c s₁ B hml hv
  obtain ⟨rfl, hP, hK, hA, hZ⟩ := hv
  have hx := B.exec
  have hb := B.bytes
  have hr := B.returns
  have hts := atoms_spec (ws := wsX9_takesFive) B.pre
  have hown : s.vm.findClass RX9 = some m.cls := findClass_of_methodNamed B.named
  have hlocks := B.notSynchronized
  have hS : va_S A s.heap s.heap [] := va_S.rf
  have hN : tw_le τ0 ad τ0 ad := tw_le.rf
  have hl := lv_entry ([.ref (ad 0 k0), .ref (ad 36 k1), .int x2]) (n := 14) (Nat.le_of_ble_eq_true rfl)
  rw [lg_entry_eq]
  generalize (lg_sl ([.ref (ad 0 k0), .ref (ad 36 k1), .int x2]) ++ List.replicate (14 - (lg_sl ([.ref (ad 0 k0), .ref (ad 36 k1), .int x2])).length) Slot.unset).toArray = ls at hl ⊢
  have hl : lv_has ls 14 [(0, .ref (ad 0 k0)), (1, .ref (ad 36 k1)), (2, .int x2)] := hl
  unfold F_X9_takesFive at hF
  refine lv_aload_n hx hb dX9_takesFive_0 rfl (lv_at hl 1 rfl) ?_
  refine lv_iload_n hx hb dX9_takesFive_1 rfl (lv_at hl 2 rfl) ?_
  obtain ⟨hi1, hF⟩ := hF
  refine tw_lald hx hb hK hP (by decide) hk1 rfl 1 rfl hi1 dX9_takesFive_2 ?_
  refine lv_topl (fun z2 ez2 => ?_)
  have hF := hF z2 ez2
  refine lv_lstore_n (lv' := [(3, .long z2), (0, .ref (ad 0 k0)), (1, .ref (ad 36 k1)), (2, .int x2)]) hx hb dX9_takesFive_3 rfl hl (by decide) rfl (fun ls hl => ?_)
  refine lv_aload_n hx hb dX9_takesFive_4 rfl (lv_at hl 2 rfl) ?_
  refine lv_iload_n hx hb dX9_takesFive_5 rfl (lv_at hl 3 rfl) ?_
  refine lv_iconst (v := 1) hx hb dX9_takesFive_6 (by decide) ?_
  refine lv_iadd hx hb dX9_takesFive_7 ?_
  obtain ⟨hi3, hF⟩ := hF
  refine tw_lald hx hb hK hP (by decide) hk1 rfl 1 rfl hi3 dX9_takesFive_8 ?_
  refine lv_topl (fun z4 ez4 => ?_)
  have hF := hF z4 ez4
  refine lv_lstore (lv' := [(5, .long z4), (3, .long z2), (0, .ref (ad 0 k0)), (1, .ref (ad 36 k1)), (2, .int x2)]) hx hb dX9_takesFive_9 hl (by decide) rfl (fun ls hl => ?_)
  refine lv_aload_n hx hb dX9_takesFive_11 rfl (lv_at hl 3 rfl) ?_
  refine lv_iload_n hx hb dX9_takesFive_12 rfl (lv_at hl 4 rfl) ?_
  refine lv_iconst (v := 2) hx hb dX9_takesFive_13 (by decide) ?_
  refine lv_iadd hx hb dX9_takesFive_14 ?_
  obtain ⟨hi5, hF⟩ := hF
  refine tw_lald hx hb hK hP (by decide) hk1 rfl 1 rfl hi5 dX9_takesFive_15 ?_
  refine lv_topl (fun z6 ez6 => ?_)
  have hF := hF z6 ez6
  refine lv_lstore (lv' := [(7, .long z6), (5, .long z4), (3, .long z2), (0, .ref (ad 0 k0)), (1, .ref (ad 36 k1)), (2, .int x2)]) hx hb dX9_takesFive_16 hl (by decide) rfl (fun ls hl => ?_)
  refine lv_aload_n hx hb dX9_takesFive_18 rfl (lv_at hl 4 rfl) ?_
  refine lv_iload_n hx hb dX9_takesFive_19 rfl (lv_at hl 5 rfl) ?_
  refine lv_iconst (v := 3) hx hb dX9_takesFive_20 (by decide) ?_
  refine lv_iadd hx hb dX9_takesFive_21 ?_
  obtain ⟨hi7, hF⟩ := hF
  refine tw_lald hx hb hK hP (by decide) hk1 rfl 1 rfl hi7 dX9_takesFive_22 ?_
  refine lv_topl (fun z8 ez8 => ?_)
  have hF := hF z8 ez8
  refine lv_lstore (lv' := [(9, .long z8), (7, .long z6), (5, .long z4), (3, .long z2), (0, .ref (ad 0 k0)), (1, .ref (ad 36 k1)), (2, .int x2)]) hx hb dX9_takesFive_23 hl (by decide) rfl (fun ls hl => ?_)
  refine lv_aload_n hx hb dX9_takesFive_25 rfl (lv_at hl 5 rfl) ?_
  refine lv_iload_n hx hb dX9_takesFive_26 rfl (lv_at hl 6 rfl) ?_
  refine lv_iconst (v := 4) hx hb dX9_takesFive_27 (by decide) ?_
  refine lv_iadd hx hb dX9_takesFive_28 ?_
  obtain ⟨hi9, hF⟩ := hF
  refine tw_lald hx hb hK hP (by decide) hk1 rfl 1 rfl hi9 dX9_takesFive_29 ?_
  refine lv_topl (fun z10 ez10 => ?_)
  have hF := hF z10 ez10
  refine lv_lstore (lv' := [(11, .long z10), (9, .long z8), (7, .long z6), (5, .long z4), (3, .long z2), (0, .ref (ad 0 k0)), (1, .ref (ad 36 k1)), (2, .int x2)]) hx hb dX9_takesFive_30 hl (by decide) rfl (fun ls hl => ?_)
  refine lv_lload_n hx hb dX9_takesFive_32 rfl (lv_at hl 4 rfl) ?_
  refine lv_lconst (v := 0) hx hb dX9_takesFive_33 (by decide) ?_
  refine lv_aload_n hx hb dX9_takesFive_34 rfl (lv_at hl 5 rfl) ?_
  refine tw_get (v := .int (gI τ0 0 k0 11)) hx hb hts (by decide +kernel) hown hK hP (by decide) hk0 rfl rfl 11 (by decide) (hts (.fieldLink RX9 72 "WineCellar" "kindCount" "I") (by decide +kernel)) (fun _ h9 => h9) rfl dX9_takesFive_35 ?_
  refine lv_iconst (v := 1) hx hb dX9_takesFive_38 (by decide) ?_
  refine lv_isub hx hb dX9_takesFive_39 ?_
  refine lv_i2l (v := ((gI τ0 0 k0 11) - ((1 : Int32))).toInt64) hx hb dX9_takesFive_40 rfl ?_
  refine va_calli (va_runS (As := [.long z2, .long ((0 : Int64)), .long (((gI τ0 0 k0 11) - ((1 : Int32))).toInt64)]) (rest := []) ⟨hx, hb, hml, hown, hts⟩ (mX9_isWithin l dC dI ac sa A ad τ0 z2 ((0 : Int64)) (((gI τ0 0 k0 11) - ((1 : Int32))).toInt64) _ hF ) (va_cwS 3 hts gX9_takesFive_X9_isWithin rfl rfl rfl (by decide +kernel) ⟨Nat.le_of_ble_eq_true rfl, Nat.le_of_ble_eq_true rfl⟩) ⟨BX.blind, fun U hU hW => ⟨rfl, BX.of hP hK hS hA hZ hU hW⟩⟩ rfl rfl hl.1 rfl (lv_room (Nat.le_of_ble_eq_true rfl)) dX9_takesFive_41 ⟨Nat.le_of_ble_eq_true rfl, Nat.le_of_ble_eq_true rfl⟩) hS (fun q _ h => h) (fun q h => h) (fun r12 τ11 t H locs ht hvm hw hB hz hk hS => ?_)
  obtain ⟨hF, hN9⟩ := hw
  have hP : PX dC dI ac A ad τ11 H := tw_back hB ht
  have hN : tw_le τ0 ad τ11 ad := hN.same hN9
  have hk0 : k0 < gN τ11 0 := by rw [hN9]; exact hk0
  have hk1 : k1 < gN τ11 36 := by rw [hN9]; exact hk1
  refine lv_if_eq (tgt := 63) hx hb dX9_takesFive_44 (by decide) (fun c13 => ?_) (fun c13 => ?_)
  · have hF := hF.1 c13
    refine lv_iconst (v := 0) hx hb dX9_takesFive_63 (by decide) ?_
    refine W.widen (k := 1) (n := 8) (by decide) (by decide) ?_
    exact W.zret (v := (0 : Int32)) (ty := .boolean) hx hb hr rfl (fun t ht hW => ⟨⟨((0 : Int32)), (τ11, ad), rfl, ⟨hF, hN⟩, tw_at hP ht⟩, hS.F ht⟩) hS.2.2 dX9_takesFive_64
  · have hF := hF.2 c13
    refine lv_lload hx hb dX9_takesFive_47 (lv_at hl 3 rfl) ?_
    refine va_calli (va_runS (As := [.long z4]) (rest := []) ⟨hx, hb, hml, hown, hts⟩ (mX9_isVintage l dC dI ac sa A ad τ11 z4 _ hF ) (va_cwS 1 hts gX9_takesFive_X9_isVintage rfl rfl rfl (by decide +kernel) ⟨Nat.le_of_ble_eq_true rfl, Nat.le_of_ble_eq_true rfl⟩) ⟨BX.blind, fun U hU hW => ⟨rfl, BX.of hP hK hS hA hZ hU hW⟩⟩ rfl rfl hl.1 rfl (lv_room (Nat.le_of_ble_eq_true rfl)) dX9_takesFive_49 ⟨Nat.le_of_ble_eq_true rfl, Nat.le_of_ble_eq_true rfl⟩) hS (fun q _ h => h) (fun q h => h) (fun r15 τ14 t H locs ht hvm hw hB hz hk hS => ?_)
    obtain ⟨hF, hN9⟩ := hw
    have hP : PX dC dI ac A ad τ14 H := tw_back hB ht
    have hN : tw_le τ0 ad τ14 ad := hN.same hN9
    have hk0 : k0 < gN τ14 0 := by rw [hN9]; exact hk0
    have hk1 : k1 < gN τ14 36 := by rw [hN9]; exact hk1
    refine lv_if_eq (tgt := 63) hx hb dX9_takesFive_52 (by decide) (fun c16 => ?_) (fun c16 => ?_)
    · have hF := hF.1 c16
      refine lv_iconst (v := 0) hx hb dX9_takesFive_63 (by decide) ?_
      refine W.widen (k := 1) (n := 8) (by decide) (by decide) ?_
      exact W.zret (v := (0 : Int32)) (ty := .boolean) hx hb hr rfl (fun t ht hW => ⟨⟨((0 : Int32)), (τ14, ad), rfl, ⟨hF, hN⟩, tw_at hP ht⟩, hS.F ht⟩) hS.2.2 dX9_takesFive_64
    · have hF := hF.2 c16
      refine lv_lload hx hb dX9_takesFive_55 (lv_at hl 2 rfl) ?_
      refine va_calli (va_runS (As := [.long z6]) (rest := []) ⟨hx, hb, hml, hown, hts⟩ (mX9_isPrice l dC dI ac sa A ad τ14 z6 _ hF ) (va_cwS 1 hts gX9_takesFive_X9_isPrice rfl rfl rfl (by decide +kernel) ⟨Nat.le_of_ble_eq_true rfl, Nat.le_of_ble_eq_true rfl⟩) ⟨BX.blind, fun U hU hW => ⟨rfl, BX.of hP hK hS hA hZ hU hW⟩⟩ rfl rfl hl.1 rfl (lv_room (Nat.le_of_ble_eq_true rfl)) dX9_takesFive_57 ⟨Nat.le_of_ble_eq_true rfl, Nat.le_of_ble_eq_true rfl⟩) hS (fun q _ h => h) (fun q h => h) (fun r18 τ17 t H locs ht hvm hw hB hz hk hS => ?_)
      obtain ⟨hF, hN9⟩ := hw
      have hP : PX dC dI ac A ad τ17 H := tw_back hB ht
      have hN : tw_le τ0 ad τ17 ad := hN.same hN9
      have hk0 : k0 < gN τ17 0 := by rw [hN9]; exact hk0
      have hk1 : k1 < gN τ17 36 := by rw [hN9]; exact hk1
      refine lv_if_ne (tgt := 65) hx hb dX9_takesFive_60 (by decide) (fun c19 => ?_) (fun c19 => ?_)
      · have hF := hF.1 c19
        refine lv_lload hx hb dX9_takesFive_65 (lv_at hl 1 rfl) ?_
        refine lv_lconst (v := 0) hx hb dX9_takesFive_67 (by decide) ?_
        refine lv_ldc2 (v := 29) hx hb hown (hts (.constantLong RX9 372 29) (by decide +kernel)) dX9_takesFive_68 ?_
        refine va_calli (va_runS (As := [.long z8, .long ((0 : Int64)), .long ((29 : Int64))]) (rest := []) ⟨hx, hb, hml, hown, hts⟩ (mX9_isWithin l dC dI ac sa A ad τ17 z8 ((0 : Int64)) ((29 : Int64)) _ hF ) (va_cwS 3 hts gX9_takesFive_X9_isWithin rfl rfl rfl (by decide +kernel) ⟨Nat.le_of_ble_eq_true rfl, Nat.le_of_ble_eq_true rfl⟩) ⟨BX.blind, fun U hU hW => ⟨rfl, BX.of hP hK hS hA hZ hU hW⟩⟩ rfl rfl hl.1 rfl (lv_room (Nat.le_of_ble_eq_true rfl)) dX9_takesFive_71 ⟨Nat.le_of_ble_eq_true rfl, Nat.le_of_ble_eq_true rfl⟩) hS (fun q _ h => h) (fun q h => h) (fun r21 τ20 t H locs ht hvm hw hB hz hk hS => ?_)
        obtain ⟨hF, hN9⟩ := hw
        have hP : PX dC dI ac A ad τ20 H := tw_back hB ht
        have hN : tw_le τ0 ad τ20 ad := hN.same hN9
        have hk0 : k0 < gN τ20 0 := by rw [hN9]; exact hk0
        have hk1 : k1 < gN τ20 36 := by rw [hN9]; exact hk1
        refine lv_if_eq (tgt := 89) hx hb dX9_takesFive_74 (by decide) (fun c22 => ?_) (fun c22 => ?_)
        · have hF := hF.1 c22
          refine lv_iconst (v := 0) hx hb dX9_takesFive_89 (by decide) ?_
          refine W.widen (k := 1) (n := 8) (by decide) (by decide) ?_
          exact W.zret (v := (0 : Int32)) (ty := .boolean) hx hb hr rfl (fun t ht hW => ⟨⟨((0 : Int32)), (τ20, ad), rfl, ⟨hF, hN⟩, tw_at hP ht⟩, hS.F ht⟩) hS.2.2 dX9_takesFive_90
        · have hF := hF.2 c22
          refine lv_lload hx hb dX9_takesFive_77 (lv_at hl 0 rfl) ?_
          refine lv_lconst (v := 1) hx hb dX9_takesFive_79 (by decide) ?_
          refine lv_ldc2 (v := 12) hx hb hown (hts (.constantLong RX9 191 12) (by decide +kernel)) dX9_takesFive_80 ?_
          refine va_calli (va_runS (As := [.long z10, .long ((1 : Int64)), .long ((12 : Int64))]) (rest := []) ⟨hx, hb, hml, hown, hts⟩ (mX9_isWithin l dC dI ac sa A ad τ20 z10 ((1 : Int64)) ((12 : Int64)) _ hF ) (va_cwS 3 hts gX9_takesFive_X9_isWithin rfl rfl rfl (by decide +kernel) ⟨Nat.le_of_ble_eq_true rfl, Nat.le_of_ble_eq_true rfl⟩) ⟨BX.blind, fun U hU hW => ⟨rfl, BX.of hP hK hS hA hZ hU hW⟩⟩ rfl rfl hl.1 rfl (lv_room (Nat.le_of_ble_eq_true rfl)) dX9_takesFive_83 ⟨Nat.le_of_ble_eq_true rfl, Nat.le_of_ble_eq_true rfl⟩) hS (fun q _ h => h) (fun q h => h) (fun r24 τ23 t H locs ht hvm hw hB hz hk hS => ?_)
          obtain ⟨hF, hN9⟩ := hw
          have hP : PX dC dI ac A ad τ23 H := tw_back hB ht
          have hN : tw_le τ0 ad τ23 ad := hN.same hN9
          have hk0 : k0 < gN τ23 0 := by rw [hN9]; exact hk0
          have hk1 : k1 < gN τ23 36 := by rw [hN9]; exact hk1
          refine lv_if_ne (tgt := 91) hx hb dX9_takesFive_86 (by decide) (fun c25 => ?_) (fun c25 => ?_)
          · have hF := hF.1 c25
            refine lv_aload_n hx hb dX9_takesFive_91 rfl (lv_at hl 5 rfl) ?_
            obtain ⟨o26, eo26, hF⟩ := hF
            have ho26 : o26 < gN τ23 5 := hP.2.2.2 0 k0 4 o26 (by decide) hk0 eo26
            refine tw_get (v := .ref (ad 5 o26)) hx hb hts (by decide +kernel) hown hK hP (by decide) hk0 rfl rfl 4 (by decide) (hts (.fieldLink RX9 36 "WineCellar" "rack" "LWineCellar$Rack;") (by decide +kernel)) (fun _ h9 => h9) (show some (va_rf ((gR τ23 0 k0 4).map (ad 5))) = some (.ref (ad 5 o26)) by rw [eo26]; rfl) dX9_takesFive_92 ?_
            refine lv_lload hx hb dX9_takesFive_95 (lv_at hl 1 rfl) ?_
            refine lv_l2i (v := z8.toInt32) hx hb dX9_takesFive_97 rfl ?_
            refine va_calli (va_runV (As := [.int z8.toInt32]) (rest := []) ⟨hx, hb, hml, hown, hts⟩ (mX5_isEmpty l dC dI ac sa A ad τ23 o26 z8.toInt32 _ hF ho26) (cwV 1 hts gX9_takesFive_X5_isEmpty rfl rfl rfl (by decide +kernel) ⟨Nat.le_of_ble_eq_true rfl, Nat.le_of_ble_eq_true rfl⟩) ⟨BX.blind, tw_recv hK hP (by decide) ho26 rfl rfl, fun U hU hW => ⟨rfl, BX.of hP hK hS hA hZ hU hW⟩⟩ rfl rfl hl.1 rfl (lv_room (Nat.le_of_ble_eq_true rfl)) dX9_takesFive_98 ⟨Nat.le_of_ble_eq_true rfl, Nat.le_of_ble_eq_true rfl⟩) hS (fun q _ h => h) (fun q h => h) (fun r28 τ27 t H locs ht hvm hw hB hz hk hS => ?_)
            obtain ⟨hF, hN9⟩ := hw
            have hP : PX dC dI ac A ad τ27 H := tw_back hB ht
            have hN : tw_le τ0 ad τ27 ad := hN.same hN9
            have hk0 : k0 < gN τ27 0 := by rw [hN9]; exact hk0
            have hk1 : k1 < gN τ27 36 := by rw [hN9]; exact hk1
            refine lv_if_eq (tgt := 113) hx hb dX9_takesFive_101 (by decide) (fun c29 => ?_) (fun c29 => ?_)
            · have hF := hF.1 c29
              refine lv_iconst (v := 0) hx hb dX9_takesFive_113 (by decide) ?_
              refine W.widen (k := 1) (n := 8) (by decide) (by decide) ?_
              exact W.zret (v := (0 : Int32)) (ty := .boolean) hx hb hr rfl (fun t ht hW => ⟨⟨((0 : Int32)), (τ27, ad), rfl, ⟨hF, hN⟩, tw_at hP ht⟩, hS.F ht⟩) hS.2.2 dX9_takesFive_114
            · have hF := hF.2 c29
              refine lv_aload_n hx hb dX9_takesFive_104 rfl (lv_at hl 5 rfl) ?_
              refine tw_get (v := .int (gI τ27 0 k0 12)) hx hb hts (by decide +kernel) hown hK hP (by decide) hk0 rfl rfl 12 (by decide) (hts (.fieldLink RX9 76 "WineCellar" "lotCount" "I") (by decide +kernel)) (fun _ h9 => h9) rfl dX9_takesFive_105 ?_
              refine lv_bipush (v := 60) hx hb dX9_takesFive_108 (by decide) ?_
              refine lv_icmp_lt (tgt := 115) hx hb dX9_takesFive_110 (by decide) (fun c30 => ?_) (fun c30 => ?_)
              · have hF := hF.1 c30
                refine lv_aload_n hx hb dX9_takesFive_115 rfl (lv_at hl 5 rfl) ?_
                refine lv_lload_n hx hb dX9_takesFive_116 rfl (lv_at hl 4 rfl) ?_
                refine lv_l2i (v := z2.toInt32) hx hb dX9_takesFive_117 rfl ?_
                refine lv_lload hx hb dX9_takesFive_118 (lv_at hl 3 rfl) ?_
                refine lv_l2i (v := z4.toInt32) hx hb dX9_takesFive_120 rfl ?_
                refine lv_lload hx hb dX9_takesFive_121 (lv_at hl 2 rfl) ?_
                refine lv_l2i (v := z6.toInt32) hx hb dX9_takesFive_123 rfl ?_
                refine va_calli (va_runV (As := [.int z2.toInt32, .int z4.toInt32, .int z6.toInt32]) (rest := []) ⟨hx, hb, hml, hown, hts⟩ (mX9_addLot l dC dI ac sa A ad τ27 k0 z2.toInt32 z4.toInt32 z6.toInt32 _ hF hk0) (cwV 3 hts gX9_takesFive_X9_addLot rfl rfl rfl (by decide +kernel) ⟨Nat.le_of_ble_eq_true rfl, Nat.le_of_ble_eq_true rfl⟩) ⟨BX.blind, tw_recv hK hP (by decide) hk0 rfl rfl, fun U hU hW => ⟨rfl, BX.of hP hK hS hA hZ hU hW⟩⟩ rfl rfl hl.1 rfl (lv_room (Nat.le_of_ble_eq_true rfl)) dX9_takesFive_124 ⟨Nat.le_of_ble_eq_true rfl, Nat.le_of_ble_eq_true rfl⟩) hS (fun q _ h => h) (fun q h => h) (fun r32 u9 t H locs ht hvm hw hB hz hk hS => ?_)
                obtain ⟨τ31, adτ31⟩ := u9
                obtain ⟨hF, hN9⟩ := hw
                try dsimp only at hF hN9 hB
                have hP : PX dC dI ac A adτ31 τ31 H := tw_back hB ht
                have hl : lv_has ls 14 [(11, .long z10), (9, .long z8), (7, .long z6), (5, .long z4), (3, .long z2), (0, .ref (adτ31 0 k0)), (1, .ref (adτ31 36 k1)), (2, .int x2)] := by rw [hN9.2 0 k0 hk0, hN9.2 36 k1 hk1]; exact hl
                have hk0 : k0 < gN τ31 0 := Nat.lt_of_lt_of_le hk0 (hN9.1 0)
                have hk1 : k1 < gN τ31 36 := Nat.lt_of_lt_of_le hk1 (hN9.1 36)
                have hN : tw_le τ0 ad τ31 adτ31 := hN.tr hN9
                refine lv_istore (lv' := [(13, .int r32), (11, .long z10), (9, .long z8), (7, .long z6), (5, .long z4), (3, .long z2), (0, .ref (adτ31 0 k0)), (1, .ref (adτ31 36 k1)), (2, .int x2)]) hx hb dX9_takesFive_127 hl (by decide) rfl (fun ls hl => ?_)
                refine lv_aload_n hx hb dX9_takesFive_129 rfl (lv_at hl 6 rfl) ?_
                obtain ⟨o33, eo33, hF⟩ := hF
                have ho33 : o33 < gN τ31 5 := hP.2.2.2 0 k0 4 o33 (by decide) hk0 eo33
                refine tw_get (v := .ref (adτ31 5 o33)) hx hb hts (by decide +kernel) hown hK hP (by decide) hk0 rfl rfl 4 (by decide) (hts (.fieldLink RX9 36 "WineCellar" "rack" "LWineCellar$Rack;") (by decide +kernel)) (fun _ h9 => h9) (show some (va_rf ((gR τ31 0 k0 4).map (adτ31 5))) = some (.ref (adτ31 5 o33)) by rw [eo33]; rfl) dX9_takesFive_130 ?_
                refine lv_lload hx hb dX9_takesFive_133 (lv_at hl 2 rfl) ?_
                refine lv_l2i (v := z8.toInt32) hx hb dX9_takesFive_135 rfl ?_
                refine lv_iload hx hb dX9_takesFive_136 (lv_at hl 0 rfl) ?_
                refine lv_lload hx hb dX9_takesFive_138 (lv_at hl 1 rfl) ?_
                refine lv_l2i (v := z10.toInt32) hx hb dX9_takesFive_140 rfl ?_
                refine va_callv (va_runV (As := [.int z8.toInt32, .int r32, .int z10.toInt32]) (rest := []) ⟨hx, hb, hml, hown, hts⟩ (mX5_add l dC dI ac sa A adτ31 τ31 o33 z8.toInt32 r32 z10.toInt32 _ hF ho33) (cwV 3 hts gX9_takesFive_X5_add rfl rfl rfl (by decide +kernel) ⟨Nat.le_of_ble_eq_true rfl, Nat.le_of_ble_eq_true rfl⟩) ⟨BX.blind, tw_recv hK hP (by decide) ho33 rfl rfl, fun U hU hW => ⟨rfl, BX.of hP hK hS hA hZ hU hW⟩⟩ rfl rfl hl.1 rfl (lv_room (Nat.le_of_ble_eq_true rfl)) dX9_takesFive_141 ⟨Nat.le_of_ble_eq_true rfl, Nat.le_of_ble_eq_true rfl⟩) hS (fun q _ h => h) (fun q h => h) (fun τ34 t H locs ht hvm hw hB hz hk hS => ?_)
                obtain ⟨hF, hN9⟩ := hw
                have hP : PX dC dI ac A adτ31 τ34 H := tw_back hB ht
                have hN : tw_le τ0 ad τ34 adτ31 := hN.same hN9
                have hk0 : k0 < gN τ34 0 := by rw [hN9]; exact hk0
                have hk1 : k1 < gN τ34 36 := by rw [hN9]; exact hk1
                refine lv_aload_n hx hb dX9_takesFive_144 rfl (lv_at hl 6 rfl) ?_
                obtain ⟨o35, eo35, hF⟩ := hF
                have ho35 : o35 < gN τ34 7 := hP.2.2.2 0 k0 6 o35 (by decide) hk0 eo35
                refine tw_get (v := .ref (adτ31 7 o35)) hx hb hts (by decide +kernel) hown hK hP (by decide) hk0 rfl rfl 6 (by decide) (hts (.fieldLink RX9 50 "WineCellar" "ledger" "LWineCellar$Ledger;") (by decide +kernel)) (fun _ h9 => h9) (show some (va_rf ((gR τ34 0 k0 6).map (adτ31 7))) = some (.ref (adτ31 7 o35)) by rw [eo35]; rfl) dX9_takesFive_145 ?_
                refine lv_dup hx hb dX9_takesFive_148 rfl ?_
                refine tw_get (v := .int (gI τ34 7 o35 0)) hx hb hts (by decide +kernel) hown hK hP (by decide) ho35 rfl rfl 0 (by decide) (hts (.fieldLink RX9 206 "WineCellar$Ledger" "bought" "I") (by decide +kernel)) (fun _ h9 => h9) rfl dX9_takesFive_149 ?_
                refine lv_lload hx hb dX9_takesFive_152 (lv_at hl 1 rfl) ?_
                refine lv_l2i (v := z10.toInt32) hx hb dX9_takesFive_154 rfl ?_
                refine lv_iadd hx hb dX9_takesFive_155 ?_
                refine tw_put (τ' := sI τ34 7 o35 0 ((gI τ34 7 o35 0) + z10.toInt32)) (ty := .int) hx hb hts (by decide +kernel) tyX2 tyX2_ok nmX2 hown hK hP hS (by decide) ho35 rfl rfl 0 (by decide) (hts (.fieldLink RX9 206 "WineCellar$Ledger" "bought" "I") (by decide +kernel)) (fun _ h9 => h9) rfl (by decide +kernel) rfl rfl (Nat.le_of_ble_eq_true rfl) dX9_takesFive_156 (fun H1 ha ho => tw_updI hP (by decide) ho35 ha ho) (fun H locs hP hS => ?_)
                obtain ⟨τ36, eτ36⟩ : ∃ y : tw_T, y = sI τ34 7 o35 0 ((gI τ34 7 o35 0) + z10.toInt32) := ⟨_, rfl⟩
                have hF := hF τ36 eτ36
                rw [← eτ36] at hP
                have hN : tw_le τ0 ad τ36 adτ31 := hN.same (by rw [eτ36]; rfl)
                have hk0 : k0 < gN τ36 0 := by rw [eτ36]; exact hk0
                have hk1 : k1 < gN τ36 36 := by rw [eτ36]; exact hk1
                refine lv_iconst (v := 1) hx hb dX9_takesFive_159 (by decide) ?_
                exact W.zret (v := (1 : Int32)) (ty := .boolean) hx hb hr rfl (fun t ht hW => ⟨⟨((1 : Int32)), (τ36, adτ31), rfl, ⟨hF, hN⟩, tw_at hP ht⟩, hS.F ht⟩) hS.2.2 dX9_takesFive_160
              · have hF := hF.2 c30
                refine lv_iconst (v := 0) hx hb dX9_takesFive_113 (by decide) ?_
                refine W.widen (k := 1) (n := 8) (by decide) (by decide) ?_
                exact W.zret (v := (0 : Int32)) (ty := .boolean) hx hb hr rfl (fun t ht hW => ⟨⟨((0 : Int32)), (τ27, ad), rfl, ⟨hF, hN⟩, tw_at hP ht⟩, hS.F ht⟩) hS.2.2 dX9_takesFive_114
          · have hF := hF.2 c25
            refine lv_iconst (v := 0) hx hb dX9_takesFive_89 (by decide) ?_
            refine W.widen (k := 1) (n := 8) (by decide) (by decide) ?_
            exact W.zret (v := (0 : Int32)) (ty := .boolean) hx hb hr rfl (fun t ht hW => ⟨⟨((0 : Int32)), (τ23, ad), rfl, ⟨hF, hN⟩, tw_at hP ht⟩, hS.F ht⟩) hS.2.2 dX9_takesFive_90
      · have hF := hF.2 c19
        refine lv_iconst (v := 0) hx hb dX9_takesFive_63 (by decide) ?_
        refine W.widen (k := 1) (n := 8) (by decide) (by decide) ?_
        exact W.zret (v := (0 : Int32)) (ty := .boolean) hx hb hr rfl (fun t ht hW => ⟨⟨((0 : Int32)), (τ17, ad), rfl, ⟨hF, hN⟩, tw_at hP ht⟩, hS.F ht⟩) hS.2.2 dX9_takesFive_64
def J_X9_kind_122 (τ : tw_T) (p0 : Nat) (u4 : Int32) (u5 : Int32) (y0 : Int32) (y1 : Int32) (y2 : Int32) (q3 : Nat) (q4 : Nat) (y5 : Int32) (q6 : Nat) (Q : Int32 → tw_T → Prop) (X : Nat → tw_T → Prop) : Prop := F_X1_init τ q3 y2 y1 y0 u4 u5 (fun (τ1 : tw_T) => (vp_in y5 20 ∧ (∀ τ3 : tw_T, τ3 = sR τ1 1 q6 y5.toNatClampNeg (some q4) → (∀ τ4 : tw_T, τ4 = sI τ3 0 p0 11 ((gI τ3 0 p0 11) + ((1 : Int32))) → (Q ((gI τ4 0 p0 11) - ((1 : Int32))) τ4)))))
def F_X9_kind (τ0 : tw_T) (k0 : Nat) (x1 : Int32) (x2 : Int32) (x3 : Int32) (x4 : Int32) (x5 : Int32) (Q : Int32 → tw_T → Prop) (X : Nat → tw_T → Prop) : Prop := F_X9_isWithin τ0 x1.toInt64 ((0 : Int64)) ((2 : Int64)) (fun (r6 : Int32) (τ5 : tw_T) => (((r6 = 0 → (X 0 τ5)) ∧ (¬ r6 = 0 → (F_X9_isWithin τ5 x2.toInt64 ((1 : Int64)) ((5 : Int64)) (fun (r9 : Int32) (τ8 : tw_T) => (((r9 = 0 → (X 0 τ8)) ∧ (¬ r9 = 0 → (F_X9_isWithin τ8 x3.toInt64 ((0 : Int64)) ((1 : Int64)) (fun (r12 : Int32) (τ11 : tw_T) => (((¬ r12 = 0 → (F_X9_isWithin τ11 x4.toInt64 ((0 : Int64)) ((60 : Int64)) (fun (r15 : Int32) (τ14 : tw_T) => (((r15 = 0 → (X 0 τ14)) ∧ (¬ r15 = 0 → (F_X9_isWithin τ14 x5.toInt64 ((0 : Int64)) ((60 : Int64)) (fun (r18 : Int32) (τ17 : tw_T) => (((r18 = 0 → (X 0 τ17)) ∧ (¬ r18 = 0 → (((x4 ≤ x5 → ((((gI τ17 0 k0 11) < ((20 : Int32)) → (∃ o22 : Nat, gR τ17 0 k0 0 = some o22 ∧ (∀ τ24 : tw_T, τ24 = nW τ17 20 1 → (((¬ x3 = ((1 : Int32)) → (J_X9_kind_122 τ24 k0 x4 x5 ((0 : Int32)) x2 x1 (gN τ17 20) (gN τ17 20) (gI τ17 0 k0 11) o22 Q X)) ∧ (x3 = ((1 : Int32)) → (J_X9_kind_122 τ24 k0 x4 x5 ((1 : Int32)) x2 x1 (gN τ17 20) (gN τ17 20) (gI τ17 0 k0 11) o22 Q X))))))) ∧ (¬ (gI τ17 0 k0 11) < ((20 : Int32)) → (Q ((-1 : Int32)) τ17))))) ∧ (¬ x4 ≤ x5 → (X 0 τ17))))))))))))))) ∧ (r12 = 0 → (X 0 τ11)))))))))))))))
def rmX9_kind : Room := { frames := 6, cells := 1, slots := 6, locals := 82 }
set_option maxHeartbeats 4000000 in
set_option maxRecDepth 100000 in
theorem mX9_kind (l : Launch) (hlt : l.stackTraces = false) (dC : Nat → ClassId) (dI : Nat → Nat → Nat) (ac : Nat → ClassId) (sa : Nat → Nat) (A : Nat → Prop) (ad : Nat → Nat → Nat) (τ0 : tw_T) (k0 : Nat) (x1 : Int32) (x2 : Int32) (x3 : Int32) (x4 : Int32) (x5 : Int32) (Q : Int32 → tw_T → Prop) (X : Nat → tw_T → Prop) (hF : F_X9_kind τ0 k0 x1 x2 x3 x4 x5 Q X) (hk0 : k0 < gN τ0 0) : vx_Met l yX9_kind wsX9_kind rmX9_kind (va_Pc [.ref (ad 0 k0), .int x1, .int x2, .int x3, .int x4, .int x5] (BX dC dI ac sa A ad τ0)) (va_Qi (fun r (u : tw_T × (Nat → Nat → Nat)) => Q r u.1 ∧ tw_le τ0 ad u.1 u.2) (fun (u : tw_T × (Nat → Nat → Nat)) t => PX dC dI ac A u.2 u.1 t.heap) A) (vx_X (fun (u : Nat × tw_T × (Nat → Nat → Nat)) => X u.1 u.2.1 ∧ tw_le τ0 ad u.2.1 u.2.2) (fun E u t => E = exn u.1 ∧ PX dC dI ac A u.2.2 u.2.1 t.heap) A) 1 6 A := by
  refine vx_ofW (cc := cX9_kind) (maxL := 6) (ret := (some .int)) (by decide) rfl ?_
  intro p e s m args below meth c s₁ B hml htab hv
  obtain ⟨rfl, hP, hK, hA, hZ⟩ := hv
  have hx := B.exec
  have hb := B.bytes
  have hr := B.returns
  have hts := atoms_spec (ws := wsX9_kind) B.pre
  have hown : s.vm.findClass RX9 = some m.cls := findClass_of_methodNamed B.named
  have hlocks := B.notSynchronized
  have hS : va_S A s.heap s.heap [] := va_S.rf
  have hN : tw_le τ0 ad τ0 ad := tw_le.rf
  have hl := lv_entry ([.ref (ad 0 k0), .int x1, .int x2, .int x3, .int x4, .int x5]) (n := 6) (Nat.le_of_ble_eq_true rfl)
  rw [lg_entry_eq]
  generalize (lg_sl ([.ref (ad 0 k0), .int x1, .int x2, .int x3, .int x4, .int x5]) ++ List.replicate (6 - (lg_sl ([.ref (ad 0 k0), .int x1, .int x2, .int x3, .int x4, .int x5])).length) Slot.unset).toArray = ls at hl ⊢
  have hl : lv_has ls 6 [(0, .ref (ad 0 k0)), (1, .int x1), (2, .int x2), (3, .int x3), (4, .int x4), (5, .int x5)] := hl
  unfold F_X9_kind at hF
  have j122 : ∀ (bd : Nat → Nat → Nat) (τ : tw_T) (p0 : Nat) (hp0 : p0 < gN τ 0) (u4 : Int32) (u5 : Int32) (y0 : Int32) (y1 : Int32) (y2 : Int32) (q3 : Nat) (hq3 : q3 < gN τ 20) (q4 : Nat) (hq4 : q4 < gN τ 20) (y5 : Int32) (q6 : Nat) (hq6 : q6 < gN τ 1) (H : Heap) (locs : List Loc) (ls : Array Slot), J_X9_kind_122 τ p0 u4 u5 y0 y1 y2 q3 q4 y5 q6 Q X → PX dC dI ac A bd τ H → tw_le τ0 ad τ bd → va_S A s.heap H locs → lv_has ls 6 [(0, .ref (bd 0 p0)), (4, .int u4), (5, .int u5)] → W p l e rmX9_kind s m ([.ref (ad 0 k0), .int x1, .int x2, .int x3, .int x4, .int x5] : List Value).toArray below meth c H locs 1 5 (vx_MQ below (va_Qi (fun r (u : tw_T × (Nat → Nat → Nat)) => Q r u.1 ∧ tw_le τ0 ad u.1 u.2) (fun (u : tw_T × (Nat → Nat → Nat)) t => PX dC dI ac A u.2 u.1 t.heap) A) (vx_X (fun (u : Nat × tw_T × (Nat → Nat → Nat)) => X u.1 u.2.1 ∧ tw_le τ0 ad u.2.1 u.2.2) (fun E u t => E = exn u.1 ∧ PX dC dI ac A u.2.2 u.2.1 t.heap) A) ([.ref (ad 0 k0), .int x1, .int x2, .int x3, .int x4, .int x5] : List Value).toArray s 1 6 A) (F0 m 122 ls [.int y0, .int y1, .int y2, .ref (bd 20 q3), .ref (bd 20 q4), .int y5, .ref (bd 1 q6)]) := by
    intro bd τ p0 hp0 u4 u5 y0 y1 y2 q3 hq3 q4 hq4 y5 q6 hq6 H locs ls hF hP hN hS hl
    unfold J_X9_kind_122 at hF
    refine lv_iload hx hb dX9_kind_122 (lv_at hl 1 rfl) ?_
    refine lv_iload hx hb dX9_kind_124 (lv_at hl 2 rfl) ?_
    refine va_callv (va_runI (As := [.int y2, .int y1, .int y0, .int u4, .int u5]) (rest := [.ref (bd 20 q4), .int y5, .ref (bd 1 q6)]) ⟨hx, hb, hml, hown, hts⟩ (mX1_init l dC dI ac sa A bd τ q3 y2 y1 y0 u4 u5 _ hF hq3) (cwI 5 hts gX9_kind_X1_init rfl rfl rfl (hts (.initialized RX1) (by decide +kernel)) (hts (.methodLink RX9 107 yX1_init) (by decide +kernel)) (hts (.instanceMethod yX1_init) (by decide +kernel)) rfl (by decide +kernel) ⟨Nat.le_of_ble_eq_true rfl, Nat.le_of_ble_eq_true rfl⟩) ⟨BX.blind, fun U hU hW => ⟨rfl, BX.of hP hK hS hA hZ hU hW⟩⟩ rfl rfl hl.1 rfl (lv_room (Nat.le_of_ble_eq_true rfl)) dX9_kind_126 ⟨Nat.le_of_ble_eq_true rfl, Nat.le_of_ble_eq_true rfl⟩) hS (fun q _ h => h) (fun q h => h) (fun τ1 t H locs ht hvm hw hB hz hk hS => ?_)
    obtain ⟨hF, hN9⟩ := hw
    have hP : PX dC dI ac A bd τ1 H := tw_back hB ht
    have hN : tw_le τ0 ad τ1 bd := hN.same hN9
    have hp0 : p0 < gN τ1 0 := by rw [hN9]; exact hp0
    have hq4 : q4 < gN τ1 20 := by rw [hN9]; exact hq4
    have hq6 : q6 < gN τ1 1 := by rw [hN9]; exact hq6
    obtain ⟨hi2, hF⟩ := hF
    refine tw_aast hx hb hK hP hS (by decide) hq6 rfl (by decide) hq4 rfl rfl 3 rfl (fun _ => rfl) hi2 dX9_kind_129 (fun H locs hP hS => ?_)
    obtain ⟨τ3, eτ3⟩ : ∃ y : tw_T, y = sR τ1 1 q6 y5.toNatClampNeg (some q4) := ⟨_, rfl⟩
    have hF := hF τ3 eτ3
    rw [← eτ3] at hP
    have hN : tw_le τ0 ad τ3 bd := hN.same (by rw [eτ3]; rfl)
    have hp0 : p0 < gN τ3 0 := by rw [eτ3]; exact hp0
    refine lv_aload_n hx hb dX9_kind_130 rfl (lv_at hl 0 rfl) ?_
    refine lv_dup hx hb dX9_kind_131 rfl ?_
    refine tw_get (v := .int (gI τ3 0 p0 11)) hx hb hts (by decide +kernel) hown hK hP (by decide) hp0 rfl rfl 11 (by decide) (hts (.fieldLink RX9 72 "WineCellar" "kindCount" "I") (by decide +kernel)) (fun _ h9 => h9) rfl dX9_kind_132 ?_
    refine lv_iconst (v := 1) hx hb dX9_kind_135 (by decide) ?_
    refine lv_iadd hx hb dX9_kind_136 ?_
    refine tw_put (τ' := sI τ3 0 p0 11 ((gI τ3 0 p0 11) + ((1 : Int32)))) (ty := .int) hx hb hts (by decide +kernel) tyX9 tyX9_ok nmX9 hown hK hP hS (by decide) hp0 rfl rfl 11 (by decide) (hts (.fieldLink RX9 72 "WineCellar" "kindCount" "I") (by decide +kernel)) (fun _ h9 => h9) rfl (by decide +kernel) rfl rfl (Nat.le_of_ble_eq_true rfl) dX9_kind_137 (fun H1 ha ho => tw_updI hP (by decide) hp0 ha ho) (fun H locs hP hS => ?_)
    obtain ⟨τ4, eτ4⟩ : ∃ y : tw_T, y = sI τ3 0 p0 11 ((gI τ3 0 p0 11) + ((1 : Int32))) := ⟨_, rfl⟩
    have hF := hF τ4 eτ4
    rw [← eτ4] at hP
    have hN : tw_le τ0 ad τ4 bd := hN.same (by rw [eτ4]; rfl)
    have hp0 : p0 < gN τ4 0 := by rw [eτ4]; exact hp0
    refine lv_aload_n hx hb dX9_kind_140 rfl (lv_at hl 0 rfl) ?_
    refine tw_get (v := .int (gI τ4 0 p0 11)) hx hb hts (by decide +kernel) hown hK hP (by decide) hp0 rfl rfl 11 (by decide) (hts (.fieldLink RX9 72 "WineCellar" "kindCount" "I") (by decide +kernel)) (fun _ h9 => h9) rfl dX9_kind_141 ?_
    refine lv_iconst (v := 1) hx hb dX9_kind_144 (by decide) ?_
    refine lv_isub hx hb dX9_kind_145 ?_
    refine W.widen (k := 1) (n := 6) (by decide) (by decide) ?_
    exact vx_ret (W.iret (v := (gI τ4 0 p0 11) - ((1 : Int32))) hx hb hr (fun t ht hW => ⟨⟨((gI τ4 0 p0 11) - ((1 : Int32))), (τ4, bd), rfl, ⟨hF, hN⟩, tw_at hP ht⟩, hS.F ht⟩) hS.2.2 dX9_kind_146)
  refine lv_iload_n hx hb dX9_kind_0 rfl (lv_at hl 1 rfl) ?_
  refine lv_i2l (v := x1.toInt64) hx hb dX9_kind_1 rfl ?_
  refine lv_lconst (v := 0) hx hb dX9_kind_2 (by decide) ?_
  refine lv_ldc2 (v := 2) hx hb hown (hts (.constantLong RX9 88 2) (by decide +kernel)) dX9_kind_3 ?_
  refine va_calli (va_runS (As := [.long x1.toInt64, .long ((0 : Int64)), .long ((2 : Int64))]) (rest := []) ⟨hx, hb, hml, hown, hts⟩ (mX9_isWithin l dC dI ac sa A ad τ0 x1.toInt64 ((0 : Int64)) ((2 : Int64)) _ hF ) (va_cwS 3 hts gX9_kind_X9_isWithin rfl rfl rfl (by decide +kernel) ⟨Nat.le_of_ble_eq_true rfl, Nat.le_of_ble_eq_true rfl⟩) ⟨BX.blind, fun U hU hW => ⟨rfl, BX.of hP hK hS hA hZ hU hW⟩⟩ rfl rfl hl.1 rfl (lv_room (Nat.le_of_ble_eq_true rfl)) dX9_kind_6 ⟨Nat.le_of_ble_eq_true rfl, Nat.le_of_ble_eq_true rfl⟩) hS (fun q _ h => h) (fun q h => h) (fun r6 τ5 t H locs ht hvm hw hB hz hk hS => ?_)
  obtain ⟨hF, hN9⟩ := hw
  have hP : PX dC dI ac A ad τ5 H := tw_back hB ht
  have hN : tw_le τ0 ad τ5 ad := hN.same hN9
  have hk0 : k0 < gN τ5 0 := by rw [hN9]; exact hk0
  refine lv_if_eq (tgt := 34) hx hb dX9_kind_9 (by decide) (fun c7 => ?_) (fun c7 => ?_)
  · have hF := hF.1 c7
    exact vx_throwS (names := zx_names) hx hb hlt hown (by decide +kernel) (by decide +kernel) (hts (.classLink RX9 96 "java/lang/IllegalArgumentException") (by decide +kernel)) (hts (.initialized "java/lang/IllegalArgumentException") (by decide +kernel)) (hZ.2.2.1 (98, "no such sort, body or red", 26) (by decide +kernel)) (zx_hat0 hts (by decide +kernel) hZ.2.2.2.2.2) zx_ot0 hZ.2.1.1 hZ.2.1.2 hS (hl.1.trans hml.symm) dX9_kind_34 dX9_kind_37 dX9_kind_38 dX9_kind_40 dX9_kind_43 (fun x9 hx9 => (htab x9 hx9).elim) (Nat.le_of_ble_eq_true rfl) (Nat.le_of_ble_eq_true rfl) (Nat.le_of_ble_eq_true rfl) (Nat.le_of_ble_eq_true rfl) hlocks (fun t hvm hz hk => ⟨(0, τ5, ad), ⟨hF, hN⟩, ⟨rfl, (tw_thrown hP hS hz hk).1⟩, (tw_thrown hP hS hz hk).2⟩) hS.2.2 (by decide) (by decide)
  · have hF := hF.2 c7
    refine lv_iload_n hx hb dX9_kind_12 rfl (lv_at hl 2 rfl) ?_
    refine lv_i2l (v := x2.toInt64) hx hb dX9_kind_13 rfl ?_
    refine lv_lconst (v := 1) hx hb dX9_kind_14 (by decide) ?_
    refine lv_ldc2 (v := 5) hx hb hown (hts (.constantLong RX9 94 5) (by decide +kernel)) dX9_kind_15 ?_
    refine va_calli (va_runS (As := [.long x2.toInt64, .long ((1 : Int64)), .long ((5 : Int64))]) (rest := []) ⟨hx, hb, hml, hown, hts⟩ (mX9_isWithin l dC dI ac sa A ad τ5 x2.toInt64 ((1 : Int64)) ((5 : Int64)) _ hF ) (va_cwS 3 hts gX9_kind_X9_isWithin rfl rfl rfl (by decide +kernel) ⟨Nat.le_of_ble_eq_true rfl, Nat.le_of_ble_eq_true rfl⟩) ⟨BX.blind, fun U hU hW => ⟨rfl, BX.of hP hK hS hA hZ hU hW⟩⟩ rfl rfl hl.1 rfl (lv_room (Nat.le_of_ble_eq_true rfl)) dX9_kind_18 ⟨Nat.le_of_ble_eq_true rfl, Nat.le_of_ble_eq_true rfl⟩) hS (fun q _ h => h) (fun q h => h) (fun r9 τ8 t H locs ht hvm hw hB hz hk hS => ?_)
    obtain ⟨hF, hN9⟩ := hw
    have hP : PX dC dI ac A ad τ8 H := tw_back hB ht
    have hN : tw_le τ0 ad τ8 ad := hN.same hN9
    have hk0 : k0 < gN τ8 0 := by rw [hN9]; exact hk0
    refine lv_if_eq (tgt := 34) hx hb dX9_kind_21 (by decide) (fun c10 => ?_) (fun c10 => ?_)
    · have hF := hF.1 c10
      exact vx_throwS (names := zx_names) hx hb hlt hown (by decide +kernel) (by decide +kernel) (hts (.classLink RX9 96 "java/lang/IllegalArgumentException") (by decide +kernel)) (hts (.initialized "java/lang/IllegalArgumentException") (by decide +kernel)) (hZ.2.2.1 (98, "no such sort, body or red", 26) (by decide +kernel)) (zx_hat0 hts (by decide +kernel) hZ.2.2.2.2.2) zx_ot0 hZ.2.1.1 hZ.2.1.2 hS (hl.1.trans hml.symm) dX9_kind_34 dX9_kind_37 dX9_kind_38 dX9_kind_40 dX9_kind_43 (fun x9 hx9 => (htab x9 hx9).elim) (Nat.le_of_ble_eq_true rfl) (Nat.le_of_ble_eq_true rfl) (Nat.le_of_ble_eq_true rfl) (Nat.le_of_ble_eq_true rfl) hlocks (fun t hvm hz hk => ⟨(0, τ8, ad), ⟨hF, hN⟩, ⟨rfl, (tw_thrown hP hS hz hk).1⟩, (tw_thrown hP hS hz hk).2⟩) hS.2.2 (by decide) (by decide)
    · have hF := hF.2 c10
      refine lv_iload_n hx hb dX9_kind_24 rfl (lv_at hl 3 rfl) ?_
      refine lv_i2l (v := x3.toInt64) hx hb dX9_kind_25 rfl ?_
      refine lv_lconst (v := 0) hx hb dX9_kind_26 (by decide) ?_
      refine lv_lconst (v := 1) hx hb dX9_kind_27 (by decide) ?_
      refine va_calli (va_runS (As := [.long x3.toInt64, .long ((0 : Int64)), .long ((1 : Int64))]) (rest := []) ⟨hx, hb, hml, hown, hts⟩ (mX9_isWithin l dC dI ac sa A ad τ8 x3.toInt64 ((0 : Int64)) ((1 : Int64)) _ hF ) (va_cwS 3 hts gX9_kind_X9_isWithin rfl rfl rfl (by decide +kernel) ⟨Nat.le_of_ble_eq_true rfl, Nat.le_of_ble_eq_true rfl⟩) ⟨BX.blind, fun U hU hW => ⟨rfl, BX.of hP hK hS hA hZ hU hW⟩⟩ rfl rfl hl.1 rfl (lv_room (Nat.le_of_ble_eq_true rfl)) dX9_kind_28 ⟨Nat.le_of_ble_eq_true rfl, Nat.le_of_ble_eq_true rfl⟩) hS (fun q _ h => h) (fun q h => h) (fun r12 τ11 t H locs ht hvm hw hB hz hk hS => ?_)
      obtain ⟨hF, hN9⟩ := hw
      have hP : PX dC dI ac A ad τ11 H := tw_back hB ht
      have hN : tw_le τ0 ad τ11 ad := hN.same hN9
      have hk0 : k0 < gN τ11 0 := by rw [hN9]; exact hk0
      refine lv_if_ne (tgt := 44) hx hb dX9_kind_31 (by decide) (fun c13 => ?_) (fun c13 => ?_)
      · have hF := hF.1 c13
        refine lv_iload hx hb dX9_kind_44 (lv_at hl 4 rfl) ?_
        refine lv_i2l (v := x4.toInt64) hx hb dX9_kind_46 rfl ?_
        refine lv_lconst (v := 0) hx hb dX9_kind_47 (by decide) ?_
        refine lv_ldc2 (v := 60) hx hb hown (hts (.constantLong RX9 103 60) (by decide +kernel)) dX9_kind_48 ?_
        refine va_calli (va_runS (As := [.long x4.toInt64, .long ((0 : Int64)), .long ((60 : Int64))]) (rest := []) ⟨hx, hb, hml, hown, hts⟩ (mX9_isWithin l dC dI ac sa A ad τ11 x4.toInt64 ((0 : Int64)) ((60 : Int64)) _ hF ) (va_cwS 3 hts gX9_kind_X9_isWithin rfl rfl rfl (by decide +kernel) ⟨Nat.le_of_ble_eq_true rfl, Nat.le_of_ble_eq_true rfl⟩) ⟨BX.blind, fun U hU hW => ⟨rfl, BX.of hP hK hS hA hZ hU hW⟩⟩ rfl rfl hl.1 rfl (lv_room (Nat.le_of_ble_eq_true rfl)) dX9_kind_51 ⟨Nat.le_of_ble_eq_true rfl, Nat.le_of_ble_eq_true rfl⟩) hS (fun q _ h => h) (fun q h => h) (fun r15 τ14 t H locs ht hvm hw hB hz hk hS => ?_)
        obtain ⟨hF, hN9⟩ := hw
        have hP : PX dC dI ac A ad τ14 H := tw_back hB ht
        have hN : tw_le τ0 ad τ14 ad := hN.same hN9
        have hk0 : k0 < gN τ14 0 := by rw [hN9]; exact hk0
        refine lv_if_eq (tgt := 77) hx hb dX9_kind_54 (by decide) (fun c16 => ?_) (fun c16 => ?_)
        · have hF := hF.1 c16
          exact vx_throwS (names := zx_names) hx hb hlt hown (by decide +kernel) (by decide +kernel) (hts (.classLink RX9 96 "java/lang/IllegalArgumentException") (by decide +kernel)) (hts (.initialized "java/lang/IllegalArgumentException") (by decide +kernel)) (hZ.2.2.1 (105, "no such young and old", 27) (by decide +kernel)) (zx_hat0 hts (by decide +kernel) hZ.2.2.2.2.2) zx_ot0 hZ.2.1.1 hZ.2.1.2 hS (hl.1.trans hml.symm) dX9_kind_77 dX9_kind_80 dX9_kind_81 dX9_kind_83 dX9_kind_86 (fun x9 hx9 => (htab x9 hx9).elim) (Nat.le_of_ble_eq_true rfl) (Nat.le_of_ble_eq_true rfl) (Nat.le_of_ble_eq_true rfl) (Nat.le_of_ble_eq_true rfl) hlocks (fun t hvm hz hk => ⟨(0, τ14, ad), ⟨hF, hN⟩, ⟨rfl, (tw_thrown hP hS hz hk).1⟩, (tw_thrown hP hS hz hk).2⟩) hS.2.2 (by decide) (by decide)
        · have hF := hF.2 c16
          refine lv_iload hx hb dX9_kind_57 (lv_at hl 5 rfl) ?_
          refine lv_i2l (v := x5.toInt64) hx hb dX9_kind_59 rfl ?_
          refine lv_lconst (v := 0) hx hb dX9_kind_60 (by decide) ?_
          refine lv_ldc2 (v := 60) hx hb hown (hts (.constantLong RX9 103 60) (by decide +kernel)) dX9_kind_61 ?_
          refine va_calli (va_runS (As := [.long x5.toInt64, .long ((0 : Int64)), .long ((60 : Int64))]) (rest := []) ⟨hx, hb, hml, hown, hts⟩ (mX9_isWithin l dC dI ac sa A ad τ14 x5.toInt64 ((0 : Int64)) ((60 : Int64)) _ hF ) (va_cwS 3 hts gX9_kind_X9_isWithin rfl rfl rfl (by decide +kernel) ⟨Nat.le_of_ble_eq_true rfl, Nat.le_of_ble_eq_true rfl⟩) ⟨BX.blind, fun U hU hW => ⟨rfl, BX.of hP hK hS hA hZ hU hW⟩⟩ rfl rfl hl.1 rfl (lv_room (Nat.le_of_ble_eq_true rfl)) dX9_kind_64 ⟨Nat.le_of_ble_eq_true rfl, Nat.le_of_ble_eq_true rfl⟩) hS (fun q _ h => h) (fun q h => h) (fun r18 τ17 t H locs ht hvm hw hB hz hk hS => ?_)
          obtain ⟨hF, hN9⟩ := hw
          have hP : PX dC dI ac A ad τ17 H := tw_back hB ht
          have hN : tw_le τ0 ad τ17 ad := hN.same hN9
          have hk0 : k0 < gN τ17 0 := by rw [hN9]; exact hk0
          refine lv_if_eq (tgt := 77) hx hb dX9_kind_67 (by decide) (fun c19 => ?_) (fun c19 => ?_)
          · have hF := hF.1 c19
            exact vx_throwS (names := zx_names) hx hb hlt hown (by decide +kernel) (by decide +kernel) (hts (.classLink RX9 96 "java/lang/IllegalArgumentException") (by decide +kernel)) (hts (.initialized "java/lang/IllegalArgumentException") (by decide +kernel)) (hZ.2.2.1 (105, "no such young and old", 27) (by decide +kernel)) (zx_hat0 hts (by decide +kernel) hZ.2.2.2.2.2) zx_ot0 hZ.2.1.1 hZ.2.1.2 hS (hl.1.trans hml.symm) dX9_kind_77 dX9_kind_80 dX9_kind_81 dX9_kind_83 dX9_kind_86 (fun x9 hx9 => (htab x9 hx9).elim) (Nat.le_of_ble_eq_true rfl) (Nat.le_of_ble_eq_true rfl) (Nat.le_of_ble_eq_true rfl) (Nat.le_of_ble_eq_true rfl) hlocks (fun t hvm hz hk => ⟨(0, τ17, ad), ⟨hF, hN⟩, ⟨rfl, (tw_thrown hP hS hz hk).1⟩, (tw_thrown hP hS hz hk).2⟩) hS.2.2 (by decide) (by decide)
          · have hF := hF.2 c19
            refine lv_iload hx hb dX9_kind_70 (lv_at hl 4 rfl) ?_
            refine lv_iload hx hb dX9_kind_72 (lv_at hl 5 rfl) ?_
            refine lv_icmp_le (tgt := 87) hx hb dX9_kind_74 (by decide) (fun c20 => ?_) (fun c20 => ?_)
            · have hF := hF.1 c20
              refine lv_aload_n hx hb dX9_kind_87 rfl (lv_at hl 0 rfl) ?_
              refine tw_get (v := .int (gI τ17 0 k0 11)) hx hb hts (by decide +kernel) hown hK hP (by decide) hk0 rfl rfl 11 (by decide) (hts (.fieldLink RX9 72 "WineCellar" "kindCount" "I") (by decide +kernel)) (fun _ h9 => h9) rfl dX9_kind_88 ?_
              refine lv_bipush (v := 20) hx hb dX9_kind_91 (by decide) ?_
              refine lv_icmp_lt (tgt := 98) hx hb dX9_kind_93 (by decide) (fun c21 => ?_) (fun c21 => ?_)
              · have hF := hF.1 c21
                refine lv_aload_n hx hb dX9_kind_98 rfl (lv_at hl 0 rfl) ?_
                obtain ⟨o22, eo22, hF⟩ := hF
                have ho22 : o22 < gN τ17 1 := hP.2.2.2 0 k0 0 o22 (by decide) hk0 eo22
                refine tw_get (v := .ref (ad 1 o22)) hx hb hts (by decide +kernel) hown hK hP (by decide) hk0 rfl rfl 0 (by decide) (hts (.fieldLink RX9 11 "WineCellar" "kinds" "[LWineCellar$Kind;") (by decide +kernel)) (fun _ h9 => h9) (show some (va_rf ((gR τ17 0 k0 0).map (ad 1))) = some (.ref (ad 1 o22)) by rw [eo22]; rfl) dX9_kind_99 ?_
                refine lv_aload_n hx hb dX9_kind_102 rfl (lv_at hl 0 rfl) ?_
                refine tw_get (v := .int (gI τ17 0 k0 11)) hx hb hts (by decide +kernel) hown hK hP (by decide) hk0 rfl rfl 11 (by decide) (hts (.fieldLink RX9 72 "WineCellar" "kindCount" "I") (by decide +kernel)) (fun _ h9 => h9) rfl dX9_kind_103 ?_
                refine tw_new (f := 20) (fs := [.int 0, .int 0, .int 0, .int 0, .int 0]) hx hb hts (by decide +kernel) tyX1 tyX1_ok hown (hts (.classLink RX9 9 RX1) (by decide +kernel)) (hts (.instantiable RX1 5) (by decide +kernel)) (hts (.initialized RX1) (by decide +kernel)) hK hP hS hA (by decide) (fun _ => rfl) rfl (fun j hj => by rcases (show j = 0 ∨ j = 1 ∨ j = 2 ∨ j = 3 ∨ j = 4 by omega) with rfl | rfl | rfl | rfl | rfl <;> rfl) (Nat.le_of_ble_eq_true rfl) (Nat.le_of_ble_eq_true rfl) dX9_kind_106 (fun ad23 H hP hle hS => ?_)
                obtain ⟨τ24, eτ24⟩ : ∃ y : tw_T, y = nW τ17 20 1 := ⟨_, rfl⟩
                have hF := hF τ24 eτ24
                rw [← eτ24] at hP hle
                have hl : lv_has ls 6 [(0, .ref (ad23 0 k0)), (1, .int x1), (2, .int x2), (3, .int x3), (4, .int x4), (5, .int x5)] := by rw [hle.2 0 k0 hk0]; exact hl
                refine W.eq (g2 := F0 m 109 ls [.ref (ad23 20 (gN τ17 20)), .int (gI τ17 0 k0 11), .ref (ad23 1 o22)]) (by rw [hle.2 1 o22 ho22]) ?_
                have hk0 : k0 < gN τ24 0 := Nat.lt_of_lt_of_le hk0 (hle.1 0)
                have ho22 : o22 < gN τ24 1 := Nat.lt_of_lt_of_le ho22 (hle.1 1)
                have hN : tw_le τ0 ad τ24 ad23 := hN.tr hle
                have hq25 : gN τ17 20 < gN τ24 20 := by rw [eτ24, gN_nW, if_pos rfl]; exact Nat.lt_succ_self _
                refine lv_dup hx hb dX9_kind_109 rfl ?_
                refine lv_iload_n hx hb dX9_kind_110 rfl (lv_at hl 1 rfl) ?_
                refine lv_iload_n hx hb dX9_kind_111 rfl (lv_at hl 2 rfl) ?_
                refine lv_iload_n hx hb dX9_kind_112 rfl (lv_at hl 3 rfl) ?_
                refine lv_iconst (v := 1) hx hb dX9_kind_113 (by decide) ?_
                refine lv_icmp_ne (tgt := 121) hx hb dX9_kind_114 (by decide) (fun c26 => ?_) (fun c26 => ?_)
                · have hF := hF.1 c26
                  refine lv_iconst (v := 0) hx hb dX9_kind_121 (by decide) ?_
                  exact j122 ad23 τ24 k0 hk0 x4 x5 ((0 : Int32)) x2 x1 (gN τ17 20) hq25 (gN τ17 20) hq25 (gI τ17 0 k0 11) o22 ho22 _ _ _ hF hP hN hS (lv_sub hl [0, 4, 5] rfl)
                · have hF := hF.2 c26
                  refine lv_iconst (v := 1) hx hb dX9_kind_117 (by decide) ?_
                  refine lv_goto (tgt := 122) hx hb dX9_kind_118 (by decide) ?_
                  exact j122 ad23 τ24 k0 hk0 x4 x5 ((1 : Int32)) x2 x1 (gN τ17 20) hq25 (gN τ17 20) hq25 (gI τ17 0 k0 11) o22 ho22 _ _ _ hF hP hN hS (lv_sub hl [0, 4, 5] rfl)
              · have hF := hF.2 c21
                refine lv_iconst (v := (-1)) hx hb dX9_kind_96 (by decide) ?_
                refine W.widen (k := 1) (n := 6) (by decide) (by decide) ?_
                exact vx_ret (W.iret (v := (-1 : Int32)) hx hb hr (fun t ht hW => ⟨⟨((-1 : Int32)), (τ17, ad), rfl, ⟨hF, hN⟩, tw_at hP ht⟩, hS.F ht⟩) hS.2.2 dX9_kind_97)
            · have hF := hF.2 c20
              exact vx_throwS (names := zx_names) hx hb hlt hown (by decide +kernel) (by decide +kernel) (hts (.classLink RX9 96 "java/lang/IllegalArgumentException") (by decide +kernel)) (hts (.initialized "java/lang/IllegalArgumentException") (by decide +kernel)) (hZ.2.2.1 (105, "no such young and old", 27) (by decide +kernel)) (zx_hat0 hts (by decide +kernel) hZ.2.2.2.2.2) zx_ot0 hZ.2.1.1 hZ.2.1.2 hS (hl.1.trans hml.symm) dX9_kind_77 dX9_kind_80 dX9_kind_81 dX9_kind_83 dX9_kind_86 (fun x9 hx9 => (htab x9 hx9).elim) (Nat.le_of_ble_eq_true rfl) (Nat.le_of_ble_eq_true rfl) (Nat.le_of_ble_eq_true rfl) (Nat.le_of_ble_eq_true rfl) hlocks (fun t hvm hz hk => ⟨(0, τ17, ad), ⟨hF, hN⟩, ⟨rfl, (tw_thrown hP hS hz hk).1⟩, (tw_thrown hP hS hz hk).2⟩) hS.2.2 (by decide) (by decide)
      · have hF := hF.2 c13
        exact vx_throwS (names := zx_names) hx hb hlt hown (by decide +kernel) (by decide +kernel) (hts (.classLink RX9 96 "java/lang/IllegalArgumentException") (by decide +kernel)) (hts (.initialized "java/lang/IllegalArgumentException") (by decide +kernel)) (hZ.2.2.1 (98, "no such sort, body or red", 26) (by decide +kernel)) (zx_hat0 hts (by decide +kernel) hZ.2.2.2.2.2) zx_ot0 hZ.2.1.1 hZ.2.1.2 hS (hl.1.trans hml.symm) dX9_kind_34 dX9_kind_37 dX9_kind_38 dX9_kind_40 dX9_kind_43 (fun x9 hx9 => (htab x9 hx9).elim) (Nat.le_of_ble_eq_true rfl) (Nat.le_of_ble_eq_true rfl) (Nat.le_of_ble_eq_true rfl) (Nat.le_of_ble_eq_true rfl) hlocks (fun t hvm hz hk => ⟨(0, τ11, ad), ⟨hF, hN⟩, ⟨rfl, (tw_thrown hP hS hz hk).1⟩, (tw_thrown hP hS hz hk).2⟩) hS.2.2 (by decide) (by decide)
def F_X9_lot (τ0 : tw_T) (k0 : Nat) (x1 : Int32) (x2 : Int32) (x3 : Int32) (Q : Int32 → tw_T → Prop) (X : Nat → tw_T → Prop) : Prop := ((x1 < 0 → (X 1 τ0)) ∧ (¬ x1 < 0 → (((x1 < (gI τ0 0 k0 11) → (F_X9_isVintage τ0 x2.toInt64 (fun (r4 : Int32) (τ3 : tw_T) => (((r4 = 0 → (X 0 τ3)) ∧ (¬ r4 = 0 → (F_X9_isPrice τ3 x3.toInt64 (fun (r7 : Int32) (τ6 : tw_T) => (((¬ r7 = 0 → ((((gI τ6 0 k0 12) < ((60 : Int32)) → (F_X9_addLot τ6 k0 x1 x2 x3 (fun (r11 : Int32) (τ10 : tw_T) => (Q r11 τ10)))) ∧ (¬ (gI τ6 0 k0 12) < ((60 : Int32)) → (Q ((-1 : Int32)) τ6))))) ∧ (r7 = 0 → (X 0 τ6)))))))))))) ∧ (¬ x1 < (gI τ0 0 k0 11) → (X 1 τ0))))))
def rmX9_lot : Room := { frames := 6, cells := 1, slots := 8, locals := 82 }
set_option maxHeartbeats 4000000 in
set_option maxRecDepth 100000 in
theorem mX9_lot (l : Launch) (hlt : l.stackTraces = false) (dC : Nat → ClassId) (dI : Nat → Nat → Nat) (ac : Nat → ClassId) (sa : Nat → Nat) (A : Nat → Prop) (ad : Nat → Nat → Nat) (τ0 : tw_T) (k0 : Nat) (x1 : Int32) (x2 : Int32) (x3 : Int32) (Q : Int32 → tw_T → Prop) (X : Nat → tw_T → Prop) (hF : F_X9_lot τ0 k0 x1 x2 x3 Q X) (hk0 : k0 < gN τ0 0) : vx_Met l yX9_lot wsX9_lot rmX9_lot (va_Pc [.ref (ad 0 k0), .int x1, .int x2, .int x3] (BX dC dI ac sa A ad τ0)) (va_Qi (fun r (u : tw_T × (Nat → Nat → Nat)) => Q r u.1 ∧ tw_le τ0 ad u.1 u.2) (fun (u : tw_T × (Nat → Nat → Nat)) t => PX dC dI ac A u.2 u.1 t.heap) A) (vx_X (fun (u : Nat × tw_T × (Nat → Nat → Nat)) => X u.1 u.2.1 ∧ tw_le τ0 ad u.2.1 u.2.2) (fun E u t => E = exn u.1 ∧ PX dC dI ac A u.2.2 u.2.1 t.heap) A) 1 8 A := by
  refine vx_ofW (cc := cX9_lot) (maxL := 4) (ret := (some .int)) (by decide) rfl ?_
  intro p e s m args below meth c s₁ B hml htab hv
  obtain ⟨rfl, hP, hK, hA, hZ⟩ := hv
  have hx := B.exec
  have hb := B.bytes
  have hr := B.returns
  have hts := atoms_spec (ws := wsX9_lot) B.pre
  have hown : s.vm.findClass RX9 = some m.cls := findClass_of_methodNamed B.named
  have hlocks := B.notSynchronized
  have hS : va_S A s.heap s.heap [] := va_S.rf
  have hN : tw_le τ0 ad τ0 ad := tw_le.rf
  have hl := lv_entry ([.ref (ad 0 k0), .int x1, .int x2, .int x3]) (n := 4) (Nat.le_of_ble_eq_true rfl)
  rw [lg_entry_eq]
  generalize (lg_sl ([.ref (ad 0 k0), .int x1, .int x2, .int x3]) ++ List.replicate (4 - (lg_sl ([.ref (ad 0 k0), .int x1, .int x2, .int x3])).length) Slot.unset).toArray = ls at hl ⊢
  have hl : lv_has ls 4 [(0, .ref (ad 0 k0)), (1, .int x1), (2, .int x2), (3, .int x3)] := hl
  unfold F_X9_lot at hF
  refine lv_iload_n hx hb dX9_lot_0 rfl (lv_at hl 1 rfl) ?_
  refine lv_if_lt (tgt := 12) hx hb dX9_lot_1 (by decide) (fun c1 => ?_) (fun c1 => ?_)
  · have hF := hF.1 c1
    exact vx_throwS (names := zx_names) hx hb hlt hown (by decide +kernel) (by decide +kernel) (hts (.classLink RX9 110 "java/lang/IndexOutOfBoundsException") (by decide +kernel)) (hts (.initialized "java/lang/IndexOutOfBoundsException") (by decide +kernel)) (hZ.2.2.1 (112, "no such kind", 28) (by decide +kernel)) (zx_hat1 hts (by decide +kernel) hZ.2.2.2.2.2) zx_ot1 hZ.2.1.1 hZ.2.1.2 hS (hl.1.trans hml.symm) dX9_lot_12 dX9_lot_15 dX9_lot_16 dX9_lot_18 dX9_lot_21 (fun x9 hx9 => (htab x9 hx9).elim) (Nat.le_of_ble_eq_true rfl) (Nat.le_of_ble_eq_true rfl) (Nat.le_of_ble_eq_true rfl) (Nat.le_of_ble_eq_true rfl) hlocks (fun t hvm hz hk => ⟨(1, τ0, ad), ⟨hF, hN⟩, ⟨rfl, (tw_thrown hP hS hz hk).1⟩, (tw_thrown hP hS hz hk).2⟩) hS.2.2 (by decide) (by decide)
  · have hF := hF.2 c1
    refine lv_iload_n hx hb dX9_lot_4 rfl (lv_at hl 1 rfl) ?_
    refine lv_aload_n hx hb dX9_lot_5 rfl (lv_at hl 0 rfl) ?_
    refine tw_get (v := .int (gI τ0 0 k0 11)) hx hb hts (by decide +kernel) hown hK hP (by decide) hk0 rfl rfl 11 (by decide) (hts (.fieldLink RX9 72 "WineCellar" "kindCount" "I") (by decide +kernel)) (fun _ h9 => h9) rfl dX9_lot_6 ?_
    refine lv_icmp_lt (tgt := 22) hx hb dX9_lot_9 (by decide) (fun c2 => ?_) (fun c2 => ?_)
    · have hF := hF.1 c2
      refine lv_iload_n hx hb dX9_lot_22 rfl (lv_at hl 2 rfl) ?_
      refine lv_i2l (v := x2.toInt64) hx hb dX9_lot_23 rfl ?_
      refine va_calli (va_runS (As := [.long x2.toInt64]) (rest := []) ⟨hx, hb, hml, hown, hts⟩ (mX9_isVintage l dC dI ac sa A ad τ0 x2.toInt64 _ hF ) (va_cwS 1 hts gX9_lot_X9_isVintage rfl rfl rfl (by decide +kernel) ⟨Nat.le_of_ble_eq_true rfl, Nat.le_of_ble_eq_true rfl⟩) ⟨BX.blind, fun U hU hW => ⟨rfl, BX.of hP hK hS hA hZ hU hW⟩⟩ rfl rfl hl.1 rfl (lv_room (Nat.le_of_ble_eq_true rfl)) dX9_lot_24 ⟨Nat.le_of_ble_eq_true rfl, Nat.le_of_ble_eq_true rfl⟩) hS (fun q _ h => h) (fun q h => h) (fun r4 τ3 t H locs ht hvm hw hB hz hk hS => ?_)
      obtain ⟨hF, hN9⟩ := hw
      have hP : PX dC dI ac A ad τ3 H := tw_back hB ht
      have hN : tw_le τ0 ad τ3 ad := hN.same hN9
      have hk0 : k0 < gN τ3 0 := by rw [hN9]; exact hk0
      refine lv_if_eq (tgt := 38) hx hb dX9_lot_27 (by decide) (fun c5 => ?_) (fun c5 => ?_)
      · have hF := hF.1 c5
        exact vx_throwS (names := zx_names) hx hb hlt hown (by decide +kernel) (by decide +kernel) (hts (.classLink RX9 96 "java/lang/IllegalArgumentException") (by decide +kernel)) (hts (.initialized "java/lang/IllegalArgumentException") (by decide +kernel)) (hZ.2.2.1 (122, "no such vintage or price", 29) (by decide +kernel)) (zx_hat0 hts (by decide +kernel) hZ.2.2.2.2.2) zx_ot0 hZ.2.1.1 hZ.2.1.2 hS (hl.1.trans hml.symm) dX9_lot_38 dX9_lot_41 dX9_lot_42 dX9_lot_44 dX9_lot_47 (fun x9 hx9 => (htab x9 hx9).elim) (Nat.le_of_ble_eq_true rfl) (Nat.le_of_ble_eq_true rfl) (Nat.le_of_ble_eq_true rfl) (Nat.le_of_ble_eq_true rfl) hlocks (fun t hvm hz hk => ⟨(0, τ3, ad), ⟨hF, hN⟩, ⟨rfl, (tw_thrown hP hS hz hk).1⟩, (tw_thrown hP hS hz hk).2⟩) hS.2.2 (by decide) (by decide)
      · have hF := hF.2 c5
        refine lv_iload_n hx hb dX9_lot_30 rfl (lv_at hl 3 rfl) ?_
        refine lv_i2l (v := x3.toInt64) hx hb dX9_lot_31 rfl ?_
        refine va_calli (va_runS (As := [.long x3.toInt64]) (rest := []) ⟨hx, hb, hml, hown, hts⟩ (mX9_isPrice l dC dI ac sa A ad τ3 x3.toInt64 _ hF ) (va_cwS 1 hts gX9_lot_X9_isPrice rfl rfl rfl (by decide +kernel) ⟨Nat.le_of_ble_eq_true rfl, Nat.le_of_ble_eq_true rfl⟩) ⟨BX.blind, fun U hU hW => ⟨rfl, BX.of hP hK hS hA hZ hU hW⟩⟩ rfl rfl hl.1 rfl (lv_room (Nat.le_of_ble_eq_true rfl)) dX9_lot_32 ⟨Nat.le_of_ble_eq_true rfl, Nat.le_of_ble_eq_true rfl⟩) hS (fun q _ h => h) (fun q h => h) (fun r7 τ6 t H locs ht hvm hw hB hz hk hS => ?_)
        obtain ⟨hF, hN9⟩ := hw
        have hP : PX dC dI ac A ad τ6 H := tw_back hB ht
        have hN : tw_le τ0 ad τ6 ad := hN.same hN9
        have hk0 : k0 < gN τ6 0 := by rw [hN9]; exact hk0
        refine lv_if_ne (tgt := 48) hx hb dX9_lot_35 (by decide) (fun c8 => ?_) (fun c8 => ?_)
        · have hF := hF.1 c8
          refine lv_aload_n hx hb dX9_lot_48 rfl (lv_at hl 0 rfl) ?_
          refine tw_get (v := .int (gI τ6 0 k0 12)) hx hb hts (by decide +kernel) hown hK hP (by decide) hk0 rfl rfl 12 (by decide) (hts (.fieldLink RX9 76 "WineCellar" "lotCount" "I") (by decide +kernel)) (fun _ h9 => h9) rfl dX9_lot_49 ?_
          refine lv_bipush (v := 60) hx hb dX9_lot_52 (by decide) ?_
          refine lv_icmp_lt (tgt := 59) hx hb dX9_lot_54 (by decide) (fun c9 => ?_) (fun c9 => ?_)
          · have hF := hF.1 c9
            refine lv_aload_n hx hb dX9_lot_59 rfl (lv_at hl 0 rfl) ?_
            refine lv_iload_n hx hb dX9_lot_60 rfl (lv_at hl 1 rfl) ?_
            refine lv_iload_n hx hb dX9_lot_61 rfl (lv_at hl 2 rfl) ?_
            refine lv_iload_n hx hb dX9_lot_62 rfl (lv_at hl 3 rfl) ?_
            refine va_calli (va_runV (As := [.int x1, .int x2, .int x3]) (rest := []) ⟨hx, hb, hml, hown, hts⟩ (mX9_addLot l dC dI ac sa A ad τ6 k0 x1 x2 x3 _ hF hk0) (cwV 3 hts gX9_lot_X9_addLot rfl rfl rfl (by decide +kernel) ⟨Nat.le_of_ble_eq_true rfl, Nat.le_of_ble_eq_true rfl⟩) ⟨BX.blind, tw_recv hK hP (by decide) hk0 rfl rfl, fun U hU hW => ⟨rfl, BX.of hP hK hS hA hZ hU hW⟩⟩ rfl rfl hl.1 rfl (lv_room (Nat.le_of_ble_eq_true rfl)) dX9_lot_63 ⟨Nat.le_of_ble_eq_true rfl, Nat.le_of_ble_eq_true rfl⟩) hS (fun q _ h => h) (fun q h => h) (fun r11 u9 t H locs ht hvm hw hB hz hk hS => ?_)
            obtain ⟨τ10, adτ10⟩ := u9
            obtain ⟨hF, hN9⟩ := hw
            try dsimp only at hF hN9 hB
            have hP : PX dC dI ac A adτ10 τ10 H := tw_back hB ht
            have hl : lv_has ls 4 [(0, .ref (adτ10 0 k0)), (1, .int x1), (2, .int x2), (3, .int x3)] := by rw [hN9.2 0 k0 hk0]; exact hl
            have hk0 : k0 < gN τ10 0 := Nat.lt_of_lt_of_le hk0 (hN9.1 0)
            have hN : tw_le τ0 ad τ10 adτ10 := hN.tr hN9
            exact vx_ret (W.iret (v := r11) hx hb hr (fun t ht hW => ⟨⟨r11, (τ10, adτ10), rfl, ⟨hF, hN⟩, tw_at hP ht⟩, hS.F ht⟩) hS.2.2 dX9_lot_66)
          · have hF := hF.2 c9
            refine lv_iconst (v := (-1)) hx hb dX9_lot_57 (by decide) ?_
            refine W.widen (k := 1) (n := 8) (by decide) (by decide) ?_
            exact vx_ret (W.iret (v := (-1 : Int32)) hx hb hr (fun t ht hW => ⟨⟨((-1 : Int32)), (τ6, ad), rfl, ⟨hF, hN⟩, tw_at hP ht⟩, hS.F ht⟩) hS.2.2 dX9_lot_58)
        · have hF := hF.2 c8
          exact vx_throwS (names := zx_names) hx hb hlt hown (by decide +kernel) (by decide +kernel) (hts (.classLink RX9 96 "java/lang/IllegalArgumentException") (by decide +kernel)) (hts (.initialized "java/lang/IllegalArgumentException") (by decide +kernel)) (hZ.2.2.1 (122, "no such vintage or price", 29) (by decide +kernel)) (zx_hat0 hts (by decide +kernel) hZ.2.2.2.2.2) zx_ot0 hZ.2.1.1 hZ.2.1.2 hS (hl.1.trans hml.symm) dX9_lot_38 dX9_lot_41 dX9_lot_42 dX9_lot_44 dX9_lot_47 (fun x9 hx9 => (htab x9 hx9).elim) (Nat.le_of_ble_eq_true rfl) (Nat.le_of_ble_eq_true rfl) (Nat.le_of_ble_eq_true rfl) (Nat.le_of_ble_eq_true rfl) hlocks (fun t hvm hz hk => ⟨(0, τ6, ad), ⟨hF, hN⟩, ⟨rfl, (tw_thrown hP hS hz hk).1⟩, (tw_thrown hP hS hz hk).2⟩) hS.2.2 (by decide) (by decide)
    · have hF := hF.2 c2
      exact vx_throwS (names := zx_names) hx hb hlt hown (by decide +kernel) (by decide +kernel) (hts (.classLink RX9 110 "java/lang/IndexOutOfBoundsException") (by decide +kernel)) (hts (.initialized "java/lang/IndexOutOfBoundsException") (by decide +kernel)) (hZ.2.2.1 (112, "no such kind", 28) (by decide +kernel)) (zx_hat1 hts (by decide +kernel) hZ.2.2.2.2.2) zx_ot1 hZ.2.1.1 hZ.2.1.2 hS (hl.1.trans hml.symm) dX9_lot_12 dX9_lot_15 dX9_lot_16 dX9_lot_18 dX9_lot_21 (fun x9 hx9 => (htab x9 hx9).elim) (Nat.le_of_ble_eq_true rfl) (Nat.le_of_ble_eq_true rfl) (Nat.le_of_ble_eq_true rfl) (Nat.le_of_ble_eq_true rfl) hlocks (fun t hvm hz hk => ⟨(1, τ0, ad), ⟨hF, hN⟩, ⟨rfl, (tw_thrown hP hS hz hk).1⟩, (tw_thrown hP hS hz hk).2⟩) hS.2.2 (by decide) (by decide)
