def F_J3_checkIndex_8e157 (τ0 : tw_T) (x0 : Int32) (x1 : Int32) (g2 : Option Nat) (Q : Int32 → tw_T → Prop) : Prop := ((x0 < 0 → (False)) ∧ (¬ x0 < 0 → (((x0 < x1 → (Q x0 τ0)) ∧ (¬ x0 < x1 → (False))))))
def rmJ3_checkIndex_8e157 : Room := { frames := 0, cells := 0, slots := 0, locals := 0 }
set_option maxHeartbeats 4000000 in
set_option maxRecDepth 100000 in
theorem mJ3_checkIndex_8e157 (l : Launch) (dC : Nat → ClassId) (dI : Nat → Nat → Nat) (ac : Nat → ClassId) (sa : Nat → Nat) (A : Nat → Prop) (ad : Nat → Nat → Nat) (τ0 : tw_T) (x0 : Int32) (x1 : Int32) (g2 : Option Nat) (Q : Int32 → tw_T → Prop) (hF : F_J3_checkIndex_8e157 τ0 x0 x1 g2 Q)  : Met l yJ3_checkIndex_8e157 wsJ3_checkIndex_8e157 rmJ3_checkIndex_8e157 (va_Pc [.int x0, .int x1, va_rf g2] (BX dC dI ac sa A ad τ0)) (va_Qi (fun r (u : tw_T) => Q r u ∧ gN u = gN τ0) (fun u t => PX dC dI ac A ad u t.heap) A) 0 0 A := by
  refine Met.ofW (cc := cJ3_checkIndex_8e157) (maxL := 3) (ret := (some .int)) (by decide) rfl ?_
  intro p e s m args below meth c s₁ B hml hv
  obtain ⟨rfl, hP, hK, hA, hZ⟩ := hv
  have hx := B.exec
  have hb := B.bytes
  have hr := B.returns
  have hts := atoms_spec (ws := wsJ3_checkIndex_8e157) B.pre
  have hown : s.vm.findClass RJ3 = some m.cls := findClass_of_methodNamed B.named
  have hS : va_S A s.heap s.heap [] := va_S.rf
  have hN : gN τ0 = gN τ0 := rfl
  cases g2 with
  | none =>
    have hl := lv_entry ([.int x0, .int x1, va_rf none]) (n := 3) (Nat.le_of_ble_eq_true rfl)
    rw [lg_entry_eq]
    generalize (lg_sl ([.int x0, .int x1, va_rf none]) ++ List.replicate (3 - (lg_sl ([.int x0, .int x1, va_rf none])).length) Slot.unset).toArray = ls at hl ⊢
    have hl : lv_has ls 3 [(0, .int x0), (1, .int x1), (2, .null)] := hl
    unfold F_J3_checkIndex_8e157 at hF
    refine lv_iload_n hx hb dJ3_checkIndex_8e157_0 rfl (lv_at hl 0 rfl) ?_
    refine lv_if_lt (tgt := 9) hx hb dJ3_checkIndex_8e157_1 (by decide) (fun c1 => ?_) (fun c1 => ?_)
    · have hF := hF.1 c1
      exact hF.elim
    · have hF := hF.2 c1
      refine lv_iload_n hx hb dJ3_checkIndex_8e157_4 rfl (lv_at hl 0 rfl) ?_
      refine lv_iload_n hx hb dJ3_checkIndex_8e157_5 rfl (lv_at hl 1 rfl) ?_
      refine lv_icmp_lt (tgt := 16) hx hb dJ3_checkIndex_8e157_6 (by decide) (fun c2 => ?_) (fun c2 => ?_)
      · have hF := hF.1 c2
        refine lv_iload_n hx hb dJ3_checkIndex_8e157_16 rfl (lv_at hl 0 rfl) ?_
        exact W.iret (v := x0) hx hb hr (fun t ht hW => ⟨⟨x0, τ0, rfl, ⟨hF, hN⟩, tw_at hP ht⟩, hS.F ht⟩) hS.2.2 dJ3_checkIndex_8e157_17
      · have hF := hF.2 c2
        exact hF.elim
  | some g2 =>
    have hl := lv_entry ([.int x0, .int x1, va_rf (some g2)]) (n := 3) (Nat.le_of_ble_eq_true rfl)
    rw [lg_entry_eq]
    generalize (lg_sl ([.int x0, .int x1, va_rf (some g2)]) ++ List.replicate (3 - (lg_sl ([.int x0, .int x1, va_rf (some g2)])).length) Slot.unset).toArray = ls at hl ⊢
    have hl : lv_has ls 3 [(0, .int x0), (1, .int x1), (2, .ref g2)] := hl
    unfold F_J3_checkIndex_8e157 at hF
    refine lv_iload_n hx hb dJ3_checkIndex_8e157_0 rfl (lv_at hl 0 rfl) ?_
    refine lv_if_lt (tgt := 9) hx hb dJ3_checkIndex_8e157_1 (by decide) (fun c3 => ?_) (fun c3 => ?_)
    · have hF := hF.1 c3
      exact hF.elim
    · have hF := hF.2 c3
      refine lv_iload_n hx hb dJ3_checkIndex_8e157_4 rfl (lv_at hl 0 rfl) ?_
      refine lv_iload_n hx hb dJ3_checkIndex_8e157_5 rfl (lv_at hl 1 rfl) ?_
      refine lv_icmp_lt (tgt := 16) hx hb dJ3_checkIndex_8e157_6 (by decide) (fun c4 => ?_) (fun c4 => ?_)
      · have hF := hF.1 c4
        refine lv_iload_n hx hb dJ3_checkIndex_8e157_16 rfl (lv_at hl 0 rfl) ?_
        exact W.iret (v := x0) hx hb hr (fun t ht hW => ⟨⟨x0, τ0, rfl, ⟨hF, hN⟩, tw_at hP ht⟩, hS.F ht⟩) hS.2.2 dJ3_checkIndex_8e157_17
      · have hF := hF.2 c4
        exact hF.elim
def F_J0_checkIndex_df160 (τ0 : tw_T) (x0 : Int32) (x1 : Int32) (Q : tw_T → Prop) : Prop := ∀ g9 : Option Nat, F_J3_checkIndex_8e157 τ0 x0 x1 g9 (fun (r2 : Int32) (τ1 : tw_T) => (Q τ1))
def rmJ0_checkIndex_df160 : Room := { frames := 1, cells := 0, slots := 0, locals := 22 }
set_option maxHeartbeats 4000000 in
set_option maxRecDepth 100000 in
theorem mJ0_checkIndex_df160 (l : Launch) (dC : Nat → ClassId) (dI : Nat → Nat → Nat) (ac : Nat → ClassId) (sa : Nat → Nat) (A : Nat → Prop) (ad : Nat → Nat → Nat) (τ0 : tw_T) (x0 : Int32) (x1 : Int32) (Q : tw_T → Prop) (hF : F_J0_checkIndex_df160 τ0 x0 x1 Q)  : Met l yJ0_checkIndex_df160 wsJ0_checkIndex_df160 rmJ0_checkIndex_df160 (va_Pc [.int x0, .int x1] (BX dC dI ac sa A ad τ0)) (va_Qv (fun (u : tw_T) => Q u ∧ gN u = gN τ0) (fun u t => PX dC dI ac A ad u t.heap) A) 0 0 A := by
  refine Met.ofW (cc := cJ0_checkIndex_df160) (maxL := 2) (ret := none) (by decide) rfl ?_
  intro p e s m args below meth c s₁ B hml hv
  obtain ⟨rfl, hP, hK, hA, hZ⟩ := hv
  have hx := B.exec
  have hb := B.bytes
  have hr := B.returns
  have hts := atoms_spec (ws := wsJ0_checkIndex_df160) B.pre
  have hown : s.vm.findClass RJ0 = some m.cls := findClass_of_methodNamed B.named
  have hlocks := B.notSynchronized
  have hS : va_S A s.heap s.heap [] := va_S.rf
  have hN : gN τ0 = gN τ0 := rfl
  have hl := lv_entry ([.int x0, .int x1]) (n := 2) (Nat.le_of_ble_eq_true rfl)
  rw [lg_entry_eq]
  generalize (lg_sl ([.int x0, .int x1]) ++ List.replicate (2 - (lg_sl ([.int x0, .int x1])).length) Slot.unset).toArray = ls at hl ⊢
  have hl : lv_has ls 2 [(0, .int x0), (1, .int x1)] := hl
  unfold F_J0_checkIndex_df160 at hF
  refine lv_iload_n hx hb dJ0_checkIndex_df160_0 rfl (lv_at hl 0 rfl) ?_
  refine lv_iload_n hx hb dJ0_checkIndex_df160_1 rfl (lv_at hl 1 rfl) ?_
  obtain ⟨g9, hg9⟩ : ∃ g9 : Option Nat, va_Z "jdk/internal/util/Preconditions" "SIOOBE_FORMATTER" "Ljava/util/function/BiFunction;" (va_rf g9) A s s.heap := hZ.1.2.2.2.2.2.2.2.2.elim (fun h => ⟨none, h⟩) (fun h => h.elim (fun t h => ⟨some t, h⟩))
  have hF := hF g9
  refine va_gets (v := va_rf g9) hx hb hg9 hS hown (hts (.fieldLink RJ0 1053 "jdk/internal/util/Preconditions" "SIOOBE_FORMATTER" "Ljava/util/function/BiFunction;") (by decide +kernel)) (fun _ h9 => h9) dJ0_checkIndex_df160_2 ?_
  refine va_calli (va_runS (As := [.int x0, .int x1, va_rf g9]) (rest := []) ⟨hx, hb, hml, hown, hts⟩ (mJ3_checkIndex_8e157 l dC dI ac sa A ad τ0 x0 x1 g9 _ hF ) (va_cwS 3 hts gJ0_checkIndex_df160_J3_checkIndex_8e157 rfl rfl rfl (by decide +kernel) ⟨Nat.le_of_ble_eq_true rfl, Nat.le_of_ble_eq_true rfl⟩) ⟨BX.blind, fun U hU hW => ⟨rfl, BX.of hP hK hS hA hZ hU hW⟩⟩ rfl rfl hl.1 rfl (lv_room (Nat.le_of_ble_eq_true rfl)) dJ0_checkIndex_df160_5 ⟨Nat.le_of_ble_eq_true rfl, Nat.le_of_ble_eq_true rfl⟩) hS (fun q _ h => h) (fun q h => h) (fun r2 τ1 t H locs ht hvm hw hB hz hk hS => ?_)
  obtain ⟨hF, hN9⟩ := hw
  have hP : PX dC dI ac A ad τ1 H := tw_back hB ht
  have hN : gN τ1 = gN τ0 := hN9.trans hN
  refine lv_pop hx hb dJ0_checkIndex_df160_8 rfl ?_
  exact W.vret hx hb hr (fun t ht hW => ⟨⟨τ1, rfl, ⟨hF, hN⟩, tw_at hP ht⟩, hS.F ht⟩) hS.2.2 dJ0_checkIndex_df160_9
def F_J1_charAt_3b067 (τ0 : tw_T) (q0 : Nat) (x1 : Int32) (Q : Int32 → tw_T → Prop) : Prop := F_J0_checkIndex_df160 τ0 x1 (Int32.ofNat (zx_len.getD q0 0)) (fun (τ1 : tw_T) => (vp_in x1 (zx_len.getD q0 0) ∧ (narrow .char (.int (((((zx_byt.getD q0 []).getD x1.toNatClampNeg 0) &&& ((255 : Int32))).toUInt32 % 65536).toInt32)) = .int (((((zx_byt.getD q0 []).getD x1.toNatClampNeg 0) &&& ((255 : Int32))).toUInt32 % 65536).toInt32) ∧ (Q (((((zx_byt.getD q0 []).getD x1.toNatClampNeg 0) &&& ((255 : Int32))).toUInt32 % 65536).toInt32) τ1))))
def rmJ1_charAt_3b067 : Room := { frames := 2, cells := 0, slots := 0, locals := 43 }
set_option maxHeartbeats 4000000 in
set_option maxRecDepth 100000 in
theorem mJ1_charAt_3b067 (l : Launch) (dC : Nat → ClassId) (dI : Nat → Nat → Nat) (ac : Nat → ClassId) (sa : Nat → Nat) (A : Nat → Prop) (ad : Nat → Nat → Nat) (τ0 : tw_T) (q0 : Nat) (x1 : Int32) (Q : Int32 → tw_T → Prop) (hF : F_J1_charAt_3b067 τ0 q0 x1 Q) (hq0 : q0 < 8) : Met l yJ1_charAt_3b067 wsJ1_charAt_3b067 rmJ1_charAt_3b067 (va_Pc [.ref (sa (16 + q0)), .int x1] (BX dC dI ac sa A ad τ0)) (va_Qi (fun r (u : tw_T) => Q r u ∧ gN u = gN τ0) (fun u t => PX dC dI ac A ad u t.heap) A) 0 0 A := by
  refine Met.ofW (cc := cJ1_charAt_3b067) (maxL := 2) (ret := (some .char)) (by decide) rfl ?_
  intro p e s m args below meth c s₁ B hml hv
  obtain ⟨rfl, hP, hK, hA, hZ⟩ := hv
  have hx := B.exec
  have hb := B.bytes
  have hr := B.returns
  have hts := atoms_spec (ws := wsJ1_charAt_3b067) B.pre
  have hown : s.vm.findClass RJ1 = some m.cls := findClass_of_methodNamed B.named
  have hlocks := B.notSynchronized
  have hS : va_S A s.heap s.heap [] := va_S.rf
  have hN : gN τ0 = gN τ0 := rfl
  have hl := lv_entry ([.ref (sa (16 + q0)), .int x1]) (n := 2) (Nat.le_of_ble_eq_true rfl)
  rw [lg_entry_eq]
  generalize (lg_sl ([.ref (sa (16 + q0)), .int x1]) ++ List.replicate (2 - (lg_sl ([.ref (sa (16 + q0)), .int x1])).length) Slot.unset).toArray = ls at hl ⊢
  have hl : lv_has ls 2 [(0, .ref (sa (16 + q0))), (1, .int x1)] := hl
  unfold F_J1_charAt_3b067 at hF
  refine lv_iload_n hx hb dJ1_charAt_3b067_0 rfl (lv_at hl 1 rfl) ?_
  refine lv_aload_n hx hb dJ1_charAt_3b067_1 rfl (lv_at hl 0 rfl) ?_
  refine va_tlen (v := Int32.ofNat (zx_len.getD q0 0)) hx hb (hZ.1.2.2.1.1 q0 hq0).2.2.2 hS rfl dJ1_charAt_3b067_2 ?_
  refine va_callv (va_runS (As := [.int x1, .int (Int32.ofNat (zx_len.getD q0 0))]) (rest := []) ⟨hx, hb, hml, hown, hts⟩ (mJ0_checkIndex_df160 l dC dI ac sa A ad τ0 x1 (Int32.ofNat (zx_len.getD q0 0)) _ hF ) (va_cwS 2 hts gJ1_charAt_3b067_J0_checkIndex_df160 rfl rfl rfl (by decide +kernel) ⟨Nat.le_of_ble_eq_true rfl, Nat.le_of_ble_eq_true rfl⟩) ⟨BX.blind, fun U hU hW => ⟨rfl, BX.of hP hK hS hA hZ hU hW⟩⟩ rfl rfl hl.1 rfl (lv_room (Nat.le_of_ble_eq_true rfl)) dJ1_charAt_3b067_3 ⟨Nat.le_of_ble_eq_true rfl, Nat.le_of_ble_eq_true rfl⟩) hS (fun q _ h => h) (fun q h => h) (fun τ1 t H locs ht hvm hw hB hz hk hS => ?_)
  obtain ⟨hF, hN9⟩ := hw
  have hP : PX dC dI ac A ad τ1 H := tw_back hB ht
  have hN : gN τ1 = gN τ0 := hN9.trans hN
  refine lv_aload_n hx hb dJ1_charAt_3b067_6 rfl (lv_at hl 0 rfl) ?_
  refine lv_iload_n hx hb dJ1_charAt_3b067_7 rfl (lv_at hl 1 rfl) ?_
  obtain ⟨hi2, hF⟩ := hF
  refine va_tb (v := .int ((zx_byt.getD q0 []).getD x1.toNatClampNeg 0)) hx hb (hZ.1.2.2.1.1 q0 hq0).2.2.2 hS hi2 rfl dJ1_charAt_3b067_8 ?_
  refine lv_sipush (v := 255) hx hb dJ1_charAt_3b067_9 (by decide) ?_
  refine lv_iand hx hb dJ1_charAt_3b067_12 ?_
  refine lv_i2c (v := ((((zx_byt.getD q0 []).getD x1.toNatClampNeg 0) &&& ((255 : Int32))).toUInt32 % 65536).toInt32) hx hb dJ1_charAt_3b067_13 rfl ?_
  obtain ⟨hb9, hF⟩ := hF
  exact W.zret (v := ((((zx_byt.getD q0 []).getD x1.toNatClampNeg 0) &&& ((255 : Int32))).toUInt32 % 65536).toInt32) (ty := .char) hx hb hr hb9 (fun t ht hW => ⟨⟨(((((zx_byt.getD q0 []).getD x1.toNatClampNeg 0) &&& ((255 : Int32))).toUInt32 % 65536).toInt32), τ1, rfl, ⟨hF, hN⟩, tw_at hP ht⟩, hS.F ht⟩) hS.2.2 dJ1_charAt_3b067_14
def F_J0_charAt_5068e (τ0 : tw_T) (q0 : Nat) (x1 : Int32) (Q : Int32 → tw_T → Prop) : Prop := F_J0_isLatin1_aae02 τ0 q0 (fun (r2 : Int32) (τ1 : tw_T) => (((r2 = 0 → (False)) ∧ (¬ r2 = 0 → (F_J1_charAt_3b067 τ1 q0 x1 (fun (r5 : Int32) (τ4 : tw_T) => (narrow .char (.int r5) = .int r5 ∧ (Q r5 τ4))))))))
def rmJ0_charAt_5068e : Room := { frames := 3, cells := 0, slots := 0, locals := 64 }
set_option maxHeartbeats 4000000 in
set_option maxRecDepth 100000 in
theorem mJ0_charAt_5068e (l : Launch) (dC : Nat → ClassId) (dI : Nat → Nat → Nat) (ac : Nat → ClassId) (sa : Nat → Nat) (A : Nat → Prop) (ad : Nat → Nat → Nat) (τ0 : tw_T) (q0 : Nat) (x1 : Int32) (Q : Int32 → tw_T → Prop) (hF : F_J0_charAt_5068e τ0 q0 x1 Q) (hq0 : q0 < 8) : Met l yJ0_charAt_5068e wsJ0_charAt_5068e rmJ0_charAt_5068e (va_Pc [.ref (sa (8 + q0)), .int x1] (BX dC dI ac sa A ad τ0)) (va_Qi (fun r (u : tw_T) => Q r u ∧ gN u = gN τ0) (fun u t => PX dC dI ac A ad u t.heap) A) 0 0 A := by
  refine Met.ofW (cc := cJ0_charAt_5068e) (maxL := 2) (ret := (some .char)) (by decide) rfl ?_
  intro p e s m args below meth c s₁ B hml hv
  obtain ⟨rfl, hP, hK, hA, hZ⟩ := hv
  have hx := B.exec
  have hb := B.bytes
  have hr := B.returns
  have hts := atoms_spec (ws := wsJ0_charAt_5068e) B.pre
  have hown : s.vm.findClass RJ0 = some m.cls := findClass_of_methodNamed B.named
  have hlocks := B.notSynchronized
  have hS : va_S A s.heap s.heap [] := va_S.rf
  have hN : gN τ0 = gN τ0 := rfl
  have hl := lv_entry ([.ref (sa (8 + q0)), .int x1]) (n := 2) (Nat.le_of_ble_eq_true rfl)
  rw [lg_entry_eq]
  generalize (lg_sl ([.ref (sa (8 + q0)), .int x1]) ++ List.replicate (2 - (lg_sl ([.ref (sa (8 + q0)), .int x1])).length) Slot.unset).toArray = ls at hl ⊢
  have hl : lv_has ls 2 [(0, .ref (sa (8 + q0))), (1, .int x1)] := hl
  unfold F_J0_charAt_5068e at hF
  refine lv_aload_n hx hb dJ0_charAt_5068e_0 rfl (lv_at hl 0 rfl) ?_
  refine va_calli (va_runV (As := []) (rest := []) ⟨hx, hb, hml, hown, hts⟩ (mJ0_isLatin1_aae02 l dC dI ac sa A ad τ0 q0 _ hF hq0) (cwV 0 hts gJ0_charAt_5068e_J0_isLatin1_aae02 rfl rfl rfl (by decide +kernel) ⟨Nat.le_of_ble_eq_true rfl, Nat.le_of_ble_eq_true rfl⟩) ⟨BX.blind, vk_recv hZ.1.2.2.1 hq0 hS, fun U hU hW => ⟨rfl, BX.of hP hK hS hA hZ hU hW⟩⟩ rfl rfl hl.1 rfl (lv_room (Nat.le_of_ble_eq_true rfl)) dJ0_charAt_5068e_1 ⟨Nat.le_of_ble_eq_true rfl, Nat.le_of_ble_eq_true rfl⟩) hS (fun q _ h => h) (fun q h => h) (fun r2 τ1 t H locs ht hvm hw hB hz hk hS => ?_)
  obtain ⟨hF, hN9⟩ := hw
  have hP : PX dC dI ac A ad τ1 H := tw_back hB ht
  have hN : gN τ1 = gN τ0 := hN9.trans hN
  refine lv_if_eq (tgt := 16) hx hb dJ0_charAt_5068e_4 (by decide) (fun c3 => ?_) (fun c3 => ?_)
  · have hF := hF.1 c3
    exact hF.elim
  · have hF := hF.2 c3
    refine lv_aload_n hx hb dJ0_charAt_5068e_7 rfl (lv_at hl 0 rfl) ?_
    refine vk_getf hx hb (hZ.1.2.2.1.1 q0 hq0).2.2.1 hS hown (hts (.fieldLink RJ0 9 "java/lang/String" "value" "[B") (by decide +kernel)) (fun _ h9 => h9) dJ0_charAt_5068e_8 ?_
    refine lv_iload_n hx hb dJ0_charAt_5068e_11 rfl (lv_at hl 1 rfl) ?_
    refine va_calli (va_runS (As := [.ref (sa (16 + q0)), .int x1]) (rest := []) ⟨hx, hb, hml, hown, hts⟩ (mJ1_charAt_3b067 l dC dI ac sa A ad τ1 q0 x1 _ hF hq0) (va_cwS 2 hts gJ0_charAt_5068e_J1_charAt_3b067 rfl rfl rfl (by decide +kernel) ⟨Nat.le_of_ble_eq_true rfl, Nat.le_of_ble_eq_true rfl⟩) ⟨BX.blind, fun U hU hW => ⟨rfl, BX.of hP hK hS hA hZ hU hW⟩⟩ rfl rfl hl.1 rfl (lv_room (Nat.le_of_ble_eq_true rfl)) dJ0_charAt_5068e_12 ⟨Nat.le_of_ble_eq_true rfl, Nat.le_of_ble_eq_true rfl⟩) hS (fun q _ h => h) (fun q h => h) (fun r5 τ4 t H locs ht hvm hw hB hz hk hS => ?_)
    obtain ⟨hF, hN9⟩ := hw
    have hP : PX dC dI ac A ad τ4 H := tw_back hB ht
    have hN : gN τ4 = gN τ0 := hN9.trans hN
    obtain ⟨hb9, hF⟩ := hF
    exact W.zret (v := r5) (ty := .char) hx hb hr hb9 (fun t ht hW => ⟨⟨r5, τ4, rfl, ⟨hF, hN⟩, tw_at hP ht⟩, hS.F ht⟩) hS.2.2 dJ0_charAt_5068e_15
def L_X7_isWord_17 (p0 : Nat) (q1_ : Nat) (Q : Int32 → tw_T → Prop) (EX : tw_T → Int32 → Prop) : Nat → tw_T → Int32 → Prop
  | 0, _, _ => False
  | n + 1, τ, u3 => F_J0_length_8abf5 τ q1_ (fun (r2 : Int32) (τ1 : tw_T) => (((r2 ≤ u3 → (EX τ1 u3)) ∧ (¬ r2 ≤ u3 → (∃ o4 : Nat, gR τ1 6 p0 0 = some o4 ∧ (vp_in ((gI τ1 6 p0 2) + u3) 200 ∧ (F_J0_charAt_5068e τ1 q1_ u3 (fun (r7 : Int32) (τ6 : tw_T) => ((((gI τ1 14 o4 ((gI τ1 6 p0 2) + u3).toNatClampNeg) = r7 → (∀ z9 : Int32, z9 = u3 + (1 : Int32) → (L_X7_isWord_17 p0 q1_ Q EX n τ6 z9))) ∧ (¬ (gI τ1 14 o4 ((gI τ1 6 p0 2) + u3).toNatClampNeg) = r7 → (Q ((0 : Int32)) τ6))))))))))))
def F_X7_isWord (τ0 : tw_T) (k0 : Nat) (q1 : Nat) (x2 : Int32) (Q : Int32 → tw_T → Prop) : Prop := F_J0_length_8abf5 τ0 q1 (fun (r11 : Int32) (τ10 : tw_T) => (((r11 = (x2 - (gI τ10 6 k0 2)) → (∃ n13 : Nat, L_X7_isWord_17 k0 q1 Q (fun (τ14 : tw_T) (z15 : Int32) => Q ((1 : Int32)) τ14) n13 τ10 ((0 : Int32)))) ∧ (¬ r11 = (x2 - (gI τ10 6 k0 2)) → (Q ((0 : Int32)) τ10)))))
def rmX7_isWord : Room := { frames := 4, cells := 0, slots := 0, locals := 85 }
set_option maxHeartbeats 4000000 in
set_option maxRecDepth 100000 in
theorem mX7_isWord (l : Launch) (dC : Nat → ClassId) (dI : Nat → Nat → Nat) (ac : Nat → ClassId) (sa : Nat → Nat) (A : Nat → Prop) (ad : Nat → Nat → Nat) (τ0 : tw_T) (k0 : Nat) (q1 : Nat) (x2 : Int32) (Q : Int32 → tw_T → Prop) (hF : F_X7_isWord τ0 k0 q1 x2 Q) (hk0 : k0 < gN τ0 6) (hq1 : q1 < 8) : Met l yX7_isWord wsX7_isWord rmX7_isWord (va_Pc [.ref (ad 6 k0), .ref (sa (8 + q1)), .int x2] (BX dC dI ac sa A ad τ0)) (va_Qi (fun r (u : tw_T) => Q r u ∧ gN u = gN τ0) (fun u t => PX dC dI ac A ad u t.heap) A) 0 0 A := by
  refine Met.ofW (cc := cX7_isWord) (maxL := 4) (ret := (some .boolean)) (by decide) rfl ?_
  intro p e s m args below meth c s₁ B hml hv
  obtain ⟨rfl, hP, hK, hA, hZ⟩ := hv
  have hx := B.exec
  have hb := B.bytes
  have hr := B.returns
  have hts := atoms_spec (ws := wsX7_isWord) B.pre
  have hown : s.vm.findClass RX7 = some m.cls := findClass_of_methodNamed B.named
  have hlocks := B.notSynchronized
  have hS : va_S A s.heap s.heap [] := va_S.rf
  have hN : gN τ0 = gN τ0 := rfl
  have hl := lv_entry ([.ref (ad 6 k0), .ref (sa (8 + q1)), .int x2]) (n := 4) (Nat.le_of_ble_eq_true rfl)
  rw [lg_entry_eq]
  generalize (lg_sl ([.ref (ad 6 k0), .ref (sa (8 + q1)), .int x2]) ++ List.replicate (4 - (lg_sl ([.ref (ad 6 k0), .ref (sa (8 + q1)), .int x2])).length) Slot.unset).toArray = ls at hl ⊢
  have hl : lv_has ls 4 [(0, .ref (ad 6 k0)), (1, .ref (sa (8 + q1))), (2, .int x2)] := hl
  unfold F_X7_isWord at hF
  have l17 : ∀ (p0 : Nat) (hp0 : p0 < gN τ0 6) (q1_ : Nat) (hq1_ : q1_ < 8) (EX : tw_T → Int32 → Prop) (n : Nat) (τ : tw_T) (u3 : Int32) (H : Heap) (locs : List Loc) (ls : Array Slot), L_X7_isWord_17 p0 q1_ Q EX n τ u3 → PX dC dI ac A ad τ H → gN τ = gN τ0 → va_S A s.heap H locs → lv_has ls 4 [(0, .ref (ad 6 p0)), (1, .ref (sa (8 + q1_))), (3, .int u3)] → (∀ (τ : tw_T) (u3 : Int32) (H : Heap) (locs : List Loc) (ls : Array Slot), EX τ u3 → PX dC dI ac A ad τ H → gN τ = gN τ0 → va_S A s.heap H locs → lv_has ls 4 [(0, .ref (ad 6 p0)), (1, .ref (sa (8 + q1_))), (3, .int u3)] → W p l e rmX7_isWord s m ([.ref (ad 6 k0), .ref (sa (8 + q1)), .int x2] : List Value).toArray below meth c H locs 0 0 (MQ below (va_Qi (fun r (u : tw_T) => Q r u ∧ gN u = gN τ0) (fun u t => PX dC dI ac A ad u t.heap) A) ([.ref (ad 6 k0), .ref (sa (8 + q1)), .int x2] : List Value).toArray s 0 0 A) (F0 m 52 ls [])) → W p l e rmX7_isWord s m ([.ref (ad 6 k0), .ref (sa (8 + q1)), .int x2] : List Value).toArray below meth c H locs 0 0 (MQ below (va_Qi (fun r (u : tw_T) => Q r u ∧ gN u = gN τ0) (fun u t => PX dC dI ac A ad u t.heap) A) ([.ref (ad 6 k0), .ref (sa (8 + q1)), .int x2] : List Value).toArray s 0 0 A) (F0 m 17 ls []) := by
    intro p0 hp0 q1_ hq1_ EX n
    induction n with
    | zero => intro τ u3 H locs ls hF; exact hF.elim
    | succ n ih =>
      intro τ u3 H locs ls hF hP hN hS hl hEX
      rw [L_X7_isWord_17] at hF
      refine lv_iload_n hx hb dX7_isWord_17 rfl (lv_at hl 2 rfl) ?_
      refine lv_aload_n hx hb dX7_isWord_18 rfl (lv_at hl 1 rfl) ?_
      refine va_calli (va_runV (As := []) (rest := [.int u3]) ⟨hx, hb, hml, hown, hts⟩ (mJ0_length_8abf5 l dC dI ac sa A ad τ q1_ _ hF hq1_) (cwV 0 hts gX7_isWord_J0_length_8abf5 rfl rfl rfl (by decide +kernel) ⟨Nat.le_of_ble_eq_true rfl, Nat.le_of_ble_eq_true rfl⟩) ⟨BX.blind, vk_recv hZ.1.2.2.1 hq1_ hS, fun U hU hW => ⟨rfl, BX.of hP hK hS hA hZ hU hW⟩⟩ rfl rfl hl.1 rfl (lv_room (Nat.le_of_ble_eq_true rfl)) dX7_isWord_19 ⟨Nat.le_of_ble_eq_true rfl, Nat.le_of_ble_eq_true rfl⟩) hS (fun q _ h => h) (fun q h => h) (fun r2 τ1 t H locs ht hvm hw hB hz hk hS => ?_)
      obtain ⟨hF, hN9⟩ := hw
      have hP : PX dC dI ac A ad τ1 H := tw_back hB ht
      have hN : gN τ1 = gN τ0 := hN9.trans hN
      refine lv_icmp_ge (tgt := 52) hx hb dX7_isWord_22 (by decide) (fun c3 => ?_) (fun c3 => ?_)
      · have hF := hF.1 c3
        exact hEX τ1 u3 _ _ _ hF hP hN hS (lv_sub hl [0, 1, 2] rfl)
      · have hF := hF.2 c3
        refine lv_aload_n hx hb dX7_isWord_25 rfl (lv_at hl 0 rfl) ?_
        obtain ⟨o4, eo4, hF⟩ := hF
        have ho4 : o4 < gN τ0 14 := tw_lt (hP.2.2.2 6 p0 0 o4 (by decide) (tw_lt hp0 (congrFun hN 6)) eo4) (congrFun hN 14).symm
        refine tw_get (v := .ref (ad 14 o4)) hx hb hts (by decide +kernel) hown hK hP (by decide) (tw_lt hp0 (congrFun hN 6)) rfl rfl 0 (by decide) (hts (.fieldLink RX7 11 "WineCellar$Tape" "bytes" "[I") (by decide +kernel)) (fun _ h9 => h9) (show some (va_rf ((gR τ1 6 p0 0).map (ad 14))) = some (.ref (ad 14 o4)) by rw [eo4]; rfl) dX7_isWord_26 ?_
        refine lv_aload_n hx hb dX7_isWord_29 rfl (lv_at hl 0 rfl) ?_
        refine tw_get (v := .int (gI τ1 6 p0 2)) hx hb hts (by decide +kernel) hown hK hP (by decide) (tw_lt hp0 (congrFun hN 6)) rfl rfl 2 (by decide) (hts (.fieldLink RX7 19 "WineCellar$Tape" "at" "I") (by decide +kernel)) (fun _ h9 => h9) rfl dX7_isWord_30 ?_
        refine lv_iload_n hx hb dX7_isWord_33 rfl (lv_at hl 2 rfl) ?_
        refine lv_iadd hx hb dX7_isWord_34 ?_
        obtain ⟨hi5, hF⟩ := hF
        refine tw_iald hx hb hK hP (by decide) (tw_lt ho4 (congrFun hN 14)) rfl 0 rfl hi5 dX7_isWord_35 ?_
        refine lv_aload_n hx hb dX7_isWord_36 rfl (lv_at hl 1 rfl) ?_
        refine lv_iload_n hx hb dX7_isWord_37 rfl (lv_at hl 2 rfl) ?_
        refine va_calli (va_runV (As := [.int u3]) (rest := [.int (gI τ1 14 o4 ((gI τ1 6 p0 2) + u3).toNatClampNeg)]) ⟨hx, hb, hml, hown, hts⟩ (mJ0_charAt_5068e l dC dI ac sa A ad τ1 q1_ u3 _ hF hq1_) (cwV 1 hts gX7_isWord_J0_charAt_5068e rfl rfl rfl (by decide +kernel) ⟨Nat.le_of_ble_eq_true rfl, Nat.le_of_ble_eq_true rfl⟩) ⟨BX.blind, vk_recv hZ.1.2.2.1 hq1_ hS, fun U hU hW => ⟨rfl, BX.of hP hK hS hA hZ hU hW⟩⟩ rfl rfl hl.1 rfl (lv_room (Nat.le_of_ble_eq_true rfl)) dX7_isWord_38 ⟨Nat.le_of_ble_eq_true rfl, Nat.le_of_ble_eq_true rfl⟩) hS (fun q _ h => h) (fun q h => h) (fun r7 τ6 t H locs ht hvm hw hB hz hk hS => ?_)
        obtain ⟨hF, hN9⟩ := hw
        have hP : PX dC dI ac A ad τ6 H := tw_back hB ht
        have hN : gN τ6 = gN τ0 := hN9.trans hN
        refine lv_icmp_eq (tgt := 46) hx hb dX7_isWord_41 (by decide) (fun c8 => ?_) (fun c8 => ?_)
        · have hF := hF.1 c8
          obtain ⟨z9, ez9⟩ : ∃ y : Int32, y = u3 + (1 : Int32) := ⟨_, rfl⟩
          have hF := hF z9 ez9
          refine lv_iinc (v := z9) (lv' := [(3, .int z9), (0, .ref (ad 6 p0)), (1, .ref (sa (8 + q1_)))]) hx hb dX7_isWord_46 hl (k := 2) rfl (by rw [ez9]; rfl) (by decide) rfl (fun ls hl => ?_)
          refine lv_goto (tgt := 17) hx hb dX7_isWord_49 (by decide) ?_
          exact ih τ6 z9 _ _ _ hF hP hN hS (lv_sub hl [1, 2, 0] rfl) hEX
        · have hF := hF.2 c8
          refine lv_iconst (v := 0) hx hb dX7_isWord_44 (by decide) ?_
          exact W.zret (v := (0 : Int32)) (ty := .boolean) hx hb hr rfl (fun t ht hW => ⟨⟨((0 : Int32)), τ6, rfl, ⟨hF, hN⟩, tw_at hP ht⟩, hS.F ht⟩) hS.2.2 dX7_isWord_45
  refine lv_aload_n hx hb dX7_isWord_0 rfl (lv_at hl 1 rfl) ?_
  refine va_calli (va_runV (As := []) (rest := []) ⟨hx, hb, hml, hown, hts⟩ (mJ0_length_8abf5 l dC dI ac sa A ad τ0 q1 _ hF hq1) (cwV 0 hts gX7_isWord_J0_length_8abf5 rfl rfl rfl (by decide +kernel) ⟨Nat.le_of_ble_eq_true rfl, Nat.le_of_ble_eq_true rfl⟩) ⟨BX.blind, vk_recv hZ.1.2.2.1 hq1 hS, fun U hU hW => ⟨rfl, BX.of hP hK hS hA hZ hU hW⟩⟩ rfl rfl hl.1 rfl (lv_room (Nat.le_of_ble_eq_true rfl)) dX7_isWord_1 ⟨Nat.le_of_ble_eq_true rfl, Nat.le_of_ble_eq_true rfl⟩) hS (fun q _ h => h) (fun q h => h) (fun r11 τ10 t H locs ht hvm hw hB hz hk hS => ?_)
  obtain ⟨hF, hN9⟩ := hw
  have hP : PX dC dI ac A ad τ10 H := tw_back hB ht
  have hN : gN τ10 = gN τ0 := hN9.trans hN
  refine lv_iload_n hx hb dX7_isWord_4 rfl (lv_at hl 2 rfl) ?_
  refine lv_aload_n hx hb dX7_isWord_5 rfl (lv_at hl 0 rfl) ?_
  refine tw_get (v := .int (gI τ10 6 k0 2)) hx hb hts (by decide +kernel) hown hK hP (by decide) (tw_lt hk0 (congrFun hN 6)) rfl rfl 2 (by decide) (hts (.fieldLink RX7 19 "WineCellar$Tape" "at" "I") (by decide +kernel)) (fun _ h9 => h9) rfl dX7_isWord_6 ?_
  refine lv_isub hx hb dX7_isWord_9 ?_
  refine lv_icmp_eq (tgt := 15) hx hb dX7_isWord_10 (by decide) (fun c12 => ?_) (fun c12 => ?_)
  · have hF := hF.1 c12
    refine lv_iconst (v := 0) hx hb dX7_isWord_15 (by decide) ?_
    refine lv_istore_n (lv' := [(3, .int ((0 : Int32))), (0, .ref (ad 6 k0)), (1, .ref (sa (8 + q1))), (2, .int x2)]) hx hb dX7_isWord_16 rfl hl (by decide) rfl (fun ls hl => ?_)
    obtain ⟨n13, hF⟩ := hF
    refine l17 k0 hk0 q1 hq1 _ n13 τ10 ((0 : Int32)) _ _ _ hF hP hN hS (lv_sub hl [1, 2, 0] rfl) ?_
    intro τ14 z15 H locs ls hF hP hN hS hl
    refine lv_iconst (v := 1) hx hb dX7_isWord_52 (by decide) ?_
    exact W.zret (v := (1 : Int32)) (ty := .boolean) hx hb hr rfl (fun t ht hW => ⟨⟨((1 : Int32)), τ14, rfl, ⟨hF, hN⟩, tw_at hP ht⟩, hS.F ht⟩) hS.2.2 dX7_isWord_53
  · have hF := hF.2 c12
    refine lv_iconst (v := 0) hx hb dX7_isWord_13 (by decide) ?_
    exact W.zret (v := (0 : Int32)) (ty := .boolean) hx hb hr rfl (fun t ht hW => ⟨⟨((0 : Int32)), τ10, rfl, ⟨hF, hN⟩, tw_at hP ht⟩, hS.F ht⟩) hS.2.2 dX7_isWord_14
def L_X7_readTest_48 (p0 : Nat) (u1 : Int32) (Q : Option Nat → tw_T → Prop) (EX : tw_T → Int32 → Prop) : Nat → tw_T → Int32 → Prop
  | 0, _, _ => False
  | n + 1, τ, u2 => ((((8 : Int32)) ≤ u2 → (EX τ u2)) ∧ (¬ ((8 : Int32)) ≤ u2 → (vp_in u2 8 ∧ (F_X7_isWord τ p0 u2.toNatClampNeg u1 (fun (r4 : Int32) (τ3 : tw_T) => (((r4 = 0 → (∀ z6 : Int32, z6 = u2 + (1 : Int32) → (L_X7_readTest_48 p0 u1 Q EX n τ3 z6))) ∧ (¬ r4 = 0 → (∀ τ7 : tw_T, τ7 = sI τ3 6 p0 2 u1 → (vp_in u2 8 ∧ (Q (some u2.toNatClampNeg) τ7)))))))))))
def J_X7_readTest_46 (τ : tw_T) (p0 : Nat) (u1 : Int32) (Q : Option Nat → tw_T → Prop) : Prop := ∃ n9 : Nat, L_X7_readTest_48 p0 u1 Q (fun (τ10 : tw_T) (z11 : Int32) => Q none τ10) n9 τ ((0 : Int32))
def L_X7_readTest_10 (p0 : Nat) (Q : Option Nat → tw_T → Prop) (EX : tw_T → Int32 → Prop) : Nat → tw_T → Int32 → Prop
  | 0, _, _ => False
  | n + 1, τ, u1 => (((gI τ 6 p0 3) ≤ u1 → (EX τ u1)) ∧ (¬ (gI τ 6 p0 3) ≤ u1 → (∃ o13 : Nat, gR τ 6 p0 0 = some o13 ∧ (vp_in u1 200 ∧ ((((gI τ 14 o13 u1.toNatClampNeg) < ((97 : Int32)) → (EX τ u1)) ∧ (¬ (gI τ 14 o13 u1.toNatClampNeg) < ((97 : Int32)) → (∃ o16 : Nat, gR τ 6 p0 0 = some o16 ∧ (vp_in u1 200 ∧ (((((122 : Int32)) < (gI τ 14 o16 u1.toNatClampNeg) → (EX τ u1)) ∧ (¬ ((122 : Int32)) < (gI τ 14 o16 u1.toNatClampNeg) → (∀ z19 : Int32, z19 = u1 + (1 : Int32) → (L_X7_readTest_10 p0 Q EX n τ z19))))))))))))))
def F_X7_readTest (τ0 : tw_T) (k0 : Nat) (Q : Option Nat → tw_T → Prop) : Prop := F_X7_signHere τ0 k0 (fun (r21 : Int32) (τ20 : tw_T) => (∀ z22 : Int32, z22 = gI τ20 6 k0 2 → (∃ n23 : Nat, L_X7_readTest_10 k0 Q (fun (τ24 : tw_T) (z25 : Int32) => J_X7_readTest_46 τ24 k0 z25 Q) n23 τ20 z22)))
def rmX7_readTest : Room := { frames := 5, cells := 0, slots := 0, locals := 108 }
set_option maxHeartbeats 4000000 in
set_option maxRecDepth 100000 in
theorem mX7_readTest (l : Launch) (dC : Nat → ClassId) (dI : Nat → Nat → Nat) (ac : Nat → ClassId) (sa : Nat → Nat) (A : Nat → Prop) (ad : Nat → Nat → Nat) (τ0 : tw_T) (k0 : Nat) (Q : Option Nat → tw_T → Prop) (hF : F_X7_readTest τ0 k0 Q) (hk0 : k0 < gN τ0 6) : Met l yX7_readTest wsX7_readTest rmX7_readTest (va_Pc [.ref (ad 6 k0)] (BX dC dI ac sa A ad τ0)) (va_Qe sa (fun (r : Option Nat) (u : tw_T) => Q r u ∧ (∀ k, r = some k → k < 8) ∧ gN u = gN τ0) (fun u t => PX dC dI ac A ad u t.heap) A) 0 0 A := by
  refine Met.ofW (cc := cX7_readTest) (maxL := 3) (ret := (some (.object "WineCellar$Test"))) (by decide) rfl ?_
  intro p e s m args below meth c s₁ B hml hv
  obtain ⟨rfl, hP, hK, hA, hZ⟩ := hv
  have hx := B.exec
  have hb := B.bytes
  have hr := B.returns
  have hts := atoms_spec (ws := wsX7_readTest) B.pre
  have hown : s.vm.findClass RX7 = some m.cls := findClass_of_methodNamed B.named
  have hlocks := B.notSynchronized
  have hS : va_S A s.heap s.heap [] := va_S.rf
  have hN : gN τ0 = gN τ0 := rfl
  have hl := lv_entry ([.ref (ad 6 k0)]) (n := 3) (Nat.le_of_ble_eq_true rfl)
  rw [lg_entry_eq]
  generalize (lg_sl ([.ref (ad 6 k0)]) ++ List.replicate (3 - (lg_sl ([.ref (ad 6 k0)])).length) Slot.unset).toArray = ls at hl ⊢
  have hl : lv_has ls 3 [(0, .ref (ad 6 k0))] := hl
  unfold F_X7_readTest at hF
  have l48 : ∀ (p0 : Nat) (hp0 : p0 < gN τ0 6) (u1 : Int32) (EX : tw_T → Int32 → Prop) (n : Nat) (τ : tw_T) (u2 : Int32) (H : Heap) (locs : List Loc) (ls : Array Slot), L_X7_readTest_48 p0 u1 Q EX n τ u2 → PX dC dI ac A ad τ H → gN τ = gN τ0 → va_S A s.heap H locs → lv_has ls 3 [(0, .ref (ad 6 p0)), (1, .int u1), (2, .int u2)] → (∀ (τ : tw_T) (u2 : Int32) (H : Heap) (locs : List Loc) (ls : Array Slot), EX τ u2 → PX dC dI ac A ad τ H → gN τ = gN τ0 → va_S A s.heap H locs → lv_has ls 3 [(0, .ref (ad 6 p0)), (1, .int u1), (2, .int u2)] → W p l e rmX7_readTest s m ([.ref (ad 6 k0)] : List Value).toArray below meth c H locs 0 0 (MQ below (va_Qe sa (fun (r : Option Nat) (u : tw_T) => Q r u ∧ (∀ k, r = some k → k < 8) ∧ gN u = gN τ0) (fun u t => PX dC dI ac A ad u t.heap) A) ([.ref (ad 6 k0)] : List Value).toArray s 0 0 A) (F0 m 89 ls [])) → W p l e rmX7_readTest s m ([.ref (ad 6 k0)] : List Value).toArray below meth c H locs 0 0 (MQ below (va_Qe sa (fun (r : Option Nat) (u : tw_T) => Q r u ∧ (∀ k, r = some k → k < 8) ∧ gN u = gN τ0) (fun u t => PX dC dI ac A ad u t.heap) A) ([.ref (ad 6 k0)] : List Value).toArray s 0 0 A) (F0 m 48 ls []) := by
    intro p0 hp0 u1 EX n
    induction n with
    | zero => intro τ u2 H locs ls hF; exact hF.elim
    | succ n ih =>
      intro τ u2 H locs ls hF hP hN hS hl hEX
      rw [L_X7_readTest_48] at hF
      refine lv_iload_n hx hb dX7_readTest_48 rfl (lv_at hl 2 rfl) ?_
      refine va_gets (C := RX7) (n := "TESTS") (d := "[LWineCellar$Test;") (v := .ref (sa 25)) hx hb hZ.1.2.2.2.2.2.1 hS hown (hts (.fieldLink RX7 69 "WineCellar$Tape" "TESTS" "[LWineCellar$Test;") (by decide +kernel)) (fun _ h9 => h9) dX7_readTest_49 ?_
      refine va_tlen (v := 8) hx hb hZ.1.2.2.2.2.2.2.1 hS rfl dX7_readTest_52 ?_
      refine lv_icmp_ge (tgt := 89) hx hb dX7_readTest_53 (by decide) (fun c1 => ?_) (fun c1 => ?_)
      · have hF := hF.1 c1
        exact hEX τ u2 _ _ _ hF hP hN hS (lv_sub hl [0, 1, 2] rfl)
      · have hF := hF.2 c1
        refine lv_aload_n hx hb dX7_readTest_56 rfl (lv_at hl 0 rfl) ?_
        refine va_gets (C := RX7) (n := "TESTS") (d := "[LWineCellar$Test;") (v := .ref (sa 25)) hx hb hZ.1.2.2.2.2.2.1 hS hown (hts (.fieldLink RX7 69 "WineCellar$Tape" "TESTS" "[LWineCellar$Test;") (by decide +kernel)) (fun _ h9 => h9) dX7_readTest_57 ?_
        refine lv_iload_n hx hb dX7_readTest_60 rfl (lv_at hl 2 rfl) ?_
        obtain ⟨hi2, hF⟩ := hF
        refine vb_tq (v := .ref (sa u2.toNatClampNeg)) hx hb hZ.1.2.2.2.2.2.2.1 hS hi2 rfl dX7_readTest_61 ?_
        refine va_getX hx hb hZ.1.2.1 (Nat.not_le.mp fun q => hi2 (Or.inr q)) hS hown (hts (.fieldLink RX7 73 "WineCellar$Test" "word" "Ljava/lang/String;") (by decide +kernel)) (fun _ h9 => h9) dX7_readTest_62 ?_
        refine W.eq (g2 := F0 m 65 ls [.ref (sa (8 + u2.toNatClampNeg)), .ref (ad 6 p0)]) rfl ?_
        refine lv_iload_n hx hb dX7_readTest_65 rfl (lv_at hl 1 rfl) ?_
        refine va_calli (va_runV (As := [.ref (sa (8 + u2.toNatClampNeg)), .int u1]) (rest := []) ⟨hx, hb, hml, hown, hts⟩ (mX7_isWord l dC dI ac sa A ad τ p0 u2.toNatClampNeg u1 _ hF (tw_lt hp0 (congrFun hN 6)) (Nat.not_le.mp fun q => hi2 (Or.inr q))) (cwV 2 hts gX7_readTest_X7_isWord rfl rfl rfl (by decide +kernel) ⟨Nat.le_of_ble_eq_true rfl, Nat.le_of_ble_eq_true rfl⟩) ⟨BX.blind, tw_recv hK hP (by decide) (tw_lt hp0 (congrFun hN 6)) rfl rfl, fun U hU hW => ⟨rfl, BX.of hP hK hS hA hZ hU hW⟩⟩ rfl rfl hl.1 rfl (lv_room (Nat.le_of_ble_eq_true rfl)) dX7_readTest_66 ⟨Nat.le_of_ble_eq_true rfl, Nat.le_of_ble_eq_true rfl⟩) hS (fun q _ h => h) (fun q h => h) (fun r4 τ3 t H locs ht hvm hw hB hz hk hS => ?_)
        obtain ⟨hF, hN9⟩ := hw
        have hP : PX dC dI ac A ad τ3 H := tw_back hB ht
        have hN : gN τ3 = gN τ0 := hN9.trans hN
        refine lv_if_eq (tgt := 83) hx hb dX7_readTest_69 (by decide) (fun c5 => ?_) (fun c5 => ?_)
        · have hF := hF.1 c5
          obtain ⟨z6, ez6⟩ : ∃ y : Int32, y = u2 + (1 : Int32) := ⟨_, rfl⟩
          have hF := hF z6 ez6
          refine lv_iinc (v := z6) (lv' := [(2, .int z6), (0, .ref (ad 6 p0)), (1, .int u1)]) hx hb dX7_readTest_83 hl (k := 2) rfl (by rw [ez6]; rfl) (by decide) rfl (fun ls hl => ?_)
          refine lv_goto (tgt := 48) hx hb dX7_readTest_86 (by decide) ?_
          exact ih τ3 z6 _ _ _ hF hP hN hS (lv_sub hl [1, 2, 0] rfl) hEX
        · have hF := hF.2 c5
          refine lv_aload_n hx hb dX7_readTest_72 rfl (lv_at hl 0 rfl) ?_
          refine lv_iload_n hx hb dX7_readTest_73 rfl (lv_at hl 1 rfl) ?_
          refine tw_put (τ' := sI τ3 6 p0 2 u1) (ty := .int) hx hb hts (by decide +kernel) tyX7 tyX7_ok nmX7 hown hK hP hS (by decide) (tw_lt hp0 (congrFun hN 6)) rfl rfl 2 (by decide) (hts (.fieldLink RX7 19 "WineCellar$Tape" "at" "I") (by decide +kernel)) (fun _ h9 => h9) rfl (by decide +kernel) rfl rfl (Nat.le_of_ble_eq_true rfl) dX7_readTest_74 (fun H1 ha ho => tw_updI hP (by decide) (tw_lt hp0 (congrFun hN 6)) ha ho) (fun H locs hP hS => ?_)
          obtain ⟨τ7, eτ7⟩ : ∃ y : tw_T, y = sI τ3 6 p0 2 u1 := ⟨_, rfl⟩
          have hF := hF τ7 eτ7
          rw [← eτ7] at hP
          have hN : gN τ7 = gN τ0 := by rw [eτ7]; exact hN
          refine va_gets (C := RX7) (n := "TESTS") (d := "[LWineCellar$Test;") (v := .ref (sa 25)) hx hb hZ.1.2.2.2.2.2.1 hS hown (hts (.fieldLink RX7 69 "WineCellar$Tape" "TESTS" "[LWineCellar$Test;") (by decide +kernel)) (fun _ h9 => h9) dX7_readTest_77 ?_
          refine lv_iload_n hx hb dX7_readTest_80 rfl (lv_at hl 2 rfl) ?_
          obtain ⟨hi8, hF⟩ := hF
          refine vb_tq (v := .ref (sa u2.toNatClampNeg)) hx hb hZ.1.2.2.2.2.2.2.1 hS hi8 rfl dX7_readTest_81 ?_
          exact W.aret (v := .ref (sa u2.toNatClampNeg)) hx hb hr (Or.inl ⟨_, rfl⟩) (Or.inr ⟨_, rfl⟩) (fun t ht hW => ⟨⟨some u2.toNatClampNeg, τ7, rfl, ⟨hF, (fun k9 e9 => by cases e9; exact (Nat.not_le.mp fun q => hi8 (Or.inr q))), hN⟩, tw_at hP ht⟩, hS.F ht⟩) hS.2.2 dX7_readTest_82
  have j46 : ∀ (τ : tw_T) (p0 : Nat) (hp0 : p0 < gN τ0 6) (u1 : Int32) (H : Heap) (locs : List Loc) (ls : Array Slot), J_X7_readTest_46 τ p0 u1 Q → PX dC dI ac A ad τ H → gN τ = gN τ0 → va_S A s.heap H locs → lv_has ls 3 [(0, .ref (ad 6 p0)), (1, .int u1)] → W p l e rmX7_readTest s m ([.ref (ad 6 k0)] : List Value).toArray below meth c H locs 0 0 (MQ below (va_Qe sa (fun (r : Option Nat) (u : tw_T) => Q r u ∧ (∀ k, r = some k → k < 8) ∧ gN u = gN τ0) (fun u t => PX dC dI ac A ad u t.heap) A) ([.ref (ad 6 k0)] : List Value).toArray s 0 0 A) (F0 m 46 ls []) := by
    intro τ p0 hp0 u1 H locs ls hF hP hN hS hl
    unfold J_X7_readTest_46 at hF
    refine lv_iconst (v := 0) hx hb dX7_readTest_46 (by decide) ?_
    refine lv_istore_n (lv' := [(2, .int ((0 : Int32))), (0, .ref (ad 6 p0)), (1, .int u1)]) hx hb dX7_readTest_47 rfl hl (by decide) rfl (fun ls hl => ?_)
    obtain ⟨n9, hF⟩ := hF
    refine l48 p0 hp0 u1 _ n9 τ ((0 : Int32)) _ _ _ hF hP hN hS (lv_sub hl [1, 2, 0] rfl) ?_
    intro τ10 z11 H locs ls hF hP hN hS hl
    refine lv_null hx hb dX7_readTest_89 ?_
    exact W.aret (v := .null) hx hb hr (Or.inl ⟨_, rfl⟩) (Or.inl rfl) (fun t ht hW => ⟨⟨none, τ10, rfl, ⟨hF, (fun _ e9 => by cases e9), hN⟩, tw_at hP ht⟩, hS.F ht⟩) hS.2.2 dX7_readTest_90
  have l10 : ∀ (p0 : Nat) (hp0 : p0 < gN τ0 6) (EX : tw_T → Int32 → Prop) (n : Nat) (τ : tw_T) (u1 : Int32) (H : Heap) (locs : List Loc) (ls : Array Slot), L_X7_readTest_10 p0 Q EX n τ u1 → PX dC dI ac A ad τ H → gN τ = gN τ0 → va_S A s.heap H locs → lv_has ls 3 [(0, .ref (ad 6 p0)), (1, .int u1)] → (∀ (τ : tw_T) (u1 : Int32) (H : Heap) (locs : List Loc) (ls : Array Slot), EX τ u1 → PX dC dI ac A ad τ H → gN τ = gN τ0 → va_S A s.heap H locs → lv_has ls 3 [(0, .ref (ad 6 p0)), (1, .int u1)] → W p l e rmX7_readTest s m ([.ref (ad 6 k0)] : List Value).toArray below meth c H locs 0 0 (MQ below (va_Qe sa (fun (r : Option Nat) (u : tw_T) => Q r u ∧ (∀ k, r = some k → k < 8) ∧ gN u = gN τ0) (fun u t => PX dC dI ac A ad u t.heap) A) ([.ref (ad 6 k0)] : List Value).toArray s 0 0 A) (F0 m 46 ls [])) → W p l e rmX7_readTest s m ([.ref (ad 6 k0)] : List Value).toArray below meth c H locs 0 0 (MQ below (va_Qe sa (fun (r : Option Nat) (u : tw_T) => Q r u ∧ (∀ k, r = some k → k < 8) ∧ gN u = gN τ0) (fun u t => PX dC dI ac A ad u t.heap) A) ([.ref (ad 6 k0)] : List Value).toArray s 0 0 A) (F0 m 10 ls []) := by
    intro p0 hp0 EX n
    induction n with
    | zero => intro τ u1 H locs ls hF; exact hF.elim
    | succ n ih =>
      intro τ u1 H locs ls hF hP hN hS hl hEX
      rw [L_X7_readTest_10] at hF
      refine lv_iload_n hx hb dX7_readTest_10 rfl (lv_at hl 1 rfl) ?_
      refine lv_aload_n hx hb dX7_readTest_11 rfl (lv_at hl 0 rfl) ?_
      refine tw_get (v := .int (gI τ 6 p0 3)) hx hb hts (by decide +kernel) hown hK hP (by decide) (tw_lt hp0 (congrFun hN 6)) rfl rfl 3 (by decide) (hts (.fieldLink RX7 22 "WineCellar$Tape" "end" "I") (by decide +kernel)) (fun _ h9 => h9) rfl dX7_readTest_12 ?_
      refine lv_icmp_ge (tgt := 46) hx hb dX7_readTest_15 (by decide) (fun c12 => ?_) (fun c12 => ?_)
      · have hF := hF.1 c12
        exact hEX τ u1 _ _ _ hF hP hN hS (lv_sub hl [0, 1] rfl)
      · have hF := hF.2 c12
        refine lv_aload_n hx hb dX7_readTest_18 rfl (lv_at hl 0 rfl) ?_
        obtain ⟨o13, eo13, hF⟩ := hF
        have ho13 : o13 < gN τ0 14 := tw_lt (hP.2.2.2 6 p0 0 o13 (by decide) (tw_lt hp0 (congrFun hN 6)) eo13) (congrFun hN 14).symm
        refine tw_get (v := .ref (ad 14 o13)) hx hb hts (by decide +kernel) hown hK hP (by decide) (tw_lt hp0 (congrFun hN 6)) rfl rfl 0 (by decide) (hts (.fieldLink RX7 11 "WineCellar$Tape" "bytes" "[I") (by decide +kernel)) (fun _ h9 => h9) (show some (va_rf ((gR τ 6 p0 0).map (ad 14))) = some (.ref (ad 14 o13)) by rw [eo13]; rfl) dX7_readTest_19 ?_
        refine lv_iload_n hx hb dX7_readTest_22 rfl (lv_at hl 1 rfl) ?_
        obtain ⟨hi14, hF⟩ := hF
        refine tw_iald hx hb hK hP (by decide) (tw_lt ho13 (congrFun hN 14)) rfl 0 rfl hi14 dX7_readTest_23 ?_
        refine lv_bipush (v := 97) hx hb dX7_readTest_24 (by decide) ?_
        refine lv_icmp_lt (tgt := 46) hx hb dX7_readTest_26 (by decide) (fun c15 => ?_) (fun c15 => ?_)
        · have hF := hF.1 c15
          exact hEX τ u1 _ _ _ hF hP hN hS (lv_sub hl [0, 1] rfl)
        · have hF := hF.2 c15
          refine lv_aload_n hx hb dX7_readTest_29 rfl (lv_at hl 0 rfl) ?_
          obtain ⟨o16, eo16, hF⟩ := hF
          have ho16 : o16 < gN τ0 14 := tw_lt (hP.2.2.2 6 p0 0 o16 (by decide) (tw_lt hp0 (congrFun hN 6)) eo16) (congrFun hN 14).symm
          refine tw_get (v := .ref (ad 14 o16)) hx hb hts (by decide +kernel) hown hK hP (by decide) (tw_lt hp0 (congrFun hN 6)) rfl rfl 0 (by decide) (hts (.fieldLink RX7 11 "WineCellar$Tape" "bytes" "[I") (by decide +kernel)) (fun _ h9 => h9) (show some (va_rf ((gR τ 6 p0 0).map (ad 14))) = some (.ref (ad 14 o16)) by rw [eo16]; rfl) dX7_readTest_30 ?_
          refine lv_iload_n hx hb dX7_readTest_33 rfl (lv_at hl 1 rfl) ?_
          obtain ⟨hi17, hF⟩ := hF
          refine tw_iald hx hb hK hP (by decide) (tw_lt ho16 (congrFun hN 14)) rfl 0 rfl hi17 dX7_readTest_34 ?_
          refine lv_bipush (v := 122) hx hb dX7_readTest_35 (by decide) ?_
          refine lv_icmp_gt (tgt := 46) hx hb dX7_readTest_37 (by decide) (fun c18 => ?_) (fun c18 => ?_)
          · have hF := hF.1 c18
            exact hEX τ u1 _ _ _ hF hP hN hS (lv_sub hl [0, 1] rfl)
          · have hF := hF.2 c18
            obtain ⟨z19, ez19⟩ : ∃ y : Int32, y = u1 + (1 : Int32) := ⟨_, rfl⟩
            have hF := hF z19 ez19
            refine lv_iinc (v := z19) (lv' := [(1, .int z19), (0, .ref (ad 6 p0))]) hx hb dX7_readTest_40 hl (k := 1) rfl (by rw [ez19]; rfl) (by decide) rfl (fun ls hl => ?_)
            refine lv_goto (tgt := 10) hx hb dX7_readTest_43 (by decide) ?_
            exact ih τ z19 _ _ _ hF hP hN hS (lv_sub hl [1, 0] rfl) hEX
  refine lv_aload_n hx hb dX7_readTest_0 rfl (lv_at hl 0 rfl) ?_
  refine va_calli (va_runV (As := []) (rest := []) ⟨hx, hb, hml, hown, hts⟩ (mX7_signHere l dC dI ac sa A ad τ0 k0 _ hF hk0) (cwV 0 hts gX7_readTest_X7_signHere rfl rfl rfl (by decide +kernel) ⟨Nat.le_of_ble_eq_true rfl, Nat.le_of_ble_eq_true rfl⟩) ⟨BX.blind, tw_recv hK hP (by decide) hk0 rfl rfl, fun U hU hW => ⟨rfl, BX.of hP hK hS hA hZ hU hW⟩⟩ rfl rfl hl.1 rfl (lv_room (Nat.le_of_ble_eq_true rfl)) dX7_readTest_1 ⟨Nat.le_of_ble_eq_true rfl, Nat.le_of_ble_eq_true rfl⟩) hS (fun q _ h => h) (fun q h => h) (fun r21 τ20 t H locs ht hvm hw hB hz hk hS => ?_)
  obtain ⟨hF, hN9⟩ := hw
  have hP : PX dC dI ac A ad τ20 H := tw_back hB ht
  have hN : gN τ20 = gN τ0 := hN9.trans hN
  refine lv_pop hx hb dX7_readTest_4 rfl ?_
  refine lv_aload_n hx hb dX7_readTest_5 rfl (lv_at hl 0 rfl) ?_
  refine tw_get (v := .int (gI τ20 6 k0 2)) hx hb hts (by decide +kernel) hown hK hP (by decide) (tw_lt hk0 (congrFun hN 6)) rfl rfl 2 (by decide) (hts (.fieldLink RX7 19 "WineCellar$Tape" "at" "I") (by decide +kernel)) (fun _ h9 => h9) rfl dX7_readTest_6 ?_
  refine lv_topi (fun z22 ez22 => ?_)
  have hF := hF z22 ez22
  refine lv_istore_n (lv' := [(1, .int z22), (0, .ref (ad 6 k0))]) hx hb dX7_readTest_9 rfl hl (by decide) rfl (fun ls hl => ?_)
  obtain ⟨n23, hF⟩ := hF
  refine l10 k0 hk0 _ n23 τ20 z22 _ _ _ hF hP hN hS (lv_sub hl [1, 0] rfl) ?_
  intro τ24 z25 H locs ls hF hP hN hS hl
  exact j46 τ24 k0 hk0 z25 _ _ _ hF hP hN hS (lv_sub hl [0, 1] rfl)
def J_X7_readPoints_66 (τ : tw_T) (y0 : Int32) (y1 : Int32) (y2 : Int32) (w3_ : Nat) (q4 : Nat) (Q : Int32 → tw_T → Prop) : Prop := F_X0_addTerm τ q4 w3_ y2 y1 y0 (fun (τ1 : tw_T) => (Q ((1 : Int32)) τ1))
def J_X7_readPoints_22 (τ : tw_T) (p0 : Nat) (p1 : Nat) (q2_ : Nat) (u3 : Int32) (u4 : Int32) (u5 : Int32) (Q : Int32 → tw_T → Prop) : Prop := ∀ τ2 : tw_T, τ2 = sI τ 6 p0 2 ((gI τ 6 p0 2) + ((1 : Int32))) → (F_X7_readNumber τ2 p0 (fun (r4 : Int32) (τ3 : tw_T) => (((¬ r4 = ((-1 : Int32)) → (((¬ u5 = ((43 : Int32)) → (J_X7_readPoints_66 τ3  (-r4) u4 u3 q2_ p1 Q)) ∧ (u5 = ((43 : Int32)) → (J_X7_readPoints_66 τ3  r4 u4 u3 q2_ p1 Q))))) ∧ (r4 = ((-1 : Int32)) → (Q ((0 : Int32)) τ3))))))
def F_X7_readPoints (τ0 : tw_T) (k0 : Nat) (k1 : Nat) (q2 : Nat) (x3 : Int32) (x4 : Int32) (Q : Int32 → tw_T → Prop) : Prop := F_X7_signHere τ0 k0 (fun (r8 : Int32) (τ7 : tw_T) => (((r8 = ((43 : Int32)) → (J_X7_readPoints_22 τ7 k0 k1 q2 x3 x4 r8 Q)) ∧ (¬ r8 = ((43 : Int32)) → (((r8 = ((45 : Int32)) → (J_X7_readPoints_22 τ7 k0 k1 q2 x3 x4 r8 Q)) ∧ (¬ r8 = ((45 : Int32)) → (Q ((0 : Int32)) τ7))))))))
def rmX7_readPoints : Room := { frames := 2, cells := 0, slots := 0, locals := 44 }
set_option maxHeartbeats 4000000 in
set_option maxRecDepth 100000 in
theorem mX7_readPoints (l : Launch) (dC : Nat → ClassId) (dI : Nat → Nat → Nat) (ac : Nat → ClassId) (sa : Nat → Nat) (A : Nat → Prop) (ad : Nat → Nat → Nat) (τ0 : tw_T) (k0 : Nat) (k1 : Nat) (q2 : Nat) (x3 : Int32) (x4 : Int32) (Q : Int32 → tw_T → Prop) (hF : F_X7_readPoints τ0 k0 k1 q2 x3 x4 Q) (hk0 : k0 < gN τ0 6) (hk1 : k1 < gN τ0 22) (hq2 : q2 < 8) (hsa : ∀ i, i < 8 → ad 1000 i = sa i) (h8 : 8 ≤ gN τ0 1000) : Met l yX7_readPoints wsX7_readPoints rmX7_readPoints (va_Pc [.ref (ad 6 k0), .ref (ad 22 k1), .ref (sa q2), .int x3, .int x4] (BX dC dI ac sa A ad τ0)) (va_Qi (fun r (u : tw_T) => Q r u ∧ gN u = gN τ0) (fun u t => PX dC dI ac A ad u t.heap) A) 0 0 A := by
  refine Met.ofW (cc := cX7_readPoints) (maxL := 7) (ret := (some .boolean)) (by decide) rfl ?_
  intro p e s m args below meth c s₁ B hml hv
  obtain ⟨rfl, hP, hK, hA, hZ⟩ := hv
  have hx := B.exec
  have hb := B.bytes
  have hr := B.returns
  have hts := atoms_spec (ws := wsX7_readPoints) B.pre
  have hown : s.vm.findClass RX7 = some m.cls := findClass_of_methodNamed B.named
  have hlocks := B.notSynchronized
  have hS : va_S A s.heap s.heap [] := va_S.rf
  have hN : gN τ0 = gN τ0 := rfl
  have hl := lv_entry ([.ref (ad 6 k0), .ref (ad 22 k1), .ref (sa q2), .int x3, .int x4]) (n := 7) (Nat.le_of_ble_eq_true rfl)
  rw [lg_entry_eq]
  generalize (lg_sl ([.ref (ad 6 k0), .ref (ad 22 k1), .ref (sa q2), .int x3, .int x4]) ++ List.replicate (7 - (lg_sl ([.ref (ad 6 k0), .ref (ad 22 k1), .ref (sa q2), .int x3, .int x4])).length) Slot.unset).toArray = ls at hl ⊢
  have hl : lv_has ls 7 [(0, .ref (ad 6 k0)), (1, .ref (ad 22 k1)), (2, .ref (sa q2)), (3, .int x3), (4, .int x4)] := hl
  unfold F_X7_readPoints at hF
  have j66 : ∀ (τ : tw_T) (y0 : Int32) (y1 : Int32) (y2 : Int32) (w3_ : Nat) (hw3_ : w3_ < 8) (q4 : Nat) (hq4 : q4 < gN τ0 22) (H : Heap) (locs : List Loc) (ls : Array Slot), J_X7_readPoints_66 τ y0 y1 y2 w3_ q4 Q → PX dC dI ac A ad τ H → gN τ = gN τ0 → va_S A s.heap H locs → lv_has ls 7 [] → W p l e rmX7_readPoints s m ([.ref (ad 6 k0), .ref (ad 22 k1), .ref (sa q2), .int x3, .int x4] : List Value).toArray below meth c H locs 0 0 (MQ below (va_Qi (fun r (u : tw_T) => Q r u ∧ gN u = gN τ0) (fun u t => PX dC dI ac A ad u t.heap) A) ([.ref (ad 6 k0), .ref (ad 22 k1), .ref (sa q2), .int x3, .int x4] : List Value).toArray s 0 0 A) (F0 m 66 ls [.int y0, .int y1, .int y2, .ref (sa w3_), .ref (ad 22 q4)]) := by
    intro τ y0 y1 y2 w3_ hw3_ q4 hq4 H locs ls hF hP hN hS hl
    unfold J_X7_readPoints_66 at hF
    refine va_callv (va_runV (As := [.ref (sa w3_), .int y2, .int y1, .int y0]) (rest := []) ⟨hx, hb, hml, hown, hts⟩ (mX0_addTerm l dC dI ac sa A ad τ q4 w3_ y2 y1 y0 _ hF (tw_lt hq4 (congrFun hN 22)) hw3_ hsa (by rw [congrFun hN 1000]; exact h8)) (cwV 4 hts gX7_readPoints_X0_addTerm rfl rfl rfl (by decide +kernel) ⟨Nat.le_of_ble_eq_true rfl, Nat.le_of_ble_eq_true rfl⟩) ⟨BX.blind, tw_recv hK hP (by decide) (tw_lt hq4 (congrFun hN 22)) rfl rfl, fun U hU hW => ⟨rfl, BX.of hP hK hS hA hZ hU hW⟩⟩ rfl rfl hl.1 rfl (lv_room (Nat.le_of_ble_eq_true rfl)) dX7_readPoints_66 ⟨Nat.le_of_ble_eq_true rfl, Nat.le_of_ble_eq_true rfl⟩) hS (fun q _ h => h) (fun q h => h) (fun τ1 t H locs ht hvm hw hB hz hk hS => ?_)
    obtain ⟨hF, hN9⟩ := hw
    have hP : PX dC dI ac A ad τ1 H := tw_back hB ht
    have hN : gN τ1 = gN τ0 := hN9.trans hN
    refine lv_iconst (v := 1) hx hb dX7_readPoints_69 (by decide) ?_
    exact W.zret (v := (1 : Int32)) (ty := .boolean) hx hb hr rfl (fun t ht hW => ⟨⟨((1 : Int32)), τ1, rfl, ⟨hF, hN⟩, tw_at hP ht⟩, hS.F ht⟩) hS.2.2 dX7_readPoints_70
  have j22 : ∀ (τ : tw_T) (p0 : Nat) (hp0 : p0 < gN τ0 6) (p1 : Nat) (hp1 : p1 < gN τ0 22) (q2_ : Nat) (hq2_ : q2_ < 8) (u3 : Int32) (u4 : Int32) (u5 : Int32) (H : Heap) (locs : List Loc) (ls : Array Slot), J_X7_readPoints_22 τ p0 p1 q2_ u3 u4 u5 Q → PX dC dI ac A ad τ H → gN τ = gN τ0 → va_S A s.heap H locs → lv_has ls 7 [(0, .ref (ad 6 p0)), (1, .ref (ad 22 p1)), (2, .ref (sa q2_)), (3, .int u3), (4, .int u4), (5, .int u5)] → W p l e rmX7_readPoints s m ([.ref (ad 6 k0), .ref (ad 22 k1), .ref (sa q2), .int x3, .int x4] : List Value).toArray below meth c H locs 0 0 (MQ below (va_Qi (fun r (u : tw_T) => Q r u ∧ gN u = gN τ0) (fun u t => PX dC dI ac A ad u t.heap) A) ([.ref (ad 6 k0), .ref (ad 22 k1), .ref (sa q2), .int x3, .int x4] : List Value).toArray s 0 0 A) (F0 m 22 ls []) := by
    intro τ p0 hp0 p1 hp1 q2_ hq2_ u3 u4 u5 H locs ls hF hP hN hS hl
    unfold J_X7_readPoints_22 at hF
    refine lv_aload_n hx hb dX7_readPoints_22 rfl (lv_at hl 0 rfl) ?_
    refine lv_dup hx hb dX7_readPoints_23 rfl ?_
    refine tw_get (v := .int (gI τ 6 p0 2)) hx hb hts (by decide +kernel) hown hK hP (by decide) (tw_lt hp0 (congrFun hN 6)) rfl rfl 2 (by decide) (hts (.fieldLink RX7 19 "WineCellar$Tape" "at" "I") (by decide +kernel)) (fun _ h9 => h9) rfl dX7_readPoints_24 ?_
    refine lv_iconst (v := 1) hx hb dX7_readPoints_27 (by decide) ?_
    refine lv_iadd hx hb dX7_readPoints_28 ?_
    refine tw_put (τ' := sI τ 6 p0 2 ((gI τ 6 p0 2) + ((1 : Int32)))) (ty := .int) hx hb hts (by decide +kernel) tyX7 tyX7_ok nmX7 hown hK hP hS (by decide) (tw_lt hp0 (congrFun hN 6)) rfl rfl 2 (by decide) (hts (.fieldLink RX7 19 "WineCellar$Tape" "at" "I") (by decide +kernel)) (fun _ h9 => h9) rfl (by decide +kernel) rfl rfl (Nat.le_of_ble_eq_true rfl) dX7_readPoints_29 (fun H1 ha ho => tw_updI hP (by decide) (tw_lt hp0 (congrFun hN 6)) ha ho) (fun H locs hP hS => ?_)
    obtain ⟨τ2, eτ2⟩ : ∃ y : tw_T, y = sI τ 6 p0 2 ((gI τ 6 p0 2) + ((1 : Int32))) := ⟨_, rfl⟩
    have hF := hF τ2 eτ2
    rw [← eτ2] at hP
    have hN : gN τ2 = gN τ0 := by rw [eτ2]; exact hN
    refine lv_aload_n hx hb dX7_readPoints_32 rfl (lv_at hl 0 rfl) ?_
    refine va_calli (va_runV (As := []) (rest := []) ⟨hx, hb, hml, hown, hts⟩ (mX7_readNumber l dC dI ac sa A ad τ2 p0 _ hF (tw_lt hp0 (congrFun hN 6))) (cwV 0 hts gX7_readPoints_X7_readNumber rfl rfl rfl (by decide +kernel) ⟨Nat.le_of_ble_eq_true rfl, Nat.le_of_ble_eq_true rfl⟩) ⟨BX.blind, tw_recv hK hP (by decide) (tw_lt hp0 (congrFun hN 6)) rfl rfl, fun U hU hW => ⟨rfl, BX.of hP hK hS hA hZ hU hW⟩⟩ rfl rfl hl.1 rfl (lv_room (Nat.le_of_ble_eq_true rfl)) dX7_readPoints_33 ⟨Nat.le_of_ble_eq_true rfl, Nat.le_of_ble_eq_true rfl⟩) hS (fun q _ h => h) (fun q h => h) (fun r4 τ3 t H locs ht hvm hw hB hz hk hS => ?_)
    obtain ⟨hF, hN9⟩ := hw
    have hP : PX dC dI ac A ad τ3 H := tw_back hB ht
    have hN : gN τ3 = gN τ0 := hN9.trans hN
    refine lv_istore (lv' := [(6, .int r4), (0, .ref (ad 6 p0)), (1, .ref (ad 22 p1)), (2, .ref (sa q2_)), (3, .int u3), (4, .int u4), (5, .int u5)]) hx hb dX7_readPoints_36 hl (by decide) rfl (fun ls hl => ?_)
    refine lv_iload hx hb dX7_readPoints_38 (lv_at hl 0 rfl) ?_
    refine lv_iconst (v := (-1)) hx hb dX7_readPoints_40 (by decide) ?_
    refine lv_icmp_ne (tgt := 46) hx hb dX7_readPoints_41 (by decide) (fun c5 => ?_) (fun c5 => ?_)
    · have hF := hF.1 c5
      refine lv_aload_n hx hb dX7_readPoints_46 rfl (lv_at hl 2 rfl) ?_
      refine lv_aload_n hx hb dX7_readPoints_47 rfl (lv_at hl 3 rfl) ?_
      refine lv_iload_n hx hb dX7_readPoints_48 rfl (lv_at hl 4 rfl) ?_
      refine lv_iload hx hb dX7_readPoints_49 (lv_at hl 5 rfl) ?_
      refine lv_iload hx hb dX7_readPoints_51 (lv_at hl 6 rfl) ?_
      refine lv_bipush (v := 43) hx hb dX7_readPoints_53 (by decide) ?_
      refine lv_icmp_ne (tgt := 63) hx hb dX7_readPoints_55 (by decide) (fun c6 => ?_) (fun c6 => ?_)
      · have hF := hF.1 c6
        refine lv_iload hx hb dX7_readPoints_63 (lv_at hl 0 rfl) ?_
        refine lv_ineg hx hb dX7_readPoints_65 ?_
        exact j66 τ3  (-r4) u4 u3 q2_ hq2_ p1 hp1 _ _ _ hF hP hN hS (lv_sub hl [] rfl)
      · have hF := hF.2 c6
        refine lv_iload hx hb dX7_readPoints_58 (lv_at hl 0 rfl) ?_
        refine lv_goto (tgt := 66) hx hb dX7_readPoints_60 (by decide) ?_
        exact j66 τ3  r4 u4 u3 q2_ hq2_ p1 hp1 _ _ _ hF hP hN hS (lv_sub hl [] rfl)
    · have hF := hF.2 c5
      refine lv_iconst (v := 0) hx hb dX7_readPoints_44 (by decide) ?_
      exact W.zret (v := (0 : Int32)) (ty := .boolean) hx hb hr rfl (fun t ht hW => ⟨⟨((0 : Int32)), τ3, rfl, ⟨hF, hN⟩, tw_at hP ht⟩, hS.F ht⟩) hS.2.2 dX7_readPoints_45
  refine lv_aload_n hx hb dX7_readPoints_0 rfl (lv_at hl 0 rfl) ?_
  refine va_calli (va_runV (As := []) (rest := []) ⟨hx, hb, hml, hown, hts⟩ (mX7_signHere l dC dI ac sa A ad τ0 k0 _ hF hk0) (cwV 0 hts gX7_readPoints_X7_signHere rfl rfl rfl (by decide +kernel) ⟨Nat.le_of_ble_eq_true rfl, Nat.le_of_ble_eq_true rfl⟩) ⟨BX.blind, tw_recv hK hP (by decide) hk0 rfl rfl, fun U hU hW => ⟨rfl, BX.of hP hK hS hA hZ hU hW⟩⟩ rfl rfl hl.1 rfl (lv_room (Nat.le_of_ble_eq_true rfl)) dX7_readPoints_1 ⟨Nat.le_of_ble_eq_true rfl, Nat.le_of_ble_eq_true rfl⟩) hS (fun q _ h => h) (fun q h => h) (fun r8 τ7 t H locs ht hvm hw hB hz hk hS => ?_)
  obtain ⟨hF, hN9⟩ := hw
  have hP : PX dC dI ac A ad τ7 H := tw_back hB ht
  have hN : gN τ7 = gN τ0 := hN9.trans hN
  refine lv_istore (lv' := [(5, .int r8), (0, .ref (ad 6 k0)), (1, .ref (ad 22 k1)), (2, .ref (sa q2)), (3, .int x3), (4, .int x4)]) hx hb dX7_readPoints_4 hl (by decide) rfl (fun ls hl => ?_)
  refine lv_iload hx hb dX7_readPoints_6 (lv_at hl 0 rfl) ?_
  refine lv_bipush (v := 43) hx hb dX7_readPoints_8 (by decide) ?_
  refine lv_icmp_eq (tgt := 22) hx hb dX7_readPoints_10 (by decide) (fun c9 => ?_) (fun c9 => ?_)
  · have hF := hF.1 c9
    exact j22 τ7 k0 hk0 k1 hk1 q2 hq2 x3 x4 r8 _ _ _ hF hP hN hS (lv_sub hl [1, 2, 3, 4, 5, 0] rfl)
  · have hF := hF.2 c9
    refine lv_iload hx hb dX7_readPoints_13 (lv_at hl 0 rfl) ?_
    refine lv_bipush (v := 45) hx hb dX7_readPoints_15 (by decide) ?_
    refine lv_icmp_eq (tgt := 22) hx hb dX7_readPoints_17 (by decide) (fun c10 => ?_) (fun c10 => ?_)
    · have hF := hF.1 c10
      exact j22 τ7 k0 hk0 k1 hk1 q2 hq2 x3 x4 r8 _ _ _ hF hP hN hS (lv_sub hl [1, 2, 3, 4, 5, 0] rfl)
    · have hF := hF.2 c10
      refine lv_iconst (v := 0) hx hb dX7_readPoints_20 (by decide) ?_
      exact W.zret (v := (0 : Int32)) (ty := .boolean) hx hb hr rfl (fun t ht hW => ⟨⟨((0 : Int32)), τ7, rfl, ⟨hF, hN⟩, tw_at hP ht⟩, hS.F ht⟩) hS.2.2 dX7_readPoints_21
def J_X7_readTerm_72 (τ : tw_T) (p0 : Nat) (p1 : Nat) (q2_ : Nat) (u3 : Int32) (u4 : Int32) (Q : Int32 → tw_T → Prop) : Prop := F_X7_readPoints τ p0 p1 q2_ u3 u4 (fun (r2 : Int32) (τ1 : tw_T) => (tw_b r2 ∧ (Q r2 τ1)))
def J_X7_readTerm_48 (τ : tw_T) (p0 : Nat) (p1 : Nat) (q2_ : Nat) (u3 : Int32) (Q : Int32 → tw_T → Prop) : Prop := ∀ τ3 : tw_T, τ3 = sI τ 6 p0 2 ((gI τ 6 p0 2) + ((1 : Int32))) → (F_X7_readNumber τ3 p0 (fun (r5 : Int32) (τ4 : tw_T) => (((¬ r5 = ((-1 : Int32)) → (J_X7_readTerm_72 τ4 p0 p1 q2_ u3 r5 Q)) ∧ (r5 = ((-1 : Int32)) → (Q ((0 : Int32)) τ4))))))
def F_X7_readTerm (τ0 : tw_T) (k0 : Nat) (k1 : Nat) (Q : Int32 → tw_T → Prop) : Prop := F_X7_readTest τ0 k0 (fun (r9 : Option Nat) (τ7 : tw_T) => ((r9 = none → (Q ((0 : Int32)) τ7)) ∧ (∀ q8 : Nat, r9 = some q8 → ((((zx_meas q8) = 0 → (J_X7_readTerm_72 τ7 k0 k1 q8 ((-1 : Int32)) ((0 : Int32)) Q)) ∧ (¬ (zx_meas q8) = 0 → (F_X7_signHere τ7 k0 (fun (r11 : Int32) (τ10 : tw_T) => (((r11 = ((60 : Int32)) → (J_X7_readTerm_48 τ10 k0 k1 q8 r11 Q)) ∧ (¬ r11 = ((60 : Int32)) → (((r11 = ((62 : Int32)) → (J_X7_readTerm_48 τ10 k0 k1 q8 r11 Q)) ∧ (¬ r11 = ((62 : Int32)) → (((r11 = ((61 : Int32)) → (J_X7_readTerm_48 τ10 k0 k1 q8 r11 Q)) ∧ (¬ r11 = ((61 : Int32)) → (Q ((0 : Int32)) τ10))))))))))))))))))
def rmX7_readTerm : Room := { frames := 6, cells := 0, slots := 0, locals := 130 }
set_option maxHeartbeats 4000000 in
set_option maxRecDepth 100000 in
theorem mX7_readTerm (l : Launch) (dC : Nat → ClassId) (dI : Nat → Nat → Nat) (ac : Nat → ClassId) (sa : Nat → Nat) (A : Nat → Prop) (ad : Nat → Nat → Nat) (τ0 : tw_T) (k0 : Nat) (k1 : Nat) (Q : Int32 → tw_T → Prop) (hF : F_X7_readTerm τ0 k0 k1 Q) (hk0 : k0 < gN τ0 6) (hk1 : k1 < gN τ0 22) (hsa : ∀ i, i < 8 → ad 1000 i = sa i) (h8 : 8 ≤ gN τ0 1000) : Met l yX7_readTerm wsX7_readTerm rmX7_readTerm (va_Pc [.ref (ad 6 k0), .ref (ad 22 k1)] (BX dC dI ac sa A ad τ0)) (va_Qi (fun r (u : tw_T) => Q r u ∧ gN u = gN τ0) (fun u t => PX dC dI ac A ad u t.heap) A) 0 0 A := by
  refine Met.ofW (cc := cX7_readTerm) (maxL := 5) (ret := (some .boolean)) (by decide) rfl ?_
  intro p e s m args below meth c s₁ B hml hv
  obtain ⟨rfl, hP, hK, hA, hZ⟩ := hv
  have hx := B.exec
  have hb := B.bytes
  have hr := B.returns
  have hts := atoms_spec (ws := wsX7_readTerm) B.pre
  have hown : s.vm.findClass RX7 = some m.cls := findClass_of_methodNamed B.named
  have hlocks := B.notSynchronized
  have hS : va_S A s.heap s.heap [] := va_S.rf
  have hN : gN τ0 = gN τ0 := rfl
  have hl := lv_entry ([.ref (ad 6 k0), .ref (ad 22 k1)]) (n := 5) (Nat.le_of_ble_eq_true rfl)
  rw [lg_entry_eq]
  generalize (lg_sl ([.ref (ad 6 k0), .ref (ad 22 k1)]) ++ List.replicate (5 - (lg_sl ([.ref (ad 6 k0), .ref (ad 22 k1)])).length) Slot.unset).toArray = ls at hl ⊢
  have hl : lv_has ls 5 [(0, .ref (ad 6 k0)), (1, .ref (ad 22 k1))] := hl
  unfold F_X7_readTerm at hF
  have j72 : ∀ (τ : tw_T) (p0 : Nat) (hp0 : p0 < gN τ0 6) (p1 : Nat) (hp1 : p1 < gN τ0 22) (q2_ : Nat) (hq2_ : q2_ < 8) (u3 : Int32) (u4 : Int32) (H : Heap) (locs : List Loc) (ls : Array Slot), J_X7_readTerm_72 τ p0 p1 q2_ u3 u4 Q → PX dC dI ac A ad τ H → gN τ = gN τ0 → va_S A s.heap H locs → lv_has ls 5 [(0, .ref (ad 6 p0)), (1, .ref (ad 22 p1)), (2, .ref (sa q2_)), (3, .int u3), (4, .int u4)] → W p l e rmX7_readTerm s m ([.ref (ad 6 k0), .ref (ad 22 k1)] : List Value).toArray below meth c H locs 0 0 (MQ below (va_Qi (fun r (u : tw_T) => Q r u ∧ gN u = gN τ0) (fun u t => PX dC dI ac A ad u t.heap) A) ([.ref (ad 6 k0), .ref (ad 22 k1)] : List Value).toArray s 0 0 A) (F0 m 72 ls []) := by
    intro τ p0 hp0 p1 hp1 q2_ hq2_ u3 u4 H locs ls hF hP hN hS hl
    unfold J_X7_readTerm_72 at hF
    refine lv_aload_n hx hb dX7_readTerm_72 rfl (lv_at hl 0 rfl) ?_
    refine lv_aload_n hx hb dX7_readTerm_73 rfl (lv_at hl 1 rfl) ?_
    refine lv_aload_n hx hb dX7_readTerm_74 rfl (lv_at hl 2 rfl) ?_
    refine lv_iload_n hx hb dX7_readTerm_75 rfl (lv_at hl 3 rfl) ?_
    refine lv_iload hx hb dX7_readTerm_76 (lv_at hl 4 rfl) ?_
    refine va_calli (va_runV (As := [.ref (ad 22 p1), .ref (sa q2_), .int u3, .int u4]) (rest := []) ⟨hx, hb, hml, hown, hts⟩ (mX7_readPoints l dC dI ac sa A ad τ p0 p1 q2_ u3 u4 _ hF (tw_lt hp0 (congrFun hN 6)) (tw_lt hp1 (congrFun hN 22)) hq2_ hsa (by rw [congrFun hN 1000]; exact h8)) (cwV 4 hts gX7_readTerm_X7_readPoints rfl rfl rfl (by decide +kernel) ⟨Nat.le_of_ble_eq_true rfl, Nat.le_of_ble_eq_true rfl⟩) ⟨BX.blind, tw_recv hK hP (by decide) (tw_lt hp0 (congrFun hN 6)) rfl rfl, fun U hU hW => ⟨rfl, BX.of hP hK hS hA hZ hU hW⟩⟩ rfl rfl hl.1 rfl (lv_room (Nat.le_of_ble_eq_true rfl)) dX7_readTerm_78 ⟨Nat.le_of_ble_eq_true rfl, Nat.le_of_ble_eq_true rfl⟩) hS (fun q _ h => h) (fun q h => h) (fun r2 τ1 t H locs ht hvm hw hB hz hk hS => ?_)
    obtain ⟨hF, hN9⟩ := hw
    have hP : PX dC dI ac A ad τ1 H := tw_back hB ht
    have hN : gN τ1 = gN τ0 := hN9.trans hN
    obtain ⟨hb9, hF⟩ := hF
    exact W.zret (v := r2) (ty := .boolean) hx hb hr (tw_bn hb9) (fun t ht hW => ⟨⟨r2, τ1, rfl, ⟨hF, hN⟩, tw_at hP ht⟩, hS.F ht⟩) hS.2.2 dX7_readTerm_81
  have j48 : ∀ (τ : tw_T) (p0 : Nat) (hp0 : p0 < gN τ0 6) (p1 : Nat) (hp1 : p1 < gN τ0 22) (q2_ : Nat) (hq2_ : q2_ < 8) (u3 : Int32) (H : Heap) (locs : List Loc) (ls : Array Slot), J_X7_readTerm_48 τ p0 p1 q2_ u3 Q → PX dC dI ac A ad τ H → gN τ = gN τ0 → va_S A s.heap H locs → lv_has ls 5 [(0, .ref (ad 6 p0)), (1, .ref (ad 22 p1)), (2, .ref (sa q2_)), (3, .int u3)] → W p l e rmX7_readTerm s m ([.ref (ad 6 k0), .ref (ad 22 k1)] : List Value).toArray below meth c H locs 0 0 (MQ below (va_Qi (fun r (u : tw_T) => Q r u ∧ gN u = gN τ0) (fun u t => PX dC dI ac A ad u t.heap) A) ([.ref (ad 6 k0), .ref (ad 22 k1)] : List Value).toArray s 0 0 A) (F0 m 48 ls []) := by
    intro τ p0 hp0 p1 hp1 q2_ hq2_ u3 H locs ls hF hP hN hS hl
    unfold J_X7_readTerm_48 at hF
    refine lv_aload_n hx hb dX7_readTerm_48 rfl (lv_at hl 0 rfl) ?_
    refine lv_dup hx hb dX7_readTerm_49 rfl ?_
    refine tw_get (v := .int (gI τ 6 p0 2)) hx hb hts (by decide +kernel) hown hK hP (by decide) (tw_lt hp0 (congrFun hN 6)) rfl rfl 2 (by decide) (hts (.fieldLink RX7 19 "WineCellar$Tape" "at" "I") (by decide +kernel)) (fun _ h9 => h9) rfl dX7_readTerm_50 ?_
    refine lv_iconst (v := 1) hx hb dX7_readTerm_53 (by decide) ?_
    refine lv_iadd hx hb dX7_readTerm_54 ?_
    refine tw_put (τ' := sI τ 6 p0 2 ((gI τ 6 p0 2) + ((1 : Int32)))) (ty := .int) hx hb hts (by decide +kernel) tyX7 tyX7_ok nmX7 hown hK hP hS (by decide) (tw_lt hp0 (congrFun hN 6)) rfl rfl 2 (by decide) (hts (.fieldLink RX7 19 "WineCellar$Tape" "at" "I") (by decide +kernel)) (fun _ h9 => h9) rfl (by decide +kernel) rfl rfl (Nat.le_of_ble_eq_true rfl) dX7_readTerm_55 (fun H1 ha ho => tw_updI hP (by decide) (tw_lt hp0 (congrFun hN 6)) ha ho) (fun H locs hP hS => ?_)
    obtain ⟨τ3, eτ3⟩ : ∃ y : tw_T, y = sI τ 6 p0 2 ((gI τ 6 p0 2) + ((1 : Int32))) := ⟨_, rfl⟩
    have hF := hF τ3 eτ3
    rw [← eτ3] at hP
    have hN : gN τ3 = gN τ0 := by rw [eτ3]; exact hN
    refine lv_aload_n hx hb dX7_readTerm_58 rfl (lv_at hl 0 rfl) ?_
    refine va_calli (va_runV (As := []) (rest := []) ⟨hx, hb, hml, hown, hts⟩ (mX7_readNumber l dC dI ac sa A ad τ3 p0 _ hF (tw_lt hp0 (congrFun hN 6))) (cwV 0 hts gX7_readTerm_X7_readNumber rfl rfl rfl (by decide +kernel) ⟨Nat.le_of_ble_eq_true rfl, Nat.le_of_ble_eq_true rfl⟩) ⟨BX.blind, tw_recv hK hP (by decide) (tw_lt hp0 (congrFun hN 6)) rfl rfl, fun U hU hW => ⟨rfl, BX.of hP hK hS hA hZ hU hW⟩⟩ rfl rfl hl.1 rfl (lv_room (Nat.le_of_ble_eq_true rfl)) dX7_readTerm_59 ⟨Nat.le_of_ble_eq_true rfl, Nat.le_of_ble_eq_true rfl⟩) hS (fun q _ h => h) (fun q h => h) (fun r5 τ4 t H locs ht hvm hw hB hz hk hS => ?_)
    obtain ⟨hF, hN9⟩ := hw
    have hP : PX dC dI ac A ad τ4 H := tw_back hB ht
    have hN : gN τ4 = gN τ0 := hN9.trans hN
    refine lv_istore (lv' := [(4, .int r5), (0, .ref (ad 6 p0)), (1, .ref (ad 22 p1)), (2, .ref (sa q2_)), (3, .int u3)]) hx hb dX7_readTerm_62 hl (by decide) rfl (fun ls hl => ?_)
    refine lv_iload hx hb dX7_readTerm_64 (lv_at hl 0 rfl) ?_
    refine lv_iconst (v := (-1)) hx hb dX7_readTerm_66 (by decide) ?_
    refine lv_icmp_ne (tgt := 72) hx hb dX7_readTerm_67 (by decide) (fun c6 => ?_) (fun c6 => ?_)
    · have hF := hF.1 c6
      exact j72 τ4 p0 hp0 p1 hp1 q2_ hq2_ u3 r5 _ _ _ hF hP hN hS (lv_sub hl [1, 2, 3, 4, 0] rfl)
    · have hF := hF.2 c6
      refine lv_iconst (v := 0) hx hb dX7_readTerm_70 (by decide) ?_
      exact W.zret (v := (0 : Int32)) (ty := .boolean) hx hb hr rfl (fun t ht hW => ⟨⟨((0 : Int32)), τ4, rfl, ⟨hF, hN⟩, tw_at hP ht⟩, hS.F ht⟩) hS.2.2 dX7_readTerm_71
  refine lv_aload_n hx hb dX7_readTerm_0 rfl (lv_at hl 0 rfl) ?_
  refine va_calle (va_runV (As := []) (rest := []) ⟨hx, hb, hml, hown, hts⟩ (mX7_readTest l dC dI ac sa A ad τ0 k0 _ hF hk0) (cwV 0 hts gX7_readTerm_X7_readTest rfl rfl rfl (by decide +kernel) ⟨Nat.le_of_ble_eq_true rfl, Nat.le_of_ble_eq_true rfl⟩) ⟨BX.blind, tw_recv hK hP (by decide) hk0 rfl rfl, fun U hU hW => ⟨rfl, BX.of hP hK hS hA hZ hU hW⟩⟩ rfl rfl hl.1 rfl (lv_room (Nat.le_of_ble_eq_true rfl)) dX7_readTerm_1 ⟨Nat.le_of_ble_eq_true rfl, Nat.le_of_ble_eq_true rfl⟩) hS (fun q _ h => h) (fun q h => h) (fun r9 τ7 t H locs ht hvm hw hB hz hk hS => ?_)
  obtain ⟨hF, h9, hN9⟩ := hw
  have hP : PX dC dI ac A ad τ7 H := tw_back hB ht
  have hN : gN τ7 = gN τ0 := hN9.trans hN
  cases r9 with
  | none =>
    have hF := hF.1 rfl
    refine W.eq (g2 := F0 m 4 ls [.null]) rfl ?_
    refine lv_astore_nN (lv' := [(2, .null), (0, .ref (ad 6 k0)), (1, .ref (ad 22 k1))]) hx hb dX7_readTerm_4 rfl hl (by decide) rfl (fun ls hl => ?_)
    refine lv_aload_nN hx hb dX7_readTerm_5 rfl (lv_at hl 0 rfl) ?_
    refine lv_ifnonnullN hx hb dX7_readTerm_6 ?_
    refine lv_iconst (v := 0) hx hb dX7_readTerm_9 (by decide) ?_
    exact W.zret (v := (0 : Int32)) (ty := .boolean) hx hb hr rfl (fun t ht hW => ⟨⟨((0 : Int32)), τ7, rfl, ⟨hF, hN⟩, tw_at hP ht⟩, hS.F ht⟩) hS.2.2 dX7_readTerm_10
  | some q8 =>
    have hF := hF.2 q8 rfl
    have hq8 := h9 q8 rfl
    refine W.eq (g2 := F0 m 4 ls [.ref (sa q8)]) rfl ?_
    refine lv_astore_n (lv' := [(2, .ref (sa q8)), (0, .ref (ad 6 k0)), (1, .ref (ad 22 k1))]) hx hb dX7_readTerm_4 rfl hl (by decide) rfl (fun ls hl => ?_)
    refine lv_aload_n hx hb dX7_readTerm_5 rfl (lv_at hl 0 rfl) ?_
    refine lv_ifnonnull (tgt := 11) hx hb dX7_readTerm_6 (by decide) ?_
    refine lv_iconst (v := (-1)) hx hb dX7_readTerm_11 (by decide) ?_
    refine lv_istore_n (lv' := [(3, .int ((-1 : Int32))), (2, .ref (sa q8)), (0, .ref (ad 6 k0)), (1, .ref (ad 22 k1))]) hx hb dX7_readTerm_12 rfl hl (by decide) rfl (fun ls hl => ?_)
    refine lv_iconst (v := 0) hx hb dX7_readTerm_13 (by decide) ?_
    refine lv_istore (lv' := [(4, .int ((0 : Int32))), (3, .int ((-1 : Int32))), (2, .ref (sa q8)), (0, .ref (ad 6 k0)), (1, .ref (ad 22 k1))]) hx hb dX7_readTerm_14 hl (by decide) rfl (fun ls hl => ?_)
    refine lv_aload_n hx hb dX7_readTerm_16 rfl (lv_at hl 2 rfl) ?_
    refine va_getE (q := (RX8, "measures", "Z", [0, 0, 0, 0, 0, 1, 1, 1])) hx hb hZ.1.1 (show q8 < zx_nm.length from hq8) hS hown (List.mem_cons_of_mem _ List.mem_cons_self) (hts (.fieldLink RX7 52 "WineCellar$Test" "measures" "Z") (by decide +kernel)) (fun _ h9 => h9) dX7_readTerm_17 ?_
    refine W.eq (g2 := F0 m 20 ls [.int (zx_meas q8)]) rfl ?_
    refine lv_if_eq (tgt := 72) hx hb dX7_readTerm_20 (by decide) (fun c9 => ?_) (fun c9 => ?_)
    · have hF := hF.1 c9
      exact j72 τ7 k0 hk0 k1 hk1 q8 hq8 ((-1 : Int32)) ((0 : Int32)) _ _ _ hF hP hN hS (lv_sub hl [3, 4, 2, 1, 0] rfl)
    · have hF := hF.2 c9
      refine lv_aload_n hx hb dX7_readTerm_23 rfl (lv_at hl 3 rfl) ?_
      refine va_calli (va_runV (As := []) (rest := []) ⟨hx, hb, hml, hown, hts⟩ (mX7_signHere l dC dI ac sa A ad τ7 k0 _ hF (tw_lt hk0 (congrFun hN 6))) (cwV 0 hts gX7_readTerm_X7_signHere rfl rfl rfl (by decide +kernel) ⟨Nat.le_of_ble_eq_true rfl, Nat.le_of_ble_eq_true rfl⟩) ⟨BX.blind, tw_recv hK hP (by decide) (tw_lt hk0 (congrFun hN 6)) rfl rfl, fun U hU hW => ⟨rfl, BX.of hP hK hS hA hZ hU hW⟩⟩ rfl rfl hl.1 rfl (lv_room (Nat.le_of_ble_eq_true rfl)) dX7_readTerm_24 ⟨Nat.le_of_ble_eq_true rfl, Nat.le_of_ble_eq_true rfl⟩) hS (fun q _ h => h) (fun q h => h) (fun r11 τ10 t H locs ht hvm hw hB hz hk hS => ?_)
      obtain ⟨hF, hN9⟩ := hw
      have hP : PX dC dI ac A ad τ10 H := tw_back hB ht
      have hN : gN τ10 = gN τ0 := hN9.trans hN
      refine lv_istore_n (lv' := [(3, .int r11), (4, .int ((0 : Int32))), (2, .ref (sa q8)), (0, .ref (ad 6 k0)), (1, .ref (ad 22 k1))]) hx hb dX7_readTerm_27 rfl hl (by decide) rfl (fun ls hl => ?_)
      refine lv_iload_n hx hb dX7_readTerm_28 rfl (lv_at hl 0 rfl) ?_
      refine lv_bipush (v := 60) hx hb dX7_readTerm_29 (by decide) ?_
      refine lv_icmp_eq (tgt := 48) hx hb dX7_readTerm_31 (by decide) (fun c12 => ?_) (fun c12 => ?_)
      · have hF := hF.1 c12
        exact j48 τ10 k0 hk0 k1 hk1 q8 hq8 r11 _ _ _ hF hP hN hS (lv_sub hl [3, 4, 2, 0] rfl)
      · have hF := hF.2 c12
        refine lv_iload_n hx hb dX7_readTerm_34 rfl (lv_at hl 0 rfl) ?_
        refine lv_bipush (v := 62) hx hb dX7_readTerm_35 (by decide) ?_
        refine lv_icmp_eq (tgt := 48) hx hb dX7_readTerm_37 (by decide) (fun c13 => ?_) (fun c13 => ?_)
        · have hF := hF.1 c13
          exact j48 τ10 k0 hk0 k1 hk1 q8 hq8 r11 _ _ _ hF hP hN hS (lv_sub hl [3, 4, 2, 0] rfl)
        · have hF := hF.2 c13
          refine lv_iload_n hx hb dX7_readTerm_40 rfl (lv_at hl 0 rfl) ?_
          refine lv_bipush (v := 61) hx hb dX7_readTerm_41 (by decide) ?_
          refine lv_icmp_eq (tgt := 48) hx hb dX7_readTerm_43 (by decide) (fun c14 => ?_) (fun c14 => ?_)
          · have hF := hF.1 c14
            exact j48 τ10 k0 hk0 k1 hk1 q8 hq8 r11 _ _ _ hF hP hN hS (lv_sub hl [3, 4, 2, 0] rfl)
          · have hF := hF.2 c14
            refine lv_iconst (v := 0) hx hb dX7_readTerm_46 (by decide) ?_
            exact W.zret (v := (0 : Int32)) (ty := .boolean) hx hb hr rfl (fun t ht hW => ⟨⟨((0 : Int32)), τ10, rfl, ⟨hF, hN⟩, tw_at hP ht⟩, hS.F ht⟩) hS.2.2 dX7_readTerm_47
def L_X7_readDish_23 (p0 : Nat) (p1 : Nat) (Q : Int32 → tw_T → Prop) (EX : tw_T → Int32 → Prop) : Nat → tw_T → Int32 → Prop
  | 0, _, _ => False
  | n + 1, τ, u3 => ((((12 : Int32)) ≤ u3 → (EX τ u3)) ∧ (¬ ((12 : Int32)) ≤ u3 → (F_X7_readTerm τ p0 p1 (fun (r3 : Int32) (τ2 : tw_T) => (((¬ r3 = 0 → (F_X7_signHere τ2 p0 (fun (r6 : Int32) (τ5 : tw_T) => (((¬ r6 = ((-1 : Int32)) → (((¬ r6 = ((44 : Int32)) → (Q (gI τ5 6 p0 2) τ5)) ∧ (r6 = ((44 : Int32)) → (F_X0_isFull τ5 p1 (fun (r10 : Int32) (τ9 : tw_T) => (((r10 = 0 → (∀ τ12 : tw_T, τ12 = sI τ9 6 p0 2 ((gI τ9 6 p0 2) + ((1 : Int32))) → (∀ z13 : Int32, z13 = u3 + (1 : Int32) → (L_X7_readDish_23 p0 p1 Q EX n τ12 z13)))) ∧ (¬ r10 = 0 → (Q (gI τ9 6 p0 2) τ9)))))))))) ∧ (r6 = ((-1 : Int32)) → (Q ((-1 : Int32)) τ5))))))) ∧ (r3 = 0 → (Q (gI τ2 6 p0 2) τ2))))))))
def F_X7_readDish (τ0 : tw_T) (k0 : Nat) (k1 : Nat) (x2 : Int32) (Q : Int32 → tw_T → Prop) : Prop := ∀ τ14 : tw_T, τ14 = sI τ0 6 k0 2 ((0 : Int32)) → (∀ τ15 : tw_T, τ15 = sI τ14 6 k0 3 ((if (gI τ14 6 k0 1) < x2 then (gI τ14 6 k0 1) else x2)) → (F_X0_clear τ15 k1 (fun (τ16 : tw_T) => (∃ n17 : Nat, L_X7_readDish_23 k0 k1 Q (fun (τ18 : tw_T) (z19 : Int32) => Q (gI τ18 6 k0 2) τ18) n17 τ16 ((0 : Int32))))))
def rmX7_readDish : Room := { frames := 7, cells := 0, slots := 0, locals := 154 }
set_option maxHeartbeats 4000000 in
set_option maxRecDepth 100000 in
theorem mX7_readDish (l : Launch) (dC : Nat → ClassId) (dI : Nat → Nat → Nat) (ac : Nat → ClassId) (sa : Nat → Nat) (A : Nat → Prop) (ad : Nat → Nat → Nat) (τ0 : tw_T) (k0 : Nat) (k1 : Nat) (x2 : Int32) (Q : Int32 → tw_T → Prop) (hF : F_X7_readDish τ0 k0 k1 x2 Q) (hk0 : k0 < gN τ0 6) (hk1 : k1 < gN τ0 22) (hsa : ∀ i, i < 8 → ad 1000 i = sa i) (h8 : 8 ≤ gN τ0 1000) : Met l yX7_readDish wsX7_readDish rmX7_readDish (va_Pc [.ref (ad 6 k0), .ref (ad 22 k1), .int x2] (BX dC dI ac sa A ad τ0)) (va_Qi (fun r (u : tw_T) => Q r u ∧ gN u = gN τ0) (fun u t => PX dC dI ac A ad u t.heap) A) 0 0 A := by
  refine Met.ofW (cc := cX7_readDish) (maxL := 5) (ret := (some .int)) (by decide) rfl ?_
  intro p e s m args below meth c s₁ B hml hv
  obtain ⟨rfl, hP, hK, hA, hZ⟩ := hv
  have hx := B.exec
  have hb := B.bytes
  have hr := B.returns
  have hts := atoms_spec (ws := wsX7_readDish) B.pre
  have hown : s.vm.findClass RX7 = some m.cls := findClass_of_methodNamed B.named
  have hlocks := B.notSynchronized
  have hS : va_S A s.heap s.heap [] := va_S.rf
  have hN : gN τ0 = gN τ0 := rfl
  have hl := lv_entry ([.ref (ad 6 k0), .ref (ad 22 k1), .int x2]) (n := 5) (Nat.le_of_ble_eq_true rfl)
  rw [lg_entry_eq]
  generalize (lg_sl ([.ref (ad 6 k0), .ref (ad 22 k1), .int x2]) ++ List.replicate (5 - (lg_sl ([.ref (ad 6 k0), .ref (ad 22 k1), .int x2])).length) Slot.unset).toArray = ls at hl ⊢
  have hl : lv_has ls 5 [(0, .ref (ad 6 k0)), (1, .ref (ad 22 k1)), (2, .int x2)] := hl
  unfold F_X7_readDish at hF
  have l23 : ∀ (p0 : Nat) (hp0 : p0 < gN τ0 6) (p1 : Nat) (hp1 : p1 < gN τ0 22) (EX : tw_T → Int32 → Prop) (n : Nat) (τ : tw_T) (u3 : Int32) (H : Heap) (locs : List Loc) (ls : Array Slot), L_X7_readDish_23 p0 p1 Q EX n τ u3 → PX dC dI ac A ad τ H → gN τ = gN τ0 → va_S A s.heap H locs → lv_has ls 5 [(0, .ref (ad 6 p0)), (1, .ref (ad 22 p1)), (3, .int u3)] → (∀ (τ : tw_T) (u3 : Int32) (H : Heap) (locs : List Loc) (ls : Array Slot), EX τ u3 → PX dC dI ac A ad τ H → gN τ = gN τ0 → va_S A s.heap H locs → lv_has ls 5 [(0, .ref (ad 6 p0)), (1, .ref (ad 22 p1)), (3, .int u3)] → W p l e rmX7_readDish s m ([.ref (ad 6 k0), .ref (ad 22 k1), .int x2] : List Value).toArray below meth c H locs 0 0 (MQ below (va_Qi (fun r (u : tw_T) => Q r u ∧ gN u = gN τ0) (fun u t => PX dC dI ac A ad u t.heap) A) ([.ref (ad 6 k0), .ref (ad 22 k1), .int x2] : List Value).toArray s 0 0 A) (F0 m 91 ls [])) → W p l e rmX7_readDish s m ([.ref (ad 6 k0), .ref (ad 22 k1), .int x2] : List Value).toArray below meth c H locs 0 0 (MQ below (va_Qi (fun r (u : tw_T) => Q r u ∧ gN u = gN τ0) (fun u t => PX dC dI ac A ad u t.heap) A) ([.ref (ad 6 k0), .ref (ad 22 k1), .int x2] : List Value).toArray s 0 0 A) (F0 m 23 ls []) := by
    intro p0 hp0 p1 hp1 EX n
    induction n with
    | zero => intro τ u3 H locs ls hF; exact hF.elim
    | succ n ih =>
      intro τ u3 H locs ls hF hP hN hS hl hEX
      rw [L_X7_readDish_23] at hF
      refine lv_iload_n hx hb dX7_readDish_23 rfl (lv_at hl 2 rfl) ?_
      refine lv_bipush (v := 12) hx hb dX7_readDish_24 (by decide) ?_
      refine lv_icmp_ge (tgt := 91) hx hb dX7_readDish_26 (by decide) (fun c1 => ?_) (fun c1 => ?_)
      · have hF := hF.1 c1
        exact hEX τ u3 _ _ _ hF hP hN hS (lv_sub hl [0, 1, 2] rfl)
      · have hF := hF.2 c1
        refine lv_aload_n hx hb dX7_readDish_29 rfl (lv_at hl 0 rfl) ?_
        refine lv_aload_n hx hb dX7_readDish_30 rfl (lv_at hl 1 rfl) ?_
        refine va_calli (va_runV (As := [.ref (ad 22 p1)]) (rest := []) ⟨hx, hb, hml, hown, hts⟩ (mX7_readTerm l dC dI ac sa A ad τ p0 p1 _ hF (tw_lt hp0 (congrFun hN 6)) (tw_lt hp1 (congrFun hN 22)) hsa (by rw [congrFun hN 1000]; exact h8)) (cwV 1 hts gX7_readDish_X7_readTerm rfl rfl rfl (by decide +kernel) ⟨Nat.le_of_ble_eq_true rfl, Nat.le_of_ble_eq_true rfl⟩) ⟨BX.blind, tw_recv hK hP (by decide) (tw_lt hp0 (congrFun hN 6)) rfl rfl, fun U hU hW => ⟨rfl, BX.of hP hK hS hA hZ hU hW⟩⟩ rfl rfl hl.1 rfl (lv_room (Nat.le_of_ble_eq_true rfl)) dX7_readDish_31 ⟨Nat.le_of_ble_eq_true rfl, Nat.le_of_ble_eq_true rfl⟩) hS (fun q _ h => h) (fun q h => h) (fun r3 τ2 t H locs ht hvm hw hB hz hk hS => ?_)
        obtain ⟨hF, hN9⟩ := hw
        have hP : PX dC dI ac A ad τ2 H := tw_back hB ht
        have hN : gN τ2 = gN τ0 := hN9.trans hN
        refine lv_if_ne (tgt := 42) hx hb dX7_readDish_34 (by decide) (fun c4 => ?_) (fun c4 => ?_)
        · have hF := hF.1 c4
          refine lv_aload_n hx hb dX7_readDish_42 rfl (lv_at hl 0 rfl) ?_
          refine va_calli (va_runV (As := []) (rest := []) ⟨hx, hb, hml, hown, hts⟩ (mX7_signHere l dC dI ac sa A ad τ2 p0 _ hF (tw_lt hp0 (congrFun hN 6))) (cwV 0 hts gX7_readDish_X7_signHere rfl rfl rfl (by decide +kernel) ⟨Nat.le_of_ble_eq_true rfl, Nat.le_of_ble_eq_true rfl⟩) ⟨BX.blind, tw_recv hK hP (by decide) (tw_lt hp0 (congrFun hN 6)) rfl rfl, fun U hU hW => ⟨rfl, BX.of hP hK hS hA hZ hU hW⟩⟩ rfl rfl hl.1 rfl (lv_room (Nat.le_of_ble_eq_true rfl)) dX7_readDish_43 ⟨Nat.le_of_ble_eq_true rfl, Nat.le_of_ble_eq_true rfl⟩) hS (fun q _ h => h) (fun q h => h) (fun r6 τ5 t H locs ht hvm hw hB hz hk hS => ?_)
          obtain ⟨hF, hN9⟩ := hw
          have hP : PX dC dI ac A ad τ5 H := tw_back hB ht
          have hN : gN τ5 = gN τ0 := hN9.trans hN
          refine lv_istore (lv' := [(4, .int r6), (0, .ref (ad 6 p0)), (1, .ref (ad 22 p1)), (3, .int u3)]) hx hb dX7_readDish_46 hl (by decide) rfl (fun ls hl => ?_)
          refine lv_iload hx hb dX7_readDish_48 (lv_at hl 0 rfl) ?_
          refine lv_iconst (v := (-1)) hx hb dX7_readDish_50 (by decide) ?_
          refine lv_icmp_ne (tgt := 56) hx hb dX7_readDish_51 (by decide) (fun c7 => ?_) (fun c7 => ?_)
          · have hF := hF.1 c7
            refine lv_iload hx hb dX7_readDish_56 (lv_at hl 0 rfl) ?_
            refine lv_bipush (v := 44) hx hb dX7_readDish_58 (by decide) ?_
            refine lv_icmp_ne (tgt := 70) hx hb dX7_readDish_60 (by decide) (fun c8 => ?_) (fun c8 => ?_)
            · have hF := hF.1 c8
              refine lv_aload_n hx hb dX7_readDish_70 rfl (lv_at hl 1 rfl) ?_
              refine tw_get (v := .int (gI τ5 6 p0 2)) hx hb hts (by decide +kernel) hown hK hP (by decide) (tw_lt hp0 (congrFun hN 6)) rfl rfl 2 (by decide) (hts (.fieldLink RX7 19 "WineCellar$Tape" "at" "I") (by decide +kernel)) (fun _ h9 => h9) rfl dX7_readDish_71 ?_
              exact W.iret (v := gI τ5 6 p0 2) hx hb hr (fun t ht hW => ⟨⟨(gI τ5 6 p0 2), τ5, rfl, ⟨hF, hN⟩, tw_at hP ht⟩, hS.F ht⟩) hS.2.2 dX7_readDish_74
            · have hF := hF.2 c8
              refine lv_aload_n hx hb dX7_readDish_63 rfl (lv_at hl 2 rfl) ?_
              refine va_calli (va_runV (As := []) (rest := []) ⟨hx, hb, hml, hown, hts⟩ (mX0_isFull l dC dI ac sa A ad τ5 p1 _ hF (tw_lt hp1 (congrFun hN 22))) (cwV 0 hts gX7_readDish_X0_isFull rfl rfl rfl (by decide +kernel) ⟨Nat.le_of_ble_eq_true rfl, Nat.le_of_ble_eq_true rfl⟩) ⟨BX.blind, tw_recv hK hP (by decide) (tw_lt hp1 (congrFun hN 22)) rfl rfl, fun U hU hW => ⟨rfl, BX.of hP hK hS hA hZ hU hW⟩⟩ rfl rfl hl.1 rfl (lv_room (Nat.le_of_ble_eq_true rfl)) dX7_readDish_64 ⟨Nat.le_of_ble_eq_true rfl, Nat.le_of_ble_eq_true rfl⟩) hS (fun q _ h => h) (fun q h => h) (fun r10 τ9 t H locs ht hvm hw hB hz hk hS => ?_)
              obtain ⟨hF, hN9⟩ := hw
              have hP : PX dC dI ac A ad τ9 H := tw_back hB ht
              have hN : gN τ9 = gN τ0 := hN9.trans hN
              refine lv_if_eq (tgt := 75) hx hb dX7_readDish_67 (by decide) (fun c11 => ?_) (fun c11 => ?_)
              · have hF := hF.1 c11
                refine lv_aload_n hx hb dX7_readDish_75 rfl (lv_at hl 1 rfl) ?_
                refine lv_dup hx hb dX7_readDish_76 rfl ?_
                refine tw_get (v := .int (gI τ9 6 p0 2)) hx hb hts (by decide +kernel) hown hK hP (by decide) (tw_lt hp0 (congrFun hN 6)) rfl rfl 2 (by decide) (hts (.fieldLink RX7 19 "WineCellar$Tape" "at" "I") (by decide +kernel)) (fun _ h9 => h9) rfl dX7_readDish_77 ?_
                refine lv_iconst (v := 1) hx hb dX7_readDish_80 (by decide) ?_
                refine lv_iadd hx hb dX7_readDish_81 ?_
                refine tw_put (τ' := sI τ9 6 p0 2 ((gI τ9 6 p0 2) + ((1 : Int32)))) (ty := .int) hx hb hts (by decide +kernel) tyX7 tyX7_ok nmX7 hown hK hP hS (by decide) (tw_lt hp0 (congrFun hN 6)) rfl rfl 2 (by decide) (hts (.fieldLink RX7 19 "WineCellar$Tape" "at" "I") (by decide +kernel)) (fun _ h9 => h9) rfl (by decide +kernel) rfl rfl (Nat.le_of_ble_eq_true rfl) dX7_readDish_82 (fun H1 ha ho => tw_updI hP (by decide) (tw_lt hp0 (congrFun hN 6)) ha ho) (fun H locs hP hS => ?_)
                obtain ⟨τ12, eτ12⟩ : ∃ y : tw_T, y = sI τ9 6 p0 2 ((gI τ9 6 p0 2) + ((1 : Int32))) := ⟨_, rfl⟩
                have hF := hF τ12 eτ12
                rw [← eτ12] at hP
                have hN : gN τ12 = gN τ0 := by rw [eτ12]; exact hN
                obtain ⟨z13, ez13⟩ : ∃ y : Int32, y = u3 + (1 : Int32) := ⟨_, rfl⟩
                have hF := hF z13 ez13
                refine lv_iinc (v := z13) (lv' := [(3, .int z13), (4, .int r6), (0, .ref (ad 6 p0)), (1, .ref (ad 22 p1))]) hx hb dX7_readDish_85 hl (k := 3) rfl (by rw [ez13]; rfl) (by decide) rfl (fun ls hl => ?_)
                refine lv_goto (tgt := 23) hx hb dX7_readDish_88 (by decide) ?_
                exact ih τ12 z13 _ _ _ hF hP hN hS (lv_sub hl [2, 3, 0] rfl) hEX
              · have hF := hF.2 c11
                refine lv_aload_n hx hb dX7_readDish_70 rfl (lv_at hl 1 rfl) ?_
                refine tw_get (v := .int (gI τ9 6 p0 2)) hx hb hts (by decide +kernel) hown hK hP (by decide) (tw_lt hp0 (congrFun hN 6)) rfl rfl 2 (by decide) (hts (.fieldLink RX7 19 "WineCellar$Tape" "at" "I") (by decide +kernel)) (fun _ h9 => h9) rfl dX7_readDish_71 ?_
                exact W.iret (v := gI τ9 6 p0 2) hx hb hr (fun t ht hW => ⟨⟨(gI τ9 6 p0 2), τ9, rfl, ⟨hF, hN⟩, tw_at hP ht⟩, hS.F ht⟩) hS.2.2 dX7_readDish_74
          · have hF := hF.2 c7
            refine lv_iconst (v := (-1)) hx hb dX7_readDish_54 (by decide) ?_
            exact W.iret (v := (-1 : Int32)) hx hb hr (fun t ht hW => ⟨⟨((-1 : Int32)), τ5, rfl, ⟨hF, hN⟩, tw_at hP ht⟩, hS.F ht⟩) hS.2.2 dX7_readDish_55
        · have hF := hF.2 c4
          refine lv_aload_n hx hb dX7_readDish_37 rfl (lv_at hl 0 rfl) ?_
          refine tw_get (v := .int (gI τ2 6 p0 2)) hx hb hts (by decide +kernel) hown hK hP (by decide) (tw_lt hp0 (congrFun hN 6)) rfl rfl 2 (by decide) (hts (.fieldLink RX7 19 "WineCellar$Tape" "at" "I") (by decide +kernel)) (fun _ h9 => h9) rfl dX7_readDish_38 ?_
          exact W.iret (v := gI τ2 6 p0 2) hx hb hr (fun t ht hW => ⟨⟨(gI τ2 6 p0 2), τ2, rfl, ⟨hF, hN⟩, tw_at hP ht⟩, hS.F ht⟩) hS.2.2 dX7_readDish_41
  refine lv_aload_n hx hb dX7_readDish_0 rfl (lv_at hl 0 rfl) ?_
  refine lv_iconst (v := 0) hx hb dX7_readDish_1 (by decide) ?_
  refine tw_put (τ' := sI τ0 6 k0 2 ((0 : Int32))) (ty := .int) hx hb hts (by decide +kernel) tyX7 tyX7_ok nmX7 hown hK hP hS (by decide) hk0 rfl rfl 2 (by decide) (hts (.fieldLink RX7 19 "WineCellar$Tape" "at" "I") (by decide +kernel)) (fun _ h9 => h9) rfl (by decide +kernel) rfl rfl (Nat.le_of_ble_eq_true rfl) dX7_readDish_2 (fun H1 ha ho => tw_updI hP (by decide) hk0 ha ho) (fun H locs hP hS => ?_)
  obtain ⟨τ14, eτ14⟩ : ∃ y : tw_T, y = sI τ0 6 k0 2 ((0 : Int32)) := ⟨_, rfl⟩
  have hF := hF τ14 eτ14
  rw [← eτ14] at hP
  have hN : gN τ14 = gN τ0 := by rw [eτ14]; exact hN
  refine lv_aload_n hx hb dX7_readDish_5 rfl (lv_at hl 0 rfl) ?_
  refine lv_iload_n hx hb dX7_readDish_6 rfl (lv_at hl 2 rfl) ?_
  refine lv_aload_n hx hb dX7_readDish_7 rfl (lv_at hl 0 rfl) ?_
  refine tw_get (v := .int (gI τ14 6 k0 1)) hx hb hts (by decide +kernel) hown hK hP (by decide) (tw_lt hk0 (congrFun hN 6)) rfl rfl 1 (by decide) (hts (.fieldLink RX7 15 "WineCellar$Tape" "length" "I") (by decide +kernel)) (fun _ h9 => h9) rfl dX7_readDish_8 ?_
  refine va_mmin hx hb (hml.trans hl.1.symm) hown (hts (.methodLink RX7 25 Lib.Math.min.name) (by decide +kernel)) (hts (.static Lib.Math.min.name) (by decide +kernel)) (hts (.initialized "java/lang/Math") (by decide +kernel)) (hts (.code Lib.Math.min.name Lib.Math.min.code 2 (some .int)) (by decide +kernel)) (Nat.le_of_ble_eq_true rfl) (Nat.le_of_ble_eq_true rfl) (Nat.zero_le _) (Nat.zero_le _) dX7_readDish_11 ?_
  refine tw_put (τ' := sI τ14 6 k0 3 ((if (gI τ14 6 k0 1) < x2 then (gI τ14 6 k0 1) else x2))) (ty := .int) hx hb hts (by decide +kernel) tyX7 tyX7_ok nmX7 hown hK hP hS (by decide) (tw_lt hk0 (congrFun hN 6)) rfl rfl 3 (by decide) (hts (.fieldLink RX7 22 "WineCellar$Tape" "end" "I") (by decide +kernel)) (fun _ h9 => h9) rfl (by decide +kernel) rfl rfl (Nat.le_of_ble_eq_true rfl) dX7_readDish_14 (fun H1 ha ho => tw_updI hP (by decide) (tw_lt hk0 (congrFun hN 6)) ha ho) (fun H locs hP hS => ?_)
  obtain ⟨τ15, eτ15⟩ : ∃ y : tw_T, y = sI τ14 6 k0 3 ((if (gI τ14 6 k0 1) < x2 then (gI τ14 6 k0 1) else x2)) := ⟨_, rfl⟩
  have hF := hF τ15 eτ15
  rw [← eτ15] at hP
  have hN : gN τ15 = gN τ0 := by rw [eτ15]; exact hN
  refine lv_aload_n hx hb dX7_readDish_17 rfl (lv_at hl 1 rfl) ?_
  refine va_callv (va_runV (As := []) (rest := []) ⟨hx, hb, hml, hown, hts⟩ (mX0_clear l dC dI ac sa A ad τ15 k1 _ hF (tw_lt hk1 (congrFun hN 22))) (cwV 0 hts gX7_readDish_X0_clear rfl rfl rfl (by decide +kernel) ⟨Nat.le_of_ble_eq_true rfl, Nat.le_of_ble_eq_true rfl⟩) ⟨BX.blind, tw_recv hK hP (by decide) (tw_lt hk1 (congrFun hN 22)) rfl rfl, fun U hU hW => ⟨rfl, BX.of hP hK hS hA hZ hU hW⟩⟩ rfl rfl hl.1 rfl (lv_room (Nat.le_of_ble_eq_true rfl)) dX7_readDish_18 ⟨Nat.le_of_ble_eq_true rfl, Nat.le_of_ble_eq_true rfl⟩) hS (fun q _ h => h) (fun q h => h) (fun τ16 t H locs ht hvm hw hB hz hk hS => ?_)
  obtain ⟨hF, hN9⟩ := hw
  have hP : PX dC dI ac A ad τ16 H := tw_back hB ht
  have hN : gN τ16 = gN τ0 := hN9.trans hN
  refine lv_iconst (v := 0) hx hb dX7_readDish_21 (by decide) ?_
  refine lv_istore_n (lv' := [(3, .int ((0 : Int32))), (0, .ref (ad 6 k0)), (1, .ref (ad 22 k1)), (2, .int x2)]) hx hb dX7_readDish_22 rfl hl (by decide) rfl (fun ls hl => ?_)
  obtain ⟨n17, hF⟩ := hF
  refine l23 k0 hk0 k1 hk1 _ n17 τ16 ((0 : Int32)) _ _ _ hF hP hN hS (lv_sub hl [1, 2, 0] rfl) ?_
  intro τ18 z19 H locs ls hF hP hN hS hl
  refine lv_aload_n hx hb dX7_readDish_91 rfl (lv_at hl 0 rfl) ?_
  refine tw_get (v := .int (gI τ18 6 k0 2)) hx hb hts (by decide +kernel) hown hK hP (by decide) (tw_lt hk0 (congrFun hN 6)) rfl rfl 2 (by decide) (hts (.fieldLink RX7 19 "WineCellar$Tape" "at" "I") (by decide +kernel)) (fun _ h9 => h9) rfl dX7_readDish_92 ?_
  exact W.iret (v := gI τ18 6 k0 2) hx hb hr (fun t ht hW => ⟨⟨(gI τ18 6 k0 2), τ18, rfl, ⟨hF, hN⟩, tw_at hP ht⟩, hS.F ht⟩) hS.2.2 dX7_readDish_95
def J_X9_dish_76 (τ : tw_T) (p0 : Nat) (u1 : Int32) (Q : Int32 → tw_T → Prop) (X : Nat → tw_T → Prop) : Prop := ∃ o1 : Nat, gR τ 0 p0 5 = some o1 ∧ (∃ o2 : Nat, gR τ 0 p0 2 = some o2 ∧ (vp_in (gI τ 0 p0 13) 20 ∧ (∃ o3 : Nat, gR τ 3 o2 (gI τ 0 p0 13).toNatClampNeg = some o3 ∧ (F_X7_readDish τ o1 o3 u1 (fun (r6 : Int32) (τ5 : tw_T) => (∃ o7 : Nat, gR τ5 0 p0 5 = some o7 ∧ (∀ τ8 : tw_T, τ8 = sI τ5 6 o7 1 ((0 : Int32)) → (((r6 = ((-1 : Int32)) → (∀ τ10 : tw_T, τ10 = sI τ8 0 p0 13 ((gI τ8 0 p0 13) + ((1 : Int32))) → (Q ((gI τ10 0 p0 13) - ((1 : Int32))) τ10))) ∧ (¬ r6 = ((-1 : Int32)) → (Q (((-2 : Int32)) - r6) τ8)))))))))))
def F_X9_dish (τ0 : tw_T) (k0 : Nat) (x1 : Int32) (Q : Int32 → tw_T → Prop) (X : Nat → tw_T → Prop) : Prop := ∃ o11 : Nat, gR τ0 0 k0 5 = some o11 ∧ (F_X9_isWithin τ0 x1.toInt64 ((0 : Int64)) ((gI τ0 6 o11 1).toInt64) (fun (r13 : Int32) (τ12 : tw_T) => (((¬ r13 = 0 → ((((gI τ12 0 k0 13) < ((20 : Int32)) → (∃ o16 : Nat, gR τ12 0 k0 2 = some o16 ∧ (vp_in (gI τ12 0 k0 13) 20 ∧ (((gR τ12 3 o16 (gI τ12 0 k0 13).toNatClampNeg = none → (∃ o19 : Nat, gR τ12 0 k0 2 = some o19 ∧ (∀ τ21 : tw_T, τ21 = nW τ12 22 1 → (F_X0_init τ21 (gN τ12 22) (fun (τ23 : tw_T) => (vp_in (gI τ12 0 k0 13) 20 ∧ (∀ τ25 : tw_T, τ25 = sR τ23 3 o19 (gI τ12 0 k0 13).toNatClampNeg (some (gN τ12 22)) → (J_X9_dish_76 τ25 k0 x1 Q X)))))))) ∧ (∀ o18 : Nat, gR τ12 3 o16 (gI τ12 0 k0 13).toNatClampNeg = some o18 → (J_X9_dish_76 τ12 k0 x1 Q X))))))) ∧ (¬ (gI τ12 0 k0 13) < ((20 : Int32)) → (X 2 τ12))))) ∧ (r13 = 0 → (X 0 τ12))))))
def rmX9_dish : Room := { frames := 8, cells := 5, slots := 53, locals := 178 }
set_option maxHeartbeats 4000000 in
set_option maxRecDepth 100000 in
theorem mX9_dish (l : Launch) (hlt : l.stackTraces = false) (dC : Nat → ClassId) (dI : Nat → Nat → Nat) (ac : Nat → ClassId) (sa : Nat → Nat) (A : Nat → Prop) (ad : Nat → Nat → Nat) (τ0 : tw_T) (k0 : Nat) (x1 : Int32) (Q : Int32 → tw_T → Prop) (X : Nat → tw_T → Prop) (hF : F_X9_dish τ0 k0 x1 Q X) (hk0 : k0 < gN τ0 0) (hsa : ∀ i, i < 8 → ad 1000 i = sa i) (h8 : 8 ≤ gN τ0 1000) : vx_Met l yX9_dish wsX9_dish rmX9_dish (va_Pc [.ref (ad 0 k0), .int x1] (BX dC dI ac sa A ad τ0)) (va_Qi (fun r (u : tw_T × (Nat → Nat → Nat)) => Q r u.1 ∧ tw_le τ0 ad u.1 u.2) (fun (u : tw_T × (Nat → Nat → Nat)) t => PX dC dI ac A u.2 u.1 t.heap) A) (vx_X (fun (u : Nat × tw_T × (Nat → Nat → Nat)) => X u.1 u.2.1 ∧ tw_le τ0 ad u.2.1 u.2.2) (fun E u t => E = exn u.1 ∧ PX dC dI ac A u.2.2 u.2.1 t.heap) A) 5 53 A := by
  refine vx_ofW (cc := cX9_dish) (maxL := 3) (ret := (some .int)) (by decide) rfl ?_
  intro p e s m args below meth c s₁ B hml htab hv
  obtain ⟨rfl, hP, hK, hA, hZ⟩ := hv
  have hx := B.exec
  have hb := B.bytes
  have hr := B.returns
  have hts := atoms_spec (ws := wsX9_dish) B.pre
  have hown : s.vm.findClass RX9 = some m.cls := findClass_of_methodNamed B.named
  have hlocks := B.notSynchronized
  have hS : va_S A s.heap s.heap [] := va_S.rf
  have hN : tw_le τ0 ad τ0 ad := tw_le.rf
  have hl := lv_entry ([.ref (ad 0 k0), .int x1]) (n := 3) (Nat.le_of_ble_eq_true rfl)
  rw [lg_entry_eq]
  generalize (lg_sl ([.ref (ad 0 k0), .int x1]) ++ List.replicate (3 - (lg_sl ([.ref (ad 0 k0), .int x1])).length) Slot.unset).toArray = ls at hl ⊢
  have hl : lv_has ls 3 [(0, .ref (ad 0 k0)), (1, .int x1)] := hl
  unfold F_X9_dish at hF
  have j76 : ∀ (bd : Nat → Nat → Nat) (τ : tw_T) (p0 : Nat) (hp0 : p0 < gN τ 0) (u1 : Int32) (H : Heap) (locs : List Loc) (ls : Array Slot), J_X9_dish_76 τ p0 u1 Q X → PX dC dI ac A bd τ H → tw_le τ0 ad τ bd → va_S A s.heap H locs → lv_has ls 3 [(0, .ref (bd 0 p0)), (1, .int u1)] → W p l e rmX9_dish s m ([.ref (ad 0 k0), .int x1] : List Value).toArray below meth c H locs 5 53 (vx_MQ below (va_Qi (fun r (u : tw_T × (Nat → Nat → Nat)) => Q r u.1 ∧ tw_le τ0 ad u.1 u.2) (fun (u : tw_T × (Nat → Nat → Nat)) t => PX dC dI ac A u.2 u.1 t.heap) A) (vx_X (fun (u : Nat × tw_T × (Nat → Nat → Nat)) => X u.1 u.2.1 ∧ tw_le τ0 ad u.2.1 u.2.2) (fun E u t => E = exn u.1 ∧ PX dC dI ac A u.2.2 u.2.1 t.heap) A) ([.ref (ad 0 k0), .int x1] : List Value).toArray s 5 53 A) (F0 m 76 ls []) := by
    intro bd τ p0 hp0 u1 H locs ls hF hP hN hS hl
    unfold J_X9_dish_76 at hF
    refine lv_aload_n hx hb dX9_dish_76 rfl (lv_at hl 0 rfl) ?_
    obtain ⟨o1, eo1, hF⟩ := hF
    have ho1 : o1 < gN τ 6 := hP.2.2.2 0 p0 5 o1 (by decide) hp0 eo1
    refine tw_get (v := .ref (bd 6 o1)) hx hb hts (by decide +kernel) hown hK hP (by decide) hp0 rfl rfl 5 (by decide) (hts (.fieldLink RX9 43 "WineCellar" "tape" "LWineCellar$Tape;") (by decide +kernel)) (fun _ h9 => h9) (show some (va_rf ((gR τ 0 p0 5).map (bd 6))) = some (.ref (bd 6 o1)) by rw [eo1]; rfl) dX9_dish_77 ?_
    refine lv_aload_n hx hb dX9_dish_80 rfl (lv_at hl 0 rfl) ?_
    obtain ⟨o2, eo2, hF⟩ := hF
    have ho2 : o2 < gN τ 3 := hP.2.2.2 0 p0 2 o2 (by decide) hp0 eo2
    refine tw_get (v := .ref (bd 3 o2)) hx hb hts (by decide +kernel) hown hK hP (by decide) hp0 rfl rfl 2 (by decide) (hts (.fieldLink RX9 23 "WineCellar" "dishes" "[LWineCellar$Dish;") (by decide +kernel)) (fun _ h9 => h9) (show some (va_rf ((gR τ 0 p0 2).map (bd 3))) = some (.ref (bd 3 o2)) by rw [eo2]; rfl) dX9_dish_81 ?_
    refine lv_aload_n hx hb dX9_dish_84 rfl (lv_at hl 0 rfl) ?_
    refine tw_get (v := .int (gI τ 0 p0 13)) hx hb hts (by decide +kernel) hown hK hP (by decide) hp0 rfl rfl 13 (by decide) (hts (.fieldLink RX9 79 "WineCellar" "dishCount" "I") (by decide +kernel)) (fun _ h9 => h9) rfl dX9_dish_85 ?_
    obtain ⟨hi4, o3, eo3, hF⟩ := hF
    have ho3 : o3 < gN τ 22 := hP.2.2.2 3 o2 _ o3 (by decide) ho2 eo3
    refine tw_aald hx hb hK hP (by decide) ho2 rfl 5 rfl rfl (fun _ => rfl) hi4 dX9_dish_88 ?_
    refine W.eq (g2 := F0 m 89 ls [.ref (bd 22 o3), .ref (bd 6 o1)]) (by rw [eo3]; rfl) ?_
    refine lv_iload_n hx hb dX9_dish_89 rfl (lv_at hl 1 rfl) ?_
    refine va_calli (va_runV (As := [.ref (bd 22 o3), .int u1]) (rest := []) ⟨hx, hb, hml, hown, hts⟩ (mX7_readDish l dC dI ac sa A bd τ o1 o3 u1 _ hF ho1 ho3 (fun i hi => (hN.2 1000 i (Nat.lt_of_lt_of_le hi h8)).trans (hsa i hi)) (Nat.le_trans h8 (hN.1 1000))) (cwV 2 hts gX9_dish_X7_readDish rfl rfl rfl (by decide +kernel) ⟨Nat.le_of_ble_eq_true rfl, Nat.le_of_ble_eq_true rfl⟩) ⟨BX.blind, tw_recv hK hP (by decide) ho1 rfl rfl, fun U hU hW => ⟨rfl, BX.of hP hK hS hA hZ hU hW⟩⟩ rfl rfl hl.1 rfl (lv_room (Nat.le_of_ble_eq_true rfl)) dX9_dish_90 ⟨Nat.le_of_ble_eq_true rfl, Nat.le_of_ble_eq_true rfl⟩) hS (fun q _ h => h) (fun q h => h) (fun r6 τ5 t H locs ht hvm hw hB hz hk hS => ?_)
    obtain ⟨hF, hN9⟩ := hw
    have hP : PX dC dI ac A bd τ5 H := tw_back hB ht
    have hN : tw_le τ0 ad τ5 bd := hN.same hN9
    have hp0 : p0 < gN τ5 0 := by rw [hN9]; exact hp0
    refine lv_istore_n (lv' := [(2, .int r6), (0, .ref (bd 0 p0)), (1, .int u1)]) hx hb dX9_dish_93 rfl hl (by decide) rfl (fun ls hl => ?_)
    refine lv_aload_n hx hb dX9_dish_94 rfl (lv_at hl 1 rfl) ?_
    obtain ⟨o7, eo7, hF⟩ := hF
    have ho7 : o7 < gN τ5 6 := hP.2.2.2 0 p0 5 o7 (by decide) hp0 eo7
    refine tw_get (v := .ref (bd 6 o7)) hx hb hts (by decide +kernel) hown hK hP (by decide) hp0 rfl rfl 5 (by decide) (hts (.fieldLink RX9 43 "WineCellar" "tape" "LWineCellar$Tape;") (by decide +kernel)) (fun _ h9 => h9) (show some (va_rf ((gR τ5 0 p0 5).map (bd 6))) = some (.ref (bd 6 o7)) by rw [eo7]; rfl) dX9_dish_95 ?_
    refine lv_iconst (v := 0) hx hb dX9_dish_98 (by decide) ?_
    refine tw_put (τ' := sI τ5 6 o7 1 ((0 : Int32))) (ty := .int) hx hb hts (by decide +kernel) tyX7 tyX7_ok nmX7 hown hK hP hS (by decide) ho7 rfl rfl 1 (by decide) (hts (.fieldLink RX9 279 "WineCellar$Tape" "length" "I") (by decide +kernel)) (fun _ h9 => h9) rfl (by decide +kernel) rfl rfl (Nat.le_of_ble_eq_true rfl) dX9_dish_99 (fun H1 ha ho => tw_updI hP (by decide) ho7 ha ho) (fun H locs hP hS => ?_)
    obtain ⟨τ8, eτ8⟩ : ∃ y : tw_T, y = sI τ5 6 o7 1 ((0 : Int32)) := ⟨_, rfl⟩
    have hF := hF τ8 eτ8
    rw [← eτ8] at hP
    have hN : tw_le τ0 ad τ8 bd := hN.same (by rw [eτ8]; rfl)
    have hp0 : p0 < gN τ8 0 := by rw [eτ8]; exact hp0
    refine lv_iload_n hx hb dX9_dish_102 rfl (lv_at hl 0 rfl) ?_
    refine lv_iconst (v := (-1)) hx hb dX9_dish_103 (by decide) ?_
    refine lv_icmp_eq (tgt := 112) hx hb dX9_dish_104 (by decide) (fun c9 => ?_) (fun c9 => ?_)
    · have hF := hF.1 c9
      refine lv_aload_n hx hb dX9_dish_112 rfl (lv_at hl 1 rfl) ?_
      refine lv_dup hx hb dX9_dish_113 rfl ?_
      refine tw_get (v := .int (gI τ8 0 p0 13)) hx hb hts (by decide +kernel) hown hK hP (by decide) hp0 rfl rfl 13 (by decide) (hts (.fieldLink RX9 79 "WineCellar" "dishCount" "I") (by decide +kernel)) (fun _ h9 => h9) rfl dX9_dish_114 ?_
      refine lv_iconst (v := 1) hx hb dX9_dish_117 (by decide) ?_
      refine lv_iadd hx hb dX9_dish_118 ?_
      refine tw_put (τ' := sI τ8 0 p0 13 ((gI τ8 0 p0 13) + ((1 : Int32)))) (ty := .int) hx hb hts (by decide +kernel) tyX9 tyX9_ok nmX9 hown hK hP hS (by decide) hp0 rfl rfl 13 (by decide) (hts (.fieldLink RX9 79 "WineCellar" "dishCount" "I") (by decide +kernel)) (fun _ h9 => h9) rfl (by decide +kernel) rfl rfl (Nat.le_of_ble_eq_true rfl) dX9_dish_119 (fun H1 ha ho => tw_updI hP (by decide) hp0 ha ho) (fun H locs hP hS => ?_)
      obtain ⟨τ10, eτ10⟩ : ∃ y : tw_T, y = sI τ8 0 p0 13 ((gI τ8 0 p0 13) + ((1 : Int32))) := ⟨_, rfl⟩
      have hF := hF τ10 eτ10
      rw [← eτ10] at hP
      have hN : tw_le τ0 ad τ10 bd := hN.same (by rw [eτ10]; rfl)
      have hp0 : p0 < gN τ10 0 := by rw [eτ10]; exact hp0
      refine lv_aload_n hx hb dX9_dish_122 rfl (lv_at hl 1 rfl) ?_
      refine tw_get (v := .int (gI τ10 0 p0 13)) hx hb hts (by decide +kernel) hown hK hP (by decide) hp0 rfl rfl 13 (by decide) (hts (.fieldLink RX9 79 "WineCellar" "dishCount" "I") (by decide +kernel)) (fun _ h9 => h9) rfl dX9_dish_123 ?_
      refine lv_iconst (v := 1) hx hb dX9_dish_126 (by decide) ?_
      refine lv_isub hx hb dX9_dish_127 ?_
      exact vx_ret (W.iret (v := (gI τ10 0 p0 13) - ((1 : Int32))) hx hb hr (fun t ht hW => ⟨⟨((gI τ10 0 p0 13) - ((1 : Int32))), (τ10, bd), rfl, ⟨hF, hN⟩, tw_at hP ht⟩, hS.F ht⟩) hS.2.2 dX9_dish_128)
    · have hF := hF.2 c9
      refine lv_bipush (v := (-2)) hx hb dX9_dish_107 (by decide) ?_
      refine lv_iload_n hx hb dX9_dish_109 rfl (lv_at hl 0 rfl) ?_
      refine lv_isub hx hb dX9_dish_110 ?_
      exact vx_ret (W.iret (v := ((-2 : Int32)) - r6) hx hb hr (fun t ht hW => ⟨⟨(((-2 : Int32)) - r6), (τ8, bd), rfl, ⟨hF, hN⟩, tw_at hP ht⟩, hS.F ht⟩) hS.2.2 dX9_dish_111)
  refine lv_iload_n hx hb dX9_dish_0 rfl (lv_at hl 1 rfl) ?_
  refine lv_i2l (v := x1.toInt64) hx hb dX9_dish_1 rfl ?_
  refine lv_lconst (v := 0) hx hb dX9_dish_2 (by decide) ?_
  refine lv_aload_n hx hb dX9_dish_3 rfl (lv_at hl 0 rfl) ?_
  obtain ⟨o11, eo11, hF⟩ := hF
  have ho11 : o11 < gN τ0 6 := hP.2.2.2 0 k0 5 o11 (by decide) hk0 eo11
  refine tw_get (v := .ref (ad 6 o11)) hx hb hts (by decide +kernel) hown hK hP (by decide) hk0 rfl rfl 5 (by decide) (hts (.fieldLink RX9 43 "WineCellar" "tape" "LWineCellar$Tape;") (by decide +kernel)) (fun _ h9 => h9) (show some (va_rf ((gR τ0 0 k0 5).map (ad 6))) = some (.ref (ad 6 o11)) by rw [eo11]; rfl) dX9_dish_4 ?_
  refine tw_get (v := .int (gI τ0 6 o11 1)) hx hb hts (by decide +kernel) hown hK hP (by decide) ho11 rfl rfl 1 (by decide) (hts (.fieldLink RX9 279 "WineCellar$Tape" "length" "I") (by decide +kernel)) (fun _ h9 => h9) rfl dX9_dish_7 ?_
  refine lv_i2l (v := (gI τ0 6 o11 1).toInt64) hx hb dX9_dish_10 rfl ?_
  refine va_calli (va_runS (As := [.long x1.toInt64, .long ((0 : Int64)), .long ((gI τ0 6 o11 1).toInt64)]) (rest := []) ⟨hx, hb, hml, hown, hts⟩ (mX9_isWithin l dC dI ac sa A ad τ0 x1.toInt64 ((0 : Int64)) ((gI τ0 6 o11 1).toInt64) _ hF ) (va_cwS 3 hts gX9_dish_X9_isWithin rfl rfl rfl (by decide +kernel) ⟨Nat.le_of_ble_eq_true rfl, Nat.le_of_ble_eq_true rfl⟩) ⟨BX.blind, fun U hU hW => ⟨rfl, BX.of hP hK hS hA hZ hU hW⟩⟩ rfl rfl hl.1 rfl (lv_room (Nat.le_of_ble_eq_true rfl)) dX9_dish_11 ⟨Nat.le_of_ble_eq_true rfl, Nat.le_of_ble_eq_true rfl⟩) hS (fun q _ h => h) (fun q h => h) (fun r13 τ12 t H locs ht hvm hw hB hz hk hS => ?_)
  obtain ⟨hF, hN9⟩ := hw
  have hP : PX dC dI ac A ad τ12 H := tw_back hB ht
  have hN : tw_le τ0 ad τ12 ad := hN.same hN9
  have hk0 : k0 < gN τ12 0 := by rw [hN9]; exact hk0
  refine lv_if_ne (tgt := 28) hx hb dX9_dish_14 (by decide) (fun c14 => ?_) (fun c14 => ?_)
  · have hF := hF.1 c14
    refine lv_aload_n hx hb dX9_dish_28 rfl (lv_at hl 0 rfl) ?_
    refine tw_get (v := .int (gI τ12 0 k0 13)) hx hb hts (by decide +kernel) hown hK hP (by decide) hk0 rfl rfl 13 (by decide) (hts (.fieldLink RX9 79 "WineCellar" "dishCount" "I") (by decide +kernel)) (fun _ h9 => h9) rfl dX9_dish_29 ?_
    refine lv_bipush (v := 20) hx hb dX9_dish_32 (by decide) ?_
    refine lv_icmp_lt (tgt := 48) hx hb dX9_dish_34 (by decide) (fun c15 => ?_) (fun c15 => ?_)
    · have hF := hF.1 c15
      refine lv_aload_n hx hb dX9_dish_48 rfl (lv_at hl 0 rfl) ?_
      obtain ⟨o16, eo16, hF⟩ := hF
      have ho16 : o16 < gN τ12 3 := hP.2.2.2 0 k0 2 o16 (by decide) hk0 eo16
      refine tw_get (v := .ref (ad 3 o16)) hx hb hts (by decide +kernel) hown hK hP (by decide) hk0 rfl rfl 2 (by decide) (hts (.fieldLink RX9 23 "WineCellar" "dishes" "[LWineCellar$Dish;") (by decide +kernel)) (fun _ h9 => h9) (show some (va_rf ((gR τ12 0 k0 2).map (ad 3))) = some (.ref (ad 3 o16)) by rw [eo16]; rfl) dX9_dish_49 ?_
      refine lv_aload_n hx hb dX9_dish_52 rfl (lv_at hl 0 rfl) ?_
      refine tw_get (v := .int (gI τ12 0 k0 13)) hx hb hts (by decide +kernel) hown hK hP (by decide) hk0 rfl rfl 13 (by decide) (hts (.fieldLink RX9 79 "WineCellar" "dishCount" "I") (by decide +kernel)) (fun _ h9 => h9) rfl dX9_dish_53 ?_
      obtain ⟨hi17, hF⟩ := hF
      refine tw_aald hx hb hK hP (by decide) ho16 rfl 5 rfl rfl (fun _ => rfl) hi17 dX9_dish_56 ?_
      cases e9 : gR τ12 3 o16 (gI τ12 0 k0 13).toNatClampNeg with
      | none =>
        have hF := hF.1 e9
        refine W.eq (g2 := F0 m 57 ls [.null]) rfl ?_
        refine lv_ifnonnullN hx hb dX9_dish_57 ?_
        refine lv_aload_n hx hb dX9_dish_60 rfl (lv_at hl 0 rfl) ?_
        obtain ⟨o19, eo19, hF⟩ := hF
        have ho19 : o19 < gN τ12 3 := hP.2.2.2 0 k0 2 o19 (by decide) hk0 eo19
        refine tw_get (v := .ref (ad 3 o19)) hx hb hts (by decide +kernel) hown hK hP (by decide) hk0 rfl rfl 2 (by decide) (hts (.fieldLink RX9 23 "WineCellar" "dishes" "[LWineCellar$Dish;") (by decide +kernel)) (fun _ h9 => h9) (show some (va_rf ((gR τ12 0 k0 2).map (ad 3))) = some (.ref (ad 3 o19)) by rw [eo19]; rfl) dX9_dish_61 ?_
        refine lv_aload_n hx hb dX9_dish_64 rfl (lv_at hl 0 rfl) ?_
        refine tw_get (v := .int (gI τ12 0 k0 13)) hx hb hts (by decide +kernel) hown hK hP (by decide) hk0 rfl rfl 13 (by decide) (hts (.fieldLink RX9 79 "WineCellar" "dishCount" "I") (by decide +kernel)) (fun _ h9 => h9) rfl dX9_dish_65 ?_
        refine tw_new (f := 22) (fs := [.null, .null, .null, .null, .int 0]) hx hb hts (by decide +kernel) tyX0 tyX0_ok hown (hts (.classLink RX9 21 RX0) (by decide +kernel)) (hts (.instantiable RX0 5) (by decide +kernel)) (hts (.initialized RX0) (by decide +kernel)) hK hP hS hA (by decide) (fun _ => rfl) rfl (fun j hj => by rcases (show j = 0 ∨ j = 1 ∨ j = 2 ∨ j = 3 ∨ j = 4 by omega) with rfl | rfl | rfl | rfl | rfl <;> rfl) (Nat.le_of_ble_eq_true rfl) (Nat.le_of_ble_eq_true rfl) dX9_dish_68 (fun ad20 H hP hle hS => ?_)
        obtain ⟨τ21, eτ21⟩ : ∃ y : tw_T, y = nW τ12 22 1 := ⟨_, rfl⟩
        have hF := hF τ21 eτ21
        rw [← eτ21] at hP hle
        have hl : lv_has ls 3 [(0, .ref (ad20 0 k0)), (1, .int x1)] := by rw [hle.2 0 k0 hk0]; exact hl
        refine W.eq (g2 := F0 m 71 ls [.ref (ad20 22 (gN τ12 22)), .int (gI τ12 0 k0 13), .ref (ad20 3 o19)]) (by rw [hle.2 3 o19 ho19]) ?_
        have hk0 : k0 < gN τ21 0 := Nat.lt_of_lt_of_le hk0 (hle.1 0)
        have ho19 : o19 < gN τ21 3 := Nat.lt_of_lt_of_le ho19 (hle.1 3)
        have hN : tw_le τ0 ad τ21 ad20 := hN.tr hle
        have hq22 : gN τ12 22 < gN τ21 22 := by rw [eτ21, gN_nW, if_pos rfl]; exact Nat.lt_succ_self _
        refine lv_dup hx hb dX9_dish_71 rfl ?_
        refine va_callv (va_runIN (As := []) (rest := [.ref (ad20 22 (gN τ12 22)), .int (gI τ12 0 k0 13), .ref (ad20 3 o19)]) ⟨hx, hb, hml, hown, hts⟩ (mX0_init l dC dI ac sa A ad20 τ21 (gN τ12 22) _ hF hq22) ⟨va_cnB 0 hts ggX9_dish_X0_init rfl rfl rfl hZ.2.2.2.2.1.1 (hts (.initialized RX0) (by decide +kernel)) (by decide +kernel) ⟨Nat.le_of_ble_eq_true rfl, Nat.le_of_ble_eq_true rfl⟩, rfl, hts (.instanceMethod yX0_init) (by decide +kernel)⟩ ⟨BX.blind, fun U hU hW => ⟨rfl, BX.of hP hK hS hA hZ hU hW⟩⟩ rfl rfl hl.1 rfl (lv_room (Nat.le_of_ble_eq_true rfl)) dX9_dish_72 ⟨Nat.le_of_ble_eq_true rfl, Nat.le_of_ble_eq_true rfl⟩) hS (fun q _ h => h) (fun q h => h) (fun u9 t H locs ht hvm hw hB hz hk hS => ?_)
        obtain ⟨τ23, adτ23⟩ := u9
        obtain ⟨hF, hN9⟩ := hw
        try dsimp only at hF hN9 hB
        have hP : PX dC dI ac A adτ23 τ23 H := tw_back hB ht
        have hl : lv_has ls 3 [(0, .ref (adτ23 0 k0)), (1, .int x1)] := by rw [hN9.2 0 k0 hk0]; exact hl
        refine W.eq (g2 := F0 m 75 ls [.ref (adτ23 22 (gN τ12 22)), .int (gI τ12 0 k0 13), .ref (adτ23 3 o19)]) (by rw [hN9.2 22 (gN τ12 22) hq22, hN9.2 3 o19 ho19]) ?_
        have hk0 : k0 < gN τ23 0 := Nat.lt_of_lt_of_le hk0 (hN9.1 0)
        have hq22 : gN τ12 22 < gN τ23 22 := Nat.lt_of_lt_of_le hq22 (hN9.1 22)
        have ho19 : o19 < gN τ23 3 := Nat.lt_of_lt_of_le ho19 (hN9.1 3)
        have hN : tw_le τ0 ad τ23 adτ23 := hN.tr hN9
        obtain ⟨hi24, hF⟩ := hF
        refine tw_aast hx hb hK hP hS (by decide) ho19 rfl (by decide) hq22 rfl rfl 5 rfl (fun _ => rfl) hi24 dX9_dish_75 (fun H locs hP hS => ?_)
        obtain ⟨τ25, eτ25⟩ : ∃ y : tw_T, y = sR τ23 3 o19 (gI τ12 0 k0 13).toNatClampNeg (some (gN τ12 22)) := ⟨_, rfl⟩
        have hF := hF τ25 eτ25
        rw [← eτ25] at hP
        have hN : tw_le τ0 ad τ25 adτ23 := hN.same (by rw [eτ25]; rfl)
        have hk0 : k0 < gN τ25 0 := by rw [eτ25]; exact hk0
        exact j76 adτ23 τ25 k0 hk0 x1 _ _ _ hF hP hN hS (lv_sub hl [0, 1] rfl)
      | some o18 =>
        have hF := hF.2 o18 e9
        refine W.eq (g2 := F0 m 57 ls [.ref (ad 22 o18)]) rfl ?_
        refine lv_ifnonnull (tgt := 76) hx hb dX9_dish_57 (by decide) ?_
        refine W.widen (k := 5) (n := 53) (by decide) (by decide) ?_
        exact j76 ad τ12 k0 hk0 x1 _ _ _ hF hP hN hS (lv_sub hl [0, 1] rfl)
    · have hF := hF.2 c15
      exact vx_throwSW (names := zx_names) hx hb hlt hown (by decide +kernel) (by decide +kernel) (hts (.classLink RX9 259 "java/lang/IllegalStateException") (by decide +kernel)) (hts (.initialized "java/lang/IllegalStateException") (by decide +kernel)) (hZ.2.2.1 (284, "too many dishes", 40) (by decide +kernel)) (zx_hat2 hts (by decide +kernel) hZ.2.2.2.2.2) zx_ot2 hZ.2.1.1 hZ.2.1.2 hS (hl.1.trans hml.symm) dX9_dish_37 dX9_dish_40 dX9_dish_41 dX9_dish_44 dX9_dish_47 (fun x9 hx9 => (htab x9 hx9).elim) (Nat.le_of_ble_eq_true rfl) (Nat.le_of_ble_eq_true rfl) (Nat.le_of_ble_eq_true rfl) (Nat.le_of_ble_eq_true rfl) hlocks (fun t hvm hz hk => ⟨(2, τ12, ad), ⟨hF, hN⟩, ⟨rfl, (tw_thrown hP hS hz hk).1⟩, (tw_thrown hP hS hz hk).2⟩) hS.2.2 (by decide) (by decide)
  · have hF := hF.2 c14
    exact vx_throwSW (names := zx_names) hx hb hlt hown (by decide +kernel) (by decide +kernel) (hts (.classLink RX9 96 "java/lang/IllegalArgumentException") (by decide +kernel)) (hts (.initialized "java/lang/IllegalArgumentException") (by decide +kernel)) (hZ.2.2.1 (282, "no such number of bytes", 39) (by decide +kernel)) (zx_hat0 hts (by decide +kernel) hZ.2.2.2.2.2) zx_ot0 hZ.2.1.1 hZ.2.1.2 hS (hl.1.trans hml.symm) dX9_dish_17 dX9_dish_20 dX9_dish_21 dX9_dish_24 dX9_dish_27 (fun x9 hx9 => (htab x9 hx9).elim) (Nat.le_of_ble_eq_true rfl) (Nat.le_of_ble_eq_true rfl) (Nat.le_of_ble_eq_true rfl) (Nat.le_of_ble_eq_true rfl) hlocks (fun t hvm hz hk => ⟨(0, τ12, ad), ⟨hF, hN⟩, ⟨rfl, (tw_thrown hP hS hz hk).1⟩, (tw_thrown hP hS hz hk).2⟩) hS.2.2 (by decide) (by decide)
