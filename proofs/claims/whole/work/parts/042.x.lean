def F_X9_isWithin (τ0 : tw_T) (x0 : Int64) (x2 : Int64) (x4 : Int64) (Q : Int32 → tw_T → Prop) : Prop := (((lg_cmp x0 x2) < 0 → (Q ((0 : Int32)) τ0)) ∧ (¬ (lg_cmp x0 x2) < 0 → (((0 < (lg_cmp x0 x4) → (Q ((0 : Int32)) τ0)) ∧ (¬ 0 < (lg_cmp x0 x4) → (Q ((1 : Int32)) τ0))))))
def rmX9_isWithin : Room := { frames := 0, cells := 0, slots := 0, locals := 0 }
set_option maxHeartbeats 4000000 in
set_option maxRecDepth 100000 in
theorem mX9_isWithin (l : Launch) (dC : Nat → ClassId) (dI : Nat → Nat → Nat) (ac : Nat → ClassId) (sa : Nat → Nat) (A : Nat → Prop) (ad : Nat → Nat → Nat) (τ0 : tw_T) (x0 : Int64) (x2 : Int64) (x4 : Int64) (Q : Int32 → tw_T → Prop) (hF : F_X9_isWithin τ0 x0 x2 x4 Q)  : Met l yX9_isWithin wsX9_isWithin rmX9_isWithin (va_Pc [.long x0, .long x2, .long x4] (BX dC dI ac sa A ad τ0)) (va_Qi (fun r (u : tw_T) => Q r u ∧ gN u = gN τ0) (fun u t => PX dC dI ac A ad u t.heap) A) 0 0 A := by
  refine Met.ofW (cc := cX9_isWithin) (maxL := 6) (ret := (some .boolean)) (by decide) rfl ?_
  intro p e s m args below meth c s₁ B hml hv
  obtain ⟨rfl, hP, hK, hA, hZ⟩ := hv
  have hx := B.exec
  have hb := B.bytes
  have hr := B.returns
  have hts := atoms_spec (ws := wsX9_isWithin) B.pre
  have hown : s.vm.findClass RX9 = some m.cls := findClass_of_methodNamed B.named
  have hlocks := B.notSynchronized
  have hS : va_S A s.heap s.heap [] := va_S.rf
  have hN : gN τ0 = gN τ0 := rfl
  have hl := lv_entry ([.long x0, .long x2, .long x4]) (n := 6) (Nat.le_of_ble_eq_true rfl)
  rw [lg_entry_eq]
  generalize (lg_sl ([.long x0, .long x2, .long x4]) ++ List.replicate (6 - (lg_sl ([.long x0, .long x2, .long x4])).length) Slot.unset).toArray = ls at hl ⊢
  have hl : lv_has ls 6 [(0, .long x0), (2, .long x2), (4, .long x4)] := hl
  unfold F_X9_isWithin at hF
  refine lv_lload_n hx hb dX9_isWithin_0 rfl (lv_at hl 0 rfl) ?_
  refine lv_lload_n hx hb dX9_isWithin_1 rfl (lv_at hl 1 rfl) ?_
  refine W.lcmp hx hb dX9_isWithin_2 ?_
  refine lv_if_lt (tgt := 17) hx hb dX9_isWithin_3 (by decide) (fun c1 => ?_) (fun c1 => ?_)
  · have hF := hF.1 c1
    refine lv_iconst (v := 0) hx hb dX9_isWithin_17 (by decide) ?_
    exact W.zret (v := (0 : Int32)) (ty := .boolean) hx hb hr rfl (fun t ht hW => ⟨⟨((0 : Int32)), τ0, rfl, ⟨hF, hN⟩, tw_at hP ht⟩, hS.F ht⟩) hS.2.2 dX9_isWithin_18
  · have hF := hF.2 c1
    refine lv_lload_n hx hb dX9_isWithin_6 rfl (lv_at hl 0 rfl) ?_
    refine lv_lload hx hb dX9_isWithin_7 (lv_at hl 2 rfl) ?_
    refine W.lcmp hx hb dX9_isWithin_9 ?_
    refine lv_if_gt (tgt := 17) hx hb dX9_isWithin_10 (by decide) (fun c2 => ?_) (fun c2 => ?_)
    · have hF := hF.1 c2
      refine lv_iconst (v := 0) hx hb dX9_isWithin_17 (by decide) ?_
      exact W.zret (v := (0 : Int32)) (ty := .boolean) hx hb hr rfl (fun t ht hW => ⟨⟨((0 : Int32)), τ0, rfl, ⟨hF, hN⟩, tw_at hP ht⟩, hS.F ht⟩) hS.2.2 dX9_isWithin_18
    · have hF := hF.2 c2
      refine lv_iconst (v := 1) hx hb dX9_isWithin_13 (by decide) ?_
      refine lv_goto (tgt := 18) hx hb dX9_isWithin_14 (by decide) ?_
      exact W.zret (v := (1 : Int32)) (ty := .boolean) hx hb hr rfl (fun t ht hW => ⟨⟨((1 : Int32)), τ0, rfl, ⟨hF, hN⟩, tw_at hP ht⟩, hS.F ht⟩) hS.2.2 dX9_isWithin_18
def F_X9_isVintage (τ0 : tw_T) (x0 : Int64) (Q : Int32 → tw_T → Prop) : Prop := F_X9_isWithin τ0 x0 ((1900 : Int64)) ((2100 : Int64)) (fun (r2 : Int32) (τ1 : tw_T) => (tw_b r2 ∧ (Q r2 τ1)))
def rmX9_isVintage : Room := { frames := 1, cells := 0, slots := 0, locals := 25 }
set_option maxHeartbeats 4000000 in
set_option maxRecDepth 100000 in
theorem mX9_isVintage (l : Launch) (dC : Nat → ClassId) (dI : Nat → Nat → Nat) (ac : Nat → ClassId) (sa : Nat → Nat) (A : Nat → Prop) (ad : Nat → Nat → Nat) (τ0 : tw_T) (x0 : Int64) (Q : Int32 → tw_T → Prop) (hF : F_X9_isVintage τ0 x0 Q)  : Met l yX9_isVintage wsX9_isVintage rmX9_isVintage (va_Pc [.long x0] (BX dC dI ac sa A ad τ0)) (va_Qi (fun r (u : tw_T) => Q r u ∧ gN u = gN τ0) (fun u t => PX dC dI ac A ad u t.heap) A) 0 0 A := by
  refine Met.ofW (cc := cX9_isVintage) (maxL := 2) (ret := (some .boolean)) (by decide) rfl ?_
  intro p e s m args below meth c s₁ B hml hv
  obtain ⟨rfl, hP, hK, hA, hZ⟩ := hv
  have hx := B.exec
  have hb := B.bytes
  have hr := B.returns
  have hts := atoms_spec (ws := wsX9_isVintage) B.pre
  have hown : s.vm.findClass RX9 = some m.cls := findClass_of_methodNamed B.named
  have hlocks := B.notSynchronized
  have hS : va_S A s.heap s.heap [] := va_S.rf
  have hN : gN τ0 = gN τ0 := rfl
  have hl := lv_entry ([.long x0]) (n := 2) (Nat.le_of_ble_eq_true rfl)
  rw [lg_entry_eq]
  generalize (lg_sl ([.long x0]) ++ List.replicate (2 - (lg_sl ([.long x0])).length) Slot.unset).toArray = ls at hl ⊢
  have hl : lv_has ls 2 [(0, .long x0)] := hl
  unfold F_X9_isVintage at hF
  refine lv_lload_n hx hb dX9_isVintage_0 rfl (lv_at hl 0 rfl) ?_
  refine lv_ldc2 (v := 1900) hx hb hown (hts (.constantLong RX9 160 1900) (by decide +kernel)) dX9_isVintage_1 ?_
  refine lv_ldc2 (v := 2100) hx hb hown (hts (.constantLong RX9 351 2100) (by decide +kernel)) dX9_isVintage_4 ?_
  refine va_calli (va_runS (As := [.long x0, .long ((1900 : Int64)), .long ((2100 : Int64))]) (rest := []) ⟨hx, hb, hml, hown, hts⟩ (mX9_isWithin l dC dI ac sa A ad τ0 x0 ((1900 : Int64)) ((2100 : Int64)) _ hF ) (va_cwS 3 hts gX9_isVintage_X9_isWithin rfl rfl rfl (by decide +kernel) ⟨Nat.le_of_ble_eq_true rfl, Nat.le_of_ble_eq_true rfl⟩) ⟨BX.blind, fun U hU hW => ⟨rfl, BX.of hP hK hS hA hZ hU hW⟩⟩ rfl rfl hl.1 rfl (lv_room (Nat.le_of_ble_eq_true rfl)) dX9_isVintage_7 ⟨Nat.le_of_ble_eq_true rfl, Nat.le_of_ble_eq_true rfl⟩) hS (fun q _ h => h) (fun q h => h) (fun r2 τ1 t H locs ht hvm hw hB hz hk hS => ?_)
  obtain ⟨hF, hN9⟩ := hw
  have hP : PX dC dI ac A ad τ1 H := tw_back hB ht
  have hN : gN τ1 = gN τ0 := hN9.trans hN
  obtain ⟨hb9, hF⟩ := hF
  exact W.zret (v := r2) (ty := .boolean) hx hb hr (tw_bn hb9) (fun t ht hW => ⟨⟨r2, τ1, rfl, ⟨hF, hN⟩, tw_at hP ht⟩, hS.F ht⟩) hS.2.2 dX9_isVintage_10
def F_X9_isPrice (τ0 : tw_T) (x0 : Int64) (Q : Int32 → tw_T → Prop) : Prop := F_X9_isWithin τ0 x0 ((1 : Int64)) ((10000 : Int64)) (fun (r2 : Int32) (τ1 : tw_T) => (tw_b r2 ∧ (Q r2 τ1)))
def rmX9_isPrice : Room := { frames := 1, cells := 0, slots := 0, locals := 25 }
set_option maxHeartbeats 4000000 in
set_option maxRecDepth 100000 in
theorem mX9_isPrice (l : Launch) (dC : Nat → ClassId) (dI : Nat → Nat → Nat) (ac : Nat → ClassId) (sa : Nat → Nat) (A : Nat → Prop) (ad : Nat → Nat → Nat) (τ0 : tw_T) (x0 : Int64) (Q : Int32 → tw_T → Prop) (hF : F_X9_isPrice τ0 x0 Q)  : Met l yX9_isPrice wsX9_isPrice rmX9_isPrice (va_Pc [.long x0] (BX dC dI ac sa A ad τ0)) (va_Qi (fun r (u : tw_T) => Q r u ∧ gN u = gN τ0) (fun u t => PX dC dI ac A ad u t.heap) A) 0 0 A := by
  refine Met.ofW (cc := cX9_isPrice) (maxL := 2) (ret := (some .boolean)) (by decide) rfl ?_
  intro p e s m args below meth c s₁ B hml hv
  obtain ⟨rfl, hP, hK, hA, hZ⟩ := hv
  have hx := B.exec
  have hb := B.bytes
  have hr := B.returns
  have hts := atoms_spec (ws := wsX9_isPrice) B.pre
  have hown : s.vm.findClass RX9 = some m.cls := findClass_of_methodNamed B.named
  have hlocks := B.notSynchronized
  have hS : va_S A s.heap s.heap [] := va_S.rf
  have hN : gN τ0 = gN τ0 := rfl
  have hl := lv_entry ([.long x0]) (n := 2) (Nat.le_of_ble_eq_true rfl)
  rw [lg_entry_eq]
  generalize (lg_sl ([.long x0]) ++ List.replicate (2 - (lg_sl ([.long x0])).length) Slot.unset).toArray = ls at hl ⊢
  have hl : lv_has ls 2 [(0, .long x0)] := hl
  unfold F_X9_isPrice at hF
  refine lv_lload_n hx hb dX9_isPrice_0 rfl (lv_at hl 0 rfl) ?_
  refine lv_lconst (v := 1) hx hb dX9_isPrice_1 (by decide) ?_
  refine lv_ldc2 (v := 10000) hx hb hown (hts (.constantLong RX9 353 10000) (by decide +kernel)) dX9_isPrice_2 ?_
  refine va_calli (va_runS (As := [.long x0, .long ((1 : Int64)), .long ((10000 : Int64))]) (rest := []) ⟨hx, hb, hml, hown, hts⟩ (mX9_isWithin l dC dI ac sa A ad τ0 x0 ((1 : Int64)) ((10000 : Int64)) _ hF ) (va_cwS 3 hts gX9_isPrice_X9_isWithin rfl rfl rfl (by decide +kernel) ⟨Nat.le_of_ble_eq_true rfl, Nat.le_of_ble_eq_true rfl⟩) ⟨BX.blind, fun U hU hW => ⟨rfl, BX.of hP hK hS hA hZ hU hW⟩⟩ rfl rfl hl.1 rfl (lv_room (Nat.le_of_ble_eq_true rfl)) dX9_isPrice_5 ⟨Nat.le_of_ble_eq_true rfl, Nat.le_of_ble_eq_true rfl⟩) hS (fun q _ h => h) (fun q h => h) (fun r2 τ1 t H locs ht hvm hw hB hz hk hS => ?_)
  obtain ⟨hF, hN9⟩ := hw
  have hP : PX dC dI ac A ad τ1 H := tw_back hB ht
  have hN : gN τ1 = gN τ0 := hN9.trans hN
  obtain ⟨hb9, hF⟩ := hF
  exact W.zret (v := r2) (ty := .boolean) hx hb hr (tw_bn hb9) (fun t ht hW => ⟨⟨r2, τ1, rfl, ⟨hF, hN⟩, tw_at hP ht⟩, hS.F ht⟩) hS.2.2 dX9_isPrice_8
def F_X9_yearNow (τ0 : tw_T) (k0 : Nat) (Q : Int32 → tw_T → Prop) : Prop := Q (((2000 : Int32)) + ((gI τ0 0 k0 15) / ((8760 : Int32)))) τ0
def rmX9_yearNow : Room := { frames := 0, cells := 0, slots := 0, locals := 0 }
set_option maxHeartbeats 4000000 in
set_option maxRecDepth 100000 in
theorem mX9_yearNow (l : Launch) (dC : Nat → ClassId) (dI : Nat → Nat → Nat) (ac : Nat → ClassId) (sa : Nat → Nat) (A : Nat → Prop) (ad : Nat → Nat → Nat) (τ0 : tw_T) (k0 : Nat) (Q : Int32 → tw_T → Prop) (hF : F_X9_yearNow τ0 k0 Q) (hk0 : k0 < gN τ0 0) : Met l yX9_yearNow wsX9_yearNow rmX9_yearNow (va_Pc [.ref (ad 0 k0)] (BX dC dI ac sa A ad τ0)) (va_Qi (fun r (u : tw_T) => Q r u ∧ gN u = gN τ0) (fun u t => PX dC dI ac A ad u t.heap) A) 0 0 A := by
  refine Met.ofW (cc := cX9_yearNow) (maxL := 1) (ret := (some .int)) (by decide) rfl ?_
  intro p e s m args below meth c s₁ B hml hv
  obtain ⟨rfl, hP, hK, hA, hZ⟩ := hv
  have hx := B.exec
  have hb := B.bytes
  have hr := B.returns
  have hts := atoms_spec (ws := wsX9_yearNow) B.pre
  have hown : s.vm.findClass RX9 = some m.cls := findClass_of_methodNamed B.named
  have hlocks := B.notSynchronized
  have hS : va_S A s.heap s.heap [] := va_S.rf
  have hN : gN τ0 = gN τ0 := rfl
  have hl := lv_entry ([.ref (ad 0 k0)]) (n := 1) (Nat.le_of_ble_eq_true rfl)
  rw [lg_entry_eq]
  generalize (lg_sl ([.ref (ad 0 k0)]) ++ List.replicate (1 - (lg_sl ([.ref (ad 0 k0)])).length) Slot.unset).toArray = ls at hl ⊢
  have hl : lv_has ls 1 [(0, .ref (ad 0 k0))] := hl
  unfold F_X9_yearNow at hF
  refine lv_sipush (v := 2000) hx hb dX9_yearNow_0 (by decide) ?_
  refine lv_aload_n hx hb dX9_yearNow_3 rfl (lv_at hl 0 rfl) ?_
  refine tw_get (v := .int (gI τ0 0 k0 15)) hx hb hts (by decide +kernel) hown hK hP (by decide) hk0 rfl rfl 15 (by decide) (hts (.fieldLink RX9 85 "WineCellar" "hour" "I") (by decide +kernel)) (fun _ h9 => h9) rfl dX9_yearNow_4 ?_
  refine lv_sipush (v := 8760) hx hb dX9_yearNow_7 (by decide) ?_
  refine lv_idiv hx hb dX9_yearNow_10 (by decide) ?_
  refine lv_iadd hx hb dX9_yearNow_11 ?_
  exact W.iret (v := ((2000 : Int32)) + ((gI τ0 0 k0 15) / ((8760 : Int32)))) hx hb hr (fun t ht hW => ⟨⟨(((2000 : Int32)) + ((gI τ0 0 k0 15) / ((8760 : Int32)))), τ0, rfl, ⟨hF, hN⟩, tw_at hP ht⟩, hS.F ht⟩) hS.2.2 dX9_yearNow_12
def J_X9_openBottles_27 (τ : tw_T) (p0 : Nat) (u1 : Int32) (u2 : Int32) (Q : Int32 → tw_T → Prop) (RC EX : tw_T → Int32 → Int32 → Prop) : Prop := ∀ z1 : Int32, z1 = u2 + (1 : Int32) → (RC τ u1 z1)
def L_X9_openBottles_4 (p0 : Nat) (Q : Int32 → tw_T → Prop) (EX : tw_T → Int32 → Int32 → Prop) : Nat → tw_T → Int32 → Int32 → Prop
  | 0, _, _, _ => False
  | n + 1, τ, u1, u2 => (((gI τ 0 p0 12) ≤ u2 → (EX τ u1 u2)) ∧ (¬ (gI τ 0 p0 12) ≤ u2 → (∃ o3 : Nat, gR τ 0 p0 1 = some o3 ∧ (vp_in u2 60 ∧ (∃ o4 : Nat, gR τ 2 o3 u2.toNatClampNeg = some o4 ∧ (F_X3_isOpen τ o4 (fun (r7 : Int32) (τ6 : tw_T) => (((r7 = 0 → (J_X9_openBottles_27 τ6 p0 u1 u2 Q (fun t v1 v2 => L_X9_openBottles_4 p0 Q EX n t v1 v2) EX)) ∧ (¬ r7 = 0 → (∀ z9 : Int32, z9 = u1 + (1 : Int32) → (J_X9_openBottles_27 τ6 p0 z9 u2 Q (fun t v1 v2 => L_X9_openBottles_4 p0 Q EX n t v1 v2) EX))))))))))))
def F_X9_openBottles (τ0 : tw_T) (k0 : Nat) (Q : Int32 → tw_T → Prop) : Prop := ∃ n10 : Nat, L_X9_openBottles_4 k0 Q (fun (τ11 : tw_T) (z12 : Int32) (z13 : Int32) => Q z12 τ11) n10 τ0 ((0 : Int32)) ((0 : Int32))
def rmX9_openBottles : Room := { frames := 1, cells := 0, slots := 0, locals := 20 }
set_option maxHeartbeats 4000000 in
set_option maxRecDepth 100000 in
theorem mX9_openBottles (l : Launch) (dC : Nat → ClassId) (dI : Nat → Nat → Nat) (ac : Nat → ClassId) (sa : Nat → Nat) (A : Nat → Prop) (ad : Nat → Nat → Nat) (τ0 : tw_T) (k0 : Nat) (Q : Int32 → tw_T → Prop) (hF : F_X9_openBottles τ0 k0 Q) (hk0 : k0 < gN τ0 0) : Met l yX9_openBottles wsX9_openBottles rmX9_openBottles (va_Pc [.ref (ad 0 k0)] (BX dC dI ac sa A ad τ0)) (va_Qi (fun r (u : tw_T) => Q r u ∧ gN u = gN τ0) (fun u t => PX dC dI ac A ad u t.heap) A) 0 0 A := by
  refine Met.ofW (cc := cX9_openBottles) (maxL := 3) (ret := (some .int)) (by decide) rfl ?_
  intro p e s m args below meth c s₁ B hml hv
  obtain ⟨rfl, hP, hK, hA, hZ⟩ := hv
  have hx := B.exec
  have hb := B.bytes
  have hr := B.returns
  have hts := atoms_spec (ws := wsX9_openBottles) B.pre
  have hown : s.vm.findClass RX9 = some m.cls := findClass_of_methodNamed B.named
  have hlocks := B.notSynchronized
  have hS : va_S A s.heap s.heap [] := va_S.rf
  have hN : gN τ0 = gN τ0 := rfl
  have hl := lv_entry ([.ref (ad 0 k0)]) (n := 3) (Nat.le_of_ble_eq_true rfl)
  rw [lg_entry_eq]
  generalize (lg_sl ([.ref (ad 0 k0)]) ++ List.replicate (3 - (lg_sl ([.ref (ad 0 k0)])).length) Slot.unset).toArray = ls at hl ⊢
  have hl : lv_has ls 3 [(0, .ref (ad 0 k0))] := hl
  unfold F_X9_openBottles at hF
  have l4 : ∀ (p0 : Nat) (hp0 : p0 < gN τ0 0) (EX : tw_T → Int32 → Int32 → Prop) (n : Nat) (τ : tw_T) (u1 : Int32) (u2 : Int32) (H : Heap) (locs : List Loc) (ls : Array Slot), L_X9_openBottles_4 p0 Q EX n τ u1 u2 → PX dC dI ac A ad τ H → gN τ = gN τ0 → va_S A s.heap H locs → lv_has ls 3 [(0, .ref (ad 0 p0)), (1, .int u1), (2, .int u2)] → (∀ (τ : tw_T) (u1 : Int32) (u2 : Int32) (H : Heap) (locs : List Loc) (ls : Array Slot), EX τ u1 u2 → PX dC dI ac A ad τ H → gN τ = gN τ0 → va_S A s.heap H locs → lv_has ls 3 [(0, .ref (ad 0 p0)), (1, .int u1), (2, .int u2)] → W p l e rmX9_openBottles s m ([.ref (ad 0 k0)] : List Value).toArray below meth c H locs 0 0 (MQ below (va_Qi (fun r (u : tw_T) => Q r u ∧ gN u = gN τ0) (fun u t => PX dC dI ac A ad u t.heap) A) ([.ref (ad 0 k0)] : List Value).toArray s 0 0 A) (F0 m 33 ls [])) → W p l e rmX9_openBottles s m ([.ref (ad 0 k0)] : List Value).toArray below meth c H locs 0 0 (MQ below (va_Qi (fun r (u : tw_T) => Q r u ∧ gN u = gN τ0) (fun u t => PX dC dI ac A ad u t.heap) A) ([.ref (ad 0 k0)] : List Value).toArray s 0 0 A) (F0 m 4 ls []) := by
    intro p0 hp0 EX n
    induction n with
    | zero => intro τ u1 u2 H locs ls hF; exact hF.elim
    | succ n ih =>
      intro τ u1 u2 H locs ls hF hP hN hS hl hEX
      rw [L_X9_openBottles_4] at hF
      have j27 : ∀ (τ : tw_T) (p0 : Nat) (hp0 : p0 < gN τ0 0) (u1 : Int32) (u2 : Int32) (H : Heap) (locs : List Loc) (ls : Array Slot) (RC EX : tw_T → Int32 → Int32 → Prop), J_X9_openBottles_27 τ p0 u1 u2 Q RC EX → PX dC dI ac A ad τ H → gN τ = gN τ0 → va_S A s.heap H locs → lv_has ls 3 [(0, .ref (ad 0 p0)), (1, .int u1), (2, .int u2)] → (∀ (τ : tw_T) (u1 : Int32) (u2 : Int32) (H : Heap) (locs : List Loc) (ls : Array Slot), RC τ u1 u2 → PX dC dI ac A ad τ H → gN τ = gN τ0 → va_S A s.heap H locs → lv_has ls 3 [(0, .ref (ad 0 p0)), (1, .int u1), (2, .int u2)] → W p l e rmX9_openBottles s m ([.ref (ad 0 k0)] : List Value).toArray below meth c H locs 0 0 (MQ below (va_Qi (fun r (u : tw_T) => Q r u ∧ gN u = gN τ0) (fun u t => PX dC dI ac A ad u t.heap) A) ([.ref (ad 0 k0)] : List Value).toArray s 0 0 A) (F0 m 4 ls [])) → (∀ (τ : tw_T) (u1 : Int32) (u2 : Int32) (H : Heap) (locs : List Loc) (ls : Array Slot), EX τ u1 u2 → PX dC dI ac A ad τ H → gN τ = gN τ0 → va_S A s.heap H locs → lv_has ls 3 [(0, .ref (ad 0 p0)), (1, .int u1), (2, .int u2)] → W p l e rmX9_openBottles s m ([.ref (ad 0 k0)] : List Value).toArray below meth c H locs 0 0 (MQ below (va_Qi (fun r (u : tw_T) => Q r u ∧ gN u = gN τ0) (fun u t => PX dC dI ac A ad u t.heap) A) ([.ref (ad 0 k0)] : List Value).toArray s 0 0 A) (F0 m 33 ls [])) → W p l e rmX9_openBottles s m ([.ref (ad 0 k0)] : List Value).toArray below meth c H locs 0 0 (MQ below (va_Qi (fun r (u : tw_T) => Q r u ∧ gN u = gN τ0) (fun u t => PX dC dI ac A ad u t.heap) A) ([.ref (ad 0 k0)] : List Value).toArray s 0 0 A) (F0 m 27 ls []) := by
        intro τ p0 hp0 u1 u2 H locs ls RC EX hF hP hN hS hl hRC hEX
        unfold J_X9_openBottles_27 at hF
        obtain ⟨z1, ez1⟩ : ∃ y : Int32, y = u2 + (1 : Int32) := ⟨_, rfl⟩
        have hF := hF z1 ez1
        refine lv_iinc (v := z1) (lv' := [(2, .int z1), (0, .ref (ad 0 p0)), (1, .int u1)]) hx hb dX9_openBottles_27 hl (k := 2) rfl (by rw [ez1]; rfl) (by decide) rfl (fun ls hl => ?_)
        refine lv_goto (tgt := 4) hx hb dX9_openBottles_30 (by decide) ?_
        exact hRC τ u1 z1 _ _ _ hF hP hN hS (lv_sub hl [1, 2, 0] rfl)
      refine lv_iload_n hx hb dX9_openBottles_4 rfl (lv_at hl 2 rfl) ?_
      refine lv_aload_n hx hb dX9_openBottles_5 rfl (lv_at hl 0 rfl) ?_
      refine tw_get (v := .int (gI τ 0 p0 12)) hx hb hts (by decide +kernel) hown hK hP (by decide) (tw_lt hp0 (congrFun hN 0)) rfl rfl 12 (by decide) (hts (.fieldLink RX9 76 "WineCellar" "lotCount" "I") (by decide +kernel)) (fun _ h9 => h9) rfl dX9_openBottles_6 ?_
      refine lv_icmp_ge (tgt := 33) hx hb dX9_openBottles_9 (by decide) (fun c2 => ?_) (fun c2 => ?_)
      · have hF := hF.1 c2
        exact hEX τ u1 u2 _ _ _ hF hP hN hS (lv_sub hl [0, 1, 2] rfl)
      · have hF := hF.2 c2
        refine lv_aload_n hx hb dX9_openBottles_12 rfl (lv_at hl 0 rfl) ?_
        obtain ⟨o3, eo3, hF⟩ := hF
        have ho3 : o3 < gN τ0 2 := tw_lt (hP.2.2.2 0 p0 1 o3 (by decide) (tw_lt hp0 (congrFun hN 0)) eo3) (congrFun hN 2).symm
        refine tw_get (v := .ref (ad 2 o3)) hx hb hts (by decide +kernel) hown hK hP (by decide) (tw_lt hp0 (congrFun hN 0)) rfl rfl 1 (by decide) (hts (.fieldLink RX9 17 "WineCellar" "lots" "[LWineCellar$Lot;") (by decide +kernel)) (fun _ h9 => h9) (show some (va_rf ((gR τ 0 p0 1).map (ad 2))) = some (.ref (ad 2 o3)) by rw [eo3]; rfl) dX9_openBottles_13 ?_
        refine lv_iload_n hx hb dX9_openBottles_16 rfl (lv_at hl 2 rfl) ?_
        obtain ⟨hi5, o4, eo4, hF⟩ := hF
        have ho4 : o4 < gN τ0 21 := tw_lt (hP.2.2.2 2 o3 _ o4 (by decide) (tw_lt ho3 (congrFun hN 2)) eo4) (congrFun hN 21).symm
        refine tw_aald hx hb hK hP (by decide) (tw_lt ho3 (congrFun hN 2)) rfl 4 rfl rfl (fun _ => rfl) hi5 dX9_openBottles_17 ?_
        refine W.eq (g2 := F0 m 18 ls [.ref (ad 21 o4)]) (by rw [eo4]; rfl) ?_
        refine va_calli (va_runV (As := []) (rest := []) ⟨hx, hb, hml, hown, hts⟩ (mX3_isOpen l dC dI ac sa A ad τ o4 _ hF (tw_lt ho4 (congrFun hN 21))) (cwV 0 hts gX9_openBottles_X3_isOpen rfl rfl rfl (by decide +kernel) ⟨Nat.le_of_ble_eq_true rfl, Nat.le_of_ble_eq_true rfl⟩) ⟨BX.blind, tw_recv hK hP (by decide) (tw_lt ho4 (congrFun hN 21)) rfl rfl, fun U hU hW => ⟨rfl, BX.of hP hK hS hA hZ hU hW⟩⟩ rfl rfl hl.1 rfl (lv_room (Nat.le_of_ble_eq_true rfl)) dX9_openBottles_18 ⟨Nat.le_of_ble_eq_true rfl, Nat.le_of_ble_eq_true rfl⟩) hS (fun q _ h => h) (fun q h => h) (fun r7 τ6 t H locs ht hvm hw hB hz hk hS => ?_)
        obtain ⟨hF, hN9⟩ := hw
        have hP : PX dC dI ac A ad τ6 H := tw_back hB ht
        have hN : gN τ6 = gN τ0 := hN9.trans hN
        refine lv_if_eq (tgt := 27) hx hb dX9_openBottles_21 (by decide) (fun c8 => ?_) (fun c8 => ?_)
        · have hF := hF.1 c8
          exact j27 τ6 p0 hp0 u1 u2 _ _ _ _ _ hF hP hN hS (lv_sub hl [0, 1, 2] rfl) (fun t v1 v2 H locs ls hF hP hN hS hl => ih t v1 v2 _ _ _ hF hP hN hS hl hEX) hEX
        · have hF := hF.2 c8
          obtain ⟨z9, ez9⟩ : ∃ y : Int32, y = u1 + (1 : Int32) := ⟨_, rfl⟩
          have hF := hF z9 ez9
          refine lv_iinc (v := z9) (lv' := [(1, .int z9), (0, .ref (ad 0 p0)), (2, .int u2)]) hx hb dX9_openBottles_24 hl (k := 1) rfl (by rw [ez9]; rfl) (by decide) rfl (fun ls hl => ?_)
          exact j27 τ6 p0 hp0 z9 u2 _ _ _ _ _ hF hP hN hS (lv_sub hl [1, 0, 2] rfl) (fun t v1 v2 H locs ls hF hP hN hS hl => ih t v1 v2 _ _ _ hF hP hN hS hl hEX) hEX
  refine lv_iconst (v := 0) hx hb dX9_openBottles_0 (by decide) ?_
  refine lv_istore_n (lv' := [(1, .int ((0 : Int32))), (0, .ref (ad 0 k0))]) hx hb dX9_openBottles_1 rfl hl (by decide) rfl (fun ls hl => ?_)
  refine lv_iconst (v := 0) hx hb dX9_openBottles_2 (by decide) ?_
  refine lv_istore_n (lv' := [(2, .int ((0 : Int32))), (1, .int ((0 : Int32))), (0, .ref (ad 0 k0))]) hx hb dX9_openBottles_3 rfl hl (by decide) rfl (fun ls hl => ?_)
  obtain ⟨n10, hF⟩ := hF
  refine l4 k0 hk0 _ n10 τ0 ((0 : Int32)) ((0 : Int32)) _ _ _ hF hP hN hS (lv_sub hl [2, 1, 0] rfl) ?_
  intro τ11 z12 z13 H locs ls hF hP hN hS hl
  refine lv_iload_n hx hb dX9_openBottles_33 rfl (lv_at hl 1 rfl) ?_
  exact W.iret (v := z12) hx hb hr (fun t ht hW => ⟨⟨z12, τ11, rfl, ⟨hF, hN⟩, tw_at hP ht⟩, hS.F ht⟩) hS.2.2 dX9_openBottles_34
def J_X9_pour_43 (τ : tw_T) (p0 : Nat) (p1 : Nat) (Q : Int32 → tw_T → Prop) : Prop := F_X9_yearNow τ p0 (fun (r2 : Int32) (τ1 : tw_T) => (F_X3_worthIn τ1 p1 r2 (fun (r4 : Int32) (τ3 : tw_T) => (∀ z5 : Int32, z5 = (r4 + ((4 : Int32))) / ((5 : Int32)) → (∃ o6 : Nat, gR τ3 0 p0 6 = some o6 ∧ (∀ τ7 : tw_T, τ7 = sJ τ3 7 o6 7 ((gJ τ3 7 o6 7) + z5.toInt64) → (Q z5 τ7)))))))
def F_X9_pour (τ0 : tw_T) (k0 : Nat) (k1 : Nat) (Q : Int32 → tw_T → Prop) : Prop := ∀ τ8 : tw_T, τ8 = sI τ0 21 k1 7 ((gI τ0 21 k1 7) - ((1 : Int32))) → (∃ o9 : Nat, gR τ8 0 k0 6 = some o9 ∧ (∀ τ10 : tw_T, τ10 = sI τ8 7 o9 5 ((gI τ8 7 o9 5) + ((1 : Int32))) → (F_X3_isOpen τ10 k1 (fun (r12 : Int32) (τ11 : tw_T) => (((¬ r12 = 0 → (J_X9_pour_43 τ11 k0 k1 Q)) ∧ (r12 = 0 → (∃ o14 : Nat, gR τ11 0 k0 6 = some o14 ∧ (∀ τ15 : tw_T, τ15 = sI τ11 7 o14 3 ((gI τ11 7 o14 3) + ((1 : Int32))) → (J_X9_pour_43 τ15 k0 k1 Q))))))))))
def rmX9_pour : Room := { frames := 2, cells := 0, slots := 0, locals := 43 }
set_option maxHeartbeats 4000000 in
set_option maxRecDepth 100000 in
theorem mX9_pour (l : Launch) (dC : Nat → ClassId) (dI : Nat → Nat → Nat) (ac : Nat → ClassId) (sa : Nat → Nat) (A : Nat → Prop) (ad : Nat → Nat → Nat) (τ0 : tw_T) (k0 : Nat) (k1 : Nat) (Q : Int32 → tw_T → Prop) (hF : F_X9_pour τ0 k0 k1 Q) (hk0 : k0 < gN τ0 0) (hk1 : k1 < gN τ0 21) : Met l yX9_pour wsX9_pour rmX9_pour (va_Pc [.ref (ad 0 k0), .ref (ad 21 k1)] (BX dC dI ac sa A ad τ0)) (va_Qi (fun r (u : tw_T) => Q r u ∧ gN u = gN τ0) (fun u t => PX dC dI ac A ad u t.heap) A) 0 0 A := by
  refine Met.ofW (cc := cX9_pour) (maxL := 3) (ret := (some .int)) (by decide) rfl ?_
  intro p e s m args below meth c s₁ B hml hv
  obtain ⟨rfl, hP, hK, hA, hZ⟩ := hv
  have hx := B.exec
  have hb := B.bytes
  have hr := B.returns
  have hts := atoms_spec (ws := wsX9_pour) B.pre
  have hown : s.vm.findClass RX9 = some m.cls := findClass_of_methodNamed B.named
  have hlocks := B.notSynchronized
  have hS : va_S A s.heap s.heap [] := va_S.rf
  have hN : gN τ0 = gN τ0 := rfl
  have hl := lv_entry ([.ref (ad 0 k0), .ref (ad 21 k1)]) (n := 3) (Nat.le_of_ble_eq_true rfl)
  rw [lg_entry_eq]
  generalize (lg_sl ([.ref (ad 0 k0), .ref (ad 21 k1)]) ++ List.replicate (3 - (lg_sl ([.ref (ad 0 k0), .ref (ad 21 k1)])).length) Slot.unset).toArray = ls at hl ⊢
  have hl : lv_has ls 3 [(0, .ref (ad 0 k0)), (1, .ref (ad 21 k1))] := hl
  unfold F_X9_pour at hF
  have j43 : ∀ (τ : tw_T) (p0 : Nat) (hp0 : p0 < gN τ0 0) (p1 : Nat) (hp1 : p1 < gN τ0 21) (H : Heap) (locs : List Loc) (ls : Array Slot), J_X9_pour_43 τ p0 p1 Q → PX dC dI ac A ad τ H → gN τ = gN τ0 → va_S A s.heap H locs → lv_has ls 3 [(0, .ref (ad 0 p0)), (1, .ref (ad 21 p1))] → W p l e rmX9_pour s m ([.ref (ad 0 k0), .ref (ad 21 k1)] : List Value).toArray below meth c H locs 0 0 (MQ below (va_Qi (fun r (u : tw_T) => Q r u ∧ gN u = gN τ0) (fun u t => PX dC dI ac A ad u t.heap) A) ([.ref (ad 0 k0), .ref (ad 21 k1)] : List Value).toArray s 0 0 A) (F0 m 43 ls []) := by
    intro τ p0 hp0 p1 hp1 H locs ls hF hP hN hS hl
    unfold J_X9_pour_43 at hF
    refine lv_aload_n hx hb dX9_pour_43 rfl (lv_at hl 1 rfl) ?_
    refine lv_aload_n hx hb dX9_pour_44 rfl (lv_at hl 0 rfl) ?_
    refine va_calli (va_runV (As := []) (rest := [.ref (ad 21 p1)]) ⟨hx, hb, hml, hown, hts⟩ (mX9_yearNow l dC dI ac sa A ad τ p0 _ hF (tw_lt hp0 (congrFun hN 0))) (cwV 0 hts gX9_pour_X9_yearNow rfl rfl rfl (by decide +kernel) ⟨Nat.le_of_ble_eq_true rfl, Nat.le_of_ble_eq_true rfl⟩) ⟨BX.blind, tw_recv hK hP (by decide) (tw_lt hp0 (congrFun hN 0)) rfl rfl, fun U hU hW => ⟨rfl, BX.of hP hK hS hA hZ hU hW⟩⟩ rfl rfl hl.1 rfl (lv_room (Nat.le_of_ble_eq_true rfl)) dX9_pour_45 ⟨Nat.le_of_ble_eq_true rfl, Nat.le_of_ble_eq_true rfl⟩) hS (fun q _ h => h) (fun q h => h) (fun r2 τ1 t H locs ht hvm hw hB hz hk hS => ?_)
    obtain ⟨hF, hN9⟩ := hw
    have hP : PX dC dI ac A ad τ1 H := tw_back hB ht
    have hN : gN τ1 = gN τ0 := hN9.trans hN
    refine va_calli (va_runV (As := [.int r2]) (rest := []) ⟨hx, hb, hml, hown, hts⟩ (mX3_worthIn l dC dI ac sa A ad τ1 p1 r2 _ hF (tw_lt hp1 (congrFun hN 21))) (cwV 1 hts gX9_pour_X3_worthIn rfl rfl rfl (by decide +kernel) ⟨Nat.le_of_ble_eq_true rfl, Nat.le_of_ble_eq_true rfl⟩) ⟨BX.blind, tw_recv hK hP (by decide) (tw_lt hp1 (congrFun hN 21)) rfl rfl, fun U hU hW => ⟨rfl, BX.of hP hK hS hA hZ hU hW⟩⟩ rfl rfl hl.1 rfl (lv_room (Nat.le_of_ble_eq_true rfl)) dX9_pour_48 ⟨Nat.le_of_ble_eq_true rfl, Nat.le_of_ble_eq_true rfl⟩) hS (fun q _ h => h) (fun q h => h) (fun r4 τ3 t H locs ht hvm hw hB hz hk hS => ?_)
    obtain ⟨hF, hN9⟩ := hw
    have hP : PX dC dI ac A ad τ3 H := tw_back hB ht
    have hN : gN τ3 = gN τ0 := hN9.trans hN
    refine lv_iconst (v := 4) hx hb dX9_pour_51 (by decide) ?_
    refine lv_iadd hx hb dX9_pour_52 ?_
    refine lv_iconst (v := 5) hx hb dX9_pour_53 (by decide) ?_
    refine lv_idiv hx hb dX9_pour_54 (by decide) ?_
    refine lv_topi (fun z5 ez5 => ?_)
    have hF := hF z5 ez5
    refine lv_istore_n (lv' := [(2, .int z5), (0, .ref (ad 0 p0)), (1, .ref (ad 21 p1))]) hx hb dX9_pour_55 rfl hl (by decide) rfl (fun ls hl => ?_)
    refine lv_aload_n hx hb dX9_pour_56 rfl (lv_at hl 1 rfl) ?_
    obtain ⟨o6, eo6, hF⟩ := hF
    have ho6 : o6 < gN τ0 7 := tw_lt (hP.2.2.2 0 p0 6 o6 (by decide) (tw_lt hp0 (congrFun hN 0)) eo6) (congrFun hN 7).symm
    refine tw_get (v := .ref (ad 7 o6)) hx hb hts (by decide +kernel) hown hK hP (by decide) (tw_lt hp0 (congrFun hN 0)) rfl rfl 6 (by decide) (hts (.fieldLink RX9 50 "WineCellar" "ledger" "LWineCellar$Ledger;") (by decide +kernel)) (fun _ h9 => h9) (show some (va_rf ((gR τ3 0 p0 6).map (ad 7))) = some (.ref (ad 7 o6)) by rw [eo6]; rfl) dX9_pour_57 ?_
    refine lv_dup hx hb dX9_pour_60 rfl ?_
    refine tw_get (v := .long (gJ τ3 7 o6 7)) hx hb hts (by decide +kernel) hown hK hP (by decide) (tw_lt ho6 (congrFun hN 7)) rfl rfl 7 (by decide) (hts (.fieldLink RX9 234 "WineCellar$Ledger" "paid" "J") (by decide +kernel)) (fun _ h9 => h9) rfl dX9_pour_61 ?_
    refine lv_iload_n hx hb dX9_pour_64 rfl (lv_at hl 0 rfl) ?_
    refine lv_i2l (v := z5.toInt64) hx hb dX9_pour_65 rfl ?_
    refine lv_ladd hx hb dX9_pour_66 ?_
    refine tw_put (τ' := sJ τ3 7 o6 7 ((gJ τ3 7 o6 7) + z5.toInt64)) (ty := .long) hx hb hts (by decide +kernel) tyX2 tyX2_ok nmX2 hown hK hP hS (by decide) (tw_lt ho6 (congrFun hN 7)) rfl rfl 7 (by decide) (hts (.fieldLink RX9 234 "WineCellar$Ledger" "paid" "J") (by decide +kernel)) (fun _ h9 => h9) rfl (by decide +kernel) rfl rfl (Nat.le_of_ble_eq_true rfl) dX9_pour_67 (fun H1 ha ho => tw_updJ hP (by decide) (tw_lt ho6 (congrFun hN 7)) ha ho) (fun H locs hP hS => ?_)
    obtain ⟨τ7, eτ7⟩ : ∃ y : tw_T, y = sJ τ3 7 o6 7 ((gJ τ3 7 o6 7) + z5.toInt64) := ⟨_, rfl⟩
    have hF := hF τ7 eτ7
    rw [← eτ7] at hP
    have hN : gN τ7 = gN τ0 := by rw [eτ7]; exact hN
    refine lv_iload_n hx hb dX9_pour_70 rfl (lv_at hl 0 rfl) ?_
    exact W.iret (v := z5) hx hb hr (fun t ht hW => ⟨⟨z5, τ7, rfl, ⟨hF, hN⟩, tw_at hP ht⟩, hS.F ht⟩) hS.2.2 dX9_pour_71
  refine lv_aload_n hx hb dX9_pour_0 rfl (lv_at hl 1 rfl) ?_
  refine lv_dup hx hb dX9_pour_1 rfl ?_
  refine tw_get (v := .int (gI τ0 21 k1 7)) hx hb hts (by decide +kernel) hown hK hP (by decide) hk1 rfl rfl 7 (by decide) (hts (.fieldLink RX9 155 "WineCellar$Lot" "glassesLeft" "I") (by decide +kernel)) (fun _ h9 => h9) rfl dX9_pour_2 ?_
  refine lv_iconst (v := 1) hx hb dX9_pour_5 (by decide) ?_
  refine lv_isub hx hb dX9_pour_6 ?_
  refine tw_put (τ' := sI τ0 21 k1 7 ((gI τ0 21 k1 7) - ((1 : Int32)))) (ty := .int) hx hb hts (by decide +kernel) tyX3 tyX3_ok nmX3 hown hK hP hS (by decide) hk1 rfl rfl 7 (by decide) (hts (.fieldLink RX9 155 "WineCellar$Lot" "glassesLeft" "I") (by decide +kernel)) (fun _ h9 => h9) rfl (by decide +kernel) rfl rfl (Nat.le_of_ble_eq_true rfl) dX9_pour_7 (fun H1 ha ho => tw_updI hP (by decide) hk1 ha ho) (fun H locs hP hS => ?_)
  obtain ⟨τ8, eτ8⟩ : ∃ y : tw_T, y = sI τ0 21 k1 7 ((gI τ0 21 k1 7) - ((1 : Int32))) := ⟨_, rfl⟩
  have hF := hF τ8 eτ8
  rw [← eτ8] at hP
  have hN : gN τ8 = gN τ0 := by rw [eτ8]; exact hN
  refine lv_aload_n hx hb dX9_pour_10 rfl (lv_at hl 0 rfl) ?_
  obtain ⟨o9, eo9, hF⟩ := hF
  have ho9 : o9 < gN τ0 7 := tw_lt (hP.2.2.2 0 k0 6 o9 (by decide) (tw_lt hk0 (congrFun hN 0)) eo9) (congrFun hN 7).symm
  refine tw_get (v := .ref (ad 7 o9)) hx hb hts (by decide +kernel) hown hK hP (by decide) (tw_lt hk0 (congrFun hN 0)) rfl rfl 6 (by decide) (hts (.fieldLink RX9 50 "WineCellar" "ledger" "LWineCellar$Ledger;") (by decide +kernel)) (fun _ h9 => h9) (show some (va_rf ((gR τ8 0 k0 6).map (ad 7))) = some (.ref (ad 7 o9)) by rw [eo9]; rfl) dX9_pour_11 ?_
  refine lv_dup hx hb dX9_pour_14 rfl ?_
  refine tw_get (v := .int (gI τ8 7 o9 5)) hx hb hts (by decide +kernel) hown hK hP (by decide) (tw_lt ho9 (congrFun hN 7)) rfl rfl 5 (by decide) (hts (.fieldLink RX9 348 "WineCellar$Ledger" "poured" "I") (by decide +kernel)) (fun _ h9 => h9) rfl dX9_pour_15 ?_
  refine lv_iconst (v := 1) hx hb dX9_pour_18 (by decide) ?_
  refine lv_iadd hx hb dX9_pour_19 ?_
  refine tw_put (τ' := sI τ8 7 o9 5 ((gI τ8 7 o9 5) + ((1 : Int32)))) (ty := .int) hx hb hts (by decide +kernel) tyX2 tyX2_ok nmX2 hown hK hP hS (by decide) (tw_lt ho9 (congrFun hN 7)) rfl rfl 5 (by decide) (hts (.fieldLink RX9 348 "WineCellar$Ledger" "poured" "I") (by decide +kernel)) (fun _ h9 => h9) rfl (by decide +kernel) rfl rfl (Nat.le_of_ble_eq_true rfl) dX9_pour_20 (fun H1 ha ho => tw_updI hP (by decide) (tw_lt ho9 (congrFun hN 7)) ha ho) (fun H locs hP hS => ?_)
  obtain ⟨τ10, eτ10⟩ : ∃ y : tw_T, y = sI τ8 7 o9 5 ((gI τ8 7 o9 5) + ((1 : Int32))) := ⟨_, rfl⟩
  have hF := hF τ10 eτ10
  rw [← eτ10] at hP
  have hN : gN τ10 = gN τ0 := by rw [eτ10]; exact hN
  refine lv_aload_n hx hb dX9_pour_23 rfl (lv_at hl 1 rfl) ?_
  refine va_calli (va_runV (As := []) (rest := []) ⟨hx, hb, hml, hown, hts⟩ (mX3_isOpen l dC dI ac sa A ad τ10 k1 _ hF (tw_lt hk1 (congrFun hN 21))) (cwV 0 hts gX9_pour_X3_isOpen rfl rfl rfl (by decide +kernel) ⟨Nat.le_of_ble_eq_true rfl, Nat.le_of_ble_eq_true rfl⟩) ⟨BX.blind, tw_recv hK hP (by decide) (tw_lt hk1 (congrFun hN 21)) rfl rfl, fun U hU hW => ⟨rfl, BX.of hP hK hS hA hZ hU hW⟩⟩ rfl rfl hl.1 rfl (lv_room (Nat.le_of_ble_eq_true rfl)) dX9_pour_24 ⟨Nat.le_of_ble_eq_true rfl, Nat.le_of_ble_eq_true rfl⟩) hS (fun q _ h => h) (fun q h => h) (fun r12 τ11 t H locs ht hvm hw hB hz hk hS => ?_)
  obtain ⟨hF, hN9⟩ := hw
  have hP : PX dC dI ac A ad τ11 H := tw_back hB ht
  have hN : gN τ11 = gN τ0 := hN9.trans hN
  refine lv_if_ne (tgt := 43) hx hb dX9_pour_27 (by decide) (fun c13 => ?_) (fun c13 => ?_)
  · have hF := hF.1 c13
    exact j43 τ11 k0 hk0 k1 hk1 _ _ _ hF hP hN hS (lv_sub hl [0, 1] rfl)
  · have hF := hF.2 c13
    refine lv_aload_n hx hb dX9_pour_30 rfl (lv_at hl 0 rfl) ?_
    obtain ⟨o14, eo14, hF⟩ := hF
    have ho14 : o14 < gN τ0 7 := tw_lt (hP.2.2.2 0 k0 6 o14 (by decide) (tw_lt hk0 (congrFun hN 0)) eo14) (congrFun hN 7).symm
    refine tw_get (v := .ref (ad 7 o14)) hx hb hts (by decide +kernel) hown hK hP (by decide) (tw_lt hk0 (congrFun hN 0)) rfl rfl 6 (by decide) (hts (.fieldLink RX9 50 "WineCellar" "ledger" "LWineCellar$Ledger;") (by decide +kernel)) (fun _ h9 => h9) (show some (va_rf ((gR τ11 0 k0 6).map (ad 7))) = some (.ref (ad 7 o14)) by rw [eo14]; rfl) dX9_pour_31 ?_
    refine lv_dup hx hb dX9_pour_34 rfl ?_
    refine tw_get (v := .int (gI τ11 7 o14 3)) hx hb hts (by decide +kernel) hown hK hP (by decide) (tw_lt ho14 (congrFun hN 7)) rfl rfl 3 (by decide) (hts (.fieldLink RX9 270 "WineCellar$Ledger" "emptied" "I") (by decide +kernel)) (fun _ h9 => h9) rfl dX9_pour_35 ?_
    refine lv_iconst (v := 1) hx hb dX9_pour_38 (by decide) ?_
    refine lv_iadd hx hb dX9_pour_39 ?_
    refine tw_put (τ' := sI τ11 7 o14 3 ((gI τ11 7 o14 3) + ((1 : Int32)))) (ty := .int) hx hb hts (by decide +kernel) tyX2 tyX2_ok nmX2 hown hK hP hS (by decide) (tw_lt ho14 (congrFun hN 7)) rfl rfl 3 (by decide) (hts (.fieldLink RX9 270 "WineCellar$Ledger" "emptied" "I") (by decide +kernel)) (fun _ h9 => h9) rfl (by decide +kernel) rfl rfl (Nat.le_of_ble_eq_true rfl) dX9_pour_40 (fun H1 ha ho => tw_updI hP (by decide) (tw_lt ho14 (congrFun hN 7)) ha ho) (fun H locs hP hS => ?_)
    obtain ⟨τ15, eτ15⟩ : ∃ y : tw_T, y = sI τ11 7 o14 3 ((gI τ11 7 o14 3) + ((1 : Int32))) := ⟨_, rfl⟩
    have hF := hF τ15 eτ15
    rw [← eτ15] at hP
    have hN : gN τ15 = gN τ0 := by rw [eτ15]; exact hN
    exact j43 τ15 k0 hk0 k1 hk1 _ _ _ hF hP hN hS (lv_sub hl [0, 1] rfl)
def F_X9_goesAhead (τ0 : tw_T) (k0 : Nat) (x1 : Int32) (x2 : Int32) (Q : Int32 → tw_T → Prop) : Prop := ∃ o1 : Nat, gR τ0 0 k0 8 = some o1 ∧ (vp_in x1 60 ∧ (∃ o3 : Nat, gR τ0 0 k0 8 = some o3 ∧ (vp_in x2 60 ∧ ((((gI τ0 9 o1 x1.toNatClampNeg) = (gI τ0 9 o3 x2.toNatClampNeg) → (∃ o6 : Nat, gR τ0 0 k0 9 = some o6 ∧ (vp_in x1 60 ∧ (∃ o8 : Nat, gR τ0 0 k0 9 = some o8 ∧ (vp_in x2 60 ∧ ((((gI τ0 10 o6 x1.toNatClampNeg) = (gI τ0 10 o8 x2.toNatClampNeg) → (((x2 ≤ x1 → (Q ((0 : Int32)) τ0)) ∧ (¬ x2 ≤ x1 → (Q ((1 : Int32)) τ0))))) ∧ (¬ (gI τ0 10 o6 x1.toNatClampNeg) = (gI τ0 10 o8 x2.toNatClampNeg) → (∃ o12 : Nat, gR τ0 0 k0 9 = some o12 ∧ (vp_in x1 60 ∧ (∃ o14 : Nat, gR τ0 0 k0 9 = some o14 ∧ (vp_in x2 60 ∧ ((((gI τ0 10 o14 x2.toNatClampNeg) ≤ (gI τ0 10 o12 x1.toNatClampNeg) → (Q ((0 : Int32)) τ0)) ∧ (¬ (gI τ0 10 o14 x2.toNatClampNeg) ≤ (gI τ0 10 o12 x1.toNatClampNeg) → (Q ((1 : Int32)) τ0)))))))))))))))) ∧ (¬ (gI τ0 9 o1 x1.toNatClampNeg) = (gI τ0 9 o3 x2.toNatClampNeg) → (∃ o17 : Nat, gR τ0 0 k0 8 = some o17 ∧ (vp_in x1 60 ∧ (∃ o19 : Nat, gR τ0 0 k0 8 = some o19 ∧ (vp_in x2 60 ∧ ((((gI τ0 9 o17 x1.toNatClampNeg) ≤ (gI τ0 9 o19 x2.toNatClampNeg) → (Q ((0 : Int32)) τ0)) ∧ (¬ (gI τ0 9 o17 x1.toNatClampNeg) ≤ (gI τ0 9 o19 x2.toNatClampNeg) → (Q ((1 : Int32)) τ0))))))))))))))
def rmX9_goesAhead : Room := { frames := 0, cells := 0, slots := 0, locals := 0 }
set_option maxHeartbeats 4000000 in
set_option maxRecDepth 100000 in
theorem mX9_goesAhead (l : Launch) (dC : Nat → ClassId) (dI : Nat → Nat → Nat) (ac : Nat → ClassId) (sa : Nat → Nat) (A : Nat → Prop) (ad : Nat → Nat → Nat) (τ0 : tw_T) (k0 : Nat) (x1 : Int32) (x2 : Int32) (Q : Int32 → tw_T → Prop) (hF : F_X9_goesAhead τ0 k0 x1 x2 Q) (hk0 : k0 < gN τ0 0) : Met l yX9_goesAhead wsX9_goesAhead rmX9_goesAhead (va_Pc [.ref (ad 0 k0), .int x1, .int x2] (BX dC dI ac sa A ad τ0)) (va_Qi (fun r (u : tw_T) => Q r u ∧ gN u = gN τ0) (fun u t => PX dC dI ac A ad u t.heap) A) 0 0 A := by
  refine Met.ofW (cc := cX9_goesAhead) (maxL := 3) (ret := (some .boolean)) (by decide) rfl ?_
  intro p e s m args below meth c s₁ B hml hv
  obtain ⟨rfl, hP, hK, hA, hZ⟩ := hv
  have hx := B.exec
  have hb := B.bytes
  have hr := B.returns
  have hts := atoms_spec (ws := wsX9_goesAhead) B.pre
  have hown : s.vm.findClass RX9 = some m.cls := findClass_of_methodNamed B.named
  have hlocks := B.notSynchronized
  have hS : va_S A s.heap s.heap [] := va_S.rf
  have hN : gN τ0 = gN τ0 := rfl
  have hl := lv_entry ([.ref (ad 0 k0), .int x1, .int x2]) (n := 3) (Nat.le_of_ble_eq_true rfl)
  rw [lg_entry_eq]
  generalize (lg_sl ([.ref (ad 0 k0), .int x1, .int x2]) ++ List.replicate (3 - (lg_sl ([.ref (ad 0 k0), .int x1, .int x2])).length) Slot.unset).toArray = ls at hl ⊢
  have hl : lv_has ls 3 [(0, .ref (ad 0 k0)), (1, .int x1), (2, .int x2)] := hl
  unfold F_X9_goesAhead at hF
  refine lv_aload_n hx hb dX9_goesAhead_0 rfl (lv_at hl 0 rfl) ?_
  obtain ⟨o1, eo1, hF⟩ := hF
  have ho1 : o1 < gN τ0 9 := tw_lt (hP.2.2.2 0 k0 8 o1 (by decide) hk0 eo1) (congrFun hN 9).symm
  refine tw_get (v := .ref (ad 9 o1)) hx hb hts (by decide +kernel) hown hK hP (by decide) hk0 rfl rfl 8 (by decide) (hts (.fieldLink RX9 61 "WineCellar" "scores" "[I") (by decide +kernel)) (fun _ h9 => h9) (show some (va_rf ((gR τ0 0 k0 8).map (ad 9))) = some (.ref (ad 9 o1)) by rw [eo1]; rfl) dX9_goesAhead_1 ?_
  refine lv_iload_n hx hb dX9_goesAhead_4 rfl (lv_at hl 1 rfl) ?_
  obtain ⟨hi2, hF⟩ := hF
  refine tw_iald hx hb hK hP (by decide) ho1 rfl 0 rfl hi2 dX9_goesAhead_5 ?_
  refine lv_aload_n hx hb dX9_goesAhead_6 rfl (lv_at hl 0 rfl) ?_
  obtain ⟨o3, eo3, hF⟩ := hF
  have ho3 : o3 < gN τ0 9 := tw_lt (hP.2.2.2 0 k0 8 o3 (by decide) hk0 eo3) (congrFun hN 9).symm
  refine tw_get (v := .ref (ad 9 o3)) hx hb hts (by decide +kernel) hown hK hP (by decide) hk0 rfl rfl 8 (by decide) (hts (.fieldLink RX9 61 "WineCellar" "scores" "[I") (by decide +kernel)) (fun _ h9 => h9) (show some (va_rf ((gR τ0 0 k0 8).map (ad 9))) = some (.ref (ad 9 o3)) by rw [eo3]; rfl) dX9_goesAhead_7 ?_
  refine lv_iload_n hx hb dX9_goesAhead_10 rfl (lv_at hl 2 rfl) ?_
  obtain ⟨hi4, hF⟩ := hF
  refine tw_iald hx hb hK hP (by decide) ho3 rfl 0 rfl hi4 dX9_goesAhead_11 ?_
  refine lv_icmp_eq (tgt := 36) hx hb dX9_goesAhead_12 (by decide) (fun c5 => ?_) (fun c5 => ?_)
  · have hF := hF.1 c5
    refine lv_aload_n hx hb dX9_goesAhead_36 rfl (lv_at hl 0 rfl) ?_
    obtain ⟨o6, eo6, hF⟩ := hF
    have ho6 : o6 < gN τ0 10 := tw_lt (hP.2.2.2 0 k0 9 o6 (by decide) hk0 eo6) (congrFun hN 10).symm
    refine tw_get (v := .ref (ad 10 o6)) hx hb hts (by decide +kernel) hown hK hP (by decide) hk0 rfl rfl 9 (by decide) (hts (.fieldLink RX9 65 "WineCellar" "worths" "[I") (by decide +kernel)) (fun _ h9 => h9) (show some (va_rf ((gR τ0 0 k0 9).map (ad 10))) = some (.ref (ad 10 o6)) by rw [eo6]; rfl) dX9_goesAhead_37 ?_
    refine lv_iload_n hx hb dX9_goesAhead_40 rfl (lv_at hl 1 rfl) ?_
    obtain ⟨hi7, hF⟩ := hF
    refine tw_iald hx hb hK hP (by decide) ho6 rfl 0 rfl hi7 dX9_goesAhead_41 ?_
    refine lv_aload_n hx hb dX9_goesAhead_42 rfl (lv_at hl 0 rfl) ?_
    obtain ⟨o8, eo8, hF⟩ := hF
    have ho8 : o8 < gN τ0 10 := tw_lt (hP.2.2.2 0 k0 9 o8 (by decide) hk0 eo8) (congrFun hN 10).symm
    refine tw_get (v := .ref (ad 10 o8)) hx hb hts (by decide +kernel) hown hK hP (by decide) hk0 rfl rfl 9 (by decide) (hts (.fieldLink RX9 65 "WineCellar" "worths" "[I") (by decide +kernel)) (fun _ h9 => h9) (show some (va_rf ((gR τ0 0 k0 9).map (ad 10))) = some (.ref (ad 10 o8)) by rw [eo8]; rfl) dX9_goesAhead_43 ?_
    refine lv_iload_n hx hb dX9_goesAhead_46 rfl (lv_at hl 2 rfl) ?_
    obtain ⟨hi9, hF⟩ := hF
    refine tw_iald hx hb hK hP (by decide) ho8 rfl 0 rfl hi9 dX9_goesAhead_47 ?_
    refine lv_icmp_eq (tgt := 72) hx hb dX9_goesAhead_48 (by decide) (fun c10 => ?_) (fun c10 => ?_)
    · have hF := hF.1 c10
      refine lv_iload_n hx hb dX9_goesAhead_72 rfl (lv_at hl 1 rfl) ?_
      refine lv_iload_n hx hb dX9_goesAhead_73 rfl (lv_at hl 2 rfl) ?_
      refine lv_icmp_ge (tgt := 81) hx hb dX9_goesAhead_74 (by decide) (fun c11 => ?_) (fun c11 => ?_)
      · have hF := hF.1 c11
        refine lv_iconst (v := 0) hx hb dX9_goesAhead_81 (by decide) ?_
        exact W.zret (v := (0 : Int32)) (ty := .boolean) hx hb hr rfl (fun t ht hW => ⟨⟨((0 : Int32)), τ0, rfl, ⟨hF, hN⟩, tw_at hP ht⟩, hS.F ht⟩) hS.2.2 dX9_goesAhead_82
      · have hF := hF.2 c11
        refine lv_iconst (v := 1) hx hb dX9_goesAhead_77 (by decide) ?_
        refine lv_goto (tgt := 82) hx hb dX9_goesAhead_78 (by decide) ?_
        exact W.zret (v := (1 : Int32)) (ty := .boolean) hx hb hr rfl (fun t ht hW => ⟨⟨((1 : Int32)), τ0, rfl, ⟨hF, hN⟩, tw_at hP ht⟩, hS.F ht⟩) hS.2.2 dX9_goesAhead_82
    · have hF := hF.2 c10
      refine lv_aload_n hx hb dX9_goesAhead_51 rfl (lv_at hl 0 rfl) ?_
      obtain ⟨o12, eo12, hF⟩ := hF
      have ho12 : o12 < gN τ0 10 := tw_lt (hP.2.2.2 0 k0 9 o12 (by decide) hk0 eo12) (congrFun hN 10).symm
      refine tw_get (v := .ref (ad 10 o12)) hx hb hts (by decide +kernel) hown hK hP (by decide) hk0 rfl rfl 9 (by decide) (hts (.fieldLink RX9 65 "WineCellar" "worths" "[I") (by decide +kernel)) (fun _ h9 => h9) (show some (va_rf ((gR τ0 0 k0 9).map (ad 10))) = some (.ref (ad 10 o12)) by rw [eo12]; rfl) dX9_goesAhead_52 ?_
      refine lv_iload_n hx hb dX9_goesAhead_55 rfl (lv_at hl 1 rfl) ?_
      obtain ⟨hi13, hF⟩ := hF
      refine tw_iald hx hb hK hP (by decide) ho12 rfl 0 rfl hi13 dX9_goesAhead_56 ?_
      refine lv_aload_n hx hb dX9_goesAhead_57 rfl (lv_at hl 0 rfl) ?_
      obtain ⟨o14, eo14, hF⟩ := hF
      have ho14 : o14 < gN τ0 10 := tw_lt (hP.2.2.2 0 k0 9 o14 (by decide) hk0 eo14) (congrFun hN 10).symm
      refine tw_get (v := .ref (ad 10 o14)) hx hb hts (by decide +kernel) hown hK hP (by decide) hk0 rfl rfl 9 (by decide) (hts (.fieldLink RX9 65 "WineCellar" "worths" "[I") (by decide +kernel)) (fun _ h9 => h9) (show some (va_rf ((gR τ0 0 k0 9).map (ad 10))) = some (.ref (ad 10 o14)) by rw [eo14]; rfl) dX9_goesAhead_58 ?_
      refine lv_iload_n hx hb dX9_goesAhead_61 rfl (lv_at hl 2 rfl) ?_
      obtain ⟨hi15, hF⟩ := hF
      refine tw_iald hx hb hK hP (by decide) ho14 rfl 0 rfl hi15 dX9_goesAhead_62 ?_
      refine lv_icmp_ge (tgt := 70) hx hb dX9_goesAhead_63 (by decide) (fun c16 => ?_) (fun c16 => ?_)
      · have hF := hF.1 c16
        refine lv_iconst (v := 0) hx hb dX9_goesAhead_70 (by decide) ?_
        exact W.zret (v := (0 : Int32)) (ty := .boolean) hx hb hr rfl (fun t ht hW => ⟨⟨((0 : Int32)), τ0, rfl, ⟨hF, hN⟩, tw_at hP ht⟩, hS.F ht⟩) hS.2.2 dX9_goesAhead_71
      · have hF := hF.2 c16
        refine lv_iconst (v := 1) hx hb dX9_goesAhead_66 (by decide) ?_
        refine lv_goto (tgt := 71) hx hb dX9_goesAhead_67 (by decide) ?_
        exact W.zret (v := (1 : Int32)) (ty := .boolean) hx hb hr rfl (fun t ht hW => ⟨⟨((1 : Int32)), τ0, rfl, ⟨hF, hN⟩, tw_at hP ht⟩, hS.F ht⟩) hS.2.2 dX9_goesAhead_71
  · have hF := hF.2 c5
    refine lv_aload_n hx hb dX9_goesAhead_15 rfl (lv_at hl 0 rfl) ?_
    obtain ⟨o17, eo17, hF⟩ := hF
    have ho17 : o17 < gN τ0 9 := tw_lt (hP.2.2.2 0 k0 8 o17 (by decide) hk0 eo17) (congrFun hN 9).symm
    refine tw_get (v := .ref (ad 9 o17)) hx hb hts (by decide +kernel) hown hK hP (by decide) hk0 rfl rfl 8 (by decide) (hts (.fieldLink RX9 61 "WineCellar" "scores" "[I") (by decide +kernel)) (fun _ h9 => h9) (show some (va_rf ((gR τ0 0 k0 8).map (ad 9))) = some (.ref (ad 9 o17)) by rw [eo17]; rfl) dX9_goesAhead_16 ?_
    refine lv_iload_n hx hb dX9_goesAhead_19 rfl (lv_at hl 1 rfl) ?_
    obtain ⟨hi18, hF⟩ := hF
    refine tw_iald hx hb hK hP (by decide) ho17 rfl 0 rfl hi18 dX9_goesAhead_20 ?_
    refine lv_aload_n hx hb dX9_goesAhead_21 rfl (lv_at hl 0 rfl) ?_
    obtain ⟨o19, eo19, hF⟩ := hF
    have ho19 : o19 < gN τ0 9 := tw_lt (hP.2.2.2 0 k0 8 o19 (by decide) hk0 eo19) (congrFun hN 9).symm
    refine tw_get (v := .ref (ad 9 o19)) hx hb hts (by decide +kernel) hown hK hP (by decide) hk0 rfl rfl 8 (by decide) (hts (.fieldLink RX9 61 "WineCellar" "scores" "[I") (by decide +kernel)) (fun _ h9 => h9) (show some (va_rf ((gR τ0 0 k0 8).map (ad 9))) = some (.ref (ad 9 o19)) by rw [eo19]; rfl) dX9_goesAhead_22 ?_
    refine lv_iload_n hx hb dX9_goesAhead_25 rfl (lv_at hl 2 rfl) ?_
    obtain ⟨hi20, hF⟩ := hF
    refine tw_iald hx hb hK hP (by decide) ho19 rfl 0 rfl hi20 dX9_goesAhead_26 ?_
    refine lv_icmp_le (tgt := 34) hx hb dX9_goesAhead_27 (by decide) (fun c21 => ?_) (fun c21 => ?_)
    · have hF := hF.1 c21
      refine lv_iconst (v := 0) hx hb dX9_goesAhead_34 (by decide) ?_
      exact W.zret (v := (0 : Int32)) (ty := .boolean) hx hb hr rfl (fun t ht hW => ⟨⟨((0 : Int32)), τ0, rfl, ⟨hF, hN⟩, tw_at hP ht⟩, hS.F ht⟩) hS.2.2 dX9_goesAhead_35
    · have hF := hF.2 c21
      refine lv_iconst (v := 1) hx hb dX9_goesAhead_30 (by decide) ?_
      refine lv_goto (tgt := 35) hx hb dX9_goesAhead_31 (by decide) ?_
      exact W.zret (v := (1 : Int32)) (ty := .boolean) hx hb hr rfl (fun t ht hW => ⟨⟨((1 : Int32)), τ0, rfl, ⟨hF, hN⟩, tw_at hP ht⟩, hS.F ht⟩) hS.2.2 dX9_goesAhead_35
def J_X9_matchedAhead_33 (τ : tw_T) (p0 : Nat) (u1 : Int32) (u2 : Int32) (u3 : Int32) (Q : Int32 → tw_T → Prop) (RC EX : tw_T → Int32 → Int32 → Prop) : Prop := ∀ z1 : Int32, z1 = u3 + (1 : Int32) → (RC τ u2 z1)
def L_X9_matchedAhead_4 (p0 : Nat) (u1 : Int32) (Q : Int32 → tw_T → Prop) (EX : tw_T → Int32 → Int32 → Prop) : Nat → tw_T → Int32 → Int32 → Prop
  | 0, _, _, _ => False
  | n + 1, τ, u2, u3 => (((gI τ 0 p0 12) ≤ u3 → (EX τ u2 u3)) ∧ (¬ (gI τ 0 p0 12) ≤ u3 → (∃ o3 : Nat, gR τ 0 p0 10 = some o3 ∧ (vp_in u3 60 ∧ ((((gI τ 11 o3 u3.toNatClampNeg) = 0 → (J_X9_matchedAhead_33 τ p0 u1 u2 u3 Q (fun t v2 v3 => L_X9_matchedAhead_4 p0 u1 Q EX n t v2 v3) EX)) ∧ (¬ (gI τ 11 o3 u3.toNatClampNeg) = 0 → (F_X9_goesAhead τ p0 u3 u1 (fun (r7 : Int32) (τ6 : tw_T) => (((r7 = 0 → (J_X9_matchedAhead_33 τ6 p0 u1 u2 u3 Q (fun t v2 v3 => L_X9_matchedAhead_4 p0 u1 Q EX n t v2 v3) EX)) ∧ (¬ r7 = 0 → (∀ z9 : Int32, z9 = u2 + (1 : Int32) → (J_X9_matchedAhead_33 τ6 p0 u1 z9 u3 Q (fun t v2 v3 => L_X9_matchedAhead_4 p0 u1 Q EX n t v2 v3) EX))))))))))))))
def F_X9_matchedAhead (τ0 : tw_T) (k0 : Nat) (x1 : Int32) (Q : Int32 → tw_T → Prop) : Prop := ∃ n10 : Nat, L_X9_matchedAhead_4 k0 x1 Q (fun (τ11 : tw_T) (z12 : Int32) (z13 : Int32) => Q z12 τ11) n10 τ0 ((0 : Int32)) ((0 : Int32))
def rmX9_matchedAhead : Room := { frames := 1, cells := 0, slots := 0, locals := 22 }
set_option maxHeartbeats 4000000 in
set_option maxRecDepth 100000 in
theorem mX9_matchedAhead (l : Launch) (dC : Nat → ClassId) (dI : Nat → Nat → Nat) (ac : Nat → ClassId) (sa : Nat → Nat) (A : Nat → Prop) (ad : Nat → Nat → Nat) (τ0 : tw_T) (k0 : Nat) (x1 : Int32) (Q : Int32 → tw_T → Prop) (hF : F_X9_matchedAhead τ0 k0 x1 Q) (hk0 : k0 < gN τ0 0) : Met l yX9_matchedAhead wsX9_matchedAhead rmX9_matchedAhead (va_Pc [.ref (ad 0 k0), .int x1] (BX dC dI ac sa A ad τ0)) (va_Qi (fun r (u : tw_T) => Q r u ∧ gN u = gN τ0) (fun u t => PX dC dI ac A ad u t.heap) A) 0 0 A := by
  refine Met.ofW (cc := cX9_matchedAhead) (maxL := 4) (ret := (some .int)) (by decide) rfl ?_
  intro p e s m args below meth c s₁ B hml hv
  obtain ⟨rfl, hP, hK, hA, hZ⟩ := hv
  have hx := B.exec
  have hb := B.bytes
  have hr := B.returns
  have hts := atoms_spec (ws := wsX9_matchedAhead) B.pre
  have hown : s.vm.findClass RX9 = some m.cls := findClass_of_methodNamed B.named
  have hlocks := B.notSynchronized
  have hS : va_S A s.heap s.heap [] := va_S.rf
  have hN : gN τ0 = gN τ0 := rfl
  have hl := lv_entry ([.ref (ad 0 k0), .int x1]) (n := 4) (Nat.le_of_ble_eq_true rfl)
  rw [lg_entry_eq]
  generalize (lg_sl ([.ref (ad 0 k0), .int x1]) ++ List.replicate (4 - (lg_sl ([.ref (ad 0 k0), .int x1])).length) Slot.unset).toArray = ls at hl ⊢
  have hl : lv_has ls 4 [(0, .ref (ad 0 k0)), (1, .int x1)] := hl
  unfold F_X9_matchedAhead at hF
  have l4 : ∀ (p0 : Nat) (hp0 : p0 < gN τ0 0) (u1 : Int32) (EX : tw_T → Int32 → Int32 → Prop) (n : Nat) (τ : tw_T) (u2 : Int32) (u3 : Int32) (H : Heap) (locs : List Loc) (ls : Array Slot), L_X9_matchedAhead_4 p0 u1 Q EX n τ u2 u3 → PX dC dI ac A ad τ H → gN τ = gN τ0 → va_S A s.heap H locs → lv_has ls 4 [(0, .ref (ad 0 p0)), (1, .int u1), (2, .int u2), (3, .int u3)] → (∀ (τ : tw_T) (u2 : Int32) (u3 : Int32) (H : Heap) (locs : List Loc) (ls : Array Slot), EX τ u2 u3 → PX dC dI ac A ad τ H → gN τ = gN τ0 → va_S A s.heap H locs → lv_has ls 4 [(0, .ref (ad 0 p0)), (1, .int u1), (2, .int u2), (3, .int u3)] → W p l e rmX9_matchedAhead s m ([.ref (ad 0 k0), .int x1] : List Value).toArray below meth c H locs 0 0 (MQ below (va_Qi (fun r (u : tw_T) => Q r u ∧ gN u = gN τ0) (fun u t => PX dC dI ac A ad u t.heap) A) ([.ref (ad 0 k0), .int x1] : List Value).toArray s 0 0 A) (F0 m 39 ls [])) → W p l e rmX9_matchedAhead s m ([.ref (ad 0 k0), .int x1] : List Value).toArray below meth c H locs 0 0 (MQ below (va_Qi (fun r (u : tw_T) => Q r u ∧ gN u = gN τ0) (fun u t => PX dC dI ac A ad u t.heap) A) ([.ref (ad 0 k0), .int x1] : List Value).toArray s 0 0 A) (F0 m 4 ls []) := by
    intro p0 hp0 u1 EX n
    induction n with
    | zero => intro τ u2 u3 H locs ls hF; exact hF.elim
    | succ n ih =>
      intro τ u2 u3 H locs ls hF hP hN hS hl hEX
      rw [L_X9_matchedAhead_4] at hF
      have j33 : ∀ (τ : tw_T) (p0 : Nat) (hp0 : p0 < gN τ0 0) (u1 : Int32) (u2 : Int32) (u3 : Int32) (H : Heap) (locs : List Loc) (ls : Array Slot) (RC EX : tw_T → Int32 → Int32 → Prop), J_X9_matchedAhead_33 τ p0 u1 u2 u3 Q RC EX → PX dC dI ac A ad τ H → gN τ = gN τ0 → va_S A s.heap H locs → lv_has ls 4 [(0, .ref (ad 0 p0)), (1, .int u1), (2, .int u2), (3, .int u3)] → (∀ (τ : tw_T) (u2 : Int32) (u3 : Int32) (H : Heap) (locs : List Loc) (ls : Array Slot), RC τ u2 u3 → PX dC dI ac A ad τ H → gN τ = gN τ0 → va_S A s.heap H locs → lv_has ls 4 [(0, .ref (ad 0 p0)), (1, .int u1), (2, .int u2), (3, .int u3)] → W p l e rmX9_matchedAhead s m ([.ref (ad 0 k0), .int x1] : List Value).toArray below meth c H locs 0 0 (MQ below (va_Qi (fun r (u : tw_T) => Q r u ∧ gN u = gN τ0) (fun u t => PX dC dI ac A ad u t.heap) A) ([.ref (ad 0 k0), .int x1] : List Value).toArray s 0 0 A) (F0 m 4 ls [])) → (∀ (τ : tw_T) (u2 : Int32) (u3 : Int32) (H : Heap) (locs : List Loc) (ls : Array Slot), EX τ u2 u3 → PX dC dI ac A ad τ H → gN τ = gN τ0 → va_S A s.heap H locs → lv_has ls 4 [(0, .ref (ad 0 p0)), (1, .int u1), (2, .int u2), (3, .int u3)] → W p l e rmX9_matchedAhead s m ([.ref (ad 0 k0), .int x1] : List Value).toArray below meth c H locs 0 0 (MQ below (va_Qi (fun r (u : tw_T) => Q r u ∧ gN u = gN τ0) (fun u t => PX dC dI ac A ad u t.heap) A) ([.ref (ad 0 k0), .int x1] : List Value).toArray s 0 0 A) (F0 m 39 ls [])) → W p l e rmX9_matchedAhead s m ([.ref (ad 0 k0), .int x1] : List Value).toArray below meth c H locs 0 0 (MQ below (va_Qi (fun r (u : tw_T) => Q r u ∧ gN u = gN τ0) (fun u t => PX dC dI ac A ad u t.heap) A) ([.ref (ad 0 k0), .int x1] : List Value).toArray s 0 0 A) (F0 m 33 ls []) := by
        intro τ p0 hp0 u1 u2 u3 H locs ls RC EX hF hP hN hS hl hRC hEX
        unfold J_X9_matchedAhead_33 at hF
        obtain ⟨z1, ez1⟩ : ∃ y : Int32, y = u3 + (1 : Int32) := ⟨_, rfl⟩
        have hF := hF z1 ez1
        refine lv_iinc (v := z1) (lv' := [(3, .int z1), (0, .ref (ad 0 p0)), (1, .int u1), (2, .int u2)]) hx hb dX9_matchedAhead_33 hl (k := 3) rfl (by rw [ez1]; rfl) (by decide) rfl (fun ls hl => ?_)
        refine lv_goto (tgt := 4) hx hb dX9_matchedAhead_36 (by decide) ?_
        exact hRC τ u2 z1 _ _ _ hF hP hN hS (lv_sub hl [1, 2, 3, 0] rfl)
      refine lv_iload_n hx hb dX9_matchedAhead_4 rfl (lv_at hl 3 rfl) ?_
      refine lv_aload_n hx hb dX9_matchedAhead_5 rfl (lv_at hl 0 rfl) ?_
      refine tw_get (v := .int (gI τ 0 p0 12)) hx hb hts (by decide +kernel) hown hK hP (by decide) (tw_lt hp0 (congrFun hN 0)) rfl rfl 12 (by decide) (hts (.fieldLink RX9 76 "WineCellar" "lotCount" "I") (by decide +kernel)) (fun _ h9 => h9) rfl dX9_matchedAhead_6 ?_
      refine lv_icmp_ge (tgt := 39) hx hb dX9_matchedAhead_9 (by decide) (fun c2 => ?_) (fun c2 => ?_)
      · have hF := hF.1 c2
        exact hEX τ u2 u3 _ _ _ hF hP hN hS (lv_sub hl [0, 1, 2, 3] rfl)
      · have hF := hF.2 c2
        refine lv_aload_n hx hb dX9_matchedAhead_12 rfl (lv_at hl 0 rfl) ?_
        obtain ⟨o3, eo3, hF⟩ := hF
        have ho3 : o3 < gN τ0 11 := tw_lt (hP.2.2.2 0 p0 10 o3 (by decide) (tw_lt hp0 (congrFun hN 0)) eo3) (congrFun hN 11).symm
        refine tw_get (v := .ref (ad 11 o3)) hx hb hts (by decide +kernel) hown hK hP (by decide) (tw_lt hp0 (congrFun hN 0)) rfl rfl 10 (by decide) (hts (.fieldLink RX9 68 "WineCellar" "matched" "[Z") (by decide +kernel)) (fun _ h9 => h9) (show some (va_rf ((gR τ 0 p0 10).map (ad 11))) = some (.ref (ad 11 o3)) by rw [eo3]; rfl) dX9_matchedAhead_13 ?_
        refine lv_iload_n hx hb dX9_matchedAhead_16 rfl (lv_at hl 3 rfl) ?_
        obtain ⟨hi4, hF⟩ := hF
        refine tw_zald hx hb hK hP (by decide) (tw_lt ho3 (congrFun hN 11)) rfl 2 rfl hi4 dX9_matchedAhead_17 ?_
        refine lv_if_eq (tgt := 33) hx hb dX9_matchedAhead_18 (by decide) (fun c5 => ?_) (fun c5 => ?_)
        · have hF := hF.1 c5
          exact j33 τ p0 hp0 u1 u2 u3 _ _ _ _ _ hF hP hN hS (lv_sub hl [0, 1, 2, 3] rfl) (fun t v2 v3 H locs ls hF hP hN hS hl => ih t v2 v3 _ _ _ hF hP hN hS hl hEX) hEX
        · have hF := hF.2 c5
          refine lv_aload_n hx hb dX9_matchedAhead_21 rfl (lv_at hl 0 rfl) ?_
          refine lv_iload_n hx hb dX9_matchedAhead_22 rfl (lv_at hl 3 rfl) ?_
          refine lv_iload_n hx hb dX9_matchedAhead_23 rfl (lv_at hl 1 rfl) ?_
          refine va_calli (va_runV (As := [.int u3, .int u1]) (rest := []) ⟨hx, hb, hml, hown, hts⟩ (mX9_goesAhead l dC dI ac sa A ad τ p0 u3 u1 _ hF (tw_lt hp0 (congrFun hN 0))) (cwV 2 hts gX9_matchedAhead_X9_goesAhead rfl rfl rfl (by decide +kernel) ⟨Nat.le_of_ble_eq_true rfl, Nat.le_of_ble_eq_true rfl⟩) ⟨BX.blind, tw_recv hK hP (by decide) (tw_lt hp0 (congrFun hN 0)) rfl rfl, fun U hU hW => ⟨rfl, BX.of hP hK hS hA hZ hU hW⟩⟩ rfl rfl hl.1 rfl (lv_room (Nat.le_of_ble_eq_true rfl)) dX9_matchedAhead_24 ⟨Nat.le_of_ble_eq_true rfl, Nat.le_of_ble_eq_true rfl⟩) hS (fun q _ h => h) (fun q h => h) (fun r7 τ6 t H locs ht hvm hw hB hz hk hS => ?_)
          obtain ⟨hF, hN9⟩ := hw
          have hP : PX dC dI ac A ad τ6 H := tw_back hB ht
          have hN : gN τ6 = gN τ0 := hN9.trans hN
          refine lv_if_eq (tgt := 33) hx hb dX9_matchedAhead_27 (by decide) (fun c8 => ?_) (fun c8 => ?_)
          · have hF := hF.1 c8
            exact j33 τ6 p0 hp0 u1 u2 u3 _ _ _ _ _ hF hP hN hS (lv_sub hl [0, 1, 2, 3] rfl) (fun t v2 v3 H locs ls hF hP hN hS hl => ih t v2 v3 _ _ _ hF hP hN hS hl hEX) hEX
          · have hF := hF.2 c8
            obtain ⟨z9, ez9⟩ : ∃ y : Int32, y = u2 + (1 : Int32) := ⟨_, rfl⟩
            have hF := hF z9 ez9
            refine lv_iinc (v := z9) (lv' := [(2, .int z9), (0, .ref (ad 0 p0)), (1, .int u1), (3, .int u3)]) hx hb dX9_matchedAhead_30 hl (k := 2) rfl (by rw [ez9]; rfl) (by decide) rfl (fun ls hl => ?_)
            exact j33 τ6 p0 hp0 u1 z9 u3 _ _ _ _ _ hF hP hN hS (lv_sub hl [1, 2, 0, 3] rfl) (fun t v2 v3 H locs ls hF hP hN hS hl => ih t v2 v3 _ _ _ hF hP hN hS hl hEX) hEX
  refine lv_iconst (v := 0) hx hb dX9_matchedAhead_0 (by decide) ?_
  refine lv_istore_n (lv' := [(2, .int ((0 : Int32))), (0, .ref (ad 0 k0)), (1, .int x1)]) hx hb dX9_matchedAhead_1 rfl hl (by decide) rfl (fun ls hl => ?_)
  refine lv_iconst (v := 0) hx hb dX9_matchedAhead_2 (by decide) ?_
  refine lv_istore_n (lv' := [(3, .int ((0 : Int32))), (2, .int ((0 : Int32))), (0, .ref (ad 0 k0)), (1, .int x1)]) hx hb dX9_matchedAhead_3 rfl hl (by decide) rfl (fun ls hl => ?_)
  obtain ⟨n10, hF⟩ := hF
  refine l4 k0 hk0 x1 _ n10 τ0 ((0 : Int32)) ((0 : Int32)) _ _ _ hF hP hN hS (lv_sub hl [2, 3, 1, 0] rfl) ?_
  intro τ11 z12 z13 H locs ls hF hP hN hS hl
  refine lv_iload_n hx hb dX9_matchedAhead_39 rfl (lv_at hl 2 rfl) ?_
  exact W.iret (v := z12) hx hb hr (fun t ht hW => ⟨⟨z12, τ11, rfl, ⟨hF, hN⟩, tw_at hP ht⟩, hS.F ht⟩) hS.2.2 dX9_matchedAhead_40
def F_X9_count (τ0 : tw_T) (k0 : Nat) (x1 : Int32) (Q : Int32 → tw_T → Prop) : Prop := ((x1.toInt < 0 ∨ 14 < x1.toInt → (Q ((-1 : Int32)) τ0)) ∧ (x1 = (0 : Int32) → (∃ o1 : Nat, gR τ0 0 k0 6 = some o1 ∧ (Q (gI τ0 7 o1 0) τ0))) ∧ (x1 = (1 : Int32) → (∃ o2 : Nat, gR τ0 0 k0 6 = some o2 ∧ (Q (gI τ0 7 o2 1) τ0))) ∧ (x1 = (2 : Int32) → (∃ o3 : Nat, gR τ0 0 k0 4 = some o3 ∧ (F_X5_allBottles τ0 o3 (fun (r5 : Int32) (τ4 : tw_T) => (Q r5 τ4))))) ∧ (x1 = (3 : Int32) → (F_X9_openBottles τ0 k0 (fun (r7 : Int32) (τ6 : tw_T) => (Q r7 τ6)))) ∧ (x1 = (4 : Int32) → (∃ o8 : Nat, gR τ0 0 k0 6 = some o8 ∧ (Q (gI τ0 7 o8 2) τ0))) ∧ (x1 = (5 : Int32) → (∃ o9 : Nat, gR τ0 0 k0 6 = some o9 ∧ (Q (gI τ0 7 o9 3) τ0))) ∧ (x1 = (6 : Int32) → (∃ o10 : Nat, gR τ0 0 k0 6 = some o10 ∧ (Q (gI τ0 7 o10 4) τ0))) ∧ (x1 = (7 : Int32) → (∃ o11 : Nat, gR τ0 0 k0 6 = some o11 ∧ (Q (gI τ0 7 o11 5) τ0))) ∧ (x1 = (8 : Int32) → (∃ o12 : Nat, gR τ0 0 k0 6 = some o12 ∧ (Q (gI τ0 7 o12 6) τ0))) ∧ (x1 = (9 : Int32) → (Q (gI τ0 0 k0 11) τ0)) ∧ (x1 = (10 : Int32) → (Q (gI τ0 0 k0 12) τ0)) ∧ (x1 = (11 : Int32) → (Q (gI τ0 0 k0 13) τ0)) ∧ (x1 = (12 : Int32) → (Q (gI τ0 0 k0 14) τ0)) ∧ (x1 = (13 : Int32) → (Q (gI τ0 0 k0 15) τ0)) ∧ (x1 = (14 : Int32) → (∃ o13 : Nat, gR τ0 0 k0 5 = some o13 ∧ (Q (gI τ0 6 o13 1) τ0))))
def rmX9_count : Room := { frames := 2, cells := 0, slots := 0, locals := 42 }
set_option maxHeartbeats 4000000 in
set_option maxRecDepth 100000 in
theorem mX9_count (l : Launch) (dC : Nat → ClassId) (dI : Nat → Nat → Nat) (ac : Nat → ClassId) (sa : Nat → Nat) (A : Nat → Prop) (ad : Nat → Nat → Nat) (τ0 : tw_T) (k0 : Nat) (x1 : Int32) (Q : Int32 → tw_T → Prop) (hF : F_X9_count τ0 k0 x1 Q) (hk0 : k0 < gN τ0 0) : Met l yX9_count wsX9_count rmX9_count (va_Pc [.ref (ad 0 k0), .int x1] (BX dC dI ac sa A ad τ0)) (va_Qi (fun r (u : tw_T) => Q r u ∧ gN u = gN τ0) (fun u t => PX dC dI ac A ad u t.heap) A) 0 0 A := by
  refine Met.ofW (cc := cX9_count) (maxL := 2) (ret := (some .int)) (by decide) rfl ?_
  intro p e s m args below meth c s₁ B hml hv
  obtain ⟨rfl, hP, hK, hA, hZ⟩ := hv
  have hx := B.exec
  have hb := B.bytes
  have hr := B.returns
  have hts := atoms_spec (ws := wsX9_count) B.pre
  have hown : s.vm.findClass RX9 = some m.cls := findClass_of_methodNamed B.named
  have hlocks := B.notSynchronized
  have hS : va_S A s.heap s.heap [] := va_S.rf
  have hN : gN τ0 = gN τ0 := rfl
  have hl := lv_entry ([.ref (ad 0 k0), .int x1]) (n := 2) (Nat.le_of_ble_eq_true rfl)
  rw [lg_entry_eq]
  generalize (lg_sl ([.ref (ad 0 k0), .int x1]) ++ List.replicate (2 - (lg_sl ([.ref (ad 0 k0), .int x1])).length) Slot.unset).toArray = ls at hl ⊢
  have hl : lv_has ls 2 [(0, .ref (ad 0 k0)), (1, .int x1)] := hl
  unfold F_X9_count at hF
  refine lv_iload_n hx hb dX9_count_0 rfl (lv_at hl 1 rfl) ?_
  by_cases cd : x1.toInt < 0 ∨ 14 < x1.toInt
  · have hF := hF.1 cd
    refine lv_tableOut (tgt := 178) hx hb dX9_count_1 cd (by decide) ?_
    refine lv_iconst (v := (-1)) hx hb dX9_count_178 (by decide) ?_
    exact W.iret (v := (-1 : Int32)) hx hb hr (fun t ht hW => ⟨⟨((-1 : Int32)), τ0, rfl, ⟨hF, hN⟩, tw_at hP ht⟩, hS.F ht⟩) hS.2.2 dX9_count_179
  · have hF := hF.2
    rcases (show x1.toInt = 0 ∨ x1.toInt = 1 ∨ x1.toInt = 2 ∨ x1.toInt = 3 ∨ x1.toInt = 4 ∨ x1.toInt = 5 ∨ x1.toInt = 6 ∨ x1.toInt = 7 ∨ x1.toInt = 8 ∨ x1.toInt = 9 ∨ x1.toInt = 10 ∨ x1.toInt = 11 ∨ x1.toInt = 12 ∨ x1.toInt = 13 ∨ x1.toInt = 14 by omega) with e9 | e9 | e9 | e9 | e9 | e9 | e9 | e9 | e9 | e9 | e9 | e9 | e9 | e9 | e9
    · have c9 : x1 = (0 : Int32) := tw_sw e9 rfl
      have hF := hF.1 c9
      refine lv_tableIn (off := 75) (tgt := 76) hx hb dX9_count_1 (by rw [e9]; decide) (by rw [e9]; decide) (by rw [e9]; rfl) (by decide) ?_
      refine lv_aload_n hx hb dX9_count_76 rfl (lv_at hl 0 rfl) ?_
      obtain ⟨o1, eo1, hF⟩ := hF
      have ho1 : o1 < gN τ0 7 := tw_lt (hP.2.2.2 0 k0 6 o1 (by decide) hk0 eo1) (congrFun hN 7).symm
      refine tw_get (v := .ref (ad 7 o1)) hx hb hts (by decide +kernel) hown hK hP (by decide) hk0 rfl rfl 6 (by decide) (hts (.fieldLink RX9 50 "WineCellar" "ledger" "LWineCellar$Ledger;") (by decide +kernel)) (fun _ h9 => h9) (show some (va_rf ((gR τ0 0 k0 6).map (ad 7))) = some (.ref (ad 7 o1)) by rw [eo1]; rfl) dX9_count_77 ?_
      refine tw_get (v := .int (gI τ0 7 o1 0)) hx hb hts (by decide +kernel) hown hK hP (by decide) ho1 rfl rfl 0 (by decide) (hts (.fieldLink RX9 206 "WineCellar$Ledger" "bought" "I") (by decide +kernel)) (fun _ h9 => h9) rfl dX9_count_80 ?_
      exact W.iret (v := gI τ0 7 o1 0) hx hb hr (fun t ht hW => ⟨⟨(gI τ0 7 o1 0), τ0, rfl, ⟨hF, hN⟩, tw_at hP ht⟩, hS.F ht⟩) hS.2.2 dX9_count_83
    · have c9 : x1 = (1 : Int32) := tw_sw e9 rfl
      have hF := hF.2.1 c9
      refine lv_tableIn (off := 83) (tgt := 84) hx hb dX9_count_1 (by rw [e9]; decide) (by rw [e9]; decide) (by rw [e9]; rfl) (by decide) ?_
      refine lv_aload_n hx hb dX9_count_84 rfl (lv_at hl 0 rfl) ?_
      obtain ⟨o2, eo2, hF⟩ := hF
      have ho2 : o2 < gN τ0 7 := tw_lt (hP.2.2.2 0 k0 6 o2 (by decide) hk0 eo2) (congrFun hN 7).symm
      refine tw_get (v := .ref (ad 7 o2)) hx hb hts (by decide +kernel) hown hK hP (by decide) hk0 rfl rfl 6 (by decide) (hts (.fieldLink RX9 50 "WineCellar" "ledger" "LWineCellar$Ledger;") (by decide +kernel)) (fun _ h9 => h9) (show some (va_rf ((gR τ0 0 k0 6).map (ad 7))) = some (.ref (ad 7 o2)) by rw [eo2]; rfl) dX9_count_85 ?_
      refine tw_get (v := .int (gI τ0 7 o2 1)) hx hb hts (by decide +kernel) hown hK hP (by decide) ho2 rfl rfl 1 (by decide) (hts (.fieldLink RX9 241 "WineCellar$Ledger" "found" "I") (by decide +kernel)) (fun _ h9 => h9) rfl dX9_count_88 ?_
      exact W.iret (v := gI τ0 7 o2 1) hx hb hr (fun t ht hW => ⟨⟨(gI τ0 7 o2 1), τ0, rfl, ⟨hF, hN⟩, tw_at hP ht⟩, hS.F ht⟩) hS.2.2 dX9_count_91
    · have c9 : x1 = (2 : Int32) := tw_sw e9 rfl
      have hF := hF.2.2.1 c9
      refine lv_tableIn (off := 91) (tgt := 92) hx hb dX9_count_1 (by rw [e9]; decide) (by rw [e9]; decide) (by rw [e9]; rfl) (by decide) ?_
      refine lv_aload_n hx hb dX9_count_92 rfl (lv_at hl 0 rfl) ?_
      obtain ⟨o3, eo3, hF⟩ := hF
      have ho3 : o3 < gN τ0 5 := tw_lt (hP.2.2.2 0 k0 4 o3 (by decide) hk0 eo3) (congrFun hN 5).symm
      refine tw_get (v := .ref (ad 5 o3)) hx hb hts (by decide +kernel) hown hK hP (by decide) hk0 rfl rfl 4 (by decide) (hts (.fieldLink RX9 36 "WineCellar" "rack" "LWineCellar$Rack;") (by decide +kernel)) (fun _ h9 => h9) (show some (va_rf ((gR τ0 0 k0 4).map (ad 5))) = some (.ref (ad 5 o3)) by rw [eo3]; rfl) dX9_count_93 ?_
      refine va_calli (va_runV (As := []) (rest := []) ⟨hx, hb, hml, hown, hts⟩ (mX5_allBottles l dC dI ac sa A ad τ0 o3 _ hF ho3) (cwV 0 hts gX9_count_X5_allBottles rfl rfl rfl (by decide +kernel) ⟨Nat.le_of_ble_eq_true rfl, Nat.le_of_ble_eq_true rfl⟩) ⟨BX.blind, tw_recv hK hP (by decide) ho3 rfl rfl, fun U hU hW => ⟨rfl, BX.of hP hK hS hA hZ hU hW⟩⟩ rfl rfl hl.1 rfl (lv_room (Nat.le_of_ble_eq_true rfl)) dX9_count_96 ⟨Nat.le_of_ble_eq_true rfl, Nat.le_of_ble_eq_true rfl⟩) hS (fun q _ h => h) (fun q h => h) (fun r5 τ4 t H locs ht hvm hw hB hz hk hS => ?_)
      obtain ⟨hF, hN9⟩ := hw
      have hP : PX dC dI ac A ad τ4 H := tw_back hB ht
      have hN : gN τ4 = gN τ0 := hN9.trans hN
      exact W.iret (v := r5) hx hb hr (fun t ht hW => ⟨⟨r5, τ4, rfl, ⟨hF, hN⟩, tw_at hP ht⟩, hS.F ht⟩) hS.2.2 dX9_count_99
    · have c9 : x1 = (3 : Int32) := tw_sw e9 rfl
      have hF := hF.2.2.2.1 c9
      refine lv_tableIn (off := 99) (tgt := 100) hx hb dX9_count_1 (by rw [e9]; decide) (by rw [e9]; decide) (by rw [e9]; rfl) (by decide) ?_
      refine lv_aload_n hx hb dX9_count_100 rfl (lv_at hl 0 rfl) ?_
      refine va_calli (va_runV (As := []) (rest := []) ⟨hx, hb, hml, hown, hts⟩ (mX9_openBottles l dC dI ac sa A ad τ0 k0 _ hF hk0) (cwV 0 hts gX9_count_X9_openBottles rfl rfl rfl (by decide +kernel) ⟨Nat.le_of_ble_eq_true rfl, Nat.le_of_ble_eq_true rfl⟩) ⟨BX.blind, tw_recv hK hP (by decide) hk0 rfl rfl, fun U hU hW => ⟨rfl, BX.of hP hK hS hA hZ hU hW⟩⟩ rfl rfl hl.1 rfl (lv_room (Nat.le_of_ble_eq_true rfl)) dX9_count_101 ⟨Nat.le_of_ble_eq_true rfl, Nat.le_of_ble_eq_true rfl⟩) hS (fun q _ h => h) (fun q h => h) (fun r7 τ6 t H locs ht hvm hw hB hz hk hS => ?_)
      obtain ⟨hF, hN9⟩ := hw
      have hP : PX dC dI ac A ad τ6 H := tw_back hB ht
      have hN : gN τ6 = gN τ0 := hN9.trans hN
      exact W.iret (v := r7) hx hb hr (fun t ht hW => ⟨⟨r7, τ6, rfl, ⟨hF, hN⟩, tw_at hP ht⟩, hS.F ht⟩) hS.2.2 dX9_count_104
    · have c9 : x1 = (4 : Int32) := tw_sw e9 rfl
      have hF := hF.2.2.2.2.1 c9
      refine lv_tableIn (off := 104) (tgt := 105) hx hb dX9_count_1 (by rw [e9]; decide) (by rw [e9]; decide) (by rw [e9]; rfl) (by decide) ?_
      refine lv_aload_n hx hb dX9_count_105 rfl (lv_at hl 0 rfl) ?_
      obtain ⟨o8, eo8, hF⟩ := hF
      have ho8 : o8 < gN τ0 7 := tw_lt (hP.2.2.2 0 k0 6 o8 (by decide) hk0 eo8) (congrFun hN 7).symm
      refine tw_get (v := .ref (ad 7 o8)) hx hb hts (by decide +kernel) hown hK hP (by decide) hk0 rfl rfl 6 (by decide) (hts (.fieldLink RX9 50 "WineCellar" "ledger" "LWineCellar$Ledger;") (by decide +kernel)) (fun _ h9 => h9) (show some (va_rf ((gR τ0 0 k0 6).map (ad 7))) = some (.ref (ad 7 o8)) by rw [eo8]; rfl) dX9_count_106 ?_
      refine tw_get (v := .int (gI τ0 7 o8 2)) hx hb hts (by decide +kernel) hown hK hP (by decide) ho8 rfl rfl 2 (by decide) (hts (.fieldLink RX9 231 "WineCellar$Ledger" "sold" "I") (by decide +kernel)) (fun _ h9 => h9) rfl dX9_count_109 ?_
      exact W.iret (v := gI τ0 7 o8 2) hx hb hr (fun t ht hW => ⟨⟨(gI τ0 7 o8 2), τ0, rfl, ⟨hF, hN⟩, tw_at hP ht⟩, hS.F ht⟩) hS.2.2 dX9_count_112
    · have c9 : x1 = (5 : Int32) := tw_sw e9 rfl
      have hF := hF.2.2.2.2.2.1 c9
      refine lv_tableIn (off := 112) (tgt := 113) hx hb dX9_count_1 (by rw [e9]; decide) (by rw [e9]; decide) (by rw [e9]; rfl) (by decide) ?_
      refine lv_aload_n hx hb dX9_count_113 rfl (lv_at hl 0 rfl) ?_
      obtain ⟨o9, eo9, hF⟩ := hF
      have ho9 : o9 < gN τ0 7 := tw_lt (hP.2.2.2 0 k0 6 o9 (by decide) hk0 eo9) (congrFun hN 7).symm
      refine tw_get (v := .ref (ad 7 o9)) hx hb hts (by decide +kernel) hown hK hP (by decide) hk0 rfl rfl 6 (by decide) (hts (.fieldLink RX9 50 "WineCellar" "ledger" "LWineCellar$Ledger;") (by decide +kernel)) (fun _ h9 => h9) (show some (va_rf ((gR τ0 0 k0 6).map (ad 7))) = some (.ref (ad 7 o9)) by rw [eo9]; rfl) dX9_count_114 ?_
      refine tw_get (v := .int (gI τ0 7 o9 3)) hx hb hts (by decide +kernel) hown hK hP (by decide) ho9 rfl rfl 3 (by decide) (hts (.fieldLink RX9 270 "WineCellar$Ledger" "emptied" "I") (by decide +kernel)) (fun _ h9 => h9) rfl dX9_count_117 ?_
      exact W.iret (v := gI τ0 7 o9 3) hx hb hr (fun t ht hW => ⟨⟨(gI τ0 7 o9 3), τ0, rfl, ⟨hF, hN⟩, tw_at hP ht⟩, hS.F ht⟩) hS.2.2 dX9_count_120
    · have c9 : x1 = (6 : Int32) := tw_sw e9 rfl
      have hF := hF.2.2.2.2.2.2.1 c9
      refine lv_tableIn (off := 120) (tgt := 121) hx hb dX9_count_1 (by rw [e9]; decide) (by rw [e9]; decide) (by rw [e9]; rfl) (by decide) ?_
      refine lv_aload_n hx hb dX9_count_121 rfl (lv_at hl 0 rfl) ?_
      obtain ⟨o10, eo10, hF⟩ := hF
      have ho10 : o10 < gN τ0 7 := tw_lt (hP.2.2.2 0 k0 6 o10 (by decide) hk0 eo10) (congrFun hN 7).symm
      refine tw_get (v := .ref (ad 7 o10)) hx hb hts (by decide +kernel) hown hK hP (by decide) hk0 rfl rfl 6 (by decide) (hts (.fieldLink RX9 50 "WineCellar" "ledger" "LWineCellar$Ledger;") (by decide +kernel)) (fun _ h9 => h9) (show some (va_rf ((gR τ0 0 k0 6).map (ad 7))) = some (.ref (ad 7 o10)) by rw [eo10]; rfl) dX9_count_122 ?_
      refine tw_get (v := .int (gI τ0 7 o10 4)) hx hb hts (by decide +kernel) hown hK hP (by decide) ho10 rfl rfl 4 (by decide) (hts (.fieldLink RX9 238 "WineCellar$Ledger" "broken" "I") (by decide +kernel)) (fun _ h9 => h9) rfl dX9_count_125 ?_
      exact W.iret (v := gI τ0 7 o10 4) hx hb hr (fun t ht hW => ⟨⟨(gI τ0 7 o10 4), τ0, rfl, ⟨hF, hN⟩, tw_at hP ht⟩, hS.F ht⟩) hS.2.2 dX9_count_128
    · have c9 : x1 = (7 : Int32) := tw_sw e9 rfl
      have hF := hF.2.2.2.2.2.2.2.1 c9
      refine lv_tableIn (off := 128) (tgt := 129) hx hb dX9_count_1 (by rw [e9]; decide) (by rw [e9]; decide) (by rw [e9]; rfl) (by decide) ?_
      refine lv_aload_n hx hb dX9_count_129 rfl (lv_at hl 0 rfl) ?_
      obtain ⟨o11, eo11, hF⟩ := hF
      have ho11 : o11 < gN τ0 7 := tw_lt (hP.2.2.2 0 k0 6 o11 (by decide) hk0 eo11) (congrFun hN 7).symm
      refine tw_get (v := .ref (ad 7 o11)) hx hb hts (by decide +kernel) hown hK hP (by decide) hk0 rfl rfl 6 (by decide) (hts (.fieldLink RX9 50 "WineCellar" "ledger" "LWineCellar$Ledger;") (by decide +kernel)) (fun _ h9 => h9) (show some (va_rf ((gR τ0 0 k0 6).map (ad 7))) = some (.ref (ad 7 o11)) by rw [eo11]; rfl) dX9_count_130 ?_
      refine tw_get (v := .int (gI τ0 7 o11 5)) hx hb hts (by decide +kernel) hown hK hP (by decide) ho11 rfl rfl 5 (by decide) (hts (.fieldLink RX9 348 "WineCellar$Ledger" "poured" "I") (by decide +kernel)) (fun _ h9 => h9) rfl dX9_count_133 ?_
      exact W.iret (v := gI τ0 7 o11 5) hx hb hr (fun t ht hW => ⟨⟨(gI τ0 7 o11 5), τ0, rfl, ⟨hF, hN⟩, tw_at hP ht⟩, hS.F ht⟩) hS.2.2 dX9_count_136
    · have c9 : x1 = (8 : Int32) := tw_sw e9 rfl
      have hF := hF.2.2.2.2.2.2.2.2.1 c9
      refine lv_tableIn (off := 136) (tgt := 137) hx hb dX9_count_1 (by rw [e9]; decide) (by rw [e9]; decide) (by rw [e9]; rfl) (by decide) ?_
      refine lv_aload_n hx hb dX9_count_137 rfl (lv_at hl 0 rfl) ?_
      obtain ⟨o12, eo12, hF⟩ := hF
      have ho12 : o12 < gN τ0 7 := tw_lt (hP.2.2.2 0 k0 6 o12 (by decide) hk0 eo12) (congrFun hN 7).symm
      refine tw_get (v := .ref (ad 7 o12)) hx hb hts (by decide +kernel) hown hK hP (by decide) hk0 rfl rfl 6 (by decide) (hts (.fieldLink RX9 50 "WineCellar" "ledger" "LWineCellar$Ledger;") (by decide +kernel)) (fun _ h9 => h9) (show some (va_rf ((gR τ0 0 k0 6).map (ad 7))) = some (.ref (ad 7 o12)) by rw [eo12]; rfl) dX9_count_138 ?_
      refine tw_get (v := .int (gI τ0 7 o12 6)) hx hb hts (by decide +kernel) hown hK hP (by decide) ho12 rfl rfl 6 (by decide) (hts (.fieldLink RX9 267 "WineCellar$Ledger" "spilt" "I") (by decide +kernel)) (fun _ h9 => h9) rfl dX9_count_141 ?_
      exact W.iret (v := gI τ0 7 o12 6) hx hb hr (fun t ht hW => ⟨⟨(gI τ0 7 o12 6), τ0, rfl, ⟨hF, hN⟩, tw_at hP ht⟩, hS.F ht⟩) hS.2.2 dX9_count_144
    · have c9 : x1 = (9 : Int32) := tw_sw e9 rfl
      have hF := hF.2.2.2.2.2.2.2.2.2.1 c9
      refine lv_tableIn (off := 144) (tgt := 145) hx hb dX9_count_1 (by rw [e9]; decide) (by rw [e9]; decide) (by rw [e9]; rfl) (by decide) ?_
      refine lv_aload_n hx hb dX9_count_145 rfl (lv_at hl 0 rfl) ?_
      refine tw_get (v := .int (gI τ0 0 k0 11)) hx hb hts (by decide +kernel) hown hK hP (by decide) hk0 rfl rfl 11 (by decide) (hts (.fieldLink RX9 72 "WineCellar" "kindCount" "I") (by decide +kernel)) (fun _ h9 => h9) rfl dX9_count_146 ?_
      exact W.iret (v := gI τ0 0 k0 11) hx hb hr (fun t ht hW => ⟨⟨(gI τ0 0 k0 11), τ0, rfl, ⟨hF, hN⟩, tw_at hP ht⟩, hS.F ht⟩) hS.2.2 dX9_count_149
    · have c9 : x1 = (10 : Int32) := tw_sw e9 rfl
      have hF := hF.2.2.2.2.2.2.2.2.2.2.1 c9
      refine lv_tableIn (off := 149) (tgt := 150) hx hb dX9_count_1 (by rw [e9]; decide) (by rw [e9]; decide) (by rw [e9]; rfl) (by decide) ?_
      refine lv_aload_n hx hb dX9_count_150 rfl (lv_at hl 0 rfl) ?_
      refine tw_get (v := .int (gI τ0 0 k0 12)) hx hb hts (by decide +kernel) hown hK hP (by decide) hk0 rfl rfl 12 (by decide) (hts (.fieldLink RX9 76 "WineCellar" "lotCount" "I") (by decide +kernel)) (fun _ h9 => h9) rfl dX9_count_151 ?_
      exact W.iret (v := gI τ0 0 k0 12) hx hb hr (fun t ht hW => ⟨⟨(gI τ0 0 k0 12), τ0, rfl, ⟨hF, hN⟩, tw_at hP ht⟩, hS.F ht⟩) hS.2.2 dX9_count_154
    · have c9 : x1 = (11 : Int32) := tw_sw e9 rfl
      have hF := hF.2.2.2.2.2.2.2.2.2.2.2.1 c9
      refine lv_tableIn (off := 154) (tgt := 155) hx hb dX9_count_1 (by rw [e9]; decide) (by rw [e9]; decide) (by rw [e9]; rfl) (by decide) ?_
      refine lv_aload_n hx hb dX9_count_155 rfl (lv_at hl 0 rfl) ?_
      refine tw_get (v := .int (gI τ0 0 k0 13)) hx hb hts (by decide +kernel) hown hK hP (by decide) hk0 rfl rfl 13 (by decide) (hts (.fieldLink RX9 79 "WineCellar" "dishCount" "I") (by decide +kernel)) (fun _ h9 => h9) rfl dX9_count_156 ?_
      exact W.iret (v := gI τ0 0 k0 13) hx hb hr (fun t ht hW => ⟨⟨(gI τ0 0 k0 13), τ0, rfl, ⟨hF, hN⟩, tw_at hP ht⟩, hS.F ht⟩) hS.2.2 dX9_count_159
    · have c9 : x1 = (12 : Int32) := tw_sw e9 rfl
      have hF := hF.2.2.2.2.2.2.2.2.2.2.2.2.1 c9
      refine lv_tableIn (off := 159) (tgt := 160) hx hb dX9_count_1 (by rw [e9]; decide) (by rw [e9]; decide) (by rw [e9]; rfl) (by decide) ?_
      refine lv_aload_n hx hb dX9_count_160 rfl (lv_at hl 0 rfl) ?_
      refine tw_get (v := .int (gI τ0 0 k0 14)) hx hb hts (by decide +kernel) hown hK hP (by decide) hk0 rfl rfl 14 (by decide) (hts (.fieldLink RX9 82 "WineCellar" "sheetCount" "I") (by decide +kernel)) (fun _ h9 => h9) rfl dX9_count_161 ?_
      exact W.iret (v := gI τ0 0 k0 14) hx hb hr (fun t ht hW => ⟨⟨(gI τ0 0 k0 14), τ0, rfl, ⟨hF, hN⟩, tw_at hP ht⟩, hS.F ht⟩) hS.2.2 dX9_count_164
    · have c9 : x1 = (13 : Int32) := tw_sw e9 rfl
      have hF := hF.2.2.2.2.2.2.2.2.2.2.2.2.2.1 c9
      refine lv_tableIn (off := 164) (tgt := 165) hx hb dX9_count_1 (by rw [e9]; decide) (by rw [e9]; decide) (by rw [e9]; rfl) (by decide) ?_
      refine lv_aload_n hx hb dX9_count_165 rfl (lv_at hl 0 rfl) ?_
      refine tw_get (v := .int (gI τ0 0 k0 15)) hx hb hts (by decide +kernel) hown hK hP (by decide) hk0 rfl rfl 15 (by decide) (hts (.fieldLink RX9 85 "WineCellar" "hour" "I") (by decide +kernel)) (fun _ h9 => h9) rfl dX9_count_166 ?_
      exact W.iret (v := gI τ0 0 k0 15) hx hb hr (fun t ht hW => ⟨⟨(gI τ0 0 k0 15), τ0, rfl, ⟨hF, hN⟩, tw_at hP ht⟩, hS.F ht⟩) hS.2.2 dX9_count_169
    · have c9 : x1 = (14 : Int32) := tw_sw e9 rfl
      have hF := hF.2.2.2.2.2.2.2.2.2.2.2.2.2.2 c9
      refine lv_tableIn (off := 169) (tgt := 170) hx hb dX9_count_1 (by rw [e9]; decide) (by rw [e9]; decide) (by rw [e9]; rfl) (by decide) ?_
      refine lv_aload_n hx hb dX9_count_170 rfl (lv_at hl 0 rfl) ?_
      obtain ⟨o13, eo13, hF⟩ := hF
      have ho13 : o13 < gN τ0 6 := tw_lt (hP.2.2.2 0 k0 5 o13 (by decide) hk0 eo13) (congrFun hN 6).symm
      refine tw_get (v := .ref (ad 6 o13)) hx hb hts (by decide +kernel) hown hK hP (by decide) hk0 rfl rfl 5 (by decide) (hts (.fieldLink RX9 43 "WineCellar" "tape" "LWineCellar$Tape;") (by decide +kernel)) (fun _ h9 => h9) (show some (va_rf ((gR τ0 0 k0 5).map (ad 6))) = some (.ref (ad 6 o13)) by rw [eo13]; rfl) dX9_count_171 ?_
      refine tw_get (v := .int (gI τ0 6 o13 1)) hx hb hts (by decide +kernel) hown hK hP (by decide) ho13 rfl rfl 1 (by decide) (hts (.fieldLink RX9 279 "WineCellar$Tape" "length" "I") (by decide +kernel)) (fun _ h9 => h9) rfl dX9_count_174 ?_
      exact W.iret (v := gI τ0 6 o13 1) hx hb hr (fun t ht hW => ⟨⟨(gI τ0 6 o13 1), τ0, rfl, ⟨hF, hN⟩, tw_at hP ht⟩, hS.F ht⟩) hS.2.2 dX9_count_177
def F_X9_till (τ0 : tw_T) (k0 : Nat) (Q : Int64 → tw_T → Prop) : Prop := ∃ o1 : Nat, gR τ0 0 k0 6 = some o1 ∧ (Q (gJ τ0 7 o1 7) τ0)
def rmX9_till : Room := { frames := 0, cells := 0, slots := 0, locals := 0 }
set_option maxHeartbeats 4000000 in
set_option maxRecDepth 100000 in
theorem mX9_till (l : Launch) (dC : Nat → ClassId) (dI : Nat → Nat → Nat) (ac : Nat → ClassId) (sa : Nat → Nat) (A : Nat → Prop) (ad : Nat → Nat → Nat) (τ0 : tw_T) (k0 : Nat) (Q : Int64 → tw_T → Prop) (hF : F_X9_till τ0 k0 Q) (hk0 : k0 < gN τ0 0) : Met l yX9_till wsX9_till rmX9_till (va_Pc [.ref (ad 0 k0)] (BX dC dI ac sa A ad τ0)) (va_Ql (fun r (u : tw_T) => Q r u ∧ gN u = gN τ0) (fun u t => PX dC dI ac A ad u t.heap) A) 0 0 A := by
  refine Met.ofW (cc := cX9_till) (maxL := 1) (ret := (some .long)) (by decide) rfl ?_
  intro p e s m args below meth c s₁ B hml hv
  obtain ⟨rfl, hP, hK, hA, hZ⟩ := hv
  have hx := B.exec
  have hb := B.bytes
  have hr := B.returns
  have hts := atoms_spec (ws := wsX9_till) B.pre
  have hown : s.vm.findClass RX9 = some m.cls := findClass_of_methodNamed B.named
  have hlocks := B.notSynchronized
  have hS : va_S A s.heap s.heap [] := va_S.rf
  have hN : gN τ0 = gN τ0 := rfl
  have hl := lv_entry ([.ref (ad 0 k0)]) (n := 1) (Nat.le_of_ble_eq_true rfl)
  rw [lg_entry_eq]
  generalize (lg_sl ([.ref (ad 0 k0)]) ++ List.replicate (1 - (lg_sl ([.ref (ad 0 k0)])).length) Slot.unset).toArray = ls at hl ⊢
  have hl : lv_has ls 1 [(0, .ref (ad 0 k0))] := hl
  unfold F_X9_till at hF
  refine lv_aload_n hx hb dX9_till_0 rfl (lv_at hl 0 rfl) ?_
  obtain ⟨o1, eo1, hF⟩ := hF
  have ho1 : o1 < gN τ0 7 := tw_lt (hP.2.2.2 0 k0 6 o1 (by decide) hk0 eo1) (congrFun hN 7).symm
  refine tw_get (v := .ref (ad 7 o1)) hx hb hts (by decide +kernel) hown hK hP (by decide) hk0 rfl rfl 6 (by decide) (hts (.fieldLink RX9 50 "WineCellar" "ledger" "LWineCellar$Ledger;") (by decide +kernel)) (fun _ h9 => h9) (show some (va_rf ((gR τ0 0 k0 6).map (ad 7))) = some (.ref (ad 7 o1)) by rw [eo1]; rfl) dX9_till_1 ?_
  refine tw_get (v := .long (gJ τ0 7 o1 7)) hx hb hts (by decide +kernel) hown hK hP (by decide) ho1 rfl rfl 7 (by decide) (hts (.fieldLink RX9 234 "WineCellar$Ledger" "paid" "J") (by decide +kernel)) (fun _ h9 => h9) rfl dX9_till_4 ?_
  exact W.lret (v := gJ τ0 7 o1 7) hx hb hr (fun t ht hW => ⟨⟨(gJ τ0 7 o1 7), τ0, rfl, ⟨hF, hN⟩, tw_at hP ht⟩, hS.F ht⟩) hS.2.2 dX9_till_7
def F_X9_feed (τ0 : tw_T) (k0 : Nat) (x1 : Int32) (x2 : Int32) (x3 : Int32) (x4 : Int32) (x5 : Int32) (Q : Int32 → tw_T → Prop) : Prop := ∃ o1 : Nat, gR τ0 0 k0 5 = some o1 ∧ (F_X7_hasRoomForFive τ0 o1 (fun (r3 : Int32) (τ2 : tw_T) => (((¬ r3 = 0 → (∃ o5 : Nat, gR τ2 0 k0 5 = some o5 ∧ (F_X7_append τ2 o5 x1 (fun (τ6 : tw_T) => (∃ o7 : Nat, gR τ6 0 k0 5 = some o7 ∧ (F_X7_append τ6 o7 x2 (fun (τ8 : tw_T) => (∃ o9 : Nat, gR τ8 0 k0 5 = some o9 ∧ (F_X7_append τ8 o9 x3 (fun (τ10 : tw_T) => (∃ o11 : Nat, gR τ10 0 k0 5 = some o11 ∧ (F_X7_append τ10 o11 x4 (fun (τ12 : tw_T) => (∃ o13 : Nat, gR τ12 0 k0 5 = some o13 ∧ (F_X7_append τ12 o13 x5 (fun (τ14 : tw_T) => (∃ o15 : Nat, gR τ14 0 k0 5 = some o15 ∧ (Q (gI τ14 6 o15 1) τ14)))))))))))))))))) ∧ (r3 = 0 → (Q ((-1 : Int32)) τ2))))))
def rmX9_feed : Room := { frames := 1, cells := 0, slots := 0, locals := 22 }
set_option maxHeartbeats 4000000 in
set_option maxRecDepth 100000 in
theorem mX9_feed (l : Launch) (dC : Nat → ClassId) (dI : Nat → Nat → Nat) (ac : Nat → ClassId) (sa : Nat → Nat) (A : Nat → Prop) (ad : Nat → Nat → Nat) (τ0 : tw_T) (k0 : Nat) (x1 : Int32) (x2 : Int32) (x3 : Int32) (x4 : Int32) (x5 : Int32) (Q : Int32 → tw_T → Prop) (hF : F_X9_feed τ0 k0 x1 x2 x3 x4 x5 Q) (hk0 : k0 < gN τ0 0) : Met l yX9_feed wsX9_feed rmX9_feed (va_Pc [.ref (ad 0 k0), .int x1, .int x2, .int x3, .int x4, .int x5] (BX dC dI ac sa A ad τ0)) (va_Qi (fun r (u : tw_T) => Q r u ∧ gN u = gN τ0) (fun u t => PX dC dI ac A ad u t.heap) A) 0 0 A := by
  refine Met.ofW (cc := cX9_feed) (maxL := 6) (ret := (some .int)) (by decide) rfl ?_
  intro p e s m args below meth c s₁ B hml hv
  obtain ⟨rfl, hP, hK, hA, hZ⟩ := hv
  have hx := B.exec
  have hb := B.bytes
  have hr := B.returns
  have hts := atoms_spec (ws := wsX9_feed) B.pre
  have hown : s.vm.findClass RX9 = some m.cls := findClass_of_methodNamed B.named
  have hlocks := B.notSynchronized
  have hS : va_S A s.heap s.heap [] := va_S.rf
  have hN : gN τ0 = gN τ0 := rfl
  have hl := lv_entry ([.ref (ad 0 k0), .int x1, .int x2, .int x3, .int x4, .int x5]) (n := 6) (Nat.le_of_ble_eq_true rfl)
  rw [lg_entry_eq]
  generalize (lg_sl ([.ref (ad 0 k0), .int x1, .int x2, .int x3, .int x4, .int x5]) ++ List.replicate (6 - (lg_sl ([.ref (ad 0 k0), .int x1, .int x2, .int x3, .int x4, .int x5])).length) Slot.unset).toArray = ls at hl ⊢
  have hl : lv_has ls 6 [(0, .ref (ad 0 k0)), (1, .int x1), (2, .int x2), (3, .int x3), (4, .int x4), (5, .int x5)] := hl
  unfold F_X9_feed at hF
  refine lv_aload_n hx hb dX9_feed_0 rfl (lv_at hl 0 rfl) ?_
  obtain ⟨o1, eo1, hF⟩ := hF
  have ho1 : o1 < gN τ0 6 := tw_lt (hP.2.2.2 0 k0 5 o1 (by decide) hk0 eo1) (congrFun hN 6).symm
  refine tw_get (v := .ref (ad 6 o1)) hx hb hts (by decide +kernel) hown hK hP (by decide) hk0 rfl rfl 5 (by decide) (hts (.fieldLink RX9 43 "WineCellar" "tape" "LWineCellar$Tape;") (by decide +kernel)) (fun _ h9 => h9) (show some (va_rf ((gR τ0 0 k0 5).map (ad 6))) = some (.ref (ad 6 o1)) by rw [eo1]; rfl) dX9_feed_1 ?_
  refine va_calli (va_runV (As := []) (rest := []) ⟨hx, hb, hml, hown, hts⟩ (mX7_hasRoomForFive l dC dI ac sa A ad τ0 o1 _ hF ho1) (cwV 0 hts gX9_feed_X7_hasRoomForFive rfl rfl rfl (by decide +kernel) ⟨Nat.le_of_ble_eq_true rfl, Nat.le_of_ble_eq_true rfl⟩) ⟨BX.blind, tw_recv hK hP (by decide) ho1 rfl rfl, fun U hU hW => ⟨rfl, BX.of hP hK hS hA hZ hU hW⟩⟩ rfl rfl hl.1 rfl (lv_room (Nat.le_of_ble_eq_true rfl)) dX9_feed_4 ⟨Nat.le_of_ble_eq_true rfl, Nat.le_of_ble_eq_true rfl⟩) hS (fun q _ h => h) (fun q h => h) (fun r3 τ2 t H locs ht hvm hw hB hz hk hS => ?_)
  obtain ⟨hF, hN9⟩ := hw
  have hP : PX dC dI ac A ad τ2 H := tw_back hB ht
  have hN : gN τ2 = gN τ0 := hN9.trans hN
  refine lv_if_ne (tgt := 12) hx hb dX9_feed_7 (by decide) (fun c4 => ?_) (fun c4 => ?_)
  · have hF := hF.1 c4
    refine lv_aload_n hx hb dX9_feed_12 rfl (lv_at hl 0 rfl) ?_
    obtain ⟨o5, eo5, hF⟩ := hF
    have ho5 : o5 < gN τ0 6 := tw_lt (hP.2.2.2 0 k0 5 o5 (by decide) (tw_lt hk0 (congrFun hN 0)) eo5) (congrFun hN 6).symm
    refine tw_get (v := .ref (ad 6 o5)) hx hb hts (by decide +kernel) hown hK hP (by decide) (tw_lt hk0 (congrFun hN 0)) rfl rfl 5 (by decide) (hts (.fieldLink RX9 43 "WineCellar" "tape" "LWineCellar$Tape;") (by decide +kernel)) (fun _ h9 => h9) (show some (va_rf ((gR τ2 0 k0 5).map (ad 6))) = some (.ref (ad 6 o5)) by rw [eo5]; rfl) dX9_feed_13 ?_
    refine lv_iload_n hx hb dX9_feed_16 rfl (lv_at hl 1 rfl) ?_
    refine va_callv (va_runV (As := [.int x1]) (rest := []) ⟨hx, hb, hml, hown, hts⟩ (mX7_append l dC dI ac sa A ad τ2 o5 x1 _ hF (tw_lt ho5 (congrFun hN 6))) (cwV 1 hts gX9_feed_X7_append rfl rfl rfl (by decide +kernel) ⟨Nat.le_of_ble_eq_true rfl, Nat.le_of_ble_eq_true rfl⟩) ⟨BX.blind, tw_recv hK hP (by decide) (tw_lt ho5 (congrFun hN 6)) rfl rfl, fun U hU hW => ⟨rfl, BX.of hP hK hS hA hZ hU hW⟩⟩ rfl rfl hl.1 rfl (lv_room (Nat.le_of_ble_eq_true rfl)) dX9_feed_17 ⟨Nat.le_of_ble_eq_true rfl, Nat.le_of_ble_eq_true rfl⟩) hS (fun q _ h => h) (fun q h => h) (fun τ6 t H locs ht hvm hw hB hz hk hS => ?_)
    obtain ⟨hF, hN9⟩ := hw
    have hP : PX dC dI ac A ad τ6 H := tw_back hB ht
    have hN : gN τ6 = gN τ0 := hN9.trans hN
    refine lv_aload_n hx hb dX9_feed_20 rfl (lv_at hl 0 rfl) ?_
    obtain ⟨o7, eo7, hF⟩ := hF
    have ho7 : o7 < gN τ0 6 := tw_lt (hP.2.2.2 0 k0 5 o7 (by decide) (tw_lt hk0 (congrFun hN 0)) eo7) (congrFun hN 6).symm
    refine tw_get (v := .ref (ad 6 o7)) hx hb hts (by decide +kernel) hown hK hP (by decide) (tw_lt hk0 (congrFun hN 0)) rfl rfl 5 (by decide) (hts (.fieldLink RX9 43 "WineCellar" "tape" "LWineCellar$Tape;") (by decide +kernel)) (fun _ h9 => h9) (show some (va_rf ((gR τ6 0 k0 5).map (ad 6))) = some (.ref (ad 6 o7)) by rw [eo7]; rfl) dX9_feed_21 ?_
    refine lv_iload_n hx hb dX9_feed_24 rfl (lv_at hl 2 rfl) ?_
    refine va_callv (va_runV (As := [.int x2]) (rest := []) ⟨hx, hb, hml, hown, hts⟩ (mX7_append l dC dI ac sa A ad τ6 o7 x2 _ hF (tw_lt ho7 (congrFun hN 6))) (cwV 1 hts gX9_feed_X7_append rfl rfl rfl (by decide +kernel) ⟨Nat.le_of_ble_eq_true rfl, Nat.le_of_ble_eq_true rfl⟩) ⟨BX.blind, tw_recv hK hP (by decide) (tw_lt ho7 (congrFun hN 6)) rfl rfl, fun U hU hW => ⟨rfl, BX.of hP hK hS hA hZ hU hW⟩⟩ rfl rfl hl.1 rfl (lv_room (Nat.le_of_ble_eq_true rfl)) dX9_feed_25 ⟨Nat.le_of_ble_eq_true rfl, Nat.le_of_ble_eq_true rfl⟩) hS (fun q _ h => h) (fun q h => h) (fun τ8 t H locs ht hvm hw hB hz hk hS => ?_)
    obtain ⟨hF, hN9⟩ := hw
    have hP : PX dC dI ac A ad τ8 H := tw_back hB ht
    have hN : gN τ8 = gN τ0 := hN9.trans hN
    refine lv_aload_n hx hb dX9_feed_28 rfl (lv_at hl 0 rfl) ?_
    obtain ⟨o9, eo9, hF⟩ := hF
    have ho9 : o9 < gN τ0 6 := tw_lt (hP.2.2.2 0 k0 5 o9 (by decide) (tw_lt hk0 (congrFun hN 0)) eo9) (congrFun hN 6).symm
    refine tw_get (v := .ref (ad 6 o9)) hx hb hts (by decide +kernel) hown hK hP (by decide) (tw_lt hk0 (congrFun hN 0)) rfl rfl 5 (by decide) (hts (.fieldLink RX9 43 "WineCellar" "tape" "LWineCellar$Tape;") (by decide +kernel)) (fun _ h9 => h9) (show some (va_rf ((gR τ8 0 k0 5).map (ad 6))) = some (.ref (ad 6 o9)) by rw [eo9]; rfl) dX9_feed_29 ?_
    refine lv_iload_n hx hb dX9_feed_32 rfl (lv_at hl 3 rfl) ?_
    refine va_callv (va_runV (As := [.int x3]) (rest := []) ⟨hx, hb, hml, hown, hts⟩ (mX7_append l dC dI ac sa A ad τ8 o9 x3 _ hF (tw_lt ho9 (congrFun hN 6))) (cwV 1 hts gX9_feed_X7_append rfl rfl rfl (by decide +kernel) ⟨Nat.le_of_ble_eq_true rfl, Nat.le_of_ble_eq_true rfl⟩) ⟨BX.blind, tw_recv hK hP (by decide) (tw_lt ho9 (congrFun hN 6)) rfl rfl, fun U hU hW => ⟨rfl, BX.of hP hK hS hA hZ hU hW⟩⟩ rfl rfl hl.1 rfl (lv_room (Nat.le_of_ble_eq_true rfl)) dX9_feed_33 ⟨Nat.le_of_ble_eq_true rfl, Nat.le_of_ble_eq_true rfl⟩) hS (fun q _ h => h) (fun q h => h) (fun τ10 t H locs ht hvm hw hB hz hk hS => ?_)
    obtain ⟨hF, hN9⟩ := hw
    have hP : PX dC dI ac A ad τ10 H := tw_back hB ht
    have hN : gN τ10 = gN τ0 := hN9.trans hN
    refine lv_aload_n hx hb dX9_feed_36 rfl (lv_at hl 0 rfl) ?_
    obtain ⟨o11, eo11, hF⟩ := hF
    have ho11 : o11 < gN τ0 6 := tw_lt (hP.2.2.2 0 k0 5 o11 (by decide) (tw_lt hk0 (congrFun hN 0)) eo11) (congrFun hN 6).symm
    refine tw_get (v := .ref (ad 6 o11)) hx hb hts (by decide +kernel) hown hK hP (by decide) (tw_lt hk0 (congrFun hN 0)) rfl rfl 5 (by decide) (hts (.fieldLink RX9 43 "WineCellar" "tape" "LWineCellar$Tape;") (by decide +kernel)) (fun _ h9 => h9) (show some (va_rf ((gR τ10 0 k0 5).map (ad 6))) = some (.ref (ad 6 o11)) by rw [eo11]; rfl) dX9_feed_37 ?_
    refine lv_iload hx hb dX9_feed_40 (lv_at hl 4 rfl) ?_
    refine va_callv (va_runV (As := [.int x4]) (rest := []) ⟨hx, hb, hml, hown, hts⟩ (mX7_append l dC dI ac sa A ad τ10 o11 x4 _ hF (tw_lt ho11 (congrFun hN 6))) (cwV 1 hts gX9_feed_X7_append rfl rfl rfl (by decide +kernel) ⟨Nat.le_of_ble_eq_true rfl, Nat.le_of_ble_eq_true rfl⟩) ⟨BX.blind, tw_recv hK hP (by decide) (tw_lt ho11 (congrFun hN 6)) rfl rfl, fun U hU hW => ⟨rfl, BX.of hP hK hS hA hZ hU hW⟩⟩ rfl rfl hl.1 rfl (lv_room (Nat.le_of_ble_eq_true rfl)) dX9_feed_42 ⟨Nat.le_of_ble_eq_true rfl, Nat.le_of_ble_eq_true rfl⟩) hS (fun q _ h => h) (fun q h => h) (fun τ12 t H locs ht hvm hw hB hz hk hS => ?_)
    obtain ⟨hF, hN9⟩ := hw
    have hP : PX dC dI ac A ad τ12 H := tw_back hB ht
    have hN : gN τ12 = gN τ0 := hN9.trans hN
    refine lv_aload_n hx hb dX9_feed_45 rfl (lv_at hl 0 rfl) ?_
    obtain ⟨o13, eo13, hF⟩ := hF
    have ho13 : o13 < gN τ0 6 := tw_lt (hP.2.2.2 0 k0 5 o13 (by decide) (tw_lt hk0 (congrFun hN 0)) eo13) (congrFun hN 6).symm
    refine tw_get (v := .ref (ad 6 o13)) hx hb hts (by decide +kernel) hown hK hP (by decide) (tw_lt hk0 (congrFun hN 0)) rfl rfl 5 (by decide) (hts (.fieldLink RX9 43 "WineCellar" "tape" "LWineCellar$Tape;") (by decide +kernel)) (fun _ h9 => h9) (show some (va_rf ((gR τ12 0 k0 5).map (ad 6))) = some (.ref (ad 6 o13)) by rw [eo13]; rfl) dX9_feed_46 ?_
    refine lv_iload hx hb dX9_feed_49 (lv_at hl 5 rfl) ?_
    refine va_callv (va_runV (As := [.int x5]) (rest := []) ⟨hx, hb, hml, hown, hts⟩ (mX7_append l dC dI ac sa A ad τ12 o13 x5 _ hF (tw_lt ho13 (congrFun hN 6))) (cwV 1 hts gX9_feed_X7_append rfl rfl rfl (by decide +kernel) ⟨Nat.le_of_ble_eq_true rfl, Nat.le_of_ble_eq_true rfl⟩) ⟨BX.blind, tw_recv hK hP (by decide) (tw_lt ho13 (congrFun hN 6)) rfl rfl, fun U hU hW => ⟨rfl, BX.of hP hK hS hA hZ hU hW⟩⟩ rfl rfl hl.1 rfl (lv_room (Nat.le_of_ble_eq_true rfl)) dX9_feed_51 ⟨Nat.le_of_ble_eq_true rfl, Nat.le_of_ble_eq_true rfl⟩) hS (fun q _ h => h) (fun q h => h) (fun τ14 t H locs ht hvm hw hB hz hk hS => ?_)
    obtain ⟨hF, hN9⟩ := hw
    have hP : PX dC dI ac A ad τ14 H := tw_back hB ht
    have hN : gN τ14 = gN τ0 := hN9.trans hN
    refine lv_aload_n hx hb dX9_feed_54 rfl (lv_at hl 0 rfl) ?_
    obtain ⟨o15, eo15, hF⟩ := hF
    have ho15 : o15 < gN τ0 6 := tw_lt (hP.2.2.2 0 k0 5 o15 (by decide) (tw_lt hk0 (congrFun hN 0)) eo15) (congrFun hN 6).symm
    refine tw_get (v := .ref (ad 6 o15)) hx hb hts (by decide +kernel) hown hK hP (by decide) (tw_lt hk0 (congrFun hN 0)) rfl rfl 5 (by decide) (hts (.fieldLink RX9 43 "WineCellar" "tape" "LWineCellar$Tape;") (by decide +kernel)) (fun _ h9 => h9) (show some (va_rf ((gR τ14 0 k0 5).map (ad 6))) = some (.ref (ad 6 o15)) by rw [eo15]; rfl) dX9_feed_55 ?_
    refine tw_get (v := .int (gI τ14 6 o15 1)) hx hb hts (by decide +kernel) hown hK hP (by decide) (tw_lt ho15 (congrFun hN 6)) rfl rfl 1 (by decide) (hts (.fieldLink RX9 279 "WineCellar$Tape" "length" "I") (by decide +kernel)) (fun _ h9 => h9) rfl dX9_feed_58 ?_
    exact W.iret (v := gI τ14 6 o15 1) hx hb hr (fun t ht hW => ⟨⟨(gI τ14 6 o15 1), τ14, rfl, ⟨hF, hN⟩, tw_at hP ht⟩, hS.F ht⟩) hS.2.2 dX9_feed_61
  · have hF := hF.2 c4
    refine lv_iconst (v := (-1)) hx hb dX9_feed_10 (by decide) ?_
    exact W.iret (v := (-1 : Int32)) hx hb hr (fun t ht hW => ⟨⟨((-1 : Int32)), τ2, rfl, ⟨hF, hN⟩, tw_at hP ht⟩, hS.F ht⟩) hS.2.2 dX9_feed_11
def F_X9_requireCell (τ0 : tw_T) (x0 : Int32) (Q : tw_T → Prop) (X : Nat → tw_T → Prop) : Prop := ((x0 < 0 → (X 3 τ0)) ∧ (¬ x0 < 0 → (((x0 < ((30 : Int32)) → (Q τ0)) ∧ (¬ x0 < ((30 : Int32)) → (X 3 τ0))))))
def rmX9_requireCell : Room := { frames := 6, cells := 1, slots := 6, locals := 82 }
set_option maxHeartbeats 4000000 in
set_option maxRecDepth 100000 in
theorem mX9_requireCell (l : Launch) (hlt : l.stackTraces = false) (dC : Nat → ClassId) (dI : Nat → Nat → Nat) (ac : Nat → ClassId) (sa : Nat → Nat) (A : Nat → Prop) (ad : Nat → Nat → Nat) (τ0 : tw_T) (x0 : Int32) (Q : tw_T → Prop) (X : Nat → tw_T → Prop) (hF : F_X9_requireCell τ0 x0 Q X)  : vx_Met l yX9_requireCell wsX9_requireCell rmX9_requireCell (va_Pc [.int x0] (BX dC dI ac sa A ad τ0)) (va_Qv (fun (u : tw_T) => Q u ∧ gN u = gN τ0) (fun u t => PX dC dI ac A ad u t.heap) A) (vx_X (fun (u : Nat × tw_T) => X u.1 u.2 ∧ gN u.2 = gN τ0) (fun E u t => E = exn u.1 ∧ PX dC dI ac A ad u.2 t.heap) A) 1 6 A := by
  refine vx_ofW (cc := cX9_requireCell) (maxL := 1) (ret := none) (by decide) rfl ?_
  intro p e s m args below meth c s₁ B hml htab hv
  obtain ⟨rfl, hP, hK, hA, hZ⟩ := hv
  have hx := B.exec
  have hb := B.bytes
  have hr := B.returns
  have hts := atoms_spec (ws := wsX9_requireCell) B.pre
  have hown : s.vm.findClass RX9 = some m.cls := findClass_of_methodNamed B.named
  have hlocks := B.notSynchronized
  have hS : va_S A s.heap s.heap [] := va_S.rf
  have hN : gN τ0 = gN τ0 := rfl
  have hl := lv_entry ([.int x0]) (n := 1) (Nat.le_of_ble_eq_true rfl)
  rw [lg_entry_eq]
  generalize (lg_sl ([.int x0]) ++ List.replicate (1 - (lg_sl ([.int x0])).length) Slot.unset).toArray = ls at hl ⊢
  have hl : lv_has ls 1 [(0, .int x0)] := hl
  unfold F_X9_requireCell at hF
  refine lv_iload_n hx hb dX9_requireCell_0 rfl (lv_at hl 0 rfl) ?_
  refine lv_if_lt (tgt := 10) hx hb dX9_requireCell_1 (by decide) (fun c1 => ?_) (fun c1 => ?_)
  · have hF := hF.1 c1
    exact vx_throwXW (names := zx_names) hx hb hlt (by decide +kernel) (by decide +kernel) (by decide +kernel) (by decide +kernel) hown (by decide +kernel) (by decide +kernel) (hts (.classLink RX9 355 "java/util/NoSuchElementException") (by decide +kernel)) (hts (.initialized "java/util/NoSuchElementException") (by decide +kernel)) (hZ.2.2.1 (357, "no such cell", 34) (by decide +kernel)) (zx_hat3 hts (by decide +kernel) hZ.2.2.2.2.2) zx_ot3 hZ.2.1.1 hZ.2.1.2 hS (hl.1.trans hml.symm) dX9_requireCell_10 dX9_requireCell_13 dX9_requireCell_14 dX9_requireCell_17 dX9_requireCell_20 (fun x9 hx9 => (htab x9 hx9).elim) (Nat.le_of_ble_eq_true rfl) (Nat.le_of_ble_eq_true rfl) (Nat.le_of_ble_eq_true rfl) (Nat.le_of_ble_eq_true rfl) hlocks (fun t hvm hz hk => ⟨(3, τ0), ⟨hF, hN⟩, ⟨rfl, (tw_thrown hP hS hz hk).1⟩, (tw_thrown hP hS hz hk).2⟩) hS.2.2 (by decide) (by decide)
  · have hF := hF.2 c1
    refine lv_iload_n hx hb dX9_requireCell_4 rfl (lv_at hl 0 rfl) ?_
    refine lv_bipush (v := 30) hx hb dX9_requireCell_5 (by decide) ?_
    refine lv_icmp_lt (tgt := 21) hx hb dX9_requireCell_7 (by decide) (fun c2 => ?_) (fun c2 => ?_)
    · have hF := hF.1 c2
      refine W.widen (k := 1) (n := 6) (by decide) (by decide) ?_
      exact vx_ret (W.vret hx hb hr (fun t ht hW => ⟨⟨τ0, rfl, ⟨hF, hN⟩, tw_at hP ht⟩, hS.F ht⟩) hS.2.2 dX9_requireCell_21)
    · have hF := hF.2 c2
      exact vx_throwXW (names := zx_names) hx hb hlt (by decide +kernel) (by decide +kernel) (by decide +kernel) (by decide +kernel) hown (by decide +kernel) (by decide +kernel) (hts (.classLink RX9 355 "java/util/NoSuchElementException") (by decide +kernel)) (hts (.initialized "java/util/NoSuchElementException") (by decide +kernel)) (hZ.2.2.1 (357, "no such cell", 34) (by decide +kernel)) (zx_hat3 hts (by decide +kernel) hZ.2.2.2.2.2) zx_ot3 hZ.2.1.1 hZ.2.1.2 hS (hl.1.trans hml.symm) dX9_requireCell_10 dX9_requireCell_13 dX9_requireCell_14 dX9_requireCell_17 dX9_requireCell_20 (fun x9 hx9 => (htab x9 hx9).elim) (Nat.le_of_ble_eq_true rfl) (Nat.le_of_ble_eq_true rfl) (Nat.le_of_ble_eq_true rfl) (Nat.le_of_ble_eq_true rfl) hlocks (fun t hvm hz hk => ⟨(3, τ0), ⟨hF, hN⟩, ⟨rfl, (tw_thrown hP hS hz hk).1⟩, (tw_thrown hP hS hz hk).2⟩) hS.2.2 (by decide) (by decide)
def F_X9_lotAt (τ0 : tw_T) (k0 : Nat) (x1 : Int32) (Q : Nat → tw_T → Prop) (X : Nat → tw_T → Prop) : Prop := ((x1 < 0 → (X 1 τ0)) ∧ (¬ x1 < 0 → (((x1 < (gI τ0 0 k0 12) → (∃ o3 : Nat, gR τ0 0 k0 1 = some o3 ∧ (vp_in x1 60 ∧ (∃ o4 : Nat, gR τ0 2 o3 x1.toNatClampNeg = some o4 ∧ (Q o4 τ0))))) ∧ (¬ x1 < (gI τ0 0 k0 12) → (X 1 τ0))))))
def rmX9_lotAt : Room := { frames := 6, cells := 1, slots := 6, locals := 82 }
set_option maxHeartbeats 4000000 in
set_option maxRecDepth 100000 in
theorem mX9_lotAt (l : Launch) (hlt : l.stackTraces = false) (dC : Nat → ClassId) (dI : Nat → Nat → Nat) (ac : Nat → ClassId) (sa : Nat → Nat) (A : Nat → Prop) (ad : Nat → Nat → Nat) (τ0 : tw_T) (k0 : Nat) (x1 : Int32) (Q : Nat → tw_T → Prop) (X : Nat → tw_T → Prop) (hF : F_X9_lotAt τ0 k0 x1 Q X) (hk0 : k0 < gN τ0 0) : vx_Met l yX9_lotAt wsX9_lotAt rmX9_lotAt (va_Pc [.ref (ad 0 k0), .int x1] (BX dC dI ac sa A ad τ0)) (va_Qr (fun (u : tw_T × Nat) => Q u.2 u.1 ∧ u.2 < gN τ0 21 ∧ gN u.1 = gN τ0) (fun u a t => a = ad 21 u.2 ∧ PX dC dI ac A ad u.1 t.heap) A) (vx_X (fun (u : Nat × tw_T) => X u.1 u.2 ∧ gN u.2 = gN τ0) (fun E u t => E = exn u.1 ∧ PX dC dI ac A ad u.2 t.heap) A) 1 6 A := by
  refine vx_ofW (cc := cX9_lotAt) (maxL := 2) (ret := (some (.object "WineCellar$Lot"))) (by decide) rfl ?_
  intro p e s m args below meth c s₁ B hml htab hv
  obtain ⟨rfl, hP, hK, hA, hZ⟩ := hv
  have hx := B.exec
  have hb := B.bytes
  have hr := B.returns
  have hts := atoms_spec (ws := wsX9_lotAt) B.pre
  have hown : s.vm.findClass RX9 = some m.cls := findClass_of_methodNamed B.named
  have hlocks := B.notSynchronized
  have hS : va_S A s.heap s.heap [] := va_S.rf
  have hN : gN τ0 = gN τ0 := rfl
  have hl := lv_entry ([.ref (ad 0 k0), .int x1]) (n := 2) (Nat.le_of_ble_eq_true rfl)
  rw [lg_entry_eq]
  generalize (lg_sl ([.ref (ad 0 k0), .int x1]) ++ List.replicate (2 - (lg_sl ([.ref (ad 0 k0), .int x1])).length) Slot.unset).toArray = ls at hl ⊢
  have hl : lv_has ls 2 [(0, .ref (ad 0 k0)), (1, .int x1)] := hl
  unfold F_X9_lotAt at hF
  refine lv_iload_n hx hb dX9_lotAt_0 rfl (lv_at hl 1 rfl) ?_
  refine lv_if_lt (tgt := 12) hx hb dX9_lotAt_1 (by decide) (fun c1 => ?_) (fun c1 => ?_)
  · have hF := hF.1 c1
    exact vx_throwSW (names := zx_names) hx hb hlt hown (by decide +kernel) (by decide +kernel) (hts (.classLink RX9 110 "java/lang/IndexOutOfBoundsException") (by decide +kernel)) (hts (.initialized "java/lang/IndexOutOfBoundsException") (by decide +kernel)) (hZ.2.2.1 (360, "no such lot", 30) (by decide +kernel)) (zx_hat1 hts (by decide +kernel) hZ.2.2.2.2.2) zx_ot1 hZ.2.1.1 hZ.2.1.2 hS (hl.1.trans hml.symm) dX9_lotAt_12 dX9_lotAt_15 dX9_lotAt_16 dX9_lotAt_19 dX9_lotAt_22 (fun x9 hx9 => (htab x9 hx9).elim) (Nat.le_of_ble_eq_true rfl) (Nat.le_of_ble_eq_true rfl) (Nat.le_of_ble_eq_true rfl) (Nat.le_of_ble_eq_true rfl) hlocks (fun t hvm hz hk => ⟨(1, τ0), ⟨hF, hN⟩, ⟨rfl, (tw_thrown hP hS hz hk).1⟩, (tw_thrown hP hS hz hk).2⟩) hS.2.2 (by decide) (by decide)
  · have hF := hF.2 c1
    refine lv_iload_n hx hb dX9_lotAt_4 rfl (lv_at hl 1 rfl) ?_
    refine lv_aload_n hx hb dX9_lotAt_5 rfl (lv_at hl 0 rfl) ?_
    refine tw_get (v := .int (gI τ0 0 k0 12)) hx hb hts (by decide +kernel) hown hK hP (by decide) hk0 rfl rfl 12 (by decide) (hts (.fieldLink RX9 76 "WineCellar" "lotCount" "I") (by decide +kernel)) (fun _ h9 => h9) rfl dX9_lotAt_6 ?_
    refine lv_icmp_lt (tgt := 23) hx hb dX9_lotAt_9 (by decide) (fun c2 => ?_) (fun c2 => ?_)
    · have hF := hF.1 c2
      refine lv_aload_n hx hb dX9_lotAt_23 rfl (lv_at hl 0 rfl) ?_
      obtain ⟨o3, eo3, hF⟩ := hF
      have ho3 : o3 < gN τ0 2 := tw_lt (hP.2.2.2 0 k0 1 o3 (by decide) hk0 eo3) (congrFun hN 2).symm
      refine tw_get (v := .ref (ad 2 o3)) hx hb hts (by decide +kernel) hown hK hP (by decide) hk0 rfl rfl 1 (by decide) (hts (.fieldLink RX9 17 "WineCellar" "lots" "[LWineCellar$Lot;") (by decide +kernel)) (fun _ h9 => h9) (show some (va_rf ((gR τ0 0 k0 1).map (ad 2))) = some (.ref (ad 2 o3)) by rw [eo3]; rfl) dX9_lotAt_24 ?_
      refine lv_iload_n hx hb dX9_lotAt_27 rfl (lv_at hl 1 rfl) ?_
      obtain ⟨hi5, o4, eo4, hF⟩ := hF
      have ho4 : o4 < gN τ0 21 := tw_lt (hP.2.2.2 2 o3 _ o4 (by decide) ho3 eo4) (congrFun hN 21).symm
      refine tw_aald hx hb hK hP (by decide) ho3 rfl 4 rfl rfl (fun _ => rfl) hi5 dX9_lotAt_28 ?_
      refine W.eq (g2 := F0 m 29 ls [.ref (ad 21 o4)]) (by rw [eo4]; rfl) ?_
      refine W.widen (k := 1) (n := 6) (by decide) (by decide) ?_
      exact vx_ret (W.aret (v := .ref (ad 21 o4)) hx hb hr (Or.inl ⟨_, rfl⟩) (Or.inr ⟨_, rfl⟩) (fun t ht hW => ⟨⟨(τ0, o4), _, rfl, ⟨hF, ho4, hN⟩, rfl, tw_at hP ht⟩, hS.F ht⟩) hS.2.2 dX9_lotAt_29)
    · have hF := hF.2 c2
      exact vx_throwSW (names := zx_names) hx hb hlt hown (by decide +kernel) (by decide +kernel) (hts (.classLink RX9 110 "java/lang/IndexOutOfBoundsException") (by decide +kernel)) (hts (.initialized "java/lang/IndexOutOfBoundsException") (by decide +kernel)) (hZ.2.2.1 (360, "no such lot", 30) (by decide +kernel)) (zx_hat1 hts (by decide +kernel) hZ.2.2.2.2.2) zx_ot1 hZ.2.1.1 hZ.2.1.2 hS (hl.1.trans hml.symm) dX9_lotAt_12 dX9_lotAt_15 dX9_lotAt_16 dX9_lotAt_19 dX9_lotAt_22 (fun x9 hx9 => (htab x9 hx9).elim) (Nat.le_of_ble_eq_true rfl) (Nat.le_of_ble_eq_true rfl) (Nat.le_of_ble_eq_true rfl) (Nat.le_of_ble_eq_true rfl) hlocks (fun t hvm hz hk => ⟨(1, τ0), ⟨hF, hN⟩, ⟨rfl, (tw_thrown hP hS hz hk).1⟩, (tw_thrown hP hS hz hk).2⟩) hS.2.2 (by decide) (by decide)
def rm0X9_lotAt : Room := { frames := 0, cells := 0, slots := 0, locals := 0 }
set_option maxHeartbeats 4000000 in
set_option maxRecDepth 100000 in
theorem m0X9_lotAt (l : Launch) (dC : Nat → ClassId) (dI : Nat → Nat → Nat) (ac : Nat → ClassId) (sa : Nat → Nat) (A : Nat → Prop) (ad : Nat → Nat → Nat) (τ0 : tw_T) (k0 : Nat) (x1 : Int32) (Q : Nat → tw_T → Prop) (hF : F_X9_lotAt τ0 k0 x1 Q (fun _ _ => False)) (hk0 : k0 < gN τ0 0) : Met l yX9_lotAt wsX9_lotAt rm0X9_lotAt (va_Pc [.ref (ad 0 k0), .int x1] (BX dC dI ac sa A ad τ0)) (va_Qr (fun (u : tw_T × Nat) => Q u.2 u.1 ∧ u.2 < gN τ0 21 ∧ gN u.1 = gN τ0) (fun u a t => a = ad 21 u.2 ∧ PX dC dI ac A ad u.1 t.heap) A) 0 0 A := by
  refine Met.ofW (cc := cX9_lotAt) (maxL := 2) (ret := (some (.object "WineCellar$Lot"))) (by decide) rfl ?_
  intro p e s m args below meth c s₁ B hml hv
  obtain ⟨rfl, hP, hK, hA, hZ⟩ := hv
  have hx := B.exec
  have hb := B.bytes
  have hr := B.returns
  have hts := atoms_spec (ws := wsX9_lotAt) B.pre
  have hown : s.vm.findClass RX9 = some m.cls := findClass_of_methodNamed B.named
  have hlocks := B.notSynchronized
  have hS : va_S A s.heap s.heap [] := va_S.rf
  have hN : gN τ0 = gN τ0 := rfl
  have hl := lv_entry ([.ref (ad 0 k0), .int x1]) (n := 2) (Nat.le_of_ble_eq_true rfl)
  rw [lg_entry_eq]
  generalize (lg_sl ([.ref (ad 0 k0), .int x1]) ++ List.replicate (2 - (lg_sl ([.ref (ad 0 k0), .int x1])).length) Slot.unset).toArray = ls at hl ⊢
  have hl : lv_has ls 2 [(0, .ref (ad 0 k0)), (1, .int x1)] := hl
  unfold F_X9_lotAt at hF
  refine lv_iload_n hx hb dX9_lotAt_0 rfl (lv_at hl 1 rfl) ?_
  refine lv_if_lt (tgt := 12) hx hb dX9_lotAt_1 (by decide) (fun c1 => ?_) (fun c1 => ?_)
  · have hF := hF.1 c1
    exact hF.elim
  · have hF := hF.2 c1
    refine lv_iload_n hx hb dX9_lotAt_4 rfl (lv_at hl 1 rfl) ?_
    refine lv_aload_n hx hb dX9_lotAt_5 rfl (lv_at hl 0 rfl) ?_
    refine tw_get (v := .int (gI τ0 0 k0 12)) hx hb hts (by decide +kernel) hown hK hP (by decide) hk0 rfl rfl 12 (by decide) (hts (.fieldLink RX9 76 "WineCellar" "lotCount" "I") (by decide +kernel)) (fun _ h9 => h9) rfl dX9_lotAt_6 ?_
    refine lv_icmp_lt (tgt := 23) hx hb dX9_lotAt_9 (by decide) (fun c2 => ?_) (fun c2 => ?_)
    · have hF := hF.1 c2
      refine lv_aload_n hx hb dX9_lotAt_23 rfl (lv_at hl 0 rfl) ?_
      obtain ⟨o3, eo3, hF⟩ := hF
      have ho3 : o3 < gN τ0 2 := tw_lt (hP.2.2.2 0 k0 1 o3 (by decide) hk0 eo3) (congrFun hN 2).symm
      refine tw_get (v := .ref (ad 2 o3)) hx hb hts (by decide +kernel) hown hK hP (by decide) hk0 rfl rfl 1 (by decide) (hts (.fieldLink RX9 17 "WineCellar" "lots" "[LWineCellar$Lot;") (by decide +kernel)) (fun _ h9 => h9) (show some (va_rf ((gR τ0 0 k0 1).map (ad 2))) = some (.ref (ad 2 o3)) by rw [eo3]; rfl) dX9_lotAt_24 ?_
      refine lv_iload_n hx hb dX9_lotAt_27 rfl (lv_at hl 1 rfl) ?_
      obtain ⟨hi5, o4, eo4, hF⟩ := hF
      have ho4 : o4 < gN τ0 21 := tw_lt (hP.2.2.2 2 o3 _ o4 (by decide) ho3 eo4) (congrFun hN 21).symm
      refine tw_aald hx hb hK hP (by decide) ho3 rfl 4 rfl rfl (fun _ => rfl) hi5 dX9_lotAt_28 ?_
      refine W.eq (g2 := F0 m 29 ls [.ref (ad 21 o4)]) (by rw [eo4]; rfl) ?_
      exact W.aret (v := .ref (ad 21 o4)) hx hb hr (Or.inl ⟨_, rfl⟩) (Or.inr ⟨_, rfl⟩) (fun t ht hW => ⟨⟨(τ0, o4), _, rfl, ⟨hF, ho4, hN⟩, rfl, tw_at hP ht⟩, hS.F ht⟩) hS.2.2 dX9_lotAt_29
    · have hF := hF.2 c2
      exact hF.elim
def F_X9_sheetWithRow (τ0 : tw_T) (k0 : Nat) (x1 : Int32) (x2 : Int32) (Q : Nat → tw_T → Prop) (X : Nat → tw_T → Prop) : Prop := ((x1 < 0 → (X 1 τ0)) ∧ (¬ x1 < 0 → ((((gI τ0 0 k0 14) ≤ x1 → (X 1 τ0)) ∧ (¬ (gI τ0 0 k0 14) ≤ x1 → (((x2 < 0 → (X 1 τ0)) ∧ (¬ x2 < 0 → (((x2 < ((10 : Int32)) → (∃ o5 : Nat, gR τ0 0 k0 3 = some o5 ∧ (vp_in x1 4 ∧ (∃ o6 : Nat, gR τ0 4 o5 x1.toNatClampNeg = some o6 ∧ (Q o6 τ0))))) ∧ (¬ x2 < ((10 : Int32)) → (X 1 τ0))))))))))))
def rmX9_sheetWithRow : Room := { frames := 6, cells := 1, slots := 6, locals := 82 }
set_option maxHeartbeats 4000000 in
set_option maxRecDepth 100000 in
theorem mX9_sheetWithRow (l : Launch) (hlt : l.stackTraces = false) (dC : Nat → ClassId) (dI : Nat → Nat → Nat) (ac : Nat → ClassId) (sa : Nat → Nat) (A : Nat → Prop) (ad : Nat → Nat → Nat) (τ0 : tw_T) (k0 : Nat) (x1 : Int32) (x2 : Int32) (Q : Nat → tw_T → Prop) (X : Nat → tw_T → Prop) (hF : F_X9_sheetWithRow τ0 k0 x1 x2 Q X) (hk0 : k0 < gN τ0 0) : vx_Met l yX9_sheetWithRow wsX9_sheetWithRow rmX9_sheetWithRow (va_Pc [.ref (ad 0 k0), .int x1, .int x2] (BX dC dI ac sa A ad τ0)) (va_Qr (fun (u : tw_T × Nat) => Q u.2 u.1 ∧ u.2 < gN τ0 23 ∧ gN u.1 = gN τ0) (fun u a t => a = ad 23 u.2 ∧ PX dC dI ac A ad u.1 t.heap) A) (vx_X (fun (u : Nat × tw_T) => X u.1 u.2 ∧ gN u.2 = gN τ0) (fun E u t => E = exn u.1 ∧ PX dC dI ac A ad u.2 t.heap) A) 1 6 A := by
  refine vx_ofW (cc := cX9_sheetWithRow) (maxL := 3) (ret := (some (.object "WineCellar$Sheet"))) (by decide) rfl ?_
  intro p e s m args below meth c s₁ B hml htab hv
  obtain ⟨rfl, hP, hK, hA, hZ⟩ := hv
  have hx := B.exec
  have hb := B.bytes
  have hr := B.returns
  have hts := atoms_spec (ws := wsX9_sheetWithRow) B.pre
  have hown : s.vm.findClass RX9 = some m.cls := findClass_of_methodNamed B.named
  have hlocks := B.notSynchronized
  have hS : va_S A s.heap s.heap [] := va_S.rf
  have hN : gN τ0 = gN τ0 := rfl
  have hl := lv_entry ([.ref (ad 0 k0), .int x1, .int x2]) (n := 3) (Nat.le_of_ble_eq_true rfl)
  rw [lg_entry_eq]
  generalize (lg_sl ([.ref (ad 0 k0), .int x1, .int x2]) ++ List.replicate (3 - (lg_sl ([.ref (ad 0 k0), .int x1, .int x2])).length) Slot.unset).toArray = ls at hl ⊢
  have hl : lv_has ls 3 [(0, .ref (ad 0 k0)), (1, .int x1), (2, .int x2)] := hl
  unfold F_X9_sheetWithRow at hF
  refine lv_iload_n hx hb dX9_sheetWithRow_0 rfl (lv_at hl 1 rfl) ?_
  refine lv_if_lt (tgt := 22) hx hb dX9_sheetWithRow_1 (by decide) (fun c1 => ?_) (fun c1 => ?_)
  · have hF := hF.1 c1
    exact vx_throwSW (names := zx_names) hx hb hlt hown (by decide +kernel) (by decide +kernel) (hts (.classLink RX9 110 "java/lang/IndexOutOfBoundsException") (by decide +kernel)) (hts (.initialized "java/lang/IndexOutOfBoundsException") (by decide +kernel)) (hZ.2.2.1 (364, "no such sheet or row", 43) (by decide +kernel)) (zx_hat1 hts (by decide +kernel) hZ.2.2.2.2.2) zx_ot1 hZ.2.1.1 hZ.2.1.2 hS (hl.1.trans hml.symm) dX9_sheetWithRow_22 dX9_sheetWithRow_25 dX9_sheetWithRow_26 dX9_sheetWithRow_29 dX9_sheetWithRow_32 (fun x9 hx9 => (htab x9 hx9).elim) (Nat.le_of_ble_eq_true rfl) (Nat.le_of_ble_eq_true rfl) (Nat.le_of_ble_eq_true rfl) (Nat.le_of_ble_eq_true rfl) hlocks (fun t hvm hz hk => ⟨(1, τ0), ⟨hF, hN⟩, ⟨rfl, (tw_thrown hP hS hz hk).1⟩, (tw_thrown hP hS hz hk).2⟩) hS.2.2 (by decide) (by decide)
  · have hF := hF.2 c1
    refine lv_iload_n hx hb dX9_sheetWithRow_4 rfl (lv_at hl 1 rfl) ?_
    refine lv_aload_n hx hb dX9_sheetWithRow_5 rfl (lv_at hl 0 rfl) ?_
    refine tw_get (v := .int (gI τ0 0 k0 14)) hx hb hts (by decide +kernel) hown hK hP (by decide) hk0 rfl rfl 14 (by decide) (hts (.fieldLink RX9 82 "WineCellar" "sheetCount" "I") (by decide +kernel)) (fun _ h9 => h9) rfl dX9_sheetWithRow_6 ?_
    refine lv_icmp_ge (tgt := 22) hx hb dX9_sheetWithRow_9 (by decide) (fun c2 => ?_) (fun c2 => ?_)
    · have hF := hF.1 c2
      exact vx_throwSW (names := zx_names) hx hb hlt hown (by decide +kernel) (by decide +kernel) (hts (.classLink RX9 110 "java/lang/IndexOutOfBoundsException") (by decide +kernel)) (hts (.initialized "java/lang/IndexOutOfBoundsException") (by decide +kernel)) (hZ.2.2.1 (364, "no such sheet or row", 43) (by decide +kernel)) (zx_hat1 hts (by decide +kernel) hZ.2.2.2.2.2) zx_ot1 hZ.2.1.1 hZ.2.1.2 hS (hl.1.trans hml.symm) dX9_sheetWithRow_22 dX9_sheetWithRow_25 dX9_sheetWithRow_26 dX9_sheetWithRow_29 dX9_sheetWithRow_32 (fun x9 hx9 => (htab x9 hx9).elim) (Nat.le_of_ble_eq_true rfl) (Nat.le_of_ble_eq_true rfl) (Nat.le_of_ble_eq_true rfl) (Nat.le_of_ble_eq_true rfl) hlocks (fun t hvm hz hk => ⟨(1, τ0), ⟨hF, hN⟩, ⟨rfl, (tw_thrown hP hS hz hk).1⟩, (tw_thrown hP hS hz hk).2⟩) hS.2.2 (by decide) (by decide)
    · have hF := hF.2 c2
      refine lv_iload_n hx hb dX9_sheetWithRow_12 rfl (lv_at hl 2 rfl) ?_
      refine lv_if_lt (tgt := 22) hx hb dX9_sheetWithRow_13 (by decide) (fun c3 => ?_) (fun c3 => ?_)
      · have hF := hF.1 c3
        exact vx_throwSW (names := zx_names) hx hb hlt hown (by decide +kernel) (by decide +kernel) (hts (.classLink RX9 110 "java/lang/IndexOutOfBoundsException") (by decide +kernel)) (hts (.initialized "java/lang/IndexOutOfBoundsException") (by decide +kernel)) (hZ.2.2.1 (364, "no such sheet or row", 43) (by decide +kernel)) (zx_hat1 hts (by decide +kernel) hZ.2.2.2.2.2) zx_ot1 hZ.2.1.1 hZ.2.1.2 hS (hl.1.trans hml.symm) dX9_sheetWithRow_22 dX9_sheetWithRow_25 dX9_sheetWithRow_26 dX9_sheetWithRow_29 dX9_sheetWithRow_32 (fun x9 hx9 => (htab x9 hx9).elim) (Nat.le_of_ble_eq_true rfl) (Nat.le_of_ble_eq_true rfl) (Nat.le_of_ble_eq_true rfl) (Nat.le_of_ble_eq_true rfl) hlocks (fun t hvm hz hk => ⟨(1, τ0), ⟨hF, hN⟩, ⟨rfl, (tw_thrown hP hS hz hk).1⟩, (tw_thrown hP hS hz hk).2⟩) hS.2.2 (by decide) (by decide)
      · have hF := hF.2 c3
        refine lv_iload_n hx hb dX9_sheetWithRow_16 rfl (lv_at hl 2 rfl) ?_
        refine lv_bipush (v := 10) hx hb dX9_sheetWithRow_17 (by decide) ?_
        refine lv_icmp_lt (tgt := 33) hx hb dX9_sheetWithRow_19 (by decide) (fun c4 => ?_) (fun c4 => ?_)
        · have hF := hF.1 c4
          refine lv_aload_n hx hb dX9_sheetWithRow_33 rfl (lv_at hl 0 rfl) ?_
          obtain ⟨o5, eo5, hF⟩ := hF
          have ho5 : o5 < gN τ0 4 := tw_lt (hP.2.2.2 0 k0 3 o5 (by decide) hk0 eo5) (congrFun hN 4).symm
          refine tw_get (v := .ref (ad 4 o5)) hx hb hts (by decide +kernel) hown hK hP (by decide) hk0 rfl rfl 3 (by decide) (hts (.fieldLink RX9 29 "WineCellar" "sheets" "[LWineCellar$Sheet;") (by decide +kernel)) (fun _ h9 => h9) (show some (va_rf ((gR τ0 0 k0 3).map (ad 4))) = some (.ref (ad 4 o5)) by rw [eo5]; rfl) dX9_sheetWithRow_34 ?_
          refine lv_iload_n hx hb dX9_sheetWithRow_37 rfl (lv_at hl 1 rfl) ?_
          obtain ⟨hi7, o6, eo6, hF⟩ := hF
          have ho6 : o6 < gN τ0 23 := tw_lt (hP.2.2.2 4 o5 _ o6 (by decide) ho5 eo6) (congrFun hN 23).symm
          refine tw_aald hx hb hK hP (by decide) ho5 rfl 6 rfl rfl (fun _ => rfl) hi7 dX9_sheetWithRow_38 ?_
          refine W.eq (g2 := F0 m 39 ls [.ref (ad 23 o6)]) (by rw [eo6]; rfl) ?_
          refine W.widen (k := 1) (n := 6) (by decide) (by decide) ?_
          exact vx_ret (W.aret (v := .ref (ad 23 o6)) hx hb hr (Or.inl ⟨_, rfl⟩) (Or.inr ⟨_, rfl⟩) (fun t ht hW => ⟨⟨(τ0, o6), _, rfl, ⟨hF, ho6, hN⟩, rfl, tw_at hP ht⟩, hS.F ht⟩) hS.2.2 dX9_sheetWithRow_39)
        · have hF := hF.2 c4
          exact vx_throwSW (names := zx_names) hx hb hlt hown (by decide +kernel) (by decide +kernel) (hts (.classLink RX9 110 "java/lang/IndexOutOfBoundsException") (by decide +kernel)) (hts (.initialized "java/lang/IndexOutOfBoundsException") (by decide +kernel)) (hZ.2.2.1 (364, "no such sheet or row", 43) (by decide +kernel)) (zx_hat1 hts (by decide +kernel) hZ.2.2.2.2.2) zx_ot1 hZ.2.1.1 hZ.2.1.2 hS (hl.1.trans hml.symm) dX9_sheetWithRow_22 dX9_sheetWithRow_25 dX9_sheetWithRow_26 dX9_sheetWithRow_29 dX9_sheetWithRow_32 (fun x9 hx9 => (htab x9 hx9).elim) (Nat.le_of_ble_eq_true rfl) (Nat.le_of_ble_eq_true rfl) (Nat.le_of_ble_eq_true rfl) (Nat.le_of_ble_eq_true rfl) hlocks (fun t hvm hz hk => ⟨(1, τ0), ⟨hF, hN⟩, ⟨rfl, (tw_thrown hP hS hz hk).1⟩, (tw_thrown hP hS hz hk).2⟩) hS.2.2 (by decide) (by decide)
def F_X9_told (τ0 : tw_T) (k0 : Nat) (x1 : Int32) (x2 : Int32) (Q : Int32 → tw_T → Prop) (X : Nat → tw_T → Prop) : Prop := F_X9_lotAt τ0 k0 x1 (fun (o2 : Nat) (τ1 : tw_T) => (((x2.toInt < 0 ∨ 7 < x2.toInt → (X 0 τ1)) ∧ (x2 = (0 : Int32) → (Q (gI τ1 21 o2 0) τ1)) ∧ (x2 = (1 : Int32) → (Q (gI τ1 21 o2 2) τ1)) ∧ (x2 = (2 : Int32) → (Q (gI τ1 21 o2 3) τ1)) ∧ (x2 = (3 : Int32) → (Q (gI τ1 21 o2 4) τ1)) ∧ (x2 = (4 : Int32) → (Q (gI τ1 21 o2 5) τ1)) ∧ (x2 = (5 : Int32) → (∃ o3 : Nat, gR τ1 0 k0 4 = some o3 ∧ (F_X5_bottlesOf τ1 o3 x1 (fun (r5 : Int32) (τ4 : tw_T) => (Q r5 τ4))))) ∧ (x2 = (6 : Int32) → (F_X3_isOpen τ1 o2 (fun (r7 : Int32) (τ6 : tw_T) => (((r7 = 0 → (Q ((0 : Int32)) τ6)) ∧ (¬ r7 = 0 → (Q ((1 : Int32)) τ6))))))) ∧ (x2 = (7 : Int32) → (Q (gI τ1 21 o2 7) τ1))))) X
def rmX9_told : Room := { frames := 7, cells := 2, slots := 12, locals := 103 }
set_option maxHeartbeats 4000000 in
set_option maxRecDepth 100000 in
theorem mX9_told (l : Launch) (hlt : l.stackTraces = false) (dC : Nat → ClassId) (dI : Nat → Nat → Nat) (ac : Nat → ClassId) (sa : Nat → Nat) (A : Nat → Prop) (ad : Nat → Nat → Nat) (τ0 : tw_T) (k0 : Nat) (x1 : Int32) (x2 : Int32) (Q : Int32 → tw_T → Prop) (X : Nat → tw_T → Prop) (hF : F_X9_told τ0 k0 x1 x2 Q X) (hk0 : k0 < gN τ0 0) : vx_Met l yX9_told wsX9_told rmX9_told (va_Pc [.ref (ad 0 k0), .int x1, .int x2] (BX dC dI ac sa A ad τ0)) (va_Qi (fun r (u : tw_T) => Q r u ∧ gN u = gN τ0) (fun u t => PX dC dI ac A ad u t.heap) A) (vx_X (fun (u : Nat × tw_T) => X u.1 u.2 ∧ gN u.2 = gN τ0) (fun E u t => E = exn u.1 ∧ PX dC dI ac A ad u.2 t.heap) A) 2 12 A := by
  refine vx_ofW (cc := cX9_told) (maxL := 4) (ret := (some .int)) (by decide) rfl ?_
  intro p e s m args below meth c s₁ B hml htab hv
  obtain ⟨rfl, hP, hK, hA, hZ⟩ := hv
  have hx := B.exec
  have hb := B.bytes
  have hr := B.returns
  have hts := atoms_spec (ws := wsX9_told) B.pre
  have hown : s.vm.findClass RX9 = some m.cls := findClass_of_methodNamed B.named
  have hlocks := B.notSynchronized
  have hS : va_S A s.heap s.heap [] := va_S.rf
  have hN : gN τ0 = gN τ0 := rfl
  have hl := lv_entry ([.ref (ad 0 k0), .int x1, .int x2]) (n := 4) (Nat.le_of_ble_eq_true rfl)
  rw [lg_entry_eq]
  generalize (lg_sl ([.ref (ad 0 k0), .int x1, .int x2]) ++ List.replicate (4 - (lg_sl ([.ref (ad 0 k0), .int x1, .int x2])).length) Slot.unset).toArray = ls at hl ⊢
  have hl : lv_has ls 4 [(0, .ref (ad 0 k0)), (1, .int x1), (2, .int x2)] := hl
  unfold F_X9_told at hF
  refine lv_aload_n hx hb dX9_told_0 rfl (lv_at hl 0 rfl) ?_
  refine lv_iload_n hx hb dX9_told_1 rfl (lv_at hl 1 rfl) ?_
  refine vx_callr (vx_runV (As := [.int x1]) (rest := []) ⟨hx, hb, hml, hown, hts⟩ (mX9_lotAt l hlt dC dI ac sa A ad τ0 k0 x1 _ _ hF hk0) (cwV 1 hts gX9_told_X9_lotAt rfl rfl rfl (by decide +kernel) ⟨Nat.le_of_ble_eq_true rfl, Nat.le_of_ble_eq_true rfl⟩) ⟨BX.blind, tw_recv hK hP (by decide) hk0 rfl rfl, fun U hU hW => ⟨rfl, BX.of hP hK hS hA hZ hU hW⟩⟩ rfl rfl hl.1 rfl (lv_room (Nat.le_of_ble_eq_true rfl)) dX9_told_2 ⟨Nat.le_of_ble_eq_true rfl, Nat.le_of_ble_eq_true rfl⟩) hS (fun q _ h => h) (fun q h => h) (fun q _ h => h) (fun E9 ce9 q9 u9 t9 H locs ht hvm hpx hBX hz9 hk9 hS hce hcv hcl => ?_) (fun u9 ra9 t H locs ht hvm hw hB hz hk hS => ?_)
  · obtain ⟨ec9, τ9⟩ := u9
    obtain ⟨hF9, hN9⟩ := hpx
    obtain ⟨rfl, hP9⟩ := hBX
    exact vx_out (fun x9 hx9 => (htab x9 hx9).elim) hlocks hce hcv hcl (fun t2 ht2 hvm2 => ⟨(ec9, τ9), ⟨hF9, hN9.trans hN⟩, ⟨rfl, tw_at (tw_back hP9 ht) ht2⟩, hS.F ht2⟩) hS.2.2 (by decide) (by decide)
  obtain ⟨τ1, o2⟩ := u9
  obtain ⟨hF, ho2, hN9⟩ := hw
  obtain ⟨rfl, hB⟩ := hB
  try dsimp only at hF ho2 hN9 hB ⊢
  have ho2 : o2 < gN τ0 21 := tw_lt ho2 (congrFun hN 21).symm
  have hP : PX dC dI ac A ad τ1 H := tw_back hB ht
  have hN : gN τ1 = gN τ0 := hN9.trans hN
  refine lv_astore_n (lv' := [(3, .ref (ad 21 o2)), (0, .ref (ad 0 k0)), (1, .int x1), (2, .int x2)]) hx hb dX9_told_5 rfl hl (by decide) rfl (fun ls hl => ?_)
  refine lv_iload_n hx hb dX9_told_6 rfl (lv_at hl 3 rfl) ?_
  by_cases cd : x2.toInt < 0 ∨ 7 < x2.toInt
  · have hF := hF.1 cd
    refine lv_tableOut (tgt := 104) hx hb dX9_told_7 cd (by decide) ?_
    exact vx_throwS (names := zx_names) hx hb hlt hown (by decide +kernel) (by decide +kernel) (hts (.classLink RX9 96 "java/lang/IllegalArgumentException") (by decide +kernel)) (hts (.initialized "java/lang/IllegalArgumentException") (by decide +kernel)) (hZ.2.2.1 (158, "no such what", 31) (by decide +kernel)) (zx_hat0 hts (by decide +kernel) hZ.2.2.2.2.2) zx_ot0 hZ.2.1.1 hZ.2.1.2 hS (hl.1.trans hml.symm) dX9_told_104 dX9_told_107 dX9_told_108 dX9_told_110 dX9_told_113 (fun x9 hx9 => (htab x9 hx9).elim) (Nat.le_of_ble_eq_true rfl) (Nat.le_of_ble_eq_true rfl) (Nat.le_of_ble_eq_true rfl) (Nat.le_of_ble_eq_true rfl) hlocks (fun t hvm hz hk => ⟨(0, τ1), ⟨hF, hN⟩, ⟨rfl, (tw_thrown hP hS hz hk).1⟩, (tw_thrown hP hS hz hk).2⟩) hS.2.2 (by decide) (by decide)
  · have hF := hF.2
    rcases (show x2.toInt = 0 ∨ x2.toInt = 1 ∨ x2.toInt = 2 ∨ x2.toInt = 3 ∨ x2.toInt = 4 ∨ x2.toInt = 5 ∨ x2.toInt = 6 ∨ x2.toInt = 7 by omega) with e9 | e9 | e9 | e9 | e9 | e9 | e9 | e9
    · have c9 : x2 = (0 : Int32) := tw_sw e9 rfl
      have hF := hF.1 c9
      refine lv_tableIn (off := 45) (tgt := 52) hx hb dX9_told_7 (by rw [e9]; decide) (by rw [e9]; decide) (by rw [e9]; rfl) (by decide) ?_
      refine lv_aload_n hx hb dX9_told_52 rfl (lv_at hl 0 rfl) ?_
      refine tw_get (v := .int (gI τ1 21 o2 0)) hx hb hts (by decide +kernel) hown hK hP (by decide) (tw_lt ho2 (congrFun hN 21)) rfl rfl 0 (by decide) (hts (.fieldLink RX9 132 "WineCellar$Lot" "kindNumber" "I") (by decide +kernel)) (fun _ h9 => h9) rfl dX9_told_53 ?_
      refine W.widen (k := 2) (n := 12) (by decide) (by decide) ?_
      exact vx_ret (W.iret (v := gI τ1 21 o2 0) hx hb hr (fun t ht hW => ⟨⟨(gI τ1 21 o2 0), τ1, rfl, ⟨hF, hN⟩, tw_at hP ht⟩, hS.F ht⟩) hS.2.2 dX9_told_56)
    · have c9 : x2 = (1 : Int32) := tw_sw e9 rfl
      have hF := hF.2.1 c9
      refine lv_tableIn (off := 50) (tgt := 57) hx hb dX9_told_7 (by rw [e9]; decide) (by rw [e9]; decide) (by rw [e9]; rfl) (by decide) ?_
      refine lv_aload_n hx hb dX9_told_57 rfl (lv_at hl 0 rfl) ?_
      refine tw_get (v := .int (gI τ1 21 o2 2)) hx hb hts (by decide +kernel) hown hK hP (by decide) (tw_lt ho2 (congrFun hN 21)) rfl rfl 2 (by decide) (hts (.fieldLink RX9 135 "WineCellar$Lot" "vintage" "I") (by decide +kernel)) (fun _ h9 => h9) rfl dX9_told_58 ?_
      refine W.widen (k := 2) (n := 12) (by decide) (by decide) ?_
      exact vx_ret (W.iret (v := gI τ1 21 o2 2) hx hb hr (fun t ht hW => ⟨⟨(gI τ1 21 o2 2), τ1, rfl, ⟨hF, hN⟩, tw_at hP ht⟩, hS.F ht⟩) hS.2.2 dX9_told_61)
    · have c9 : x2 = (2 : Int32) := tw_sw e9 rfl
      have hF := hF.2.2.1 c9
      refine lv_tableIn (off := 55) (tgt := 62) hx hb dX9_told_7 (by rw [e9]; decide) (by rw [e9]; decide) (by rw [e9]; rfl) (by decide) ?_
      refine lv_aload_n hx hb dX9_told_62 rfl (lv_at hl 0 rfl) ?_
      refine tw_get (v := .int (gI τ1 21 o2 3)) hx hb hts (by decide +kernel) hown hK hP (by decide) (tw_lt ho2 (congrFun hN 21)) rfl rfl 3 (by decide) (hts (.fieldLink RX9 138 "WineCellar$Lot" "price" "I") (by decide +kernel)) (fun _ h9 => h9) rfl dX9_told_63 ?_
      refine W.widen (k := 2) (n := 12) (by decide) (by decide) ?_
      exact vx_ret (W.iret (v := gI τ1 21 o2 3) hx hb hr (fun t ht hW => ⟨⟨(gI τ1 21 o2 3), τ1, rfl, ⟨hF, hN⟩, tw_at hP ht⟩, hS.F ht⟩) hS.2.2 dX9_told_66)
    · have c9 : x2 = (3 : Int32) := tw_sw e9 rfl
      have hF := hF.2.2.2.1 c9
      refine lv_tableIn (off := 60) (tgt := 67) hx hb dX9_told_7 (by rw [e9]; decide) (by rw [e9]; decide) (by rw [e9]; rfl) (by decide) ?_
      refine lv_aload_n hx hb dX9_told_67 rfl (lv_at hl 0 rfl) ?_
      refine tw_get (v := .int (gI τ1 21 o2 4)) hx hb hts (by decide +kernel) hown hK hP (by decide) (tw_lt ho2 (congrFun hN 21)) rfl rfl 4 (by decide) (hts (.fieldLink RX9 141 "WineCellar$Lot" "from" "I") (by decide +kernel)) (fun _ h9 => h9) rfl dX9_told_68 ?_
      refine W.widen (k := 2) (n := 12) (by decide) (by decide) ?_
      exact vx_ret (W.iret (v := gI τ1 21 o2 4) hx hb hr (fun t ht hW => ⟨⟨(gI τ1 21 o2 4), τ1, rfl, ⟨hF, hN⟩, tw_at hP ht⟩, hS.F ht⟩) hS.2.2 dX9_told_71)
    · have c9 : x2 = (4 : Int32) := tw_sw e9 rfl
      have hF := hF.2.2.2.2.1 c9
      refine lv_tableIn (off := 65) (tgt := 72) hx hb dX9_told_7 (by rw [e9]; decide) (by rw [e9]; decide) (by rw [e9]; rfl) (by decide) ?_
      refine lv_aload_n hx hb dX9_told_72 rfl (lv_at hl 0 rfl) ?_
      refine tw_get (v := .int (gI τ1 21 o2 5)) hx hb hts (by decide +kernel) hown hK hP (by decide) (tw_lt ho2 (congrFun hN 21)) rfl rfl 5 (by decide) (hts (.fieldLink RX9 144 "WineCellar$Lot" "until" "I") (by decide +kernel)) (fun _ h9 => h9) rfl dX9_told_73 ?_
      refine W.widen (k := 2) (n := 12) (by decide) (by decide) ?_
      exact vx_ret (W.iret (v := gI τ1 21 o2 5) hx hb hr (fun t ht hW => ⟨⟨(gI τ1 21 o2 5), τ1, rfl, ⟨hF, hN⟩, tw_at hP ht⟩, hS.F ht⟩) hS.2.2 dX9_told_76)
    · have c9 : x2 = (5 : Int32) := tw_sw e9 rfl
      have hF := hF.2.2.2.2.2.1 c9
      refine lv_tableIn (off := 70) (tgt := 77) hx hb dX9_told_7 (by rw [e9]; decide) (by rw [e9]; decide) (by rw [e9]; rfl) (by decide) ?_
      refine lv_aload_n hx hb dX9_told_77 rfl (lv_at hl 1 rfl) ?_
      obtain ⟨o3, eo3, hF⟩ := hF
      have ho3 : o3 < gN τ0 5 := tw_lt (hP.2.2.2 0 k0 4 o3 (by decide) (tw_lt hk0 (congrFun hN 0)) eo3) (congrFun hN 5).symm
      refine tw_get (v := .ref (ad 5 o3)) hx hb hts (by decide +kernel) hown hK hP (by decide) (tw_lt hk0 (congrFun hN 0)) rfl rfl 4 (by decide) (hts (.fieldLink RX9 36 "WineCellar" "rack" "LWineCellar$Rack;") (by decide +kernel)) (fun _ h9 => h9) (show some (va_rf ((gR τ1 0 k0 4).map (ad 5))) = some (.ref (ad 5 o3)) by rw [eo3]; rfl) dX9_told_78 ?_
      refine lv_iload_n hx hb dX9_told_81 rfl (lv_at hl 2 rfl) ?_
      refine va_calli (va_runV (As := [.int x1]) (rest := []) ⟨hx, hb, hml, hown, hts⟩ (mX5_bottlesOf l dC dI ac sa A ad τ1 o3 x1 _ hF (tw_lt ho3 (congrFun hN 5))) (cwV 1 hts gX9_told_X5_bottlesOf rfl rfl rfl (by decide +kernel) ⟨Nat.le_of_ble_eq_true rfl, Nat.le_of_ble_eq_true rfl⟩) ⟨BX.blind, tw_recv hK hP (by decide) (tw_lt ho3 (congrFun hN 5)) rfl rfl, fun U hU hW => ⟨rfl, BX.of hP hK hS hA hZ hU hW⟩⟩ rfl rfl hl.1 rfl (lv_room (Nat.le_of_ble_eq_true rfl)) dX9_told_82 ⟨Nat.le_of_ble_eq_true rfl, Nat.le_of_ble_eq_true rfl⟩) hS (fun q _ h => h) (fun q h => h) (fun r5 τ4 t H locs ht hvm hw hB hz hk hS => ?_)
      obtain ⟨hF, hN9⟩ := hw
      have hP : PX dC dI ac A ad τ4 H := tw_back hB ht
      have hN : gN τ4 = gN τ0 := hN9.trans hN
      refine W.widen (k := 2) (n := 12) (by decide) (by decide) ?_
      exact vx_ret (W.iret (v := r5) hx hb hr (fun t ht hW => ⟨⟨r5, τ4, rfl, ⟨hF, hN⟩, tw_at hP ht⟩, hS.F ht⟩) hS.2.2 dX9_told_85)
    · have c9 : x2 = (6 : Int32) := tw_sw e9 rfl
      have hF := hF.2.2.2.2.2.2.1 c9
      refine lv_tableIn (off := 79) (tgt := 86) hx hb dX9_told_7 (by rw [e9]; decide) (by rw [e9]; decide) (by rw [e9]; rfl) (by decide) ?_
      refine lv_aload_n hx hb dX9_told_86 rfl (lv_at hl 0 rfl) ?_
      refine va_calli (va_runV (As := []) (rest := []) ⟨hx, hb, hml, hown, hts⟩ (mX3_isOpen l dC dI ac sa A ad τ1 o2 _ hF (tw_lt ho2 (congrFun hN 21))) (cwV 0 hts gX9_told_X3_isOpen rfl rfl rfl (by decide +kernel) ⟨Nat.le_of_ble_eq_true rfl, Nat.le_of_ble_eq_true rfl⟩) ⟨BX.blind, tw_recv hK hP (by decide) (tw_lt ho2 (congrFun hN 21)) rfl rfl, fun U hU hW => ⟨rfl, BX.of hP hK hS hA hZ hU hW⟩⟩ rfl rfl hl.1 rfl (lv_room (Nat.le_of_ble_eq_true rfl)) dX9_told_87 ⟨Nat.le_of_ble_eq_true rfl, Nat.le_of_ble_eq_true rfl⟩) hS (fun q _ h => h) (fun q h => h) (fun r7 τ6 t H locs ht hvm hw hB hz hk hS => ?_)
      obtain ⟨hF, hN9⟩ := hw
      have hP : PX dC dI ac A ad τ6 H := tw_back hB ht
      have hN : gN τ6 = gN τ0 := hN9.trans hN
      refine lv_if_eq (tgt := 97) hx hb dX9_told_90 (by decide) (fun c8 => ?_) (fun c8 => ?_)
      · have hF := hF.1 c8
        refine lv_iconst (v := 0) hx hb dX9_told_97 (by decide) ?_
        refine W.widen (k := 2) (n := 12) (by decide) (by decide) ?_
        exact vx_ret (W.iret (v := (0 : Int32)) hx hb hr (fun t ht hW => ⟨⟨((0 : Int32)), τ6, rfl, ⟨hF, hN⟩, tw_at hP ht⟩, hS.F ht⟩) hS.2.2 dX9_told_98)
      · have hF := hF.2 c8
        refine lv_iconst (v := 1) hx hb dX9_told_93 (by decide) ?_
        refine lv_goto (tgt := 98) hx hb dX9_told_94 (by decide) ?_
        refine W.widen (k := 2) (n := 12) (by decide) (by decide) ?_
        exact vx_ret (W.iret (v := (1 : Int32)) hx hb hr (fun t ht hW => ⟨⟨((1 : Int32)), τ6, rfl, ⟨hF, hN⟩, tw_at hP ht⟩, hS.F ht⟩) hS.2.2 dX9_told_98)
    · have c9 : x2 = (7 : Int32) := tw_sw e9 rfl
      have hF := hF.2.2.2.2.2.2.2 c9
      refine lv_tableIn (off := 92) (tgt := 99) hx hb dX9_told_7 (by rw [e9]; decide) (by rw [e9]; decide) (by rw [e9]; rfl) (by decide) ?_
      refine lv_aload_n hx hb dX9_told_99 rfl (lv_at hl 0 rfl) ?_
      refine tw_get (v := .int (gI τ1 21 o2 7)) hx hb hts (by decide +kernel) hown hK hP (by decide) (tw_lt ho2 (congrFun hN 21)) rfl rfl 7 (by decide) (hts (.fieldLink RX9 155 "WineCellar$Lot" "glassesLeft" "I") (by decide +kernel)) (fun _ h9 => h9) rfl dX9_told_100 ?_
      refine W.widen (k := 2) (n := 12) (by decide) (by decide) ?_
      exact vx_ret (W.iret (v := gI τ1 21 o2 7) hx hb hr (fun t ht hW => ⟨⟨(gI τ1 21 o2 7), τ1, rfl, ⟨hF, hN⟩, tw_at hP ht⟩, hS.F ht⟩) hS.2.2 dX9_told_103)
def F_X9_worth (τ0 : tw_T) (k0 : Nat) (x1 : Int32) (x2 : Int32) (Q : Int32 → tw_T → Prop) (X : Nat → tw_T → Prop) : Prop := F_X9_lotAt τ0 k0 x1 (fun (o2 : Nat) (τ1 : tw_T) => (F_X9_isWithin τ1 x2.toInt64 ((1900 : Int64)) ((2300 : Int64)) (fun (r4 : Int32) (τ3 : tw_T) => (((¬ r4 = 0 → (F_X3_worthIn τ3 o2 x2 (fun (r7 : Int32) (τ6 : tw_T) => (Q r7 τ6)))) ∧ (r4 = 0 → (X 0 τ3))))))) X
def rmX9_worth : Room := { frames := 7, cells := 2, slots := 12, locals := 103 }
set_option maxHeartbeats 4000000 in
set_option maxRecDepth 100000 in
theorem mX9_worth (l : Launch) (hlt : l.stackTraces = false) (dC : Nat → ClassId) (dI : Nat → Nat → Nat) (ac : Nat → ClassId) (sa : Nat → Nat) (A : Nat → Prop) (ad : Nat → Nat → Nat) (τ0 : tw_T) (k0 : Nat) (x1 : Int32) (x2 : Int32) (Q : Int32 → tw_T → Prop) (X : Nat → tw_T → Prop) (hF : F_X9_worth τ0 k0 x1 x2 Q X) (hk0 : k0 < gN τ0 0) : vx_Met l yX9_worth wsX9_worth rmX9_worth (va_Pc [.ref (ad 0 k0), .int x1, .int x2] (BX dC dI ac sa A ad τ0)) (va_Qi (fun r (u : tw_T) => Q r u ∧ gN u = gN τ0) (fun u t => PX dC dI ac A ad u t.heap) A) (vx_X (fun (u : Nat × tw_T) => X u.1 u.2 ∧ gN u.2 = gN τ0) (fun E u t => E = exn u.1 ∧ PX dC dI ac A ad u.2 t.heap) A) 2 12 A := by
  refine vx_ofW (cc := cX9_worth) (maxL := 4) (ret := (some .int)) (by decide) rfl ?_
  intro p e s m args below meth c s₁ B hml htab hv
  obtain ⟨rfl, hP, hK, hA, hZ⟩ := hv
  have hx := B.exec
  have hb := B.bytes
  have hr := B.returns
  have hts := atoms_spec (ws := wsX9_worth) B.pre
  have hown : s.vm.findClass RX9 = some m.cls := findClass_of_methodNamed B.named
  have hlocks := B.notSynchronized
  have hS : va_S A s.heap s.heap [] := va_S.rf
  have hN : gN τ0 = gN τ0 := rfl
  have hl := lv_entry ([.ref (ad 0 k0), .int x1, .int x2]) (n := 4) (Nat.le_of_ble_eq_true rfl)
  rw [lg_entry_eq]
  generalize (lg_sl ([.ref (ad 0 k0), .int x1, .int x2]) ++ List.replicate (4 - (lg_sl ([.ref (ad 0 k0), .int x1, .int x2])).length) Slot.unset).toArray = ls at hl ⊢
  have hl : lv_has ls 4 [(0, .ref (ad 0 k0)), (1, .int x1), (2, .int x2)] := hl
  unfold F_X9_worth at hF
  refine lv_aload_n hx hb dX9_worth_0 rfl (lv_at hl 0 rfl) ?_
  refine lv_iload_n hx hb dX9_worth_1 rfl (lv_at hl 1 rfl) ?_
  refine vx_callr (vx_runV (As := [.int x1]) (rest := []) ⟨hx, hb, hml, hown, hts⟩ (mX9_lotAt l hlt dC dI ac sa A ad τ0 k0 x1 _ _ hF hk0) (cwV 1 hts gX9_worth_X9_lotAt rfl rfl rfl (by decide +kernel) ⟨Nat.le_of_ble_eq_true rfl, Nat.le_of_ble_eq_true rfl⟩) ⟨BX.blind, tw_recv hK hP (by decide) hk0 rfl rfl, fun U hU hW => ⟨rfl, BX.of hP hK hS hA hZ hU hW⟩⟩ rfl rfl hl.1 rfl (lv_room (Nat.le_of_ble_eq_true rfl)) dX9_worth_2 ⟨Nat.le_of_ble_eq_true rfl, Nat.le_of_ble_eq_true rfl⟩) hS (fun q _ h => h) (fun q h => h) (fun q _ h => h) (fun E9 ce9 q9 u9 t9 H locs ht hvm hpx hBX hz9 hk9 hS hce hcv hcl => ?_) (fun u9 ra9 t H locs ht hvm hw hB hz hk hS => ?_)
  · obtain ⟨ec9, τ9⟩ := u9
    obtain ⟨hF9, hN9⟩ := hpx
    obtain ⟨rfl, hP9⟩ := hBX
    exact vx_out (fun x9 hx9 => (htab x9 hx9).elim) hlocks hce hcv hcl (fun t2 ht2 hvm2 => ⟨(ec9, τ9), ⟨hF9, hN9.trans hN⟩, ⟨rfl, tw_at (tw_back hP9 ht) ht2⟩, hS.F ht2⟩) hS.2.2 (by decide) (by decide)
  obtain ⟨τ1, o2⟩ := u9
  obtain ⟨hF, ho2, hN9⟩ := hw
  obtain ⟨rfl, hB⟩ := hB
  try dsimp only at hF ho2 hN9 hB ⊢
  have ho2 : o2 < gN τ0 21 := tw_lt ho2 (congrFun hN 21).symm
  have hP : PX dC dI ac A ad τ1 H := tw_back hB ht
  have hN : gN τ1 = gN τ0 := hN9.trans hN
  refine lv_astore_n (lv' := [(3, .ref (ad 21 o2)), (0, .ref (ad 0 k0)), (1, .int x1), (2, .int x2)]) hx hb dX9_worth_5 rfl hl (by decide) rfl (fun ls hl => ?_)
  refine lv_iload_n hx hb dX9_worth_6 rfl (lv_at hl 3 rfl) ?_
  refine lv_i2l (v := x2.toInt64) hx hb dX9_worth_7 rfl ?_
  refine lv_ldc2 (v := 1900) hx hb hown (hts (.constantLong RX9 160 1900) (by decide +kernel)) dX9_worth_8 ?_
  refine lv_ldc2 (v := 2300) hx hb hown (hts (.constantLong RX9 162 2300) (by decide +kernel)) dX9_worth_11 ?_
  refine va_calli (va_runS (As := [.long x2.toInt64, .long ((1900 : Int64)), .long ((2300 : Int64))]) (rest := []) ⟨hx, hb, hml, hown, hts⟩ (mX9_isWithin l dC dI ac sa A ad τ1 x2.toInt64 ((1900 : Int64)) ((2300 : Int64)) _ hF ) (va_cwS 3 hts gX9_worth_X9_isWithin rfl rfl rfl (by decide +kernel) ⟨Nat.le_of_ble_eq_true rfl, Nat.le_of_ble_eq_true rfl⟩) ⟨BX.blind, fun U hU hW => ⟨rfl, BX.of hP hK hS hA hZ hU hW⟩⟩ rfl rfl hl.1 rfl (lv_room (Nat.le_of_ble_eq_true rfl)) dX9_worth_14 ⟨Nat.le_of_ble_eq_true rfl, Nat.le_of_ble_eq_true rfl⟩) hS (fun q _ h => h) (fun q h => h) (fun r4 τ3 t H locs ht hvm hw hB hz hk hS => ?_)
  obtain ⟨hF, hN9⟩ := hw
  have hP : PX dC dI ac A ad τ3 H := tw_back hB ht
  have hN : gN τ3 = gN τ0 := hN9.trans hN
  refine lv_if_ne (tgt := 30) hx hb dX9_worth_17 (by decide) (fun c5 => ?_) (fun c5 => ?_)
  · have hF := hF.1 c5
    refine lv_aload_n hx hb dX9_worth_30 rfl (lv_at hl 0 rfl) ?_
    refine lv_iload_n hx hb dX9_worth_31 rfl (lv_at hl 3 rfl) ?_
    refine va_calli (va_runV (As := [.int x2]) (rest := []) ⟨hx, hb, hml, hown, hts⟩ (mX3_worthIn l dC dI ac sa A ad τ3 o2 x2 _ hF (tw_lt ho2 (congrFun hN 21))) (cwV 1 hts gX9_worth_X3_worthIn rfl rfl rfl (by decide +kernel) ⟨Nat.le_of_ble_eq_true rfl, Nat.le_of_ble_eq_true rfl⟩) ⟨BX.blind, tw_recv hK hP (by decide) (tw_lt ho2 (congrFun hN 21)) rfl rfl, fun U hU hW => ⟨rfl, BX.of hP hK hS hA hZ hU hW⟩⟩ rfl rfl hl.1 rfl (lv_room (Nat.le_of_ble_eq_true rfl)) dX9_worth_32 ⟨Nat.le_of_ble_eq_true rfl, Nat.le_of_ble_eq_true rfl⟩) hS (fun q _ h => h) (fun q h => h) (fun r7 τ6 t H locs ht hvm hw hB hz hk hS => ?_)
    obtain ⟨hF, hN9⟩ := hw
    have hP : PX dC dI ac A ad τ6 H := tw_back hB ht
    have hN : gN τ6 = gN τ0 := hN9.trans hN
    refine W.widen (k := 2) (n := 12) (by decide) (by decide) ?_
    exact vx_ret (W.iret (v := r7) hx hb hr (fun t ht hW => ⟨⟨r7, τ6, rfl, ⟨hF, hN⟩, tw_at hP ht⟩, hS.F ht⟩) hS.2.2 dX9_worth_35)
  · have hF := hF.2 c5
    exact vx_throwS (names := zx_names) hx hb hlt hown (by decide +kernel) (by decide +kernel) (hts (.classLink RX9 96 "java/lang/IllegalArgumentException") (by decide +kernel)) (hts (.initialized "java/lang/IllegalArgumentException") (by decide +kernel)) (hZ.2.2.1 (164, "no such year", 32) (by decide +kernel)) (zx_hat0 hts (by decide +kernel) hZ.2.2.2.2.2) zx_ot0 hZ.2.1.1 hZ.2.1.2 hS (hl.1.trans hml.symm) dX9_worth_20 dX9_worth_23 dX9_worth_24 dX9_worth_26 dX9_worth_29 (fun x9 hx9 => (htab x9 hx9).elim) (Nat.le_of_ble_eq_true rfl) (Nat.le_of_ble_eq_true rfl) (Nat.le_of_ble_eq_true rfl) (Nat.le_of_ble_eq_true rfl) hlocks (fun t hvm hz hk => ⟨(0, τ3), ⟨hF, hN⟩, ⟨rfl, (tw_thrown hP hS hz hk).1⟩, (tw_thrown hP hS hz hk).2⟩) hS.2.2 (by decide) (by decide)
def J_X9_taste_94 (τ : tw_T) (p3 : Nat) (u4 : Int32) (u5 : Int32) (Q : Int32 → tw_T → Prop) (X : Nat → tw_T → Prop) : Prop := ((¬ (gI τ 21 p3 4) = u4 → (Q ((1 : Int32)) τ)) ∧ ((gI τ 21 p3 4) = u4 → ((((gI τ 21 p3 5) = u5 → (Q ((0 : Int32)) τ)) ∧ (¬ (gI τ 21 p3 5) = u5 → (Q ((1 : Int32)) τ))))))
def F_X9_taste (τ0 : tw_T) (k0 : Nat) (x1 : Int32) (x2 : Int32) (Q : Int32 → tw_T → Prop) (X : Nat → tw_T → Prop) : Prop := F_X9_lotAt τ0 k0 x1 (fun (o4 : Nat) (τ3 : tw_T) => (∀ z5 : Int32, z5 = gI τ3 21 o4 4 → (∀ z6 : Int32, z6 = gI τ3 21 o4 5 → (((x2.toInt < 0 ∨ 3 < x2.toInt → (X 0 τ3)) ∧ (x2 = (0 : Int32) → (F_X3_tastedYoung τ3 o4 (fun (τ7 : tw_T) => (J_X9_taste_94 τ7 o4 z5 z6 Q X)))) ∧ (x2 = (1 : Int32) → (F_X9_yearNow τ3 k0 (fun (r9 : Int32) (τ8 : tw_T) => (F_X3_tastedReady τ8 o4 r9 (fun (τ10 : tw_T) => (J_X9_taste_94 τ10 o4 z5 z6 Q X)))))) ∧ (x2 = (2 : Int32) → (F_X9_yearNow τ3 k0 (fun (r12 : Int32) (τ11 : tw_T) => (F_X3_tastedTired τ11 o4 r12 (fun (τ13 : tw_T) => (J_X9_taste_94 τ13 o4 z5 z6 Q X)))))) ∧ (x2 = (3 : Int32) → (F_X3_tastedFine τ3 o4 (fun (τ14 : tw_T) => (J_X9_taste_94 τ14 o4 z5 z6 Q X))))))))) X
def rmX9_taste : Room := { frames := 7, cells := 2, slots := 12, locals := 103 }
set_option maxHeartbeats 4000000 in
set_option maxRecDepth 100000 in
theorem mX9_taste (l : Launch) (hlt : l.stackTraces = false) (dC : Nat → ClassId) (dI : Nat → Nat → Nat) (ac : Nat → ClassId) (sa : Nat → Nat) (A : Nat → Prop) (ad : Nat → Nat → Nat) (τ0 : tw_T) (k0 : Nat) (x1 : Int32) (x2 : Int32) (Q : Int32 → tw_T → Prop) (X : Nat → tw_T → Prop) (hF : F_X9_taste τ0 k0 x1 x2 Q X) (hk0 : k0 < gN τ0 0) : vx_Met l yX9_taste wsX9_taste rmX9_taste (va_Pc [.ref (ad 0 k0), .int x1, .int x2] (BX dC dI ac sa A ad τ0)) (va_Qi (fun r (u : tw_T) => Q r u ∧ gN u = gN τ0) (fun u t => PX dC dI ac A ad u t.heap) A) (vx_X (fun (u : Nat × tw_T) => X u.1 u.2 ∧ gN u.2 = gN τ0) (fun E u t => E = exn u.1 ∧ PX dC dI ac A ad u.2 t.heap) A) 2 12 A := by
  refine vx_ofW (cc := cX9_taste) (maxL := 6) (ret := (some .int)) (by decide) rfl ?_
  intro p e s m args below meth c s₁ B hml htab hv
  obtain ⟨rfl, hP, hK, hA, hZ⟩ := hv
  have hx := B.exec
  have hb := B.bytes
  have hr := B.returns
  have hts := atoms_spec (ws := wsX9_taste) B.pre
  have hown : s.vm.findClass RX9 = some m.cls := findClass_of_methodNamed B.named
  have hlocks := B.notSynchronized
  have hS : va_S A s.heap s.heap [] := va_S.rf
  have hN : gN τ0 = gN τ0 := rfl
  have hl := lv_entry ([.ref (ad 0 k0), .int x1, .int x2]) (n := 6) (Nat.le_of_ble_eq_true rfl)
  rw [lg_entry_eq]
  generalize (lg_sl ([.ref (ad 0 k0), .int x1, .int x2]) ++ List.replicate (6 - (lg_sl ([.ref (ad 0 k0), .int x1, .int x2])).length) Slot.unset).toArray = ls at hl ⊢
  have hl : lv_has ls 6 [(0, .ref (ad 0 k0)), (1, .int x1), (2, .int x2)] := hl
  unfold F_X9_taste at hF
  have j94 : ∀ (τ : tw_T) (p3 : Nat) (hp3 : p3 < gN τ0 21) (u4 : Int32) (u5 : Int32) (H : Heap) (locs : List Loc) (ls : Array Slot), J_X9_taste_94 τ p3 u4 u5 Q X → PX dC dI ac A ad τ H → gN τ = gN τ0 → va_S A s.heap H locs → lv_has ls 6 [(3, .ref (ad 21 p3)), (4, .int u4), (5, .int u5)] → W p l e rmX9_taste s m ([.ref (ad 0 k0), .int x1, .int x2] : List Value).toArray below meth c H locs 1 6 (vx_MQ below (va_Qi (fun r (u : tw_T) => Q r u ∧ gN u = gN τ0) (fun u t => PX dC dI ac A ad u t.heap) A) (vx_X (fun (u : Nat × tw_T) => X u.1 u.2 ∧ gN u.2 = gN τ0) (fun E u t => E = exn u.1 ∧ PX dC dI ac A ad u.2 t.heap) A) ([.ref (ad 0 k0), .int x1, .int x2] : List Value).toArray s 2 12 A) (F0 m 94 ls []) := by
    intro τ p3 hp3 u4 u5 H locs ls hF hP hN hS hl
    unfold J_X9_taste_94 at hF
    refine lv_aload_n hx hb dX9_taste_94 rfl (lv_at hl 0 rfl) ?_
    refine tw_get (v := .int (gI τ 21 p3 4)) hx hb hts (by decide +kernel) hown hK hP (by decide) (tw_lt hp3 (congrFun hN 21)) rfl rfl 4 (by decide) (hts (.fieldLink RX9 141 "WineCellar$Lot" "from" "I") (by decide +kernel)) (fun _ h9 => h9) rfl dX9_taste_95 ?_
    refine lv_iload hx hb dX9_taste_98 (lv_at hl 1 rfl) ?_
    refine lv_icmp_ne (tgt := 112) hx hb dX9_taste_100 (by decide) (fun c1 => ?_) (fun c1 => ?_)
    · have hF := hF.1 c1
      refine lv_iconst (v := 1) hx hb dX9_taste_112 (by decide) ?_
      refine lv_goto (tgt := 117) hx hb dX9_taste_113 (by decide) ?_
      refine W.widen (k := 2) (n := 12) (by decide) (by decide) ?_
      exact vx_ret (W.iret (v := (1 : Int32)) hx hb hr (fun t ht hW => ⟨⟨((1 : Int32)), τ, rfl, ⟨hF, hN⟩, tw_at hP ht⟩, hS.F ht⟩) hS.2.2 dX9_taste_117)
    · have hF := hF.2 c1
      refine lv_aload_n hx hb dX9_taste_103 rfl (lv_at hl 0 rfl) ?_
      refine tw_get (v := .int (gI τ 21 p3 5)) hx hb hts (by decide +kernel) hown hK hP (by decide) (tw_lt hp3 (congrFun hN 21)) rfl rfl 5 (by decide) (hts (.fieldLink RX9 144 "WineCellar$Lot" "until" "I") (by decide +kernel)) (fun _ h9 => h9) rfl dX9_taste_104 ?_
      refine lv_iload hx hb dX9_taste_107 (lv_at hl 2 rfl) ?_
      refine lv_icmp_eq (tgt := 116) hx hb dX9_taste_109 (by decide) (fun c2 => ?_) (fun c2 => ?_)
      · have hF := hF.1 c2
        refine lv_iconst (v := 0) hx hb dX9_taste_116 (by decide) ?_
        refine W.widen (k := 2) (n := 12) (by decide) (by decide) ?_
        exact vx_ret (W.iret (v := (0 : Int32)) hx hb hr (fun t ht hW => ⟨⟨((0 : Int32)), τ, rfl, ⟨hF, hN⟩, tw_at hP ht⟩, hS.F ht⟩) hS.2.2 dX9_taste_117)
      · have hF := hF.2 c2
        refine lv_iconst (v := 1) hx hb dX9_taste_112 (by decide) ?_
        refine lv_goto (tgt := 117) hx hb dX9_taste_113 (by decide) ?_
        refine W.widen (k := 2) (n := 12) (by decide) (by decide) ?_
        exact vx_ret (W.iret (v := (1 : Int32)) hx hb hr (fun t ht hW => ⟨⟨((1 : Int32)), τ, rfl, ⟨hF, hN⟩, tw_at hP ht⟩, hS.F ht⟩) hS.2.2 dX9_taste_117)
  refine lv_aload_n hx hb dX9_taste_0 rfl (lv_at hl 0 rfl) ?_
  refine lv_iload_n hx hb dX9_taste_1 rfl (lv_at hl 1 rfl) ?_
  refine vx_callr (vx_runV (As := [.int x1]) (rest := []) ⟨hx, hb, hml, hown, hts⟩ (mX9_lotAt l hlt dC dI ac sa A ad τ0 k0 x1 _ _ hF hk0) (cwV 1 hts gX9_taste_X9_lotAt rfl rfl rfl (by decide +kernel) ⟨Nat.le_of_ble_eq_true rfl, Nat.le_of_ble_eq_true rfl⟩) ⟨BX.blind, tw_recv hK hP (by decide) hk0 rfl rfl, fun U hU hW => ⟨rfl, BX.of hP hK hS hA hZ hU hW⟩⟩ rfl rfl hl.1 rfl (lv_room (Nat.le_of_ble_eq_true rfl)) dX9_taste_2 ⟨Nat.le_of_ble_eq_true rfl, Nat.le_of_ble_eq_true rfl⟩) hS (fun q _ h => h) (fun q h => h) (fun q _ h => h) (fun E9 ce9 q9 u9 t9 H locs ht hvm hpx hBX hz9 hk9 hS hce hcv hcl => ?_) (fun u9 ra9 t H locs ht hvm hw hB hz hk hS => ?_)
  · obtain ⟨ec9, τ9⟩ := u9
    obtain ⟨hF9, hN9⟩ := hpx
    obtain ⟨rfl, hP9⟩ := hBX
    exact vx_out (fun x9 hx9 => (htab x9 hx9).elim) hlocks hce hcv hcl (fun t2 ht2 hvm2 => ⟨(ec9, τ9), ⟨hF9, hN9.trans hN⟩, ⟨rfl, tw_at (tw_back hP9 ht) ht2⟩, hS.F ht2⟩) hS.2.2 (by decide) (by decide)
  obtain ⟨τ3, o4⟩ := u9
  obtain ⟨hF, ho4, hN9⟩ := hw
  obtain ⟨rfl, hB⟩ := hB
  try dsimp only at hF ho4 hN9 hB ⊢
  have ho4 : o4 < gN τ0 21 := tw_lt ho4 (congrFun hN 21).symm
  have hP : PX dC dI ac A ad τ3 H := tw_back hB ht
  have hN : gN τ3 = gN τ0 := hN9.trans hN
  refine lv_astore_n (lv' := [(3, .ref (ad 21 o4)), (0, .ref (ad 0 k0)), (1, .int x1), (2, .int x2)]) hx hb dX9_taste_5 rfl hl (by decide) rfl (fun ls hl => ?_)
  refine lv_aload_n hx hb dX9_taste_6 rfl (lv_at hl 0 rfl) ?_
  refine tw_get (v := .int (gI τ3 21 o4 4)) hx hb hts (by decide +kernel) hown hK hP (by decide) (tw_lt ho4 (congrFun hN 21)) rfl rfl 4 (by decide) (hts (.fieldLink RX9 141 "WineCellar$Lot" "from" "I") (by decide +kernel)) (fun _ h9 => h9) rfl dX9_taste_7 ?_
  refine lv_topi (fun z5 ez5 => ?_)
  have hF := hF z5 ez5
  refine lv_istore (lv' := [(4, .int z5), (3, .ref (ad 21 o4)), (0, .ref (ad 0 k0)), (1, .int x1), (2, .int x2)]) hx hb dX9_taste_10 hl (by decide) rfl (fun ls hl => ?_)
  refine lv_aload_n hx hb dX9_taste_12 rfl (lv_at hl 1 rfl) ?_
  refine tw_get (v := .int (gI τ3 21 o4 5)) hx hb hts (by decide +kernel) hown hK hP (by decide) (tw_lt ho4 (congrFun hN 21)) rfl rfl 5 (by decide) (hts (.fieldLink RX9 144 "WineCellar$Lot" "until" "I") (by decide +kernel)) (fun _ h9 => h9) rfl dX9_taste_13 ?_
  refine lv_topi (fun z6 ez6 => ?_)
  have hF := hF z6 ez6
  refine lv_istore (lv' := [(5, .int z6), (4, .int z5), (3, .ref (ad 21 o4)), (0, .ref (ad 0 k0)), (1, .int x1), (2, .int x2)]) hx hb dX9_taste_16 hl (by decide) rfl (fun ls hl => ?_)
  refine lv_iload_n hx hb dX9_taste_18 rfl (lv_at hl 5 rfl) ?_
  by_cases cd : x2.toInt < 0 ∨ 3 < x2.toInt
  · have hF := hF.1 cd
    refine lv_tableOut (tgt := 84) hx hb dX9_taste_19 cd (by decide) ?_
    exact vx_throwS (names := zx_names) hx hb hlt hown (by decide +kernel) (by decide +kernel) (hts (.classLink RX9 96 "java/lang/IllegalArgumentException") (by decide +kernel)) (hts (.initialized "java/lang/IllegalArgumentException") (by decide +kernel)) (hZ.2.2.1 (186, "no such verdict", 33) (by decide +kernel)) (zx_hat0 hts (by decide +kernel) hZ.2.2.2.2.2) zx_ot0 hZ.2.1.1 hZ.2.1.2 hS (hl.1.trans hml.symm) dX9_taste_84 dX9_taste_87 dX9_taste_88 dX9_taste_90 dX9_taste_93 (fun x9 hx9 => (htab x9 hx9).elim) (Nat.le_of_ble_eq_true rfl) (Nat.le_of_ble_eq_true rfl) (Nat.le_of_ble_eq_true rfl) (Nat.le_of_ble_eq_true rfl) hlocks (fun t hvm hz hk => ⟨(0, τ3), ⟨hF, hN⟩, ⟨rfl, (tw_thrown hP hS hz hk).1⟩, (tw_thrown hP hS hz hk).2⟩) hS.2.2 (by decide) (by decide)
  · have hF := hF.2
    rcases (show x2.toInt = 0 ∨ x2.toInt = 1 ∨ x2.toInt = 2 ∨ x2.toInt = 3 by omega) with e9 | e9 | e9 | e9
    · have c9 : x2 = (0 : Int32) := tw_sw e9 rfl
      have hF := hF.1 c9
      refine lv_tableIn (off := 29) (tgt := 48) hx hb dX9_taste_19 (by rw [e9]; decide) (by rw [e9]; decide) (by rw [e9]; rfl) (by decide) ?_
      refine lv_aload_n hx hb dX9_taste_48 rfl (lv_at hl 2 rfl) ?_
      refine va_callv (va_runV (As := []) (rest := []) ⟨hx, hb, hml, hown, hts⟩ (mX3_tastedYoung l dC dI ac sa A ad τ3 o4 _ hF (tw_lt ho4 (congrFun hN 21))) (cwV 0 hts gX9_taste_X3_tastedYoung rfl rfl rfl (by decide +kernel) ⟨Nat.le_of_ble_eq_true rfl, Nat.le_of_ble_eq_true rfl⟩) ⟨BX.blind, tw_recv hK hP (by decide) (tw_lt ho4 (congrFun hN 21)) rfl rfl, fun U hU hW => ⟨rfl, BX.of hP hK hS hA hZ hU hW⟩⟩ rfl rfl hl.1 rfl (lv_room (Nat.le_of_ble_eq_true rfl)) dX9_taste_49 ⟨Nat.le_of_ble_eq_true rfl, Nat.le_of_ble_eq_true rfl⟩) hS (fun q _ h => h) (fun q h => h) (fun τ7 t H locs ht hvm hw hB hz hk hS => ?_)
      obtain ⟨hF, hN9⟩ := hw
      have hP : PX dC dI ac A ad τ7 H := tw_back hB ht
      have hN : gN τ7 = gN τ0 := hN9.trans hN
      refine lv_goto (tgt := 94) hx hb dX9_taste_52 (by decide) ?_
      exact j94 τ7 o4 ho4 z5 z6 _ _ _ hF hP hN hS (lv_sub hl [2, 1, 0] rfl)
    · have c9 : x2 = (1 : Int32) := tw_sw e9 rfl
      have hF := hF.2.1 c9
      refine lv_tableIn (off := 36) (tgt := 55) hx hb dX9_taste_19 (by rw [e9]; decide) (by rw [e9]; decide) (by rw [e9]; rfl) (by decide) ?_
      refine lv_aload_n hx hb dX9_taste_55 rfl (lv_at hl 2 rfl) ?_
      refine lv_aload_n hx hb dX9_taste_56 rfl (lv_at hl 3 rfl) ?_
      refine va_calli (va_runV (As := []) (rest := [.ref (ad 21 o4)]) ⟨hx, hb, hml, hown, hts⟩ (mX9_yearNow l dC dI ac sa A ad τ3 k0 _ hF (tw_lt hk0 (congrFun hN 0))) (cwV 0 hts gX9_taste_X9_yearNow rfl rfl rfl (by decide +kernel) ⟨Nat.le_of_ble_eq_true rfl, Nat.le_of_ble_eq_true rfl⟩) ⟨BX.blind, tw_recv hK hP (by decide) (tw_lt hk0 (congrFun hN 0)) rfl rfl, fun U hU hW => ⟨rfl, BX.of hP hK hS hA hZ hU hW⟩⟩ rfl rfl hl.1 rfl (lv_room (Nat.le_of_ble_eq_true rfl)) dX9_taste_57 ⟨Nat.le_of_ble_eq_true rfl, Nat.le_of_ble_eq_true rfl⟩) hS (fun q _ h => h) (fun q h => h) (fun r9 τ8 t H locs ht hvm hw hB hz hk hS => ?_)
      obtain ⟨hF, hN9⟩ := hw
      have hP : PX dC dI ac A ad τ8 H := tw_back hB ht
      have hN : gN τ8 = gN τ0 := hN9.trans hN
      refine va_callv (va_runV (As := [.int r9]) (rest := []) ⟨hx, hb, hml, hown, hts⟩ (mX3_tastedReady l dC dI ac sa A ad τ8 o4 r9 _ hF (tw_lt ho4 (congrFun hN 21))) (cwV 1 hts gX9_taste_X3_tastedReady rfl rfl rfl (by decide +kernel) ⟨Nat.le_of_ble_eq_true rfl, Nat.le_of_ble_eq_true rfl⟩) ⟨BX.blind, tw_recv hK hP (by decide) (tw_lt ho4 (congrFun hN 21)) rfl rfl, fun U hU hW => ⟨rfl, BX.of hP hK hS hA hZ hU hW⟩⟩ rfl rfl hl.1 rfl (lv_room (Nat.le_of_ble_eq_true rfl)) dX9_taste_60 ⟨Nat.le_of_ble_eq_true rfl, Nat.le_of_ble_eq_true rfl⟩) hS (fun q _ h => h) (fun q h => h) (fun τ10 t H locs ht hvm hw hB hz hk hS => ?_)
      obtain ⟨hF, hN9⟩ := hw
      have hP : PX dC dI ac A ad τ10 H := tw_back hB ht
      have hN : gN τ10 = gN τ0 := hN9.trans hN
      refine lv_goto (tgt := 94) hx hb dX9_taste_63 (by decide) ?_
      exact j94 τ10 o4 ho4 z5 z6 _ _ _ hF hP hN hS (lv_sub hl [2, 1, 0] rfl)
    · have c9 : x2 = (2 : Int32) := tw_sw e9 rfl
      have hF := hF.2.2.1 c9
      refine lv_tableIn (off := 47) (tgt := 66) hx hb dX9_taste_19 (by rw [e9]; decide) (by rw [e9]; decide) (by rw [e9]; rfl) (by decide) ?_
      refine lv_aload_n hx hb dX9_taste_66 rfl (lv_at hl 2 rfl) ?_
      refine lv_aload_n hx hb dX9_taste_67 rfl (lv_at hl 3 rfl) ?_
      refine va_calli (va_runV (As := []) (rest := [.ref (ad 21 o4)]) ⟨hx, hb, hml, hown, hts⟩ (mX9_yearNow l dC dI ac sa A ad τ3 k0 _ hF (tw_lt hk0 (congrFun hN 0))) (cwV 0 hts gX9_taste_X9_yearNow rfl rfl rfl (by decide +kernel) ⟨Nat.le_of_ble_eq_true rfl, Nat.le_of_ble_eq_true rfl⟩) ⟨BX.blind, tw_recv hK hP (by decide) (tw_lt hk0 (congrFun hN 0)) rfl rfl, fun U hU hW => ⟨rfl, BX.of hP hK hS hA hZ hU hW⟩⟩ rfl rfl hl.1 rfl (lv_room (Nat.le_of_ble_eq_true rfl)) dX9_taste_68 ⟨Nat.le_of_ble_eq_true rfl, Nat.le_of_ble_eq_true rfl⟩) hS (fun q _ h => h) (fun q h => h) (fun r12 τ11 t H locs ht hvm hw hB hz hk hS => ?_)
      obtain ⟨hF, hN9⟩ := hw
      have hP : PX dC dI ac A ad τ11 H := tw_back hB ht
      have hN : gN τ11 = gN τ0 := hN9.trans hN
      refine va_callv (va_runV (As := [.int r12]) (rest := []) ⟨hx, hb, hml, hown, hts⟩ (mX3_tastedTired l dC dI ac sa A ad τ11 o4 r12 _ hF (tw_lt ho4 (congrFun hN 21))) (cwV 1 hts gX9_taste_X3_tastedTired rfl rfl rfl (by decide +kernel) ⟨Nat.le_of_ble_eq_true rfl, Nat.le_of_ble_eq_true rfl⟩) ⟨BX.blind, tw_recv hK hP (by decide) (tw_lt ho4 (congrFun hN 21)) rfl rfl, fun U hU hW => ⟨rfl, BX.of hP hK hS hA hZ hU hW⟩⟩ rfl rfl hl.1 rfl (lv_room (Nat.le_of_ble_eq_true rfl)) dX9_taste_71 ⟨Nat.le_of_ble_eq_true rfl, Nat.le_of_ble_eq_true rfl⟩) hS (fun q _ h => h) (fun q h => h) (fun τ13 t H locs ht hvm hw hB hz hk hS => ?_)
      obtain ⟨hF, hN9⟩ := hw
      have hP : PX dC dI ac A ad τ13 H := tw_back hB ht
      have hN : gN τ13 = gN τ0 := hN9.trans hN
      refine lv_goto (tgt := 94) hx hb dX9_taste_74 (by decide) ?_
      exact j94 τ13 o4 ho4 z5 z6 _ _ _ hF hP hN hS (lv_sub hl [2, 1, 0] rfl)
    · have c9 : x2 = (3 : Int32) := tw_sw e9 rfl
      have hF := hF.2.2.2 c9
      refine lv_tableIn (off := 58) (tgt := 77) hx hb dX9_taste_19 (by rw [e9]; decide) (by rw [e9]; decide) (by rw [e9]; rfl) (by decide) ?_
      refine lv_aload_n hx hb dX9_taste_77 rfl (lv_at hl 2 rfl) ?_
      refine va_callv (va_runV (As := []) (rest := []) ⟨hx, hb, hml, hown, hts⟩ (mX3_tastedFine l dC dI ac sa A ad τ3 o4 _ hF (tw_lt ho4 (congrFun hN 21))) (cwV 0 hts gX9_taste_X3_tastedFine rfl rfl rfl (by decide +kernel) ⟨Nat.le_of_ble_eq_true rfl, Nat.le_of_ble_eq_true rfl⟩) ⟨BX.blind, tw_recv hK hP (by decide) (tw_lt ho4 (congrFun hN 21)) rfl rfl, fun U hU hW => ⟨rfl, BX.of hP hK hS hA hZ hU hW⟩⟩ rfl rfl hl.1 rfl (lv_room (Nat.le_of_ble_eq_true rfl)) dX9_taste_78 ⟨Nat.le_of_ble_eq_true rfl, Nat.le_of_ble_eq_true rfl⟩) hS (fun q _ h => h) (fun q h => h) (fun τ14 t H locs ht hvm hw hB hz hk hS => ?_)
      obtain ⟨hF, hN9⟩ := hw
      have hP : PX dC dI ac A ad τ14 H := tw_back hB ht
      have hN : gN τ14 = gN τ0 := hN9.trans hN
      refine lv_goto (tgt := 94) hx hb dX9_taste_81 (by decide) ?_
      exact j94 τ14 o4 ho4 z5 z6 _ _ _ hF hP hN hS (lv_sub hl [2, 1, 0] rfl)
def F_X9_put (τ0 : tw_T) (k0 : Nat) (x1 : Int32) (x2 : Int32) (x3 : Int32) (Q : Int32 → tw_T → Prop) (X : Nat → tw_T → Prop) : Prop := F_X9_requireCell τ0 x1 (fun (τ1 : tw_T) => (F_X9_lotAt τ1 k0 x2 (fun (o3 : Nat) (τ2 : tw_T) => (F_X9_isWithin τ2 x3.toInt64 ((1 : Int64)) ((12 : Int64)) (fun (r5 : Int32) (τ4 : tw_T) => (((¬ r5 = 0 → (∃ o7 : Nat, gR τ4 0 k0 4 = some o7 ∧ (F_X5_takesLot τ4 o7 x1 x2 (fun (r9 : Int32) (τ8 : tw_T) => (((¬ r9 = 0 → (∃ o11 : Nat, gR τ8 0 k0 4 = some o11 ∧ (F_X5_hasRoom τ8 o11 x1 x3 (fun (r13 : Int32) (τ12 : tw_T) => (((¬ r13 = 0 → (∃ o15 : Nat, gR τ12 0 k0 4 = some o15 ∧ (F_X5_add τ12 o15 x1 x2 x3 (fun (τ16 : tw_T) => (∃ o17 : Nat, gR τ16 0 k0 6 = some o17 ∧ (∀ τ18 : tw_T, τ18 = sI τ16 7 o17 0 ((gI τ16 7 o17 0) + x3) → (∃ o19 : Nat, gR τ18 0 k0 4 = some o19 ∧ (∃ o20 : Nat, gR τ18 5 o19 1 = some o20 ∧ (vp_in x1 30 ∧ (Q (gI τ18 13 o20 x1.toNatClampNeg) τ18)))))))))) ∧ (r13 = 0 → (Q ((-2 : Int32)) τ12)))))))) ∧ (r9 = 0 → (Q ((-1 : Int32)) τ8)))))))) ∧ (r5 = 0 → (X 0 τ4))))))) X)) X
def rmX9_put : Room := { frames := 7, cells := 3, slots := 18, locals := 103 }
set_option maxHeartbeats 4000000 in
set_option maxRecDepth 100000 in
theorem mX9_put (l : Launch) (hlt : l.stackTraces = false) (dC : Nat → ClassId) (dI : Nat → Nat → Nat) (ac : Nat → ClassId) (sa : Nat → Nat) (A : Nat → Prop) (ad : Nat → Nat → Nat) (τ0 : tw_T) (k0 : Nat) (x1 : Int32) (x2 : Int32) (x3 : Int32) (Q : Int32 → tw_T → Prop) (X : Nat → tw_T → Prop) (hF : F_X9_put τ0 k0 x1 x2 x3 Q X) (hk0 : k0 < gN τ0 0) : vx_Met l yX9_put wsX9_put rmX9_put (va_Pc [.ref (ad 0 k0), .int x1, .int x2, .int x3] (BX dC dI ac sa A ad τ0)) (va_Qi (fun r (u : tw_T) => Q r u ∧ gN u = gN τ0) (fun u t => PX dC dI ac A ad u t.heap) A) (vx_X (fun (u : Nat × tw_T) => X u.1 u.2 ∧ gN u.2 = gN τ0) (fun E u t => E = exn u.1 ∧ PX dC dI ac A ad u.2 t.heap) A) 3 18 A := by
  refine vx_ofW (cc := cX9_put) (maxL := 4) (ret := (some .int)) (by decide) rfl ?_
  intro p e s m args below meth c s₁ B hml htab hv
  obtain ⟨rfl, hP, hK, hA, hZ⟩ := hv
  have hx := B.exec
  have hb := B.bytes
  have hr := B.returns
  have hts := atoms_spec (ws := wsX9_put) B.pre
  have hown : s.vm.findClass RX9 = some m.cls := findClass_of_methodNamed B.named
  have hlocks := B.notSynchronized
  have hS : va_S A s.heap s.heap [] := va_S.rf
  have hN : gN τ0 = gN τ0 := rfl
  have hl := lv_entry ([.ref (ad 0 k0), .int x1, .int x2, .int x3]) (n := 4) (Nat.le_of_ble_eq_true rfl)
  rw [lg_entry_eq]
  generalize (lg_sl ([.ref (ad 0 k0), .int x1, .int x2, .int x3]) ++ List.replicate (4 - (lg_sl ([.ref (ad 0 k0), .int x1, .int x2, .int x3])).length) Slot.unset).toArray = ls at hl ⊢
  have hl : lv_has ls 4 [(0, .ref (ad 0 k0)), (1, .int x1), (2, .int x2), (3, .int x3)] := hl
  unfold F_X9_put at hF
  refine lv_iload_n hx hb dX9_put_0 rfl (lv_at hl 1 rfl) ?_
  refine vx_callv (vx_runS (As := [.int x1]) (rest := []) ⟨hx, hb, hml, hown, hts⟩ (mX9_requireCell l hlt dC dI ac sa A ad τ0 x1 _ _ hF ) (va_cwS 1 hts gX9_put_X9_requireCell rfl rfl rfl (by decide +kernel) ⟨Nat.le_of_ble_eq_true rfl, Nat.le_of_ble_eq_true rfl⟩) ⟨BX.blind, fun U hU hW => ⟨rfl, BX.of hP hK hS hA hZ hU hW⟩⟩ rfl rfl hl.1 rfl (lv_room (Nat.le_of_ble_eq_true rfl)) dX9_put_1 ⟨Nat.le_of_ble_eq_true rfl, Nat.le_of_ble_eq_true rfl⟩) hS (fun q _ h => h) (fun q h => h) (fun q _ h => h) (fun E9 ce9 q9 u9 t9 H locs ht hvm hpx hBX hz9 hk9 hS hce hcv hcl => ?_) (fun τ1 t H locs ht hvm hw hB hz hk hS => ?_)
  · obtain ⟨ec9, τ9⟩ := u9
    obtain ⟨hF9, hN9⟩ := hpx
    obtain ⟨rfl, hP9⟩ := hBX
    exact vx_out (fun x9 hx9 => (htab x9 hx9).elim) hlocks hce hcv hcl (fun t2 ht2 hvm2 => ⟨(ec9, τ9), ⟨hF9, hN9.trans hN⟩, ⟨rfl, tw_at (tw_back hP9 ht) ht2⟩, hS.F ht2⟩) hS.2.2 (by decide) (by decide)
  obtain ⟨hF, hN9⟩ := hw
  have hP : PX dC dI ac A ad τ1 H := tw_back hB ht
  have hN : gN τ1 = gN τ0 := hN9.trans hN
  refine lv_aload_n hx hb dX9_put_4 rfl (lv_at hl 0 rfl) ?_
  refine lv_iload_n hx hb dX9_put_5 rfl (lv_at hl 2 rfl) ?_
  refine vx_callr (vx_runV (As := [.int x2]) (rest := []) ⟨hx, hb, hml, hown, hts⟩ (mX9_lotAt l hlt dC dI ac sa A ad τ1 k0 x2 _ _ hF (tw_lt hk0 (congrFun hN 0))) (cwV 1 hts gX9_put_X9_lotAt rfl rfl rfl (by decide +kernel) ⟨Nat.le_of_ble_eq_true rfl, Nat.le_of_ble_eq_true rfl⟩) ⟨BX.blind, tw_recv hK hP (by decide) (tw_lt hk0 (congrFun hN 0)) rfl rfl, fun U hU hW => ⟨rfl, BX.of hP hK hS hA hZ hU hW⟩⟩ rfl rfl hl.1 rfl (lv_room (Nat.le_of_ble_eq_true rfl)) dX9_put_6 ⟨Nat.le_of_ble_eq_true rfl, Nat.le_of_ble_eq_true rfl⟩) hS (fun q _ h => h) (fun q h => h) (fun q _ h => h) (fun E9 ce9 q9 u9 t9 H locs ht hvm hpx hBX hz9 hk9 hS hce hcv hcl => ?_) (fun u9 ra9 t H locs ht hvm hw hB hz hk hS => ?_)
  · obtain ⟨ec9, τ9⟩ := u9
    obtain ⟨hF9, hN9⟩ := hpx
    obtain ⟨rfl, hP9⟩ := hBX
    exact vx_out (fun x9 hx9 => (htab x9 hx9).elim) hlocks hce hcv hcl (fun t2 ht2 hvm2 => ⟨(ec9, τ9), ⟨hF9, hN9.trans hN⟩, ⟨rfl, tw_at (tw_back hP9 ht) ht2⟩, hS.F ht2⟩) hS.2.2 (by decide) (by decide)
  obtain ⟨τ2, o3⟩ := u9
  obtain ⟨hF, ho3, hN9⟩ := hw
  obtain ⟨rfl, hB⟩ := hB
  try dsimp only at hF ho3 hN9 hB ⊢
  have ho3 : o3 < gN τ0 21 := tw_lt ho3 (congrFun hN 21).symm
  have hP : PX dC dI ac A ad τ2 H := tw_back hB ht
  have hN : gN τ2 = gN τ0 := hN9.trans hN
  refine lv_pop hx hb dX9_put_9 rfl ?_
  refine lv_iload_n hx hb dX9_put_10 rfl (lv_at hl 3 rfl) ?_
  refine lv_i2l (v := x3.toInt64) hx hb dX9_put_11 rfl ?_
  refine lv_lconst (v := 1) hx hb dX9_put_12 (by decide) ?_
  refine lv_ldc2 (v := 12) hx hb hown (hts (.constantLong RX9 191 12) (by decide +kernel)) dX9_put_13 ?_
  refine va_calli (va_runS (As := [.long x3.toInt64, .long ((1 : Int64)), .long ((12 : Int64))]) (rest := []) ⟨hx, hb, hml, hown, hts⟩ (mX9_isWithin l dC dI ac sa A ad τ2 x3.toInt64 ((1 : Int64)) ((12 : Int64)) _ hF ) (va_cwS 3 hts gX9_put_X9_isWithin rfl rfl rfl (by decide +kernel) ⟨Nat.le_of_ble_eq_true rfl, Nat.le_of_ble_eq_true rfl⟩) ⟨BX.blind, fun U hU hW => ⟨rfl, BX.of hP hK hS hA hZ hU hW⟩⟩ rfl rfl hl.1 rfl (lv_room (Nat.le_of_ble_eq_true rfl)) dX9_put_16 ⟨Nat.le_of_ble_eq_true rfl, Nat.le_of_ble_eq_true rfl⟩) hS (fun q _ h => h) (fun q h => h) (fun r5 τ4 t H locs ht hvm hw hB hz hk hS => ?_)
  obtain ⟨hF, hN9⟩ := hw
  have hP : PX dC dI ac A ad τ4 H := tw_back hB ht
  have hN : gN τ4 = gN τ0 := hN9.trans hN
  refine lv_if_ne (tgt := 32) hx hb dX9_put_19 (by decide) (fun c6 => ?_) (fun c6 => ?_)
  · have hF := hF.1 c6
    refine lv_aload_n hx hb dX9_put_32 rfl (lv_at hl 0 rfl) ?_
    obtain ⟨o7, eo7, hF⟩ := hF
    have ho7 : o7 < gN τ0 5 := tw_lt (hP.2.2.2 0 k0 4 o7 (by decide) (tw_lt hk0 (congrFun hN 0)) eo7) (congrFun hN 5).symm
    refine tw_get (v := .ref (ad 5 o7)) hx hb hts (by decide +kernel) hown hK hP (by decide) (tw_lt hk0 (congrFun hN 0)) rfl rfl 4 (by decide) (hts (.fieldLink RX9 36 "WineCellar" "rack" "LWineCellar$Rack;") (by decide +kernel)) (fun _ h9 => h9) (show some (va_rf ((gR τ4 0 k0 4).map (ad 5))) = some (.ref (ad 5 o7)) by rw [eo7]; rfl) dX9_put_33 ?_
    refine lv_iload_n hx hb dX9_put_36 rfl (lv_at hl 1 rfl) ?_
    refine lv_iload_n hx hb dX9_put_37 rfl (lv_at hl 2 rfl) ?_
    refine va_calli (va_runV (As := [.int x1, .int x2]) (rest := []) ⟨hx, hb, hml, hown, hts⟩ (mX5_takesLot l dC dI ac sa A ad τ4 o7 x1 x2 _ hF (tw_lt ho7 (congrFun hN 5))) (cwV 2 hts gX9_put_X5_takesLot rfl rfl rfl (by decide +kernel) ⟨Nat.le_of_ble_eq_true rfl, Nat.le_of_ble_eq_true rfl⟩) ⟨BX.blind, tw_recv hK hP (by decide) (tw_lt ho7 (congrFun hN 5)) rfl rfl, fun U hU hW => ⟨rfl, BX.of hP hK hS hA hZ hU hW⟩⟩ rfl rfl hl.1 rfl (lv_room (Nat.le_of_ble_eq_true rfl)) dX9_put_38 ⟨Nat.le_of_ble_eq_true rfl, Nat.le_of_ble_eq_true rfl⟩) hS (fun q _ h => h) (fun q h => h) (fun r9 τ8 t H locs ht hvm hw hB hz hk hS => ?_)
    obtain ⟨hF, hN9⟩ := hw
    have hP : PX dC dI ac A ad τ8 H := tw_back hB ht
    have hN : gN τ8 = gN τ0 := hN9.trans hN
    refine lv_if_ne (tgt := 46) hx hb dX9_put_41 (by decide) (fun c10 => ?_) (fun c10 => ?_)
    · have hF := hF.1 c10
      refine lv_aload_n hx hb dX9_put_46 rfl (lv_at hl 0 rfl) ?_
      obtain ⟨o11, eo11, hF⟩ := hF
      have ho11 : o11 < gN τ0 5 := tw_lt (hP.2.2.2 0 k0 4 o11 (by decide) (tw_lt hk0 (congrFun hN 0)) eo11) (congrFun hN 5).symm
      refine tw_get (v := .ref (ad 5 o11)) hx hb hts (by decide +kernel) hown hK hP (by decide) (tw_lt hk0 (congrFun hN 0)) rfl rfl 4 (by decide) (hts (.fieldLink RX9 36 "WineCellar" "rack" "LWineCellar$Rack;") (by decide +kernel)) (fun _ h9 => h9) (show some (va_rf ((gR τ8 0 k0 4).map (ad 5))) = some (.ref (ad 5 o11)) by rw [eo11]; rfl) dX9_put_47 ?_
      refine lv_iload_n hx hb dX9_put_50 rfl (lv_at hl 1 rfl) ?_
      refine lv_iload_n hx hb dX9_put_51 rfl (lv_at hl 3 rfl) ?_
      refine va_calli (va_runV (As := [.int x1, .int x3]) (rest := []) ⟨hx, hb, hml, hown, hts⟩ (mX5_hasRoom l dC dI ac sa A ad τ8 o11 x1 x3 _ hF (tw_lt ho11 (congrFun hN 5))) (cwV 2 hts gX9_put_X5_hasRoom rfl rfl rfl (by decide +kernel) ⟨Nat.le_of_ble_eq_true rfl, Nat.le_of_ble_eq_true rfl⟩) ⟨BX.blind, tw_recv hK hP (by decide) (tw_lt ho11 (congrFun hN 5)) rfl rfl, fun U hU hW => ⟨rfl, BX.of hP hK hS hA hZ hU hW⟩⟩ rfl rfl hl.1 rfl (lv_room (Nat.le_of_ble_eq_true rfl)) dX9_put_52 ⟨Nat.le_of_ble_eq_true rfl, Nat.le_of_ble_eq_true rfl⟩) hS (fun q _ h => h) (fun q h => h) (fun r13 τ12 t H locs ht hvm hw hB hz hk hS => ?_)
      obtain ⟨hF, hN9⟩ := hw
      have hP : PX dC dI ac A ad τ12 H := tw_back hB ht
      have hN : gN τ12 = gN τ0 := hN9.trans hN
      refine lv_if_ne (tgt := 61) hx hb dX9_put_55 (by decide) (fun c14 => ?_) (fun c14 => ?_)
      · have hF := hF.1 c14
        refine lv_aload_n hx hb dX9_put_61 rfl (lv_at hl 0 rfl) ?_
        obtain ⟨o15, eo15, hF⟩ := hF
        have ho15 : o15 < gN τ0 5 := tw_lt (hP.2.2.2 0 k0 4 o15 (by decide) (tw_lt hk0 (congrFun hN 0)) eo15) (congrFun hN 5).symm
        refine tw_get (v := .ref (ad 5 o15)) hx hb hts (by decide +kernel) hown hK hP (by decide) (tw_lt hk0 (congrFun hN 0)) rfl rfl 4 (by decide) (hts (.fieldLink RX9 36 "WineCellar" "rack" "LWineCellar$Rack;") (by decide +kernel)) (fun _ h9 => h9) (show some (va_rf ((gR τ12 0 k0 4).map (ad 5))) = some (.ref (ad 5 o15)) by rw [eo15]; rfl) dX9_put_62 ?_
        refine lv_iload_n hx hb dX9_put_65 rfl (lv_at hl 1 rfl) ?_
        refine lv_iload_n hx hb dX9_put_66 rfl (lv_at hl 2 rfl) ?_
        refine lv_iload_n hx hb dX9_put_67 rfl (lv_at hl 3 rfl) ?_
        refine va_callv (va_runV (As := [.int x1, .int x2, .int x3]) (rest := []) ⟨hx, hb, hml, hown, hts⟩ (mX5_add l dC dI ac sa A ad τ12 o15 x1 x2 x3 _ hF (tw_lt ho15 (congrFun hN 5))) (cwV 3 hts gX9_put_X5_add rfl rfl rfl (by decide +kernel) ⟨Nat.le_of_ble_eq_true rfl, Nat.le_of_ble_eq_true rfl⟩) ⟨BX.blind, tw_recv hK hP (by decide) (tw_lt ho15 (congrFun hN 5)) rfl rfl, fun U hU hW => ⟨rfl, BX.of hP hK hS hA hZ hU hW⟩⟩ rfl rfl hl.1 rfl (lv_room (Nat.le_of_ble_eq_true rfl)) dX9_put_68 ⟨Nat.le_of_ble_eq_true rfl, Nat.le_of_ble_eq_true rfl⟩) hS (fun q _ h => h) (fun q h => h) (fun τ16 t H locs ht hvm hw hB hz hk hS => ?_)
        obtain ⟨hF, hN9⟩ := hw
        have hP : PX dC dI ac A ad τ16 H := tw_back hB ht
        have hN : gN τ16 = gN τ0 := hN9.trans hN
        refine lv_aload_n hx hb dX9_put_71 rfl (lv_at hl 0 rfl) ?_
        obtain ⟨o17, eo17, hF⟩ := hF
        have ho17 : o17 < gN τ0 7 := tw_lt (hP.2.2.2 0 k0 6 o17 (by decide) (tw_lt hk0 (congrFun hN 0)) eo17) (congrFun hN 7).symm
        refine tw_get (v := .ref (ad 7 o17)) hx hb hts (by decide +kernel) hown hK hP (by decide) (tw_lt hk0 (congrFun hN 0)) rfl rfl 6 (by decide) (hts (.fieldLink RX9 50 "WineCellar" "ledger" "LWineCellar$Ledger;") (by decide +kernel)) (fun _ h9 => h9) (show some (va_rf ((gR τ16 0 k0 6).map (ad 7))) = some (.ref (ad 7 o17)) by rw [eo17]; rfl) dX9_put_72 ?_
        refine lv_dup hx hb dX9_put_75 rfl ?_
        refine tw_get (v := .int (gI τ16 7 o17 0)) hx hb hts (by decide +kernel) hown hK hP (by decide) (tw_lt ho17 (congrFun hN 7)) rfl rfl 0 (by decide) (hts (.fieldLink RX9 206 "WineCellar$Ledger" "bought" "I") (by decide +kernel)) (fun _ h9 => h9) rfl dX9_put_76 ?_
        refine lv_iload_n hx hb dX9_put_79 rfl (lv_at hl 3 rfl) ?_
        refine lv_iadd hx hb dX9_put_80 ?_
        refine tw_put (τ' := sI τ16 7 o17 0 ((gI τ16 7 o17 0) + x3)) (ty := .int) hx hb hts (by decide +kernel) tyX2 tyX2_ok nmX2 hown hK hP hS (by decide) (tw_lt ho17 (congrFun hN 7)) rfl rfl 0 (by decide) (hts (.fieldLink RX9 206 "WineCellar$Ledger" "bought" "I") (by decide +kernel)) (fun _ h9 => h9) rfl (by decide +kernel) rfl rfl (Nat.le_of_ble_eq_true rfl) dX9_put_81 (fun H1 ha ho => tw_updI hP (by decide) (tw_lt ho17 (congrFun hN 7)) ha ho) (fun H locs hP hS => ?_)
        obtain ⟨τ18, eτ18⟩ : ∃ y : tw_T, y = sI τ16 7 o17 0 ((gI τ16 7 o17 0) + x3) := ⟨_, rfl⟩
        have hF := hF τ18 eτ18
        rw [← eτ18] at hP
        have hN : gN τ18 = gN τ0 := by rw [eτ18]; exact hN
        refine lv_aload_n hx hb dX9_put_84 rfl (lv_at hl 0 rfl) ?_
        obtain ⟨o19, eo19, hF⟩ := hF
        have ho19 : o19 < gN τ0 5 := tw_lt (hP.2.2.2 0 k0 4 o19 (by decide) (tw_lt hk0 (congrFun hN 0)) eo19) (congrFun hN 5).symm
        refine tw_get (v := .ref (ad 5 o19)) hx hb hts (by decide +kernel) hown hK hP (by decide) (tw_lt hk0 (congrFun hN 0)) rfl rfl 4 (by decide) (hts (.fieldLink RX9 36 "WineCellar" "rack" "LWineCellar$Rack;") (by decide +kernel)) (fun _ h9 => h9) (show some (va_rf ((gR τ18 0 k0 4).map (ad 5))) = some (.ref (ad 5 o19)) by rw [eo19]; rfl) dX9_put_85 ?_
        obtain ⟨o20, eo20, hF⟩ := hF
        have ho20 : o20 < gN τ0 13 := tw_lt (hP.2.2.2 5 o19 1 o20 (by decide) (tw_lt ho19 (congrFun hN 5)) eo20) (congrFun hN 13).symm
        refine tw_get (v := .ref (ad 13 o20)) hx hb hts (by decide +kernel) hown hK hP (by decide) (tw_lt ho19 (congrFun hN 5)) rfl rfl 1 (by decide) (hts (.fieldLink RX9 209 "WineCellar$Rack" "bottles" "[I") (by decide +kernel)) (fun _ h9 => h9) (show some (va_rf ((gR τ18 5 o19 1).map (ad 13))) = some (.ref (ad 13 o20)) by rw [eo20]; rfl) dX9_put_88 ?_
        refine lv_iload_n hx hb dX9_put_91 rfl (lv_at hl 1 rfl) ?_
        obtain ⟨hi21, hF⟩ := hF
        refine tw_iald hx hb hK hP (by decide) (tw_lt ho20 (congrFun hN 13)) rfl 0 rfl hi21 dX9_put_92 ?_
        refine W.widen (k := 3) (n := 18) (by decide) (by decide) ?_
        exact vx_ret (W.iret (v := gI τ18 13 o20 x1.toNatClampNeg) hx hb hr (fun t ht hW => ⟨⟨(gI τ18 13 o20 x1.toNatClampNeg), τ18, rfl, ⟨hF, hN⟩, tw_at hP ht⟩, hS.F ht⟩) hS.2.2 dX9_put_93)
      · have hF := hF.2 c14
        refine lv_bipush (v := (-2)) hx hb dX9_put_58 (by decide) ?_
        refine W.widen (k := 3) (n := 18) (by decide) (by decide) ?_
        exact vx_ret (W.iret (v := (-2 : Int32)) hx hb hr (fun t ht hW => ⟨⟨((-2 : Int32)), τ12, rfl, ⟨hF, hN⟩, tw_at hP ht⟩, hS.F ht⟩) hS.2.2 dX9_put_60)
    · have hF := hF.2 c10
      refine lv_iconst (v := (-1)) hx hb dX9_put_44 (by decide) ?_
      refine W.widen (k := 3) (n := 18) (by decide) (by decide) ?_
      exact vx_ret (W.iret (v := (-1 : Int32)) hx hb hr (fun t ht hW => ⟨⟨((-1 : Int32)), τ8, rfl, ⟨hF, hN⟩, tw_at hP ht⟩, hS.F ht⟩) hS.2.2 dX9_put_45)
  · have hF := hF.2 c6
    exact vx_throwS (names := zx_names) hx hb hlt hown (by decide +kernel) (by decide +kernel) (hts (.classLink RX9 96 "java/lang/IllegalArgumentException") (by decide +kernel)) (hts (.initialized "java/lang/IllegalArgumentException") (by decide +kernel)) (hZ.2.2.1 (193, "no such number of bottles", 35) (by decide +kernel)) (zx_hat0 hts (by decide +kernel) hZ.2.2.2.2.2) zx_ot0 hZ.2.1.1 hZ.2.1.2 hS (hl.1.trans hml.symm) dX9_put_22 dX9_put_25 dX9_put_26 dX9_put_28 dX9_put_31 (fun x9 hx9 => (htab x9 hx9).elim) (Nat.le_of_ble_eq_true rfl) (Nat.le_of_ble_eq_true rfl) (Nat.le_of_ble_eq_true rfl) (Nat.le_of_ble_eq_true rfl) hlocks (fun t hvm hz hk => ⟨(0, τ4), ⟨hF, hN⟩, ⟨rfl, (tw_thrown hP hS hz hk).1⟩, (tw_thrown hP hS hz hk).2⟩) hS.2.2 (by decide) (by decide)
def F_X9_move (τ0 : tw_T) (k0 : Nat) (x1 : Int32) (x2 : Int32) (x3 : Int32) (Q : Int32 → tw_T → Prop) (X : Nat → tw_T → Prop) : Prop := F_X9_requireCell τ0 x1 (fun (τ1 : tw_T) => (F_X9_requireCell τ1 x2 (fun (τ2 : tw_T) => (((x1 = x2 → (X 0 τ2)) ∧ (¬ x1 = x2 → (((((1 : Int32)) ≤ x3 → (∃ o5 : Nat, gR τ2 0 k0 4 = some o5 ∧ (∃ o6 : Nat, gR τ2 5 o5 1 = some o6 ∧ (vp_in x1 30 ∧ (((x3 ≤ (gI τ2 13 o6 x1.toNatClampNeg) → (∃ o9 : Nat, gR τ2 0 k0 4 = some o9 ∧ (∃ o10 : Nat, gR τ2 5 o9 0 = some o10 ∧ (vp_in x1 30 ∧ (∀ z12 : Int32, z12 = gI τ2 12 o10 x1.toNatClampNeg → (∃ o13 : Nat, gR τ2 0 k0 4 = some o13 ∧ (F_X5_takesLot τ2 o13 x2 z12 (fun (r15 : Int32) (τ14 : tw_T) => (((¬ r15 = 0 → (∃ o17 : Nat, gR τ14 0 k0 4 = some o17 ∧ (F_X5_hasRoom τ14 o17 x2 x3 (fun (r19 : Int32) (τ18 : tw_T) => (((¬ r19 = 0 → (∃ o21 : Nat, gR τ18 0 k0 4 = some o21 ∧ (F_X5_remove τ18 o21 x1 x3 (fun (τ22 : tw_T) => (∃ o23 : Nat, gR τ22 0 k0 4 = some o23 ∧ (F_X5_add τ22 o23 x2 z12 x3 (fun (τ24 : tw_T) => (∃ o25 : Nat, gR τ24 0 k0 4 = some o25 ∧ (∃ o26 : Nat, gR τ24 5 o25 1 = some o26 ∧ (vp_in x2 30 ∧ (Q (gI τ24 13 o26 x2.toNatClampNeg) τ24))))))))))) ∧ (r19 = 0 → (Q ((-3 : Int32)) τ18)))))))) ∧ (r15 = 0 → (Q ((-2 : Int32)) τ14)))))))))))) ∧ (¬ x3 ≤ (gI τ2 13 o6 x1.toNatClampNeg) → (Q ((-1 : Int32)) τ2)))))))) ∧ (¬ ((1 : Int32)) ≤ x3 → (X 0 τ2)))))))) X)) X
def rmX9_move : Room := { frames := 7, cells := 3, slots := 18, locals := 102 }
set_option maxHeartbeats 4000000 in
set_option maxRecDepth 100000 in
theorem mX9_move (l : Launch) (hlt : l.stackTraces = false) (dC : Nat → ClassId) (dI : Nat → Nat → Nat) (ac : Nat → ClassId) (sa : Nat → Nat) (A : Nat → Prop) (ad : Nat → Nat → Nat) (τ0 : tw_T) (k0 : Nat) (x1 : Int32) (x2 : Int32) (x3 : Int32) (Q : Int32 → tw_T → Prop) (X : Nat → tw_T → Prop) (hF : F_X9_move τ0 k0 x1 x2 x3 Q X) (hk0 : k0 < gN τ0 0) : vx_Met l yX9_move wsX9_move rmX9_move (va_Pc [.ref (ad 0 k0), .int x1, .int x2, .int x3] (BX dC dI ac sa A ad τ0)) (va_Qi (fun r (u : tw_T) => Q r u ∧ gN u = gN τ0) (fun u t => PX dC dI ac A ad u t.heap) A) (vx_X (fun (u : Nat × tw_T) => X u.1 u.2 ∧ gN u.2 = gN τ0) (fun E u t => E = exn u.1 ∧ PX dC dI ac A ad u.2 t.heap) A) 3 18 A := by
  refine vx_ofW (cc := cX9_move) (maxL := 5) (ret := (some .int)) (by decide) rfl ?_
  intro p e s m args below meth c s₁ B hml htab hv
  obtain ⟨rfl, hP, hK, hA, hZ⟩ := hv
  have hx := B.exec
  have hb := B.bytes
  have hr := B.returns
  have hts := atoms_spec (ws := wsX9_move) B.pre
  have hown : s.vm.findClass RX9 = some m.cls := findClass_of_methodNamed B.named
  have hlocks := B.notSynchronized
  have hS : va_S A s.heap s.heap [] := va_S.rf
  have hN : gN τ0 = gN τ0 := rfl
  have hl := lv_entry ([.ref (ad 0 k0), .int x1, .int x2, .int x3]) (n := 5) (Nat.le_of_ble_eq_true rfl)
  rw [lg_entry_eq]
  generalize (lg_sl ([.ref (ad 0 k0), .int x1, .int x2, .int x3]) ++ List.replicate (5 - (lg_sl ([.ref (ad 0 k0), .int x1, .int x2, .int x3])).length) Slot.unset).toArray = ls at hl ⊢
  have hl : lv_has ls 5 [(0, .ref (ad 0 k0)), (1, .int x1), (2, .int x2), (3, .int x3)] := hl
  unfold F_X9_move at hF
  refine lv_iload_n hx hb dX9_move_0 rfl (lv_at hl 1 rfl) ?_
  refine vx_callv (vx_runS (As := [.int x1]) (rest := []) ⟨hx, hb, hml, hown, hts⟩ (mX9_requireCell l hlt dC dI ac sa A ad τ0 x1 _ _ hF ) (va_cwS 1 hts gX9_move_X9_requireCell rfl rfl rfl (by decide +kernel) ⟨Nat.le_of_ble_eq_true rfl, Nat.le_of_ble_eq_true rfl⟩) ⟨BX.blind, fun U hU hW => ⟨rfl, BX.of hP hK hS hA hZ hU hW⟩⟩ rfl rfl hl.1 rfl (lv_room (Nat.le_of_ble_eq_true rfl)) dX9_move_1 ⟨Nat.le_of_ble_eq_true rfl, Nat.le_of_ble_eq_true rfl⟩) hS (fun q _ h => h) (fun q h => h) (fun q _ h => h) (fun E9 ce9 q9 u9 t9 H locs ht hvm hpx hBX hz9 hk9 hS hce hcv hcl => ?_) (fun τ1 t H locs ht hvm hw hB hz hk hS => ?_)
  · obtain ⟨ec9, τ9⟩ := u9
    obtain ⟨hF9, hN9⟩ := hpx
    obtain ⟨rfl, hP9⟩ := hBX
    exact vx_out (fun x9 hx9 => (htab x9 hx9).elim) hlocks hce hcv hcl (fun t2 ht2 hvm2 => ⟨(ec9, τ9), ⟨hF9, hN9.trans hN⟩, ⟨rfl, tw_at (tw_back hP9 ht) ht2⟩, hS.F ht2⟩) hS.2.2 (by decide) (by decide)
  obtain ⟨hF, hN9⟩ := hw
  have hP : PX dC dI ac A ad τ1 H := tw_back hB ht
  have hN : gN τ1 = gN τ0 := hN9.trans hN
  refine lv_iload_n hx hb dX9_move_4 rfl (lv_at hl 2 rfl) ?_
  refine vx_callv (vx_runS (As := [.int x2]) (rest := []) ⟨hx, hb, hml, hown, hts⟩ (mX9_requireCell l hlt dC dI ac sa A ad τ1 x2 _ _ hF ) (va_cwS 1 hts gX9_move_X9_requireCell rfl rfl rfl (by decide +kernel) ⟨Nat.le_of_ble_eq_true rfl, Nat.le_of_ble_eq_true rfl⟩) ⟨BX.blind, fun U hU hW => ⟨rfl, BX.of hP hK hS hA hZ hU hW⟩⟩ rfl rfl hl.1 rfl (lv_room (Nat.le_of_ble_eq_true rfl)) dX9_move_5 ⟨Nat.le_of_ble_eq_true rfl, Nat.le_of_ble_eq_true rfl⟩) hS (fun q _ h => h) (fun q h => h) (fun q _ h => h) (fun E9 ce9 q9 u9 t9 H locs ht hvm hpx hBX hz9 hk9 hS hce hcv hcl => ?_) (fun τ2 t H locs ht hvm hw hB hz hk hS => ?_)
  · obtain ⟨ec9, τ9⟩ := u9
    obtain ⟨hF9, hN9⟩ := hpx
    obtain ⟨rfl, hP9⟩ := hBX
    exact vx_out (fun x9 hx9 => (htab x9 hx9).elim) hlocks hce hcv hcl (fun t2 ht2 hvm2 => ⟨(ec9, τ9), ⟨hF9, hN9.trans hN⟩, ⟨rfl, tw_at (tw_back hP9 ht) ht2⟩, hS.F ht2⟩) hS.2.2 (by decide) (by decide)
  obtain ⟨hF, hN9⟩ := hw
  have hP : PX dC dI ac A ad τ2 H := tw_back hB ht
  have hN : gN τ2 = gN τ0 := hN9.trans hN
  refine lv_iload_n hx hb dX9_move_8 rfl (lv_at hl 1 rfl) ?_
  refine lv_iload_n hx hb dX9_move_9 rfl (lv_at hl 2 rfl) ?_
  refine lv_icmp_eq (tgt := 18) hx hb dX9_move_10 (by decide) (fun c3 => ?_) (fun c3 => ?_)
  · have hF := hF.1 c3
    exact vx_throwS (names := zx_names) hx hb hlt hown (by decide +kernel) (by decide +kernel) (hts (.classLink RX9 96 "java/lang/IllegalArgumentException") (by decide +kernel)) (hts (.initialized "java/lang/IllegalArgumentException") (by decide +kernel)) (hZ.2.2.1 (212, "no such move", 36) (by decide +kernel)) (zx_hat0 hts (by decide +kernel) hZ.2.2.2.2.2) zx_ot0 hZ.2.1.1 hZ.2.1.2 hS (hl.1.trans hml.symm) dX9_move_18 dX9_move_21 dX9_move_22 dX9_move_24 dX9_move_27 (fun x9 hx9 => (htab x9 hx9).elim) (Nat.le_of_ble_eq_true rfl) (Nat.le_of_ble_eq_true rfl) (Nat.le_of_ble_eq_true rfl) (Nat.le_of_ble_eq_true rfl) hlocks (fun t hvm hz hk => ⟨(0, τ2), ⟨hF, hN⟩, ⟨rfl, (tw_thrown hP hS hz hk).1⟩, (tw_thrown hP hS hz hk).2⟩) hS.2.2 (by decide) (by decide)
  · have hF := hF.2 c3
    refine lv_iload_n hx hb dX9_move_13 rfl (lv_at hl 3 rfl) ?_
    refine lv_iconst (v := 1) hx hb dX9_move_14 (by decide) ?_
    refine lv_icmp_ge (tgt := 28) hx hb dX9_move_15 (by decide) (fun c4 => ?_) (fun c4 => ?_)
    · have hF := hF.1 c4
      refine lv_aload_n hx hb dX9_move_28 rfl (lv_at hl 0 rfl) ?_
      obtain ⟨o5, eo5, hF⟩ := hF
      have ho5 : o5 < gN τ0 5 := tw_lt (hP.2.2.2 0 k0 4 o5 (by decide) (tw_lt hk0 (congrFun hN 0)) eo5) (congrFun hN 5).symm
      refine tw_get (v := .ref (ad 5 o5)) hx hb hts (by decide +kernel) hown hK hP (by decide) (tw_lt hk0 (congrFun hN 0)) rfl rfl 4 (by decide) (hts (.fieldLink RX9 36 "WineCellar" "rack" "LWineCellar$Rack;") (by decide +kernel)) (fun _ h9 => h9) (show some (va_rf ((gR τ2 0 k0 4).map (ad 5))) = some (.ref (ad 5 o5)) by rw [eo5]; rfl) dX9_move_29 ?_
      obtain ⟨o6, eo6, hF⟩ := hF
      have ho6 : o6 < gN τ0 13 := tw_lt (hP.2.2.2 5 o5 1 o6 (by decide) (tw_lt ho5 (congrFun hN 5)) eo6) (congrFun hN 13).symm
      refine tw_get (v := .ref (ad 13 o6)) hx hb hts (by decide +kernel) hown hK hP (by decide) (tw_lt ho5 (congrFun hN 5)) rfl rfl 1 (by decide) (hts (.fieldLink RX9 209 "WineCellar$Rack" "bottles" "[I") (by decide +kernel)) (fun _ h9 => h9) (show some (va_rf ((gR τ2 5 o5 1).map (ad 13))) = some (.ref (ad 13 o6)) by rw [eo6]; rfl) dX9_move_32 ?_
      refine lv_iload_n hx hb dX9_move_35 rfl (lv_at hl 1 rfl) ?_
      obtain ⟨hi7, hF⟩ := hF
      refine tw_iald hx hb hK hP (by decide) (tw_lt ho6 (congrFun hN 13)) rfl 0 rfl hi7 dX9_move_36 ?_
      refine lv_iload_n hx hb dX9_move_37 rfl (lv_at hl 3 rfl) ?_
      refine lv_icmp_ge (tgt := 43) hx hb dX9_move_38 (by decide) (fun c8 => ?_) (fun c8 => ?_)
      · have hF := hF.1 c8
        refine lv_aload_n hx hb dX9_move_43 rfl (lv_at hl 0 rfl) ?_
        obtain ⟨o9, eo9, hF⟩ := hF
        have ho9 : o9 < gN τ0 5 := tw_lt (hP.2.2.2 0 k0 4 o9 (by decide) (tw_lt hk0 (congrFun hN 0)) eo9) (congrFun hN 5).symm
        refine tw_get (v := .ref (ad 5 o9)) hx hb hts (by decide +kernel) hown hK hP (by decide) (tw_lt hk0 (congrFun hN 0)) rfl rfl 4 (by decide) (hts (.fieldLink RX9 36 "WineCellar" "rack" "LWineCellar$Rack;") (by decide +kernel)) (fun _ h9 => h9) (show some (va_rf ((gR τ2 0 k0 4).map (ad 5))) = some (.ref (ad 5 o9)) by rw [eo9]; rfl) dX9_move_44 ?_
        obtain ⟨o10, eo10, hF⟩ := hF
        have ho10 : o10 < gN τ0 12 := tw_lt (hP.2.2.2 5 o9 0 o10 (by decide) (tw_lt ho9 (congrFun hN 5)) eo10) (congrFun hN 12).symm
        refine tw_get (v := .ref (ad 12 o10)) hx hb hts (by decide +kernel) hown hK hP (by decide) (tw_lt ho9 (congrFun hN 5)) rfl rfl 0 (by decide) (hts (.fieldLink RX9 214 "WineCellar$Rack" "lots" "[I") (by decide +kernel)) (fun _ h9 => h9) (show some (va_rf ((gR τ2 5 o9 0).map (ad 12))) = some (.ref (ad 12 o10)) by rw [eo10]; rfl) dX9_move_47 ?_
        refine lv_iload_n hx hb dX9_move_50 rfl (lv_at hl 1 rfl) ?_
        obtain ⟨hi11, hF⟩ := hF
        refine tw_iald hx hb hK hP (by decide) (tw_lt ho10 (congrFun hN 12)) rfl 0 rfl hi11 dX9_move_51 ?_
        refine lv_topi (fun z12 ez12 => ?_)
        have hF := hF z12 ez12
        refine lv_istore (lv' := [(4, .int z12), (0, .ref (ad 0 k0)), (1, .int x1), (2, .int x2), (3, .int x3)]) hx hb dX9_move_52 hl (by decide) rfl (fun ls hl => ?_)
        refine lv_aload_n hx hb dX9_move_54 rfl (lv_at hl 1 rfl) ?_
        obtain ⟨o13, eo13, hF⟩ := hF
        have ho13 : o13 < gN τ0 5 := tw_lt (hP.2.2.2 0 k0 4 o13 (by decide) (tw_lt hk0 (congrFun hN 0)) eo13) (congrFun hN 5).symm
        refine tw_get (v := .ref (ad 5 o13)) hx hb hts (by decide +kernel) hown hK hP (by decide) (tw_lt hk0 (congrFun hN 0)) rfl rfl 4 (by decide) (hts (.fieldLink RX9 36 "WineCellar" "rack" "LWineCellar$Rack;") (by decide +kernel)) (fun _ h9 => h9) (show some (va_rf ((gR τ2 0 k0 4).map (ad 5))) = some (.ref (ad 5 o13)) by rw [eo13]; rfl) dX9_move_55 ?_
        refine lv_iload_n hx hb dX9_move_58 rfl (lv_at hl 3 rfl) ?_
        refine lv_iload hx hb dX9_move_59 (lv_at hl 0 rfl) ?_
        refine va_calli (va_runV (As := [.int x2, .int z12]) (rest := []) ⟨hx, hb, hml, hown, hts⟩ (mX5_takesLot l dC dI ac sa A ad τ2 o13 x2 z12 _ hF (tw_lt ho13 (congrFun hN 5))) (cwV 2 hts gX9_move_X5_takesLot rfl rfl rfl (by decide +kernel) ⟨Nat.le_of_ble_eq_true rfl, Nat.le_of_ble_eq_true rfl⟩) ⟨BX.blind, tw_recv hK hP (by decide) (tw_lt ho13 (congrFun hN 5)) rfl rfl, fun U hU hW => ⟨rfl, BX.of hP hK hS hA hZ hU hW⟩⟩ rfl rfl hl.1 rfl (lv_room (Nat.le_of_ble_eq_true rfl)) dX9_move_61 ⟨Nat.le_of_ble_eq_true rfl, Nat.le_of_ble_eq_true rfl⟩) hS (fun q _ h => h) (fun q h => h) (fun r15 τ14 t H locs ht hvm hw hB hz hk hS => ?_)
        obtain ⟨hF, hN9⟩ := hw
        have hP : PX dC dI ac A ad τ14 H := tw_back hB ht
        have hN : gN τ14 = gN τ0 := hN9.trans hN
        refine lv_if_ne (tgt := 70) hx hb dX9_move_64 (by decide) (fun c16 => ?_) (fun c16 => ?_)
        · have hF := hF.1 c16
          refine lv_aload_n hx hb dX9_move_70 rfl (lv_at hl 1 rfl) ?_
          obtain ⟨o17, eo17, hF⟩ := hF
          have ho17 : o17 < gN τ0 5 := tw_lt (hP.2.2.2 0 k0 4 o17 (by decide) (tw_lt hk0 (congrFun hN 0)) eo17) (congrFun hN 5).symm
          refine tw_get (v := .ref (ad 5 o17)) hx hb hts (by decide +kernel) hown hK hP (by decide) (tw_lt hk0 (congrFun hN 0)) rfl rfl 4 (by decide) (hts (.fieldLink RX9 36 "WineCellar" "rack" "LWineCellar$Rack;") (by decide +kernel)) (fun _ h9 => h9) (show some (va_rf ((gR τ14 0 k0 4).map (ad 5))) = some (.ref (ad 5 o17)) by rw [eo17]; rfl) dX9_move_71 ?_
          refine lv_iload_n hx hb dX9_move_74 rfl (lv_at hl 3 rfl) ?_
          refine lv_iload_n hx hb dX9_move_75 rfl (lv_at hl 4 rfl) ?_
          refine va_calli (va_runV (As := [.int x2, .int x3]) (rest := []) ⟨hx, hb, hml, hown, hts⟩ (mX5_hasRoom l dC dI ac sa A ad τ14 o17 x2 x3 _ hF (tw_lt ho17 (congrFun hN 5))) (cwV 2 hts gX9_move_X5_hasRoom rfl rfl rfl (by decide +kernel) ⟨Nat.le_of_ble_eq_true rfl, Nat.le_of_ble_eq_true rfl⟩) ⟨BX.blind, tw_recv hK hP (by decide) (tw_lt ho17 (congrFun hN 5)) rfl rfl, fun U hU hW => ⟨rfl, BX.of hP hK hS hA hZ hU hW⟩⟩ rfl rfl hl.1 rfl (lv_room (Nat.le_of_ble_eq_true rfl)) dX9_move_76 ⟨Nat.le_of_ble_eq_true rfl, Nat.le_of_ble_eq_true rfl⟩) hS (fun q _ h => h) (fun q h => h) (fun r19 τ18 t H locs ht hvm hw hB hz hk hS => ?_)
          obtain ⟨hF, hN9⟩ := hw
          have hP : PX dC dI ac A ad τ18 H := tw_back hB ht
          have hN : gN τ18 = gN τ0 := hN9.trans hN
          refine lv_if_ne (tgt := 85) hx hb dX9_move_79 (by decide) (fun c20 => ?_) (fun c20 => ?_)
          · have hF := hF.1 c20
            refine lv_aload_n hx hb dX9_move_85 rfl (lv_at hl 1 rfl) ?_
            obtain ⟨o21, eo21, hF⟩ := hF
            have ho21 : o21 < gN τ0 5 := tw_lt (hP.2.2.2 0 k0 4 o21 (by decide) (tw_lt hk0 (congrFun hN 0)) eo21) (congrFun hN 5).symm
            refine tw_get (v := .ref (ad 5 o21)) hx hb hts (by decide +kernel) hown hK hP (by decide) (tw_lt hk0 (congrFun hN 0)) rfl rfl 4 (by decide) (hts (.fieldLink RX9 36 "WineCellar" "rack" "LWineCellar$Rack;") (by decide +kernel)) (fun _ h9 => h9) (show some (va_rf ((gR τ18 0 k0 4).map (ad 5))) = some (.ref (ad 5 o21)) by rw [eo21]; rfl) dX9_move_86 ?_
            refine lv_iload_n hx hb dX9_move_89 rfl (lv_at hl 2 rfl) ?_
            refine lv_iload_n hx hb dX9_move_90 rfl (lv_at hl 4 rfl) ?_
            refine va_callv (va_runV (As := [.int x1, .int x3]) (rest := []) ⟨hx, hb, hml, hown, hts⟩ (mX5_remove l dC dI ac sa A ad τ18 o21 x1 x3 _ hF (tw_lt ho21 (congrFun hN 5))) (cwV 2 hts gX9_move_X5_remove rfl rfl rfl (by decide +kernel) ⟨Nat.le_of_ble_eq_true rfl, Nat.le_of_ble_eq_true rfl⟩) ⟨BX.blind, tw_recv hK hP (by decide) (tw_lt ho21 (congrFun hN 5)) rfl rfl, fun U hU hW => ⟨rfl, BX.of hP hK hS hA hZ hU hW⟩⟩ rfl rfl hl.1 rfl (lv_room (Nat.le_of_ble_eq_true rfl)) dX9_move_91 ⟨Nat.le_of_ble_eq_true rfl, Nat.le_of_ble_eq_true rfl⟩) hS (fun q _ h => h) (fun q h => h) (fun τ22 t H locs ht hvm hw hB hz hk hS => ?_)
            obtain ⟨hF, hN9⟩ := hw
            have hP : PX dC dI ac A ad τ22 H := tw_back hB ht
            have hN : gN τ22 = gN τ0 := hN9.trans hN
            refine lv_aload_n hx hb dX9_move_94 rfl (lv_at hl 1 rfl) ?_
            obtain ⟨o23, eo23, hF⟩ := hF
            have ho23 : o23 < gN τ0 5 := tw_lt (hP.2.2.2 0 k0 4 o23 (by decide) (tw_lt hk0 (congrFun hN 0)) eo23) (congrFun hN 5).symm
            refine tw_get (v := .ref (ad 5 o23)) hx hb hts (by decide +kernel) hown hK hP (by decide) (tw_lt hk0 (congrFun hN 0)) rfl rfl 4 (by decide) (hts (.fieldLink RX9 36 "WineCellar" "rack" "LWineCellar$Rack;") (by decide +kernel)) (fun _ h9 => h9) (show some (va_rf ((gR τ22 0 k0 4).map (ad 5))) = some (.ref (ad 5 o23)) by rw [eo23]; rfl) dX9_move_95 ?_
            refine lv_iload_n hx hb dX9_move_98 rfl (lv_at hl 3 rfl) ?_
            refine lv_iload hx hb dX9_move_99 (lv_at hl 0 rfl) ?_
            refine lv_iload_n hx hb dX9_move_101 rfl (lv_at hl 4 rfl) ?_
            refine va_callv (va_runV (As := [.int x2, .int z12, .int x3]) (rest := []) ⟨hx, hb, hml, hown, hts⟩ (mX5_add l dC dI ac sa A ad τ22 o23 x2 z12 x3 _ hF (tw_lt ho23 (congrFun hN 5))) (cwV 3 hts gX9_move_X5_add rfl rfl rfl (by decide +kernel) ⟨Nat.le_of_ble_eq_true rfl, Nat.le_of_ble_eq_true rfl⟩) ⟨BX.blind, tw_recv hK hP (by decide) (tw_lt ho23 (congrFun hN 5)) rfl rfl, fun U hU hW => ⟨rfl, BX.of hP hK hS hA hZ hU hW⟩⟩ rfl rfl hl.1 rfl (lv_room (Nat.le_of_ble_eq_true rfl)) dX9_move_102 ⟨Nat.le_of_ble_eq_true rfl, Nat.le_of_ble_eq_true rfl⟩) hS (fun q _ h => h) (fun q h => h) (fun τ24 t H locs ht hvm hw hB hz hk hS => ?_)
            obtain ⟨hF, hN9⟩ := hw
            have hP : PX dC dI ac A ad τ24 H := tw_back hB ht
            have hN : gN τ24 = gN τ0 := hN9.trans hN
            refine lv_aload_n hx hb dX9_move_105 rfl (lv_at hl 1 rfl) ?_
            obtain ⟨o25, eo25, hF⟩ := hF
            have ho25 : o25 < gN τ0 5 := tw_lt (hP.2.2.2 0 k0 4 o25 (by decide) (tw_lt hk0 (congrFun hN 0)) eo25) (congrFun hN 5).symm
            refine tw_get (v := .ref (ad 5 o25)) hx hb hts (by decide +kernel) hown hK hP (by decide) (tw_lt hk0 (congrFun hN 0)) rfl rfl 4 (by decide) (hts (.fieldLink RX9 36 "WineCellar" "rack" "LWineCellar$Rack;") (by decide +kernel)) (fun _ h9 => h9) (show some (va_rf ((gR τ24 0 k0 4).map (ad 5))) = some (.ref (ad 5 o25)) by rw [eo25]; rfl) dX9_move_106 ?_
            obtain ⟨o26, eo26, hF⟩ := hF
            have ho26 : o26 < gN τ0 13 := tw_lt (hP.2.2.2 5 o25 1 o26 (by decide) (tw_lt ho25 (congrFun hN 5)) eo26) (congrFun hN 13).symm
            refine tw_get (v := .ref (ad 13 o26)) hx hb hts (by decide +kernel) hown hK hP (by decide) (tw_lt ho25 (congrFun hN 5)) rfl rfl 1 (by decide) (hts (.fieldLink RX9 209 "WineCellar$Rack" "bottles" "[I") (by decide +kernel)) (fun _ h9 => h9) (show some (va_rf ((gR τ24 5 o25 1).map (ad 13))) = some (.ref (ad 13 o26)) by rw [eo26]; rfl) dX9_move_109 ?_
            refine lv_iload_n hx hb dX9_move_112 rfl (lv_at hl 3 rfl) ?_
            obtain ⟨hi27, hF⟩ := hF
            refine tw_iald hx hb hK hP (by decide) (tw_lt ho26 (congrFun hN 13)) rfl 0 rfl hi27 dX9_move_113 ?_
            refine W.widen (k := 3) (n := 18) (by decide) (by decide) ?_
            exact vx_ret (W.iret (v := gI τ24 13 o26 x2.toNatClampNeg) hx hb hr (fun t ht hW => ⟨⟨(gI τ24 13 o26 x2.toNatClampNeg), τ24, rfl, ⟨hF, hN⟩, tw_at hP ht⟩, hS.F ht⟩) hS.2.2 dX9_move_114)
          · have hF := hF.2 c20
            refine lv_bipush (v := (-3)) hx hb dX9_move_82 (by decide) ?_
            refine W.widen (k := 3) (n := 18) (by decide) (by decide) ?_
            exact vx_ret (W.iret (v := (-3 : Int32)) hx hb hr (fun t ht hW => ⟨⟨((-3 : Int32)), τ18, rfl, ⟨hF, hN⟩, tw_at hP ht⟩, hS.F ht⟩) hS.2.2 dX9_move_84)
        · have hF := hF.2 c16
          refine lv_bipush (v := (-2)) hx hb dX9_move_67 (by decide) ?_
          refine W.widen (k := 3) (n := 18) (by decide) (by decide) ?_
          exact vx_ret (W.iret (v := (-2 : Int32)) hx hb hr (fun t ht hW => ⟨⟨((-2 : Int32)), τ14, rfl, ⟨hF, hN⟩, tw_at hP ht⟩, hS.F ht⟩) hS.2.2 dX9_move_69)
      · have hF := hF.2 c8
        refine lv_iconst (v := (-1)) hx hb dX9_move_41 (by decide) ?_
        refine W.widen (k := 3) (n := 18) (by decide) (by decide) ?_
        exact vx_ret (W.iret (v := (-1 : Int32)) hx hb hr (fun t ht hW => ⟨⟨((-1 : Int32)), τ2, rfl, ⟨hF, hN⟩, tw_at hP ht⟩, hS.F ht⟩) hS.2.2 dX9_move_42)
    · have hF := hF.2 c4
      exact vx_throwS (names := zx_names) hx hb hlt hown (by decide +kernel) (by decide +kernel) (hts (.classLink RX9 96 "java/lang/IllegalArgumentException") (by decide +kernel)) (hts (.initialized "java/lang/IllegalArgumentException") (by decide +kernel)) (hZ.2.2.1 (212, "no such move", 36) (by decide +kernel)) (zx_hat0 hts (by decide +kernel) hZ.2.2.2.2.2) zx_ot0 hZ.2.1.1 hZ.2.1.2 hS (hl.1.trans hml.symm) dX9_move_18 dX9_move_21 dX9_move_22 dX9_move_24 dX9_move_27 (fun x9 hx9 => (htab x9 hx9).elim) (Nat.le_of_ble_eq_true rfl) (Nat.le_of_ble_eq_true rfl) (Nat.le_of_ble_eq_true rfl) (Nat.le_of_ble_eq_true rfl) hlocks (fun t hvm hz hk => ⟨(0, τ2), ⟨hF, hN⟩, ⟨rfl, (tw_thrown hP hS hz hk).1⟩, (tw_thrown hP hS hz hk).2⟩) hS.2.2 (by decide) (by decide)
def F_X9_cell (τ0 : tw_T) (k0 : Nat) (x1 : Int32) (x2 : Int32) (Q : Int32 → tw_T → Prop) (X : Nat → tw_T → Prop) : Prop := F_X9_requireCell τ0 x1 (fun (τ1 : tw_T) => (F_X9_isWithin τ1 x2.toInt64 ((0 : Int64)) ((1 : Int64)) (fun (r3 : Int32) (τ2 : tw_T) => (((¬ r3 = 0 → (((¬ x2 = 0 → (∃ o6 : Nat, gR τ2 0 k0 4 = some o6 ∧ (∃ o7 : Nat, gR τ2 5 o6 1 = some o7 ∧ (vp_in x1 30 ∧ (Q (gI τ2 13 o7 x1.toNatClampNeg) τ2))))) ∧ (x2 = 0 → (∃ o9 : Nat, gR τ2 0 k0 4 = some o9 ∧ (∃ o10 : Nat, gR τ2 5 o9 0 = some o10 ∧ (vp_in x1 30 ∧ (Q (gI τ2 12 o10 x1.toNatClampNeg) τ2)))))))) ∧ (r3 = 0 → (X 0 τ2))))))) X
def rmX9_cell : Room := { frames := 7, cells := 2, slots := 12, locals := 102 }
set_option maxHeartbeats 4000000 in
set_option maxRecDepth 100000 in
theorem mX9_cell (l : Launch) (hlt : l.stackTraces = false) (dC : Nat → ClassId) (dI : Nat → Nat → Nat) (ac : Nat → ClassId) (sa : Nat → Nat) (A : Nat → Prop) (ad : Nat → Nat → Nat) (τ0 : tw_T) (k0 : Nat) (x1 : Int32) (x2 : Int32) (Q : Int32 → tw_T → Prop) (X : Nat → tw_T → Prop) (hF : F_X9_cell τ0 k0 x1 x2 Q X) (hk0 : k0 < gN τ0 0) : vx_Met l yX9_cell wsX9_cell rmX9_cell (va_Pc [.ref (ad 0 k0), .int x1, .int x2] (BX dC dI ac sa A ad τ0)) (va_Qi (fun r (u : tw_T) => Q r u ∧ gN u = gN τ0) (fun u t => PX dC dI ac A ad u t.heap) A) (vx_X (fun (u : Nat × tw_T) => X u.1 u.2 ∧ gN u.2 = gN τ0) (fun E u t => E = exn u.1 ∧ PX dC dI ac A ad u.2 t.heap) A) 2 12 A := by
  refine vx_ofW (cc := cX9_cell) (maxL := 3) (ret := (some .int)) (by decide) rfl ?_
  intro p e s m args below meth c s₁ B hml htab hv
  obtain ⟨rfl, hP, hK, hA, hZ⟩ := hv
  have hx := B.exec
  have hb := B.bytes
  have hr := B.returns
  have hts := atoms_spec (ws := wsX9_cell) B.pre
  have hown : s.vm.findClass RX9 = some m.cls := findClass_of_methodNamed B.named
  have hlocks := B.notSynchronized
  have hS : va_S A s.heap s.heap [] := va_S.rf
  have hN : gN τ0 = gN τ0 := rfl
  have hl := lv_entry ([.ref (ad 0 k0), .int x1, .int x2]) (n := 3) (Nat.le_of_ble_eq_true rfl)
  rw [lg_entry_eq]
  generalize (lg_sl ([.ref (ad 0 k0), .int x1, .int x2]) ++ List.replicate (3 - (lg_sl ([.ref (ad 0 k0), .int x1, .int x2])).length) Slot.unset).toArray = ls at hl ⊢
  have hl : lv_has ls 3 [(0, .ref (ad 0 k0)), (1, .int x1), (2, .int x2)] := hl
  unfold F_X9_cell at hF
  refine lv_iload_n hx hb dX9_cell_0 rfl (lv_at hl 1 rfl) ?_
  refine vx_callv (vx_runS (As := [.int x1]) (rest := []) ⟨hx, hb, hml, hown, hts⟩ (mX9_requireCell l hlt dC dI ac sa A ad τ0 x1 _ _ hF ) (va_cwS 1 hts gX9_cell_X9_requireCell rfl rfl rfl (by decide +kernel) ⟨Nat.le_of_ble_eq_true rfl, Nat.le_of_ble_eq_true rfl⟩) ⟨BX.blind, fun U hU hW => ⟨rfl, BX.of hP hK hS hA hZ hU hW⟩⟩ rfl rfl hl.1 rfl (lv_room (Nat.le_of_ble_eq_true rfl)) dX9_cell_1 ⟨Nat.le_of_ble_eq_true rfl, Nat.le_of_ble_eq_true rfl⟩) hS (fun q _ h => h) (fun q h => h) (fun q _ h => h) (fun E9 ce9 q9 u9 t9 H locs ht hvm hpx hBX hz9 hk9 hS hce hcv hcl => ?_) (fun τ1 t H locs ht hvm hw hB hz hk hS => ?_)
  · obtain ⟨ec9, τ9⟩ := u9
    obtain ⟨hF9, hN9⟩ := hpx
    obtain ⟨rfl, hP9⟩ := hBX
    exact vx_out (fun x9 hx9 => (htab x9 hx9).elim) hlocks hce hcv hcl (fun t2 ht2 hvm2 => ⟨(ec9, τ9), ⟨hF9, hN9.trans hN⟩, ⟨rfl, tw_at (tw_back hP9 ht) ht2⟩, hS.F ht2⟩) hS.2.2 (by decide) (by decide)
  obtain ⟨hF, hN9⟩ := hw
  have hP : PX dC dI ac A ad τ1 H := tw_back hB ht
  have hN : gN τ1 = gN τ0 := hN9.trans hN
  refine lv_iload_n hx hb dX9_cell_4 rfl (lv_at hl 2 rfl) ?_
  refine lv_i2l (v := x2.toInt64) hx hb dX9_cell_5 rfl ?_
  refine lv_lconst (v := 0) hx hb dX9_cell_6 (by decide) ?_
  refine lv_lconst (v := 1) hx hb dX9_cell_7 (by decide) ?_
  refine va_calli (va_runS (As := [.long x2.toInt64, .long ((0 : Int64)), .long ((1 : Int64))]) (rest := []) ⟨hx, hb, hml, hown, hts⟩ (mX9_isWithin l dC dI ac sa A ad τ1 x2.toInt64 ((0 : Int64)) ((1 : Int64)) _ hF ) (va_cwS 3 hts gX9_cell_X9_isWithin rfl rfl rfl (by decide +kernel) ⟨Nat.le_of_ble_eq_true rfl, Nat.le_of_ble_eq_true rfl⟩) ⟨BX.blind, fun U hU hW => ⟨rfl, BX.of hP hK hS hA hZ hU hW⟩⟩ rfl rfl hl.1 rfl (lv_room (Nat.le_of_ble_eq_true rfl)) dX9_cell_8 ⟨Nat.le_of_ble_eq_true rfl, Nat.le_of_ble_eq_true rfl⟩) hS (fun q _ h => h) (fun q h => h) (fun r3 τ2 t H locs ht hvm hw hB hz hk hS => ?_)
  obtain ⟨hF, hN9⟩ := hw
  have hP : PX dC dI ac A ad τ2 H := tw_back hB ht
  have hN : gN τ2 = gN τ0 := hN9.trans hN
  refine lv_if_ne (tgt := 24) hx hb dX9_cell_11 (by decide) (fun c4 => ?_) (fun c4 => ?_)
  · have hF := hF.1 c4
    refine lv_iload_n hx hb dX9_cell_24 rfl (lv_at hl 2 rfl) ?_
    refine lv_if_ne (tgt := 40) hx hb dX9_cell_25 (by decide) (fun c5 => ?_) (fun c5 => ?_)
    · have hF := hF.1 c5
      refine lv_aload_n hx hb dX9_cell_40 rfl (lv_at hl 0 rfl) ?_
      obtain ⟨o6, eo6, hF⟩ := hF
      have ho6 : o6 < gN τ0 5 := tw_lt (hP.2.2.2 0 k0 4 o6 (by decide) (tw_lt hk0 (congrFun hN 0)) eo6) (congrFun hN 5).symm
      refine tw_get (v := .ref (ad 5 o6)) hx hb hts (by decide +kernel) hown hK hP (by decide) (tw_lt hk0 (congrFun hN 0)) rfl rfl 4 (by decide) (hts (.fieldLink RX9 36 "WineCellar" "rack" "LWineCellar$Rack;") (by decide +kernel)) (fun _ h9 => h9) (show some (va_rf ((gR τ2 0 k0 4).map (ad 5))) = some (.ref (ad 5 o6)) by rw [eo6]; rfl) dX9_cell_41 ?_
      obtain ⟨o7, eo7, hF⟩ := hF
      have ho7 : o7 < gN τ0 13 := tw_lt (hP.2.2.2 5 o6 1 o7 (by decide) (tw_lt ho6 (congrFun hN 5)) eo7) (congrFun hN 13).symm
      refine tw_get (v := .ref (ad 13 o7)) hx hb hts (by decide +kernel) hown hK hP (by decide) (tw_lt ho6 (congrFun hN 5)) rfl rfl 1 (by decide) (hts (.fieldLink RX9 209 "WineCellar$Rack" "bottles" "[I") (by decide +kernel)) (fun _ h9 => h9) (show some (va_rf ((gR τ2 5 o6 1).map (ad 13))) = some (.ref (ad 13 o7)) by rw [eo7]; rfl) dX9_cell_44 ?_
      refine lv_iload_n hx hb dX9_cell_47 rfl (lv_at hl 1 rfl) ?_
      obtain ⟨hi8, hF⟩ := hF
      refine tw_iald hx hb hK hP (by decide) (tw_lt ho7 (congrFun hN 13)) rfl 0 rfl hi8 dX9_cell_48 ?_
      refine W.widen (k := 2) (n := 12) (by decide) (by decide) ?_
      exact vx_ret (W.iret (v := gI τ2 13 o7 x1.toNatClampNeg) hx hb hr (fun t ht hW => ⟨⟨(gI τ2 13 o7 x1.toNatClampNeg), τ2, rfl, ⟨hF, hN⟩, tw_at hP ht⟩, hS.F ht⟩) hS.2.2 dX9_cell_49)
    · have hF := hF.2 c5
      refine lv_aload_n hx hb dX9_cell_28 rfl (lv_at hl 0 rfl) ?_
      obtain ⟨o9, eo9, hF⟩ := hF
      have ho9 : o9 < gN τ0 5 := tw_lt (hP.2.2.2 0 k0 4 o9 (by decide) (tw_lt hk0 (congrFun hN 0)) eo9) (congrFun hN 5).symm
      refine tw_get (v := .ref (ad 5 o9)) hx hb hts (by decide +kernel) hown hK hP (by decide) (tw_lt hk0 (congrFun hN 0)) rfl rfl 4 (by decide) (hts (.fieldLink RX9 36 "WineCellar" "rack" "LWineCellar$Rack;") (by decide +kernel)) (fun _ h9 => h9) (show some (va_rf ((gR τ2 0 k0 4).map (ad 5))) = some (.ref (ad 5 o9)) by rw [eo9]; rfl) dX9_cell_29 ?_
      obtain ⟨o10, eo10, hF⟩ := hF
      have ho10 : o10 < gN τ0 12 := tw_lt (hP.2.2.2 5 o9 0 o10 (by decide) (tw_lt ho9 (congrFun hN 5)) eo10) (congrFun hN 12).symm
      refine tw_get (v := .ref (ad 12 o10)) hx hb hts (by decide +kernel) hown hK hP (by decide) (tw_lt ho9 (congrFun hN 5)) rfl rfl 0 (by decide) (hts (.fieldLink RX9 214 "WineCellar$Rack" "lots" "[I") (by decide +kernel)) (fun _ h9 => h9) (show some (va_rf ((gR τ2 5 o9 0).map (ad 12))) = some (.ref (ad 12 o10)) by rw [eo10]; rfl) dX9_cell_32 ?_
      refine lv_iload_n hx hb dX9_cell_35 rfl (lv_at hl 1 rfl) ?_
      obtain ⟨hi11, hF⟩ := hF
      refine tw_iald hx hb hK hP (by decide) (tw_lt ho10 (congrFun hN 12)) rfl 0 rfl hi11 dX9_cell_36 ?_
      refine lv_goto (tgt := 49) hx hb dX9_cell_37 (by decide) ?_
      refine W.widen (k := 2) (n := 12) (by decide) (by decide) ?_
      exact vx_ret (W.iret (v := gI τ2 12 o10 x1.toNatClampNeg) hx hb hr (fun t ht hW => ⟨⟨(gI τ2 12 o10 x1.toNatClampNeg), τ2, rfl, ⟨hF, hN⟩, tw_at hP ht⟩, hS.F ht⟩) hS.2.2 dX9_cell_49)
  · have hF := hF.2 c4
    exact vx_throwS (names := zx_names) hx hb hlt hown (by decide +kernel) (by decide +kernel) (hts (.classLink RX9 96 "java/lang/IllegalArgumentException") (by decide +kernel)) (hts (.initialized "java/lang/IllegalArgumentException") (by decide +kernel)) (hZ.2.2.1 (158, "no such what", 31) (by decide +kernel)) (zx_hat0 hts (by decide +kernel) hZ.2.2.2.2.2) zx_ot0 hZ.2.1.1 hZ.2.1.2 hS (hl.1.trans hml.symm) dX9_cell_14 dX9_cell_17 dX9_cell_18 dX9_cell_20 dX9_cell_23 (fun x9 hx9 => (htab x9 hx9).elim) (Nat.le_of_ble_eq_true rfl) (Nat.le_of_ble_eq_true rfl) (Nat.le_of_ble_eq_true rfl) (Nat.le_of_ble_eq_true rfl) hlocks (fun t hvm hz hk => ⟨(0, τ2), ⟨hF, hN⟩, ⟨rfl, (tw_thrown hP hS hz hk).1⟩, (tw_thrown hP hS hz hk).2⟩) hS.2.2 (by decide) (by decide)
def F_X9_find (τ0 : tw_T) (k0 : Nat) (x1 : Int32) (x2 : Int32) (Q : Int32 → tw_T → Prop) (X : Nat → tw_T → Prop) : Prop := F_X9_lotAt τ0 k0 x1 (fun (o2 : Nat) (τ1 : tw_T) => (∃ o3 : Nat, gR τ1 0 k0 4 = some o3 ∧ (F_X5_cellOf τ1 o3 x1 x2 (fun (r5 : Int32) (τ4 : tw_T) => (Q r5 τ4))))) X
def rmX9_find : Room := { frames := 7, cells := 1, slots := 6, locals := 103 }
set_option maxHeartbeats 4000000 in
set_option maxRecDepth 100000 in
theorem mX9_find (l : Launch) (hlt : l.stackTraces = false) (dC : Nat → ClassId) (dI : Nat → Nat → Nat) (ac : Nat → ClassId) (sa : Nat → Nat) (A : Nat → Prop) (ad : Nat → Nat → Nat) (τ0 : tw_T) (k0 : Nat) (x1 : Int32) (x2 : Int32) (Q : Int32 → tw_T → Prop) (X : Nat → tw_T → Prop) (hF : F_X9_find τ0 k0 x1 x2 Q X) (hk0 : k0 < gN τ0 0) : vx_Met l yX9_find wsX9_find rmX9_find (va_Pc [.ref (ad 0 k0), .int x1, .int x2] (BX dC dI ac sa A ad τ0)) (va_Qi (fun r (u : tw_T) => Q r u ∧ gN u = gN τ0) (fun u t => PX dC dI ac A ad u t.heap) A) (vx_X (fun (u : Nat × tw_T) => X u.1 u.2 ∧ gN u.2 = gN τ0) (fun E u t => E = exn u.1 ∧ PX dC dI ac A ad u.2 t.heap) A) 1 6 A := by
  refine vx_ofW (cc := cX9_find) (maxL := 3) (ret := (some .int)) (by decide) rfl ?_
  intro p e s m args below meth c s₁ B hml htab hv
  obtain ⟨rfl, hP, hK, hA, hZ⟩ := hv
  have hx := B.exec
  have hb := B.bytes
  have hr := B.returns
  have hts := atoms_spec (ws := wsX9_find) B.pre
  have hown : s.vm.findClass RX9 = some m.cls := findClass_of_methodNamed B.named
  have hlocks := B.notSynchronized
  have hS : va_S A s.heap s.heap [] := va_S.rf
  have hN : gN τ0 = gN τ0 := rfl
  have hl := lv_entry ([.ref (ad 0 k0), .int x1, .int x2]) (n := 3) (Nat.le_of_ble_eq_true rfl)
  rw [lg_entry_eq]
  generalize (lg_sl ([.ref (ad 0 k0), .int x1, .int x2]) ++ List.replicate (3 - (lg_sl ([.ref (ad 0 k0), .int x1, .int x2])).length) Slot.unset).toArray = ls at hl ⊢
  have hl : lv_has ls 3 [(0, .ref (ad 0 k0)), (1, .int x1), (2, .int x2)] := hl
  unfold F_X9_find at hF
  refine lv_aload_n hx hb dX9_find_0 rfl (lv_at hl 0 rfl) ?_
  refine lv_iload_n hx hb dX9_find_1 rfl (lv_at hl 1 rfl) ?_
  refine vx_callr (vx_runV (As := [.int x1]) (rest := []) ⟨hx, hb, hml, hown, hts⟩ (mX9_lotAt l hlt dC dI ac sa A ad τ0 k0 x1 _ _ hF hk0) (cwV 1 hts gX9_find_X9_lotAt rfl rfl rfl (by decide +kernel) ⟨Nat.le_of_ble_eq_true rfl, Nat.le_of_ble_eq_true rfl⟩) ⟨BX.blind, tw_recv hK hP (by decide) hk0 rfl rfl, fun U hU hW => ⟨rfl, BX.of hP hK hS hA hZ hU hW⟩⟩ rfl rfl hl.1 rfl (lv_room (Nat.le_of_ble_eq_true rfl)) dX9_find_2 ⟨Nat.le_of_ble_eq_true rfl, Nat.le_of_ble_eq_true rfl⟩) hS (fun q _ h => h) (fun q h => h) (fun q _ h => h) (fun E9 ce9 q9 u9 t9 H locs ht hvm hpx hBX hz9 hk9 hS hce hcv hcl => ?_) (fun u9 ra9 t H locs ht hvm hw hB hz hk hS => ?_)
  · obtain ⟨ec9, τ9⟩ := u9
    obtain ⟨hF9, hN9⟩ := hpx
    obtain ⟨rfl, hP9⟩ := hBX
    exact vx_out (fun x9 hx9 => (htab x9 hx9).elim) hlocks hce hcv hcl (fun t2 ht2 hvm2 => ⟨(ec9, τ9), ⟨hF9, hN9.trans hN⟩, ⟨rfl, tw_at (tw_back hP9 ht) ht2⟩, hS.F ht2⟩) hS.2.2 (by decide) (by decide)
  obtain ⟨τ1, o2⟩ := u9
  obtain ⟨hF, ho2, hN9⟩ := hw
  obtain ⟨rfl, hB⟩ := hB
  try dsimp only at hF ho2 hN9 hB ⊢
  have ho2 : o2 < gN τ0 21 := tw_lt ho2 (congrFun hN 21).symm
  have hP : PX dC dI ac A ad τ1 H := tw_back hB ht
  have hN : gN τ1 = gN τ0 := hN9.trans hN
  refine lv_pop hx hb dX9_find_5 rfl ?_
  refine lv_aload_n hx hb dX9_find_6 rfl (lv_at hl 0 rfl) ?_
  obtain ⟨o3, eo3, hF⟩ := hF
  have ho3 : o3 < gN τ0 5 := tw_lt (hP.2.2.2 0 k0 4 o3 (by decide) (tw_lt hk0 (congrFun hN 0)) eo3) (congrFun hN 5).symm
  refine tw_get (v := .ref (ad 5 o3)) hx hb hts (by decide +kernel) hown hK hP (by decide) (tw_lt hk0 (congrFun hN 0)) rfl rfl 4 (by decide) (hts (.fieldLink RX9 36 "WineCellar" "rack" "LWineCellar$Rack;") (by decide +kernel)) (fun _ h9 => h9) (show some (va_rf ((gR τ1 0 k0 4).map (ad 5))) = some (.ref (ad 5 o3)) by rw [eo3]; rfl) dX9_find_7 ?_
  refine lv_iload_n hx hb dX9_find_10 rfl (lv_at hl 1 rfl) ?_
  refine lv_iload_n hx hb dX9_find_11 rfl (lv_at hl 2 rfl) ?_
  refine va_calli (va_runV (As := [.int x1, .int x2]) (rest := []) ⟨hx, hb, hml, hown, hts⟩ (mX5_cellOf l dC dI ac sa A ad τ1 o3 x1 x2 _ hF (tw_lt ho3 (congrFun hN 5))) (cwV 2 hts gX9_find_X5_cellOf rfl rfl rfl (by decide +kernel) ⟨Nat.le_of_ble_eq_true rfl, Nat.le_of_ble_eq_true rfl⟩) ⟨BX.blind, tw_recv hK hP (by decide) (tw_lt ho3 (congrFun hN 5)) rfl rfl, fun U hU hW => ⟨rfl, BX.of hP hK hS hA hZ hU hW⟩⟩ rfl rfl hl.1 rfl (lv_room (Nat.le_of_ble_eq_true rfl)) dX9_find_12 ⟨Nat.le_of_ble_eq_true rfl, Nat.le_of_ble_eq_true rfl⟩) hS (fun q _ h => h) (fun q h => h) (fun r5 τ4 t H locs ht hvm hw hB hz hk hS => ?_)
  obtain ⟨hF, hN9⟩ := hw
  have hP : PX dC dI ac A ad τ4 H := tw_back hB ht
  have hN : gN τ4 = gN τ0 := hN9.trans hN
  exact vx_ret (W.iret (v := r5) hx hb hr (fun t ht hW => ⟨⟨r5, τ4, rfl, ⟨hF, hN⟩, tw_at hP ht⟩, hS.F ht⟩) hS.2.2 dX9_find_15)
def F_X9_sell (τ0 : tw_T) (k0 : Nat) (x1 : Int32) (Q : Int32 → tw_T → Prop) (X : Nat → tw_T → Prop) : Prop := F_X9_requireCell τ0 x1 (fun (τ1 : tw_T) => (∃ o2 : Nat, gR τ1 0 k0 4 = some o2 ∧ (F_X5_isEmpty τ1 o2 x1 (fun (r4 : Int32) (τ3 : tw_T) => (((r4 = 0 → (∃ o6 : Nat, gR τ3 0 k0 4 = some o6 ∧ (∃ o7 : Nat, gR τ3 5 o6 0 = some o7 ∧ (vp_in x1 30 ∧ (F_X9_lotAt τ3 k0 (gI τ3 12 o7 x1.toNatClampNeg) (fun (o10 : Nat) (τ9 : tw_T) => (F_X9_yearNow τ9 k0 (fun (r12 : Int32) (τ11 : tw_T) => (F_X3_maySellIn τ11 o10 r12 (fun (r14 : Int32) (τ13 : tw_T) => (((¬ r14 = 0 → (F_X9_yearNow τ13 k0 (fun (r17 : Int32) (τ16 : tw_T) => (F_X3_worthIn τ16 o10 r17 (fun (r19 : Int32) (τ18 : tw_T) => (∃ o20 : Nat, gR τ18 0 k0 4 = some o20 ∧ (F_X5_remove τ18 o20 x1 ((1 : Int32)) (fun (τ21 : tw_T) => (∃ o22 : Nat, gR τ21 0 k0 6 = some o22 ∧ (∀ τ23 : tw_T, τ23 = sI τ21 7 o22 2 ((gI τ21 7 o22 2) + ((1 : Int32))) → (∃ o24 : Nat, gR τ23 0 k0 6 = some o24 ∧ (∀ τ25 : tw_T, τ25 = sJ τ23 7 o24 7 ((gJ τ23 7 o24 7) + r19.toInt64) → (Q r19 τ25))))))))))))) ∧ (r14 = 0 → (Q ((-2 : Int32)) τ13))))))))) (fun _ _ => False)))))) ∧ (¬ r4 = 0 → (Q ((-1 : Int32)) τ3)))))))) X
def rmX9_sell : Room := { frames := 7, cells := 1, slots := 6, locals := 102 }
set_option maxHeartbeats 4000000 in
set_option maxRecDepth 100000 in
theorem mX9_sell (l : Launch) (hlt : l.stackTraces = false) (dC : Nat → ClassId) (dI : Nat → Nat → Nat) (ac : Nat → ClassId) (sa : Nat → Nat) (A : Nat → Prop) (ad : Nat → Nat → Nat) (τ0 : tw_T) (k0 : Nat) (x1 : Int32) (Q : Int32 → tw_T → Prop) (X : Nat → tw_T → Prop) (hF : F_X9_sell τ0 k0 x1 Q X) (hk0 : k0 < gN τ0 0) : vx_Met l yX9_sell wsX9_sell rmX9_sell (va_Pc [.ref (ad 0 k0), .int x1] (BX dC dI ac sa A ad τ0)) (va_Qi (fun r (u : tw_T) => Q r u ∧ gN u = gN τ0) (fun u t => PX dC dI ac A ad u t.heap) A) (vx_X (fun (u : Nat × tw_T) => X u.1 u.2 ∧ gN u.2 = gN τ0) (fun E u t => E = exn u.1 ∧ PX dC dI ac A ad u.2 t.heap) A) 1 6 A := by
  refine vx_ofW (cc := cX9_sell) (maxL := 4) (ret := (some .int)) (by decide) rfl ?_
  intro p e s m args below meth c s₁ B hml htab hv
  obtain ⟨rfl, hP, hK, hA, hZ⟩ := hv
  have hx := B.exec
  have hb := B.bytes
  have hr := B.returns
  have hts := atoms_spec (ws := wsX9_sell) B.pre
  have hown : s.vm.findClass RX9 = some m.cls := findClass_of_methodNamed B.named
  have hlocks := B.notSynchronized
  have hS : va_S A s.heap s.heap [] := va_S.rf
  have hN : gN τ0 = gN τ0 := rfl
  have hl := lv_entry ([.ref (ad 0 k0), .int x1]) (n := 4) (Nat.le_of_ble_eq_true rfl)
  rw [lg_entry_eq]
  generalize (lg_sl ([.ref (ad 0 k0), .int x1]) ++ List.replicate (4 - (lg_sl ([.ref (ad 0 k0), .int x1])).length) Slot.unset).toArray = ls at hl ⊢
  have hl : lv_has ls 4 [(0, .ref (ad 0 k0)), (1, .int x1)] := hl
  unfold F_X9_sell at hF
  refine lv_iload_n hx hb dX9_sell_0 rfl (lv_at hl 1 rfl) ?_
  refine vx_callv (vx_runS (As := [.int x1]) (rest := []) ⟨hx, hb, hml, hown, hts⟩ (mX9_requireCell l hlt dC dI ac sa A ad τ0 x1 _ _ hF ) (va_cwS 1 hts gX9_sell_X9_requireCell rfl rfl rfl (by decide +kernel) ⟨Nat.le_of_ble_eq_true rfl, Nat.le_of_ble_eq_true rfl⟩) ⟨BX.blind, fun U hU hW => ⟨rfl, BX.of hP hK hS hA hZ hU hW⟩⟩ rfl rfl hl.1 rfl (lv_room (Nat.le_of_ble_eq_true rfl)) dX9_sell_1 ⟨Nat.le_of_ble_eq_true rfl, Nat.le_of_ble_eq_true rfl⟩) hS (fun q _ h => h) (fun q h => h) (fun q _ h => h) (fun E9 ce9 q9 u9 t9 H locs ht hvm hpx hBX hz9 hk9 hS hce hcv hcl => ?_) (fun τ1 t H locs ht hvm hw hB hz hk hS => ?_)
  · obtain ⟨ec9, τ9⟩ := u9
    obtain ⟨hF9, hN9⟩ := hpx
    obtain ⟨rfl, hP9⟩ := hBX
    exact vx_out (fun x9 hx9 => (htab x9 hx9).elim) hlocks hce hcv hcl (fun t2 ht2 hvm2 => ⟨(ec9, τ9), ⟨hF9, hN9.trans hN⟩, ⟨rfl, tw_at (tw_back hP9 ht) ht2⟩, hS.F ht2⟩) hS.2.2 (by decide) (by decide)
  obtain ⟨hF, hN9⟩ := hw
  have hP : PX dC dI ac A ad τ1 H := tw_back hB ht
  have hN : gN τ1 = gN τ0 := hN9.trans hN
  refine lv_aload_n hx hb dX9_sell_4 rfl (lv_at hl 0 rfl) ?_
  obtain ⟨o2, eo2, hF⟩ := hF
  have ho2 : o2 < gN τ0 5 := tw_lt (hP.2.2.2 0 k0 4 o2 (by decide) (tw_lt hk0 (congrFun hN 0)) eo2) (congrFun hN 5).symm
  refine tw_get (v := .ref (ad 5 o2)) hx hb hts (by decide +kernel) hown hK hP (by decide) (tw_lt hk0 (congrFun hN 0)) rfl rfl 4 (by decide) (hts (.fieldLink RX9 36 "WineCellar" "rack" "LWineCellar$Rack;") (by decide +kernel)) (fun _ h9 => h9) (show some (va_rf ((gR τ1 0 k0 4).map (ad 5))) = some (.ref (ad 5 o2)) by rw [eo2]; rfl) dX9_sell_5 ?_
  refine lv_iload_n hx hb dX9_sell_8 rfl (lv_at hl 1 rfl) ?_
  refine va_calli (va_runV (As := [.int x1]) (rest := []) ⟨hx, hb, hml, hown, hts⟩ (mX5_isEmpty l dC dI ac sa A ad τ1 o2 x1 _ hF (tw_lt ho2 (congrFun hN 5))) (cwV 1 hts gX9_sell_X5_isEmpty rfl rfl rfl (by decide +kernel) ⟨Nat.le_of_ble_eq_true rfl, Nat.le_of_ble_eq_true rfl⟩) ⟨BX.blind, tw_recv hK hP (by decide) (tw_lt ho2 (congrFun hN 5)) rfl rfl, fun U hU hW => ⟨rfl, BX.of hP hK hS hA hZ hU hW⟩⟩ rfl rfl hl.1 rfl (lv_room (Nat.le_of_ble_eq_true rfl)) dX9_sell_9 ⟨Nat.le_of_ble_eq_true rfl, Nat.le_of_ble_eq_true rfl⟩) hS (fun q _ h => h) (fun q h => h) (fun r4 τ3 t H locs ht hvm hw hB hz hk hS => ?_)
  obtain ⟨hF, hN9⟩ := hw
  have hP : PX dC dI ac A ad τ3 H := tw_back hB ht
  have hN : gN τ3 = gN τ0 := hN9.trans hN
  refine lv_if_eq (tgt := 17) hx hb dX9_sell_12 (by decide) (fun c5 => ?_) (fun c5 => ?_)
  · have hF := hF.1 c5
    refine lv_aload_n hx hb dX9_sell_17 rfl (lv_at hl 0 rfl) ?_
    refine lv_aload_n hx hb dX9_sell_18 rfl (lv_at hl 0 rfl) ?_
    obtain ⟨o6, eo6, hF⟩ := hF
    have ho6 : o6 < gN τ0 5 := tw_lt (hP.2.2.2 0 k0 4 o6 (by decide) (tw_lt hk0 (congrFun hN 0)) eo6) (congrFun hN 5).symm
    refine tw_get (v := .ref (ad 5 o6)) hx hb hts (by decide +kernel) hown hK hP (by decide) (tw_lt hk0 (congrFun hN 0)) rfl rfl 4 (by decide) (hts (.fieldLink RX9 36 "WineCellar" "rack" "LWineCellar$Rack;") (by decide +kernel)) (fun _ h9 => h9) (show some (va_rf ((gR τ3 0 k0 4).map (ad 5))) = some (.ref (ad 5 o6)) by rw [eo6]; rfl) dX9_sell_19 ?_
    obtain ⟨o7, eo7, hF⟩ := hF
    have ho7 : o7 < gN τ0 12 := tw_lt (hP.2.2.2 5 o6 0 o7 (by decide) (tw_lt ho6 (congrFun hN 5)) eo7) (congrFun hN 12).symm
    refine tw_get (v := .ref (ad 12 o7)) hx hb hts (by decide +kernel) hown hK hP (by decide) (tw_lt ho6 (congrFun hN 5)) rfl rfl 0 (by decide) (hts (.fieldLink RX9 214 "WineCellar$Rack" "lots" "[I") (by decide +kernel)) (fun _ h9 => h9) (show some (va_rf ((gR τ3 5 o6 0).map (ad 12))) = some (.ref (ad 12 o7)) by rw [eo7]; rfl) dX9_sell_22 ?_
    refine lv_iload_n hx hb dX9_sell_25 rfl (lv_at hl 1 rfl) ?_
    obtain ⟨hi8, hF⟩ := hF
    refine tw_iald hx hb hK hP (by decide) (tw_lt ho7 (congrFun hN 12)) rfl 0 rfl hi8 dX9_sell_26 ?_
    refine va_callr (va_runV (As := [.int (gI τ3 12 o7 x1.toNatClampNeg)]) (rest := []) ⟨hx, hb, hml, hown, hts⟩ (m0X9_lotAt l dC dI ac sa A ad τ3 k0 (gI τ3 12 o7 x1.toNatClampNeg) _ hF (tw_lt hk0 (congrFun hN 0))) (cwV 1 hts gX9_sell_X9_lotAt rfl rfl rfl (by decide +kernel) ⟨Nat.le_of_ble_eq_true rfl, Nat.le_of_ble_eq_true rfl⟩) ⟨BX.blind, tw_recv hK hP (by decide) (tw_lt hk0 (congrFun hN 0)) rfl rfl, fun U hU hW => ⟨rfl, BX.of hP hK hS hA hZ hU hW⟩⟩ rfl rfl hl.1 rfl (lv_room (Nat.le_of_ble_eq_true rfl)) dX9_sell_27 ⟨Nat.le_of_ble_eq_true rfl, Nat.le_of_ble_eq_true rfl⟩) hS (fun q _ h => h) (fun q h => h) (fun u9 ra9 t H locs ht hvm hw hB hz hk hS => ?_)
    obtain ⟨τ9, o10⟩ := u9
    obtain ⟨hF, ho10, hN9⟩ := hw
    obtain ⟨rfl, hB⟩ := hB
    try dsimp only at hF ho10 hN9 hB ⊢
    have ho10 : o10 < gN τ0 21 := tw_lt ho10 (congrFun hN 21).symm
    have hP : PX dC dI ac A ad τ9 H := tw_back hB ht
    have hN : gN τ9 = gN τ0 := hN9.trans hN
    refine lv_astore_n (lv' := [(2, .ref (ad 21 o10)), (0, .ref (ad 0 k0)), (1, .int x1)]) hx hb dX9_sell_30 rfl hl (by decide) rfl (fun ls hl => ?_)
    refine lv_aload_n hx hb dX9_sell_31 rfl (lv_at hl 0 rfl) ?_
    refine lv_aload_n hx hb dX9_sell_32 rfl (lv_at hl 1 rfl) ?_
    refine va_calli (va_runV (As := []) (rest := [.ref (ad 21 o10)]) ⟨hx, hb, hml, hown, hts⟩ (mX9_yearNow l dC dI ac sa A ad τ9 k0 _ hF (tw_lt hk0 (congrFun hN 0))) (cwV 0 hts gX9_sell_X9_yearNow rfl rfl rfl (by decide +kernel) ⟨Nat.le_of_ble_eq_true rfl, Nat.le_of_ble_eq_true rfl⟩) ⟨BX.blind, tw_recv hK hP (by decide) (tw_lt hk0 (congrFun hN 0)) rfl rfl, fun U hU hW => ⟨rfl, BX.of hP hK hS hA hZ hU hW⟩⟩ rfl rfl hl.1 rfl (lv_room (Nat.le_of_ble_eq_true rfl)) dX9_sell_33 ⟨Nat.le_of_ble_eq_true rfl, Nat.le_of_ble_eq_true rfl⟩) hS (fun q _ h => h) (fun q h => h) (fun r12 τ11 t H locs ht hvm hw hB hz hk hS => ?_)
    obtain ⟨hF, hN9⟩ := hw
    have hP : PX dC dI ac A ad τ11 H := tw_back hB ht
    have hN : gN τ11 = gN τ0 := hN9.trans hN
    refine va_calli (va_runV (As := [.int r12]) (rest := []) ⟨hx, hb, hml, hown, hts⟩ (mX3_maySellIn l dC dI ac sa A ad τ11 o10 r12 _ hF (tw_lt ho10 (congrFun hN 21))) (cwV 1 hts gX9_sell_X3_maySellIn rfl rfl rfl (by decide +kernel) ⟨Nat.le_of_ble_eq_true rfl, Nat.le_of_ble_eq_true rfl⟩) ⟨BX.blind, tw_recv hK hP (by decide) (tw_lt ho10 (congrFun hN 21)) rfl rfl, fun U hU hW => ⟨rfl, BX.of hP hK hS hA hZ hU hW⟩⟩ rfl rfl hl.1 rfl (lv_room (Nat.le_of_ble_eq_true rfl)) dX9_sell_36 ⟨Nat.le_of_ble_eq_true rfl, Nat.le_of_ble_eq_true rfl⟩) hS (fun q _ h => h) (fun q h => h) (fun r14 τ13 t H locs ht hvm hw hB hz hk hS => ?_)
    obtain ⟨hF, hN9⟩ := hw
    have hP : PX dC dI ac A ad τ13 H := tw_back hB ht
    have hN : gN τ13 = gN τ0 := hN9.trans hN
    refine lv_if_ne (tgt := 45) hx hb dX9_sell_39 (by decide) (fun c15 => ?_) (fun c15 => ?_)
    · have hF := hF.1 c15
      refine lv_aload_n hx hb dX9_sell_45 rfl (lv_at hl 0 rfl) ?_
      refine lv_aload_n hx hb dX9_sell_46 rfl (lv_at hl 1 rfl) ?_
      refine va_calli (va_runV (As := []) (rest := [.ref (ad 21 o10)]) ⟨hx, hb, hml, hown, hts⟩ (mX9_yearNow l dC dI ac sa A ad τ13 k0 _ hF (tw_lt hk0 (congrFun hN 0))) (cwV 0 hts gX9_sell_X9_yearNow rfl rfl rfl (by decide +kernel) ⟨Nat.le_of_ble_eq_true rfl, Nat.le_of_ble_eq_true rfl⟩) ⟨BX.blind, tw_recv hK hP (by decide) (tw_lt hk0 (congrFun hN 0)) rfl rfl, fun U hU hW => ⟨rfl, BX.of hP hK hS hA hZ hU hW⟩⟩ rfl rfl hl.1 rfl (lv_room (Nat.le_of_ble_eq_true rfl)) dX9_sell_47 ⟨Nat.le_of_ble_eq_true rfl, Nat.le_of_ble_eq_true rfl⟩) hS (fun q _ h => h) (fun q h => h) (fun r17 τ16 t H locs ht hvm hw hB hz hk hS => ?_)
      obtain ⟨hF, hN9⟩ := hw
      have hP : PX dC dI ac A ad τ16 H := tw_back hB ht
      have hN : gN τ16 = gN τ0 := hN9.trans hN
      refine va_calli (va_runV (As := [.int r17]) (rest := []) ⟨hx, hb, hml, hown, hts⟩ (mX3_worthIn l dC dI ac sa A ad τ16 o10 r17 _ hF (tw_lt ho10 (congrFun hN 21))) (cwV 1 hts gX9_sell_X3_worthIn rfl rfl rfl (by decide +kernel) ⟨Nat.le_of_ble_eq_true rfl, Nat.le_of_ble_eq_true rfl⟩) ⟨BX.blind, tw_recv hK hP (by decide) (tw_lt ho10 (congrFun hN 21)) rfl rfl, fun U hU hW => ⟨rfl, BX.of hP hK hS hA hZ hU hW⟩⟩ rfl rfl hl.1 rfl (lv_room (Nat.le_of_ble_eq_true rfl)) dX9_sell_50 ⟨Nat.le_of_ble_eq_true rfl, Nat.le_of_ble_eq_true rfl⟩) hS (fun q _ h => h) (fun q h => h) (fun r19 τ18 t H locs ht hvm hw hB hz hk hS => ?_)
      obtain ⟨hF, hN9⟩ := hw
      have hP : PX dC dI ac A ad τ18 H := tw_back hB ht
      have hN : gN τ18 = gN τ0 := hN9.trans hN
      refine lv_istore_n (lv' := [(3, .int r19), (2, .ref (ad 21 o10)), (0, .ref (ad 0 k0)), (1, .int x1)]) hx hb dX9_sell_53 rfl hl (by decide) rfl (fun ls hl => ?_)
      refine lv_aload_n hx hb dX9_sell_54 rfl (lv_at hl 2 rfl) ?_
      obtain ⟨o20, eo20, hF⟩ := hF
      have ho20 : o20 < gN τ0 5 := tw_lt (hP.2.2.2 0 k0 4 o20 (by decide) (tw_lt hk0 (congrFun hN 0)) eo20) (congrFun hN 5).symm
      refine tw_get (v := .ref (ad 5 o20)) hx hb hts (by decide +kernel) hown hK hP (by decide) (tw_lt hk0 (congrFun hN 0)) rfl rfl 4 (by decide) (hts (.fieldLink RX9 36 "WineCellar" "rack" "LWineCellar$Rack;") (by decide +kernel)) (fun _ h9 => h9) (show some (va_rf ((gR τ18 0 k0 4).map (ad 5))) = some (.ref (ad 5 o20)) by rw [eo20]; rfl) dX9_sell_55 ?_
      refine lv_iload_n hx hb dX9_sell_58 rfl (lv_at hl 3 rfl) ?_
      refine lv_iconst (v := 1) hx hb dX9_sell_59 (by decide) ?_
      refine va_callv (va_runV (As := [.int x1, .int ((1 : Int32))]) (rest := []) ⟨hx, hb, hml, hown, hts⟩ (mX5_remove l dC dI ac sa A ad τ18 o20 x1 ((1 : Int32)) _ hF (tw_lt ho20 (congrFun hN 5))) (cwV 2 hts gX9_sell_X5_remove rfl rfl rfl (by decide +kernel) ⟨Nat.le_of_ble_eq_true rfl, Nat.le_of_ble_eq_true rfl⟩) ⟨BX.blind, tw_recv hK hP (by decide) (tw_lt ho20 (congrFun hN 5)) rfl rfl, fun U hU hW => ⟨rfl, BX.of hP hK hS hA hZ hU hW⟩⟩ rfl rfl hl.1 rfl (lv_room (Nat.le_of_ble_eq_true rfl)) dX9_sell_60 ⟨Nat.le_of_ble_eq_true rfl, Nat.le_of_ble_eq_true rfl⟩) hS (fun q _ h => h) (fun q h => h) (fun τ21 t H locs ht hvm hw hB hz hk hS => ?_)
      obtain ⟨hF, hN9⟩ := hw
      have hP : PX dC dI ac A ad τ21 H := tw_back hB ht
      have hN : gN τ21 = gN τ0 := hN9.trans hN
      refine lv_aload_n hx hb dX9_sell_63 rfl (lv_at hl 2 rfl) ?_
      obtain ⟨o22, eo22, hF⟩ := hF
      have ho22 : o22 < gN τ0 7 := tw_lt (hP.2.2.2 0 k0 6 o22 (by decide) (tw_lt hk0 (congrFun hN 0)) eo22) (congrFun hN 7).symm
      refine tw_get (v := .ref (ad 7 o22)) hx hb hts (by decide +kernel) hown hK hP (by decide) (tw_lt hk0 (congrFun hN 0)) rfl rfl 6 (by decide) (hts (.fieldLink RX9 50 "WineCellar" "ledger" "LWineCellar$Ledger;") (by decide +kernel)) (fun _ h9 => h9) (show some (va_rf ((gR τ21 0 k0 6).map (ad 7))) = some (.ref (ad 7 o22)) by rw [eo22]; rfl) dX9_sell_64 ?_
      refine lv_dup hx hb dX9_sell_67 rfl ?_
      refine tw_get (v := .int (gI τ21 7 o22 2)) hx hb hts (by decide +kernel) hown hK hP (by decide) (tw_lt ho22 (congrFun hN 7)) rfl rfl 2 (by decide) (hts (.fieldLink RX9 231 "WineCellar$Ledger" "sold" "I") (by decide +kernel)) (fun _ h9 => h9) rfl dX9_sell_68 ?_
      refine lv_iconst (v := 1) hx hb dX9_sell_71 (by decide) ?_
      refine lv_iadd hx hb dX9_sell_72 ?_
      refine tw_put (τ' := sI τ21 7 o22 2 ((gI τ21 7 o22 2) + ((1 : Int32)))) (ty := .int) hx hb hts (by decide +kernel) tyX2 tyX2_ok nmX2 hown hK hP hS (by decide) (tw_lt ho22 (congrFun hN 7)) rfl rfl 2 (by decide) (hts (.fieldLink RX9 231 "WineCellar$Ledger" "sold" "I") (by decide +kernel)) (fun _ h9 => h9) rfl (by decide +kernel) rfl rfl (Nat.le_of_ble_eq_true rfl) dX9_sell_73 (fun H1 ha ho => tw_updI hP (by decide) (tw_lt ho22 (congrFun hN 7)) ha ho) (fun H locs hP hS => ?_)
      obtain ⟨τ23, eτ23⟩ : ∃ y : tw_T, y = sI τ21 7 o22 2 ((gI τ21 7 o22 2) + ((1 : Int32))) := ⟨_, rfl⟩
      have hF := hF τ23 eτ23
      rw [← eτ23] at hP
      have hN : gN τ23 = gN τ0 := by rw [eτ23]; exact hN
      refine lv_aload_n hx hb dX9_sell_76 rfl (lv_at hl 2 rfl) ?_
      obtain ⟨o24, eo24, hF⟩ := hF
      have ho24 : o24 < gN τ0 7 := tw_lt (hP.2.2.2 0 k0 6 o24 (by decide) (tw_lt hk0 (congrFun hN 0)) eo24) (congrFun hN 7).symm
      refine tw_get (v := .ref (ad 7 o24)) hx hb hts (by decide +kernel) hown hK hP (by decide) (tw_lt hk0 (congrFun hN 0)) rfl rfl 6 (by decide) (hts (.fieldLink RX9 50 "WineCellar" "ledger" "LWineCellar$Ledger;") (by decide +kernel)) (fun _ h9 => h9) (show some (va_rf ((gR τ23 0 k0 6).map (ad 7))) = some (.ref (ad 7 o24)) by rw [eo24]; rfl) dX9_sell_77 ?_
      refine lv_dup hx hb dX9_sell_80 rfl ?_
      refine tw_get (v := .long (gJ τ23 7 o24 7)) hx hb hts (by decide +kernel) hown hK hP (by decide) (tw_lt ho24 (congrFun hN 7)) rfl rfl 7 (by decide) (hts (.fieldLink RX9 234 "WineCellar$Ledger" "paid" "J") (by decide +kernel)) (fun _ h9 => h9) rfl dX9_sell_81 ?_
      refine lv_iload_n hx hb dX9_sell_84 rfl (lv_at hl 0 rfl) ?_
      refine lv_i2l (v := r19.toInt64) hx hb dX9_sell_85 rfl ?_
      refine lv_ladd hx hb dX9_sell_86 ?_
      refine tw_put (τ' := sJ τ23 7 o24 7 ((gJ τ23 7 o24 7) + r19.toInt64)) (ty := .long) hx hb hts (by decide +kernel) tyX2 tyX2_ok nmX2 hown hK hP hS (by decide) (tw_lt ho24 (congrFun hN 7)) rfl rfl 7 (by decide) (hts (.fieldLink RX9 234 "WineCellar$Ledger" "paid" "J") (by decide +kernel)) (fun _ h9 => h9) rfl (by decide +kernel) rfl rfl (Nat.le_of_ble_eq_true rfl) dX9_sell_87 (fun H1 ha ho => tw_updJ hP (by decide) (tw_lt ho24 (congrFun hN 7)) ha ho) (fun H locs hP hS => ?_)
      obtain ⟨τ25, eτ25⟩ : ∃ y : tw_T, y = sJ τ23 7 o24 7 ((gJ τ23 7 o24 7) + r19.toInt64) := ⟨_, rfl⟩
      have hF := hF τ25 eτ25
      rw [← eτ25] at hP
      have hN : gN τ25 = gN τ0 := by rw [eτ25]; exact hN
      refine lv_iload_n hx hb dX9_sell_90 rfl (lv_at hl 0 rfl) ?_
      exact vx_ret (W.iret (v := r19) hx hb hr (fun t ht hW => ⟨⟨r19, τ25, rfl, ⟨hF, hN⟩, tw_at hP ht⟩, hS.F ht⟩) hS.2.2 dX9_sell_91)
    · have hF := hF.2 c15
      refine lv_bipush (v := (-2)) hx hb dX9_sell_42 (by decide) ?_
      exact vx_ret (W.iret (v := (-2 : Int32)) hx hb hr (fun t ht hW => ⟨⟨((-2 : Int32)), τ13, rfl, ⟨hF, hN⟩, tw_at hP ht⟩, hS.F ht⟩) hS.2.2 dX9_sell_44)
  · have hF := hF.2 c5
    refine lv_iconst (v := (-1)) hx hb dX9_sell_15 (by decide) ?_
    exact vx_ret (W.iret (v := (-1 : Int32)) hx hb hr (fun t ht hW => ⟨⟨((-1 : Int32)), τ3, rfl, ⟨hF, hN⟩, tw_at hP ht⟩, hS.F ht⟩) hS.2.2 dX9_sell_16)
def F_X9_broken (τ0 : tw_T) (k0 : Nat) (x1 : Int32) (Q : Int32 → tw_T → Prop) (X : Nat → tw_T → Prop) : Prop := F_X9_requireCell τ0 x1 (fun (τ1 : tw_T) => (∃ o2 : Nat, gR τ1 0 k0 4 = some o2 ∧ (F_X5_isEmpty τ1 o2 x1 (fun (r4 : Int32) (τ3 : tw_T) => (((r4 = 0 → (∃ o6 : Nat, gR τ3 0 k0 4 = some o6 ∧ (F_X5_remove τ3 o6 x1 ((1 : Int32)) (fun (τ7 : tw_T) => (∃ o8 : Nat, gR τ7 0 k0 6 = some o8 ∧ (∀ τ9 : tw_T, τ9 = sI τ7 7 o8 4 ((gI τ7 7 o8 4) + ((1 : Int32))) → (∃ o10 : Nat, gR τ9 0 k0 4 = some o10 ∧ (∃ o11 : Nat, gR τ9 5 o10 1 = some o11 ∧ (vp_in x1 30 ∧ (Q (gI τ9 13 o11 x1.toNatClampNeg) τ9)))))))))) ∧ (¬ r4 = 0 → (Q ((-1 : Int32)) τ3)))))))) X
def rmX9_broken : Room := { frames := 7, cells := 1, slots := 6, locals := 102 }
set_option maxHeartbeats 4000000 in
set_option maxRecDepth 100000 in
theorem mX9_broken (l : Launch) (hlt : l.stackTraces = false) (dC : Nat → ClassId) (dI : Nat → Nat → Nat) (ac : Nat → ClassId) (sa : Nat → Nat) (A : Nat → Prop) (ad : Nat → Nat → Nat) (τ0 : tw_T) (k0 : Nat) (x1 : Int32) (Q : Int32 → tw_T → Prop) (X : Nat → tw_T → Prop) (hF : F_X9_broken τ0 k0 x1 Q X) (hk0 : k0 < gN τ0 0) : vx_Met l yX9_broken wsX9_broken rmX9_broken (va_Pc [.ref (ad 0 k0), .int x1] (BX dC dI ac sa A ad τ0)) (va_Qi (fun r (u : tw_T) => Q r u ∧ gN u = gN τ0) (fun u t => PX dC dI ac A ad u t.heap) A) (vx_X (fun (u : Nat × tw_T) => X u.1 u.2 ∧ gN u.2 = gN τ0) (fun E u t => E = exn u.1 ∧ PX dC dI ac A ad u.2 t.heap) A) 1 6 A := by
  refine vx_ofW (cc := cX9_broken) (maxL := 2) (ret := (some .int)) (by decide) rfl ?_
  intro p e s m args below meth c s₁ B hml htab hv
  obtain ⟨rfl, hP, hK, hA, hZ⟩ := hv
  have hx := B.exec
  have hb := B.bytes
  have hr := B.returns
  have hts := atoms_spec (ws := wsX9_broken) B.pre
  have hown : s.vm.findClass RX9 = some m.cls := findClass_of_methodNamed B.named
  have hlocks := B.notSynchronized
  have hS : va_S A s.heap s.heap [] := va_S.rf
  have hN : gN τ0 = gN τ0 := rfl
  have hl := lv_entry ([.ref (ad 0 k0), .int x1]) (n := 2) (Nat.le_of_ble_eq_true rfl)
  rw [lg_entry_eq]
  generalize (lg_sl ([.ref (ad 0 k0), .int x1]) ++ List.replicate (2 - (lg_sl ([.ref (ad 0 k0), .int x1])).length) Slot.unset).toArray = ls at hl ⊢
  have hl : lv_has ls 2 [(0, .ref (ad 0 k0)), (1, .int x1)] := hl
  unfold F_X9_broken at hF
  refine lv_iload_n hx hb dX9_broken_0 rfl (lv_at hl 1 rfl) ?_
  refine vx_callv (vx_runS (As := [.int x1]) (rest := []) ⟨hx, hb, hml, hown, hts⟩ (mX9_requireCell l hlt dC dI ac sa A ad τ0 x1 _ _ hF ) (va_cwS 1 hts gX9_broken_X9_requireCell rfl rfl rfl (by decide +kernel) ⟨Nat.le_of_ble_eq_true rfl, Nat.le_of_ble_eq_true rfl⟩) ⟨BX.blind, fun U hU hW => ⟨rfl, BX.of hP hK hS hA hZ hU hW⟩⟩ rfl rfl hl.1 rfl (lv_room (Nat.le_of_ble_eq_true rfl)) dX9_broken_1 ⟨Nat.le_of_ble_eq_true rfl, Nat.le_of_ble_eq_true rfl⟩) hS (fun q _ h => h) (fun q h => h) (fun q _ h => h) (fun E9 ce9 q9 u9 t9 H locs ht hvm hpx hBX hz9 hk9 hS hce hcv hcl => ?_) (fun τ1 t H locs ht hvm hw hB hz hk hS => ?_)
  · obtain ⟨ec9, τ9⟩ := u9
    obtain ⟨hF9, hN9⟩ := hpx
    obtain ⟨rfl, hP9⟩ := hBX
    exact vx_out (fun x9 hx9 => (htab x9 hx9).elim) hlocks hce hcv hcl (fun t2 ht2 hvm2 => ⟨(ec9, τ9), ⟨hF9, hN9.trans hN⟩, ⟨rfl, tw_at (tw_back hP9 ht) ht2⟩, hS.F ht2⟩) hS.2.2 (by decide) (by decide)
  obtain ⟨hF, hN9⟩ := hw
  have hP : PX dC dI ac A ad τ1 H := tw_back hB ht
  have hN : gN τ1 = gN τ0 := hN9.trans hN
  refine lv_aload_n hx hb dX9_broken_4 rfl (lv_at hl 0 rfl) ?_
  obtain ⟨o2, eo2, hF⟩ := hF
  have ho2 : o2 < gN τ0 5 := tw_lt (hP.2.2.2 0 k0 4 o2 (by decide) (tw_lt hk0 (congrFun hN 0)) eo2) (congrFun hN 5).symm
  refine tw_get (v := .ref (ad 5 o2)) hx hb hts (by decide +kernel) hown hK hP (by decide) (tw_lt hk0 (congrFun hN 0)) rfl rfl 4 (by decide) (hts (.fieldLink RX9 36 "WineCellar" "rack" "LWineCellar$Rack;") (by decide +kernel)) (fun _ h9 => h9) (show some (va_rf ((gR τ1 0 k0 4).map (ad 5))) = some (.ref (ad 5 o2)) by rw [eo2]; rfl) dX9_broken_5 ?_
  refine lv_iload_n hx hb dX9_broken_8 rfl (lv_at hl 1 rfl) ?_
  refine va_calli (va_runV (As := [.int x1]) (rest := []) ⟨hx, hb, hml, hown, hts⟩ (mX5_isEmpty l dC dI ac sa A ad τ1 o2 x1 _ hF (tw_lt ho2 (congrFun hN 5))) (cwV 1 hts gX9_broken_X5_isEmpty rfl rfl rfl (by decide +kernel) ⟨Nat.le_of_ble_eq_true rfl, Nat.le_of_ble_eq_true rfl⟩) ⟨BX.blind, tw_recv hK hP (by decide) (tw_lt ho2 (congrFun hN 5)) rfl rfl, fun U hU hW => ⟨rfl, BX.of hP hK hS hA hZ hU hW⟩⟩ rfl rfl hl.1 rfl (lv_room (Nat.le_of_ble_eq_true rfl)) dX9_broken_9 ⟨Nat.le_of_ble_eq_true rfl, Nat.le_of_ble_eq_true rfl⟩) hS (fun q _ h => h) (fun q h => h) (fun r4 τ3 t H locs ht hvm hw hB hz hk hS => ?_)
  obtain ⟨hF, hN9⟩ := hw
  have hP : PX dC dI ac A ad τ3 H := tw_back hB ht
  have hN : gN τ3 = gN τ0 := hN9.trans hN
  refine lv_if_eq (tgt := 17) hx hb dX9_broken_12 (by decide) (fun c5 => ?_) (fun c5 => ?_)
  · have hF := hF.1 c5
    refine lv_aload_n hx hb dX9_broken_17 rfl (lv_at hl 0 rfl) ?_
    obtain ⟨o6, eo6, hF⟩ := hF
    have ho6 : o6 < gN τ0 5 := tw_lt (hP.2.2.2 0 k0 4 o6 (by decide) (tw_lt hk0 (congrFun hN 0)) eo6) (congrFun hN 5).symm
    refine tw_get (v := .ref (ad 5 o6)) hx hb hts (by decide +kernel) hown hK hP (by decide) (tw_lt hk0 (congrFun hN 0)) rfl rfl 4 (by decide) (hts (.fieldLink RX9 36 "WineCellar" "rack" "LWineCellar$Rack;") (by decide +kernel)) (fun _ h9 => h9) (show some (va_rf ((gR τ3 0 k0 4).map (ad 5))) = some (.ref (ad 5 o6)) by rw [eo6]; rfl) dX9_broken_18 ?_
    refine lv_iload_n hx hb dX9_broken_21 rfl (lv_at hl 1 rfl) ?_
    refine lv_iconst (v := 1) hx hb dX9_broken_22 (by decide) ?_
    refine va_callv (va_runV (As := [.int x1, .int ((1 : Int32))]) (rest := []) ⟨hx, hb, hml, hown, hts⟩ (mX5_remove l dC dI ac sa A ad τ3 o6 x1 ((1 : Int32)) _ hF (tw_lt ho6 (congrFun hN 5))) (cwV 2 hts gX9_broken_X5_remove rfl rfl rfl (by decide +kernel) ⟨Nat.le_of_ble_eq_true rfl, Nat.le_of_ble_eq_true rfl⟩) ⟨BX.blind, tw_recv hK hP (by decide) (tw_lt ho6 (congrFun hN 5)) rfl rfl, fun U hU hW => ⟨rfl, BX.of hP hK hS hA hZ hU hW⟩⟩ rfl rfl hl.1 rfl (lv_room (Nat.le_of_ble_eq_true rfl)) dX9_broken_23 ⟨Nat.le_of_ble_eq_true rfl, Nat.le_of_ble_eq_true rfl⟩) hS (fun q _ h => h) (fun q h => h) (fun τ7 t H locs ht hvm hw hB hz hk hS => ?_)
    obtain ⟨hF, hN9⟩ := hw
    have hP : PX dC dI ac A ad τ7 H := tw_back hB ht
    have hN : gN τ7 = gN τ0 := hN9.trans hN
    refine lv_aload_n hx hb dX9_broken_26 rfl (lv_at hl 0 rfl) ?_
    obtain ⟨o8, eo8, hF⟩ := hF
    have ho8 : o8 < gN τ0 7 := tw_lt (hP.2.2.2 0 k0 6 o8 (by decide) (tw_lt hk0 (congrFun hN 0)) eo8) (congrFun hN 7).symm
    refine tw_get (v := .ref (ad 7 o8)) hx hb hts (by decide +kernel) hown hK hP (by decide) (tw_lt hk0 (congrFun hN 0)) rfl rfl 6 (by decide) (hts (.fieldLink RX9 50 "WineCellar" "ledger" "LWineCellar$Ledger;") (by decide +kernel)) (fun _ h9 => h9) (show some (va_rf ((gR τ7 0 k0 6).map (ad 7))) = some (.ref (ad 7 o8)) by rw [eo8]; rfl) dX9_broken_27 ?_
    refine lv_dup hx hb dX9_broken_30 rfl ?_
    refine tw_get (v := .int (gI τ7 7 o8 4)) hx hb hts (by decide +kernel) hown hK hP (by decide) (tw_lt ho8 (congrFun hN 7)) rfl rfl 4 (by decide) (hts (.fieldLink RX9 238 "WineCellar$Ledger" "broken" "I") (by decide +kernel)) (fun _ h9 => h9) rfl dX9_broken_31 ?_
    refine lv_iconst (v := 1) hx hb dX9_broken_34 (by decide) ?_
    refine lv_iadd hx hb dX9_broken_35 ?_
    refine tw_put (τ' := sI τ7 7 o8 4 ((gI τ7 7 o8 4) + ((1 : Int32)))) (ty := .int) hx hb hts (by decide +kernel) tyX2 tyX2_ok nmX2 hown hK hP hS (by decide) (tw_lt ho8 (congrFun hN 7)) rfl rfl 4 (by decide) (hts (.fieldLink RX9 238 "WineCellar$Ledger" "broken" "I") (by decide +kernel)) (fun _ h9 => h9) rfl (by decide +kernel) rfl rfl (Nat.le_of_ble_eq_true rfl) dX9_broken_36 (fun H1 ha ho => tw_updI hP (by decide) (tw_lt ho8 (congrFun hN 7)) ha ho) (fun H locs hP hS => ?_)
    obtain ⟨τ9, eτ9⟩ : ∃ y : tw_T, y = sI τ7 7 o8 4 ((gI τ7 7 o8 4) + ((1 : Int32))) := ⟨_, rfl⟩
    have hF := hF τ9 eτ9
    rw [← eτ9] at hP
    have hN : gN τ9 = gN τ0 := by rw [eτ9]; exact hN
    refine lv_aload_n hx hb dX9_broken_39 rfl (lv_at hl 0 rfl) ?_
    obtain ⟨o10, eo10, hF⟩ := hF
    have ho10 : o10 < gN τ0 5 := tw_lt (hP.2.2.2 0 k0 4 o10 (by decide) (tw_lt hk0 (congrFun hN 0)) eo10) (congrFun hN 5).symm
    refine tw_get (v := .ref (ad 5 o10)) hx hb hts (by decide +kernel) hown hK hP (by decide) (tw_lt hk0 (congrFun hN 0)) rfl rfl 4 (by decide) (hts (.fieldLink RX9 36 "WineCellar" "rack" "LWineCellar$Rack;") (by decide +kernel)) (fun _ h9 => h9) (show some (va_rf ((gR τ9 0 k0 4).map (ad 5))) = some (.ref (ad 5 o10)) by rw [eo10]; rfl) dX9_broken_40 ?_
    obtain ⟨o11, eo11, hF⟩ := hF
    have ho11 : o11 < gN τ0 13 := tw_lt (hP.2.2.2 5 o10 1 o11 (by decide) (tw_lt ho10 (congrFun hN 5)) eo11) (congrFun hN 13).symm
    refine tw_get (v := .ref (ad 13 o11)) hx hb hts (by decide +kernel) hown hK hP (by decide) (tw_lt ho10 (congrFun hN 5)) rfl rfl 1 (by decide) (hts (.fieldLink RX9 209 "WineCellar$Rack" "bottles" "[I") (by decide +kernel)) (fun _ h9 => h9) (show some (va_rf ((gR τ9 5 o10 1).map (ad 13))) = some (.ref (ad 13 o11)) by rw [eo11]; rfl) dX9_broken_43 ?_
    refine lv_iload_n hx hb dX9_broken_46 rfl (lv_at hl 1 rfl) ?_
    obtain ⟨hi12, hF⟩ := hF
    refine tw_iald hx hb hK hP (by decide) (tw_lt ho11 (congrFun hN 13)) rfl 0 rfl hi12 dX9_broken_47 ?_
    exact vx_ret (W.iret (v := gI τ9 13 o11 x1.toNatClampNeg) hx hb hr (fun t ht hW => ⟨⟨(gI τ9 13 o11 x1.toNatClampNeg), τ9, rfl, ⟨hF, hN⟩, tw_at hP ht⟩, hS.F ht⟩) hS.2.2 dX9_broken_48)
  · have hF := hF.2 c5
    refine lv_iconst (v := (-1)) hx hb dX9_broken_15 (by decide) ?_
    exact vx_ret (W.iret (v := (-1 : Int32)) hx hb hr (fun t ht hW => ⟨⟨((-1 : Int32)), τ3, rfl, ⟨hF, hN⟩, tw_at hP ht⟩, hS.F ht⟩) hS.2.2 dX9_broken_16)
def F_X9_counted (τ0 : tw_T) (k0 : Nat) (x1 : Int32) (x2 : Int32) (Q : Int32 → tw_T → Prop) (X : Nat → tw_T → Prop) : Prop := F_X9_requireCell τ0 x1 (fun (τ1 : tw_T) => (F_X9_isWithin τ1 x2.toInt64 ((0 : Int64)) ((12 : Int64)) (fun (r3 : Int32) (τ2 : tw_T) => (((¬ r3 = 0 → (∃ o5 : Nat, gR τ2 0 k0 4 = some o5 ∧ (F_X5_isEmpty τ2 o5 x1 (fun (r7 : Int32) (τ6 : tw_T) => (((r7 = 0 → (∃ o9 : Nat, gR τ6 0 k0 4 = some o9 ∧ (∃ o10 : Nat, gR τ6 5 o9 1 = some o10 ∧ (vp_in x1 30 ∧ (∀ z12 : Int32, z12 = x2 - (gI τ6 13 o10 x1.toNatClampNeg) → (((z12 ≤ 0 → (∃ o14 : Nat, gR τ6 0 k0 4 = some o14 ∧ (F_X5_remove τ6 o14 x1 (-z12) (fun (τ15 : tw_T) => (∃ o16 : Nat, gR τ15 0 k0 6 = some o16 ∧ (∀ τ17 : tw_T, τ17 = sI τ15 7 o16 4 ((gI τ15 7 o16 4) - z12) → (Q z12 τ17))))))) ∧ (¬ z12 ≤ 0 → (∃ o18 : Nat, gR τ6 0 k0 4 = some o18 ∧ (∃ o19 : Nat, gR τ6 0 k0 4 = some o19 ∧ (∃ o20 : Nat, gR τ6 5 o19 0 = some o20 ∧ (vp_in x1 30 ∧ (F_X5_add τ6 o18 x1 (gI τ6 12 o20 x1.toNatClampNeg) z12 (fun (τ22 : tw_T) => (∃ o23 : Nat, gR τ22 0 k0 6 = some o23 ∧ (∀ τ24 : tw_T, τ24 = sI τ22 7 o23 1 ((gI τ22 7 o23 1) + z12) → (Q z12 τ24))))))))))))))))) ∧ (¬ r7 = 0 → (Q ((-100 : Int32)) τ6)))))))) ∧ (r3 = 0 → (X 0 τ2))))))) X
def rmX9_counted : Room := { frames := 7, cells := 2, slots := 12, locals := 102 }
set_option maxHeartbeats 4000000 in
set_option maxRecDepth 100000 in
theorem mX9_counted (l : Launch) (hlt : l.stackTraces = false) (dC : Nat → ClassId) (dI : Nat → Nat → Nat) (ac : Nat → ClassId) (sa : Nat → Nat) (A : Nat → Prop) (ad : Nat → Nat → Nat) (τ0 : tw_T) (k0 : Nat) (x1 : Int32) (x2 : Int32) (Q : Int32 → tw_T → Prop) (X : Nat → tw_T → Prop) (hF : F_X9_counted τ0 k0 x1 x2 Q X) (hk0 : k0 < gN τ0 0) : vx_Met l yX9_counted wsX9_counted rmX9_counted (va_Pc [.ref (ad 0 k0), .int x1, .int x2] (BX dC dI ac sa A ad τ0)) (va_Qi (fun r (u : tw_T) => Q r u ∧ gN u = gN τ0) (fun u t => PX dC dI ac A ad u t.heap) A) (vx_X (fun (u : Nat × tw_T) => X u.1 u.2 ∧ gN u.2 = gN τ0) (fun E u t => E = exn u.1 ∧ PX dC dI ac A ad u.2 t.heap) A) 2 12 A := by
  refine vx_ofW (cc := cX9_counted) (maxL := 4) (ret := (some .int)) (by decide) rfl ?_
  intro p e s m args below meth c s₁ B hml htab hv
  obtain ⟨rfl, hP, hK, hA, hZ⟩ := hv
  have hx := B.exec
  have hb := B.bytes
  have hr := B.returns
  have hts := atoms_spec (ws := wsX9_counted) B.pre
  have hown : s.vm.findClass RX9 = some m.cls := findClass_of_methodNamed B.named
  have hlocks := B.notSynchronized
  have hS : va_S A s.heap s.heap [] := va_S.rf
  have hN : gN τ0 = gN τ0 := rfl
  have hl := lv_entry ([.ref (ad 0 k0), .int x1, .int x2]) (n := 4) (Nat.le_of_ble_eq_true rfl)
  rw [lg_entry_eq]
  generalize (lg_sl ([.ref (ad 0 k0), .int x1, .int x2]) ++ List.replicate (4 - (lg_sl ([.ref (ad 0 k0), .int x1, .int x2])).length) Slot.unset).toArray = ls at hl ⊢
  have hl : lv_has ls 4 [(0, .ref (ad 0 k0)), (1, .int x1), (2, .int x2)] := hl
  unfold F_X9_counted at hF
  refine lv_iload_n hx hb dX9_counted_0 rfl (lv_at hl 1 rfl) ?_
  refine vx_callv (vx_runS (As := [.int x1]) (rest := []) ⟨hx, hb, hml, hown, hts⟩ (mX9_requireCell l hlt dC dI ac sa A ad τ0 x1 _ _ hF ) (va_cwS 1 hts gX9_counted_X9_requireCell rfl rfl rfl (by decide +kernel) ⟨Nat.le_of_ble_eq_true rfl, Nat.le_of_ble_eq_true rfl⟩) ⟨BX.blind, fun U hU hW => ⟨rfl, BX.of hP hK hS hA hZ hU hW⟩⟩ rfl rfl hl.1 rfl (lv_room (Nat.le_of_ble_eq_true rfl)) dX9_counted_1 ⟨Nat.le_of_ble_eq_true rfl, Nat.le_of_ble_eq_true rfl⟩) hS (fun q _ h => h) (fun q h => h) (fun q _ h => h) (fun E9 ce9 q9 u9 t9 H locs ht hvm hpx hBX hz9 hk9 hS hce hcv hcl => ?_) (fun τ1 t H locs ht hvm hw hB hz hk hS => ?_)
  · obtain ⟨ec9, τ9⟩ := u9
    obtain ⟨hF9, hN9⟩ := hpx
    obtain ⟨rfl, hP9⟩ := hBX
    exact vx_out (fun x9 hx9 => (htab x9 hx9).elim) hlocks hce hcv hcl (fun t2 ht2 hvm2 => ⟨(ec9, τ9), ⟨hF9, hN9.trans hN⟩, ⟨rfl, tw_at (tw_back hP9 ht) ht2⟩, hS.F ht2⟩) hS.2.2 (by decide) (by decide)
  obtain ⟨hF, hN9⟩ := hw
  have hP : PX dC dI ac A ad τ1 H := tw_back hB ht
  have hN : gN τ1 = gN τ0 := hN9.trans hN
  refine lv_iload_n hx hb dX9_counted_4 rfl (lv_at hl 2 rfl) ?_
  refine lv_i2l (v := x2.toInt64) hx hb dX9_counted_5 rfl ?_
  refine lv_lconst (v := 0) hx hb dX9_counted_6 (by decide) ?_
  refine lv_ldc2 (v := 12) hx hb hown (hts (.constantLong RX9 191 12) (by decide +kernel)) dX9_counted_7 ?_
  refine va_calli (va_runS (As := [.long x2.toInt64, .long ((0 : Int64)), .long ((12 : Int64))]) (rest := []) ⟨hx, hb, hml, hown, hts⟩ (mX9_isWithin l dC dI ac sa A ad τ1 x2.toInt64 ((0 : Int64)) ((12 : Int64)) _ hF ) (va_cwS 3 hts gX9_counted_X9_isWithin rfl rfl rfl (by decide +kernel) ⟨Nat.le_of_ble_eq_true rfl, Nat.le_of_ble_eq_true rfl⟩) ⟨BX.blind, fun U hU hW => ⟨rfl, BX.of hP hK hS hA hZ hU hW⟩⟩ rfl rfl hl.1 rfl (lv_room (Nat.le_of_ble_eq_true rfl)) dX9_counted_10 ⟨Nat.le_of_ble_eq_true rfl, Nat.le_of_ble_eq_true rfl⟩) hS (fun q _ h => h) (fun q h => h) (fun r3 τ2 t H locs ht hvm hw hB hz hk hS => ?_)
  obtain ⟨hF, hN9⟩ := hw
  have hP : PX dC dI ac A ad τ2 H := tw_back hB ht
  have hN : gN τ2 = gN τ0 := hN9.trans hN
  refine lv_if_ne (tgt := 26) hx hb dX9_counted_13 (by decide) (fun c4 => ?_) (fun c4 => ?_)
  · have hF := hF.1 c4
    refine lv_aload_n hx hb dX9_counted_26 rfl (lv_at hl 0 rfl) ?_
    obtain ⟨o5, eo5, hF⟩ := hF
    have ho5 : o5 < gN τ0 5 := tw_lt (hP.2.2.2 0 k0 4 o5 (by decide) (tw_lt hk0 (congrFun hN 0)) eo5) (congrFun hN 5).symm
    refine tw_get (v := .ref (ad 5 o5)) hx hb hts (by decide +kernel) hown hK hP (by decide) (tw_lt hk0 (congrFun hN 0)) rfl rfl 4 (by decide) (hts (.fieldLink RX9 36 "WineCellar" "rack" "LWineCellar$Rack;") (by decide +kernel)) (fun _ h9 => h9) (show some (va_rf ((gR τ2 0 k0 4).map (ad 5))) = some (.ref (ad 5 o5)) by rw [eo5]; rfl) dX9_counted_27 ?_
    refine lv_iload_n hx hb dX9_counted_30 rfl (lv_at hl 1 rfl) ?_
    refine va_calli (va_runV (As := [.int x1]) (rest := []) ⟨hx, hb, hml, hown, hts⟩ (mX5_isEmpty l dC dI ac sa A ad τ2 o5 x1 _ hF (tw_lt ho5 (congrFun hN 5))) (cwV 1 hts gX9_counted_X5_isEmpty rfl rfl rfl (by decide +kernel) ⟨Nat.le_of_ble_eq_true rfl, Nat.le_of_ble_eq_true rfl⟩) ⟨BX.blind, tw_recv hK hP (by decide) (tw_lt ho5 (congrFun hN 5)) rfl rfl, fun U hU hW => ⟨rfl, BX.of hP hK hS hA hZ hU hW⟩⟩ rfl rfl hl.1 rfl (lv_room (Nat.le_of_ble_eq_true rfl)) dX9_counted_31 ⟨Nat.le_of_ble_eq_true rfl, Nat.le_of_ble_eq_true rfl⟩) hS (fun q _ h => h) (fun q h => h) (fun r7 τ6 t H locs ht hvm hw hB hz hk hS => ?_)
    obtain ⟨hF, hN9⟩ := hw
    have hP : PX dC dI ac A ad τ6 H := tw_back hB ht
    have hN : gN τ6 = gN τ0 := hN9.trans hN
    refine lv_if_eq (tgt := 40) hx hb dX9_counted_34 (by decide) (fun c8 => ?_) (fun c8 => ?_)
    · have hF := hF.1 c8
      refine lv_iload_n hx hb dX9_counted_40 rfl (lv_at hl 2 rfl) ?_
      refine lv_aload_n hx hb dX9_counted_41 rfl (lv_at hl 0 rfl) ?_
      obtain ⟨o9, eo9, hF⟩ := hF
      have ho9 : o9 < gN τ0 5 := tw_lt (hP.2.2.2 0 k0 4 o9 (by decide) (tw_lt hk0 (congrFun hN 0)) eo9) (congrFun hN 5).symm
      refine tw_get (v := .ref (ad 5 o9)) hx hb hts (by decide +kernel) hown hK hP (by decide) (tw_lt hk0 (congrFun hN 0)) rfl rfl 4 (by decide) (hts (.fieldLink RX9 36 "WineCellar" "rack" "LWineCellar$Rack;") (by decide +kernel)) (fun _ h9 => h9) (show some (va_rf ((gR τ6 0 k0 4).map (ad 5))) = some (.ref (ad 5 o9)) by rw [eo9]; rfl) dX9_counted_42 ?_
      obtain ⟨o10, eo10, hF⟩ := hF
      have ho10 : o10 < gN τ0 13 := tw_lt (hP.2.2.2 5 o9 1 o10 (by decide) (tw_lt ho9 (congrFun hN 5)) eo10) (congrFun hN 13).symm
      refine tw_get (v := .ref (ad 13 o10)) hx hb hts (by decide +kernel) hown hK hP (by decide) (tw_lt ho9 (congrFun hN 5)) rfl rfl 1 (by decide) (hts (.fieldLink RX9 209 "WineCellar$Rack" "bottles" "[I") (by decide +kernel)) (fun _ h9 => h9) (show some (va_rf ((gR τ6 5 o9 1).map (ad 13))) = some (.ref (ad 13 o10)) by rw [eo10]; rfl) dX9_counted_45 ?_
      refine lv_iload_n hx hb dX9_counted_48 rfl (lv_at hl 1 rfl) ?_
      obtain ⟨hi11, hF⟩ := hF
      refine tw_iald hx hb hK hP (by decide) (tw_lt ho10 (congrFun hN 13)) rfl 0 rfl hi11 dX9_counted_49 ?_
      refine lv_isub hx hb dX9_counted_50 ?_
      refine lv_topi (fun z12 ez12 => ?_)
      have hF := hF z12 ez12
      refine lv_istore_n (lv' := [(3, .int z12), (0, .ref (ad 0 k0)), (1, .int x1), (2, .int x2)]) hx hb dX9_counted_51 rfl hl (by decide) rfl (fun ls hl => ?_)
      refine lv_iload_n hx hb dX9_counted_52 rfl (lv_at hl 0 rfl) ?_
      refine lv_if_le (tgt := 90) hx hb dX9_counted_53 (by decide) (fun c13 => ?_) (fun c13 => ?_)
      · have hF := hF.1 c13
        refine lv_aload_n hx hb dX9_counted_90 rfl (lv_at hl 1 rfl) ?_
        obtain ⟨o14, eo14, hF⟩ := hF
        have ho14 : o14 < gN τ0 5 := tw_lt (hP.2.2.2 0 k0 4 o14 (by decide) (tw_lt hk0 (congrFun hN 0)) eo14) (congrFun hN 5).symm
        refine tw_get (v := .ref (ad 5 o14)) hx hb hts (by decide +kernel) hown hK hP (by decide) (tw_lt hk0 (congrFun hN 0)) rfl rfl 4 (by decide) (hts (.fieldLink RX9 36 "WineCellar" "rack" "LWineCellar$Rack;") (by decide +kernel)) (fun _ h9 => h9) (show some (va_rf ((gR τ6 0 k0 4).map (ad 5))) = some (.ref (ad 5 o14)) by rw [eo14]; rfl) dX9_counted_91 ?_
        refine lv_iload_n hx hb dX9_counted_94 rfl (lv_at hl 2 rfl) ?_
        refine lv_iload_n hx hb dX9_counted_95 rfl (lv_at hl 0 rfl) ?_
        refine lv_ineg hx hb dX9_counted_96 ?_
        refine va_callv (va_runV (As := [.int x1, .int (-z12)]) (rest := []) ⟨hx, hb, hml, hown, hts⟩ (mX5_remove l dC dI ac sa A ad τ6 o14 x1 (-z12) _ hF (tw_lt ho14 (congrFun hN 5))) (cwV 2 hts gX9_counted_X5_remove rfl rfl rfl (by decide +kernel) ⟨Nat.le_of_ble_eq_true rfl, Nat.le_of_ble_eq_true rfl⟩) ⟨BX.blind, tw_recv hK hP (by decide) (tw_lt ho14 (congrFun hN 5)) rfl rfl, fun U hU hW => ⟨rfl, BX.of hP hK hS hA hZ hU hW⟩⟩ rfl rfl hl.1 rfl (lv_room (Nat.le_of_ble_eq_true rfl)) dX9_counted_97 ⟨Nat.le_of_ble_eq_true rfl, Nat.le_of_ble_eq_true rfl⟩) hS (fun q _ h => h) (fun q h => h) (fun τ15 t H locs ht hvm hw hB hz hk hS => ?_)
        obtain ⟨hF, hN9⟩ := hw
        have hP : PX dC dI ac A ad τ15 H := tw_back hB ht
        have hN : gN τ15 = gN τ0 := hN9.trans hN
        refine lv_aload_n hx hb dX9_counted_100 rfl (lv_at hl 1 rfl) ?_
        obtain ⟨o16, eo16, hF⟩ := hF
        have ho16 : o16 < gN τ0 7 := tw_lt (hP.2.2.2 0 k0 6 o16 (by decide) (tw_lt hk0 (congrFun hN 0)) eo16) (congrFun hN 7).symm
        refine tw_get (v := .ref (ad 7 o16)) hx hb hts (by decide +kernel) hown hK hP (by decide) (tw_lt hk0 (congrFun hN 0)) rfl rfl 6 (by decide) (hts (.fieldLink RX9 50 "WineCellar" "ledger" "LWineCellar$Ledger;") (by decide +kernel)) (fun _ h9 => h9) (show some (va_rf ((gR τ15 0 k0 6).map (ad 7))) = some (.ref (ad 7 o16)) by rw [eo16]; rfl) dX9_counted_101 ?_
        refine lv_dup hx hb dX9_counted_104 rfl ?_
        refine tw_get (v := .int (gI τ15 7 o16 4)) hx hb hts (by decide +kernel) hown hK hP (by decide) (tw_lt ho16 (congrFun hN 7)) rfl rfl 4 (by decide) (hts (.fieldLink RX9 238 "WineCellar$Ledger" "broken" "I") (by decide +kernel)) (fun _ h9 => h9) rfl dX9_counted_105 ?_
        refine lv_iload_n hx hb dX9_counted_108 rfl (lv_at hl 0 rfl) ?_
        refine lv_isub hx hb dX9_counted_109 ?_
        refine tw_put (τ' := sI τ15 7 o16 4 ((gI τ15 7 o16 4) - z12)) (ty := .int) hx hb hts (by decide +kernel) tyX2 tyX2_ok nmX2 hown hK hP hS (by decide) (tw_lt ho16 (congrFun hN 7)) rfl rfl 4 (by decide) (hts (.fieldLink RX9 238 "WineCellar$Ledger" "broken" "I") (by decide +kernel)) (fun _ h9 => h9) rfl (by decide +kernel) rfl rfl (Nat.le_of_ble_eq_true rfl) dX9_counted_110 (fun H1 ha ho => tw_updI hP (by decide) (tw_lt ho16 (congrFun hN 7)) ha ho) (fun H locs hP hS => ?_)
        obtain ⟨τ17, eτ17⟩ : ∃ y : tw_T, y = sI τ15 7 o16 4 ((gI τ15 7 o16 4) - z12) := ⟨_, rfl⟩
        have hF := hF τ17 eτ17
        rw [← eτ17] at hP
        have hN : gN τ17 = gN τ0 := by rw [eτ17]; exact hN
        refine lv_iload_n hx hb dX9_counted_113 rfl (lv_at hl 0 rfl) ?_
        refine W.widen (k := 2) (n := 12) (by decide) (by decide) ?_
        exact vx_ret (W.iret (v := z12) hx hb hr (fun t ht hW => ⟨⟨z12, τ17, rfl, ⟨hF, hN⟩, tw_at hP ht⟩, hS.F ht⟩) hS.2.2 dX9_counted_114)
      · have hF := hF.2 c13
        refine lv_aload_n hx hb dX9_counted_56 rfl (lv_at hl 1 rfl) ?_
        obtain ⟨o18, eo18, hF⟩ := hF
        have ho18 : o18 < gN τ0 5 := tw_lt (hP.2.2.2 0 k0 4 o18 (by decide) (tw_lt hk0 (congrFun hN 0)) eo18) (congrFun hN 5).symm
        refine tw_get (v := .ref (ad 5 o18)) hx hb hts (by decide +kernel) hown hK hP (by decide) (tw_lt hk0 (congrFun hN 0)) rfl rfl 4 (by decide) (hts (.fieldLink RX9 36 "WineCellar" "rack" "LWineCellar$Rack;") (by decide +kernel)) (fun _ h9 => h9) (show some (va_rf ((gR τ6 0 k0 4).map (ad 5))) = some (.ref (ad 5 o18)) by rw [eo18]; rfl) dX9_counted_57 ?_
        refine lv_iload_n hx hb dX9_counted_60 rfl (lv_at hl 2 rfl) ?_
        refine lv_aload_n hx hb dX9_counted_61 rfl (lv_at hl 1 rfl) ?_
        obtain ⟨o19, eo19, hF⟩ := hF
        have ho19 : o19 < gN τ0 5 := tw_lt (hP.2.2.2 0 k0 4 o19 (by decide) (tw_lt hk0 (congrFun hN 0)) eo19) (congrFun hN 5).symm
        refine tw_get (v := .ref (ad 5 o19)) hx hb hts (by decide +kernel) hown hK hP (by decide) (tw_lt hk0 (congrFun hN 0)) rfl rfl 4 (by decide) (hts (.fieldLink RX9 36 "WineCellar" "rack" "LWineCellar$Rack;") (by decide +kernel)) (fun _ h9 => h9) (show some (va_rf ((gR τ6 0 k0 4).map (ad 5))) = some (.ref (ad 5 o19)) by rw [eo19]; rfl) dX9_counted_62 ?_
        obtain ⟨o20, eo20, hF⟩ := hF
        have ho20 : o20 < gN τ0 12 := tw_lt (hP.2.2.2 5 o19 0 o20 (by decide) (tw_lt ho19 (congrFun hN 5)) eo20) (congrFun hN 12).symm
        refine tw_get (v := .ref (ad 12 o20)) hx hb hts (by decide +kernel) hown hK hP (by decide) (tw_lt ho19 (congrFun hN 5)) rfl rfl 0 (by decide) (hts (.fieldLink RX9 214 "WineCellar$Rack" "lots" "[I") (by decide +kernel)) (fun _ h9 => h9) (show some (va_rf ((gR τ6 5 o19 0).map (ad 12))) = some (.ref (ad 12 o20)) by rw [eo20]; rfl) dX9_counted_65 ?_
        refine lv_iload_n hx hb dX9_counted_68 rfl (lv_at hl 2 rfl) ?_
        obtain ⟨hi21, hF⟩ := hF
        refine tw_iald hx hb hK hP (by decide) (tw_lt ho20 (congrFun hN 12)) rfl 0 rfl hi21 dX9_counted_69 ?_
        refine lv_iload_n hx hb dX9_counted_70 rfl (lv_at hl 0 rfl) ?_
        refine va_callv (va_runV (As := [.int x1, .int (gI τ6 12 o20 x1.toNatClampNeg), .int z12]) (rest := []) ⟨hx, hb, hml, hown, hts⟩ (mX5_add l dC dI ac sa A ad τ6 o18 x1 (gI τ6 12 o20 x1.toNatClampNeg) z12 _ hF (tw_lt ho18 (congrFun hN 5))) (cwV 3 hts gX9_counted_X5_add rfl rfl rfl (by decide +kernel) ⟨Nat.le_of_ble_eq_true rfl, Nat.le_of_ble_eq_true rfl⟩) ⟨BX.blind, tw_recv hK hP (by decide) (tw_lt ho18 (congrFun hN 5)) rfl rfl, fun U hU hW => ⟨rfl, BX.of hP hK hS hA hZ hU hW⟩⟩ rfl rfl hl.1 rfl (lv_room (Nat.le_of_ble_eq_true rfl)) dX9_counted_71 ⟨Nat.le_of_ble_eq_true rfl, Nat.le_of_ble_eq_true rfl⟩) hS (fun q _ h => h) (fun q h => h) (fun τ22 t H locs ht hvm hw hB hz hk hS => ?_)
        obtain ⟨hF, hN9⟩ := hw
        have hP : PX dC dI ac A ad τ22 H := tw_back hB ht
        have hN : gN τ22 = gN τ0 := hN9.trans hN
        refine lv_aload_n hx hb dX9_counted_74 rfl (lv_at hl 1 rfl) ?_
        obtain ⟨o23, eo23, hF⟩ := hF
        have ho23 : o23 < gN τ0 7 := tw_lt (hP.2.2.2 0 k0 6 o23 (by decide) (tw_lt hk0 (congrFun hN 0)) eo23) (congrFun hN 7).symm
        refine tw_get (v := .ref (ad 7 o23)) hx hb hts (by decide +kernel) hown hK hP (by decide) (tw_lt hk0 (congrFun hN 0)) rfl rfl 6 (by decide) (hts (.fieldLink RX9 50 "WineCellar" "ledger" "LWineCellar$Ledger;") (by decide +kernel)) (fun _ h9 => h9) (show some (va_rf ((gR τ22 0 k0 6).map (ad 7))) = some (.ref (ad 7 o23)) by rw [eo23]; rfl) dX9_counted_75 ?_
        refine lv_dup hx hb dX9_counted_78 rfl ?_
        refine tw_get (v := .int (gI τ22 7 o23 1)) hx hb hts (by decide +kernel) hown hK hP (by decide) (tw_lt ho23 (congrFun hN 7)) rfl rfl 1 (by decide) (hts (.fieldLink RX9 241 "WineCellar$Ledger" "found" "I") (by decide +kernel)) (fun _ h9 => h9) rfl dX9_counted_79 ?_
        refine lv_iload_n hx hb dX9_counted_82 rfl (lv_at hl 0 rfl) ?_
        refine lv_iadd hx hb dX9_counted_83 ?_
        refine tw_put (τ' := sI τ22 7 o23 1 ((gI τ22 7 o23 1) + z12)) (ty := .int) hx hb hts (by decide +kernel) tyX2 tyX2_ok nmX2 hown hK hP hS (by decide) (tw_lt ho23 (congrFun hN 7)) rfl rfl 1 (by decide) (hts (.fieldLink RX9 241 "WineCellar$Ledger" "found" "I") (by decide +kernel)) (fun _ h9 => h9) rfl (by decide +kernel) rfl rfl (Nat.le_of_ble_eq_true rfl) dX9_counted_84 (fun H1 ha ho => tw_updI hP (by decide) (tw_lt ho23 (congrFun hN 7)) ha ho) (fun H locs hP hS => ?_)
        obtain ⟨τ24, eτ24⟩ : ∃ y : tw_T, y = sI τ22 7 o23 1 ((gI τ22 7 o23 1) + z12) := ⟨_, rfl⟩
        have hF := hF τ24 eτ24
        rw [← eτ24] at hP
        have hN : gN τ24 = gN τ0 := by rw [eτ24]; exact hN
        refine lv_goto (tgt := 113) hx hb dX9_counted_87 (by decide) ?_
        refine lv_iload_n hx hb dX9_counted_113 rfl (lv_at hl 0 rfl) ?_
        refine W.widen (k := 2) (n := 12) (by decide) (by decide) ?_
        exact vx_ret (W.iret (v := z12) hx hb hr (fun t ht hW => ⟨⟨z12, τ24, rfl, ⟨hF, hN⟩, tw_at hP ht⟩, hS.F ht⟩) hS.2.2 dX9_counted_114)
    · have hF := hF.2 c8
      refine lv_bipush (v := (-100)) hx hb dX9_counted_37 (by decide) ?_
      refine W.widen (k := 2) (n := 12) (by decide) (by decide) ?_
      exact vx_ret (W.iret (v := (-100 : Int32)) hx hb hr (fun t ht hW => ⟨⟨((-100 : Int32)), τ6, rfl, ⟨hF, hN⟩, tw_at hP ht⟩, hS.F ht⟩) hS.2.2 dX9_counted_39)
  · have hF := hF.2 c4
    exact vx_throwS (names := zx_names) hx hb hlt hown (by decide +kernel) (by decide +kernel) (hts (.classLink RX9 96 "java/lang/IllegalArgumentException") (by decide +kernel)) (hts (.initialized "java/lang/IllegalArgumentException") (by decide +kernel)) (hZ.2.2.1 (193, "no such number of bottles", 35) (by decide +kernel)) (zx_hat0 hts (by decide +kernel) hZ.2.2.2.2.2) zx_ot0 hZ.2.1.1 hZ.2.1.2 hS (hl.1.trans hml.symm) dX9_counted_16 dX9_counted_19 dX9_counted_20 dX9_counted_22 dX9_counted_25 (fun x9 hx9 => (htab x9 hx9).elim) (Nat.le_of_ble_eq_true rfl) (Nat.le_of_ble_eq_true rfl) (Nat.le_of_ble_eq_true rfl) (Nat.le_of_ble_eq_true rfl) hlocks (fun t hvm hz hk => ⟨(0, τ2), ⟨hF, hN⟩, ⟨rfl, (tw_thrown hP hS hz hk).1⟩, (tw_thrown hP hS hz hk).2⟩) hS.2.2 (by decide) (by decide)
def J_X9_glass_73 (τ : tw_T) (p0 : Nat) (p2 : Nat) (Q : Int32 → tw_T → Prop) (X : Nat → tw_T → Prop) : Prop := F_X9_pour τ p0 p2 (fun (r2 : Int32) (τ1 : tw_T) => (Q r2 τ1))
def F_X9_glass (τ0 : tw_T) (k0 : Nat) (x1 : Int32) (Q : Int32 → tw_T → Prop) (X : Nat → tw_T → Prop) : Prop := F_X9_lotAt τ0 k0 x1 (fun (o4 : Nat) (τ3 : tw_T) => (F_X9_yearNow τ3 k0 (fun (r6 : Int32) (τ5 : tw_T) => (F_X3_maySellIn τ5 o4 r6 (fun (r8 : Int32) (τ7 : tw_T) => (((¬ r8 = 0 → (F_X3_isOpen τ7 o4 (fun (r11 : Int32) (τ10 : tw_T) => (((¬ r11 = 0 → (J_X9_glass_73 τ10 k0 o4 Q X)) ∧ (r11 = 0 → (∃ o13 : Nat, gR τ10 0 k0 4 = some o13 ∧ (F_X5_cellOf τ10 o13 x1 ((0 : Int32)) (fun (r15 : Int32) (τ14 : tw_T) => (((¬ r15 = ((-1 : Int32)) → (F_X9_openBottles τ14 k0 (fun (r18 : Int32) (τ17 : tw_T) => (((r18 < ((60 : Int32)) → (∃ o20 : Nat, gR τ17 0 k0 4 = some o20 ∧ (F_X5_remove τ17 o20 r15 ((1 : Int32)) (fun (τ21 : tw_T) => (F_X3_open τ21 o4 (gI τ21 0 k0 15) (fun (τ22 : tw_T) => (J_X9_glass_73 τ22 k0 o4 Q X))))))) ∧ (¬ r18 < ((60 : Int32)) → (Q ((-3 : Int32)) τ17))))))) ∧ (r15 = ((-1 : Int32)) → (Q ((-2 : Int32)) τ14))))))))))))) ∧ (r8 = 0 → (Q ((-1 : Int32)) τ7))))))))) X
def rmX9_glass : Room := { frames := 7, cells := 1, slots := 6, locals := 103 }
set_option maxHeartbeats 4000000 in
set_option maxRecDepth 100000 in
theorem mX9_glass (l : Launch) (hlt : l.stackTraces = false) (dC : Nat → ClassId) (dI : Nat → Nat → Nat) (ac : Nat → ClassId) (sa : Nat → Nat) (A : Nat → Prop) (ad : Nat → Nat → Nat) (τ0 : tw_T) (k0 : Nat) (x1 : Int32) (Q : Int32 → tw_T → Prop) (X : Nat → tw_T → Prop) (hF : F_X9_glass τ0 k0 x1 Q X) (hk0 : k0 < gN τ0 0) : vx_Met l yX9_glass wsX9_glass rmX9_glass (va_Pc [.ref (ad 0 k0), .int x1] (BX dC dI ac sa A ad τ0)) (va_Qi (fun r (u : tw_T) => Q r u ∧ gN u = gN τ0) (fun u t => PX dC dI ac A ad u t.heap) A) (vx_X (fun (u : Nat × tw_T) => X u.1 u.2 ∧ gN u.2 = gN τ0) (fun E u t => E = exn u.1 ∧ PX dC dI ac A ad u.2 t.heap) A) 1 6 A := by
  refine vx_ofW (cc := cX9_glass) (maxL := 4) (ret := (some .int)) (by decide) rfl ?_
  intro p e s m args below meth c s₁ B hml htab hv
  obtain ⟨rfl, hP, hK, hA, hZ⟩ := hv
  have hx := B.exec
  have hb := B.bytes
  have hr := B.returns
  have hts := atoms_spec (ws := wsX9_glass) B.pre
  have hown : s.vm.findClass RX9 = some m.cls := findClass_of_methodNamed B.named
  have hlocks := B.notSynchronized
  have hS : va_S A s.heap s.heap [] := va_S.rf
  have hN : gN τ0 = gN τ0 := rfl
  have hl := lv_entry ([.ref (ad 0 k0), .int x1]) (n := 4) (Nat.le_of_ble_eq_true rfl)
  rw [lg_entry_eq]
  generalize (lg_sl ([.ref (ad 0 k0), .int x1]) ++ List.replicate (4 - (lg_sl ([.ref (ad 0 k0), .int x1])).length) Slot.unset).toArray = ls at hl ⊢
  have hl : lv_has ls 4 [(0, .ref (ad 0 k0)), (1, .int x1)] := hl
  unfold F_X9_glass at hF
  have j73 : ∀ (τ : tw_T) (p0 : Nat) (hp0 : p0 < gN τ0 0) (p2 : Nat) (hp2 : p2 < gN τ0 21) (H : Heap) (locs : List Loc) (ls : Array Slot), J_X9_glass_73 τ p0 p2 Q X → PX dC dI ac A ad τ H → gN τ = gN τ0 → va_S A s.heap H locs → lv_has ls 4 [(0, .ref (ad 0 p0)), (2, .ref (ad 21 p2))] → W p l e rmX9_glass s m ([.ref (ad 0 k0), .int x1] : List Value).toArray below meth c H locs 1 6 (vx_MQ below (va_Qi (fun r (u : tw_T) => Q r u ∧ gN u = gN τ0) (fun u t => PX dC dI ac A ad u t.heap) A) (vx_X (fun (u : Nat × tw_T) => X u.1 u.2 ∧ gN u.2 = gN τ0) (fun E u t => E = exn u.1 ∧ PX dC dI ac A ad u.2 t.heap) A) ([.ref (ad 0 k0), .int x1] : List Value).toArray s 1 6 A) (F0 m 73 ls []) := by
    intro τ p0 hp0 p2 hp2 H locs ls hF hP hN hS hl
    unfold J_X9_glass_73 at hF
    refine lv_aload_n hx hb dX9_glass_73 rfl (lv_at hl 0 rfl) ?_
    refine lv_aload_n hx hb dX9_glass_74 rfl (lv_at hl 1 rfl) ?_
    refine va_calli (va_runV (As := [.ref (ad 21 p2)]) (rest := []) ⟨hx, hb, hml, hown, hts⟩ (mX9_pour l dC dI ac sa A ad τ p0 p2 _ hF (tw_lt hp0 (congrFun hN 0)) (tw_lt hp2 (congrFun hN 21))) (cwV 1 hts gX9_glass_X9_pour rfl rfl rfl (by decide +kernel) ⟨Nat.le_of_ble_eq_true rfl, Nat.le_of_ble_eq_true rfl⟩) ⟨BX.blind, tw_recv hK hP (by decide) (tw_lt hp0 (congrFun hN 0)) rfl rfl, fun U hU hW => ⟨rfl, BX.of hP hK hS hA hZ hU hW⟩⟩ rfl rfl hl.1 rfl (lv_room (Nat.le_of_ble_eq_true rfl)) dX9_glass_75 ⟨Nat.le_of_ble_eq_true rfl, Nat.le_of_ble_eq_true rfl⟩) hS (fun q _ h => h) (fun q h => h) (fun r2 τ1 t H locs ht hvm hw hB hz hk hS => ?_)
    obtain ⟨hF, hN9⟩ := hw
    have hP : PX dC dI ac A ad τ1 H := tw_back hB ht
    have hN : gN τ1 = gN τ0 := hN9.trans hN
    exact vx_ret (W.iret (v := r2) hx hb hr (fun t ht hW => ⟨⟨r2, τ1, rfl, ⟨hF, hN⟩, tw_at hP ht⟩, hS.F ht⟩) hS.2.2 dX9_glass_78)
  refine lv_aload_n hx hb dX9_glass_0 rfl (lv_at hl 0 rfl) ?_
  refine lv_iload_n hx hb dX9_glass_1 rfl (lv_at hl 1 rfl) ?_
  refine vx_callr (vx_runV (As := [.int x1]) (rest := []) ⟨hx, hb, hml, hown, hts⟩ (mX9_lotAt l hlt dC dI ac sa A ad τ0 k0 x1 _ _ hF hk0) (cwV 1 hts gX9_glass_X9_lotAt rfl rfl rfl (by decide +kernel) ⟨Nat.le_of_ble_eq_true rfl, Nat.le_of_ble_eq_true rfl⟩) ⟨BX.blind, tw_recv hK hP (by decide) hk0 rfl rfl, fun U hU hW => ⟨rfl, BX.of hP hK hS hA hZ hU hW⟩⟩ rfl rfl hl.1 rfl (lv_room (Nat.le_of_ble_eq_true rfl)) dX9_glass_2 ⟨Nat.le_of_ble_eq_true rfl, Nat.le_of_ble_eq_true rfl⟩) hS (fun q _ h => h) (fun q h => h) (fun q _ h => h) (fun E9 ce9 q9 u9 t9 H locs ht hvm hpx hBX hz9 hk9 hS hce hcv hcl => ?_) (fun u9 ra9 t H locs ht hvm hw hB hz hk hS => ?_)
  · obtain ⟨ec9, τ9⟩ := u9
    obtain ⟨hF9, hN9⟩ := hpx
    obtain ⟨rfl, hP9⟩ := hBX
    exact vx_out (fun x9 hx9 => (htab x9 hx9).elim) hlocks hce hcv hcl (fun t2 ht2 hvm2 => ⟨(ec9, τ9), ⟨hF9, hN9.trans hN⟩, ⟨rfl, tw_at (tw_back hP9 ht) ht2⟩, hS.F ht2⟩) hS.2.2 (by decide) (by decide)
  obtain ⟨τ3, o4⟩ := u9
  obtain ⟨hF, ho4, hN9⟩ := hw
  obtain ⟨rfl, hB⟩ := hB
  try dsimp only at hF ho4 hN9 hB ⊢
  have ho4 : o4 < gN τ0 21 := tw_lt ho4 (congrFun hN 21).symm
  have hP : PX dC dI ac A ad τ3 H := tw_back hB ht
  have hN : gN τ3 = gN τ0 := hN9.trans hN
  refine lv_astore_n (lv' := [(2, .ref (ad 21 o4)), (0, .ref (ad 0 k0)), (1, .int x1)]) hx hb dX9_glass_5 rfl hl (by decide) rfl (fun ls hl => ?_)
  refine lv_aload_n hx hb dX9_glass_6 rfl (lv_at hl 0 rfl) ?_
  refine lv_aload_n hx hb dX9_glass_7 rfl (lv_at hl 1 rfl) ?_
  refine va_calli (va_runV (As := []) (rest := [.ref (ad 21 o4)]) ⟨hx, hb, hml, hown, hts⟩ (mX9_yearNow l dC dI ac sa A ad τ3 k0 _ hF (tw_lt hk0 (congrFun hN 0))) (cwV 0 hts gX9_glass_X9_yearNow rfl rfl rfl (by decide +kernel) ⟨Nat.le_of_ble_eq_true rfl, Nat.le_of_ble_eq_true rfl⟩) ⟨BX.blind, tw_recv hK hP (by decide) (tw_lt hk0 (congrFun hN 0)) rfl rfl, fun U hU hW => ⟨rfl, BX.of hP hK hS hA hZ hU hW⟩⟩ rfl rfl hl.1 rfl (lv_room (Nat.le_of_ble_eq_true rfl)) dX9_glass_8 ⟨Nat.le_of_ble_eq_true rfl, Nat.le_of_ble_eq_true rfl⟩) hS (fun q _ h => h) (fun q h => h) (fun r6 τ5 t H locs ht hvm hw hB hz hk hS => ?_)
  obtain ⟨hF, hN9⟩ := hw
  have hP : PX dC dI ac A ad τ5 H := tw_back hB ht
  have hN : gN τ5 = gN τ0 := hN9.trans hN
  refine va_calli (va_runV (As := [.int r6]) (rest := []) ⟨hx, hb, hml, hown, hts⟩ (mX3_maySellIn l dC dI ac sa A ad τ5 o4 r6 _ hF (tw_lt ho4 (congrFun hN 21))) (cwV 1 hts gX9_glass_X3_maySellIn rfl rfl rfl (by decide +kernel) ⟨Nat.le_of_ble_eq_true rfl, Nat.le_of_ble_eq_true rfl⟩) ⟨BX.blind, tw_recv hK hP (by decide) (tw_lt ho4 (congrFun hN 21)) rfl rfl, fun U hU hW => ⟨rfl, BX.of hP hK hS hA hZ hU hW⟩⟩ rfl rfl hl.1 rfl (lv_room (Nat.le_of_ble_eq_true rfl)) dX9_glass_11 ⟨Nat.le_of_ble_eq_true rfl, Nat.le_of_ble_eq_true rfl⟩) hS (fun q _ h => h) (fun q h => h) (fun r8 τ7 t H locs ht hvm hw hB hz hk hS => ?_)
  obtain ⟨hF, hN9⟩ := hw
  have hP : PX dC dI ac A ad τ7 H := tw_back hB ht
  have hN : gN τ7 = gN τ0 := hN9.trans hN
  refine lv_if_ne (tgt := 19) hx hb dX9_glass_14 (by decide) (fun c9 => ?_) (fun c9 => ?_)
  · have hF := hF.1 c9
    refine lv_aload_n hx hb dX9_glass_19 rfl (lv_at hl 0 rfl) ?_
    refine va_calli (va_runV (As := []) (rest := []) ⟨hx, hb, hml, hown, hts⟩ (mX3_isOpen l dC dI ac sa A ad τ7 o4 _ hF (tw_lt ho4 (congrFun hN 21))) (cwV 0 hts gX9_glass_X3_isOpen rfl rfl rfl (by decide +kernel) ⟨Nat.le_of_ble_eq_true rfl, Nat.le_of_ble_eq_true rfl⟩) ⟨BX.blind, tw_recv hK hP (by decide) (tw_lt ho4 (congrFun hN 21)) rfl rfl, fun U hU hW => ⟨rfl, BX.of hP hK hS hA hZ hU hW⟩⟩ rfl rfl hl.1 rfl (lv_room (Nat.le_of_ble_eq_true rfl)) dX9_glass_20 ⟨Nat.le_of_ble_eq_true rfl, Nat.le_of_ble_eq_true rfl⟩) hS (fun q _ h => h) (fun q h => h) (fun r11 τ10 t H locs ht hvm hw hB hz hk hS => ?_)
    obtain ⟨hF, hN9⟩ := hw
    have hP : PX dC dI ac A ad τ10 H := tw_back hB ht
    have hN : gN τ10 = gN τ0 := hN9.trans hN
    refine lv_if_ne (tgt := 73) hx hb dX9_glass_23 (by decide) (fun c12 => ?_) (fun c12 => ?_)
    · have hF := hF.1 c12
      exact j73 τ10 k0 hk0 o4 ho4 _ _ _ hF hP hN hS (lv_sub hl [1, 0] rfl)
    · have hF := hF.2 c12
      refine lv_aload_n hx hb dX9_glass_26 rfl (lv_at hl 1 rfl) ?_
      obtain ⟨o13, eo13, hF⟩ := hF
      have ho13 : o13 < gN τ0 5 := tw_lt (hP.2.2.2 0 k0 4 o13 (by decide) (tw_lt hk0 (congrFun hN 0)) eo13) (congrFun hN 5).symm
      refine tw_get (v := .ref (ad 5 o13)) hx hb hts (by decide +kernel) hown hK hP (by decide) (tw_lt hk0 (congrFun hN 0)) rfl rfl 4 (by decide) (hts (.fieldLink RX9 36 "WineCellar" "rack" "LWineCellar$Rack;") (by decide +kernel)) (fun _ h9 => h9) (show some (va_rf ((gR τ10 0 k0 4).map (ad 5))) = some (.ref (ad 5 o13)) by rw [eo13]; rfl) dX9_glass_27 ?_
      refine lv_iload_n hx hb dX9_glass_30 rfl (lv_at hl 2 rfl) ?_
      refine lv_iconst (v := 0) hx hb dX9_glass_31 (by decide) ?_
      refine va_calli (va_runV (As := [.int x1, .int ((0 : Int32))]) (rest := []) ⟨hx, hb, hml, hown, hts⟩ (mX5_cellOf l dC dI ac sa A ad τ10 o13 x1 ((0 : Int32)) _ hF (tw_lt ho13 (congrFun hN 5))) (cwV 2 hts gX9_glass_X5_cellOf rfl rfl rfl (by decide +kernel) ⟨Nat.le_of_ble_eq_true rfl, Nat.le_of_ble_eq_true rfl⟩) ⟨BX.blind, tw_recv hK hP (by decide) (tw_lt ho13 (congrFun hN 5)) rfl rfl, fun U hU hW => ⟨rfl, BX.of hP hK hS hA hZ hU hW⟩⟩ rfl rfl hl.1 rfl (lv_room (Nat.le_of_ble_eq_true rfl)) dX9_glass_32 ⟨Nat.le_of_ble_eq_true rfl, Nat.le_of_ble_eq_true rfl⟩) hS (fun q _ h => h) (fun q h => h) (fun r15 τ14 t H locs ht hvm hw hB hz hk hS => ?_)
      obtain ⟨hF, hN9⟩ := hw
      have hP : PX dC dI ac A ad τ14 H := tw_back hB ht
      have hN : gN τ14 = gN τ0 := hN9.trans hN
      refine lv_istore_n (lv' := [(3, .int r15), (2, .ref (ad 21 o4)), (0, .ref (ad 0 k0)), (1, .int x1)]) hx hb dX9_glass_35 rfl hl (by decide) rfl (fun ls hl => ?_)
      refine lv_iload_n hx hb dX9_glass_36 rfl (lv_at hl 0 rfl) ?_
      refine lv_iconst (v := (-1)) hx hb dX9_glass_37 (by decide) ?_
      refine lv_icmp_ne (tgt := 44) hx hb dX9_glass_38 (by decide) (fun c16 => ?_) (fun c16 => ?_)
      · have hF := hF.1 c16
        refine lv_aload_n hx hb dX9_glass_44 rfl (lv_at hl 2 rfl) ?_
        refine va_calli (va_runV (As := []) (rest := []) ⟨hx, hb, hml, hown, hts⟩ (mX9_openBottles l dC dI ac sa A ad τ14 k0 _ hF (tw_lt hk0 (congrFun hN 0))) (cwV 0 hts gX9_glass_X9_openBottles rfl rfl rfl (by decide +kernel) ⟨Nat.le_of_ble_eq_true rfl, Nat.le_of_ble_eq_true rfl⟩) ⟨BX.blind, tw_recv hK hP (by decide) (tw_lt hk0 (congrFun hN 0)) rfl rfl, fun U hU hW => ⟨rfl, BX.of hP hK hS hA hZ hU hW⟩⟩ rfl rfl hl.1 rfl (lv_room (Nat.le_of_ble_eq_true rfl)) dX9_glass_45 ⟨Nat.le_of_ble_eq_true rfl, Nat.le_of_ble_eq_true rfl⟩) hS (fun q _ h => h) (fun q h => h) (fun r18 τ17 t H locs ht hvm hw hB hz hk hS => ?_)
        obtain ⟨hF, hN9⟩ := hw
        have hP : PX dC dI ac A ad τ17 H := tw_back hB ht
        have hN : gN τ17 = gN τ0 := hN9.trans hN
        refine lv_bipush (v := 60) hx hb dX9_glass_48 (by decide) ?_
        refine lv_icmp_lt (tgt := 56) hx hb dX9_glass_50 (by decide) (fun c19 => ?_) (fun c19 => ?_)
        · have hF := hF.1 c19
          refine lv_aload_n hx hb dX9_glass_56 rfl (lv_at hl 2 rfl) ?_
          obtain ⟨o20, eo20, hF⟩ := hF
          have ho20 : o20 < gN τ0 5 := tw_lt (hP.2.2.2 0 k0 4 o20 (by decide) (tw_lt hk0 (congrFun hN 0)) eo20) (congrFun hN 5).symm
          refine tw_get (v := .ref (ad 5 o20)) hx hb hts (by decide +kernel) hown hK hP (by decide) (tw_lt hk0 (congrFun hN 0)) rfl rfl 4 (by decide) (hts (.fieldLink RX9 36 "WineCellar" "rack" "LWineCellar$Rack;") (by decide +kernel)) (fun _ h9 => h9) (show some (va_rf ((gR τ17 0 k0 4).map (ad 5))) = some (.ref (ad 5 o20)) by rw [eo20]; rfl) dX9_glass_57 ?_
          refine lv_iload_n hx hb dX9_glass_60 rfl (lv_at hl 0 rfl) ?_
          refine lv_iconst (v := 1) hx hb dX9_glass_61 (by decide) ?_
          refine va_callv (va_runV (As := [.int r15, .int ((1 : Int32))]) (rest := []) ⟨hx, hb, hml, hown, hts⟩ (mX5_remove l dC dI ac sa A ad τ17 o20 r15 ((1 : Int32)) _ hF (tw_lt ho20 (congrFun hN 5))) (cwV 2 hts gX9_glass_X5_remove rfl rfl rfl (by decide +kernel) ⟨Nat.le_of_ble_eq_true rfl, Nat.le_of_ble_eq_true rfl⟩) ⟨BX.blind, tw_recv hK hP (by decide) (tw_lt ho20 (congrFun hN 5)) rfl rfl, fun U hU hW => ⟨rfl, BX.of hP hK hS hA hZ hU hW⟩⟩ rfl rfl hl.1 rfl (lv_room (Nat.le_of_ble_eq_true rfl)) dX9_glass_62 ⟨Nat.le_of_ble_eq_true rfl, Nat.le_of_ble_eq_true rfl⟩) hS (fun q _ h => h) (fun q h => h) (fun τ21 t H locs ht hvm hw hB hz hk hS => ?_)
          obtain ⟨hF, hN9⟩ := hw
          have hP : PX dC dI ac A ad τ21 H := tw_back hB ht
          have hN : gN τ21 = gN τ0 := hN9.trans hN
          refine lv_aload_n hx hb dX9_glass_65 rfl (lv_at hl 1 rfl) ?_
          refine lv_aload_n hx hb dX9_glass_66 rfl (lv_at hl 2 rfl) ?_
          refine tw_get (v := .int (gI τ21 0 k0 15)) hx hb hts (by decide +kernel) hown hK hP (by decide) (tw_lt hk0 (congrFun hN 0)) rfl rfl 15 (by decide) (hts (.fieldLink RX9 85 "WineCellar" "hour" "I") (by decide +kernel)) (fun _ h9 => h9) rfl dX9_glass_67 ?_
          refine va_callv (va_runV (As := [.int (gI τ21 0 k0 15)]) (rest := []) ⟨hx, hb, hml, hown, hts⟩ (mX3_open l dC dI ac sa A ad τ21 o4 (gI τ21 0 k0 15) _ hF (tw_lt ho4 (congrFun hN 21))) (cwV 1 hts gX9_glass_X3_open rfl rfl rfl (by decide +kernel) ⟨Nat.le_of_ble_eq_true rfl, Nat.le_of_ble_eq_true rfl⟩) ⟨BX.blind, tw_recv hK hP (by decide) (tw_lt ho4 (congrFun hN 21)) rfl rfl, fun U hU hW => ⟨rfl, BX.of hP hK hS hA hZ hU hW⟩⟩ rfl rfl hl.1 rfl (lv_room (Nat.le_of_ble_eq_true rfl)) dX9_glass_70 ⟨Nat.le_of_ble_eq_true rfl, Nat.le_of_ble_eq_true rfl⟩) hS (fun q _ h => h) (fun q h => h) (fun τ22 t H locs ht hvm hw hB hz hk hS => ?_)
          obtain ⟨hF, hN9⟩ := hw
          have hP : PX dC dI ac A ad τ22 H := tw_back hB ht
          have hN : gN τ22 = gN τ0 := hN9.trans hN
          exact j73 τ22 k0 hk0 o4 ho4 _ _ _ hF hP hN hS (lv_sub hl [2, 1] rfl)
        · have hF := hF.2 c19
          refine lv_bipush (v := (-3)) hx hb dX9_glass_53 (by decide) ?_
          exact vx_ret (W.iret (v := (-3 : Int32)) hx hb hr (fun t ht hW => ⟨⟨((-3 : Int32)), τ17, rfl, ⟨hF, hN⟩, tw_at hP ht⟩, hS.F ht⟩) hS.2.2 dX9_glass_55)
      · have hF := hF.2 c16
        refine lv_bipush (v := (-2)) hx hb dX9_glass_41 (by decide) ?_
        exact vx_ret (W.iret (v := (-2 : Int32)) hx hb hr (fun t ht hW => ⟨⟨((-2 : Int32)), τ14, rfl, ⟨hF, hN⟩, tw_at hP ht⟩, hS.F ht⟩) hS.2.2 dX9_glass_43)
  · have hF := hF.2 c9
    refine lv_iconst (v := (-1)) hx hb dX9_glass_17 (by decide) ?_
    exact vx_ret (W.iret (v := (-1 : Int32)) hx hb hr (fun t ht hW => ⟨⟨((-1 : Int32)), τ7, rfl, ⟨hF, hN⟩, tw_at hP ht⟩, hS.F ht⟩) hS.2.2 dX9_glass_18)
def F_X9_row (τ0 : tw_T) (k0 : Nat) (x1 : Int32) (x2 : Int32) (x3 : Int32) (Q : Int32 → tw_T → Prop) (X : Nat → tw_T → Prop) : Prop := F_X9_sheetWithRow τ0 k0 x1 x2 (fun (o2 : Nat) (τ1 : tw_T) => (F_X9_isWithin τ1 x3.toInt64 ((0 : Int64)) ((40 : Int64)) (fun (r4 : Int32) (τ3 : tw_T) => (((¬ r4 = 0 → (F_X6_renewRow τ3 o2 x2 x3 (fun (τ6 : tw_T) => (Q x3 τ6)))) ∧ (r4 = 0 → (Q ((-1 : Int32)) τ3))))))) X
def rmX9_row : Room := { frames := 7, cells := 1, slots := 6, locals := 104 }
set_option maxHeartbeats 4000000 in
set_option maxRecDepth 100000 in
theorem mX9_row (l : Launch) (hlt : l.stackTraces = false) (dC : Nat → ClassId) (dI : Nat → Nat → Nat) (ac : Nat → ClassId) (sa : Nat → Nat) (A : Nat → Prop) (ad : Nat → Nat → Nat) (τ0 : tw_T) (k0 : Nat) (x1 : Int32) (x2 : Int32) (x3 : Int32) (Q : Int32 → tw_T → Prop) (X : Nat → tw_T → Prop) (hF : F_X9_row τ0 k0 x1 x2 x3 Q X) (hk0 : k0 < gN τ0 0) : vx_Met l yX9_row wsX9_row rmX9_row (va_Pc [.ref (ad 0 k0), .int x1, .int x2, .int x3] (BX dC dI ac sa A ad τ0)) (va_Qi (fun r (u : tw_T) => Q r u ∧ gN u = gN τ0) (fun u t => PX dC dI ac A ad u t.heap) A) (vx_X (fun (u : Nat × tw_T) => X u.1 u.2 ∧ gN u.2 = gN τ0) (fun E u t => E = exn u.1 ∧ PX dC dI ac A ad u.2 t.heap) A) 1 6 A := by
  refine vx_ofW (cc := cX9_row) (maxL := 5) (ret := (some .int)) (by decide) rfl ?_
  intro p e s m args below meth c s₁ B hml htab hv
  obtain ⟨rfl, hP, hK, hA, hZ⟩ := hv
  have hx := B.exec
  have hb := B.bytes
  have hr := B.returns
  have hts := atoms_spec (ws := wsX9_row) B.pre
  have hown : s.vm.findClass RX9 = some m.cls := findClass_of_methodNamed B.named
  have hlocks := B.notSynchronized
  have hS : va_S A s.heap s.heap [] := va_S.rf
  have hN : gN τ0 = gN τ0 := rfl
  have hl := lv_entry ([.ref (ad 0 k0), .int x1, .int x2, .int x3]) (n := 5) (Nat.le_of_ble_eq_true rfl)
  rw [lg_entry_eq]
  generalize (lg_sl ([.ref (ad 0 k0), .int x1, .int x2, .int x3]) ++ List.replicate (5 - (lg_sl ([.ref (ad 0 k0), .int x1, .int x2, .int x3])).length) Slot.unset).toArray = ls at hl ⊢
  have hl : lv_has ls 5 [(0, .ref (ad 0 k0)), (1, .int x1), (2, .int x2), (3, .int x3)] := hl
  unfold F_X9_row at hF
  refine lv_aload_n hx hb dX9_row_0 rfl (lv_at hl 0 rfl) ?_
  refine lv_iload_n hx hb dX9_row_1 rfl (lv_at hl 1 rfl) ?_
  refine lv_iload_n hx hb dX9_row_2 rfl (lv_at hl 2 rfl) ?_
  refine vx_callr (vx_runV (As := [.int x1, .int x2]) (rest := []) ⟨hx, hb, hml, hown, hts⟩ (mX9_sheetWithRow l hlt dC dI ac sa A ad τ0 k0 x1 x2 _ _ hF hk0) (cwV 2 hts gX9_row_X9_sheetWithRow rfl rfl rfl (by decide +kernel) ⟨Nat.le_of_ble_eq_true rfl, Nat.le_of_ble_eq_true rfl⟩) ⟨BX.blind, tw_recv hK hP (by decide) hk0 rfl rfl, fun U hU hW => ⟨rfl, BX.of hP hK hS hA hZ hU hW⟩⟩ rfl rfl hl.1 rfl (lv_room (Nat.le_of_ble_eq_true rfl)) dX9_row_3 ⟨Nat.le_of_ble_eq_true rfl, Nat.le_of_ble_eq_true rfl⟩) hS (fun q _ h => h) (fun q h => h) (fun q _ h => h) (fun E9 ce9 q9 u9 t9 H locs ht hvm hpx hBX hz9 hk9 hS hce hcv hcl => ?_) (fun u9 ra9 t H locs ht hvm hw hB hz hk hS => ?_)
  · obtain ⟨ec9, τ9⟩ := u9
    obtain ⟨hF9, hN9⟩ := hpx
    obtain ⟨rfl, hP9⟩ := hBX
    exact vx_out (fun x9 hx9 => (htab x9 hx9).elim) hlocks hce hcv hcl (fun t2 ht2 hvm2 => ⟨(ec9, τ9), ⟨hF9, hN9.trans hN⟩, ⟨rfl, tw_at (tw_back hP9 ht) ht2⟩, hS.F ht2⟩) hS.2.2 (by decide) (by decide)
  obtain ⟨τ1, o2⟩ := u9
  obtain ⟨hF, ho2, hN9⟩ := hw
  obtain ⟨rfl, hB⟩ := hB
  try dsimp only at hF ho2 hN9 hB ⊢
  have ho2 : o2 < gN τ0 23 := tw_lt ho2 (congrFun hN 23).symm
  have hP : PX dC dI ac A ad τ1 H := tw_back hB ht
  have hN : gN τ1 = gN τ0 := hN9.trans hN
  refine lv_astore (lv' := [(4, .ref (ad 23 o2)), (0, .ref (ad 0 k0)), (1, .int x1), (2, .int x2), (3, .int x3)]) hx hb dX9_row_6 hl (by decide) rfl (fun ls hl => ?_)
  refine lv_iload_n hx hb dX9_row_8 rfl (lv_at hl 4 rfl) ?_
  refine lv_i2l (v := x3.toInt64) hx hb dX9_row_9 rfl ?_
  refine lv_lconst (v := 0) hx hb dX9_row_10 (by decide) ?_
  refine lv_ldc2 (v := 40) hx hb hown (hts (.constantLong RX9 313 40) (by decide +kernel)) dX9_row_11 ?_
  refine va_calli (va_runS (As := [.long x3.toInt64, .long ((0 : Int64)), .long ((40 : Int64))]) (rest := []) ⟨hx, hb, hml, hown, hts⟩ (mX9_isWithin l dC dI ac sa A ad τ1 x3.toInt64 ((0 : Int64)) ((40 : Int64)) _ hF ) (va_cwS 3 hts gX9_row_X9_isWithin rfl rfl rfl (by decide +kernel) ⟨Nat.le_of_ble_eq_true rfl, Nat.le_of_ble_eq_true rfl⟩) ⟨BX.blind, fun U hU hW => ⟨rfl, BX.of hP hK hS hA hZ hU hW⟩⟩ rfl rfl hl.1 rfl (lv_room (Nat.le_of_ble_eq_true rfl)) dX9_row_14 ⟨Nat.le_of_ble_eq_true rfl, Nat.le_of_ble_eq_true rfl⟩) hS (fun q _ h => h) (fun q h => h) (fun r4 τ3 t H locs ht hvm hw hB hz hk hS => ?_)
  obtain ⟨hF, hN9⟩ := hw
  have hP : PX dC dI ac A ad τ3 H := tw_back hB ht
  have hN : gN τ3 = gN τ0 := hN9.trans hN
  refine lv_if_ne (tgt := 22) hx hb dX9_row_17 (by decide) (fun c5 => ?_) (fun c5 => ?_)
  · have hF := hF.1 c5
    refine lv_aload hx hb dX9_row_22 (lv_at hl 0 rfl) ?_
    refine lv_iload_n hx hb dX9_row_24 rfl (lv_at hl 3 rfl) ?_
    refine lv_iload_n hx hb dX9_row_25 rfl (lv_at hl 4 rfl) ?_
    refine va_callv (va_runV (As := [.int x2, .int x3]) (rest := []) ⟨hx, hb, hml, hown, hts⟩ (mX6_renewRow l dC dI ac sa A ad τ3 o2 x2 x3 _ hF (tw_lt ho2 (congrFun hN 23))) (cwV 2 hts gX9_row_X6_renewRow rfl rfl rfl (by decide +kernel) ⟨Nat.le_of_ble_eq_true rfl, Nat.le_of_ble_eq_true rfl⟩) ⟨BX.blind, tw_recv hK hP (by decide) (tw_lt ho2 (congrFun hN 23)) rfl rfl, fun U hU hW => ⟨rfl, BX.of hP hK hS hA hZ hU hW⟩⟩ rfl rfl hl.1 rfl (lv_room (Nat.le_of_ble_eq_true rfl)) dX9_row_26 ⟨Nat.le_of_ble_eq_true rfl, Nat.le_of_ble_eq_true rfl⟩) hS (fun q _ h => h) (fun q h => h) (fun τ6 t H locs ht hvm hw hB hz hk hS => ?_)
    obtain ⟨hF, hN9⟩ := hw
    have hP : PX dC dI ac A ad τ6 H := tw_back hB ht
    have hN : gN τ6 = gN τ0 := hN9.trans hN
    refine lv_iload_n hx hb dX9_row_29 rfl (lv_at hl 4 rfl) ?_
    exact vx_ret (W.iret (v := x3) hx hb hr (fun t ht hW => ⟨⟨x3, τ6, rfl, ⟨hF, hN⟩, tw_at hP ht⟩, hS.F ht⟩) hS.2.2 dX9_row_30)
  · have hF := hF.2 c5
    refine lv_iconst (v := (-1)) hx hb dX9_row_20 (by decide) ?_
    exact vx_ret (W.iret (v := (-1 : Int32)) hx hb hr (fun t ht hW => ⟨⟨((-1 : Int32)), τ3, rfl, ⟨hF, hN⟩, tw_at hP ht⟩, hS.F ht⟩) hS.2.2 dX9_row_21)
def F_X9_set (τ0 : tw_T) (k0 : Nat) (x1 : Int32) (x2 : Int32) (x3 : Int32) (x4 : Int64) (Q : Int32 → tw_T → Prop) (X : Nat → tw_T → Prop) : Prop := F_X9_sheetWithRow τ0 k0 x1 x2 (fun (o2 : Nat) (τ1 : tw_T) => (∃ o3 : Nat, gR τ1 23 o2 1 = some o3 ∧ (vp_in x2 10 ∧ (((¬ (gI τ1 35 o3 x2.toNatClampNeg) = ((-1 : Int32)) → (((x3 < 0 → (Q ((-2 : Int32)) τ1)) ∧ (¬ x3 < 0 → (∃ o7 : Nat, gR τ1 23 o2 1 = some o7 ∧ (vp_in x2 10 ∧ (((x3 < (gI τ1 35 o7 x2.toNatClampNeg) → (∃ o10 : Nat, gR τ1 23 o2 0 = some o10 ∧ (vp_in x2 10 ∧ (∃ o11 : Nat, gR τ1 34 o10 x2.toNatClampNeg = some o11 ∧ (F_X6_lowestBits τ1 o2 x4 (fun (r14 : Int64) (τ13 : tw_T) => (vp_in x3 40 ∧ (∀ τ16 : tw_T, τ16 = sJ τ13 36 o11 x3.toNatClampNeg r14 → (Q ((1 : Int32)) τ16))))))))) ∧ (¬ x3 < (gI τ1 35 o7 x2.toNatClampNeg) → (Q ((-2 : Int32)) τ1)))))))))) ∧ ((gI τ1 35 o3 x2.toNatClampNeg) = ((-1 : Int32)) → (Q ((-1 : Int32)) τ1))))))) X
def rmX9_set : Room := { frames := 7, cells := 1, slots := 6, locals := 104 }
set_option maxHeartbeats 4000000 in
set_option maxRecDepth 100000 in
theorem mX9_set (l : Launch) (hlt : l.stackTraces = false) (dC : Nat → ClassId) (dI : Nat → Nat → Nat) (ac : Nat → ClassId) (sa : Nat → Nat) (A : Nat → Prop) (ad : Nat → Nat → Nat) (τ0 : tw_T) (k0 : Nat) (x1 : Int32) (x2 : Int32) (x3 : Int32) (x4 : Int64) (Q : Int32 → tw_T → Prop) (X : Nat → tw_T → Prop) (hF : F_X9_set τ0 k0 x1 x2 x3 x4 Q X) (hk0 : k0 < gN τ0 0) : vx_Met l yX9_set wsX9_set rmX9_set (va_Pc [.ref (ad 0 k0), .int x1, .int x2, .int x3, .long x4] (BX dC dI ac sa A ad τ0)) (va_Qi (fun r (u : tw_T) => Q r u ∧ gN u = gN τ0) (fun u t => PX dC dI ac A ad u t.heap) A) (vx_X (fun (u : Nat × tw_T) => X u.1 u.2 ∧ gN u.2 = gN τ0) (fun E u t => E = exn u.1 ∧ PX dC dI ac A ad u.2 t.heap) A) 1 6 A := by
  refine vx_ofW (cc := cX9_set) (maxL := 7) (ret := (some .int)) (by decide) rfl ?_
  intro p e s m args below meth c s₁ B hml htab hv
  obtain ⟨rfl, hP, hK, hA, hZ⟩ := hv
  have hx := B.exec
  have hb := B.bytes
  have hr := B.returns
  have hts := atoms_spec (ws := wsX9_set) B.pre
  have hown : s.vm.findClass RX9 = some m.cls := findClass_of_methodNamed B.named
  have hlocks := B.notSynchronized
  have hS : va_S A s.heap s.heap [] := va_S.rf
  have hN : gN τ0 = gN τ0 := rfl
  have hl := lv_entry ([.ref (ad 0 k0), .int x1, .int x2, .int x3, .long x4]) (n := 7) (Nat.le_of_ble_eq_true rfl)
  rw [lg_entry_eq]
  generalize (lg_sl ([.ref (ad 0 k0), .int x1, .int x2, .int x3, .long x4]) ++ List.replicate (7 - (lg_sl ([.ref (ad 0 k0), .int x1, .int x2, .int x3, .long x4])).length) Slot.unset).toArray = ls at hl ⊢
  have hl : lv_has ls 7 [(0, .ref (ad 0 k0)), (1, .int x1), (2, .int x2), (3, .int x3), (4, .long x4)] := hl
  unfold F_X9_set at hF
  refine lv_aload_n hx hb dX9_set_0 rfl (lv_at hl 0 rfl) ?_
  refine lv_iload_n hx hb dX9_set_1 rfl (lv_at hl 1 rfl) ?_
  refine lv_iload_n hx hb dX9_set_2 rfl (lv_at hl 2 rfl) ?_
  refine vx_callr (vx_runV (As := [.int x1, .int x2]) (rest := []) ⟨hx, hb, hml, hown, hts⟩ (mX9_sheetWithRow l hlt dC dI ac sa A ad τ0 k0 x1 x2 _ _ hF hk0) (cwV 2 hts gX9_set_X9_sheetWithRow rfl rfl rfl (by decide +kernel) ⟨Nat.le_of_ble_eq_true rfl, Nat.le_of_ble_eq_true rfl⟩) ⟨BX.blind, tw_recv hK hP (by decide) hk0 rfl rfl, fun U hU hW => ⟨rfl, BX.of hP hK hS hA hZ hU hW⟩⟩ rfl rfl hl.1 rfl (lv_room (Nat.le_of_ble_eq_true rfl)) dX9_set_3 ⟨Nat.le_of_ble_eq_true rfl, Nat.le_of_ble_eq_true rfl⟩) hS (fun q _ h => h) (fun q h => h) (fun q _ h => h) (fun E9 ce9 q9 u9 t9 H locs ht hvm hpx hBX hz9 hk9 hS hce hcv hcl => ?_) (fun u9 ra9 t H locs ht hvm hw hB hz hk hS => ?_)
  · obtain ⟨ec9, τ9⟩ := u9
    obtain ⟨hF9, hN9⟩ := hpx
    obtain ⟨rfl, hP9⟩ := hBX
    exact vx_out (fun x9 hx9 => (htab x9 hx9).elim) hlocks hce hcv hcl (fun t2 ht2 hvm2 => ⟨(ec9, τ9), ⟨hF9, hN9.trans hN⟩, ⟨rfl, tw_at (tw_back hP9 ht) ht2⟩, hS.F ht2⟩) hS.2.2 (by decide) (by decide)
  obtain ⟨τ1, o2⟩ := u9
  obtain ⟨hF, ho2, hN9⟩ := hw
  obtain ⟨rfl, hB⟩ := hB
  try dsimp only at hF ho2 hN9 hB ⊢
  have ho2 : o2 < gN τ0 23 := tw_lt ho2 (congrFun hN 23).symm
  have hP : PX dC dI ac A ad τ1 H := tw_back hB ht
  have hN : gN τ1 = gN τ0 := hN9.trans hN
  refine lv_astore (lv' := [(6, .ref (ad 23 o2)), (0, .ref (ad 0 k0)), (1, .int x1), (2, .int x2), (3, .int x3), (4, .long x4)]) hx hb dX9_set_6 hl (by decide) rfl (fun ls hl => ?_)
  refine lv_aload hx hb dX9_set_8 (lv_at hl 0 rfl) ?_
  obtain ⟨o3, eo3, hF⟩ := hF
  have ho3 : o3 < gN τ0 35 := tw_lt (hP.2.2.2 23 o2 1 o3 (by decide) (tw_lt ho2 (congrFun hN 23)) eo3) (congrFun hN 35).symm
  refine tw_get (v := .ref (ad 35 o3)) hx hb hts (by decide +kernel) hown hK hP (by decide) (tw_lt ho2 (congrFun hN 23)) rfl rfl 1 (by decide) (hts (.fieldLink RX9 318 "WineCellar$Sheet" "lengths" "[I") (by decide +kernel)) (fun _ h9 => h9) (show some (va_rf ((gR τ1 23 o2 1).map (ad 35))) = some (.ref (ad 35 o3)) by rw [eo3]; rfl) dX9_set_10 ?_
  refine lv_iload_n hx hb dX9_set_13 rfl (lv_at hl 3 rfl) ?_
  obtain ⟨hi4, hF⟩ := hF
  refine tw_iald hx hb hK hP (by decide) (tw_lt ho3 (congrFun hN 35)) rfl 0 rfl hi4 dX9_set_14 ?_
  refine lv_iconst (v := (-1)) hx hb dX9_set_15 (by decide) ?_
  refine lv_icmp_ne (tgt := 21) hx hb dX9_set_16 (by decide) (fun c5 => ?_) (fun c5 => ?_)
  · have hF := hF.1 c5
    refine lv_iload_n hx hb dX9_set_21 rfl (lv_at hl 4 rfl) ?_
    refine lv_if_lt (tgt := 36) hx hb dX9_set_22 (by decide) (fun c6 => ?_) (fun c6 => ?_)
    · have hF := hF.1 c6
      refine lv_bipush (v := (-2)) hx hb dX9_set_36 (by decide) ?_
      exact vx_ret (W.iret (v := (-2 : Int32)) hx hb hr (fun t ht hW => ⟨⟨((-2 : Int32)), τ1, rfl, ⟨hF, hN⟩, tw_at hP ht⟩, hS.F ht⟩) hS.2.2 dX9_set_38)
    · have hF := hF.2 c6
      refine lv_iload_n hx hb dX9_set_25 rfl (lv_at hl 4 rfl) ?_
      refine lv_aload hx hb dX9_set_26 (lv_at hl 0 rfl) ?_
      obtain ⟨o7, eo7, hF⟩ := hF
      have ho7 : o7 < gN τ0 35 := tw_lt (hP.2.2.2 23 o2 1 o7 (by decide) (tw_lt ho2 (congrFun hN 23)) eo7) (congrFun hN 35).symm
      refine tw_get (v := .ref (ad 35 o7)) hx hb hts (by decide +kernel) hown hK hP (by decide) (tw_lt ho2 (congrFun hN 23)) rfl rfl 1 (by decide) (hts (.fieldLink RX9 318 "WineCellar$Sheet" "lengths" "[I") (by decide +kernel)) (fun _ h9 => h9) (show some (va_rf ((gR τ1 23 o2 1).map (ad 35))) = some (.ref (ad 35 o7)) by rw [eo7]; rfl) dX9_set_28 ?_
      refine lv_iload_n hx hb dX9_set_31 rfl (lv_at hl 3 rfl) ?_
      obtain ⟨hi8, hF⟩ := hF
      refine tw_iald hx hb hK hP (by decide) (tw_lt ho7 (congrFun hN 35)) rfl 0 rfl hi8 dX9_set_32 ?_
      refine lv_icmp_lt (tgt := 39) hx hb dX9_set_33 (by decide) (fun c9 => ?_) (fun c9 => ?_)
      · have hF := hF.1 c9
        refine lv_aload hx hb dX9_set_39 (lv_at hl 0 rfl) ?_
        obtain ⟨o10, eo10, hF⟩ := hF
        have ho10 : o10 < gN τ0 34 := tw_lt (hP.2.2.2 23 o2 0 o10 (by decide) (tw_lt ho2 (congrFun hN 23)) eo10) (congrFun hN 34).symm
        refine tw_get (v := .ref (ad 34 o10)) hx hb hts (by decide +kernel) hown hK hP (by decide) (tw_lt ho2 (congrFun hN 23)) rfl rfl 0 (by decide) (hts (.fieldLink RX9 321 "WineCellar$Sheet" "rows" "[[J") (by decide +kernel)) (fun _ h9 => h9) (show some (va_rf ((gR τ1 23 o2 0).map (ad 34))) = some (.ref (ad 34 o10)) by rw [eo10]; rfl) dX9_set_41 ?_
        refine lv_iload_n hx hb dX9_set_44 rfl (lv_at hl 3 rfl) ?_
        obtain ⟨hi12, o11, eo11, hF⟩ := hF
        have ho11 : o11 < gN τ0 36 := tw_lt (hP.2.2.2 34 o10 _ o11 (by decide) (tw_lt ho10 (congrFun hN 34)) eo11) (congrFun hN 36).symm
        refine tw_aald hx hb hK hP (by decide) (tw_lt ho10 (congrFun hN 34)) rfl 9 rfl rfl (fun _ => rfl) hi12 dX9_set_45 ?_
        refine W.eq (g2 := F0 m 46 ls [.ref (ad 36 o11)]) (by rw [eo11]; rfl) ?_
        refine lv_iload_n hx hb dX9_set_46 rfl (lv_at hl 4 rfl) ?_
        refine lv_aload hx hb dX9_set_47 (lv_at hl 0 rfl) ?_
        refine lv_lload hx hb dX9_set_49 (lv_at hl 5 rfl) ?_
        refine va_calll (va_runV (As := [.long x4]) (rest := [.int x3, .ref (ad 36 o11)]) ⟨hx, hb, hml, hown, hts⟩ (mX6_lowestBits l dC dI ac sa A ad τ1 o2 x4 _ hF (tw_lt ho2 (congrFun hN 23))) (cwV 1 hts gX9_set_X6_lowestBits rfl rfl rfl (by decide +kernel) ⟨Nat.le_of_ble_eq_true rfl, Nat.le_of_ble_eq_true rfl⟩) ⟨BX.blind, tw_recv hK hP (by decide) (tw_lt ho2 (congrFun hN 23)) rfl rfl, fun U hU hW => ⟨rfl, BX.of hP hK hS hA hZ hU hW⟩⟩ rfl rfl hl.1 rfl (lv_room (Nat.le_of_ble_eq_true rfl)) dX9_set_51 ⟨Nat.le_of_ble_eq_true rfl, Nat.le_of_ble_eq_true rfl⟩) hS (fun q _ h => h) (fun q h => h) (fun r14 τ13 t H locs ht hvm hw hB hz hk hS => ?_)
        obtain ⟨hF, hN9⟩ := hw
        have hP : PX dC dI ac A ad τ13 H := tw_back hB ht
        have hN : gN τ13 = gN τ0 := hN9.trans hN
        obtain ⟨hi15, hF⟩ := hF
        refine tw_last hx hb hK hP hS (by decide) (tw_lt ho11 (congrFun hN 36)) rfl 1 rfl hi15 dX9_set_54 (fun H locs hP hS => ?_)
        obtain ⟨τ16, eτ16⟩ : ∃ y : tw_T, y = sJ τ13 36 o11 x3.toNatClampNeg r14 := ⟨_, rfl⟩
        have hF := hF τ16 eτ16
        rw [← eτ16] at hP
        have hN : gN τ16 = gN τ0 := by rw [eτ16]; exact hN
        refine lv_iconst (v := 1) hx hb dX9_set_55 (by decide) ?_
        exact vx_ret (W.iret (v := (1 : Int32)) hx hb hr (fun t ht hW => ⟨⟨((1 : Int32)), τ16, rfl, ⟨hF, hN⟩, tw_at hP ht⟩, hS.F ht⟩) hS.2.2 dX9_set_56)
      · have hF := hF.2 c9
        refine lv_bipush (v := (-2)) hx hb dX9_set_36 (by decide) ?_
        exact vx_ret (W.iret (v := (-2 : Int32)) hx hb hr (fun t ht hW => ⟨⟨((-2 : Int32)), τ1, rfl, ⟨hF, hN⟩, tw_at hP ht⟩, hS.F ht⟩) hS.2.2 dX9_set_38)
  · have hF := hF.2 c5
    refine lv_iconst (v := (-1)) hx hb dX9_set_19 (by decide) ?_
    exact vx_ret (W.iret (v := (-1 : Int32)) hx hb hr (fun t ht hW => ⟨⟨((-1 : Int32)), τ1, rfl, ⟨hF, hN⟩, tw_at hP ht⟩, hS.F ht⟩) hS.2.2 dX9_set_20)
def J_X9_plan_106 (τ : tw_T) (p0 : Nat) (u3 : Int32) (u4 : Int32) (Q : Int32 → tw_T → Prop) (X : Nat → tw_T → Prop) (RC EX : tw_T → Int32 → Int32 → Prop) : Prop := ∀ z1 : Int32, z1 = u4 + (1 : Int32) → (RC τ u3 z1)
def L_X9_plan_53 (p0 : Nat) (Q : Int32 → tw_T → Prop) (X : Nat → tw_T → Prop) (EX : tw_T → Int32 → Int32 → Prop) : Nat → tw_T → Int32 → Int32 → Prop
  | 0, _, _, _ => False
  | n + 1, τ, u3, u4 => ((((30 : Int32)) ≤ u4 → (EX τ u3 u4)) ∧ (¬ ((30 : Int32)) ≤ u4 → (∃ o3 : Nat, gR τ 0 p0 4 = some o3 ∧ (F_X5_isEmpty τ o3 u4 (fun (r5 : Int32) (τ4 : tw_T) => (((¬ r5 = 0 → (J_X9_plan_106 τ4 p0 u3 u4 Q X (fun t v3 v4 => L_X9_plan_53 p0 Q X EX n t v3 v4) EX)) ∧ (r5 = 0 → (∃ o7 : Nat, gR τ4 0 p0 7 = some o7 ∧ (∃ o8 : Nat, gR τ4 0 p0 4 = some o8 ∧ (∃ o9 : Nat, gR τ4 5 o8 0 = some o9 ∧ (vp_in u4 30 ∧ (F_X9_lotAt τ4 p0 (gI τ4 12 o9 u4.toNatClampNeg) (fun (o12 : Nat) (τ11 : tw_T) => (∃ o13 : Nat, gR τ11 0 p0 4 = some o13 ∧ (∃ o14 : Nat, gR τ11 5 o13 1 = some o14 ∧ (vp_in u4 30 ∧ (F_X4_gainOf τ11 o7 o12 (gI τ11 13 o14 u4.toNatClampNeg) (fun (r17 : Int32) (τ16 : tw_T) => (∀ z18 : Int32, z18 = u3 + r17 → (J_X9_plan_106 τ16 p0 z18 u4 Q X (fun t v3 v4 => L_X9_plan_53 p0 Q X EX n t v3 v4) EX)))))))) (fun _ _ => False))))))))))))))
def F_X9_plan (τ0 : tw_T) (k0 : Nat) (x1 : Int32) (x2 : Int32) (Q : Int32 → tw_T → Prop) (X : Nat → tw_T → Prop) : Prop := F_X9_isWithin τ0 x1.toInt64 ((1 : Int64)) ((6 : Int64)) (fun (r20 : Int32) (τ19 : tw_T) => (((r20 = 0 → (X 0 τ19)) ∧ (¬ r20 = 0 → (F_X9_isWithin τ19 x2.toInt64 ((0 : Int64)) ((100 : Int64)) (fun (r23 : Int32) (τ22 : tw_T) => (((¬ r23 = 0 → (∃ o25 : Nat, gR τ22 0 k0 7 = some o25 ∧ (F_X9_yearNow τ22 k0 (fun (r27 : Int32) (τ26 : tw_T) => (F_X4_start τ26 o25 r27 x1 x2 (fun (τ28 : tw_T) => (∃ n29 : Nat, L_X9_plan_53 k0 Q X (fun (τ30 : tw_T) (z31 : Int32) (z32 : Int32) => Q z31 τ30) n29 τ28 ((0 : Int32)) ((0 : Int32))))))))) ∧ (r23 = 0 → (X 0 τ22))))))))))
def rmX9_plan : Room := { frames := 6, cells := 1, slots := 6, locals := 97 }
set_option maxHeartbeats 4000000 in
set_option maxRecDepth 100000 in
theorem mX9_plan (l : Launch) (hlt : l.stackTraces = false) (dC : Nat → ClassId) (dI : Nat → Nat → Nat) (ac : Nat → ClassId) (sa : Nat → Nat) (A : Nat → Prop) (ad : Nat → Nat → Nat) (τ0 : tw_T) (k0 : Nat) (x1 : Int32) (x2 : Int32) (Q : Int32 → tw_T → Prop) (X : Nat → tw_T → Prop) (hF : F_X9_plan τ0 k0 x1 x2 Q X) (hk0 : k0 < gN τ0 0) : vx_Met l yX9_plan wsX9_plan rmX9_plan (va_Pc [.ref (ad 0 k0), .int x1, .int x2] (BX dC dI ac sa A ad τ0)) (va_Qi (fun r (u : tw_T) => Q r u ∧ gN u = gN τ0) (fun u t => PX dC dI ac A ad u t.heap) A) (vx_X (fun (u : Nat × tw_T) => X u.1 u.2 ∧ gN u.2 = gN τ0) (fun E u t => E = exn u.1 ∧ PX dC dI ac A ad u.2 t.heap) A) 1 6 A := by
  refine vx_ofW (cc := cX9_plan) (maxL := 5) (ret := (some .int)) (by decide) rfl ?_
  intro p e s m args below meth c s₁ B hml htab hv
  obtain ⟨rfl, hP, hK, hA, hZ⟩ := hv
  have hx := B.exec
  have hb := B.bytes
  have hr := B.returns
  have hts := atoms_spec (ws := wsX9_plan) B.pre
  have hown : s.vm.findClass RX9 = some m.cls := findClass_of_methodNamed B.named
  have hlocks := B.notSynchronized
  have hS : va_S A s.heap s.heap [] := va_S.rf
  have hN : gN τ0 = gN τ0 := rfl
  have hl := lv_entry ([.ref (ad 0 k0), .int x1, .int x2]) (n := 5) (Nat.le_of_ble_eq_true rfl)
  rw [lg_entry_eq]
  generalize (lg_sl ([.ref (ad 0 k0), .int x1, .int x2]) ++ List.replicate (5 - (lg_sl ([.ref (ad 0 k0), .int x1, .int x2])).length) Slot.unset).toArray = ls at hl ⊢
  have hl : lv_has ls 5 [(0, .ref (ad 0 k0)), (1, .int x1), (2, .int x2)] := hl
  unfold F_X9_plan at hF
  have l53 : ∀ (p0 : Nat) (hp0 : p0 < gN τ0 0) (EX : tw_T → Int32 → Int32 → Prop) (n : Nat) (τ : tw_T) (u3 : Int32) (u4 : Int32) (H : Heap) (locs : List Loc) (ls : Array Slot), L_X9_plan_53 p0 Q X EX n τ u3 u4 → PX dC dI ac A ad τ H → gN τ = gN τ0 → va_S A s.heap H locs → lv_has ls 5 [(0, .ref (ad 0 p0)), (3, .int u3), (4, .int u4)] → (∀ (τ : tw_T) (u3 : Int32) (u4 : Int32) (H : Heap) (locs : List Loc) (ls : Array Slot), EX τ u3 u4 → PX dC dI ac A ad τ H → gN τ = gN τ0 → va_S A s.heap H locs → lv_has ls 5 [(0, .ref (ad 0 p0)), (3, .int u3), (4, .int u4)] → W p l e rmX9_plan s m ([.ref (ad 0 k0), .int x1, .int x2] : List Value).toArray below meth c H locs 0 0 (vx_MQ below (va_Qi (fun r (u : tw_T) => Q r u ∧ gN u = gN τ0) (fun u t => PX dC dI ac A ad u t.heap) A) (vx_X (fun (u : Nat × tw_T) => X u.1 u.2 ∧ gN u.2 = gN τ0) (fun E u t => E = exn u.1 ∧ PX dC dI ac A ad u.2 t.heap) A) ([.ref (ad 0 k0), .int x1, .int x2] : List Value).toArray s 1 6 A) (F0 m 112 ls [])) → W p l e rmX9_plan s m ([.ref (ad 0 k0), .int x1, .int x2] : List Value).toArray below meth c H locs 0 0 (vx_MQ below (va_Qi (fun r (u : tw_T) => Q r u ∧ gN u = gN τ0) (fun u t => PX dC dI ac A ad u t.heap) A) (vx_X (fun (u : Nat × tw_T) => X u.1 u.2 ∧ gN u.2 = gN τ0) (fun E u t => E = exn u.1 ∧ PX dC dI ac A ad u.2 t.heap) A) ([.ref (ad 0 k0), .int x1, .int x2] : List Value).toArray s 1 6 A) (F0 m 53 ls []) := by
    intro p0 hp0 EX n
    induction n with
    | zero => intro τ u3 u4 H locs ls hF; exact hF.elim
    | succ n ih =>
      intro τ u3 u4 H locs ls hF hP hN hS hl hEX
      rw [L_X9_plan_53] at hF
      have j106 : ∀ (τ : tw_T) (p0 : Nat) (hp0 : p0 < gN τ0 0) (u3 : Int32) (u4 : Int32) (H : Heap) (locs : List Loc) (ls : Array Slot) (RC EX : tw_T → Int32 → Int32 → Prop), J_X9_plan_106 τ p0 u3 u4 Q X RC EX → PX dC dI ac A ad τ H → gN τ = gN τ0 → va_S A s.heap H locs → lv_has ls 5 [(0, .ref (ad 0 p0)), (3, .int u3), (4, .int u4)] → (∀ (τ : tw_T) (u3 : Int32) (u4 : Int32) (H : Heap) (locs : List Loc) (ls : Array Slot), RC τ u3 u4 → PX dC dI ac A ad τ H → gN τ = gN τ0 → va_S A s.heap H locs → lv_has ls 5 [(0, .ref (ad 0 p0)), (3, .int u3), (4, .int u4)] → W p l e rmX9_plan s m ([.ref (ad 0 k0), .int x1, .int x2] : List Value).toArray below meth c H locs 0 0 (vx_MQ below (va_Qi (fun r (u : tw_T) => Q r u ∧ gN u = gN τ0) (fun u t => PX dC dI ac A ad u t.heap) A) (vx_X (fun (u : Nat × tw_T) => X u.1 u.2 ∧ gN u.2 = gN τ0) (fun E u t => E = exn u.1 ∧ PX dC dI ac A ad u.2 t.heap) A) ([.ref (ad 0 k0), .int x1, .int x2] : List Value).toArray s 1 6 A) (F0 m 53 ls [])) → (∀ (τ : tw_T) (u3 : Int32) (u4 : Int32) (H : Heap) (locs : List Loc) (ls : Array Slot), EX τ u3 u4 → PX dC dI ac A ad τ H → gN τ = gN τ0 → va_S A s.heap H locs → lv_has ls 5 [(0, .ref (ad 0 p0)), (3, .int u3), (4, .int u4)] → W p l e rmX9_plan s m ([.ref (ad 0 k0), .int x1, .int x2] : List Value).toArray below meth c H locs 0 0 (vx_MQ below (va_Qi (fun r (u : tw_T) => Q r u ∧ gN u = gN τ0) (fun u t => PX dC dI ac A ad u t.heap) A) (vx_X (fun (u : Nat × tw_T) => X u.1 u.2 ∧ gN u.2 = gN τ0) (fun E u t => E = exn u.1 ∧ PX dC dI ac A ad u.2 t.heap) A) ([.ref (ad 0 k0), .int x1, .int x2] : List Value).toArray s 1 6 A) (F0 m 112 ls [])) → W p l e rmX9_plan s m ([.ref (ad 0 k0), .int x1, .int x2] : List Value).toArray below meth c H locs 0 0 (vx_MQ below (va_Qi (fun r (u : tw_T) => Q r u ∧ gN u = gN τ0) (fun u t => PX dC dI ac A ad u t.heap) A) (vx_X (fun (u : Nat × tw_T) => X u.1 u.2 ∧ gN u.2 = gN τ0) (fun E u t => E = exn u.1 ∧ PX dC dI ac A ad u.2 t.heap) A) ([.ref (ad 0 k0), .int x1, .int x2] : List Value).toArray s 1 6 A) (F0 m 106 ls []) := by
        intro τ p0 hp0 u3 u4 H locs ls RC EX hF hP hN hS hl hRC hEX
        unfold J_X9_plan_106 at hF
        obtain ⟨z1, ez1⟩ : ∃ y : Int32, y = u4 + (1 : Int32) := ⟨_, rfl⟩
        have hF := hF z1 ez1
        refine lv_iinc (v := z1) (lv' := [(4, .int z1), (0, .ref (ad 0 p0)), (3, .int u3)]) hx hb dX9_plan_106 hl (k := 2) rfl (by rw [ez1]; rfl) (by decide) rfl (fun ls hl => ?_)
        refine lv_goto (tgt := 53) hx hb dX9_plan_109 (by decide) ?_
        exact hRC τ u3 z1 _ _ _ hF hP hN hS (lv_sub hl [1, 2, 0] rfl)
      refine lv_iload hx hb dX9_plan_53 (lv_at hl 2 rfl) ?_
      refine lv_bipush (v := 30) hx hb dX9_plan_55 (by decide) ?_
      refine lv_icmp_ge (tgt := 112) hx hb dX9_plan_57 (by decide) (fun c2 => ?_) (fun c2 => ?_)
      · have hF := hF.1 c2
        exact hEX τ u3 u4 _ _ _ hF hP hN hS (lv_sub hl [0, 1, 2] rfl)
      · have hF := hF.2 c2
        refine lv_aload_n hx hb dX9_plan_60 rfl (lv_at hl 0 rfl) ?_
        obtain ⟨o3, eo3, hF⟩ := hF
        have ho3 : o3 < gN τ0 5 := tw_lt (hP.2.2.2 0 p0 4 o3 (by decide) (tw_lt hp0 (congrFun hN 0)) eo3) (congrFun hN 5).symm
        refine tw_get (v := .ref (ad 5 o3)) hx hb hts (by decide +kernel) hown hK hP (by decide) (tw_lt hp0 (congrFun hN 0)) rfl rfl 4 (by decide) (hts (.fieldLink RX9 36 "WineCellar" "rack" "LWineCellar$Rack;") (by decide +kernel)) (fun _ h9 => h9) (show some (va_rf ((gR τ 0 p0 4).map (ad 5))) = some (.ref (ad 5 o3)) by rw [eo3]; rfl) dX9_plan_61 ?_
        refine lv_iload hx hb dX9_plan_64 (lv_at hl 2 rfl) ?_
        refine va_calli (va_runV (As := [.int u4]) (rest := []) ⟨hx, hb, hml, hown, hts⟩ (mX5_isEmpty l dC dI ac sa A ad τ o3 u4 _ hF (tw_lt ho3 (congrFun hN 5))) (cwV 1 hts gX9_plan_X5_isEmpty rfl rfl rfl (by decide +kernel) ⟨Nat.le_of_ble_eq_true rfl, Nat.le_of_ble_eq_true rfl⟩) ⟨BX.blind, tw_recv hK hP (by decide) (tw_lt ho3 (congrFun hN 5)) rfl rfl, fun U hU hW => ⟨rfl, BX.of hP hK hS hA hZ hU hW⟩⟩ rfl rfl hl.1 rfl (lv_room (Nat.le_of_ble_eq_true rfl)) dX9_plan_66 ⟨Nat.le_of_ble_eq_true rfl, Nat.le_of_ble_eq_true rfl⟩) hS (fun q _ h => h) (fun q h => h) (fun r5 τ4 t H locs ht hvm hw hB hz hk hS => ?_)
        obtain ⟨hF, hN9⟩ := hw
        have hP : PX dC dI ac A ad τ4 H := tw_back hB ht
        have hN : gN τ4 = gN τ0 := hN9.trans hN
        refine lv_if_ne (tgt := 106) hx hb dX9_plan_69 (by decide) (fun c6 => ?_) (fun c6 => ?_)
        · have hF := hF.1 c6
          exact j106 τ4 p0 hp0 u3 u4 _ _ _ _ _ hF hP hN hS (lv_sub hl [0, 1, 2] rfl) (fun t v3 v4 H locs ls hF hP hN hS hl => ih t v3 v4 _ _ _ hF hP hN hS hl hEX) hEX
        · have hF := hF.2 c6
          refine lv_iload_n hx hb dX9_plan_72 rfl (lv_at hl 1 rfl) ?_
          refine lv_aload_n hx hb dX9_plan_73 rfl (lv_at hl 0 rfl) ?_
          obtain ⟨o7, eo7, hF⟩ := hF
          have ho7 : o7 < gN τ0 8 := tw_lt (hP.2.2.2 0 p0 7 o7 (by decide) (tw_lt hp0 (congrFun hN 0)) eo7) (congrFun hN 8).symm
          refine tw_get (v := .ref (ad 8 o7)) hx hb hts (by decide +kernel) hown hK hP (by decide) (tw_lt hp0 (congrFun hN 0)) rfl rfl 7 (by decide) (hts (.fieldLink RX9 57 "WineCellar" "planner" "LWineCellar$Planner;") (by decide +kernel)) (fun _ h9 => h9) (show some (va_rf ((gR τ4 0 p0 7).map (ad 8))) = some (.ref (ad 8 o7)) by rw [eo7]; rfl) dX9_plan_74 ?_
          refine lv_aload_n hx hb dX9_plan_77 rfl (lv_at hl 0 rfl) ?_
          refine lv_aload_n hx hb dX9_plan_78 rfl (lv_at hl 0 rfl) ?_
          obtain ⟨o8, eo8, hF⟩ := hF
          have ho8 : o8 < gN τ0 5 := tw_lt (hP.2.2.2 0 p0 4 o8 (by decide) (tw_lt hp0 (congrFun hN 0)) eo8) (congrFun hN 5).symm
          refine tw_get (v := .ref (ad 5 o8)) hx hb hts (by decide +kernel) hown hK hP (by decide) (tw_lt hp0 (congrFun hN 0)) rfl rfl 4 (by decide) (hts (.fieldLink RX9 36 "WineCellar" "rack" "LWineCellar$Rack;") (by decide +kernel)) (fun _ h9 => h9) (show some (va_rf ((gR τ4 0 p0 4).map (ad 5))) = some (.ref (ad 5 o8)) by rw [eo8]; rfl) dX9_plan_79 ?_
          obtain ⟨o9, eo9, hF⟩ := hF
          have ho9 : o9 < gN τ0 12 := tw_lt (hP.2.2.2 5 o8 0 o9 (by decide) (tw_lt ho8 (congrFun hN 5)) eo9) (congrFun hN 12).symm
          refine tw_get (v := .ref (ad 12 o9)) hx hb hts (by decide +kernel) hown hK hP (by decide) (tw_lt ho8 (congrFun hN 5)) rfl rfl 0 (by decide) (hts (.fieldLink RX9 214 "WineCellar$Rack" "lots" "[I") (by decide +kernel)) (fun _ h9 => h9) (show some (va_rf ((gR τ4 5 o8 0).map (ad 12))) = some (.ref (ad 12 o9)) by rw [eo9]; rfl) dX9_plan_82 ?_
          refine lv_iload hx hb dX9_plan_85 (lv_at hl 2 rfl) ?_
          obtain ⟨hi10, hF⟩ := hF
          refine tw_iald hx hb hK hP (by decide) (tw_lt ho9 (congrFun hN 12)) rfl 0 rfl hi10 dX9_plan_87 ?_
          refine va_callr (va_runV (As := [.int (gI τ4 12 o9 u4.toNatClampNeg)]) (rest := [.ref (ad 8 o7), .int u3]) ⟨hx, hb, hml, hown, hts⟩ (m0X9_lotAt l dC dI ac sa A ad τ4 p0 (gI τ4 12 o9 u4.toNatClampNeg) _ hF (tw_lt hp0 (congrFun hN 0))) (cwV 1 hts gX9_plan_X9_lotAt rfl rfl rfl (by decide +kernel) ⟨Nat.le_of_ble_eq_true rfl, Nat.le_of_ble_eq_true rfl⟩) ⟨BX.blind, tw_recv hK hP (by decide) (tw_lt hp0 (congrFun hN 0)) rfl rfl, fun U hU hW => ⟨rfl, BX.of hP hK hS hA hZ hU hW⟩⟩ rfl rfl hl.1 rfl (lv_room (Nat.le_of_ble_eq_true rfl)) dX9_plan_88 ⟨Nat.le_of_ble_eq_true rfl, Nat.le_of_ble_eq_true rfl⟩) hS (fun q _ h => h) (fun q h => h) (fun u9 ra9 t H locs ht hvm hw hB hz hk hS => ?_)
          obtain ⟨τ11, o12⟩ := u9
          obtain ⟨hF, ho12, hN9⟩ := hw
          obtain ⟨rfl, hB⟩ := hB
          try dsimp only at hF ho12 hN9 hB ⊢
          have ho12 : o12 < gN τ0 21 := tw_lt ho12 (congrFun hN 21).symm
          have hP : PX dC dI ac A ad τ11 H := tw_back hB ht
          have hN : gN τ11 = gN τ0 := hN9.trans hN
          refine lv_aload_n hx hb dX9_plan_91 rfl (lv_at hl 0 rfl) ?_
          obtain ⟨o13, eo13, hF⟩ := hF
          have ho13 : o13 < gN τ0 5 := tw_lt (hP.2.2.2 0 p0 4 o13 (by decide) (tw_lt hp0 (congrFun hN 0)) eo13) (congrFun hN 5).symm
          refine tw_get (v := .ref (ad 5 o13)) hx hb hts (by decide +kernel) hown hK hP (by decide) (tw_lt hp0 (congrFun hN 0)) rfl rfl 4 (by decide) (hts (.fieldLink RX9 36 "WineCellar" "rack" "LWineCellar$Rack;") (by decide +kernel)) (fun _ h9 => h9) (show some (va_rf ((gR τ11 0 p0 4).map (ad 5))) = some (.ref (ad 5 o13)) by rw [eo13]; rfl) dX9_plan_92 ?_
          obtain ⟨o14, eo14, hF⟩ := hF
          have ho14 : o14 < gN τ0 13 := tw_lt (hP.2.2.2 5 o13 1 o14 (by decide) (tw_lt ho13 (congrFun hN 5)) eo14) (congrFun hN 13).symm
          refine tw_get (v := .ref (ad 13 o14)) hx hb hts (by decide +kernel) hown hK hP (by decide) (tw_lt ho13 (congrFun hN 5)) rfl rfl 1 (by decide) (hts (.fieldLink RX9 209 "WineCellar$Rack" "bottles" "[I") (by decide +kernel)) (fun _ h9 => h9) (show some (va_rf ((gR τ11 5 o13 1).map (ad 13))) = some (.ref (ad 13 o14)) by rw [eo14]; rfl) dX9_plan_95 ?_
          refine lv_iload hx hb dX9_plan_98 (lv_at hl 2 rfl) ?_
          obtain ⟨hi15, hF⟩ := hF
          refine tw_iald hx hb hK hP (by decide) (tw_lt ho14 (congrFun hN 13)) rfl 0 rfl hi15 dX9_plan_100 ?_
          refine va_calli (va_runV (As := [.ref (ad 21 o12), .int (gI τ11 13 o14 u4.toNatClampNeg)]) (rest := [.int u3]) ⟨hx, hb, hml, hown, hts⟩ (mX4_gainOf l dC dI ac sa A ad τ11 o7 o12 (gI τ11 13 o14 u4.toNatClampNeg) _ hF (tw_lt ho7 (congrFun hN 8)) (tw_lt ho12 (congrFun hN 21))) (cwV 2 hts gX9_plan_X4_gainOf rfl rfl rfl (by decide +kernel) ⟨Nat.le_of_ble_eq_true rfl, Nat.le_of_ble_eq_true rfl⟩) ⟨BX.blind, tw_recv hK hP (by decide) (tw_lt ho7 (congrFun hN 8)) rfl rfl, fun U hU hW => ⟨rfl, BX.of hP hK hS hA hZ hU hW⟩⟩ rfl rfl hl.1 rfl (lv_room (Nat.le_of_ble_eq_true rfl)) dX9_plan_101 ⟨Nat.le_of_ble_eq_true rfl, Nat.le_of_ble_eq_true rfl⟩) hS (fun q _ h => h) (fun q h => h) (fun r17 τ16 t H locs ht hvm hw hB hz hk hS => ?_)
          obtain ⟨hF, hN9⟩ := hw
          have hP : PX dC dI ac A ad τ16 H := tw_back hB ht
          have hN : gN τ16 = gN τ0 := hN9.trans hN
          refine lv_iadd hx hb dX9_plan_104 ?_
          refine lv_topi (fun z18 ez18 => ?_)
          have hF := hF z18 ez18
          refine lv_istore_n (lv' := [(3, .int z18), (0, .ref (ad 0 p0)), (4, .int u4)]) hx hb dX9_plan_105 rfl hl (by decide) rfl (fun ls hl => ?_)
          exact j106 τ16 p0 hp0 z18 u4 _ _ _ _ _ hF hP hN hS (lv_sub hl [1, 0, 2] rfl) (fun t v3 v4 H locs ls hF hP hN hS hl => ih t v3 v4 _ _ _ hF hP hN hS hl hEX) hEX
  refine lv_iload_n hx hb dX9_plan_0 rfl (lv_at hl 1 rfl) ?_
  refine lv_i2l (v := x1.toInt64) hx hb dX9_plan_1 rfl ?_
  refine lv_lconst (v := 1) hx hb dX9_plan_2 (by decide) ?_
  refine lv_ldc2 (v := 6) hx hb hown (hts (.constantLong RX9 333 6) (by decide +kernel)) dX9_plan_3 ?_
  refine va_calli (va_runS (As := [.long x1.toInt64, .long ((1 : Int64)), .long ((6 : Int64))]) (rest := []) ⟨hx, hb, hml, hown, hts⟩ (mX9_isWithin l dC dI ac sa A ad τ0 x1.toInt64 ((1 : Int64)) ((6 : Int64)) _ hF ) (va_cwS 3 hts gX9_plan_X9_isWithin rfl rfl rfl (by decide +kernel) ⟨Nat.le_of_ble_eq_true rfl, Nat.le_of_ble_eq_true rfl⟩) ⟨BX.blind, fun U hU hW => ⟨rfl, BX.of hP hK hS hA hZ hU hW⟩⟩ rfl rfl hl.1 rfl (lv_room (Nat.le_of_ble_eq_true rfl)) dX9_plan_6 ⟨Nat.le_of_ble_eq_true rfl, Nat.le_of_ble_eq_true rfl⟩) hS (fun q _ h => h) (fun q h => h) (fun r20 τ19 t H locs ht hvm hw hB hz hk hS => ?_)
  obtain ⟨hF, hN9⟩ := hw
  have hP : PX dC dI ac A ad τ19 H := tw_back hB ht
  have hN : gN τ19 = gN τ0 := hN9.trans hN
  refine lv_if_eq (tgt := 24) hx hb dX9_plan_9 (by decide) (fun c21 => ?_) (fun c21 => ?_)
  · have hF := hF.1 c21
    exact vx_throwSW (names := zx_names) hx hb hlt hown (by decide +kernel) (by decide +kernel) (hts (.classLink RX9 96 "java/lang/IllegalArgumentException") (by decide +kernel)) (hts (.initialized "java/lang/IllegalArgumentException") (by decide +kernel)) (hZ.2.2.1 (337, "no such years or bottles", 44) (by decide +kernel)) (zx_hat0 hts (by decide +kernel) hZ.2.2.2.2.2) zx_ot0 hZ.2.1.1 hZ.2.1.2 hS (hl.1.trans hml.symm) dX9_plan_24 dX9_plan_27 dX9_plan_28 dX9_plan_31 dX9_plan_34 (fun x9 hx9 => (htab x9 hx9).elim) (Nat.le_of_ble_eq_true rfl) (Nat.le_of_ble_eq_true rfl) (Nat.le_of_ble_eq_true rfl) (Nat.le_of_ble_eq_true rfl) hlocks (fun t hvm hz hk => ⟨(0, τ19), ⟨hF, hN⟩, ⟨rfl, (tw_thrown hP hS hz hk).1⟩, (tw_thrown hP hS hz hk).2⟩) hS.2.2 (by decide) (by decide)
  · have hF := hF.2 c21
    refine lv_iload_n hx hb dX9_plan_12 rfl (lv_at hl 2 rfl) ?_
    refine lv_i2l (v := x2.toInt64) hx hb dX9_plan_13 rfl ?_
    refine lv_lconst (v := 0) hx hb dX9_plan_14 (by decide) ?_
    refine lv_ldc2 (v := 100) hx hb hown (hts (.constantLong RX9 335 100) (by decide +kernel)) dX9_plan_15 ?_
    refine va_calli (va_runS (As := [.long x2.toInt64, .long ((0 : Int64)), .long ((100 : Int64))]) (rest := []) ⟨hx, hb, hml, hown, hts⟩ (mX9_isWithin l dC dI ac sa A ad τ19 x2.toInt64 ((0 : Int64)) ((100 : Int64)) _ hF ) (va_cwS 3 hts gX9_plan_X9_isWithin rfl rfl rfl (by decide +kernel) ⟨Nat.le_of_ble_eq_true rfl, Nat.le_of_ble_eq_true rfl⟩) ⟨BX.blind, fun U hU hW => ⟨rfl, BX.of hP hK hS hA hZ hU hW⟩⟩ rfl rfl hl.1 rfl (lv_room (Nat.le_of_ble_eq_true rfl)) dX9_plan_18 ⟨Nat.le_of_ble_eq_true rfl, Nat.le_of_ble_eq_true rfl⟩) hS (fun q _ h => h) (fun q h => h) (fun r23 τ22 t H locs ht hvm hw hB hz hk hS => ?_)
    obtain ⟨hF, hN9⟩ := hw
    have hP : PX dC dI ac A ad τ22 H := tw_back hB ht
    have hN : gN τ22 = gN τ0 := hN9.trans hN
    refine lv_if_ne (tgt := 35) hx hb dX9_plan_21 (by decide) (fun c24 => ?_) (fun c24 => ?_)
    · have hF := hF.1 c24
      refine lv_aload_n hx hb dX9_plan_35 rfl (lv_at hl 0 rfl) ?_
      obtain ⟨o25, eo25, hF⟩ := hF
      have ho25 : o25 < gN τ0 8 := tw_lt (hP.2.2.2 0 k0 7 o25 (by decide) (tw_lt hk0 (congrFun hN 0)) eo25) (congrFun hN 8).symm
      refine tw_get (v := .ref (ad 8 o25)) hx hb hts (by decide +kernel) hown hK hP (by decide) (tw_lt hk0 (congrFun hN 0)) rfl rfl 7 (by decide) (hts (.fieldLink RX9 57 "WineCellar" "planner" "LWineCellar$Planner;") (by decide +kernel)) (fun _ h9 => h9) (show some (va_rf ((gR τ22 0 k0 7).map (ad 8))) = some (.ref (ad 8 o25)) by rw [eo25]; rfl) dX9_plan_36 ?_
      refine lv_aload_n hx hb dX9_plan_39 rfl (lv_at hl 0 rfl) ?_
      refine va_calli (va_runV (As := []) (rest := [.ref (ad 8 o25)]) ⟨hx, hb, hml, hown, hts⟩ (mX9_yearNow l dC dI ac sa A ad τ22 k0 _ hF (tw_lt hk0 (congrFun hN 0))) (cwV 0 hts gX9_plan_X9_yearNow rfl rfl rfl (by decide +kernel) ⟨Nat.le_of_ble_eq_true rfl, Nat.le_of_ble_eq_true rfl⟩) ⟨BX.blind, tw_recv hK hP (by decide) (tw_lt hk0 (congrFun hN 0)) rfl rfl, fun U hU hW => ⟨rfl, BX.of hP hK hS hA hZ hU hW⟩⟩ rfl rfl hl.1 rfl (lv_room (Nat.le_of_ble_eq_true rfl)) dX9_plan_40 ⟨Nat.le_of_ble_eq_true rfl, Nat.le_of_ble_eq_true rfl⟩) hS (fun q _ h => h) (fun q h => h) (fun r27 τ26 t H locs ht hvm hw hB hz hk hS => ?_)
      obtain ⟨hF, hN9⟩ := hw
      have hP : PX dC dI ac A ad τ26 H := tw_back hB ht
      have hN : gN τ26 = gN τ0 := hN9.trans hN
      refine lv_iload_n hx hb dX9_plan_43 rfl (lv_at hl 1 rfl) ?_
      refine lv_iload_n hx hb dX9_plan_44 rfl (lv_at hl 2 rfl) ?_
      refine va_callv (va_runV (As := [.int r27, .int x1, .int x2]) (rest := []) ⟨hx, hb, hml, hown, hts⟩ (mX4_start l dC dI ac sa A ad τ26 o25 r27 x1 x2 _ hF (tw_lt ho25 (congrFun hN 8))) (cwV 3 hts gX9_plan_X4_start rfl rfl rfl (by decide +kernel) ⟨Nat.le_of_ble_eq_true rfl, Nat.le_of_ble_eq_true rfl⟩) ⟨BX.blind, tw_recv hK hP (by decide) (tw_lt ho25 (congrFun hN 8)) rfl rfl, fun U hU hW => ⟨rfl, BX.of hP hK hS hA hZ hU hW⟩⟩ rfl rfl hl.1 rfl (lv_room (Nat.le_of_ble_eq_true rfl)) dX9_plan_45 ⟨Nat.le_of_ble_eq_true rfl, Nat.le_of_ble_eq_true rfl⟩) hS (fun q _ h => h) (fun q h => h) (fun τ28 t H locs ht hvm hw hB hz hk hS => ?_)
      obtain ⟨hF, hN9⟩ := hw
      have hP : PX dC dI ac A ad τ28 H := tw_back hB ht
      have hN : gN τ28 = gN τ0 := hN9.trans hN
      refine lv_iconst (v := 0) hx hb dX9_plan_48 (by decide) ?_
      refine lv_istore_n (lv' := [(3, .int ((0 : Int32))), (0, .ref (ad 0 k0)), (1, .int x1), (2, .int x2)]) hx hb dX9_plan_49 rfl hl (by decide) rfl (fun ls hl => ?_)
      refine lv_iconst (v := 0) hx hb dX9_plan_50 (by decide) ?_
      refine lv_istore (lv' := [(4, .int ((0 : Int32))), (3, .int ((0 : Int32))), (0, .ref (ad 0 k0)), (1, .int x1), (2, .int x2)]) hx hb dX9_plan_51 hl (by decide) rfl (fun ls hl => ?_)
      obtain ⟨n29, hF⟩ := hF
      refine l53 k0 hk0 _ n29 τ28 ((0 : Int32)) ((0 : Int32)) _ _ _ hF hP hN hS (lv_sub hl [2, 1, 0] rfl) ?_
      intro τ30 z31 z32 H locs ls hF hP hN hS hl
      refine lv_iload_n hx hb dX9_plan_112 rfl (lv_at hl 1 rfl) ?_
      refine W.widen (k := 1) (n := 6) (by decide) (by decide) ?_
      exact vx_ret (W.iret (v := z31) hx hb hr (fun t ht hW => ⟨⟨z31, τ30, rfl, ⟨hF, hN⟩, tw_at hP ht⟩, hS.F ht⟩) hS.2.2 dX9_plan_113)
    · have hF := hF.2 c24
      exact vx_throwSW (names := zx_names) hx hb hlt hown (by decide +kernel) (by decide +kernel) (hts (.classLink RX9 96 "java/lang/IllegalArgumentException") (by decide +kernel)) (hts (.initialized "java/lang/IllegalArgumentException") (by decide +kernel)) (hZ.2.2.1 (337, "no such years or bottles", 44) (by decide +kernel)) (zx_hat0 hts (by decide +kernel) hZ.2.2.2.2.2) zx_ot0 hZ.2.1.1 hZ.2.1.2 hS (hl.1.trans hml.symm) dX9_plan_24 dX9_plan_27 dX9_plan_28 dX9_plan_31 dX9_plan_34 (fun x9 hx9 => (htab x9 hx9).elim) (Nat.le_of_ble_eq_true rfl) (Nat.le_of_ble_eq_true rfl) (Nat.le_of_ble_eq_true rfl) (Nat.le_of_ble_eq_true rfl) hlocks (fun t hvm hz hk => ⟨(0, τ22), ⟨hF, hN⟩, ⟨rfl, (tw_thrown hP hS hz hk).1⟩, (tw_thrown hP hS hz hk).2⟩) hS.2.2 (by decide) (by decide)
