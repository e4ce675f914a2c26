def F_X4_start (τ0 : tw_T) (k0 : Nat) (x1 : Int32) (x2 : Int32) (x3 : Int32) (Q : tw_T → Prop) : Prop := ∀ τ1 : tw_T, τ1 = sI τ0 8 k0 7 x1 → (∀ τ2 : tw_T, τ2 = sI τ1 8 k0 8 ((0 : Int32)) → (∀ τ3 : tw_T, τ3 = sI τ2 8 k0 9 ((if ((6 : Int32)) < x2 then ((6 : Int32)) else x2)) → (∃ o4 : Nat, gR τ3 8 k0 2 = some o4 ∧ (F_J7_fill_53178 τ3 17 7 o4 x3 (fun (τ5 : tw_T) => (∃ o6 : Nat, gR τ5 8 k0 2 = some o6 ∧ (vp_in (gI τ5 8 k0 9) 7 ∧ (∀ τ8 : tw_T, τ8 = sI τ5 17 o6 (gI τ5 8 k0 9).toNatClampNeg ((360 : Int32)) → (Q τ8)))))))))
def rmX4_start : Room := { frames := 1, cells := 0, slots := 0, locals := 23 }
set_option maxHeartbeats 4000000 in
set_option maxRecDepth 100000 in
theorem mX4_start (l : Launch) (dC : Nat → ClassId) (dI : Nat → Nat → Nat) (ac : Nat → ClassId) (sa : Nat → Nat) (A : Nat → Prop) (ad : Nat → Nat → Nat) (τ0 : tw_T) (k0 : Nat) (x1 : Int32) (x2 : Int32) (x3 : Int32) (Q : tw_T → Prop) (hF : F_X4_start τ0 k0 x1 x2 x3 Q) (hk0 : k0 < gN τ0 8) : Met l yX4_start wsX4_start rmX4_start (va_Pc [.ref (ad 8 k0), .int x1, .int x2, .int x3] (BX dC dI ac sa A ad τ0)) (va_Qv (fun (u : tw_T) => Q u ∧ gN u = gN τ0) (fun u t => PX dC dI ac A ad u t.heap) A) 0 0 A := by
  refine Met.ofW (cc := cX4_start) (maxL := 4) (ret := none) (by decide) rfl ?_
  intro p e s m args below meth c s₁ B hml hv
  obtain ⟨rfl, hP, hK, hA, hZ⟩ := hv
  have hx := B.exec
  have hb := B.bytes
  have hr := B.returns
  have hts := atoms_spec (ws := wsX4_start) B.pre
  have hown : s.vm.findClass RX4 = some m.cls := findClass_of_methodNamed B.named
  have hlocks := B.notSynchronized
  have hS : va_S A s.heap s.heap [] := va_S.rf
  have hN : gN τ0 = gN τ0 := rfl
  have hl := lv_entry ([.ref (ad 8 k0), .int x1, .int x2, .int x3]) (n := 4) (Nat.le_of_ble_eq_true rfl)
  rw [lg_entry_eq]
  generalize (lg_sl ([.ref (ad 8 k0), .int x1, .int x2, .int x3]) ++ List.replicate (4 - (lg_sl ([.ref (ad 8 k0), .int x1, .int x2, .int x3])).length) Slot.unset).toArray = ls at hl ⊢
  have hl : lv_has ls 4 [(0, .ref (ad 8 k0)), (1, .int x1), (2, .int x2), (3, .int x3)] := hl
  unfold F_X4_start at hF
  refine lv_aload_n hx hb dX4_start_0 rfl (lv_at hl 0 rfl) ?_
  refine lv_iload_n hx hb dX4_start_1 rfl (lv_at hl 1 rfl) ?_
  refine tw_put (τ' := sI τ0 8 k0 7 x1) (ty := .int) hx hb hts (by decide +kernel) tyX4 tyX4_ok nmX4 hown hK hP hS (by decide) hk0 rfl rfl 7 (by decide) (hts (.fieldLink RX4 37 "WineCellar$Planner" "firstYear" "I") (by decide +kernel)) (fun _ h9 => h9) rfl (by decide +kernel) rfl rfl (Nat.le_of_ble_eq_true rfl) dX4_start_2 (fun H1 ha ho => tw_updI hP (by decide) hk0 ha ho) (fun H locs hP hS => ?_)
  obtain ⟨τ1, eτ1⟩ : ∃ y : tw_T, y = sI τ0 8 k0 7 x1 := ⟨_, rfl⟩
  have hF := hF τ1 eτ1
  rw [← eτ1] at hP
  have hN : gN τ1 = gN τ0 := by rw [eτ1]; exact hN
  refine lv_aload_n hx hb dX4_start_5 rfl (lv_at hl 0 rfl) ?_
  refine lv_iconst (v := 0) hx hb dX4_start_6 (by decide) ?_
  refine tw_put (τ' := sI τ1 8 k0 8 ((0 : Int32))) (ty := .int) hx hb hts (by decide +kernel) tyX4 tyX4_ok nmX4 hown hK hP hS (by decide) (tw_lt hk0 (congrFun hN 8)) rfl rfl 8 (by decide) (hts (.fieldLink RX4 41 "WineCellar$Planner" "groups" "I") (by decide +kernel)) (fun _ h9 => h9) rfl (by decide +kernel) rfl rfl (Nat.le_of_ble_eq_true rfl) dX4_start_7 (fun H1 ha ho => tw_updI hP (by decide) (tw_lt hk0 (congrFun hN 8)) ha ho) (fun H locs hP hS => ?_)
  obtain ⟨τ2, eτ2⟩ : ∃ y : tw_T, y = sI τ1 8 k0 8 ((0 : Int32)) := ⟨_, rfl⟩
  have hF := hF τ2 eτ2
  rw [← eτ2] at hP
  have hN : gN τ2 = gN τ0 := by rw [eτ2]; exact hN
  refine lv_aload_n hx hb dX4_start_10 rfl (lv_at hl 0 rfl) ?_
  refine lv_iload_n hx hb dX4_start_11 rfl (lv_at hl 2 rfl) ?_
  refine lv_bipush (v := 6) hx hb dX4_start_12 (by decide) ?_
  refine va_mmin hx hb (hml.trans hl.1.symm) hown (hts (.methodLink RX4 47 Lib.Math.min.name) (by decide +kernel)) (hts (.static Lib.Math.min.name) (by decide +kernel)) (hts (.initialized "java/lang/Math") (by decide +kernel)) (hts (.code Lib.Math.min.name Lib.Math.min.code 2 (some .int)) (by decide +kernel)) (Nat.le_of_ble_eq_true rfl) (Nat.le_of_ble_eq_true rfl) (Nat.zero_le _) (Nat.zero_le _) dX4_start_14 ?_
  refine tw_put (τ' := sI τ2 8 k0 9 ((if ((6 : Int32)) < x2 then ((6 : Int32)) else x2))) (ty := .int) hx hb hts (by decide +kernel) tyX4 tyX4_ok nmX4 hown hK hP hS (by decide) (tw_lt hk0 (congrFun hN 8)) rfl rfl 9 (by decide) (hts (.fieldLink RX4 44 "WineCellar$Planner" "never" "I") (by decide +kernel)) (fun _ h9 => h9) rfl (by decide +kernel) rfl rfl (Nat.le_of_ble_eq_true rfl) dX4_start_17 (fun H1 ha ho => tw_updI hP (by decide) (tw_lt hk0 (congrFun hN 8)) ha ho) (fun H locs hP hS => ?_)
  obtain ⟨τ3, eτ3⟩ : ∃ y : tw_T, y = sI τ2 8 k0 9 ((if ((6 : Int32)) < x2 then ((6 : Int32)) else x2)) := ⟨_, rfl⟩
  have hF := hF τ3 eτ3
  rw [← eτ3] at hP
  have hN : gN τ3 = gN τ0 := by rw [eτ3]; exact hN
  refine lv_aload_n hx hb dX4_start_20 rfl (lv_at hl 0 rfl) ?_
  obtain ⟨o4, eo4, hF⟩ := hF
  have ho4 : o4 < gN τ0 17 := tw_lt (hP.2.2.2 8 k0 2 o4 (by decide) (tw_lt hk0 (congrFun hN 8)) eo4) (congrFun hN 17).symm
  refine tw_get (v := .ref (ad 17 o4)) hx hb hts (by decide +kernel) hown hK hP (by decide) (tw_lt hk0 (congrFun hN 8)) rfl rfl 2 (by decide) (hts (.fieldLink RX4 21 "WineCellar$Planner" "room" "[I") (by decide +kernel)) (fun _ h9 => h9) (show some (va_rf ((gR τ3 8 k0 2).map (ad 17))) = some (.ref (ad 17 o4)) by rw [eo4]; rfl) dX4_start_21 ?_
  refine lv_iload_n hx hb dX4_start_24 rfl (lv_at hl 3 rfl) ?_
  refine va_callv (va_runS (As := [.ref (ad 17 o4), .int x3]) (rest := []) ⟨hx, hb, hml, hown, hts⟩ (mJ7_fill_53178 l dC dI ac sa A ad τ3 17 7 o4 x3 _ hF (by decide) rfl (tw_lt ho4 (congrFun hN 17))) (va_cwS 2 hts gX4_start_J7_fill_53178 rfl rfl rfl (by decide +kernel) ⟨Nat.le_of_ble_eq_true rfl, Nat.le_of_ble_eq_true rfl⟩) ⟨BX.blind, fun U hU hW => ⟨rfl, BX.of hP hK hS hA hZ hU hW⟩⟩ rfl rfl hl.1 rfl (lv_room (Nat.le_of_ble_eq_true rfl)) dX4_start_25 ⟨Nat.le_of_ble_eq_true rfl, Nat.le_of_ble_eq_true rfl⟩) hS (fun q _ h => h) (fun q h => h) (fun τ5 t H locs ht hvm hw hB hz hk hS => ?_)
  obtain ⟨hF, hN9⟩ := hw
  have hP : PX dC dI ac A ad τ5 H := tw_back hB ht
  have hN : gN τ5 = gN τ0 := hN9.trans hN
  refine lv_aload_n hx hb dX4_start_28 rfl (lv_at hl 0 rfl) ?_
  obtain ⟨o6, eo6, hF⟩ := hF
  have ho6 : o6 < gN τ0 17 := tw_lt (hP.2.2.2 8 k0 2 o6 (by decide) (tw_lt hk0 (congrFun hN 8)) eo6) (congrFun hN 17).symm
  refine tw_get (v := .ref (ad 17 o6)) hx hb hts (by decide +kernel) hown hK hP (by decide) (tw_lt hk0 (congrFun hN 8)) rfl rfl 2 (by decide) (hts (.fieldLink RX4 21 "WineCellar$Planner" "room" "[I") (by decide +kernel)) (fun _ h9 => h9) (show some (va_rf ((gR τ5 8 k0 2).map (ad 17))) = some (.ref (ad 17 o6)) by rw [eo6]; rfl) dX4_start_29 ?_
  refine lv_aload_n hx hb dX4_start_32 rfl (lv_at hl 0 rfl) ?_
  refine tw_get (v := .int (gI τ5 8 k0 9)) hx hb hts (by decide +kernel) hown hK hP (by decide) (tw_lt hk0 (congrFun hN 8)) rfl rfl 9 (by decide) (hts (.fieldLink RX4 44 "WineCellar$Planner" "never" "I") (by decide +kernel)) (fun _ h9 => h9) rfl dX4_start_33 ?_
  refine lv_sipush (v := 360) hx hb dX4_start_36 (by decide) ?_
  obtain ⟨hi7, hF⟩ := hF
  refine tw_iast hx hb hK hP hS (by decide) (tw_lt ho6 (congrFun hN 17)) rfl 0 rfl hi7 dX4_start_39 (fun H locs hP hS => ?_)
  obtain ⟨τ8, eτ8⟩ : ∃ y : tw_T, y = sI τ5 17 o6 (gI τ5 8 k0 9).toNatClampNeg ((360 : Int32)) := ⟨_, rfl⟩
  have hF := hF τ8 eτ8
  rw [← eτ8] at hP
  have hN : gN τ8 = gN τ0 := by rw [eτ8]; exact hN
  exact W.vret hx hb hr (fun t ht hW => ⟨⟨τ8, rfl, ⟨hF, hN⟩, tw_at hP ht⟩, hS.F ht⟩) hS.2.2 dX4_start_40
def J_X4_addGroup_44 (τ : tw_T) (p0 : Nat) (p1 : Nat) (u2 : Int32) (y0 : Int32) (y1 : Int32) (q2 : Nat) (Q : tw_T → Prop) (RC EX : tw_T → Int32 → Prop) : Prop := vp_in y1 7 ∧ (∀ τ2 : tw_T, τ2 = sI τ 26 q2 y1.toNatClampNeg y0 → (∀ z3 : Int32, z3 = u2 + (1 : Int32) → (RC τ2 z3)))
def L_X4_addGroup_2 (p0 : Nat) (p1 : Nat) (Q : tw_T → Prop) (EX : tw_T → Int32 → Prop) : Nat → tw_T → Int32 → Prop
  | 0, _, _ => False
  | n + 1, τ, u2 => (((gI τ 8 p0 9) ≤ u2 → (EX τ u2)) ∧ (¬ (gI τ 8 p0 9) ≤ u2 → (∀ z5 : Int32, z5 = (gI τ 8 p0 7) + u2 → (∃ o6 : Nat, gR τ 8 p0 0 = some o6 ∧ (vp_in (gI τ 8 p0 8) 30 ∧ (∃ o7 : Nat, gR τ 15 o6 (gI τ 8 p0 8).toNatClampNeg = some o7 ∧ (F_X3_isGoodIn τ p1 z5 (fun (r10 : Int32) (τ9 : tw_T) => (((r10 = 0 → (J_X4_addGroup_44 τ9 p0 p1 u2 ((-1 : Int32)) u2 o7 Q (fun t v2 => L_X4_addGroup_2 p0 p1 Q EX n t v2) EX)) ∧ (¬ r10 = 0 → (F_X3_worthIn τ9 p1 z5 (fun (r13 : Int32) (τ12 : tw_T) => (J_X4_addGroup_44 τ12 p0 p1 u2 r13 u2 o7 Q (fun t v2 => L_X4_addGroup_2 p0 p1 Q EX n t v2) EX))))))))))))))
def F_X4_addGroup (τ0 : tw_T) (k0 : Nat) (k1 : Nat) (Q : tw_T → Prop) : Prop := ∃ n14 : Nat, L_X4_addGroup_2 k0 k1 Q (fun (τ15 : tw_T) (z16 : Int32) => ∃ o17 : Nat, gR τ15 8 k0 0 = some o17 ∧ (vp_in (gI τ15 8 k0 8) 30 ∧ (∃ o18 : Nat, gR τ15 15 o17 (gI τ15 8 k0 8).toNatClampNeg = some o18 ∧ (vp_in (gI τ15 8 k0 9) 7 ∧ (∀ τ21 : tw_T, τ21 = sI τ15 26 o18 (gI τ15 8 k0 9).toNatClampNeg ((0 : Int32)) → (∃ o22 : Nat, gR τ21 8 k0 1 = some o22 ∧ (vp_in (gI τ21 8 k0 8) 30 ∧ (∃ o23 : Nat, gR τ21 16 o22 (gI τ21 8 k0 8).toNatClampNeg = some o23 ∧ (F_J7_fill_53178 τ21 27 7 o23 ((0 : Int32)) (fun (τ25 : tw_T) => (∀ τ26 : tw_T, τ26 = sI τ25 8 k0 8 ((gI τ25 8 k0 8) + ((1 : Int32))) → (Q τ26)))))))))))) n14 τ0 ((0 : Int32))
def rmX4_addGroup : Room := { frames := 2, cells := 0, slots := 0, locals := 43 }
set_option maxHeartbeats 4000000 in
set_option maxRecDepth 100000 in
theorem mX4_addGroup (l : Launch) (dC : Nat → ClassId) (dI : Nat → Nat → Nat) (ac : Nat → ClassId) (sa : Nat → Nat) (A : Nat → Prop) (ad : Nat → Nat → Nat) (τ0 : tw_T) (k0 : Nat) (k1 : Nat) (Q : tw_T → Prop) (hF : F_X4_addGroup τ0 k0 k1 Q) (hk0 : k0 < gN τ0 8) (hk1 : k1 < gN τ0 21) : Met l yX4_addGroup wsX4_addGroup rmX4_addGroup (va_Pc [.ref (ad 8 k0), .ref (ad 21 k1)] (BX dC dI ac sa A ad τ0)) (va_Qv (fun (u : tw_T) => Q u ∧ gN u = gN τ0) (fun u t => PX dC dI ac A ad u t.heap) A) 0 0 A := by
  refine Met.ofW (cc := cX4_addGroup) (maxL := 4) (ret := none) (by decide) rfl ?_
  intro p e s m args below meth c s₁ B hml hv
  obtain ⟨rfl, hP, hK, hA, hZ⟩ := hv
  have hx := B.exec
  have hb := B.bytes
  have hr := B.returns
  have hts := atoms_spec (ws := wsX4_addGroup) B.pre
  have hown : s.vm.findClass RX4 = some m.cls := findClass_of_methodNamed B.named
  have hlocks := B.notSynchronized
  have hS : va_S A s.heap s.heap [] := va_S.rf
  have hN : gN τ0 = gN τ0 := rfl
  have hl := lv_entry ([.ref (ad 8 k0), .ref (ad 21 k1)]) (n := 4) (Nat.le_of_ble_eq_true rfl)
  rw [lg_entry_eq]
  generalize (lg_sl ([.ref (ad 8 k0), .ref (ad 21 k1)]) ++ List.replicate (4 - (lg_sl ([.ref (ad 8 k0), .ref (ad 21 k1)])).length) Slot.unset).toArray = ls at hl ⊢
  have hl : lv_has ls 4 [(0, .ref (ad 8 k0)), (1, .ref (ad 21 k1))] := hl
  unfold F_X4_addGroup at hF
  have l2 : ∀ (p0 : Nat) (hp0 : p0 < gN τ0 8) (p1 : Nat) (hp1 : p1 < gN τ0 21) (EX : tw_T → Int32 → Prop) (n : Nat) (τ : tw_T) (u2 : Int32) (H : Heap) (locs : List Loc) (ls : Array Slot), L_X4_addGroup_2 p0 p1 Q EX n τ u2 → PX dC dI ac A ad τ H → gN τ = gN τ0 → va_S A s.heap H locs → lv_has ls 4 [(0, .ref (ad 8 p0)), (1, .ref (ad 21 p1)), (2, .int u2)] → (∀ (τ : tw_T) (u2 : Int32) (H : Heap) (locs : List Loc) (ls : Array Slot), EX τ u2 → PX dC dI ac A ad τ H → gN τ = gN τ0 → va_S A s.heap H locs → lv_has ls 4 [(0, .ref (ad 8 p0)), (1, .ref (ad 21 p1)), (2, .int u2)] → W p l e rmX4_addGroup s m ([.ref (ad 8 k0), .ref (ad 21 k1)] : List Value).toArray below meth c H locs 0 0 (MQ below (va_Qv (fun (u : tw_T) => Q u ∧ gN u = gN τ0) (fun u t => PX dC dI ac A ad u t.heap) A) ([.ref (ad 8 k0), .ref (ad 21 k1)] : List Value).toArray s 0 0 A) (F0 m 51 ls [])) → W p l e rmX4_addGroup s m ([.ref (ad 8 k0), .ref (ad 21 k1)] : List Value).toArray below meth c H locs 0 0 (MQ below (va_Qv (fun (u : tw_T) => Q u ∧ gN u = gN τ0) (fun u t => PX dC dI ac A ad u t.heap) A) ([.ref (ad 8 k0), .ref (ad 21 k1)] : List Value).toArray s 0 0 A) (F0 m 2 ls []) := by
    intro p0 hp0 p1 hp1 EX n
    induction n with
    | zero => intro τ u2 H locs ls hF; exact hF.elim
    | succ n ih =>
      intro τ u2 H locs ls hF hP hN hS hl hEX
      rw [L_X4_addGroup_2] at hF
      have j44 : ∀ (τ : tw_T) (p0 : Nat) (hp0 : p0 < gN τ0 8) (p1 : Nat) (hp1 : p1 < gN τ0 21) (u2 : Int32) (y0 : Int32) (y1 : Int32) (q2 : Nat) (hq2 : q2 < gN τ0 26) (H : Heap) (locs : List Loc) (ls : Array Slot) (RC EX : tw_T → Int32 → Prop), J_X4_addGroup_44 τ p0 p1 u2 y0 y1 q2 Q RC EX → PX dC dI ac A ad τ H → gN τ = gN τ0 → va_S A s.heap H locs → lv_has ls 4 [(0, .ref (ad 8 p0)), (1, .ref (ad 21 p1)), (2, .int u2)] → (∀ (τ : tw_T) (u2 : Int32) (H : Heap) (locs : List Loc) (ls : Array Slot), RC τ u2 → PX dC dI ac A ad τ H → gN τ = gN τ0 → va_S A s.heap H locs → lv_has ls 4 [(0, .ref (ad 8 p0)), (1, .ref (ad 21 p1)), (2, .int u2)] → W p l e rmX4_addGroup s m ([.ref (ad 8 k0), .ref (ad 21 k1)] : List Value).toArray below meth c H locs 0 0 (MQ below (va_Qv (fun (u : tw_T) => Q u ∧ gN u = gN τ0) (fun u t => PX dC dI ac A ad u t.heap) A) ([.ref (ad 8 k0), .ref (ad 21 k1)] : List Value).toArray s 0 0 A) (F0 m 2 ls [])) → (∀ (τ : tw_T) (u2 : Int32) (H : Heap) (locs : List Loc) (ls : Array Slot), EX τ u2 → PX dC dI ac A ad τ H → gN τ = gN τ0 → va_S A s.heap H locs → lv_has ls 4 [(0, .ref (ad 8 p0)), (1, .ref (ad 21 p1)), (2, .int u2)] → W p l e rmX4_addGroup s m ([.ref (ad 8 k0), .ref (ad 21 k1)] : List Value).toArray below meth c H locs 0 0 (MQ below (va_Qv (fun (u : tw_T) => Q u ∧ gN u = gN τ0) (fun u t => PX dC dI ac A ad u t.heap) A) ([.ref (ad 8 k0), .ref (ad 21 k1)] : List Value).toArray s 0 0 A) (F0 m 51 ls [])) → W p l e rmX4_addGroup s m ([.ref (ad 8 k0), .ref (ad 21 k1)] : List Value).toArray below meth c H locs 0 0 (MQ below (va_Qv (fun (u : tw_T) => Q u ∧ gN u = gN τ0) (fun u t => PX dC dI ac A ad u t.heap) A) ([.ref (ad 8 k0), .ref (ad 21 k1)] : List Value).toArray s 0 0 A) (F0 m 44 ls [.int y0, .int y1, .ref (ad 26 q2)]) := by
        intro τ p0 hp0 p1 hp1 u2 y0 y1 q2 hq2 H locs ls RC EX hF hP hN hS hl hRC hEX
        unfold J_X4_addGroup_44 at hF
        obtain ⟨hi1, hF⟩ := hF
        refine tw_iast hx hb hK hP hS (by decide) (tw_lt hq2 (congrFun hN 26)) rfl 0 rfl hi1 dX4_addGroup_44 (fun H locs hP hS => ?_)
        obtain ⟨τ2, eτ2⟩ : ∃ y : tw_T, y = sI τ 26 q2 y1.toNatClampNeg y0 := ⟨_, rfl⟩
        have hF := hF τ2 eτ2
        rw [← eτ2] at hP
        have hN : gN τ2 = gN τ0 := by rw [eτ2]; exact hN
        obtain ⟨z3, ez3⟩ : ∃ y : Int32, y = u2 + (1 : Int32) := ⟨_, rfl⟩
        have hF := hF z3 ez3
        refine lv_iinc (v := z3) (lv' := [(2, .int z3), (0, .ref (ad 8 p0)), (1, .ref (ad 21 p1))]) hx hb dX4_addGroup_45 hl (k := 2) rfl (by rw [ez3]; rfl) (by decide) rfl (fun ls hl => ?_)
        refine lv_goto (tgt := 2) hx hb dX4_addGroup_48 (by decide) ?_
        exact hRC τ2 z3 _ _ _ hF hP hN hS (lv_sub hl [1, 2, 0] rfl)
      refine lv_iload_n hx hb dX4_addGroup_2 rfl (lv_at hl 2 rfl) ?_
      refine lv_aload_n hx hb dX4_addGroup_3 rfl (lv_at hl 0 rfl) ?_
      refine tw_get (v := .int (gI τ 8 p0 9)) hx hb hts (by decide +kernel) hown hK hP (by decide) (tw_lt hp0 (congrFun hN 8)) rfl rfl 9 (by decide) (hts (.fieldLink RX4 44 "WineCellar$Planner" "never" "I") (by decide +kernel)) (fun _ h9 => h9) rfl dX4_addGroup_4 ?_
      refine lv_icmp_ge (tgt := 51) hx hb dX4_addGroup_7 (by decide) (fun c4 => ?_) (fun c4 => ?_)
      · have hF := hF.1 c4
        exact hEX τ u2 _ _ _ hF hP hN hS (lv_sub hl [0, 1, 2] rfl)
      · have hF := hF.2 c4
        refine lv_aload_n hx hb dX4_addGroup_10 rfl (lv_at hl 0 rfl) ?_
        refine tw_get (v := .int (gI τ 8 p0 7)) hx hb hts (by decide +kernel) hown hK hP (by decide) (tw_lt hp0 (congrFun hN 8)) rfl rfl 7 (by decide) (hts (.fieldLink RX4 37 "WineCellar$Planner" "firstYear" "I") (by decide +kernel)) (fun _ h9 => h9) rfl dX4_addGroup_11 ?_
        refine lv_iload_n hx hb dX4_addGroup_14 rfl (lv_at hl 2 rfl) ?_
        refine lv_iadd hx hb dX4_addGroup_15 ?_
        refine lv_topi (fun z5 ez5 => ?_)
        have hF := hF z5 ez5
        refine lv_istore_n (lv' := [(3, .int z5), (0, .ref (ad 8 p0)), (1, .ref (ad 21 p1)), (2, .int u2)]) hx hb dX4_addGroup_16 rfl hl (by decide) rfl (fun ls hl => ?_)
        refine lv_aload_n hx hb dX4_addGroup_17 rfl (lv_at hl 1 rfl) ?_
        obtain ⟨o6, eo6, hF⟩ := hF
        have ho6 : o6 < gN τ0 15 := tw_lt (hP.2.2.2 8 p0 0 o6 (by decide) (tw_lt hp0 (congrFun hN 8)) eo6) (congrFun hN 15).symm
        refine tw_get (v := .ref (ad 15 o6)) hx hb hts (by decide +kernel) hown hK hP (by decide) (tw_lt hp0 (congrFun hN 8)) rfl rfl 0 (by decide) (hts (.fieldLink RX4 13 "WineCellar$Planner" "gains" "[[I") (by decide +kernel)) (fun _ h9 => h9) (show some (va_rf ((gR τ 8 p0 0).map (ad 15))) = some (.ref (ad 15 o6)) by rw [eo6]; rfl) dX4_addGroup_18 ?_
        refine lv_aload_n hx hb dX4_addGroup_21 rfl (lv_at hl 1 rfl) ?_
        refine tw_get (v := .int (gI τ 8 p0 8)) hx hb hts (by decide +kernel) hown hK hP (by decide) (tw_lt hp0 (congrFun hN 8)) rfl rfl 8 (by decide) (hts (.fieldLink RX4 41 "WineCellar$Planner" "groups" "I") (by decide +kernel)) (fun _ h9 => h9) rfl dX4_addGroup_22 ?_
        obtain ⟨hi8, o7, eo7, hF⟩ := hF
        have ho7 : o7 < gN τ0 26 := tw_lt (hP.2.2.2 15 o6 _ o7 (by decide) (tw_lt ho6 (congrFun hN 15)) eo7) (congrFun hN 26).symm
        refine tw_aald hx hb hK hP (by decide) (tw_lt ho6 (congrFun hN 15)) rfl 8 rfl rfl (fun _ => rfl) hi8 dX4_addGroup_25 ?_
        refine W.eq (g2 := F0 m 26 ls [.ref (ad 26 o7)]) (by rw [eo7]; rfl) ?_
        refine lv_iload_n hx hb dX4_addGroup_26 rfl (lv_at hl 3 rfl) ?_
        refine lv_aload_n hx hb dX4_addGroup_27 rfl (lv_at hl 2 rfl) ?_
        refine lv_iload_n hx hb dX4_addGroup_28 rfl (lv_at hl 0 rfl) ?_
        refine va_calli (va_runV (As := [.int z5]) (rest := [.int u2, .ref (ad 26 o7)]) ⟨hx, hb, hml, hown, hts⟩ (mX3_isGoodIn l dC dI ac sa A ad τ p1 z5 _ hF (tw_lt hp1 (congrFun hN 21))) (cwV 1 hts gX4_addGroup_X3_isGoodIn rfl rfl rfl (by decide +kernel) ⟨Nat.le_of_ble_eq_true rfl, Nat.le_of_ble_eq_true rfl⟩) ⟨BX.blind, tw_recv hK hP (by decide) (tw_lt hp1 (congrFun hN 21)) rfl rfl, fun U hU hW => ⟨rfl, BX.of hP hK hS hA hZ hU hW⟩⟩ rfl rfl hl.1 rfl (lv_room (Nat.le_of_ble_eq_true rfl)) dX4_addGroup_29 ⟨Nat.le_of_ble_eq_true rfl, Nat.le_of_ble_eq_true rfl⟩) hS (fun q _ h => h) (fun q h => h) (fun r10 τ9 t H locs ht hvm hw hB hz hk hS => ?_)
        obtain ⟨hF, hN9⟩ := hw
        have hP : PX dC dI ac A ad τ9 H := tw_back hB ht
        have hN : gN τ9 = gN τ0 := hN9.trans hN
        refine lv_if_eq (tgt := 43) hx hb dX4_addGroup_32 (by decide) (fun c11 => ?_) (fun c11 => ?_)
        · have hF := hF.1 c11
          refine lv_iconst (v := (-1)) hx hb dX4_addGroup_43 (by decide) ?_
          exact j44 τ9 p0 hp0 p1 hp1 u2 ((-1 : Int32)) u2 o7 ho7 _ _ _ _ _ hF hP hN hS (lv_sub hl [1, 2, 3] rfl) (fun t v2 H locs ls hF hP hN hS hl => ih t v2 _ _ _ hF hP hN hS hl hEX) hEX
        · have hF := hF.2 c11
          refine lv_aload_n hx hb dX4_addGroup_35 rfl (lv_at hl 2 rfl) ?_
          refine lv_iload_n hx hb dX4_addGroup_36 rfl (lv_at hl 0 rfl) ?_
          refine va_calli (va_runV (As := [.int z5]) (rest := [.int u2, .ref (ad 26 o7)]) ⟨hx, hb, hml, hown, hts⟩ (mX3_worthIn l dC dI ac sa A ad τ9 p1 z5 _ hF (tw_lt hp1 (congrFun hN 21))) (cwV 1 hts gX4_addGroup_X3_worthIn rfl rfl rfl (by decide +kernel) ⟨Nat.le_of_ble_eq_true rfl, Nat.le_of_ble_eq_true rfl⟩) ⟨BX.blind, tw_recv hK hP (by decide) (tw_lt hp1 (congrFun hN 21)) rfl rfl, fun U hU hW => ⟨rfl, BX.of hP hK hS hA hZ hU hW⟩⟩ rfl rfl hl.1 rfl (lv_room (Nat.le_of_ble_eq_true rfl)) dX4_addGroup_37 ⟨Nat.le_of_ble_eq_true rfl, Nat.le_of_ble_eq_true rfl⟩) hS (fun q _ h => h) (fun q h => h) (fun r13 τ12 t H locs ht hvm hw hB hz hk hS => ?_)
          obtain ⟨hF, hN9⟩ := hw
          have hP : PX dC dI ac A ad τ12 H := tw_back hB ht
          have hN : gN τ12 = gN τ0 := hN9.trans hN
          refine lv_goto (tgt := 44) hx hb dX4_addGroup_40 (by decide) ?_
          exact j44 τ12 p0 hp0 p1 hp1 u2 r13 u2 o7 ho7 _ _ _ _ _ hF hP hN hS (lv_sub hl [1, 2, 3] rfl) (fun t v2 H locs ls hF hP hN hS hl => ih t v2 _ _ _ hF hP hN hS hl hEX) hEX
  refine lv_iconst (v := 0) hx hb dX4_addGroup_0 (by decide) ?_
  refine lv_istore_n (lv' := [(2, .int ((0 : Int32))), (0, .ref (ad 8 k0)), (1, .ref (ad 21 k1))]) hx hb dX4_addGroup_1 rfl hl (by decide) rfl (fun ls hl => ?_)
  obtain ⟨n14, hF⟩ := hF
  refine l2 k0 hk0 k1 hk1 _ n14 τ0 ((0 : Int32)) _ _ _ hF hP hN hS (lv_sub hl [1, 2, 0] rfl) ?_
  intro τ15 z16 H locs ls hF hP hN hS hl
  refine lv_aload_n hx hb dX4_addGroup_51 rfl (lv_at hl 0 rfl) ?_
  obtain ⟨o17, eo17, hF⟩ := hF
  have ho17 : o17 < gN τ0 15 := tw_lt (hP.2.2.2 8 k0 0 o17 (by decide) (tw_lt hk0 (congrFun hN 8)) eo17) (congrFun hN 15).symm
  refine tw_get (v := .ref (ad 15 o17)) hx hb hts (by decide +kernel) hown hK hP (by decide) (tw_lt hk0 (congrFun hN 8)) rfl rfl 0 (by decide) (hts (.fieldLink RX4 13 "WineCellar$Planner" "gains" "[[I") (by decide +kernel)) (fun _ h9 => h9) (show some (va_rf ((gR τ15 8 k0 0).map (ad 15))) = some (.ref (ad 15 o17)) by rw [eo17]; rfl) dX4_addGroup_52 ?_
  refine lv_aload_n hx hb dX4_addGroup_55 rfl (lv_at hl 0 rfl) ?_
  refine tw_get (v := .int (gI τ15 8 k0 8)) hx hb hts (by decide +kernel) hown hK hP (by decide) (tw_lt hk0 (congrFun hN 8)) rfl rfl 8 (by decide) (hts (.fieldLink RX4 41 "WineCellar$Planner" "groups" "I") (by decide +kernel)) (fun _ h9 => h9) rfl dX4_addGroup_56 ?_
  obtain ⟨hi19, o18, eo18, hF⟩ := hF
  have ho18 : o18 < gN τ0 26 := tw_lt (hP.2.2.2 15 o17 _ o18 (by decide) (tw_lt ho17 (congrFun hN 15)) eo18) (congrFun hN 26).symm
  refine tw_aald hx hb hK hP (by decide) (tw_lt ho17 (congrFun hN 15)) rfl 8 rfl rfl (fun _ => rfl) hi19 dX4_addGroup_59 ?_
  refine W.eq (g2 := F0 m 60 ls [.ref (ad 26 o18)]) (by rw [eo18]; rfl) ?_
  refine lv_aload_n hx hb dX4_addGroup_60 rfl (lv_at hl 0 rfl) ?_
  refine tw_get (v := .int (gI τ15 8 k0 9)) hx hb hts (by decide +kernel) hown hK hP (by decide) (tw_lt hk0 (congrFun hN 8)) rfl rfl 9 (by decide) (hts (.fieldLink RX4 44 "WineCellar$Planner" "never" "I") (by decide +kernel)) (fun _ h9 => h9) rfl dX4_addGroup_61 ?_
  refine lv_iconst (v := 0) hx hb dX4_addGroup_64 (by decide) ?_
  obtain ⟨hi20, hF⟩ := hF
  refine tw_iast hx hb hK hP hS (by decide) (tw_lt ho18 (congrFun hN 26)) rfl 0 rfl hi20 dX4_addGroup_65 (fun H locs hP hS => ?_)
  obtain ⟨τ21, eτ21⟩ : ∃ y : tw_T, y = sI τ15 26 o18 (gI τ15 8 k0 9).toNatClampNeg ((0 : Int32)) := ⟨_, rfl⟩
  have hF := hF τ21 eτ21
  rw [← eτ21] at hP
  have hN : gN τ21 = gN τ0 := by rw [eτ21]; exact hN
  refine lv_aload_n hx hb dX4_addGroup_66 rfl (lv_at hl 0 rfl) ?_
  obtain ⟨o22, eo22, hF⟩ := hF
  have ho22 : o22 < gN τ0 16 := tw_lt (hP.2.2.2 8 k0 1 o22 (by decide) (tw_lt hk0 (congrFun hN 8)) eo22) (congrFun hN 16).symm
  refine tw_get (v := .ref (ad 16 o22)) hx hb hts (by decide +kernel) hown hK hP (by decide) (tw_lt hk0 (congrFun hN 8)) rfl rfl 1 (by decide) (hts (.fieldLink RX4 18 "WineCellar$Planner" "placed" "[[I") (by decide +kernel)) (fun _ h9 => h9) (show some (va_rf ((gR τ21 8 k0 1).map (ad 16))) = some (.ref (ad 16 o22)) by rw [eo22]; rfl) dX4_addGroup_67 ?_
  refine lv_aload_n hx hb dX4_addGroup_70 rfl (lv_at hl 0 rfl) ?_
  refine tw_get (v := .int (gI τ21 8 k0 8)) hx hb hts (by decide +kernel) hown hK hP (by decide) (tw_lt hk0 (congrFun hN 8)) rfl rfl 8 (by decide) (hts (.fieldLink RX4 41 "WineCellar$Planner" "groups" "I") (by decide +kernel)) (fun _ h9 => h9) rfl dX4_addGroup_71 ?_
  obtain ⟨hi24, o23, eo23, hF⟩ := hF
  have ho23 : o23 < gN τ0 27 := tw_lt (hP.2.2.2 16 o22 _ o23 (by decide) (tw_lt ho22 (congrFun hN 16)) eo23) (congrFun hN 27).symm
  refine tw_aald hx hb hK hP (by decide) (tw_lt ho22 (congrFun hN 16)) rfl 8 rfl rfl (fun _ => rfl) hi24 dX4_addGroup_74 ?_
  refine W.eq (g2 := F0 m 75 ls [.ref (ad 27 o23)]) (by rw [eo23]; rfl) ?_
  refine lv_iconst (v := 0) hx hb dX4_addGroup_75 (by decide) ?_
  refine va_callv (va_runS (As := [.ref (ad 27 o23), .int ((0 : Int32))]) (rest := []) ⟨hx, hb, hml, hown, hts⟩ (mJ7_fill_53178 l dC dI ac sa A ad τ21 27 7 o23 ((0 : Int32)) _ hF (by decide) rfl (tw_lt ho23 (congrFun hN 27))) (va_cwS 2 hts gX4_addGroup_J7_fill_53178 rfl rfl rfl (by decide +kernel) ⟨Nat.le_of_ble_eq_true rfl, Nat.le_of_ble_eq_true rfl⟩) ⟨BX.blind, fun U hU hW => ⟨rfl, BX.of hP hK hS hA hZ hU hW⟩⟩ rfl rfl hl.1 rfl (lv_room (Nat.le_of_ble_eq_true rfl)) dX4_addGroup_76 ⟨Nat.le_of_ble_eq_true rfl, Nat.le_of_ble_eq_true rfl⟩) hS (fun q _ h => h) (fun q h => h) (fun τ25 t H locs ht hvm hw hB hz hk hS => ?_)
  obtain ⟨hF, hN9⟩ := hw
  have hP : PX dC dI ac A ad τ25 H := tw_back hB ht
  have hN : gN τ25 = gN τ0 := hN9.trans hN
  refine lv_aload_n hx hb dX4_addGroup_79 rfl (lv_at hl 0 rfl) ?_
  refine lv_dup hx hb dX4_addGroup_80 rfl ?_
  refine tw_get (v := .int (gI τ25 8 k0 8)) hx hb hts (by decide +kernel) hown hK hP (by decide) (tw_lt hk0 (congrFun hN 8)) rfl rfl 8 (by decide) (hts (.fieldLink RX4 41 "WineCellar$Planner" "groups" "I") (by decide +kernel)) (fun _ h9 => h9) rfl dX4_addGroup_81 ?_
  refine lv_iconst (v := 1) hx hb dX4_addGroup_84 (by decide) ?_
  refine lv_iadd hx hb dX4_addGroup_85 ?_
  refine tw_put (τ' := sI τ25 8 k0 8 ((gI τ25 8 k0 8) + ((1 : Int32)))) (ty := .int) hx hb hts (by decide +kernel) tyX4 tyX4_ok nmX4 hown hK hP hS (by decide) (tw_lt hk0 (congrFun hN 8)) rfl rfl 8 (by decide) (hts (.fieldLink RX4 41 "WineCellar$Planner" "groups" "I") (by decide +kernel)) (fun _ h9 => h9) rfl (by decide +kernel) rfl rfl (Nat.le_of_ble_eq_true rfl) dX4_addGroup_86 (fun H1 ha ho => tw_updI hP (by decide) (tw_lt hk0 (congrFun hN 8)) ha ho) (fun H locs hP hS => ?_)
  obtain ⟨τ26, eτ26⟩ : ∃ y : tw_T, y = sI τ25 8 k0 8 ((gI τ25 8 k0 8) + ((1 : Int32))) := ⟨_, rfl⟩
  have hF := hF τ26 eτ26
  rw [← eτ26] at hP
  have hN : gN τ26 = gN τ0 := by rw [eτ26]; exact hN
  exact W.vret hx hb hr (fun t ht hW => ⟨⟨τ26, rfl, ⟨hF, hN⟩, tw_at hP ht⟩, hS.F ht⟩) hS.2.2 dX4_addGroup_89
def J_X4_offerMover_93 (τ : tw_T) (p0 : Nat) (u1 : Int32) (u2 : Int32) (u3 : Int32) (Q : tw_T → Prop) (RC EX : tw_T → Int32 → Prop) : Prop := ∀ z1 : Int32, z1 = u3 + (1 : Int32) → (RC τ z1)
def J_X4_offerMover_74 (τ : tw_T) (p0 : Nat) (u1 : Int32) (u2 : Int32) (u3 : Int32) (u4 : Int32) (Q : tw_T → Prop) (RC EX : tw_T → Int32 → Prop) : Prop := ∃ o2 : Nat, gR τ 8 p0 6 = some o2 ∧ (vp_in u2 6 ∧ (∃ o3 : Nat, gR τ 25 o2 u2.toNatClampNeg = some o3 ∧ (vp_in u3 7 ∧ (∀ τ6 : tw_T, τ6 = sI τ 29 o3 u3.toNatClampNeg u1 → (∃ o7 : Nat, gR τ6 8 p0 5 = some o7 ∧ (vp_in u2 6 ∧ (∃ o8 : Nat, gR τ6 24 o7 u2.toNatClampNeg = some o8 ∧ (vp_in u3 7 ∧ (∀ τ11 : tw_T, τ11 = sI τ6 28 o8 u3.toNatClampNeg u4 → (J_X4_offerMover_93 τ11 p0 u1 u2 u3 Q RC EX))))))))))
def L_X4_offerMover_2 (p0 : Nat) (u1 : Int32) (u2 : Int32) (Q : tw_T → Prop) (EX : tw_T → Int32 → Prop) : Nat → tw_T → Int32 → Prop
  | 0, _, _ => False
  | n + 1, τ, u3 => (((gI τ 8 p0 9) < u3 → (EX τ u3)) ∧ (¬ (gI τ 8 p0 9) < u3 → (∃ o13 : Nat, gR τ 8 p0 0 = some o13 ∧ (vp_in u1 30 ∧ (∃ o14 : Nat, gR τ 15 o13 u1.toNatClampNeg = some o14 ∧ (vp_in u3 7 ∧ (∃ o17 : Nat, gR τ 8 p0 0 = some o17 ∧ (vp_in u1 30 ∧ (∃ o18 : Nat, gR τ 15 o17 u1.toNatClampNeg = some o18 ∧ (vp_in u2 7 ∧ (∀ z21 : Int32, z21 = (gI τ 26 o14 u3.toNatClampNeg) - (gI τ 26 o18 u2.toNatClampNeg) → (((u3 = u2 → (J_X4_offerMover_93 τ p0 u1 u2 u3 Q (fun t v3 => L_X4_offerMover_2 p0 u1 u2 Q EX n t v3) EX)) ∧ (¬ u3 = u2 → (∃ o23 : Nat, gR τ 8 p0 0 = some o23 ∧ (vp_in u1 30 ∧ (∃ o24 : Nat, gR τ 15 o23 u1.toNatClampNeg = some o24 ∧ (vp_in u3 7 ∧ (((¬ (gI τ 26 o24 u3.toNatClampNeg) = ((-1 : Int32)) → (∃ o28 : Nat, gR τ 8 p0 6 = some o28 ∧ (vp_in u2 6 ∧ (∃ o29 : Nat, gR τ 25 o28 u2.toNatClampNeg = some o29 ∧ (vp_in u3 7 ∧ ((((gI τ 29 o29 u3.toNatClampNeg) = ((-1 : Int32)) → (J_X4_offerMover_74 τ p0 u1 u2 u3 z21 Q (fun t v3 => L_X4_offerMover_2 p0 u1 u2 Q EX n t v3) EX)) ∧ (¬ (gI τ 29 o29 u3.toNatClampNeg) = ((-1 : Int32)) → (∃ o33 : Nat, gR τ 8 p0 5 = some o33 ∧ (vp_in u2 6 ∧ (∃ o34 : Nat, gR τ 24 o33 u2.toNatClampNeg = some o34 ∧ (vp_in u3 7 ∧ (((z21 ≤ (gI τ 28 o34 u3.toNatClampNeg) → (J_X4_offerMover_93 τ p0 u1 u2 u3 Q (fun t v3 => L_X4_offerMover_2 p0 u1 u2 Q EX n t v3) EX)) ∧ (¬ z21 ≤ (gI τ 28 o34 u3.toNatClampNeg) → (J_X4_offerMover_74 τ p0 u1 u2 u3 z21 Q (fun t v3 => L_X4_offerMover_2 p0 u1 u2 Q EX n t v3) EX)))))))))))))))) ∧ ((gI τ 26 o24 u3.toNatClampNeg) = ((-1 : Int32)) → (J_X4_offerMover_93 τ p0 u1 u2 u3 Q (fun t v3 => L_X4_offerMover_2 p0 u1 u2 Q EX n t v3) EX))))))))))))))))))))))
def F_X4_offerMover (τ0 : tw_T) (k0 : Nat) (x1 : Int32) (x2 : Int32) (Q : tw_T → Prop) : Prop := ∃ n38 : Nat, L_X4_offerMover_2 k0 x1 x2 Q (fun (τ39 : tw_T) (z40 : Int32) => Q τ39) n38 τ0 ((0 : Int32))
def rmX4_offerMover : Room := { frames := 0, cells := 0, slots := 0, locals := 0 }
set_option maxHeartbeats 4000000 in
set_option maxRecDepth 100000 in
theorem mX4_offerMover (l : Launch) (dC : Nat → ClassId) (dI : Nat → Nat → Nat) (ac : Nat → ClassId) (sa : Nat → Nat) (A : Nat → Prop) (ad : Nat → Nat → Nat) (τ0 : tw_T) (k0 : Nat) (x1 : Int32) (x2 : Int32) (Q : tw_T → Prop) (hF : F_X4_offerMover τ0 k0 x1 x2 Q) (hk0 : k0 < gN τ0 8) : Met l yX4_offerMover wsX4_offerMover rmX4_offerMover (va_Pc [.ref (ad 8 k0), .int x1, .int x2] (BX dC dI ac sa A ad τ0)) (va_Qv (fun (u : tw_T) => Q u ∧ gN u = gN τ0) (fun u t => PX dC dI ac A ad u t.heap) A) 0 0 A := by
  refine Met.ofW (cc := cX4_offerMover) (maxL := 5) (ret := none) (by decide) rfl ?_
  intro p e s m args below meth c s₁ B hml hv
  obtain ⟨rfl, hP, hK, hA, hZ⟩ := hv
  have hx := B.exec
  have hb := B.bytes
  have hr := B.returns
  have hts := atoms_spec (ws := wsX4_offerMover) B.pre
  have hown : s.vm.findClass RX4 = some m.cls := findClass_of_methodNamed B.named
  have hlocks := B.notSynchronized
  have hS : va_S A s.heap s.heap [] := va_S.rf
  have hN : gN τ0 = gN τ0 := rfl
  have hl := lv_entry ([.ref (ad 8 k0), .int x1, .int x2]) (n := 5) (Nat.le_of_ble_eq_true rfl)
  rw [lg_entry_eq]
  generalize (lg_sl ([.ref (ad 8 k0), .int x1, .int x2]) ++ List.replicate (5 - (lg_sl ([.ref (ad 8 k0), .int x1, .int x2])).length) Slot.unset).toArray = ls at hl ⊢
  have hl : lv_has ls 5 [(0, .ref (ad 8 k0)), (1, .int x1), (2, .int x2)] := hl
  unfold F_X4_offerMover at hF
  have l2 : ∀ (p0 : Nat) (hp0 : p0 < gN τ0 8) (u1 : Int32) (u2 : Int32) (EX : tw_T → Int32 → Prop) (n : Nat) (τ : tw_T) (u3 : Int32) (H : Heap) (locs : List Loc) (ls : Array Slot), L_X4_offerMover_2 p0 u1 u2 Q EX n τ u3 → PX dC dI ac A ad τ H → gN τ = gN τ0 → va_S A s.heap H locs → lv_has ls 5 [(0, .ref (ad 8 p0)), (1, .int u1), (2, .int u2), (3, .int u3)] → (∀ (τ : tw_T) (u3 : Int32) (H : Heap) (locs : List Loc) (ls : Array Slot), EX τ u3 → PX dC dI ac A ad τ H → gN τ = gN τ0 → va_S A s.heap H locs → lv_has ls 5 [(0, .ref (ad 8 p0)), (1, .int u1), (2, .int u2), (3, .int u3)] → W p l e rmX4_offerMover s m ([.ref (ad 8 k0), .int x1, .int x2] : List Value).toArray below meth c H locs 0 0 (MQ below (va_Qv (fun (u : tw_T) => Q u ∧ gN u = gN τ0) (fun u t => PX dC dI ac A ad u t.heap) A) ([.ref (ad 8 k0), .int x1, .int x2] : List Value).toArray s 0 0 A) (F0 m 99 ls [])) → W p l e rmX4_offerMover s m ([.ref (ad 8 k0), .int x1, .int x2] : List Value).toArray below meth c H locs 0 0 (MQ below (va_Qv (fun (u : tw_T) => Q u ∧ gN u = gN τ0) (fun u t => PX dC dI ac A ad u t.heap) A) ([.ref (ad 8 k0), .int x1, .int x2] : List Value).toArray s 0 0 A) (F0 m 2 ls []) := by
    intro p0 hp0 u1 u2 EX n
    induction n with
    | zero => intro τ u3 H locs ls hF; exact hF.elim
    | succ n ih =>
      intro τ u3 H locs ls hF hP hN hS hl hEX
      rw [L_X4_offerMover_2] at hF
      have j93 : ∀ (τ : tw_T) (p0 : Nat) (hp0 : p0 < gN τ0 8) (u1 : Int32) (u2 : Int32) (u3 : Int32) (H : Heap) (locs : List Loc) (ls : Array Slot) (RC EX : tw_T → Int32 → Prop), J_X4_offerMover_93 τ p0 u1 u2 u3 Q RC EX → PX dC dI ac A ad τ H → gN τ = gN τ0 → va_S A s.heap H locs → lv_has ls 5 [(0, .ref (ad 8 p0)), (1, .int u1), (2, .int u2), (3, .int u3)] → (∀ (τ : tw_T) (u3 : Int32) (H : Heap) (locs : List Loc) (ls : Array Slot), RC τ u3 → PX dC dI ac A ad τ H → gN τ = gN τ0 → va_S A s.heap H locs → lv_has ls 5 [(0, .ref (ad 8 p0)), (1, .int u1), (2, .int u2), (3, .int u3)] → W p l e rmX4_offerMover s m ([.ref (ad 8 k0), .int x1, .int x2] : List Value).toArray below meth c H locs 0 0 (MQ below (va_Qv (fun (u : tw_T) => Q u ∧ gN u = gN τ0) (fun u t => PX dC dI ac A ad u t.heap) A) ([.ref (ad 8 k0), .int x1, .int x2] : List Value).toArray s 0 0 A) (F0 m 2 ls [])) → (∀ (τ : tw_T) (u3 : Int32) (H : Heap) (locs : List Loc) (ls : Array Slot), EX τ u3 → PX dC dI ac A ad τ H → gN τ = gN τ0 → va_S A s.heap H locs → lv_has ls 5 [(0, .ref (ad 8 p0)), (1, .int u1), (2, .int u2), (3, .int u3)] → W p l e rmX4_offerMover s m ([.ref (ad 8 k0), .int x1, .int x2] : List Value).toArray below meth c H locs 0 0 (MQ below (va_Qv (fun (u : tw_T) => Q u ∧ gN u = gN τ0) (fun u t => PX dC dI ac A ad u t.heap) A) ([.ref (ad 8 k0), .int x1, .int x2] : List Value).toArray s 0 0 A) (F0 m 99 ls [])) → W p l e rmX4_offerMover s m ([.ref (ad 8 k0), .int x1, .int x2] : List Value).toArray below meth c H locs 0 0 (MQ below (va_Qv (fun (u : tw_T) => Q u ∧ gN u = gN τ0) (fun u t => PX dC dI ac A ad u t.heap) A) ([.ref (ad 8 k0), .int x1, .int x2] : List Value).toArray s 0 0 A) (F0 m 93 ls []) := by
        intro τ p0 hp0 u1 u2 u3 H locs ls RC EX hF hP hN hS hl hRC hEX
        unfold J_X4_offerMover_93 at hF
        obtain ⟨z1, ez1⟩ : ∃ y : Int32, y = u3 + (1 : Int32) := ⟨_, rfl⟩
        have hF := hF z1 ez1
        refine lv_iinc (v := z1) (lv' := [(3, .int z1), (0, .ref (ad 8 p0)), (1, .int u1), (2, .int u2)]) hx hb dX4_offerMover_93 hl (k := 3) rfl (by rw [ez1]; rfl) (by decide) rfl (fun ls hl => ?_)
        refine lv_goto (tgt := 2) hx hb dX4_offerMover_96 (by decide) ?_
        exact hRC τ z1 _ _ _ hF hP hN hS (lv_sub hl [1, 2, 3, 0] rfl)
      have j74 : ∀ (τ : tw_T) (p0 : Nat) (hp0 : p0 < gN τ0 8) (u1 : Int32) (u2 : Int32) (u3 : Int32) (u4 : Int32) (H : Heap) (locs : List Loc) (ls : Array Slot) (RC EX : tw_T → Int32 → Prop), J_X4_offerMover_74 τ p0 u1 u2 u3 u4 Q RC EX → PX dC dI ac A ad τ H → gN τ = gN τ0 → va_S A s.heap H locs → lv_has ls 5 [(0, .ref (ad 8 p0)), (1, .int u1), (2, .int u2), (3, .int u3), (4, .int u4)] → (∀ (τ : tw_T) (u3 : Int32) (H : Heap) (locs : List Loc) (ls : Array Slot), RC τ u3 → PX dC dI ac A ad τ H → gN τ = gN τ0 → va_S A s.heap H locs → lv_has ls 5 [(0, .ref (ad 8 p0)), (1, .int u1), (2, .int u2), (3, .int u3)] → W p l e rmX4_offerMover s m ([.ref (ad 8 k0), .int x1, .int x2] : List Value).toArray below meth c H locs 0 0 (MQ below (va_Qv (fun (u : tw_T) => Q u ∧ gN u = gN τ0) (fun u t => PX dC dI ac A ad u t.heap) A) ([.ref (ad 8 k0), .int x1, .int x2] : List Value).toArray s 0 0 A) (F0 m 2 ls [])) → (∀ (τ : tw_T) (u3 : Int32) (H : Heap) (locs : List Loc) (ls : Array Slot), EX τ u3 → PX dC dI ac A ad τ H → gN τ = gN τ0 → va_S A s.heap H locs → lv_has ls 5 [(0, .ref (ad 8 p0)), (1, .int u1), (2, .int u2), (3, .int u3)] → W p l e rmX4_offerMover s m ([.ref (ad 8 k0), .int x1, .int x2] : List Value).toArray below meth c H locs 0 0 (MQ below (va_Qv (fun (u : tw_T) => Q u ∧ gN u = gN τ0) (fun u t => PX dC dI ac A ad u t.heap) A) ([.ref (ad 8 k0), .int x1, .int x2] : List Value).toArray s 0 0 A) (F0 m 99 ls [])) → W p l e rmX4_offerMover s m ([.ref (ad 8 k0), .int x1, .int x2] : List Value).toArray below meth c H locs 0 0 (MQ below (va_Qv (fun (u : tw_T) => Q u ∧ gN u = gN τ0) (fun u t => PX dC dI ac A ad u t.heap) A) ([.ref (ad 8 k0), .int x1, .int x2] : List Value).toArray s 0 0 A) (F0 m 74 ls []) := by
        intro τ p0 hp0 u1 u2 u3 u4 H locs ls RC EX hF hP hN hS hl hRC hEX
        unfold J_X4_offerMover_74 at hF
        refine lv_aload_n hx hb dX4_offerMover_74 rfl (lv_at hl 0 rfl) ?_
        obtain ⟨o2, eo2, hF⟩ := hF
        have ho2 : o2 < gN τ0 25 := tw_lt (hP.2.2.2 8 p0 6 o2 (by decide) (tw_lt hp0 (congrFun hN 8)) eo2) (congrFun hN 25).symm
        refine tw_get (v := .ref (ad 25 o2)) hx hb hts (by decide +kernel) hown hK hP (by decide) (tw_lt hp0 (congrFun hN 8)) rfl rfl 6 (by decide) (hts (.fieldLink RX4 34 "WineCellar$Planner" "movers" "[[I") (by decide +kernel)) (fun _ h9 => h9) (show some (va_rf ((gR τ 8 p0 6).map (ad 25))) = some (.ref (ad 25 o2)) by rw [eo2]; rfl) dX4_offerMover_75 ?_
        refine lv_iload_n hx hb dX4_offerMover_78 rfl (lv_at hl 2 rfl) ?_
        obtain ⟨hi4, o3, eo3, hF⟩ := hF
        have ho3 : o3 < gN τ0 29 := tw_lt (hP.2.2.2 25 o2 _ o3 (by decide) (tw_lt ho2 (congrFun hN 25)) eo3) (congrFun hN 29).symm
        refine tw_aald hx hb hK hP (by decide) (tw_lt ho2 (congrFun hN 25)) rfl 8 rfl rfl (fun _ => rfl) hi4 dX4_offerMover_79 ?_
        refine W.eq (g2 := F0 m 80 ls [.ref (ad 29 o3)]) (by rw [eo3]; rfl) ?_
        refine lv_iload_n hx hb dX4_offerMover_80 rfl (lv_at hl 3 rfl) ?_
        refine lv_iload_n hx hb dX4_offerMover_81 rfl (lv_at hl 1 rfl) ?_
        obtain ⟨hi5, hF⟩ := hF
        refine tw_iast hx hb hK hP hS (by decide) (tw_lt ho3 (congrFun hN 29)) rfl 0 rfl hi5 dX4_offerMover_82 (fun H locs hP hS => ?_)
        obtain ⟨τ6, eτ6⟩ : ∃ y : tw_T, y = sI τ 29 o3 u3.toNatClampNeg u1 := ⟨_, rfl⟩
        have hF := hF τ6 eτ6
        rw [← eτ6] at hP
        have hN : gN τ6 = gN τ0 := by rw [eτ6]; exact hN
        refine lv_aload_n hx hb dX4_offerMover_83 rfl (lv_at hl 0 rfl) ?_
        obtain ⟨o7, eo7, hF⟩ := hF
        have ho7 : o7 < gN τ0 24 := tw_lt (hP.2.2.2 8 p0 5 o7 (by decide) (tw_lt hp0 (congrFun hN 8)) eo7) (congrFun hN 24).symm
        refine tw_get (v := .ref (ad 24 o7)) hx hb hts (by decide +kernel) hown hK hP (by decide) (tw_lt hp0 (congrFun hN 8)) rfl rfl 5 (by decide) (hts (.fieldLink RX4 31 "WineCellar$Planner" "changes" "[[I") (by decide +kernel)) (fun _ h9 => h9) (show some (va_rf ((gR τ6 8 p0 5).map (ad 24))) = some (.ref (ad 24 o7)) by rw [eo7]; rfl) dX4_offerMover_84 ?_
        refine lv_iload_n hx hb dX4_offerMover_87 rfl (lv_at hl 2 rfl) ?_
        obtain ⟨hi9, o8, eo8, hF⟩ := hF
        have ho8 : o8 < gN τ0 28 := tw_lt (hP.2.2.2 24 o7 _ o8 (by decide) (tw_lt ho7 (congrFun hN 24)) eo8) (congrFun hN 28).symm
        refine tw_aald hx hb hK hP (by decide) (tw_lt ho7 (congrFun hN 24)) rfl 8 rfl rfl (fun _ => rfl) hi9 dX4_offerMover_88 ?_
        refine W.eq (g2 := F0 m 89 ls [.ref (ad 28 o8)]) (by rw [eo8]; rfl) ?_
        refine lv_iload_n hx hb dX4_offerMover_89 rfl (lv_at hl 3 rfl) ?_
        refine lv_iload hx hb dX4_offerMover_90 (lv_at hl 4 rfl) ?_
        obtain ⟨hi10, hF⟩ := hF
        refine tw_iast hx hb hK hP hS (by decide) (tw_lt ho8 (congrFun hN 28)) rfl 0 rfl hi10 dX4_offerMover_92 (fun H locs hP hS => ?_)
        obtain ⟨τ11, eτ11⟩ : ∃ y : tw_T, y = sI τ6 28 o8 u3.toNatClampNeg u4 := ⟨_, rfl⟩
        have hF := hF τ11 eτ11
        rw [← eτ11] at hP
        have hN : gN τ11 = gN τ0 := by rw [eτ11]; exact hN
        exact j93 τ11 p0 hp0 u1 u2 u3 _ _ _ RC EX hF hP hN hS (lv_sub hl [0, 1, 2, 3] rfl) hRC hEX
      refine lv_iload_n hx hb dX4_offerMover_2 rfl (lv_at hl 3 rfl) ?_
      refine lv_aload_n hx hb dX4_offerMover_3 rfl (lv_at hl 0 rfl) ?_
      refine tw_get (v := .int (gI τ 8 p0 9)) hx hb hts (by decide +kernel) hown hK hP (by decide) (tw_lt hp0 (congrFun hN 8)) rfl rfl 9 (by decide) (hts (.fieldLink RX4 44 "WineCellar$Planner" "never" "I") (by decide +kernel)) (fun _ h9 => h9) rfl dX4_offerMover_4 ?_
      refine lv_icmp_gt (tgt := 99) hx hb dX4_offerMover_7 (by decide) (fun c12 => ?_) (fun c12 => ?_)
      · have hF := hF.1 c12
        exact hEX τ u3 _ _ _ hF hP hN hS (lv_sub hl [0, 1, 2, 3] rfl)
      · have hF := hF.2 c12
        refine lv_aload_n hx hb dX4_offerMover_10 rfl (lv_at hl 0 rfl) ?_
        obtain ⟨o13, eo13, hF⟩ := hF
        have ho13 : o13 < gN τ0 15 := tw_lt (hP.2.2.2 8 p0 0 o13 (by decide) (tw_lt hp0 (congrFun hN 8)) eo13) (congrFun hN 15).symm
        refine tw_get (v := .ref (ad 15 o13)) hx hb hts (by decide +kernel) hown hK hP (by decide) (tw_lt hp0 (congrFun hN 8)) rfl rfl 0 (by decide) (hts (.fieldLink RX4 13 "WineCellar$Planner" "gains" "[[I") (by decide +kernel)) (fun _ h9 => h9) (show some (va_rf ((gR τ 8 p0 0).map (ad 15))) = some (.ref (ad 15 o13)) by rw [eo13]; rfl) dX4_offerMover_11 ?_
        refine lv_iload_n hx hb dX4_offerMover_14 rfl (lv_at hl 1 rfl) ?_
        obtain ⟨hi15, o14, eo14, hF⟩ := hF
        have ho14 : o14 < gN τ0 26 := tw_lt (hP.2.2.2 15 o13 _ o14 (by decide) (tw_lt ho13 (congrFun hN 15)) eo14) (congrFun hN 26).symm
        refine tw_aald hx hb hK hP (by decide) (tw_lt ho13 (congrFun hN 15)) rfl 8 rfl rfl (fun _ => rfl) hi15 dX4_offerMover_15 ?_
        refine W.eq (g2 := F0 m 16 ls [.ref (ad 26 o14)]) (by rw [eo14]; rfl) ?_
        refine lv_iload_n hx hb dX4_offerMover_16 rfl (lv_at hl 3 rfl) ?_
        obtain ⟨hi16, hF⟩ := hF
        refine tw_iald hx hb hK hP (by decide) (tw_lt ho14 (congrFun hN 26)) rfl 0 rfl hi16 dX4_offerMover_17 ?_
        refine lv_aload_n hx hb dX4_offerMover_18 rfl (lv_at hl 0 rfl) ?_
        obtain ⟨o17, eo17, hF⟩ := hF
        have ho17 : o17 < gN τ0 15 := tw_lt (hP.2.2.2 8 p0 0 o17 (by decide) (tw_lt hp0 (congrFun hN 8)) eo17) (congrFun hN 15).symm
        refine tw_get (v := .ref (ad 15 o17)) hx hb hts (by decide +kernel) hown hK hP (by decide) (tw_lt hp0 (congrFun hN 8)) rfl rfl 0 (by decide) (hts (.fieldLink RX4 13 "WineCellar$Planner" "gains" "[[I") (by decide +kernel)) (fun _ h9 => h9) (show some (va_rf ((gR τ 8 p0 0).map (ad 15))) = some (.ref (ad 15 o17)) by rw [eo17]; rfl) dX4_offerMover_19 ?_
        refine lv_iload_n hx hb dX4_offerMover_22 rfl (lv_at hl 1 rfl) ?_
        obtain ⟨hi19, o18, eo18, hF⟩ := hF
        have ho18 : o18 < gN τ0 26 := tw_lt (hP.2.2.2 15 o17 _ o18 (by decide) (tw_lt ho17 (congrFun hN 15)) eo18) (congrFun hN 26).symm
        refine tw_aald hx hb hK hP (by decide) (tw_lt ho17 (congrFun hN 15)) rfl 8 rfl rfl (fun _ => rfl) hi19 dX4_offerMover_23 ?_
        refine W.eq (g2 := F0 m 24 ls [.ref (ad 26 o18), .int (gI τ 26 o14 u3.toNatClampNeg)]) (by rw [eo18]; rfl) ?_
        refine lv_iload_n hx hb dX4_offerMover_24 rfl (lv_at hl 2 rfl) ?_
        obtain ⟨hi20, hF⟩ := hF
        refine tw_iald hx hb hK hP (by decide) (tw_lt ho18 (congrFun hN 26)) rfl 0 rfl hi20 dX4_offerMover_25 ?_
        refine lv_isub hx hb dX4_offerMover_26 ?_
        refine lv_topi (fun z21 ez21 => ?_)
        have hF := hF z21 ez21
        refine lv_istore (lv' := [(4, .int z21), (0, .ref (ad 8 p0)), (1, .int u1), (2, .int u2), (3, .int u3)]) hx hb dX4_offerMover_27 hl (by decide) rfl (fun ls hl => ?_)
        refine lv_iload_n hx hb dX4_offerMover_29 rfl (lv_at hl 4 rfl) ?_
        refine lv_iload_n hx hb dX4_offerMover_30 rfl (lv_at hl 3 rfl) ?_
        refine lv_icmp_eq (tgt := 93) hx hb dX4_offerMover_31 (by decide) (fun c22 => ?_) (fun c22 => ?_)
        · have hF := hF.1 c22
          exact j93 τ p0 hp0 u1 u2 u3 _ _ _ _ _ hF hP hN hS (lv_sub hl [1, 2, 3, 4] rfl) (fun t v3 H locs ls hF hP hN hS hl => ih t v3 _ _ _ hF hP hN hS hl hEX) hEX
        · have hF := hF.2 c22
          refine lv_aload_n hx hb dX4_offerMover_34 rfl (lv_at hl 1 rfl) ?_
          obtain ⟨o23, eo23, hF⟩ := hF
          have ho23 : o23 < gN τ0 15 := tw_lt (hP.2.2.2 8 p0 0 o23 (by decide) (tw_lt hp0 (congrFun hN 8)) eo23) (congrFun hN 15).symm
          refine tw_get (v := .ref (ad 15 o23)) hx hb hts (by decide +kernel) hown hK hP (by decide) (tw_lt hp0 (congrFun hN 8)) rfl rfl 0 (by decide) (hts (.fieldLink RX4 13 "WineCellar$Planner" "gains" "[[I") (by decide +kernel)) (fun _ h9 => h9) (show some (va_rf ((gR τ 8 p0 0).map (ad 15))) = some (.ref (ad 15 o23)) by rw [eo23]; rfl) dX4_offerMover_35 ?_
          refine lv_iload_n hx hb dX4_offerMover_38 rfl (lv_at hl 2 rfl) ?_
          obtain ⟨hi25, o24, eo24, hF⟩ := hF
          have ho24 : o24 < gN τ0 26 := tw_lt (hP.2.2.2 15 o23 _ o24 (by decide) (tw_lt ho23 (congrFun hN 15)) eo24) (congrFun hN 26).symm
          refine tw_aald hx hb hK hP (by decide) (tw_lt ho23 (congrFun hN 15)) rfl 8 rfl rfl (fun _ => rfl) hi25 dX4_offerMover_39 ?_
          refine W.eq (g2 := F0 m 40 ls [.ref (ad 26 o24)]) (by rw [eo24]; rfl) ?_
          refine lv_iload_n hx hb dX4_offerMover_40 rfl (lv_at hl 4 rfl) ?_
          obtain ⟨hi26, hF⟩ := hF
          refine tw_iald hx hb hK hP (by decide) (tw_lt ho24 (congrFun hN 26)) rfl 0 rfl hi26 dX4_offerMover_41 ?_
          refine lv_iconst (v := (-1)) hx hb dX4_offerMover_42 (by decide) ?_
          refine lv_icmp_ne (tgt := 49) hx hb dX4_offerMover_43 (by decide) (fun c27 => ?_) (fun c27 => ?_)
          · have hF := hF.1 c27
            refine lv_aload_n hx hb dX4_offerMover_49 rfl (lv_at hl 1 rfl) ?_
            obtain ⟨o28, eo28, hF⟩ := hF
            have ho28 : o28 < gN τ0 25 := tw_lt (hP.2.2.2 8 p0 6 o28 (by decide) (tw_lt hp0 (congrFun hN 8)) eo28) (congrFun hN 25).symm
            refine tw_get (v := .ref (ad 25 o28)) hx hb hts (by decide +kernel) hown hK hP (by decide) (tw_lt hp0 (congrFun hN 8)) rfl rfl 6 (by decide) (hts (.fieldLink RX4 34 "WineCellar$Planner" "movers" "[[I") (by decide +kernel)) (fun _ h9 => h9) (show some (va_rf ((gR τ 8 p0 6).map (ad 25))) = some (.ref (ad 25 o28)) by rw [eo28]; rfl) dX4_offerMover_50 ?_
            refine lv_iload_n hx hb dX4_offerMover_53 rfl (lv_at hl 3 rfl) ?_
            obtain ⟨hi30, o29, eo29, hF⟩ := hF
            have ho29 : o29 < gN τ0 29 := tw_lt (hP.2.2.2 25 o28 _ o29 (by decide) (tw_lt ho28 (congrFun hN 25)) eo29) (congrFun hN 29).symm
            refine tw_aald hx hb hK hP (by decide) (tw_lt ho28 (congrFun hN 25)) rfl 8 rfl rfl (fun _ => rfl) hi30 dX4_offerMover_54 ?_
            refine W.eq (g2 := F0 m 55 ls [.ref (ad 29 o29)]) (by rw [eo29]; rfl) ?_
            refine lv_iload_n hx hb dX4_offerMover_55 rfl (lv_at hl 4 rfl) ?_
            obtain ⟨hi31, hF⟩ := hF
            refine tw_iald hx hb hK hP (by decide) (tw_lt ho29 (congrFun hN 29)) rfl 0 rfl hi31 dX4_offerMover_56 ?_
            refine lv_iconst (v := (-1)) hx hb dX4_offerMover_57 (by decide) ?_
            refine lv_icmp_eq (tgt := 74) hx hb dX4_offerMover_58 (by decide) (fun c32 => ?_) (fun c32 => ?_)
            · have hF := hF.1 c32
              exact j74 τ p0 hp0 u1 u2 u3 z21 _ _ _ _ _ hF hP hN hS (lv_sub hl [1, 2, 3, 4, 0] rfl) (fun t v3 H locs ls hF hP hN hS hl => ih t v3 _ _ _ hF hP hN hS hl hEX) hEX
            · have hF := hF.2 c32
              refine lv_iload hx hb dX4_offerMover_61 (lv_at hl 0 rfl) ?_
              refine lv_aload_n hx hb dX4_offerMover_63 rfl (lv_at hl 1 rfl) ?_
              obtain ⟨o33, eo33, hF⟩ := hF
              have ho33 : o33 < gN τ0 24 := tw_lt (hP.2.2.2 8 p0 5 o33 (by decide) (tw_lt hp0 (congrFun hN 8)) eo33) (congrFun hN 24).symm
              refine tw_get (v := .ref (ad 24 o33)) hx hb hts (by decide +kernel) hown hK hP (by decide) (tw_lt hp0 (congrFun hN 8)) rfl rfl 5 (by decide) (hts (.fieldLink RX4 31 "WineCellar$Planner" "changes" "[[I") (by decide +kernel)) (fun _ h9 => h9) (show some (va_rf ((gR τ 8 p0 5).map (ad 24))) = some (.ref (ad 24 o33)) by rw [eo33]; rfl) dX4_offerMover_64 ?_
              refine lv_iload_n hx hb dX4_offerMover_67 rfl (lv_at hl 3 rfl) ?_
              obtain ⟨hi35, o34, eo34, hF⟩ := hF
              have ho34 : o34 < gN τ0 28 := tw_lt (hP.2.2.2 24 o33 _ o34 (by decide) (tw_lt ho33 (congrFun hN 24)) eo34) (congrFun hN 28).symm
              refine tw_aald hx hb hK hP (by decide) (tw_lt ho33 (congrFun hN 24)) rfl 8 rfl rfl (fun _ => rfl) hi35 dX4_offerMover_68 ?_
              refine W.eq (g2 := F0 m 69 ls [.ref (ad 28 o34), .int z21]) (by rw [eo34]; rfl) ?_
              refine lv_iload_n hx hb dX4_offerMover_69 rfl (lv_at hl 4 rfl) ?_
              obtain ⟨hi36, hF⟩ := hF
              refine tw_iald hx hb hK hP (by decide) (tw_lt ho34 (congrFun hN 28)) rfl 0 rfl hi36 dX4_offerMover_70 ?_
              refine lv_icmp_le (tgt := 93) hx hb dX4_offerMover_71 (by decide) (fun c37 => ?_) (fun c37 => ?_)
              · have hF := hF.1 c37
                exact j93 τ p0 hp0 u1 u2 u3 _ _ _ _ _ hF hP hN hS (lv_sub hl [1, 2, 3, 4] rfl) (fun t v3 H locs ls hF hP hN hS hl => ih t v3 _ _ _ hF hP hN hS hl hEX) hEX
              · have hF := hF.2 c37
                exact j74 τ p0 hp0 u1 u2 u3 z21 _ _ _ _ _ hF hP hN hS (lv_sub hl [1, 2, 3, 4, 0] rfl) (fun t v3 H locs ls hF hP hN hS hl => ih t v3 _ _ _ hF hP hN hS hl hEX) hEX
          · have hF := hF.2 c27
            refine lv_goto (tgt := 93) hx hb dX4_offerMover_46 (by decide) ?_
            exact j93 τ p0 hp0 u1 u2 u3 _ _ _ _ _ hF hP hN hS (lv_sub hl [1, 2, 3, 4] rfl) (fun t v3 H locs ls hF hP hN hS hl => ih t v3 _ _ _ hF hP hN hS hl hEX) hEX
  refine lv_iconst (v := 0) hx hb dX4_offerMover_0 (by decide) ?_
  refine lv_istore_n (lv' := [(3, .int ((0 : Int32))), (0, .ref (ad 8 k0)), (1, .int x1), (2, .int x2)]) hx hb dX4_offerMover_1 rfl hl (by decide) rfl (fun ls hl => ?_)
  obtain ⟨n38, hF⟩ := hF
  refine l2 k0 hk0 x1 x2 _ n38 τ0 ((0 : Int32)) _ _ _ hF hP hN hS (lv_sub hl [1, 2, 3, 0] rfl) ?_
  intro τ39 z40 H locs ls hF hP hN hS hl
  exact W.vret hx hb hr (fun t ht hW => ⟨⟨τ39, rfl, ⟨hF, hN⟩, tw_at hP ht⟩, hS.F ht⟩) hS.2.2 dX4_offerMover_99
def J_X4_findMovers_37 (τ : tw_T) (p0 : Nat) (u1 : Int32) (u2 : Int32) (Q : tw_T → Prop) (RC EX : tw_T → Int32 → Prop) : Prop := ∀ z1 : Int32, z1 = u2 + (1 : Int32) → (RC τ z1)
def L_X4_findMovers_12 (p0 : Nat) (u1 : Int32) (Q : tw_T → Prop) (EX : tw_T → Int32 → Prop) : Nat → tw_T → Int32 → Prop
  | 0, _, _ => False
  | n + 1, τ, u2 => (((gI τ 8 p0 8) ≤ u2 → (EX τ u2)) ∧ (¬ (gI τ 8 p0 8) ≤ u2 → (∃ o3 : Nat, gR τ 8 p0 1 = some o3 ∧ (vp_in u2 30 ∧ (∃ o4 : Nat, gR τ 16 o3 u2.toNatClampNeg = some o4 ∧ (vp_in u1 7 ∧ ((((gI τ 27 o4 u1.toNatClampNeg) ≤ 0 → (J_X4_findMovers_37 τ p0 u1 u2 Q (fun t v2 => L_X4_findMovers_12 p0 u1 Q EX n t v2) EX)) ∧ (¬ (gI τ 27 o4 u1.toNatClampNeg) ≤ 0 → (F_X4_offerMover τ p0 u2 u1 (fun (τ8 : tw_T) => (J_X4_findMovers_37 τ8 p0 u1 u2 Q (fun t v2 => L_X4_findMovers_12 p0 u1 Q EX n t v2) EX))))))))))))
def F_X4_findMovers (τ0 : tw_T) (k0 : Nat) (x1 : Int32) (Q : tw_T → Prop) : Prop := ∃ o9 : Nat, gR τ0 8 k0 6 = some o9 ∧ (vp_in x1 6 ∧ (∃ o10 : Nat, gR τ0 25 o9 x1.toNatClampNeg = some o10 ∧ (F_J7_fill_53178 τ0 29 7 o10 ((-1 : Int32)) (fun (τ12 : tw_T) => (∃ n13 : Nat, L_X4_findMovers_12 k0 x1 Q (fun (τ14 : tw_T) (z15 : Int32) => Q τ14) n13 τ12 ((0 : Int32)))))))
def rmX4_findMovers : Room := { frames := 1, cells := 0, slots := 0, locals := 24 }
set_option maxHeartbeats 4000000 in
set_option maxRecDepth 100000 in
theorem mX4_findMovers (l : Launch) (dC : Nat → ClassId) (dI : Nat → Nat → Nat) (ac : Nat → ClassId) (sa : Nat → Nat) (A : Nat → Prop) (ad : Nat → Nat → Nat) (τ0 : tw_T) (k0 : Nat) (x1 : Int32) (Q : tw_T → Prop) (hF : F_X4_findMovers τ0 k0 x1 Q) (hk0 : k0 < gN τ0 8) : Met l yX4_findMovers wsX4_findMovers rmX4_findMovers (va_Pc [.ref (ad 8 k0), .int x1] (BX dC dI ac sa A ad τ0)) (va_Qv (fun (u : tw_T) => Q u ∧ gN u = gN τ0) (fun u t => PX dC dI ac A ad u t.heap) A) 0 0 A := by
  refine Met.ofW (cc := cX4_findMovers) (maxL := 3) (ret := none) (by decide) rfl ?_
  intro p e s m args below meth c s₁ B hml hv
  obtain ⟨rfl, hP, hK, hA, hZ⟩ := hv
  have hx := B.exec
  have hb := B.bytes
  have hr := B.returns
  have hts := atoms_spec (ws := wsX4_findMovers) B.pre
  have hown : s.vm.findClass RX4 = some m.cls := findClass_of_methodNamed B.named
  have hlocks := B.notSynchronized
  have hS : va_S A s.heap s.heap [] := va_S.rf
  have hN : gN τ0 = gN τ0 := rfl
  have hl := lv_entry ([.ref (ad 8 k0), .int x1]) (n := 3) (Nat.le_of_ble_eq_true rfl)
  rw [lg_entry_eq]
  generalize (lg_sl ([.ref (ad 8 k0), .int x1]) ++ List.replicate (3 - (lg_sl ([.ref (ad 8 k0), .int x1])).length) Slot.unset).toArray = ls at hl ⊢
  have hl : lv_has ls 3 [(0, .ref (ad 8 k0)), (1, .int x1)] := hl
  unfold F_X4_findMovers at hF
  have l12 : ∀ (p0 : Nat) (hp0 : p0 < gN τ0 8) (u1 : Int32) (EX : tw_T → Int32 → Prop) (n : Nat) (τ : tw_T) (u2 : Int32) (H : Heap) (locs : List Loc) (ls : Array Slot), L_X4_findMovers_12 p0 u1 Q EX n τ u2 → PX dC dI ac A ad τ H → gN τ = gN τ0 → va_S A s.heap H locs → lv_has ls 3 [(0, .ref (ad 8 p0)), (1, .int u1), (2, .int u2)] → (∀ (τ : tw_T) (u2 : Int32) (H : Heap) (locs : List Loc) (ls : Array Slot), EX τ u2 → PX dC dI ac A ad τ H → gN τ = gN τ0 → va_S A s.heap H locs → lv_has ls 3 [(0, .ref (ad 8 p0)), (1, .int u1), (2, .int u2)] → W p l e rmX4_findMovers s m ([.ref (ad 8 k0), .int x1] : List Value).toArray below meth c H locs 0 0 (MQ below (va_Qv (fun (u : tw_T) => Q u ∧ gN u = gN τ0) (fun u t => PX dC dI ac A ad u t.heap) A) ([.ref (ad 8 k0), .int x1] : List Value).toArray s 0 0 A) (F0 m 43 ls [])) → W p l e rmX4_findMovers s m ([.ref (ad 8 k0), .int x1] : List Value).toArray below meth c H locs 0 0 (MQ below (va_Qv (fun (u : tw_T) => Q u ∧ gN u = gN τ0) (fun u t => PX dC dI ac A ad u t.heap) A) ([.ref (ad 8 k0), .int x1] : List Value).toArray s 0 0 A) (F0 m 12 ls []) := by
    intro p0 hp0 u1 EX n
    induction n with
    | zero => intro τ u2 H locs ls hF; exact hF.elim
    | succ n ih =>
      intro τ u2 H locs ls hF hP hN hS hl hEX
      rw [L_X4_findMovers_12] at hF
      have j37 : ∀ (τ : tw_T) (p0 : Nat) (hp0 : p0 < gN τ0 8) (u1 : Int32) (u2 : Int32) (H : Heap) (locs : List Loc) (ls : Array Slot) (RC EX : tw_T → Int32 → Prop), J_X4_findMovers_37 τ p0 u1 u2 Q RC EX → PX dC dI ac A ad τ H → gN τ = gN τ0 → va_S A s.heap H locs → lv_has ls 3 [(0, .ref (ad 8 p0)), (1, .int u1), (2, .int u2)] → (∀ (τ : tw_T) (u2 : Int32) (H : Heap) (locs : List Loc) (ls : Array Slot), RC τ u2 → PX dC dI ac A ad τ H → gN τ = gN τ0 → va_S A s.heap H locs → lv_has ls 3 [(0, .ref (ad 8 p0)), (1, .int u1), (2, .int u2)] → W p l e rmX4_findMovers s m ([.ref (ad 8 k0), .int x1] : List Value).toArray below meth c H locs 0 0 (MQ below (va_Qv (fun (u : tw_T) => Q u ∧ gN u = gN τ0) (fun u t => PX dC dI ac A ad u t.heap) A) ([.ref (ad 8 k0), .int x1] : List Value).toArray s 0 0 A) (F0 m 12 ls [])) → (∀ (τ : tw_T) (u2 : Int32) (H : Heap) (locs : List Loc) (ls : Array Slot), EX τ u2 → PX dC dI ac A ad τ H → gN τ = gN τ0 → va_S A s.heap H locs → lv_has ls 3 [(0, .ref (ad 8 p0)), (1, .int u1), (2, .int u2)] → W p l e rmX4_findMovers s m ([.ref (ad 8 k0), .int x1] : List Value).toArray below meth c H locs 0 0 (MQ below (va_Qv (fun (u : tw_T) => Q u ∧ gN u = gN τ0) (fun u t => PX dC dI ac A ad u t.heap) A) ([.ref (ad 8 k0), .int x1] : List Value).toArray s 0 0 A) (F0 m 43 ls [])) → W p l e rmX4_findMovers s m ([.ref (ad 8 k0), .int x1] : List Value).toArray below meth c H locs 0 0 (MQ below (va_Qv (fun (u : tw_T) => Q u ∧ gN u = gN τ0) (fun u t => PX dC dI ac A ad u t.heap) A) ([.ref (ad 8 k0), .int x1] : List Value).toArray s 0 0 A) (F0 m 37 ls []) := by
        intro τ p0 hp0 u1 u2 H locs ls RC EX hF hP hN hS hl hRC hEX
        unfold J_X4_findMovers_37 at hF
        obtain ⟨z1, ez1⟩ : ∃ y : Int32, y = u2 + (1 : Int32) := ⟨_, rfl⟩
        have hF := hF z1 ez1
        refine lv_iinc (v := z1) (lv' := [(2, .int z1), (0, .ref (ad 8 p0)), (1, .int u1)]) hx hb dX4_findMovers_37 hl (k := 2) rfl (by rw [ez1]; rfl) (by decide) rfl (fun ls hl => ?_)
        refine lv_goto (tgt := 12) hx hb dX4_findMovers_40 (by decide) ?_
        exact hRC τ z1 _ _ _ hF hP hN hS (lv_sub hl [1, 2, 0] rfl)
      refine lv_iload_n hx hb dX4_findMovers_12 rfl (lv_at hl 2 rfl) ?_
      refine lv_aload_n hx hb dX4_findMovers_13 rfl (lv_at hl 0 rfl) ?_
      refine tw_get (v := .int (gI τ 8 p0 8)) hx hb hts (by decide +kernel) hown hK hP (by decide) (tw_lt hp0 (congrFun hN 8)) rfl rfl 8 (by decide) (hts (.fieldLink RX4 41 "WineCellar$Planner" "groups" "I") (by decide +kernel)) (fun _ h9 => h9) rfl dX4_findMovers_14 ?_
      refine lv_icmp_ge (tgt := 43) hx hb dX4_findMovers_17 (by decide) (fun c2 => ?_) (fun c2 => ?_)
      · have hF := hF.1 c2
        exact hEX τ u2 _ _ _ hF hP hN hS (lv_sub hl [0, 1, 2] rfl)
      · have hF := hF.2 c2
        refine lv_aload_n hx hb dX4_findMovers_20 rfl (lv_at hl 0 rfl) ?_
        obtain ⟨o3, eo3, hF⟩ := hF
        have ho3 : o3 < gN τ0 16 := tw_lt (hP.2.2.2 8 p0 1 o3 (by decide) (tw_lt hp0 (congrFun hN 8)) eo3) (congrFun hN 16).symm
        refine tw_get (v := .ref (ad 16 o3)) hx hb hts (by decide +kernel) hown hK hP (by decide) (tw_lt hp0 (congrFun hN 8)) rfl rfl 1 (by decide) (hts (.fieldLink RX4 18 "WineCellar$Planner" "placed" "[[I") (by decide +kernel)) (fun _ h9 => h9) (show some (va_rf ((gR τ 8 p0 1).map (ad 16))) = some (.ref (ad 16 o3)) by rw [eo3]; rfl) dX4_findMovers_21 ?_
        refine lv_iload_n hx hb dX4_findMovers_24 rfl (lv_at hl 2 rfl) ?_
        obtain ⟨hi5, o4, eo4, hF⟩ := hF
        have ho4 : o4 < gN τ0 27 := tw_lt (hP.2.2.2 16 o3 _ o4 (by decide) (tw_lt ho3 (congrFun hN 16)) eo4) (congrFun hN 27).symm
        refine tw_aald hx hb hK hP (by decide) (tw_lt ho3 (congrFun hN 16)) rfl 8 rfl rfl (fun _ => rfl) hi5 dX4_findMovers_25 ?_
        refine W.eq (g2 := F0 m 26 ls [.ref (ad 27 o4)]) (by rw [eo4]; rfl) ?_
        refine lv_iload_n hx hb dX4_findMovers_26 rfl (lv_at hl 1 rfl) ?_
        obtain ⟨hi6, hF⟩ := hF
        refine tw_iald hx hb hK hP (by decide) (tw_lt ho4 (congrFun hN 27)) rfl 0 rfl hi6 dX4_findMovers_27 ?_
        refine lv_if_le (tgt := 37) hx hb dX4_findMovers_28 (by decide) (fun c7 => ?_) (fun c7 => ?_)
        · have hF := hF.1 c7
          exact j37 τ p0 hp0 u1 u2 _ _ _ _ _ hF hP hN hS (lv_sub hl [0, 1, 2] rfl) (fun t v2 H locs ls hF hP hN hS hl => ih t v2 _ _ _ hF hP hN hS hl hEX) hEX
        · have hF := hF.2 c7
          refine lv_aload_n hx hb dX4_findMovers_31 rfl (lv_at hl 0 rfl) ?_
          refine lv_iload_n hx hb dX4_findMovers_32 rfl (lv_at hl 2 rfl) ?_
          refine lv_iload_n hx hb dX4_findMovers_33 rfl (lv_at hl 1 rfl) ?_
          refine va_callv (va_runV (As := [.int u2, .int u1]) (rest := []) ⟨hx, hb, hml, hown, hts⟩ (mX4_offerMover l dC dI ac sa A ad τ p0 u2 u1 _ hF (tw_lt hp0 (congrFun hN 8))) (cwV 2 hts gX4_findMovers_X4_offerMover rfl rfl rfl (by decide +kernel) ⟨Nat.le_of_ble_eq_true rfl, Nat.le_of_ble_eq_true rfl⟩) ⟨BX.blind, tw_recv hK hP (by decide) (tw_lt hp0 (congrFun hN 8)) rfl rfl, fun U hU hW => ⟨rfl, BX.of hP hK hS hA hZ hU hW⟩⟩ rfl rfl hl.1 rfl (lv_room (Nat.le_of_ble_eq_true rfl)) dX4_findMovers_34 ⟨Nat.le_of_ble_eq_true rfl, Nat.le_of_ble_eq_true rfl⟩) hS (fun q _ h => h) (fun q h => h) (fun τ8 t H locs ht hvm hw hB hz hk hS => ?_)
          obtain ⟨hF, hN9⟩ := hw
          have hP : PX dC dI ac A ad τ8 H := tw_back hB ht
          have hN : gN τ8 = gN τ0 := hN9.trans hN
          exact j37 τ8 p0 hp0 u1 u2 _ _ _ _ _ hF hP hN hS (lv_sub hl [0, 1, 2] rfl) (fun t v2 H locs ls hF hP hN hS hl => ih t v2 _ _ _ hF hP hN hS hl hEX) hEX
  refine lv_aload_n hx hb dX4_findMovers_0 rfl (lv_at hl 0 rfl) ?_
  obtain ⟨o9, eo9, hF⟩ := hF
  have ho9 : o9 < gN τ0 25 := tw_lt (hP.2.2.2 8 k0 6 o9 (by decide) hk0 eo9) (congrFun hN 25).symm
  refine tw_get (v := .ref (ad 25 o9)) hx hb hts (by decide +kernel) hown hK hP (by decide) hk0 rfl rfl 6 (by decide) (hts (.fieldLink RX4 34 "WineCellar$Planner" "movers" "[[I") (by decide +kernel)) (fun _ h9 => h9) (show some (va_rf ((gR τ0 8 k0 6).map (ad 25))) = some (.ref (ad 25 o9)) by rw [eo9]; rfl) dX4_findMovers_1 ?_
  refine lv_iload_n hx hb dX4_findMovers_4 rfl (lv_at hl 1 rfl) ?_
  obtain ⟨hi11, o10, eo10, hF⟩ := hF
  have ho10 : o10 < gN τ0 29 := tw_lt (hP.2.2.2 25 o9 _ o10 (by decide) ho9 eo10) (congrFun hN 29).symm
  refine tw_aald hx hb hK hP (by decide) ho9 rfl 8 rfl rfl (fun _ => rfl) hi11 dX4_findMovers_5 ?_
  refine W.eq (g2 := F0 m 6 ls [.ref (ad 29 o10)]) (by rw [eo10]; rfl) ?_
  refine lv_iconst (v := (-1)) hx hb dX4_findMovers_6 (by decide) ?_
  refine va_callv (va_runS (As := [.ref (ad 29 o10), .int ((-1 : Int32))]) (rest := []) ⟨hx, hb, hml, hown, hts⟩ (mJ7_fill_53178 l dC dI ac sa A ad τ0 29 7 o10 ((-1 : Int32)) _ hF (by decide) rfl ho10) (va_cwS 2 hts gX4_findMovers_J7_fill_53178 rfl rfl rfl (by decide +kernel) ⟨Nat.le_of_ble_eq_true rfl, Nat.le_of_ble_eq_true rfl⟩) ⟨BX.blind, fun U hU hW => ⟨rfl, BX.of hP hK hS hA hZ hU hW⟩⟩ rfl rfl hl.1 rfl (lv_room (Nat.le_of_ble_eq_true rfl)) dX4_findMovers_7 ⟨Nat.le_of_ble_eq_true rfl, Nat.le_of_ble_eq_true rfl⟩) hS (fun q _ h => h) (fun q h => h) (fun τ12 t H locs ht hvm hw hB hz hk hS => ?_)
  obtain ⟨hF, hN9⟩ := hw
  have hP : PX dC dI ac A ad τ12 H := tw_back hB ht
  have hN : gN τ12 = gN τ0 := hN9.trans hN
  refine lv_iconst (v := 0) hx hb dX4_findMovers_10 (by decide) ?_
  refine lv_istore_n (lv' := [(2, .int ((0 : Int32))), (0, .ref (ad 8 k0)), (1, .int x1)]) hx hb dX4_findMovers_11 rfl hl (by decide) rfl (fun ls hl => ?_)
  obtain ⟨n13, hF⟩ := hF
  refine l12 k0 hk0 x1 _ n13 τ12 ((0 : Int32)) _ _ _ hF hP hN hS (lv_sub hl [1, 2, 0] rfl) ?_
  intro τ14 z15 H locs ls hF hP hN hS hl
  exact W.vret hx hb hr (fun t ht hW => ⟨⟨τ14, rfl, ⟨hF, hN⟩, tw_at hP ht⟩, hS.F ht⟩) hS.2.2 dX4_findMovers_43
def J_X4_lengthenFrom_74 (τ : tw_T) (p0 : Nat) (u1 : Int32) (u2 : Int32) (Q : tw_T → Prop) (RC EX : tw_T → Int32 → Prop) : Prop := ∀ z1 : Int32, z1 = u2 + (1 : Int32) → (RC τ z1)
def L_X4_lengthenFrom_2 (p0 : Nat) (u1 : Int32) (Q : tw_T → Prop) (EX : tw_T → Int32 → Prop) : Nat → tw_T → Int32 → Prop
  | 0, _, _ => False
  | n + 1, τ, u2 => (((gI τ 8 p0 9) < u2 → (EX τ u2)) ∧ (¬ (gI τ 8 p0 9) < u2 → (∃ o3 : Nat, gR τ 8 p0 6 = some o3 ∧ (vp_in u1 6 ∧ (∃ o4 : Nat, gR τ 25 o3 u1.toNatClampNeg = some o4 ∧ (vp_in u2 7 ∧ ((((gI τ 29 o4 u2.toNatClampNeg) = ((-1 : Int32)) → (J_X4_lengthenFrom_74 τ p0 u1 u2 Q (fun t v2 => L_X4_lengthenFrom_2 p0 u1 Q EX n t v2) EX)) ∧ (¬ (gI τ 29 o4 u2.toNatClampNeg) = ((-1 : Int32)) → (∃ o8 : Nat, gR τ 8 p0 3 = some o8 ∧ (vp_in u1 7 ∧ (∃ o10 : Nat, gR τ 8 p0 5 = some o10 ∧ (vp_in u1 6 ∧ (∃ o11 : Nat, gR τ 24 o10 u1.toNatClampNeg = some o11 ∧ (vp_in u2 7 ∧ (∃ o14 : Nat, gR τ 8 p0 3 = some o14 ∧ (vp_in u2 7 ∧ (((((gI τ 18 o8 u1.toNatClampNeg) + (gI τ 28 o11 u2.toNatClampNeg)) ≤ (gI τ 18 o14 u2.toNatClampNeg) → (J_X4_lengthenFrom_74 τ p0 u1 u2 Q (fun t v2 => L_X4_lengthenFrom_2 p0 u1 Q EX n t v2) EX)) ∧ (¬ ((gI τ 18 o8 u1.toNatClampNeg) + (gI τ 28 o11 u2.toNatClampNeg)) ≤ (gI τ 18 o14 u2.toNatClampNeg) → (∃ o17 : Nat, gR τ 8 p0 3 = some o17 ∧ (∃ o18 : Nat, gR τ 8 p0 3 = some o18 ∧ (vp_in u1 7 ∧ (∃ o20 : Nat, gR τ 8 p0 5 = some o20 ∧ (vp_in u1 6 ∧ (∃ o21 : Nat, gR τ 24 o20 u1.toNatClampNeg = some o21 ∧ (vp_in u2 7 ∧ (vp_in u2 7 ∧ (∀ τ25 : tw_T, τ25 = sI τ 18 o17 u2.toNatClampNeg ((gI τ 18 o18 u1.toNatClampNeg) + (gI τ 28 o21 u2.toNatClampNeg)) → (∃ o26 : Nat, gR τ25 8 p0 4 = some o26 ∧ (vp_in u2 7 ∧ (∀ τ28 : tw_T, τ28 = sI τ25 19 o26 u2.toNatClampNeg u1 → (J_X4_lengthenFrom_74 τ28 p0 u1 u2 Q (fun t v2 => L_X4_lengthenFrom_2 p0 u1 Q EX n t v2) EX)))))))))))))))))))))))))))))))))
def F_X4_lengthenFrom (τ0 : tw_T) (k0 : Nat) (x1 : Int32) (Q : tw_T → Prop) : Prop := ∃ n29 : Nat, L_X4_lengthenFrom_2 k0 x1 Q (fun (τ30 : tw_T) (z31 : Int32) => Q τ30) n29 τ0 ((0 : Int32))
def rmX4_lengthenFrom : Room := { frames := 0, cells := 0, slots := 0, locals := 0 }
set_option maxHeartbeats 4000000 in
set_option maxRecDepth 100000 in
theorem mX4_lengthenFrom (l : Launch) (dC : Nat → ClassId) (dI : Nat → Nat → Nat) (ac : Nat → ClassId) (sa : Nat → Nat) (A : Nat → Prop) (ad : Nat → Nat → Nat) (τ0 : tw_T) (k0 : Nat) (x1 : Int32) (Q : tw_T → Prop) (hF : F_X4_lengthenFrom τ0 k0 x1 Q) (hk0 : k0 < gN τ0 8) : Met l yX4_lengthenFrom wsX4_lengthenFrom rmX4_lengthenFrom (va_Pc [.ref (ad 8 k0), .int x1] (BX dC dI ac sa A ad τ0)) (va_Qv (fun (u : tw_T) => Q u ∧ gN u = gN τ0) (fun u t => PX dC dI ac A ad u t.heap) A) 0 0 A := by
  refine Met.ofW (cc := cX4_lengthenFrom) (maxL := 3) (ret := none) (by decide) rfl ?_
  intro p e s m args below meth c s₁ B hml hv
  obtain ⟨rfl, hP, hK, hA, hZ⟩ := hv
  have hx := B.exec
  have hb := B.bytes
  have hr := B.returns
  have hts := atoms_spec (ws := wsX4_lengthenFrom) B.pre
  have hown : s.vm.findClass RX4 = some m.cls := findClass_of_methodNamed B.named
  have hlocks := B.notSynchronized
  have hS : va_S A s.heap s.heap [] := va_S.rf
  have hN : gN τ0 = gN τ0 := rfl
  have hl := lv_entry ([.ref (ad 8 k0), .int x1]) (n := 3) (Nat.le_of_ble_eq_true rfl)
  rw [lg_entry_eq]
  generalize (lg_sl ([.ref (ad 8 k0), .int x1]) ++ List.replicate (3 - (lg_sl ([.ref (ad 8 k0), .int x1])).length) Slot.unset).toArray = ls at hl ⊢
  have hl : lv_has ls 3 [(0, .ref (ad 8 k0)), (1, .int x1)] := hl
  unfold F_X4_lengthenFrom at hF
  have l2 : ∀ (p0 : Nat) (hp0 : p0 < gN τ0 8) (u1 : Int32) (EX : tw_T → Int32 → Prop) (n : Nat) (τ : tw_T) (u2 : Int32) (H : Heap) (locs : List Loc) (ls : Array Slot), L_X4_lengthenFrom_2 p0 u1 Q EX n τ u2 → PX dC dI ac A ad τ H → gN τ = gN τ0 → va_S A s.heap H locs → lv_has ls 3 [(0, .ref (ad 8 p0)), (1, .int u1), (2, .int u2)] → (∀ (τ : tw_T) (u2 : Int32) (H : Heap) (locs : List Loc) (ls : Array Slot), EX τ u2 → PX dC dI ac A ad τ H → gN τ = gN τ0 → va_S A s.heap H locs → lv_has ls 3 [(0, .ref (ad 8 p0)), (1, .int u1), (2, .int u2)] → W p l e rmX4_lengthenFrom s m ([.ref (ad 8 k0), .int x1] : List Value).toArray below meth c H locs 0 0 (MQ below (va_Qv (fun (u : tw_T) => Q u ∧ gN u = gN τ0) (fun u t => PX dC dI ac A ad u t.heap) A) ([.ref (ad 8 k0), .int x1] : List Value).toArray s 0 0 A) (F0 m 80 ls [])) → W p l e rmX4_lengthenFrom s m ([.ref (ad 8 k0), .int x1] : List Value).toArray below meth c H locs 0 0 (MQ below (va_Qv (fun (u : tw_T) => Q u ∧ gN u = gN τ0) (fun u t => PX dC dI ac A ad u t.heap) A) ([.ref (ad 8 k0), .int x1] : List Value).toArray s 0 0 A) (F0 m 2 ls []) := by
    intro p0 hp0 u1 EX n
    induction n with
    | zero => intro τ u2 H locs ls hF; exact hF.elim
    | succ n ih =>
      intro τ u2 H locs ls hF hP hN hS hl hEX
      rw [L_X4_lengthenFrom_2] at hF
      have j74 : ∀ (τ : tw_T) (p0 : Nat) (hp0 : p0 < gN τ0 8) (u1 : Int32) (u2 : Int32) (H : Heap) (locs : List Loc) (ls : Array Slot) (RC EX : tw_T → Int32 → Prop), J_X4_lengthenFrom_74 τ p0 u1 u2 Q RC EX → PX dC dI ac A ad τ H → gN τ = gN τ0 → va_S A s.heap H locs → lv_has ls 3 [(0, .ref (ad 8 p0)), (1, .int u1), (2, .int u2)] → (∀ (τ : tw_T) (u2 : Int32) (H : Heap) (locs : List Loc) (ls : Array Slot), RC τ u2 → PX dC dI ac A ad τ H → gN τ = gN τ0 → va_S A s.heap H locs → lv_has ls 3 [(0, .ref (ad 8 p0)), (1, .int u1), (2, .int u2)] → W p l e rmX4_lengthenFrom s m ([.ref (ad 8 k0), .int x1] : List Value).toArray below meth c H locs 0 0 (MQ below (va_Qv (fun (u : tw_T) => Q u ∧ gN u = gN τ0) (fun u t => PX dC dI ac A ad u t.heap) A) ([.ref (ad 8 k0), .int x1] : List Value).toArray s 0 0 A) (F0 m 2 ls [])) → (∀ (τ : tw_T) (u2 : Int32) (H : Heap) (locs : List Loc) (ls : Array Slot), EX τ u2 → PX dC dI ac A ad τ H → gN τ = gN τ0 → va_S A s.heap H locs → lv_has ls 3 [(0, .ref (ad 8 p0)), (1, .int u1), (2, .int u2)] → W p l e rmX4_lengthenFrom s m ([.ref (ad 8 k0), .int x1] : List Value).toArray below meth c H locs 0 0 (MQ below (va_Qv (fun (u : tw_T) => Q u ∧ gN u = gN τ0) (fun u t => PX dC dI ac A ad u t.heap) A) ([.ref (ad 8 k0), .int x1] : List Value).toArray s 0 0 A) (F0 m 80 ls [])) → W p l e rmX4_lengthenFrom s m ([.ref (ad 8 k0), .int x1] : List Value).toArray below meth c H locs 0 0 (MQ below (va_Qv (fun (u : tw_T) => Q u ∧ gN u = gN τ0) (fun u t => PX dC dI ac A ad u t.heap) A) ([.ref (ad 8 k0), .int x1] : List Value).toArray s 0 0 A) (F0 m 74 ls []) := by
        intro τ p0 hp0 u1 u2 H locs ls RC EX hF hP hN hS hl hRC hEX
        unfold J_X4_lengthenFrom_74 at hF
        obtain ⟨z1, ez1⟩ : ∃ y : Int32, y = u2 + (1 : Int32) := ⟨_, rfl⟩
        have hF := hF z1 ez1
        refine lv_iinc (v := z1) (lv' := [(2, .int z1), (0, .ref (ad 8 p0)), (1, .int u1)]) hx hb dX4_lengthenFrom_74 hl (k := 2) rfl (by rw [ez1]; rfl) (by decide) rfl (fun ls hl => ?_)
        refine lv_goto (tgt := 2) hx hb dX4_lengthenFrom_77 (by decide) ?_
        exact hRC τ z1 _ _ _ hF hP hN hS (lv_sub hl [1, 2, 0] rfl)
      refine lv_iload_n hx hb dX4_lengthenFrom_2 rfl (lv_at hl 2 rfl) ?_
      refine lv_aload_n hx hb dX4_lengthenFrom_3 rfl (lv_at hl 0 rfl) ?_
      refine tw_get (v := .int (gI τ 8 p0 9)) hx hb hts (by decide +kernel) hown hK hP (by decide) (tw_lt hp0 (congrFun hN 8)) rfl rfl 9 (by decide) (hts (.fieldLink RX4 44 "WineCellar$Planner" "never" "I") (by decide +kernel)) (fun _ h9 => h9) rfl dX4_lengthenFrom_4 ?_
      refine lv_icmp_gt (tgt := 80) hx hb dX4_lengthenFrom_7 (by decide) (fun c2 => ?_) (fun c2 => ?_)
      · have hF := hF.1 c2
        exact hEX τ u2 _ _ _ hF hP hN hS (lv_sub hl [0, 1, 2] rfl)
      · have hF := hF.2 c2
        refine lv_aload_n hx hb dX4_lengthenFrom_10 rfl (lv_at hl 0 rfl) ?_
        obtain ⟨o3, eo3, hF⟩ := hF
        have ho3 : o3 < gN τ0 25 := tw_lt (hP.2.2.2 8 p0 6 o3 (by decide) (tw_lt hp0 (congrFun hN 8)) eo3) (congrFun hN 25).symm
        refine tw_get (v := .ref (ad 25 o3)) hx hb hts (by decide +kernel) hown hK hP (by decide) (tw_lt hp0 (congrFun hN 8)) rfl rfl 6 (by decide) (hts (.fieldLink RX4 34 "WineCellar$Planner" "movers" "[[I") (by decide +kernel)) (fun _ h9 => h9) (show some (va_rf ((gR τ 8 p0 6).map (ad 25))) = some (.ref (ad 25 o3)) by rw [eo3]; rfl) dX4_lengthenFrom_11 ?_
        refine lv_iload_n hx hb dX4_lengthenFrom_14 rfl (lv_at hl 1 rfl) ?_
        obtain ⟨hi5, o4, eo4, hF⟩ := hF
        have ho4 : o4 < gN τ0 29 := tw_lt (hP.2.2.2 25 o3 _ o4 (by decide) (tw_lt ho3 (congrFun hN 25)) eo4) (congrFun hN 29).symm
        refine tw_aald hx hb hK hP (by decide) (tw_lt ho3 (congrFun hN 25)) rfl 8 rfl rfl (fun _ => rfl) hi5 dX4_lengthenFrom_15 ?_
        refine W.eq (g2 := F0 m 16 ls [.ref (ad 29 o4)]) (by rw [eo4]; rfl) ?_
        refine lv_iload_n hx hb dX4_lengthenFrom_16 rfl (lv_at hl 2 rfl) ?_
        obtain ⟨hi6, hF⟩ := hF
        refine tw_iald hx hb hK hP (by decide) (tw_lt ho4 (congrFun hN 29)) rfl 0 rfl hi6 dX4_lengthenFrom_17 ?_
        refine lv_iconst (v := (-1)) hx hb dX4_lengthenFrom_18 (by decide) ?_
        refine lv_icmp_eq (tgt := 74) hx hb dX4_lengthenFrom_19 (by decide) (fun c7 => ?_) (fun c7 => ?_)
        · have hF := hF.1 c7
          exact j74 τ p0 hp0 u1 u2 _ _ _ _ _ hF hP hN hS (lv_sub hl [0, 1, 2] rfl) (fun t v2 H locs ls hF hP hN hS hl => ih t v2 _ _ _ hF hP hN hS hl hEX) hEX
        · have hF := hF.2 c7
          refine lv_aload_n hx hb dX4_lengthenFrom_22 rfl (lv_at hl 0 rfl) ?_
          obtain ⟨o8, eo8, hF⟩ := hF
          have ho8 : o8 < gN τ0 18 := tw_lt (hP.2.2.2 8 p0 3 o8 (by decide) (tw_lt hp0 (congrFun hN 8)) eo8) (congrFun hN 18).symm
          refine tw_get (v := .ref (ad 18 o8)) hx hb hts (by decide +kernel) hown hK hP (by decide) (tw_lt hp0 (congrFun hN 8)) rfl rfl 3 (by decide) (hts (.fieldLink RX4 25 "WineCellar$Planner" "best" "[I") (by decide +kernel)) (fun _ h9 => h9) (show some (va_rf ((gR τ 8 p0 3).map (ad 18))) = some (.ref (ad 18 o8)) by rw [eo8]; rfl) dX4_lengthenFrom_23 ?_
          refine lv_iload_n hx hb dX4_lengthenFrom_26 rfl (lv_at hl 1 rfl) ?_
          obtain ⟨hi9, hF⟩ := hF
          refine tw_iald hx hb hK hP (by decide) (tw_lt ho8 (congrFun hN 18)) rfl 0 rfl hi9 dX4_lengthenFrom_27 ?_
          refine lv_aload_n hx hb dX4_lengthenFrom_28 rfl (lv_at hl 0 rfl) ?_
          obtain ⟨o10, eo10, hF⟩ := hF
          have ho10 : o10 < gN τ0 24 := tw_lt (hP.2.2.2 8 p0 5 o10 (by decide) (tw_lt hp0 (congrFun hN 8)) eo10) (congrFun hN 24).symm
          refine tw_get (v := .ref (ad 24 o10)) hx hb hts (by decide +kernel) hown hK hP (by decide) (tw_lt hp0 (congrFun hN 8)) rfl rfl 5 (by decide) (hts (.fieldLink RX4 31 "WineCellar$Planner" "changes" "[[I") (by decide +kernel)) (fun _ h9 => h9) (show some (va_rf ((gR τ 8 p0 5).map (ad 24))) = some (.ref (ad 24 o10)) by rw [eo10]; rfl) dX4_lengthenFrom_29 ?_
          refine lv_iload_n hx hb dX4_lengthenFrom_32 rfl (lv_at hl 1 rfl) ?_
          obtain ⟨hi12, o11, eo11, hF⟩ := hF
          have ho11 : o11 < gN τ0 28 := tw_lt (hP.2.2.2 24 o10 _ o11 (by decide) (tw_lt ho10 (congrFun hN 24)) eo11) (congrFun hN 28).symm
          refine tw_aald hx hb hK hP (by decide) (tw_lt ho10 (congrFun hN 24)) rfl 8 rfl rfl (fun _ => rfl) hi12 dX4_lengthenFrom_33 ?_
          refine W.eq (g2 := F0 m 34 ls [.ref (ad 28 o11), .int (gI τ 18 o8 u1.toNatClampNeg)]) (by rw [eo11]; rfl) ?_
          refine lv_iload_n hx hb dX4_lengthenFrom_34 rfl (lv_at hl 2 rfl) ?_
          obtain ⟨hi13, hF⟩ := hF
          refine tw_iald hx hb hK hP (by decide) (tw_lt ho11 (congrFun hN 28)) rfl 0 rfl hi13 dX4_lengthenFrom_35 ?_
          refine lv_iadd hx hb dX4_lengthenFrom_36 ?_
          refine lv_aload_n hx hb dX4_lengthenFrom_37 rfl (lv_at hl 0 rfl) ?_
          obtain ⟨o14, eo14, hF⟩ := hF
          have ho14 : o14 < gN τ0 18 := tw_lt (hP.2.2.2 8 p0 3 o14 (by decide) (tw_lt hp0 (congrFun hN 8)) eo14) (congrFun hN 18).symm
          refine tw_get (v := .ref (ad 18 o14)) hx hb hts (by decide +kernel) hown hK hP (by decide) (tw_lt hp0 (congrFun hN 8)) rfl rfl 3 (by decide) (hts (.fieldLink RX4 25 "WineCellar$Planner" "best" "[I") (by decide +kernel)) (fun _ h9 => h9) (show some (va_rf ((gR τ 8 p0 3).map (ad 18))) = some (.ref (ad 18 o14)) by rw [eo14]; rfl) dX4_lengthenFrom_38 ?_
          refine lv_iload_n hx hb dX4_lengthenFrom_41 rfl (lv_at hl 2 rfl) ?_
          obtain ⟨hi15, hF⟩ := hF
          refine tw_iald hx hb hK hP (by decide) (tw_lt ho14 (congrFun hN 18)) rfl 0 rfl hi15 dX4_lengthenFrom_42 ?_
          refine lv_icmp_le (tgt := 74) hx hb dX4_lengthenFrom_43 (by decide) (fun c16 => ?_) (fun c16 => ?_)
          · have hF := hF.1 c16
            exact j74 τ p0 hp0 u1 u2 _ _ _ _ _ hF hP hN hS (lv_sub hl [0, 1, 2] rfl) (fun t v2 H locs ls hF hP hN hS hl => ih t v2 _ _ _ hF hP hN hS hl hEX) hEX
          · have hF := hF.2 c16
            refine lv_aload_n hx hb dX4_lengthenFrom_46 rfl (lv_at hl 0 rfl) ?_
            obtain ⟨o17, eo17, hF⟩ := hF
            have ho17 : o17 < gN τ0 18 := tw_lt (hP.2.2.2 8 p0 3 o17 (by decide) (tw_lt hp0 (congrFun hN 8)) eo17) (congrFun hN 18).symm
            refine tw_get (v := .ref (ad 18 o17)) hx hb hts (by decide +kernel) hown hK hP (by decide) (tw_lt hp0 (congrFun hN 8)) rfl rfl 3 (by decide) (hts (.fieldLink RX4 25 "WineCellar$Planner" "best" "[I") (by decide +kernel)) (fun _ h9 => h9) (show some (va_rf ((gR τ 8 p0 3).map (ad 18))) = some (.ref (ad 18 o17)) by rw [eo17]; rfl) dX4_lengthenFrom_47 ?_
            refine lv_iload_n hx hb dX4_lengthenFrom_50 rfl (lv_at hl 2 rfl) ?_
            refine lv_aload_n hx hb dX4_lengthenFrom_51 rfl (lv_at hl 0 rfl) ?_
            obtain ⟨o18, eo18, hF⟩ := hF
            have ho18 : o18 < gN τ0 18 := tw_lt (hP.2.2.2 8 p0 3 o18 (by decide) (tw_lt hp0 (congrFun hN 8)) eo18) (congrFun hN 18).symm
            refine tw_get (v := .ref (ad 18 o18)) hx hb hts (by decide +kernel) hown hK hP (by decide) (tw_lt hp0 (congrFun hN 8)) rfl rfl 3 (by decide) (hts (.fieldLink RX4 25 "WineCellar$Planner" "best" "[I") (by decide +kernel)) (fun _ h9 => h9) (show some (va_rf ((gR τ 8 p0 3).map (ad 18))) = some (.ref (ad 18 o18)) by rw [eo18]; rfl) dX4_lengthenFrom_52 ?_
            refine lv_iload_n hx hb dX4_lengthenFrom_55 rfl (lv_at hl 1 rfl) ?_
            obtain ⟨hi19, hF⟩ := hF
            refine tw_iald hx hb hK hP (by decide) (tw_lt ho18 (congrFun hN 18)) rfl 0 rfl hi19 dX4_lengthenFrom_56 ?_
            refine lv_aload_n hx hb dX4_lengthenFrom_57 rfl (lv_at hl 0 rfl) ?_
            obtain ⟨o20, eo20, hF⟩ := hF
            have ho20 : o20 < gN τ0 24 := tw_lt (hP.2.2.2 8 p0 5 o20 (by decide) (tw_lt hp0 (congrFun hN 8)) eo20) (congrFun hN 24).symm
            refine tw_get (v := .ref (ad 24 o20)) hx hb hts (by decide +kernel) hown hK hP (by decide) (tw_lt hp0 (congrFun hN 8)) rfl rfl 5 (by decide) (hts (.fieldLink RX4 31 "WineCellar$Planner" "changes" "[[I") (by decide +kernel)) (fun _ h9 => h9) (show some (va_rf ((gR τ 8 p0 5).map (ad 24))) = some (.ref (ad 24 o20)) by rw [eo20]; rfl) dX4_lengthenFrom_58 ?_
            refine lv_iload_n hx hb dX4_lengthenFrom_61 rfl (lv_at hl 1 rfl) ?_
            obtain ⟨hi22, o21, eo21, hF⟩ := hF
            have ho21 : o21 < gN τ0 28 := tw_lt (hP.2.2.2 24 o20 _ o21 (by decide) (tw_lt ho20 (congrFun hN 24)) eo21) (congrFun hN 28).symm
            refine tw_aald hx hb hK hP (by decide) (tw_lt ho20 (congrFun hN 24)) rfl 8 rfl rfl (fun _ => rfl) hi22 dX4_lengthenFrom_62 ?_
            refine W.eq (g2 := F0 m 63 ls [.ref (ad 28 o21), .int (gI τ 18 o18 u1.toNatClampNeg), .int u2, .ref (ad 18 o17)]) (by rw [eo21]; rfl) ?_
            refine lv_iload_n hx hb dX4_lengthenFrom_63 rfl (lv_at hl 2 rfl) ?_
            obtain ⟨hi23, hF⟩ := hF
            refine tw_iald hx hb hK hP (by decide) (tw_lt ho21 (congrFun hN 28)) rfl 0 rfl hi23 dX4_lengthenFrom_64 ?_
            refine lv_iadd hx hb dX4_lengthenFrom_65 ?_
            obtain ⟨hi24, hF⟩ := hF
            refine tw_iast hx hb hK hP hS (by decide) (tw_lt ho17 (congrFun hN 18)) rfl 0 rfl hi24 dX4_lengthenFrom_66 (fun H locs hP hS => ?_)
            obtain ⟨τ25, eτ25⟩ : ∃ y : tw_T, y = sI τ 18 o17 u2.toNatClampNeg ((gI τ 18 o18 u1.toNatClampNeg) + (gI τ 28 o21 u2.toNatClampNeg)) := ⟨_, rfl⟩
            have hF := hF τ25 eτ25
            rw [← eτ25] at hP
            have hN : gN τ25 = gN τ0 := by rw [eτ25]; exact hN
            refine lv_aload_n hx hb dX4_lengthenFrom_67 rfl (lv_at hl 0 rfl) ?_
            obtain ⟨o26, eo26, hF⟩ := hF
            have ho26 : o26 < gN τ0 19 := tw_lt (hP.2.2.2 8 p0 4 o26 (by decide) (tw_lt hp0 (congrFun hN 8)) eo26) (congrFun hN 19).symm
            refine tw_get (v := .ref (ad 19 o26)) hx hb hts (by decide +kernel) hown hK hP (by decide) (tw_lt hp0 (congrFun hN 8)) rfl rfl 4 (by decide) (hts (.fieldLink RX4 28 "WineCellar$Planner" "ahead" "[I") (by decide +kernel)) (fun _ h9 => h9) (show some (va_rf ((gR τ25 8 p0 4).map (ad 19))) = some (.ref (ad 19 o26)) by rw [eo26]; rfl) dX4_lengthenFrom_68 ?_
            refine lv_iload_n hx hb dX4_lengthenFrom_71 rfl (lv_at hl 2 rfl) ?_
            refine lv_iload_n hx hb dX4_lengthenFrom_72 rfl (lv_at hl 1 rfl) ?_
            obtain ⟨hi27, hF⟩ := hF
            refine tw_iast hx hb hK hP hS (by decide) (tw_lt ho26 (congrFun hN 19)) rfl 0 rfl hi27 dX4_lengthenFrom_73 (fun H locs hP hS => ?_)
            obtain ⟨τ28, eτ28⟩ : ∃ y : tw_T, y = sI τ25 19 o26 u2.toNatClampNeg u1 := ⟨_, rfl⟩
            have hF := hF τ28 eτ28
            rw [← eτ28] at hP
            have hN : gN τ28 = gN τ0 := by rw [eτ28]; exact hN
            exact j74 τ28 p0 hp0 u1 u2 _ _ _ _ _ hF hP hN hS (lv_sub hl [0, 1, 2] rfl) (fun t v2 H locs ls hF hP hN hS hl => ih t v2 _ _ _ hF hP hN hS hl hEX) hEX
  refine lv_iconst (v := 0) hx hb dX4_lengthenFrom_0 (by decide) ?_
  refine lv_istore_n (lv' := [(2, .int ((0 : Int32))), (0, .ref (ad 8 k0)), (1, .int x1)]) hx hb dX4_lengthenFrom_1 rfl hl (by decide) rfl (fun ls hl => ?_)
  obtain ⟨n29, hF⟩ := hF
  refine l2 k0 hk0 x1 _ n29 τ0 ((0 : Int32)) _ _ _ hF hP hN hS (lv_sub hl [1, 2, 0] rfl) ?_
  intro τ30 z31 H locs ls hF hP hN hS hl
  exact W.vret hx hb hr (fun t ht hW => ⟨⟨τ30, rfl, ⟨hF, hN⟩, tw_at hP ht⟩, hS.F ht⟩) hS.2.2 dX4_lengthenFrom_80
def J_X4_findChains_129 (τ : tw_T) (p0 : Nat) (u2 : Int32) (u3 : Int32) (Q : tw_T → Prop) (RC EX : tw_T → Int32 → Prop) : Prop := ∀ z1 : Int32, z1 = u3 + (1 : Int32) → (RC τ z1)
def L_X4_findChains_96 (p0 : Nat) (u2 : Int32) (Q : tw_T → Prop) (EX : tw_T → Int32 → Prop) : Nat → tw_T → Int32 → Prop
  | 0, _, _ => False
  | n + 1, τ, u3 => (((gI τ 8 p0 9) ≤ u3 → (EX τ u3)) ∧ (¬ (gI τ 8 p0 9) ≤ u3 → (∃ o3 : Nat, gR τ 8 p0 2 = some o3 ∧ (vp_in u3 7 ∧ (((¬ (gI τ 17 o3 u3.toNatClampNeg) = 0 → (J_X4_findChains_129 τ p0 u2 u3 Q (fun t v3 => L_X4_findChains_96 p0 u2 Q EX n t v3) EX)) ∧ ((gI τ 17 o3 u3.toNatClampNeg) = 0 → (∃ o6 : Nat, gR τ 8 p0 3 = some o6 ∧ (vp_in u3 7 ∧ ((((gI τ 18 o6 u3.toNatClampNeg) = ((-2147483648 : Int32)) → (J_X4_findChains_129 τ p0 u2 u3 Q (fun t v3 => L_X4_findChains_96 p0 u2 Q EX n t v3) EX)) ∧ (¬ (gI τ 18 o6 u3.toNatClampNeg) = ((-2147483648 : Int32)) → (F_X4_lengthenFrom τ p0 u3 (fun (τ9 : tw_T) => (J_X4_findChains_129 τ9 p0 u2 u3 Q (fun t v3 => L_X4_findChains_96 p0 u2 Q EX n t v3) EX)))))))))))))))
def L_X4_findChains_86 (p0 : Nat) (Q : tw_T → Prop) (EX : tw_T → Int32 → Prop) : Nat → tw_T → Int32 → Prop
  | 0, _, _ => False
  | n + 1, τ, u2 => (((gI τ 8 p0 9) ≤ u2 → (EX τ u2)) ∧ (¬ (gI τ 8 p0 9) ≤ u2 → (∃ n11 : Nat, L_X4_findChains_96 p0 u2 Q (fun (τ12 : tw_T) (z13 : Int32) => ∀ z14 : Int32, z14 = u2 + (1 : Int32) → (L_X4_findChains_86 p0 Q EX n τ12 z14)) n11 τ ((0 : Int32)))))
def J_X4_findChains_78 (τ : tw_T) (p0 : Nat) (u2 : Int32) (Q : tw_T → Prop) (RC EX : tw_T → Int32 → Prop) : Prop := ∀ z15 : Int32, z15 = u2 + (1 : Int32) → (RC τ z15)
def L_X4_findChains_56 (p0 : Nat) (Q : tw_T → Prop) (EX : tw_T → Int32 → Prop) : Nat → tw_T → Int32 → Prop
  | 0, _, _ => False
  | n + 1, τ, u2 => (((gI τ 8 p0 9) ≤ u2 → (EX τ u2)) ∧ (¬ (gI τ 8 p0 9) ≤ u2 → (∃ o17 : Nat, gR τ 8 p0 2 = some o17 ∧ (vp_in u2 7 ∧ (((¬ (gI τ 17 o17 u2.toNatClampNeg) = 0 → (J_X4_findChains_78 τ p0 u2 Q (fun t v2 => L_X4_findChains_56 p0 Q EX n t v2) EX)) ∧ ((gI τ 17 o17 u2.toNatClampNeg) = 0 → (F_X4_findMovers τ p0 u2 (fun (τ20 : tw_T) => (J_X4_findChains_78 τ20 p0 u2 Q (fun t v2 => L_X4_findChains_56 p0 Q EX n t v2) EX))))))))))
def J_X4_findChains_40 (τ : tw_T) (p0 : Nat) (u1 : Int32) (u2 : Int32) (y0 : Int32) (y1 : Int32) (q2 : Nat) (Q : tw_T → Prop) (RC EX : tw_T → Int32 → Prop) : Prop := vp_in y1 7 ∧ (∀ τ22 : tw_T, τ22 = sI τ 18 q2 y1.toNatClampNeg y0 → (∃ o23 : Nat, gR τ22 8 p0 4 = some o23 ∧ (vp_in u2 7 ∧ (∀ τ25 : tw_T, τ25 = sI τ22 19 o23 u2.toNatClampNeg ((-1 : Int32)) → (∀ z26 : Int32, z26 = u2 + (1 : Int32) → (RC τ25 z26))))))
def L_X4_findChains_2 (p0 : Nat) (u1 : Int32) (Q : tw_T → Prop) (EX : tw_T → Int32 → Prop) : Nat → tw_T → Int32 → Prop
  | 0, _, _ => False
  | n + 1, τ, u2 => (((gI τ 8 p0 9) < u2 → (EX τ u2)) ∧ (¬ (gI τ 8 p0 9) < u2 → (∃ o28 : Nat, gR τ 8 p0 3 = some o28 ∧ (∃ o29 : Nat, gR τ 8 p0 0 = some o29 ∧ (vp_in u1 30 ∧ (∃ o30 : Nat, gR τ 15 o29 u1.toNatClampNeg = some o30 ∧ (vp_in u2 7 ∧ (((¬ (gI τ 26 o30 u2.toNatClampNeg) = ((-1 : Int32)) → (∃ o34 : Nat, gR τ 8 p0 0 = some o34 ∧ (vp_in u1 30 ∧ (∃ o35 : Nat, gR τ 15 o34 u1.toNatClampNeg = some o35 ∧ (vp_in u2 7 ∧ (J_X4_findChains_40 τ p0 u1 u2 (gI τ 26 o35 u2.toNatClampNeg) u2 o28 Q (fun t v2 => L_X4_findChains_2 p0 u1 Q EX n t v2) EX)))))) ∧ ((gI τ 26 o30 u2.toNatClampNeg) = ((-1 : Int32)) → (J_X4_findChains_40 τ p0 u1 u2 ((-2147483648 : Int32)) u2 o28 Q (fun t v2 => L_X4_findChains_2 p0 u1 Q EX n t v2) EX)))))))))))
def F_X4_findChains (τ0 : tw_T) (k0 : Nat) (x1 : Int32) (Q : tw_T → Prop) : Prop := ∃ n38 : Nat, L_X4_findChains_2 k0 x1 Q (fun (τ39 : tw_T) (z40 : Int32) => ∃ n41 : Nat, L_X4_findChains_56 k0 Q (fun (τ42 : tw_T) (z43 : Int32) => ∃ n44 : Nat, L_X4_findChains_86 k0 Q (fun (τ45 : tw_T) (z46 : Int32) => Q τ45) n44 τ42 ((0 : Int32))) n41 τ39 ((0 : Int32))) n38 τ0 ((0 : Int32))
def rmX4_findChains : Room := { frames := 2, cells := 0, slots := 0, locals := 46 }
set_option maxHeartbeats 4000000 in
set_option maxRecDepth 100000 in
theorem mX4_findChains (l : Launch) (dC : Nat → ClassId) (dI : Nat → Nat → Nat) (ac : Nat → ClassId) (sa : Nat → Nat) (A : Nat → Prop) (ad : Nat → Nat → Nat) (τ0 : tw_T) (k0 : Nat) (x1 : Int32) (Q : tw_T → Prop) (hF : F_X4_findChains τ0 k0 x1 Q) (hk0 : k0 < gN τ0 8) : Met l yX4_findChains wsX4_findChains rmX4_findChains (va_Pc [.ref (ad 8 k0), .int x1] (BX dC dI ac sa A ad τ0)) (va_Qv (fun (u : tw_T) => Q u ∧ gN u = gN τ0) (fun u t => PX dC dI ac A ad u t.heap) A) 0 0 A := by
  refine Met.ofW (cc := cX4_findChains) (maxL := 4) (ret := none) (by decide) rfl ?_
  intro p e s m args below meth c s₁ B hml hv
  obtain ⟨rfl, hP, hK, hA, hZ⟩ := hv
  have hx := B.exec
  have hb := B.bytes
  have hr := B.returns
  have hts := atoms_spec (ws := wsX4_findChains) B.pre
  have hown : s.vm.findClass RX4 = some m.cls := findClass_of_methodNamed B.named
  have hlocks := B.notSynchronized
  have hS : va_S A s.heap s.heap [] := va_S.rf
  have hN : gN τ0 = gN τ0 := rfl
  have hl := lv_entry ([.ref (ad 8 k0), .int x1]) (n := 4) (Nat.le_of_ble_eq_true rfl)
  rw [lg_entry_eq]
  generalize (lg_sl ([.ref (ad 8 k0), .int x1]) ++ List.replicate (4 - (lg_sl ([.ref (ad 8 k0), .int x1])).length) Slot.unset).toArray = ls at hl ⊢
  have hl : lv_has ls 4 [(0, .ref (ad 8 k0)), (1, .int x1)] := hl
  unfold F_X4_findChains at hF
  have l86 : ∀ (p0 : Nat) (hp0 : p0 < gN τ0 8) (EX : tw_T → Int32 → Prop) (n : Nat) (τ : tw_T) (u2 : Int32) (H : Heap) (locs : List Loc) (ls : Array Slot), L_X4_findChains_86 p0 Q EX n τ u2 → PX dC dI ac A ad τ H → gN τ = gN τ0 → va_S A s.heap H locs → lv_has ls 4 [(0, .ref (ad 8 p0)), (2, .int u2)] → (∀ (τ : tw_T) (u2 : Int32) (H : Heap) (locs : List Loc) (ls : Array Slot), EX τ u2 → PX dC dI ac A ad τ H → gN τ = gN τ0 → va_S A s.heap H locs → lv_has ls 4 [(0, .ref (ad 8 p0)), (2, .int u2)] → W p l e rmX4_findChains s m ([.ref (ad 8 k0), .int x1] : List Value).toArray below meth c H locs 0 0 (MQ below (va_Qv (fun (u : tw_T) => Q u ∧ gN u = gN τ0) (fun u t => PX dC dI ac A ad u t.heap) A) ([.ref (ad 8 k0), .int x1] : List Value).toArray s 0 0 A) (F0 m 141 ls [])) → W p l e rmX4_findChains s m ([.ref (ad 8 k0), .int x1] : List Value).toArray below meth c H locs 0 0 (MQ below (va_Qv (fun (u : tw_T) => Q u ∧ gN u = gN τ0) (fun u t => PX dC dI ac A ad u t.heap) A) ([.ref (ad 8 k0), .int x1] : List Value).toArray s 0 0 A) (F0 m 86 ls []) := by
    intro p0 hp0 EX n
    induction n with
    | zero => intro τ u2 H locs ls hF; exact hF.elim
    | succ n ih =>
      intro τ u2 H locs ls hF hP hN hS hl hEX
      rw [L_X4_findChains_86] at hF
      have l96 : ∀ (p0 : Nat) (hp0 : p0 < gN τ0 8) (u2 : Int32) (EX : tw_T → Int32 → Prop) (n : Nat) (τ : tw_T) (u3 : Int32) (H : Heap) (locs : List Loc) (ls : Array Slot), L_X4_findChains_96 p0 u2 Q EX n τ u3 → PX dC dI ac A ad τ H → gN τ = gN τ0 → va_S A s.heap H locs → lv_has ls 4 [(0, .ref (ad 8 p0)), (2, .int u2), (3, .int u3)] → (∀ (τ : tw_T) (u3 : Int32) (H : Heap) (locs : List Loc) (ls : Array Slot), EX τ u3 → PX dC dI ac A ad τ H → gN τ = gN τ0 → va_S A s.heap H locs → lv_has ls 4 [(0, .ref (ad 8 p0)), (2, .int u2), (3, .int u3)] → W p l e rmX4_findChains s m ([.ref (ad 8 k0), .int x1] : List Value).toArray below meth c H locs 0 0 (MQ below (va_Qv (fun (u : tw_T) => Q u ∧ gN u = gN τ0) (fun u t => PX dC dI ac A ad u t.heap) A) ([.ref (ad 8 k0), .int x1] : List Value).toArray s 0 0 A) (F0 m 135 ls [])) → W p l e rmX4_findChains s m ([.ref (ad 8 k0), .int x1] : List Value).toArray below meth c H locs 0 0 (MQ below (va_Qv (fun (u : tw_T) => Q u ∧ gN u = gN τ0) (fun u t => PX dC dI ac A ad u t.heap) A) ([.ref (ad 8 k0), .int x1] : List Value).toArray s 0 0 A) (F0 m 96 ls []) := by
        intro p0 hp0 u2 EX n
        induction n with
        | zero => intro τ u3 H locs ls hF; exact hF.elim
        | succ n ih =>
          intro τ u3 H locs ls hF hP hN hS hl hEX
          rw [L_X4_findChains_96] at hF
          have j129 : ∀ (τ : tw_T) (p0 : Nat) (hp0 : p0 < gN τ0 8) (u2 : Int32) (u3 : Int32) (H : Heap) (locs : List Loc) (ls : Array Slot) (RC EX : tw_T → Int32 → Prop), J_X4_findChains_129 τ p0 u2 u3 Q RC EX → PX dC dI ac A ad τ H → gN τ = gN τ0 → va_S A s.heap H locs → lv_has ls 4 [(0, .ref (ad 8 p0)), (2, .int u2), (3, .int u3)] → (∀ (τ : tw_T) (u3 : Int32) (H : Heap) (locs : List Loc) (ls : Array Slot), RC τ u3 → PX dC dI ac A ad τ H → gN τ = gN τ0 → va_S A s.heap H locs → lv_has ls 4 [(0, .ref (ad 8 p0)), (2, .int u2), (3, .int u3)] → W p l e rmX4_findChains s m ([.ref (ad 8 k0), .int x1] : List Value).toArray below meth c H locs 0 0 (MQ below (va_Qv (fun (u : tw_T) => Q u ∧ gN u = gN τ0) (fun u t => PX dC dI ac A ad u t.heap) A) ([.ref (ad 8 k0), .int x1] : List Value).toArray s 0 0 A) (F0 m 96 ls [])) → (∀ (τ : tw_T) (u3 : Int32) (H : Heap) (locs : List Loc) (ls : Array Slot), EX τ u3 → PX dC dI ac A ad τ H → gN τ = gN τ0 → va_S A s.heap H locs → lv_has ls 4 [(0, .ref (ad 8 p0)), (2, .int u2), (3, .int u3)] → W p l e rmX4_findChains s m ([.ref (ad 8 k0), .int x1] : List Value).toArray below meth c H locs 0 0 (MQ below (va_Qv (fun (u : tw_T) => Q u ∧ gN u = gN τ0) (fun u t => PX dC dI ac A ad u t.heap) A) ([.ref (ad 8 k0), .int x1] : List Value).toArray s 0 0 A) (F0 m 135 ls [])) → W p l e rmX4_findChains s m ([.ref (ad 8 k0), .int x1] : List Value).toArray below meth c H locs 0 0 (MQ below (va_Qv (fun (u : tw_T) => Q u ∧ gN u = gN τ0) (fun u t => PX dC dI ac A ad u t.heap) A) ([.ref (ad 8 k0), .int x1] : List Value).toArray s 0 0 A) (F0 m 129 ls []) := by
            intro τ p0 hp0 u2 u3 H locs ls RC EX hF hP hN hS hl hRC hEX
            unfold J_X4_findChains_129 at hF
            obtain ⟨z1, ez1⟩ : ∃ y : Int32, y = u3 + (1 : Int32) := ⟨_, rfl⟩
            have hF := hF z1 ez1
            refine lv_iinc (v := z1) (lv' := [(3, .int z1), (0, .ref (ad 8 p0)), (2, .int u2)]) hx hb dX4_findChains_129 hl (k := 2) rfl (by rw [ez1]; rfl) (by decide) rfl (fun ls hl => ?_)
            refine lv_goto (tgt := 96) hx hb dX4_findChains_132 (by decide) ?_
            exact hRC τ z1 _ _ _ hF hP hN hS (lv_sub hl [1, 2, 0] rfl)
          refine lv_iload_n hx hb dX4_findChains_96 rfl (lv_at hl 2 rfl) ?_
          refine lv_aload_n hx hb dX4_findChains_97 rfl (lv_at hl 0 rfl) ?_
          refine tw_get (v := .int (gI τ 8 p0 9)) hx hb hts (by decide +kernel) hown hK hP (by decide) (tw_lt hp0 (congrFun hN 8)) rfl rfl 9 (by decide) (hts (.fieldLink RX4 44 "WineCellar$Planner" "never" "I") (by decide +kernel)) (fun _ h9 => h9) rfl dX4_findChains_98 ?_
          refine lv_icmp_ge (tgt := 135) hx hb dX4_findChains_101 (by decide) (fun c2 => ?_) (fun c2 => ?_)
          · have hF := hF.1 c2
            exact hEX τ u3 _ _ _ hF hP hN hS (lv_sub hl [0, 1, 2] rfl)
          · have hF := hF.2 c2
            refine lv_aload_n hx hb dX4_findChains_104 rfl (lv_at hl 0 rfl) ?_
            obtain ⟨o3, eo3, hF⟩ := hF
            have ho3 : o3 < gN τ0 17 := tw_lt (hP.2.2.2 8 p0 2 o3 (by decide) (tw_lt hp0 (congrFun hN 8)) eo3) (congrFun hN 17).symm
            refine tw_get (v := .ref (ad 17 o3)) hx hb hts (by decide +kernel) hown hK hP (by decide) (tw_lt hp0 (congrFun hN 8)) rfl rfl 2 (by decide) (hts (.fieldLink RX4 21 "WineCellar$Planner" "room" "[I") (by decide +kernel)) (fun _ h9 => h9) (show some (va_rf ((gR τ 8 p0 2).map (ad 17))) = some (.ref (ad 17 o3)) by rw [eo3]; rfl) dX4_findChains_105 ?_
            refine lv_iload_n hx hb dX4_findChains_108 rfl (lv_at hl 2 rfl) ?_
            obtain ⟨hi4, hF⟩ := hF
            refine tw_iald hx hb hK hP (by decide) (tw_lt ho3 (congrFun hN 17)) rfl 0 rfl hi4 dX4_findChains_109 ?_
            refine lv_if_ne (tgt := 129) hx hb dX4_findChains_110 (by decide) (fun c5 => ?_) (fun c5 => ?_)
            · have hF := hF.1 c5
              exact j129 τ p0 hp0 u2 u3 _ _ _ _ _ hF hP hN hS (lv_sub hl [0, 1, 2] rfl) (fun t v3 H locs ls hF hP hN hS hl => ih t v3 _ _ _ hF hP hN hS hl hEX) hEX
            · have hF := hF.2 c5
              refine lv_aload_n hx hb dX4_findChains_113 rfl (lv_at hl 0 rfl) ?_
              obtain ⟨o6, eo6, hF⟩ := hF
              have ho6 : o6 < gN τ0 18 := tw_lt (hP.2.2.2 8 p0 3 o6 (by decide) (tw_lt hp0 (congrFun hN 8)) eo6) (congrFun hN 18).symm
              refine tw_get (v := .ref (ad 18 o6)) hx hb hts (by decide +kernel) hown hK hP (by decide) (tw_lt hp0 (congrFun hN 8)) rfl rfl 3 (by decide) (hts (.fieldLink RX4 25 "WineCellar$Planner" "best" "[I") (by decide +kernel)) (fun _ h9 => h9) (show some (va_rf ((gR τ 8 p0 3).map (ad 18))) = some (.ref (ad 18 o6)) by rw [eo6]; rfl) dX4_findChains_114 ?_
              refine lv_iload_n hx hb dX4_findChains_117 rfl (lv_at hl 2 rfl) ?_
              obtain ⟨hi7, hF⟩ := hF
              refine tw_iald hx hb hK hP (by decide) (tw_lt ho6 (congrFun hN 18)) rfl 0 rfl hi7 dX4_findChains_118 ?_
              refine lv_ldc (v := (-2147483648)) hx hb hown (hts (.constant RX4 88 (-2147483648)) (by decide +kernel)) dX4_findChains_119 ?_
              refine lv_icmp_eq (tgt := 129) hx hb dX4_findChains_121 (by decide) (fun c8 => ?_) (fun c8 => ?_)
              · have hF := hF.1 c8
                exact j129 τ p0 hp0 u2 u3 _ _ _ _ _ hF hP hN hS (lv_sub hl [0, 1, 2] rfl) (fun t v3 H locs ls hF hP hN hS hl => ih t v3 _ _ _ hF hP hN hS hl hEX) hEX
              · have hF := hF.2 c8
                refine lv_aload_n hx hb dX4_findChains_124 rfl (lv_at hl 0 rfl) ?_
                refine lv_iload_n hx hb dX4_findChains_125 rfl (lv_at hl 2 rfl) ?_
                refine va_callv (va_runV (As := [.int u3]) (rest := []) ⟨hx, hb, hml, hown, hts⟩ (mX4_lengthenFrom l dC dI ac sa A ad τ p0 u3 _ hF (tw_lt hp0 (congrFun hN 8))) (cwV 1 hts gX4_findChains_X4_lengthenFrom rfl rfl rfl (by decide +kernel) ⟨Nat.le_of_ble_eq_true rfl, Nat.le_of_ble_eq_true rfl⟩) ⟨BX.blind, tw_recv hK hP (by decide) (tw_lt hp0 (congrFun hN 8)) rfl rfl, fun U hU hW => ⟨rfl, BX.of hP hK hS hA hZ hU hW⟩⟩ rfl rfl hl.1 rfl (lv_room (Nat.le_of_ble_eq_true rfl)) dX4_findChains_126 ⟨Nat.le_of_ble_eq_true rfl, Nat.le_of_ble_eq_true rfl⟩) hS (fun q _ h => h) (fun q h => h) (fun τ9 t H locs ht hvm hw hB hz hk hS => ?_)
                obtain ⟨hF, hN9⟩ := hw
                have hP : PX dC dI ac A ad τ9 H := tw_back hB ht
                have hN : gN τ9 = gN τ0 := hN9.trans hN
                exact j129 τ9 p0 hp0 u2 u3 _ _ _ _ _ hF hP hN hS (lv_sub hl [0, 1, 2] rfl) (fun t v3 H locs ls hF hP hN hS hl => ih t v3 _ _ _ hF hP hN hS hl hEX) hEX
      refine lv_iload_n hx hb dX4_findChains_86 rfl (lv_at hl 1 rfl) ?_
      refine lv_aload_n hx hb dX4_findChains_87 rfl (lv_at hl 0 rfl) ?_
      refine tw_get (v := .int (gI τ 8 p0 9)) hx hb hts (by decide +kernel) hown hK hP (by decide) (tw_lt hp0 (congrFun hN 8)) rfl rfl 9 (by decide) (hts (.fieldLink RX4 44 "WineCellar$Planner" "never" "I") (by decide +kernel)) (fun _ h9 => h9) rfl dX4_findChains_88 ?_
      refine lv_icmp_ge (tgt := 141) hx hb dX4_findChains_91 (by decide) (fun c10 => ?_) (fun c10 => ?_)
      · have hF := hF.1 c10
        exact hEX τ u2 _ _ _ hF hP hN hS (lv_sub hl [0, 1] rfl)
      · have hF := hF.2 c10
        refine lv_iconst (v := 0) hx hb dX4_findChains_94 (by decide) ?_
        refine lv_istore_n (lv' := [(3, .int ((0 : Int32))), (0, .ref (ad 8 p0)), (2, .int u2)]) hx hb dX4_findChains_95 rfl hl (by decide) rfl (fun ls hl => ?_)
        obtain ⟨n11, hF⟩ := hF
        refine l96 p0 hp0 u2 _ n11 τ ((0 : Int32)) _ _ _ hF hP hN hS (lv_sub hl [1, 2, 0] rfl) ?_
        intro τ12 z13 H locs ls hF hP hN hS hl
        obtain ⟨z14, ez14⟩ : ∃ y : Int32, y = u2 + (1 : Int32) := ⟨_, rfl⟩
        have hF := hF z14 ez14
        refine lv_iinc (v := z14) (lv' := [(2, .int z14), (0, .ref (ad 8 p0)), (3, .int z13)]) hx hb dX4_findChains_135 hl (k := 1) rfl (by rw [ez14]; rfl) (by decide) rfl (fun ls hl => ?_)
        refine lv_goto (tgt := 86) hx hb dX4_findChains_138 (by decide) ?_
        exact ih τ12 z14 _ _ _ hF hP hN hS (lv_sub hl [1, 0] rfl) hEX
  have l56 : ∀ (p0 : Nat) (hp0 : p0 < gN τ0 8) (EX : tw_T → Int32 → Prop) (n : Nat) (τ : tw_T) (u2 : Int32) (H : Heap) (locs : List Loc) (ls : Array Slot), L_X4_findChains_56 p0 Q EX n τ u2 → PX dC dI ac A ad τ H → gN τ = gN τ0 → va_S A s.heap H locs → lv_has ls 4 [(0, .ref (ad 8 p0)), (2, .int u2)] → (∀ (τ : tw_T) (u2 : Int32) (H : Heap) (locs : List Loc) (ls : Array Slot), EX τ u2 → PX dC dI ac A ad τ H → gN τ = gN τ0 → va_S A s.heap H locs → lv_has ls 4 [(0, .ref (ad 8 p0)), (2, .int u2)] → W p l e rmX4_findChains s m ([.ref (ad 8 k0), .int x1] : List Value).toArray below meth c H locs 0 0 (MQ below (va_Qv (fun (u : tw_T) => Q u ∧ gN u = gN τ0) (fun u t => PX dC dI ac A ad u t.heap) A) ([.ref (ad 8 k0), .int x1] : List Value).toArray s 0 0 A) (F0 m 84 ls [])) → W p l e rmX4_findChains s m ([.ref (ad 8 k0), .int x1] : List Value).toArray below meth c H locs 0 0 (MQ below (va_Qv (fun (u : tw_T) => Q u ∧ gN u = gN τ0) (fun u t => PX dC dI ac A ad u t.heap) A) ([.ref (ad 8 k0), .int x1] : List Value).toArray s 0 0 A) (F0 m 56 ls []) := by
    intro p0 hp0 EX n
    induction n with
    | zero => intro τ u2 H locs ls hF; exact hF.elim
    | succ n ih =>
      intro τ u2 H locs ls hF hP hN hS hl hEX
      rw [L_X4_findChains_56] at hF
      have j78 : ∀ (τ : tw_T) (p0 : Nat) (hp0 : p0 < gN τ0 8) (u2 : Int32) (H : Heap) (locs : List Loc) (ls : Array Slot) (RC EX : tw_T → Int32 → Prop), J_X4_findChains_78 τ p0 u2 Q RC EX → PX dC dI ac A ad τ H → gN τ = gN τ0 → va_S A s.heap H locs → lv_has ls 4 [(0, .ref (ad 8 p0)), (2, .int u2)] → (∀ (τ : tw_T) (u2 : Int32) (H : Heap) (locs : List Loc) (ls : Array Slot), RC τ u2 → PX dC dI ac A ad τ H → gN τ = gN τ0 → va_S A s.heap H locs → lv_has ls 4 [(0, .ref (ad 8 p0)), (2, .int u2)] → W p l e rmX4_findChains s m ([.ref (ad 8 k0), .int x1] : List Value).toArray below meth c H locs 0 0 (MQ below (va_Qv (fun (u : tw_T) => Q u ∧ gN u = gN τ0) (fun u t => PX dC dI ac A ad u t.heap) A) ([.ref (ad 8 k0), .int x1] : List Value).toArray s 0 0 A) (F0 m 56 ls [])) → (∀ (τ : tw_T) (u2 : Int32) (H : Heap) (locs : List Loc) (ls : Array Slot), EX τ u2 → PX dC dI ac A ad τ H → gN τ = gN τ0 → va_S A s.heap H locs → lv_has ls 4 [(0, .ref (ad 8 p0)), (2, .int u2)] → W p l e rmX4_findChains s m ([.ref (ad 8 k0), .int x1] : List Value).toArray below meth c H locs 0 0 (MQ below (va_Qv (fun (u : tw_T) => Q u ∧ gN u = gN τ0) (fun u t => PX dC dI ac A ad u t.heap) A) ([.ref (ad 8 k0), .int x1] : List Value).toArray s 0 0 A) (F0 m 84 ls [])) → W p l e rmX4_findChains s m ([.ref (ad 8 k0), .int x1] : List Value).toArray below meth c H locs 0 0 (MQ below (va_Qv (fun (u : tw_T) => Q u ∧ gN u = gN τ0) (fun u t => PX dC dI ac A ad u t.heap) A) ([.ref (ad 8 k0), .int x1] : List Value).toArray s 0 0 A) (F0 m 78 ls []) := by
        intro τ p0 hp0 u2 H locs ls RC EX hF hP hN hS hl hRC hEX
        unfold J_X4_findChains_78 at hF
        obtain ⟨z15, ez15⟩ : ∃ y : Int32, y = u2 + (1 : Int32) := ⟨_, rfl⟩
        have hF := hF z15 ez15
        refine lv_iinc (v := z15) (lv' := [(2, .int z15), (0, .ref (ad 8 p0))]) hx hb dX4_findChains_78 hl (k := 1) rfl (by rw [ez15]; rfl) (by decide) rfl (fun ls hl => ?_)
        refine lv_goto (tgt := 56) hx hb dX4_findChains_81 (by decide) ?_
        exact hRC τ z15 _ _ _ hF hP hN hS (lv_sub hl [1, 0] rfl)
      refine lv_iload_n hx hb dX4_findChains_56 rfl (lv_at hl 1 rfl) ?_
      refine lv_aload_n hx hb dX4_findChains_57 rfl (lv_at hl 0 rfl) ?_
      refine tw_get (v := .int (gI τ 8 p0 9)) hx hb hts (by decide +kernel) hown hK hP (by decide) (tw_lt hp0 (congrFun hN 8)) rfl rfl 9 (by decide) (hts (.fieldLink RX4 44 "WineCellar$Planner" "never" "I") (by decide +kernel)) (fun _ h9 => h9) rfl dX4_findChains_58 ?_
      refine lv_icmp_ge (tgt := 84) hx hb dX4_findChains_61 (by decide) (fun c16 => ?_) (fun c16 => ?_)
      · have hF := hF.1 c16
        exact hEX τ u2 _ _ _ hF hP hN hS (lv_sub hl [0, 1] rfl)
      · have hF := hF.2 c16
        refine lv_aload_n hx hb dX4_findChains_64 rfl (lv_at hl 0 rfl) ?_
        obtain ⟨o17, eo17, hF⟩ := hF
        have ho17 : o17 < gN τ0 17 := tw_lt (hP.2.2.2 8 p0 2 o17 (by decide) (tw_lt hp0 (congrFun hN 8)) eo17) (congrFun hN 17).symm
        refine tw_get (v := .ref (ad 17 o17)) hx hb hts (by decide +kernel) hown hK hP (by decide) (tw_lt hp0 (congrFun hN 8)) rfl rfl 2 (by decide) (hts (.fieldLink RX4 21 "WineCellar$Planner" "room" "[I") (by decide +kernel)) (fun _ h9 => h9) (show some (va_rf ((gR τ 8 p0 2).map (ad 17))) = some (.ref (ad 17 o17)) by rw [eo17]; rfl) dX4_findChains_65 ?_
        refine lv_iload_n hx hb dX4_findChains_68 rfl (lv_at hl 1 rfl) ?_
        obtain ⟨hi18, hF⟩ := hF
        refine tw_iald hx hb hK hP (by decide) (tw_lt ho17 (congrFun hN 17)) rfl 0 rfl hi18 dX4_findChains_69 ?_
        refine lv_if_ne (tgt := 78) hx hb dX4_findChains_70 (by decide) (fun c19 => ?_) (fun c19 => ?_)
        · have hF := hF.1 c19
          exact j78 τ p0 hp0 u2 _ _ _ _ _ hF hP hN hS (lv_sub hl [0, 1] rfl) (fun t v2 H locs ls hF hP hN hS hl => ih t v2 _ _ _ hF hP hN hS hl hEX) hEX
        · have hF := hF.2 c19
          refine lv_aload_n hx hb dX4_findChains_73 rfl (lv_at hl 0 rfl) ?_
          refine lv_iload_n hx hb dX4_findChains_74 rfl (lv_at hl 1 rfl) ?_
          refine va_callv (va_runV (As := [.int u2]) (rest := []) ⟨hx, hb, hml, hown, hts⟩ (mX4_findMovers l dC dI ac sa A ad τ p0 u2 _ hF (tw_lt hp0 (congrFun hN 8))) (cwV 1 hts gX4_findChains_X4_findMovers rfl rfl rfl (by decide +kernel) ⟨Nat.le_of_ble_eq_true rfl, Nat.le_of_ble_eq_true rfl⟩) ⟨BX.blind, tw_recv hK hP (by decide) (tw_lt hp0 (congrFun hN 8)) rfl rfl, fun U hU hW => ⟨rfl, BX.of hP hK hS hA hZ hU hW⟩⟩ rfl rfl hl.1 rfl (lv_room (Nat.le_of_ble_eq_true rfl)) dX4_findChains_75 ⟨Nat.le_of_ble_eq_true rfl, Nat.le_of_ble_eq_true rfl⟩) hS (fun q _ h => h) (fun q h => h) (fun τ20 t H locs ht hvm hw hB hz hk hS => ?_)
          obtain ⟨hF, hN9⟩ := hw
          have hP : PX dC dI ac A ad τ20 H := tw_back hB ht
          have hN : gN τ20 = gN τ0 := hN9.trans hN
          exact j78 τ20 p0 hp0 u2 _ _ _ _ _ hF hP hN hS (lv_sub hl [0, 1] rfl) (fun t v2 H locs ls hF hP hN hS hl => ih t v2 _ _ _ hF hP hN hS hl hEX) hEX
  have l2 : ∀ (p0 : Nat) (hp0 : p0 < gN τ0 8) (u1 : Int32) (EX : tw_T → Int32 → Prop) (n : Nat) (τ : tw_T) (u2 : Int32) (H : Heap) (locs : List Loc) (ls : Array Slot), L_X4_findChains_2 p0 u1 Q EX n τ u2 → PX dC dI ac A ad τ H → gN τ = gN τ0 → va_S A s.heap H locs → lv_has ls 4 [(0, .ref (ad 8 p0)), (1, .int u1), (2, .int u2)] → (∀ (τ : tw_T) (u2 : Int32) (H : Heap) (locs : List Loc) (ls : Array Slot), EX τ u2 → PX dC dI ac A ad τ H → gN τ = gN τ0 → va_S A s.heap H locs → lv_has ls 4 [(0, .ref (ad 8 p0)), (1, .int u1), (2, .int u2)] → W p l e rmX4_findChains s m ([.ref (ad 8 k0), .int x1] : List Value).toArray below meth c H locs 0 0 (MQ below (va_Qv (fun (u : tw_T) => Q u ∧ gN u = gN τ0) (fun u t => PX dC dI ac A ad u t.heap) A) ([.ref (ad 8 k0), .int x1] : List Value).toArray s 0 0 A) (F0 m 54 ls [])) → W p l e rmX4_findChains s m ([.ref (ad 8 k0), .int x1] : List Value).toArray below meth c H locs 0 0 (MQ below (va_Qv (fun (u : tw_T) => Q u ∧ gN u = gN τ0) (fun u t => PX dC dI ac A ad u t.heap) A) ([.ref (ad 8 k0), .int x1] : List Value).toArray s 0 0 A) (F0 m 2 ls []) := by
    intro p0 hp0 u1 EX n
    induction n with
    | zero => intro τ u2 H locs ls hF; exact hF.elim
    | succ n ih =>
      intro τ u2 H locs ls hF hP hN hS hl hEX
      rw [L_X4_findChains_2] at hF
      have j40 : ∀ (τ : tw_T) (p0 : Nat) (hp0 : p0 < gN τ0 8) (u1 : Int32) (u2 : Int32) (y0 : Int32) (y1 : Int32) (q2 : Nat) (hq2 : q2 < gN τ0 18) (H : Heap) (locs : List Loc) (ls : Array Slot) (RC EX : tw_T → Int32 → Prop), J_X4_findChains_40 τ p0 u1 u2 y0 y1 q2 Q RC EX → PX dC dI ac A ad τ H → gN τ = gN τ0 → va_S A s.heap H locs → lv_has ls 4 [(0, .ref (ad 8 p0)), (1, .int u1), (2, .int u2)] → (∀ (τ : tw_T) (u2 : Int32) (H : Heap) (locs : List Loc) (ls : Array Slot), RC τ u2 → PX dC dI ac A ad τ H → gN τ = gN τ0 → va_S A s.heap H locs → lv_has ls 4 [(0, .ref (ad 8 p0)), (1, .int u1), (2, .int u2)] → W p l e rmX4_findChains s m ([.ref (ad 8 k0), .int x1] : List Value).toArray below meth c H locs 0 0 (MQ below (va_Qv (fun (u : tw_T) => Q u ∧ gN u = gN τ0) (fun u t => PX dC dI ac A ad u t.heap) A) ([.ref (ad 8 k0), .int x1] : List Value).toArray s 0 0 A) (F0 m 2 ls [])) → (∀ (τ : tw_T) (u2 : Int32) (H : Heap) (locs : List Loc) (ls : Array Slot), EX τ u2 → PX dC dI ac A ad τ H → gN τ = gN τ0 → va_S A s.heap H locs → lv_has ls 4 [(0, .ref (ad 8 p0)), (1, .int u1), (2, .int u2)] → W p l e rmX4_findChains s m ([.ref (ad 8 k0), .int x1] : List Value).toArray below meth c H locs 0 0 (MQ below (va_Qv (fun (u : tw_T) => Q u ∧ gN u = gN τ0) (fun u t => PX dC dI ac A ad u t.heap) A) ([.ref (ad 8 k0), .int x1] : List Value).toArray s 0 0 A) (F0 m 54 ls [])) → W p l e rmX4_findChains s m ([.ref (ad 8 k0), .int x1] : List Value).toArray below meth c H locs 0 0 (MQ below (va_Qv (fun (u : tw_T) => Q u ∧ gN u = gN τ0) (fun u t => PX dC dI ac A ad u t.heap) A) ([.ref (ad 8 k0), .int x1] : List Value).toArray s 0 0 A) (F0 m 40 ls [.int y0, .int y1, .ref (ad 18 q2)]) := by
        intro τ p0 hp0 u1 u2 y0 y1 q2 hq2 H locs ls RC EX hF hP hN hS hl hRC hEX
        unfold J_X4_findChains_40 at hF
        obtain ⟨hi21, hF⟩ := hF
        refine tw_iast hx hb hK hP hS (by decide) (tw_lt hq2 (congrFun hN 18)) rfl 0 rfl hi21 dX4_findChains_40 (fun H locs hP hS => ?_)
        obtain ⟨τ22, eτ22⟩ : ∃ y : tw_T, y = sI τ 18 q2 y1.toNatClampNeg y0 := ⟨_, rfl⟩
        have hF := hF τ22 eτ22
        rw [← eτ22] at hP
        have hN : gN τ22 = gN τ0 := by rw [eτ22]; exact hN
        refine lv_aload_n hx hb dX4_findChains_41 rfl (lv_at hl 0 rfl) ?_
        obtain ⟨o23, eo23, hF⟩ := hF
        have ho23 : o23 < gN τ0 19 := tw_lt (hP.2.2.2 8 p0 4 o23 (by decide) (tw_lt hp0 (congrFun hN 8)) eo23) (congrFun hN 19).symm
        refine tw_get (v := .ref (ad 19 o23)) hx hb hts (by decide +kernel) hown hK hP (by decide) (tw_lt hp0 (congrFun hN 8)) rfl rfl 4 (by decide) (hts (.fieldLink RX4 28 "WineCellar$Planner" "ahead" "[I") (by decide +kernel)) (fun _ h9 => h9) (show some (va_rf ((gR τ22 8 p0 4).map (ad 19))) = some (.ref (ad 19 o23)) by rw [eo23]; rfl) dX4_findChains_42 ?_
        refine lv_iload_n hx hb dX4_findChains_45 rfl (lv_at hl 2 rfl) ?_
        refine lv_iconst (v := (-1)) hx hb dX4_findChains_46 (by decide) ?_
        obtain ⟨hi24, hF⟩ := hF
        refine tw_iast hx hb hK hP hS (by decide) (tw_lt ho23 (congrFun hN 19)) rfl 0 rfl hi24 dX4_findChains_47 (fun H locs hP hS => ?_)
        obtain ⟨τ25, eτ25⟩ : ∃ y : tw_T, y = sI τ22 19 o23 u2.toNatClampNeg ((-1 : Int32)) := ⟨_, rfl⟩
        have hF := hF τ25 eτ25
        rw [← eτ25] at hP
        have hN : gN τ25 = gN τ0 := by rw [eτ25]; exact hN
        obtain ⟨z26, ez26⟩ : ∃ y : Int32, y = u2 + (1 : Int32) := ⟨_, rfl⟩
        have hF := hF z26 ez26
        refine lv_iinc (v := z26) (lv' := [(2, .int z26), (0, .ref (ad 8 p0)), (1, .int u1)]) hx hb dX4_findChains_48 hl (k := 2) rfl (by rw [ez26]; rfl) (by decide) rfl (fun ls hl => ?_)
        refine lv_goto (tgt := 2) hx hb dX4_findChains_51 (by decide) ?_
        exact hRC τ25 z26 _ _ _ hF hP hN hS (lv_sub hl [1, 2, 0] rfl)
      refine lv_iload_n hx hb dX4_findChains_2 rfl (lv_at hl 2 rfl) ?_
      refine lv_aload_n hx hb dX4_findChains_3 rfl (lv_at hl 0 rfl) ?_
      refine tw_get (v := .int (gI τ 8 p0 9)) hx hb hts (by decide +kernel) hown hK hP (by decide) (tw_lt hp0 (congrFun hN 8)) rfl rfl 9 (by decide) (hts (.fieldLink RX4 44 "WineCellar$Planner" "never" "I") (by decide +kernel)) (fun _ h9 => h9) rfl dX4_findChains_4 ?_
      refine lv_icmp_gt (tgt := 54) hx hb dX4_findChains_7 (by decide) (fun c27 => ?_) (fun c27 => ?_)
      · have hF := hF.1 c27
        exact hEX τ u2 _ _ _ hF hP hN hS (lv_sub hl [0, 1, 2] rfl)
      · have hF := hF.2 c27
        refine lv_aload_n hx hb dX4_findChains_10 rfl (lv_at hl 0 rfl) ?_
        obtain ⟨o28, eo28, hF⟩ := hF
        have ho28 : o28 < gN τ0 18 := tw_lt (hP.2.2.2 8 p0 3 o28 (by decide) (tw_lt hp0 (congrFun hN 8)) eo28) (congrFun hN 18).symm
        refine tw_get (v := .ref (ad 18 o28)) hx hb hts (by decide +kernel) hown hK hP (by decide) (tw_lt hp0 (congrFun hN 8)) rfl rfl 3 (by decide) (hts (.fieldLink RX4 25 "WineCellar$Planner" "best" "[I") (by decide +kernel)) (fun _ h9 => h9) (show some (va_rf ((gR τ 8 p0 3).map (ad 18))) = some (.ref (ad 18 o28)) by rw [eo28]; rfl) dX4_findChains_11 ?_
        refine lv_iload_n hx hb dX4_findChains_14 rfl (lv_at hl 2 rfl) ?_
        refine lv_aload_n hx hb dX4_findChains_15 rfl (lv_at hl 0 rfl) ?_
        obtain ⟨o29, eo29, hF⟩ := hF
        have ho29 : o29 < gN τ0 15 := tw_lt (hP.2.2.2 8 p0 0 o29 (by decide) (tw_lt hp0 (congrFun hN 8)) eo29) (congrFun hN 15).symm
        refine tw_get (v := .ref (ad 15 o29)) hx hb hts (by decide +kernel) hown hK hP (by decide) (tw_lt hp0 (congrFun hN 8)) rfl rfl 0 (by decide) (hts (.fieldLink RX4 13 "WineCellar$Planner" "gains" "[[I") (by decide +kernel)) (fun _ h9 => h9) (show some (va_rf ((gR τ 8 p0 0).map (ad 15))) = some (.ref (ad 15 o29)) by rw [eo29]; rfl) dX4_findChains_16 ?_
        refine lv_iload_n hx hb dX4_findChains_19 rfl (lv_at hl 1 rfl) ?_
        obtain ⟨hi31, o30, eo30, hF⟩ := hF
        have ho30 : o30 < gN τ0 26 := tw_lt (hP.2.2.2 15 o29 _ o30 (by decide) (tw_lt ho29 (congrFun hN 15)) eo30) (congrFun hN 26).symm
        refine tw_aald hx hb hK hP (by decide) (tw_lt ho29 (congrFun hN 15)) rfl 8 rfl rfl (fun _ => rfl) hi31 dX4_findChains_20 ?_
        refine W.eq (g2 := F0 m 21 ls [.ref (ad 26 o30), .int u2, .ref (ad 18 o28)]) (by rw [eo30]; rfl) ?_
        refine lv_iload_n hx hb dX4_findChains_21 rfl (lv_at hl 2 rfl) ?_
        obtain ⟨hi32, hF⟩ := hF
        refine tw_iald hx hb hK hP (by decide) (tw_lt ho30 (congrFun hN 26)) rfl 0 rfl hi32 dX4_findChains_22 ?_
        refine lv_iconst (v := (-1)) hx hb dX4_findChains_23 (by decide) ?_
        refine lv_icmp_ne (tgt := 32) hx hb dX4_findChains_24 (by decide) (fun c33 => ?_) (fun c33 => ?_)
        · have hF := hF.1 c33
          refine lv_aload_n hx hb dX4_findChains_32 rfl (lv_at hl 0 rfl) ?_
          obtain ⟨o34, eo34, hF⟩ := hF
          have ho34 : o34 < gN τ0 15 := tw_lt (hP.2.2.2 8 p0 0 o34 (by decide) (tw_lt hp0 (congrFun hN 8)) eo34) (congrFun hN 15).symm
          refine tw_get (v := .ref (ad 15 o34)) hx hb hts (by decide +kernel) hown hK hP (by decide) (tw_lt hp0 (congrFun hN 8)) rfl rfl 0 (by decide) (hts (.fieldLink RX4 13 "WineCellar$Planner" "gains" "[[I") (by decide +kernel)) (fun _ h9 => h9) (show some (va_rf ((gR τ 8 p0 0).map (ad 15))) = some (.ref (ad 15 o34)) by rw [eo34]; rfl) dX4_findChains_33 ?_
          refine lv_iload_n hx hb dX4_findChains_36 rfl (lv_at hl 1 rfl) ?_
          obtain ⟨hi36, o35, eo35, hF⟩ := hF
          have ho35 : o35 < gN τ0 26 := tw_lt (hP.2.2.2 15 o34 _ o35 (by decide) (tw_lt ho34 (congrFun hN 15)) eo35) (congrFun hN 26).symm
          refine tw_aald hx hb hK hP (by decide) (tw_lt ho34 (congrFun hN 15)) rfl 8 rfl rfl (fun _ => rfl) hi36 dX4_findChains_37 ?_
          refine W.eq (g2 := F0 m 38 ls [.ref (ad 26 o35), .int u2, .ref (ad 18 o28)]) (by rw [eo35]; rfl) ?_
          refine lv_iload_n hx hb dX4_findChains_38 rfl (lv_at hl 2 rfl) ?_
          obtain ⟨hi37, hF⟩ := hF
          refine tw_iald hx hb hK hP (by decide) (tw_lt ho35 (congrFun hN 26)) rfl 0 rfl hi37 dX4_findChains_39 ?_
          exact j40 τ p0 hp0 u1 u2 (gI τ 26 o35 u2.toNatClampNeg) u2 o28 ho28 _ _ _ _ _ hF hP hN hS (lv_sub hl [0, 1, 2] rfl) (fun t v2 H locs ls hF hP hN hS hl => ih t v2 _ _ _ hF hP hN hS hl hEX) hEX
        · have hF := hF.2 c33
          refine lv_ldc (v := (-2147483648)) hx hb hown (hts (.constant RX4 88 (-2147483648)) (by decide +kernel)) dX4_findChains_27 ?_
          refine lv_goto (tgt := 40) hx hb dX4_findChains_29 (by decide) ?_
          exact j40 τ p0 hp0 u1 u2 ((-2147483648 : Int32)) u2 o28 ho28 _ _ _ _ _ hF hP hN hS (lv_sub hl [0, 1, 2] rfl) (fun t v2 H locs ls hF hP hN hS hl => ih t v2 _ _ _ hF hP hN hS hl hEX) hEX
  refine lv_iconst (v := 0) hx hb dX4_findChains_0 (by decide) ?_
  refine lv_istore_n (lv' := [(2, .int ((0 : Int32))), (0, .ref (ad 8 k0)), (1, .int x1)]) hx hb dX4_findChains_1 rfl hl (by decide) rfl (fun ls hl => ?_)
  obtain ⟨n38, hF⟩ := hF
  refine l2 k0 hk0 x1 _ n38 τ0 ((0 : Int32)) _ _ _ hF hP hN hS (lv_sub hl [1, 2, 0] rfl) ?_
  intro τ39 z40 H locs ls hF hP hN hS hl
  refine lv_iconst (v := 0) hx hb dX4_findChains_54 (by decide) ?_
  refine lv_istore_n (lv' := [(2, .int ((0 : Int32))), (0, .ref (ad 8 k0)), (1, .int x1)]) hx hb dX4_findChains_55 rfl hl (by decide) rfl (fun ls hl => ?_)
  obtain ⟨n41, hF⟩ := hF
  refine l56 k0 hk0 _ n41 τ39 ((0 : Int32)) _ _ _ hF hP hN hS (lv_sub hl [1, 0] rfl) ?_
  intro τ42 z43 H locs ls hF hP hN hS hl
  refine lv_iconst (v := 0) hx hb dX4_findChains_84 (by decide) ?_
  refine lv_istore_n (lv' := [(2, .int ((0 : Int32))), (0, .ref (ad 8 k0))]) hx hb dX4_findChains_85 rfl hl (by decide) rfl (fun ls hl => ?_)
  obtain ⟨n44, hF⟩ := hF
  refine l86 k0 hk0 _ n44 τ42 ((0 : Int32)) _ _ _ hF hP hN hS (lv_sub hl [1, 0] rfl) ?_
  intro τ45 z46 H locs ls hF hP hN hS hl
  exact W.vret hx hb hr (fun t ht hW => ⟨⟨τ45, rfl, ⟨hF, hN⟩, tw_at hP ht⟩, hS.F ht⟩) hS.2.2 dX4_findChains_141
def J_X4_bestLast_41 (τ : tw_T) (p0 : Nat) (u1 : Int32) (u2 : Int32) (Q : Int32 → tw_T → Prop) (RC EX : tw_T → Int32 → Int32 → Prop) : Prop := ∀ z1 : Int32, z1 = u2 + (1 : Int32) → (RC τ u1 z1)
def L_X4_bestLast_7 (p0 : Nat) (Q : Int32 → tw_T → Prop) (EX : tw_T → Int32 → Int32 → Prop) : Nat → tw_T → Int32 → Int32 → Prop
  | 0, _, _, _ => False
  | n + 1, τ, u1, u2 => (((gI τ 8 p0 9) ≤ u2 → (EX τ u1 u2)) ∧ (¬ (gI τ 8 p0 9) ≤ u2 → (∃ o3 : Nat, gR τ 8 p0 2 = some o3 ∧ (vp_in u2 7 ∧ ((((gI τ 17 o3 u2.toNatClampNeg) ≤ 0 → (J_X4_bestLast_41 τ p0 u1 u2 Q (fun t v1 v2 => L_X4_bestLast_7 p0 Q EX n t v1 v2) EX)) ∧ (¬ (gI τ 17 o3 u2.toNatClampNeg) ≤ 0 → (∃ o6 : Nat, gR τ 8 p0 3 = some o6 ∧ (vp_in u2 7 ∧ (∃ o8 : Nat, gR τ 8 p0 3 = some o8 ∧ (vp_in u1 7 ∧ ((((gI τ 18 o6 u2.toNatClampNeg) ≤ (gI τ 18 o8 u1.toNatClampNeg) → (J_X4_bestLast_41 τ p0 u1 u2 Q (fun t v1 v2 => L_X4_bestLast_7 p0 Q EX n t v1 v2) EX)) ∧ (¬ (gI τ 18 o6 u2.toNatClampNeg) ≤ (gI τ 18 o8 u1.toNatClampNeg) → (J_X4_bestLast_41 τ p0 u2 u2 Q (fun t v1 v2 => L_X4_bestLast_7 p0 Q EX n t v1 v2) EX)))))))))))))))
def F_X4_bestLast (τ0 : tw_T) (k0 : Nat) (Q : Int32 → tw_T → Prop) : Prop := ∀ z11 : Int32, z11 = gI τ0 8 k0 9 → (∃ n12 : Nat, L_X4_bestLast_7 k0 Q (fun (τ13 : tw_T) (z14 : Int32) (z15 : Int32) => Q z14 τ13) n12 τ0 z11 ((0 : Int32)))
def rmX4_bestLast : Room := { frames := 0, cells := 0, slots := 0, locals := 0 }
set_option maxHeartbeats 4000000 in
set_option maxRecDepth 100000 in
theorem mX4_bestLast (l : Launch) (dC : Nat → ClassId) (dI : Nat → Nat → Nat) (ac : Nat → ClassId) (sa : Nat → Nat) (A : Nat → Prop) (ad : Nat → Nat → Nat) (τ0 : tw_T) (k0 : Nat) (Q : Int32 → tw_T → Prop) (hF : F_X4_bestLast τ0 k0 Q) (hk0 : k0 < gN τ0 8) : Met l yX4_bestLast wsX4_bestLast rmX4_bestLast (va_Pc [.ref (ad 8 k0)] (BX dC dI ac sa A ad τ0)) (va_Qi (fun r (u : tw_T) => Q r u ∧ gN u = gN τ0) (fun u t => PX dC dI ac A ad u t.heap) A) 0 0 A := by
  refine Met.ofW (cc := cX4_bestLast) (maxL := 3) (ret := (some .int)) (by decide) rfl ?_
  intro p e s m args below meth c s₁ B hml hv
  obtain ⟨rfl, hP, hK, hA, hZ⟩ := hv
  have hx := B.exec
  have hb := B.bytes
  have hr := B.returns
  have hts := atoms_spec (ws := wsX4_bestLast) B.pre
  have hown : s.vm.findClass RX4 = some m.cls := findClass_of_methodNamed B.named
  have hlocks := B.notSynchronized
  have hS : va_S A s.heap s.heap [] := va_S.rf
  have hN : gN τ0 = gN τ0 := rfl
  have hl := lv_entry ([.ref (ad 8 k0)]) (n := 3) (Nat.le_of_ble_eq_true rfl)
  rw [lg_entry_eq]
  generalize (lg_sl ([.ref (ad 8 k0)]) ++ List.replicate (3 - (lg_sl ([.ref (ad 8 k0)])).length) Slot.unset).toArray = ls at hl ⊢
  have hl : lv_has ls 3 [(0, .ref (ad 8 k0))] := hl
  unfold F_X4_bestLast at hF
  have l7 : ∀ (p0 : Nat) (hp0 : p0 < gN τ0 8) (EX : tw_T → Int32 → Int32 → Prop) (n : Nat) (τ : tw_T) (u1 : Int32) (u2 : Int32) (H : Heap) (locs : List Loc) (ls : Array Slot), L_X4_bestLast_7 p0 Q EX n τ u1 u2 → PX dC dI ac A ad τ H → gN τ = gN τ0 → va_S A s.heap H locs → lv_has ls 3 [(0, .ref (ad 8 p0)), (1, .int u1), (2, .int u2)] → (∀ (τ : tw_T) (u1 : Int32) (u2 : Int32) (H : Heap) (locs : List Loc) (ls : Array Slot), EX τ u1 u2 → PX dC dI ac A ad τ H → gN τ = gN τ0 → va_S A s.heap H locs → lv_has ls 3 [(0, .ref (ad 8 p0)), (1, .int u1), (2, .int u2)] → W p l e rmX4_bestLast s m ([.ref (ad 8 k0)] : List Value).toArray below meth c H locs 0 0 (MQ below (va_Qi (fun r (u : tw_T) => Q r u ∧ gN u = gN τ0) (fun u t => PX dC dI ac A ad u t.heap) A) ([.ref (ad 8 k0)] : List Value).toArray s 0 0 A) (F0 m 47 ls [])) → W p l e rmX4_bestLast s m ([.ref (ad 8 k0)] : List Value).toArray below meth c H locs 0 0 (MQ below (va_Qi (fun r (u : tw_T) => Q r u ∧ gN u = gN τ0) (fun u t => PX dC dI ac A ad u t.heap) A) ([.ref (ad 8 k0)] : List Value).toArray s 0 0 A) (F0 m 7 ls []) := by
    intro p0 hp0 EX n
    induction n with
    | zero => intro τ u1 u2 H locs ls hF; exact hF.elim
    | succ n ih =>
      intro τ u1 u2 H locs ls hF hP hN hS hl hEX
      rw [L_X4_bestLast_7] at hF
      have j41 : ∀ (τ : tw_T) (p0 : Nat) (hp0 : p0 < gN τ0 8) (u1 : Int32) (u2 : Int32) (H : Heap) (locs : List Loc) (ls : Array Slot) (RC EX : tw_T → Int32 → Int32 → Prop), J_X4_bestLast_41 τ p0 u1 u2 Q RC EX → PX dC dI ac A ad τ H → gN τ = gN τ0 → va_S A s.heap H locs → lv_has ls 3 [(0, .ref (ad 8 p0)), (1, .int u1), (2, .int u2)] → (∀ (τ : tw_T) (u1 : Int32) (u2 : Int32) (H : Heap) (locs : List Loc) (ls : Array Slot), RC τ u1 u2 → PX dC dI ac A ad τ H → gN τ = gN τ0 → va_S A s.heap H locs → lv_has ls 3 [(0, .ref (ad 8 p0)), (1, .int u1), (2, .int u2)] → W p l e rmX4_bestLast s m ([.ref (ad 8 k0)] : List Value).toArray below meth c H locs 0 0 (MQ below (va_Qi (fun r (u : tw_T) => Q r u ∧ gN u = gN τ0) (fun u t => PX dC dI ac A ad u t.heap) A) ([.ref (ad 8 k0)] : List Value).toArray s 0 0 A) (F0 m 7 ls [])) → (∀ (τ : tw_T) (u1 : Int32) (u2 : Int32) (H : Heap) (locs : List Loc) (ls : Array Slot), EX τ u1 u2 → PX dC dI ac A ad τ H → gN τ = gN τ0 → va_S A s.heap H locs → lv_has ls 3 [(0, .ref (ad 8 p0)), (1, .int u1), (2, .int u2)] → W p l e rmX4_bestLast s m ([.ref (ad 8 k0)] : List Value).toArray below meth c H locs 0 0 (MQ below (va_Qi (fun r (u : tw_T) => Q r u ∧ gN u = gN τ0) (fun u t => PX dC dI ac A ad u t.heap) A) ([.ref (ad 8 k0)] : List Value).toArray s 0 0 A) (F0 m 47 ls [])) → W p l e rmX4_bestLast s m ([.ref (ad 8 k0)] : List Value).toArray below meth c H locs 0 0 (MQ below (va_Qi (fun r (u : tw_T) => Q r u ∧ gN u = gN τ0) (fun u t => PX dC dI ac A ad u t.heap) A) ([.ref (ad 8 k0)] : List Value).toArray s 0 0 A) (F0 m 41 ls []) := by
        intro τ p0 hp0 u1 u2 H locs ls RC EX hF hP hN hS hl hRC hEX
        unfold J_X4_bestLast_41 at hF
        obtain ⟨z1, ez1⟩ : ∃ y : Int32, y = u2 + (1 : Int32) := ⟨_, rfl⟩
        have hF := hF z1 ez1
        refine lv_iinc (v := z1) (lv' := [(2, .int z1), (0, .ref (ad 8 p0)), (1, .int u1)]) hx hb dX4_bestLast_41 hl (k := 2) rfl (by rw [ez1]; rfl) (by decide) rfl (fun ls hl => ?_)
        refine lv_goto (tgt := 7) hx hb dX4_bestLast_44 (by decide) ?_
        exact hRC τ u1 z1 _ _ _ hF hP hN hS (lv_sub hl [1, 2, 0] rfl)
      refine lv_iload_n hx hb dX4_bestLast_7 rfl (lv_at hl 2 rfl) ?_
      refine lv_aload_n hx hb dX4_bestLast_8 rfl (lv_at hl 0 rfl) ?_
      refine tw_get (v := .int (gI τ 8 p0 9)) hx hb hts (by decide +kernel) hown hK hP (by decide) (tw_lt hp0 (congrFun hN 8)) rfl rfl 9 (by decide) (hts (.fieldLink RX4 44 "WineCellar$Planner" "never" "I") (by decide +kernel)) (fun _ h9 => h9) rfl dX4_bestLast_9 ?_
      refine lv_icmp_ge (tgt := 47) hx hb dX4_bestLast_12 (by decide) (fun c2 => ?_) (fun c2 => ?_)
      · have hF := hF.1 c2
        exact hEX τ u1 u2 _ _ _ hF hP hN hS (lv_sub hl [0, 1, 2] rfl)
      · have hF := hF.2 c2
        refine lv_aload_n hx hb dX4_bestLast_15 rfl (lv_at hl 0 rfl) ?_
        obtain ⟨o3, eo3, hF⟩ := hF
        have ho3 : o3 < gN τ0 17 := tw_lt (hP.2.2.2 8 p0 2 o3 (by decide) (tw_lt hp0 (congrFun hN 8)) eo3) (congrFun hN 17).symm
        refine tw_get (v := .ref (ad 17 o3)) hx hb hts (by decide +kernel) hown hK hP (by decide) (tw_lt hp0 (congrFun hN 8)) rfl rfl 2 (by decide) (hts (.fieldLink RX4 21 "WineCellar$Planner" "room" "[I") (by decide +kernel)) (fun _ h9 => h9) (show some (va_rf ((gR τ 8 p0 2).map (ad 17))) = some (.ref (ad 17 o3)) by rw [eo3]; rfl) dX4_bestLast_16 ?_
        refine lv_iload_n hx hb dX4_bestLast_19 rfl (lv_at hl 2 rfl) ?_
        obtain ⟨hi4, hF⟩ := hF
        refine tw_iald hx hb hK hP (by decide) (tw_lt ho3 (congrFun hN 17)) rfl 0 rfl hi4 dX4_bestLast_20 ?_
        refine lv_if_le (tgt := 41) hx hb dX4_bestLast_21 (by decide) (fun c5 => ?_) (fun c5 => ?_)
        · have hF := hF.1 c5
          exact j41 τ p0 hp0 u1 u2 _ _ _ _ _ hF hP hN hS (lv_sub hl [0, 1, 2] rfl) (fun t v1 v2 H locs ls hF hP hN hS hl => ih t v1 v2 _ _ _ hF hP hN hS hl hEX) hEX
        · have hF := hF.2 c5
          refine lv_aload_n hx hb dX4_bestLast_24 rfl (lv_at hl 0 rfl) ?_
          obtain ⟨o6, eo6, hF⟩ := hF
          have ho6 : o6 < gN τ0 18 := tw_lt (hP.2.2.2 8 p0 3 o6 (by decide) (tw_lt hp0 (congrFun hN 8)) eo6) (congrFun hN 18).symm
          refine tw_get (v := .ref (ad 18 o6)) hx hb hts (by decide +kernel) hown hK hP (by decide) (tw_lt hp0 (congrFun hN 8)) rfl rfl 3 (by decide) (hts (.fieldLink RX4 25 "WineCellar$Planner" "best" "[I") (by decide +kernel)) (fun _ h9 => h9) (show some (va_rf ((gR τ 8 p0 3).map (ad 18))) = some (.ref (ad 18 o6)) by rw [eo6]; rfl) dX4_bestLast_25 ?_
          refine lv_iload_n hx hb dX4_bestLast_28 rfl (lv_at hl 2 rfl) ?_
          obtain ⟨hi7, hF⟩ := hF
          refine tw_iald hx hb hK hP (by decide) (tw_lt ho6 (congrFun hN 18)) rfl 0 rfl hi7 dX4_bestLast_29 ?_
          refine lv_aload_n hx hb dX4_bestLast_30 rfl (lv_at hl 0 rfl) ?_
          obtain ⟨o8, eo8, hF⟩ := hF
          have ho8 : o8 < gN τ0 18 := tw_lt (hP.2.2.2 8 p0 3 o8 (by decide) (tw_lt hp0 (congrFun hN 8)) eo8) (congrFun hN 18).symm
          refine tw_get (v := .ref (ad 18 o8)) hx hb hts (by decide +kernel) hown hK hP (by decide) (tw_lt hp0 (congrFun hN 8)) rfl rfl 3 (by decide) (hts (.fieldLink RX4 25 "WineCellar$Planner" "best" "[I") (by decide +kernel)) (fun _ h9 => h9) (show some (va_rf ((gR τ 8 p0 3).map (ad 18))) = some (.ref (ad 18 o8)) by rw [eo8]; rfl) dX4_bestLast_31 ?_
          refine lv_iload_n hx hb dX4_bestLast_34 rfl (lv_at hl 1 rfl) ?_
          obtain ⟨hi9, hF⟩ := hF
          refine tw_iald hx hb hK hP (by decide) (tw_lt ho8 (congrFun hN 18)) rfl 0 rfl hi9 dX4_bestLast_35 ?_
          refine lv_icmp_le (tgt := 41) hx hb dX4_bestLast_36 (by decide) (fun c10 => ?_) (fun c10 => ?_)
          · have hF := hF.1 c10
            exact j41 τ p0 hp0 u1 u2 _ _ _ _ _ hF hP hN hS (lv_sub hl [0, 1, 2] rfl) (fun t v1 v2 H locs ls hF hP hN hS hl => ih t v1 v2 _ _ _ hF hP hN hS hl hEX) hEX
          · have hF := hF.2 c10
            refine lv_iload_n hx hb dX4_bestLast_39 rfl (lv_at hl 2 rfl) ?_
            refine lv_istore_n (lv' := [(1, .int u2), (0, .ref (ad 8 p0)), (2, .int u2)]) hx hb dX4_bestLast_40 rfl hl (by decide) rfl (fun ls hl => ?_)
            exact j41 τ p0 hp0 u2 u2 _ _ _ _ _ hF hP hN hS (lv_sub hl [1, 0, 2] rfl) (fun t v1 v2 H locs ls hF hP hN hS hl => ih t v1 v2 _ _ _ hF hP hN hS hl hEX) hEX
  refine lv_aload_n hx hb dX4_bestLast_0 rfl (lv_at hl 0 rfl) ?_
  refine tw_get (v := .int (gI τ0 8 k0 9)) hx hb hts (by decide +kernel) hown hK hP (by decide) hk0 rfl rfl 9 (by decide) (hts (.fieldLink RX4 44 "WineCellar$Planner" "never" "I") (by decide +kernel)) (fun _ h9 => h9) rfl dX4_bestLast_1 ?_
  refine lv_topi (fun z11 ez11 => ?_)
  have hF := hF z11 ez11
  refine lv_istore_n (lv' := [(1, .int z11), (0, .ref (ad 8 k0))]) hx hb dX4_bestLast_4 rfl hl (by decide) rfl (fun ls hl => ?_)
  refine lv_iconst (v := 0) hx hb dX4_bestLast_5 (by decide) ?_
  refine lv_istore_n (lv' := [(2, .int ((0 : Int32))), (1, .int z11), (0, .ref (ad 8 k0))]) hx hb dX4_bestLast_6 rfl hl (by decide) rfl (fun ls hl => ?_)
  obtain ⟨n12, hF⟩ := hF
  refine l7 k0 hk0 _ n12 τ0 z11 ((0 : Int32)) _ _ _ hF hP hN hS (lv_sub hl [2, 1, 0] rfl) ?_
  intro τ13 z14 z15 H locs ls hF hP hN hS hl
  refine lv_iload_n hx hb dX4_bestLast_47 rfl (lv_at hl 1 rfl) ?_
  exact W.iret (v := z14) hx hb hr (fun t ht hW => ⟨⟨z14, τ13, rfl, ⟨hF, hN⟩, tw_at hP ht⟩, hS.F ht⟩) hS.2.2 dX4_bestLast_48
def L_X4_widthOf_17 (p0 : Nat) (Q : Int32 → tw_T → Prop) (EX : tw_T → Int32 → Int32 → Int32 → Prop) : Nat → tw_T → Int32 → Int32 → Int32 → Prop
  | 0, _, _, _, _ => False
  | n + 1, τ, u3, u4, u5 => (((gI τ 8 p0 9) ≤ u5 → (EX τ u3 u4 u5)) ∧ (¬ (gI τ 8 p0 9) ≤ u5 → (∃ o2 : Nat, gR τ 8 p0 4 = some o2 ∧ (vp_in u4 7 ∧ ((((gI τ 19 o2 u4.toNatClampNeg) = ((-1 : Int32)) → (EX τ u3 u4 u5)) ∧ (¬ (gI τ 19 o2 u4.toNatClampNeg) = ((-1 : Int32)) → (∃ o5 : Nat, gR τ 8 p0 4 = some o5 ∧ (vp_in u4 7 ∧ (∀ z7 : Int32, z7 = gI τ 19 o5 u4.toNatClampNeg → (∃ o8 : Nat, gR τ 8 p0 1 = some o8 ∧ (∃ o9 : Nat, gR τ 8 p0 6 = some o9 ∧ (vp_in z7 6 ∧ (∃ o10 : Nat, gR τ 25 o9 z7.toNatClampNeg = some o10 ∧ (vp_in u4 7 ∧ (vp_in (gI τ 29 o10 u4.toNatClampNeg) 30 ∧ (∃ o13 : Nat, gR τ 16 o8 (gI τ 29 o10 u4.toNatClampNeg).toNatClampNeg = some o13 ∧ (vp_in z7 7 ∧ (∀ z16 : Int32, z16 = (if (gI τ 27 o13 z7.toNatClampNeg) < u3 then (gI τ 27 o13 z7.toNatClampNeg) else u3) → (∀ z17 : Int32, z17 = u5 + (1 : Int32) → (L_X4_widthOf_17 p0 Q EX n τ z16 z7 z17)))))))))))))))))))))
def F_X4_widthOf (τ0 : tw_T) (k0 : Nat) (x1 : Int32) (x2 : Int32) (Q : Int32 → tw_T → Prop) : Prop := ∃ o18 : Nat, gR τ0 8 k0 2 = some o18 ∧ (vp_in x1 7 ∧ (∀ z20 : Int32, z20 = (if (gI τ0 17 o18 x1.toNatClampNeg) < x2 then (gI τ0 17 o18 x1.toNatClampNeg) else x2) → (∃ n21 : Nat, L_X4_widthOf_17 k0 Q (fun (τ22 : tw_T) (z23 : Int32) (z24 : Int32) (z25 : Int32) => Q z23 τ22) n21 τ0 z20 x1 ((0 : Int32)))))
def rmX4_widthOf : Room := { frames := 1, cells := 0, slots := 0, locals := 21 }
set_option maxHeartbeats 4000000 in
set_option maxRecDepth 100000 in
theorem mX4_widthOf (l : Launch) (dC : Nat → ClassId) (dI : Nat → Nat → Nat) (ac : Nat → ClassId) (sa : Nat → Nat) (A : Nat → Prop) (ad : Nat → Nat → Nat) (τ0 : tw_T) (k0 : Nat) (x1 : Int32) (x2 : Int32) (Q : Int32 → tw_T → Prop) (hF : F_X4_widthOf τ0 k0 x1 x2 Q) (hk0 : k0 < gN τ0 8) : Met l yX4_widthOf wsX4_widthOf rmX4_widthOf (va_Pc [.ref (ad 8 k0), .int x1, .int x2] (BX dC dI ac sa A ad τ0)) (va_Qi (fun r (u : tw_T) => Q r u ∧ gN u = gN τ0) (fun u t => PX dC dI ac A ad u t.heap) A) 0 0 A := by
  refine Met.ofW (cc := cX4_widthOf) (maxL := 7) (ret := (some .int)) (by decide) rfl ?_
  intro p e s m args below meth c s₁ B hml hv
  obtain ⟨rfl, hP, hK, hA, hZ⟩ := hv
  have hx := B.exec
  have hb := B.bytes
  have hr := B.returns
  have hts := atoms_spec (ws := wsX4_widthOf) B.pre
  have hown : s.vm.findClass RX4 = some m.cls := findClass_of_methodNamed B.named
  have hlocks := B.notSynchronized
  have hS : va_S A s.heap s.heap [] := va_S.rf
  have hN : gN τ0 = gN τ0 := rfl
  have hl := lv_entry ([.ref (ad 8 k0), .int x1, .int x2]) (n := 7) (Nat.le_of_ble_eq_true rfl)
  rw [lg_entry_eq]
  generalize (lg_sl ([.ref (ad 8 k0), .int x1, .int x2]) ++ List.replicate (7 - (lg_sl ([.ref (ad 8 k0), .int x1, .int x2])).length) Slot.unset).toArray = ls at hl ⊢
  have hl : lv_has ls 7 [(0, .ref (ad 8 k0)), (1, .int x1), (2, .int x2)] := hl
  unfold F_X4_widthOf at hF
  have l17 : ∀ (p0 : Nat) (hp0 : p0 < gN τ0 8) (EX : tw_T → Int32 → Int32 → Int32 → Prop) (n : Nat) (τ : tw_T) (u3 : Int32) (u4 : Int32) (u5 : Int32) (H : Heap) (locs : List Loc) (ls : Array Slot), L_X4_widthOf_17 p0 Q EX n τ u3 u4 u5 → PX dC dI ac A ad τ H → gN τ = gN τ0 → va_S A s.heap H locs → lv_has ls 7 [(0, .ref (ad 8 p0)), (3, .int u3), (4, .int u4), (5, .int u5)] → (∀ (τ : tw_T) (u3 : Int32) (u4 : Int32) (u5 : Int32) (H : Heap) (locs : List Loc) (ls : Array Slot), EX τ u3 u4 u5 → PX dC dI ac A ad τ H → gN τ = gN τ0 → va_S A s.heap H locs → lv_has ls 7 [(0, .ref (ad 8 p0)), (3, .int u3), (4, .int u4), (5, .int u5)] → W p l e rmX4_widthOf s m ([.ref (ad 8 k0), .int x1, .int x2] : List Value).toArray below meth c H locs 0 0 (MQ below (va_Qi (fun r (u : tw_T) => Q r u ∧ gN u = gN τ0) (fun u t => PX dC dI ac A ad u t.heap) A) ([.ref (ad 8 k0), .int x1, .int x2] : List Value).toArray s 0 0 A) (F0 m 79 ls [])) → W p l e rmX4_widthOf s m ([.ref (ad 8 k0), .int x1, .int x2] : List Value).toArray below meth c H locs 0 0 (MQ below (va_Qi (fun r (u : tw_T) => Q r u ∧ gN u = gN τ0) (fun u t => PX dC dI ac A ad u t.heap) A) ([.ref (ad 8 k0), .int x1, .int x2] : List Value).toArray s 0 0 A) (F0 m 17 ls []) := by
    intro p0 hp0 EX n
    induction n with
    | zero => intro τ u3 u4 u5 H locs ls hF; exact hF.elim
    | succ n ih =>
      intro τ u3 u4 u5 H locs ls hF hP hN hS hl hEX
      rw [L_X4_widthOf_17] at hF
      refine lv_iload hx hb dX4_widthOf_17 (lv_at hl 3 rfl) ?_
      refine lv_aload_n hx hb dX4_widthOf_19 rfl (lv_at hl 0 rfl) ?_
      refine tw_get (v := .int (gI τ 8 p0 9)) hx hb hts (by decide +kernel) hown hK hP (by decide) (tw_lt hp0 (congrFun hN 8)) rfl rfl 9 (by decide) (hts (.fieldLink RX4 44 "WineCellar$Planner" "never" "I") (by decide +kernel)) (fun _ h9 => h9) rfl dX4_widthOf_20 ?_
      refine lv_icmp_ge (tgt := 79) hx hb dX4_widthOf_23 (by decide) (fun c1 => ?_) (fun c1 => ?_)
      · have hF := hF.1 c1
        exact hEX τ u3 u4 u5 _ _ _ hF hP hN hS (lv_sub hl [0, 1, 2, 3] rfl)
      · have hF := hF.2 c1
        refine lv_aload_n hx hb dX4_widthOf_26 rfl (lv_at hl 0 rfl) ?_
        obtain ⟨o2, eo2, hF⟩ := hF
        have ho2 : o2 < gN τ0 19 := tw_lt (hP.2.2.2 8 p0 4 o2 (by decide) (tw_lt hp0 (congrFun hN 8)) eo2) (congrFun hN 19).symm
        refine tw_get (v := .ref (ad 19 o2)) hx hb hts (by decide +kernel) hown hK hP (by decide) (tw_lt hp0 (congrFun hN 8)) rfl rfl 4 (by decide) (hts (.fieldLink RX4 28 "WineCellar$Planner" "ahead" "[I") (by decide +kernel)) (fun _ h9 => h9) (show some (va_rf ((gR τ 8 p0 4).map (ad 19))) = some (.ref (ad 19 o2)) by rw [eo2]; rfl) dX4_widthOf_27 ?_
        refine lv_iload hx hb dX4_widthOf_30 (lv_at hl 2 rfl) ?_
        obtain ⟨hi3, hF⟩ := hF
        refine tw_iald hx hb hK hP (by decide) (tw_lt ho2 (congrFun hN 19)) rfl 0 rfl hi3 dX4_widthOf_32 ?_
        refine lv_iconst (v := (-1)) hx hb dX4_widthOf_33 (by decide) ?_
        refine lv_icmp_eq (tgt := 79) hx hb dX4_widthOf_34 (by decide) (fun c4 => ?_) (fun c4 => ?_)
        · have hF := hF.1 c4
          exact hEX τ u3 u4 u5 _ _ _ hF hP hN hS (lv_sub hl [0, 1, 2, 3] rfl)
        · have hF := hF.2 c4
          refine lv_aload_n hx hb dX4_widthOf_37 rfl (lv_at hl 0 rfl) ?_
          obtain ⟨o5, eo5, hF⟩ := hF
          have ho5 : o5 < gN τ0 19 := tw_lt (hP.2.2.2 8 p0 4 o5 (by decide) (tw_lt hp0 (congrFun hN 8)) eo5) (congrFun hN 19).symm
          refine tw_get (v := .ref (ad 19 o5)) hx hb hts (by decide +kernel) hown hK hP (by decide) (tw_lt hp0 (congrFun hN 8)) rfl rfl 4 (by decide) (hts (.fieldLink RX4 28 "WineCellar$Planner" "ahead" "[I") (by decide +kernel)) (fun _ h9 => h9) (show some (va_rf ((gR τ 8 p0 4).map (ad 19))) = some (.ref (ad 19 o5)) by rw [eo5]; rfl) dX4_widthOf_38 ?_
          refine lv_iload hx hb dX4_widthOf_41 (lv_at hl 2 rfl) ?_
          obtain ⟨hi6, hF⟩ := hF
          refine tw_iald hx hb hK hP (by decide) (tw_lt ho5 (congrFun hN 19)) rfl 0 rfl hi6 dX4_widthOf_43 ?_
          refine lv_topi (fun z7 ez7 => ?_)
          have hF := hF z7 ez7
          refine lv_istore (lv' := [(6, .int z7), (0, .ref (ad 8 p0)), (3, .int u3), (4, .int u4), (5, .int u5)]) hx hb dX4_widthOf_44 hl (by decide) rfl (fun ls hl => ?_)
          refine lv_iload_n hx hb dX4_widthOf_46 rfl (lv_at hl 2 rfl) ?_
          refine lv_aload_n hx hb dX4_widthOf_47 rfl (lv_at hl 1 rfl) ?_
          obtain ⟨o8, eo8, hF⟩ := hF
          have ho8 : o8 < gN τ0 16 := tw_lt (hP.2.2.2 8 p0 1 o8 (by decide) (tw_lt hp0 (congrFun hN 8)) eo8) (congrFun hN 16).symm
          refine tw_get (v := .ref (ad 16 o8)) hx hb hts (by decide +kernel) hown hK hP (by decide) (tw_lt hp0 (congrFun hN 8)) rfl rfl 1 (by decide) (hts (.fieldLink RX4 18 "WineCellar$Planner" "placed" "[[I") (by decide +kernel)) (fun _ h9 => h9) (show some (va_rf ((gR τ 8 p0 1).map (ad 16))) = some (.ref (ad 16 o8)) by rw [eo8]; rfl) dX4_widthOf_48 ?_
          refine lv_aload_n hx hb dX4_widthOf_51 rfl (lv_at hl 1 rfl) ?_
          obtain ⟨o9, eo9, hF⟩ := hF
          have ho9 : o9 < gN τ0 25 := tw_lt (hP.2.2.2 8 p0 6 o9 (by decide) (tw_lt hp0 (congrFun hN 8)) eo9) (congrFun hN 25).symm
          refine tw_get (v := .ref (ad 25 o9)) hx hb hts (by decide +kernel) hown hK hP (by decide) (tw_lt hp0 (congrFun hN 8)) rfl rfl 6 (by decide) (hts (.fieldLink RX4 34 "WineCellar$Planner" "movers" "[[I") (by decide +kernel)) (fun _ h9 => h9) (show some (va_rf ((gR τ 8 p0 6).map (ad 25))) = some (.ref (ad 25 o9)) by rw [eo9]; rfl) dX4_widthOf_52 ?_
          refine lv_iload hx hb dX4_widthOf_55 (lv_at hl 0 rfl) ?_
          obtain ⟨hi11, o10, eo10, hF⟩ := hF
          have ho10 : o10 < gN τ0 29 := tw_lt (hP.2.2.2 25 o9 _ o10 (by decide) (tw_lt ho9 (congrFun hN 25)) eo10) (congrFun hN 29).symm
          refine tw_aald hx hb hK hP (by decide) (tw_lt ho9 (congrFun hN 25)) rfl 8 rfl rfl (fun _ => rfl) hi11 dX4_widthOf_57 ?_
          refine W.eq (g2 := F0 m 58 ls [.ref (ad 29 o10), .ref (ad 16 o8), .int u3]) (by rw [eo10]; rfl) ?_
          refine lv_iload hx hb dX4_widthOf_58 (lv_at hl 3 rfl) ?_
          obtain ⟨hi12, hF⟩ := hF
          refine tw_iald hx hb hK hP (by decide) (tw_lt ho10 (congrFun hN 29)) rfl 0 rfl hi12 dX4_widthOf_60 ?_
          obtain ⟨hi14, o13, eo13, hF⟩ := hF
          have ho13 : o13 < gN τ0 27 := tw_lt (hP.2.2.2 16 o8 _ o13 (by decide) (tw_lt ho8 (congrFun hN 16)) eo13) (congrFun hN 27).symm
          refine tw_aald hx hb hK hP (by decide) (tw_lt ho8 (congrFun hN 16)) rfl 8 rfl rfl (fun _ => rfl) hi14 dX4_widthOf_61 ?_
          refine W.eq (g2 := F0 m 62 ls [.ref (ad 27 o13), .int u3]) (by rw [eo13]; rfl) ?_
          refine lv_iload hx hb dX4_widthOf_62 (lv_at hl 0 rfl) ?_
          obtain ⟨hi15, hF⟩ := hF
          refine tw_iald hx hb hK hP (by decide) (tw_lt ho13 (congrFun hN 27)) rfl 0 rfl hi15 dX4_widthOf_64 ?_
          refine va_mmin hx hb (hml.trans hl.1.symm) hown (hts (.methodLink RX4 47 Lib.Math.min.name) (by decide +kernel)) (hts (.static Lib.Math.min.name) (by decide +kernel)) (hts (.initialized "java/lang/Math") (by decide +kernel)) (hts (.code Lib.Math.min.name Lib.Math.min.code 2 (some .int)) (by decide +kernel)) (Nat.le_of_ble_eq_true rfl) (Nat.le_of_ble_eq_true rfl) (Nat.zero_le _) (Nat.zero_le _) dX4_widthOf_65 ?_
          refine lv_topi (fun z16 ez16 => ?_)
          have hF := hF z16 ez16
          refine lv_istore_n (lv' := [(3, .int z16), (6, .int z7), (0, .ref (ad 8 p0)), (4, .int u4), (5, .int u5)]) hx hb dX4_widthOf_68 rfl hl (by decide) rfl (fun ls hl => ?_)
          refine lv_iload hx hb dX4_widthOf_69 (lv_at hl 1 rfl) ?_
          refine lv_istore (lv' := [(4, .int z7), (3, .int z16), (6, .int z7), (0, .ref (ad 8 p0)), (5, .int u5)]) hx hb dX4_widthOf_71 hl (by decide) rfl (fun ls hl => ?_)
          obtain ⟨z17, ez17⟩ : ∃ y : Int32, y = u5 + (1 : Int32) := ⟨_, rfl⟩
          have hF := hF z17 ez17
          refine lv_iinc (v := z17) (lv' := [(5, .int z17), (4, .int z7), (3, .int z16), (6, .int z7), (0, .ref (ad 8 p0))]) hx hb dX4_widthOf_73 hl (k := 4) rfl (by rw [ez17]; rfl) (by decide) rfl (fun ls hl => ?_)
          refine lv_goto (tgt := 17) hx hb dX4_widthOf_76 (by decide) ?_
          exact ih τ z16 z7 z17 _ _ _ hF hP hN hS (lv_sub hl [4, 2, 1, 0] rfl) hEX
  refine lv_iload_n hx hb dX4_widthOf_0 rfl (lv_at hl 2 rfl) ?_
  refine lv_aload_n hx hb dX4_widthOf_1 rfl (lv_at hl 0 rfl) ?_
  obtain ⟨o18, eo18, hF⟩ := hF
  have ho18 : o18 < gN τ0 17 := tw_lt (hP.2.2.2 8 k0 2 o18 (by decide) hk0 eo18) (congrFun hN 17).symm
  refine tw_get (v := .ref (ad 17 o18)) hx hb hts (by decide +kernel) hown hK hP (by decide) hk0 rfl rfl 2 (by decide) (hts (.fieldLink RX4 21 "WineCellar$Planner" "room" "[I") (by decide +kernel)) (fun _ h9 => h9) (show some (va_rf ((gR τ0 8 k0 2).map (ad 17))) = some (.ref (ad 17 o18)) by rw [eo18]; rfl) dX4_widthOf_2 ?_
  refine lv_iload_n hx hb dX4_widthOf_5 rfl (lv_at hl 1 rfl) ?_
  obtain ⟨hi19, hF⟩ := hF
  refine tw_iald hx hb hK hP (by decide) ho18 rfl 0 rfl hi19 dX4_widthOf_6 ?_
  refine va_mmin hx hb (hml.trans hl.1.symm) hown (hts (.methodLink RX4 47 Lib.Math.min.name) (by decide +kernel)) (hts (.static Lib.Math.min.name) (by decide +kernel)) (hts (.initialized "java/lang/Math") (by decide +kernel)) (hts (.code Lib.Math.min.name Lib.Math.min.code 2 (some .int)) (by decide +kernel)) (Nat.le_of_ble_eq_true rfl) (Nat.le_of_ble_eq_true rfl) (Nat.zero_le _) (Nat.zero_le _) dX4_widthOf_7 ?_
  refine lv_topi (fun z20 ez20 => ?_)
  have hF := hF z20 ez20
  refine lv_istore_n (lv' := [(3, .int z20), (0, .ref (ad 8 k0)), (1, .int x1), (2, .int x2)]) hx hb dX4_widthOf_10 rfl hl (by decide) rfl (fun ls hl => ?_)
  refine lv_iload_n hx hb dX4_widthOf_11 rfl (lv_at hl 2 rfl) ?_
  refine lv_istore (lv' := [(4, .int x1), (3, .int z20), (0, .ref (ad 8 k0)), (1, .int x1), (2, .int x2)]) hx hb dX4_widthOf_12 hl (by decide) rfl (fun ls hl => ?_)
  refine lv_iconst (v := 0) hx hb dX4_widthOf_14 (by decide) ?_
  refine lv_istore (lv' := [(5, .int ((0 : Int32))), (4, .int x1), (3, .int z20), (0, .ref (ad 8 k0)), (1, .int x1), (2, .int x2)]) hx hb dX4_widthOf_15 hl (by decide) rfl (fun ls hl => ?_)
  obtain ⟨n21, hF⟩ := hF
  refine l17 k0 hk0 _ n21 τ0 z20 x1 ((0 : Int32)) _ _ _ hF hP hN hS (lv_sub hl [3, 2, 1, 0] rfl) ?_
  intro τ22 z23 z24 z25 H locs ls hF hP hN hS hl
  refine lv_iload_n hx hb dX4_widthOf_79 rfl (lv_at hl 1 rfl) ?_
  exact W.iret (v := z23) hx hb hr (fun t ht hW => ⟨⟨z23, τ22, rfl, ⟨hF, hN⟩, tw_at hP ht⟩, hS.F ht⟩) hS.2.2 dX4_widthOf_80
def J_X4_moveAlong_99 (τ : tw_T) (p0 : Nat) (u1 : Int32) (u3 : Int32) (u4 : Int32) (Q : tw_T → Prop) : Prop := ∃ o1 : Nat, gR τ 8 p0 1 = some o1 ∧ (vp_in u1 30 ∧ (∃ o2 : Nat, gR τ 16 o1 u1.toNatClampNeg = some o2 ∧ (vp_in u4 7 ∧ (vp_in u4 7 ∧ (∀ τ6 : tw_T, τ6 = sI τ 27 o2 u4.toNatClampNeg ((gI τ 27 o2 u4.toNatClampNeg) + u3) → (Q τ6))))))
def L_X4_moveAlong_16 (p0 : Nat) (u1 : Int32) (u3 : Int32) (Q : tw_T → Prop) (EX : tw_T → Int32 → Int32 → Prop) : Nat → tw_T → Int32 → Int32 → Prop
  | 0, _, _, _ => False
  | n + 1, τ, u4, u5 => (((gI τ 8 p0 9) ≤ u5 → (EX τ u4 u5)) ∧ (¬ (gI τ 8 p0 9) ≤ u5 → (∃ o8 : Nat, gR τ 8 p0 4 = some o8 ∧ (vp_in u4 7 ∧ ((((gI τ 19 o8 u4.toNatClampNeg) = ((-1 : Int32)) → (EX τ u4 u5)) ∧ (¬ (gI τ 19 o8 u4.toNatClampNeg) = ((-1 : Int32)) → (∃ o11 : Nat, gR τ 8 p0 4 = some o11 ∧ (vp_in u4 7 ∧ (∀ z13 : Int32, z13 = gI τ 19 o11 u4.toNatClampNeg → (∃ o14 : Nat, gR τ 8 p0 1 = some o14 ∧ (∃ o15 : Nat, gR τ 8 p0 6 = some o15 ∧ (vp_in z13 6 ∧ (∃ o16 : Nat, gR τ 25 o15 z13.toNatClampNeg = some o16 ∧ (vp_in u4 7 ∧ (vp_in (gI τ 29 o16 u4.toNatClampNeg) 30 ∧ (∃ o19 : Nat, gR τ 16 o14 (gI τ 29 o16 u4.toNatClampNeg).toNatClampNeg = some o19 ∧ (vp_in u4 7 ∧ (vp_in u4 7 ∧ (∀ τ23 : tw_T, τ23 = sI τ 27 o19 u4.toNatClampNeg ((gI τ 27 o19 u4.toNatClampNeg) + u3) → (∃ o24 : Nat, gR τ23 8 p0 1 = some o24 ∧ (∃ o25 : Nat, gR τ23 8 p0 6 = some o25 ∧ (vp_in z13 6 ∧ (∃ o26 : Nat, gR τ23 25 o25 z13.toNatClampNeg = some o26 ∧ (vp_in u4 7 ∧ (vp_in (gI τ23 29 o26 u4.toNatClampNeg) 30 ∧ (∃ o29 : Nat, gR τ23 16 o24 (gI τ23 29 o26 u4.toNatClampNeg).toNatClampNeg = some o29 ∧ (vp_in z13 7 ∧ (vp_in z13 7 ∧ (∀ τ33 : tw_T, τ33 = sI τ23 27 o29 z13.toNatClampNeg ((gI τ23 27 o29 z13.toNatClampNeg) - u3) → (∀ z34 : Int32, z34 = u5 + (1 : Int32) → (L_X4_moveAlong_16 p0 u1 u3 Q EX n τ33 z13 z34))))))))))))))))))))))))))))))))
def F_X4_moveAlong (τ0 : tw_T) (k0 : Nat) (x1 : Int32) (x2 : Int32) (x3 : Int32) (Q : tw_T → Prop) : Prop := ∃ o35 : Nat, gR τ0 8 k0 2 = some o35 ∧ (vp_in x2 7 ∧ (vp_in x2 7 ∧ (∀ τ38 : tw_T, τ38 = sI τ0 17 o35 x2.toNatClampNeg ((gI τ0 17 o35 x2.toNatClampNeg) - x3) → (∃ n39 : Nat, L_X4_moveAlong_16 k0 x1 x3 Q (fun (τ40 : tw_T) (z41 : Int32) (z42 : Int32) => J_X4_moveAlong_99 τ40 k0 x1 x3 z41 Q) n39 τ38 x2 ((0 : Int32))))))
def rmX4_moveAlong : Room := { frames := 0, cells := 0, slots := 0, locals := 0 }
set_option maxHeartbeats 4000000 in
set_option maxRecDepth 100000 in
theorem mX4_moveAlong (l : Launch) (dC : Nat → ClassId) (dI : Nat → Nat → Nat) (ac : Nat → ClassId) (sa : Nat → Nat) (A : Nat → Prop) (ad : Nat → Nat → Nat) (τ0 : tw_T) (k0 : Nat) (x1 : Int32) (x2 : Int32) (x3 : Int32) (Q : tw_T → Prop) (hF : F_X4_moveAlong τ0 k0 x1 x2 x3 Q) (hk0 : k0 < gN τ0 8) : Met l yX4_moveAlong wsX4_moveAlong rmX4_moveAlong (va_Pc [.ref (ad 8 k0), .int x1, .int x2, .int x3] (BX dC dI ac sa A ad τ0)) (va_Qv (fun (u : tw_T) => Q u ∧ gN u = gN τ0) (fun u t => PX dC dI ac A ad u t.heap) A) 0 0 A := by
  refine Met.ofW (cc := cX4_moveAlong) (maxL := 7) (ret := none) (by decide) rfl ?_
  intro p e s m args below meth c s₁ B hml hv
  obtain ⟨rfl, hP, hK, hA, hZ⟩ := hv
  have hx := B.exec
  have hb := B.bytes
  have hr := B.returns
  have hts := atoms_spec (ws := wsX4_moveAlong) B.pre
  have hown : s.vm.findClass RX4 = some m.cls := findClass_of_methodNamed B.named
  have hlocks := B.notSynchronized
  have hS : va_S A s.heap s.heap [] := va_S.rf
  have hN : gN τ0 = gN τ0 := rfl
  have hl := lv_entry ([.ref (ad 8 k0), .int x1, .int x2, .int x3]) (n := 7) (Nat.le_of_ble_eq_true rfl)
  rw [lg_entry_eq]
  generalize (lg_sl ([.ref (ad 8 k0), .int x1, .int x2, .int x3]) ++ List.replicate (7 - (lg_sl ([.ref (ad 8 k0), .int x1, .int x2, .int x3])).length) Slot.unset).toArray = ls at hl ⊢
  have hl : lv_has ls 7 [(0, .ref (ad 8 k0)), (1, .int x1), (2, .int x2), (3, .int x3)] := hl
  unfold F_X4_moveAlong at hF
  have j99 : ∀ (τ : tw_T) (p0 : Nat) (hp0 : p0 < gN τ0 8) (u1 : Int32) (u3 : Int32) (u4 : Int32) (H : Heap) (locs : List Loc) (ls : Array Slot), J_X4_moveAlong_99 τ p0 u1 u3 u4 Q → PX dC dI ac A ad τ H → gN τ = gN τ0 → va_S A s.heap H locs → lv_has ls 7 [(0, .ref (ad 8 p0)), (1, .int u1), (3, .int u3), (4, .int u4)] → W p l e rmX4_moveAlong s m ([.ref (ad 8 k0), .int x1, .int x2, .int x3] : List Value).toArray below meth c H locs 0 0 (MQ below (va_Qv (fun (u : tw_T) => Q u ∧ gN u = gN τ0) (fun u t => PX dC dI ac A ad u t.heap) A) ([.ref (ad 8 k0), .int x1, .int x2, .int x3] : List Value).toArray s 0 0 A) (F0 m 99 ls []) := by
    intro τ p0 hp0 u1 u3 u4 H locs ls hF hP hN hS hl
    unfold J_X4_moveAlong_99 at hF
    refine lv_aload_n hx hb dX4_moveAlong_99 rfl (lv_at hl 0 rfl) ?_
    obtain ⟨o1, eo1, hF⟩ := hF
    have ho1 : o1 < gN τ0 16 := tw_lt (hP.2.2.2 8 p0 1 o1 (by decide) (tw_lt hp0 (congrFun hN 8)) eo1) (congrFun hN 16).symm
    refine tw_get (v := .ref (ad 16 o1)) hx hb hts (by decide +kernel) hown hK hP (by decide) (tw_lt hp0 (congrFun hN 8)) rfl rfl 1 (by decide) (hts (.fieldLink RX4 18 "WineCellar$Planner" "placed" "[[I") (by decide +kernel)) (fun _ h9 => h9) (show some (va_rf ((gR τ 8 p0 1).map (ad 16))) = some (.ref (ad 16 o1)) by rw [eo1]; rfl) dX4_moveAlong_100 ?_
    refine lv_iload_n hx hb dX4_moveAlong_103 rfl (lv_at hl 1 rfl) ?_
    obtain ⟨hi3, o2, eo2, hF⟩ := hF
    have ho2 : o2 < gN τ0 27 := tw_lt (hP.2.2.2 16 o1 _ o2 (by decide) (tw_lt ho1 (congrFun hN 16)) eo2) (congrFun hN 27).symm
    refine tw_aald hx hb hK hP (by decide) (tw_lt ho1 (congrFun hN 16)) rfl 8 rfl rfl (fun _ => rfl) hi3 dX4_moveAlong_104 ?_
    refine W.eq (g2 := F0 m 105 ls [.ref (ad 27 o2)]) (by rw [eo2]; rfl) ?_
    refine lv_iload hx hb dX4_moveAlong_105 (lv_at hl 3 rfl) ?_
    refine lv_dup2_11 hx hb dX4_moveAlong_107 rfl rfl ?_
    obtain ⟨hi4, hF⟩ := hF
    refine tw_iald hx hb hK hP (by decide) (tw_lt ho2 (congrFun hN 27)) rfl 0 rfl hi4 dX4_moveAlong_108 ?_
    refine lv_iload_n hx hb dX4_moveAlong_109 rfl (lv_at hl 2 rfl) ?_
    refine lv_iadd hx hb dX4_moveAlong_110 ?_
    obtain ⟨hi5, hF⟩ := hF
    refine tw_iast hx hb hK hP hS (by decide) (tw_lt ho2 (congrFun hN 27)) rfl 0 rfl hi5 dX4_moveAlong_111 (fun H locs hP hS => ?_)
    obtain ⟨τ6, eτ6⟩ : ∃ y : tw_T, y = sI τ 27 o2 u4.toNatClampNeg ((gI τ 27 o2 u4.toNatClampNeg) + u3) := ⟨_, rfl⟩
    have hF := hF τ6 eτ6
    rw [← eτ6] at hP
    have hN : gN τ6 = gN τ0 := by rw [eτ6]; exact hN
    exact W.vret hx hb hr (fun t ht hW => ⟨⟨τ6, rfl, ⟨hF, hN⟩, tw_at hP ht⟩, hS.F ht⟩) hS.2.2 dX4_moveAlong_112
  have l16 : ∀ (p0 : Nat) (hp0 : p0 < gN τ0 8) (u1 : Int32) (u3 : Int32) (EX : tw_T → Int32 → Int32 → Prop) (n : Nat) (τ : tw_T) (u4 : Int32) (u5 : Int32) (H : Heap) (locs : List Loc) (ls : Array Slot), L_X4_moveAlong_16 p0 u1 u3 Q EX n τ u4 u5 → PX dC dI ac A ad τ H → gN τ = gN τ0 → va_S A s.heap H locs → lv_has ls 7 [(0, .ref (ad 8 p0)), (1, .int u1), (3, .int u3), (4, .int u4), (5, .int u5)] → (∀ (τ : tw_T) (u4 : Int32) (u5 : Int32) (H : Heap) (locs : List Loc) (ls : Array Slot), EX τ u4 u5 → PX dC dI ac A ad τ H → gN τ = gN τ0 → va_S A s.heap H locs → lv_has ls 7 [(0, .ref (ad 8 p0)), (1, .int u1), (3, .int u3), (4, .int u4), (5, .int u5)] → W p l e rmX4_moveAlong s m ([.ref (ad 8 k0), .int x1, .int x2, .int x3] : List Value).toArray below meth c H locs 0 0 (MQ below (va_Qv (fun (u : tw_T) => Q u ∧ gN u = gN τ0) (fun u t => PX dC dI ac A ad u t.heap) A) ([.ref (ad 8 k0), .int x1, .int x2, .int x3] : List Value).toArray s 0 0 A) (F0 m 99 ls [])) → W p l e rmX4_moveAlong s m ([.ref (ad 8 k0), .int x1, .int x2, .int x3] : List Value).toArray below meth c H locs 0 0 (MQ below (va_Qv (fun (u : tw_T) => Q u ∧ gN u = gN τ0) (fun u t => PX dC dI ac A ad u t.heap) A) ([.ref (ad 8 k0), .int x1, .int x2, .int x3] : List Value).toArray s 0 0 A) (F0 m 16 ls []) := by
    intro p0 hp0 u1 u3 EX n
    induction n with
    | zero => intro τ u4 u5 H locs ls hF; exact hF.elim
    | succ n ih =>
      intro τ u4 u5 H locs ls hF hP hN hS hl hEX
      rw [L_X4_moveAlong_16] at hF
      refine lv_iload hx hb dX4_moveAlong_16 (lv_at hl 4 rfl) ?_
      refine lv_aload_n hx hb dX4_moveAlong_18 rfl (lv_at hl 0 rfl) ?_
      refine tw_get (v := .int (gI τ 8 p0 9)) hx hb hts (by decide +kernel) hown hK hP (by decide) (tw_lt hp0 (congrFun hN 8)) rfl rfl 9 (by decide) (hts (.fieldLink RX4 44 "WineCellar$Planner" "never" "I") (by decide +kernel)) (fun _ h9 => h9) rfl dX4_moveAlong_19 ?_
      refine lv_icmp_ge (tgt := 99) hx hb dX4_moveAlong_22 (by decide) (fun c7 => ?_) (fun c7 => ?_)
      · have hF := hF.1 c7
        exact hEX τ u4 u5 _ _ _ hF hP hN hS (lv_sub hl [0, 1, 2, 3, 4] rfl)
      · have hF := hF.2 c7
        refine lv_aload_n hx hb dX4_moveAlong_25 rfl (lv_at hl 0 rfl) ?_
        obtain ⟨o8, eo8, hF⟩ := hF
        have ho8 : o8 < gN τ0 19 := tw_lt (hP.2.2.2 8 p0 4 o8 (by decide) (tw_lt hp0 (congrFun hN 8)) eo8) (congrFun hN 19).symm
        refine tw_get (v := .ref (ad 19 o8)) hx hb hts (by decide +kernel) hown hK hP (by decide) (tw_lt hp0 (congrFun hN 8)) rfl rfl 4 (by decide) (hts (.fieldLink RX4 28 "WineCellar$Planner" "ahead" "[I") (by decide +kernel)) (fun _ h9 => h9) (show some (va_rf ((gR τ 8 p0 4).map (ad 19))) = some (.ref (ad 19 o8)) by rw [eo8]; rfl) dX4_moveAlong_26 ?_
        refine lv_iload hx hb dX4_moveAlong_29 (lv_at hl 3 rfl) ?_
        obtain ⟨hi9, hF⟩ := hF
        refine tw_iald hx hb hK hP (by decide) (tw_lt ho8 (congrFun hN 19)) rfl 0 rfl hi9 dX4_moveAlong_31 ?_
        refine lv_iconst (v := (-1)) hx hb dX4_moveAlong_32 (by decide) ?_
        refine lv_icmp_eq (tgt := 99) hx hb dX4_moveAlong_33 (by decide) (fun c10 => ?_) (fun c10 => ?_)
        · have hF := hF.1 c10
          exact hEX τ u4 u5 _ _ _ hF hP hN hS (lv_sub hl [0, 1, 2, 3, 4] rfl)
        · have hF := hF.2 c10
          refine lv_aload_n hx hb dX4_moveAlong_36 rfl (lv_at hl 0 rfl) ?_
          obtain ⟨o11, eo11, hF⟩ := hF
          have ho11 : o11 < gN τ0 19 := tw_lt (hP.2.2.2 8 p0 4 o11 (by decide) (tw_lt hp0 (congrFun hN 8)) eo11) (congrFun hN 19).symm
          refine tw_get (v := .ref (ad 19 o11)) hx hb hts (by decide +kernel) hown hK hP (by decide) (tw_lt hp0 (congrFun hN 8)) rfl rfl 4 (by decide) (hts (.fieldLink RX4 28 "WineCellar$Planner" "ahead" "[I") (by decide +kernel)) (fun _ h9 => h9) (show some (va_rf ((gR τ 8 p0 4).map (ad 19))) = some (.ref (ad 19 o11)) by rw [eo11]; rfl) dX4_moveAlong_37 ?_
          refine lv_iload hx hb dX4_moveAlong_40 (lv_at hl 3 rfl) ?_
          obtain ⟨hi12, hF⟩ := hF
          refine tw_iald hx hb hK hP (by decide) (tw_lt ho11 (congrFun hN 19)) rfl 0 rfl hi12 dX4_moveAlong_42 ?_
          refine lv_topi (fun z13 ez13 => ?_)
          have hF := hF z13 ez13
          refine lv_istore (lv' := [(6, .int z13), (0, .ref (ad 8 p0)), (1, .int u1), (3, .int u3), (4, .int u4), (5, .int u5)]) hx hb dX4_moveAlong_43 hl (by decide) rfl (fun ls hl => ?_)
          refine lv_aload_n hx hb dX4_moveAlong_45 rfl (lv_at hl 1 rfl) ?_
          obtain ⟨o14, eo14, hF⟩ := hF
          have ho14 : o14 < gN τ0 16 := tw_lt (hP.2.2.2 8 p0 1 o14 (by decide) (tw_lt hp0 (congrFun hN 8)) eo14) (congrFun hN 16).symm
          refine tw_get (v := .ref (ad 16 o14)) hx hb hts (by decide +kernel) hown hK hP (by decide) (tw_lt hp0 (congrFun hN 8)) rfl rfl 1 (by decide) (hts (.fieldLink RX4 18 "WineCellar$Planner" "placed" "[[I") (by decide +kernel)) (fun _ h9 => h9) (show some (va_rf ((gR τ 8 p0 1).map (ad 16))) = some (.ref (ad 16 o14)) by rw [eo14]; rfl) dX4_moveAlong_46 ?_
          refine lv_aload_n hx hb dX4_moveAlong_49 rfl (lv_at hl 1 rfl) ?_
          obtain ⟨o15, eo15, hF⟩ := hF
          have ho15 : o15 < gN τ0 25 := tw_lt (hP.2.2.2 8 p0 6 o15 (by decide) (tw_lt hp0 (congrFun hN 8)) eo15) (congrFun hN 25).symm
          refine tw_get (v := .ref (ad 25 o15)) hx hb hts (by decide +kernel) hown hK hP (by decide) (tw_lt hp0 (congrFun hN 8)) rfl rfl 6 (by decide) (hts (.fieldLink RX4 34 "WineCellar$Planner" "movers" "[[I") (by decide +kernel)) (fun _ h9 => h9) (show some (va_rf ((gR τ 8 p0 6).map (ad 25))) = some (.ref (ad 25 o15)) by rw [eo15]; rfl) dX4_moveAlong_50 ?_
          refine lv_iload hx hb dX4_moveAlong_53 (lv_at hl 0 rfl) ?_
          obtain ⟨hi17, o16, eo16, hF⟩ := hF
          have ho16 : o16 < gN τ0 29 := tw_lt (hP.2.2.2 25 o15 _ o16 (by decide) (tw_lt ho15 (congrFun hN 25)) eo16) (congrFun hN 29).symm
          refine tw_aald hx hb hK hP (by decide) (tw_lt ho15 (congrFun hN 25)) rfl 8 rfl rfl (fun _ => rfl) hi17 dX4_moveAlong_55 ?_
          refine W.eq (g2 := F0 m 56 ls [.ref (ad 29 o16), .ref (ad 16 o14)]) (by rw [eo16]; rfl) ?_
          refine lv_iload hx hb dX4_moveAlong_56 (lv_at hl 4 rfl) ?_
          obtain ⟨hi18, hF⟩ := hF
          refine tw_iald hx hb hK hP (by decide) (tw_lt ho16 (congrFun hN 29)) rfl 0 rfl hi18 dX4_moveAlong_58 ?_
          obtain ⟨hi20, o19, eo19, hF⟩ := hF
          have ho19 : o19 < gN τ0 27 := tw_lt (hP.2.2.2 16 o14 _ o19 (by decide) (tw_lt ho14 (congrFun hN 16)) eo19) (congrFun hN 27).symm
          refine tw_aald hx hb hK hP (by decide) (tw_lt ho14 (congrFun hN 16)) rfl 8 rfl rfl (fun _ => rfl) hi20 dX4_moveAlong_59 ?_
          refine W.eq (g2 := F0 m 60 ls [.ref (ad 27 o19)]) (by rw [eo19]; rfl) ?_
          refine lv_iload hx hb dX4_moveAlong_60 (lv_at hl 4 rfl) ?_
          refine lv_dup2_11 hx hb dX4_moveAlong_62 rfl rfl ?_
          obtain ⟨hi21, hF⟩ := hF
          refine tw_iald hx hb hK hP (by decide) (tw_lt ho19 (congrFun hN 27)) rfl 0 rfl hi21 dX4_moveAlong_63 ?_
          refine lv_iload_n hx hb dX4_moveAlong_64 rfl (lv_at hl 3 rfl) ?_
          refine lv_iadd hx hb dX4_moveAlong_65 ?_
          obtain ⟨hi22, hF⟩ := hF
          refine tw_iast hx hb hK hP hS (by decide) (tw_lt ho19 (congrFun hN 27)) rfl 0 rfl hi22 dX4_moveAlong_66 (fun H locs hP hS => ?_)
          obtain ⟨τ23, eτ23⟩ : ∃ y : tw_T, y = sI τ 27 o19 u4.toNatClampNeg ((gI τ 27 o19 u4.toNatClampNeg) + u3) := ⟨_, rfl⟩
          have hF := hF τ23 eτ23
          rw [← eτ23] at hP
          have hN : gN τ23 = gN τ0 := by rw [eτ23]; exact hN
          refine lv_aload_n hx hb dX4_moveAlong_67 rfl (lv_at hl 1 rfl) ?_
          obtain ⟨o24, eo24, hF⟩ := hF
          have ho24 : o24 < gN τ0 16 := tw_lt (hP.2.2.2 8 p0 1 o24 (by decide) (tw_lt hp0 (congrFun hN 8)) eo24) (congrFun hN 16).symm
          refine tw_get (v := .ref (ad 16 o24)) hx hb hts (by decide +kernel) hown hK hP (by decide) (tw_lt hp0 (congrFun hN 8)) rfl rfl 1 (by decide) (hts (.fieldLink RX4 18 "WineCellar$Planner" "placed" "[[I") (by decide +kernel)) (fun _ h9 => h9) (show some (va_rf ((gR τ23 8 p0 1).map (ad 16))) = some (.ref (ad 16 o24)) by rw [eo24]; rfl) dX4_moveAlong_68 ?_
          refine lv_aload_n hx hb dX4_moveAlong_71 rfl (lv_at hl 1 rfl) ?_
          obtain ⟨o25, eo25, hF⟩ := hF
          have ho25 : o25 < gN τ0 25 := tw_lt (hP.2.2.2 8 p0 6 o25 (by decide) (tw_lt hp0 (congrFun hN 8)) eo25) (congrFun hN 25).symm
          refine tw_get (v := .ref (ad 25 o25)) hx hb hts (by decide +kernel) hown hK hP (by decide) (tw_lt hp0 (congrFun hN 8)) rfl rfl 6 (by decide) (hts (.fieldLink RX4 34 "WineCellar$Planner" "movers" "[[I") (by decide +kernel)) (fun _ h9 => h9) (show some (va_rf ((gR τ23 8 p0 6).map (ad 25))) = some (.ref (ad 25 o25)) by rw [eo25]; rfl) dX4_moveAlong_72 ?_
          refine lv_iload hx hb dX4_moveAlong_75 (lv_at hl 0 rfl) ?_
          obtain ⟨hi27, o26, eo26, hF⟩ := hF
          have ho26 : o26 < gN τ0 29 := tw_lt (hP.2.2.2 25 o25 _ o26 (by decide) (tw_lt ho25 (congrFun hN 25)) eo26) (congrFun hN 29).symm
          refine tw_aald hx hb hK hP (by decide) (tw_lt ho25 (congrFun hN 25)) rfl 8 rfl rfl (fun _ => rfl) hi27 dX4_moveAlong_77 ?_
          refine W.eq (g2 := F0 m 78 ls [.ref (ad 29 o26), .ref (ad 16 o24)]) (by rw [eo26]; rfl) ?_
          refine lv_iload hx hb dX4_moveAlong_78 (lv_at hl 4 rfl) ?_
          obtain ⟨hi28, hF⟩ := hF
          refine tw_iald hx hb hK hP (by decide) (tw_lt ho26 (congrFun hN 29)) rfl 0 rfl hi28 dX4_moveAlong_80 ?_
          obtain ⟨hi30, o29, eo29, hF⟩ := hF
          have ho29 : o29 < gN τ0 27 := tw_lt (hP.2.2.2 16 o24 _ o29 (by decide) (tw_lt ho24 (congrFun hN 16)) eo29) (congrFun hN 27).symm
          refine tw_aald hx hb hK hP (by decide) (tw_lt ho24 (congrFun hN 16)) rfl 8 rfl rfl (fun _ => rfl) hi30 dX4_moveAlong_81 ?_
          refine W.eq (g2 := F0 m 82 ls [.ref (ad 27 o29)]) (by rw [eo29]; rfl) ?_
          refine lv_iload hx hb dX4_moveAlong_82 (lv_at hl 0 rfl) ?_
          refine lv_dup2_11 hx hb dX4_moveAlong_84 rfl rfl ?_
          obtain ⟨hi31, hF⟩ := hF
          refine tw_iald hx hb hK hP (by decide) (tw_lt ho29 (congrFun hN 27)) rfl 0 rfl hi31 dX4_moveAlong_85 ?_
          refine lv_iload_n hx hb dX4_moveAlong_86 rfl (lv_at hl 3 rfl) ?_
          refine lv_isub hx hb dX4_moveAlong_87 ?_
          obtain ⟨hi32, hF⟩ := hF
          refine tw_iast hx hb hK hP hS (by decide) (tw_lt ho29 (congrFun hN 27)) rfl 0 rfl hi32 dX4_moveAlong_88 (fun H locs hP hS => ?_)
          obtain ⟨τ33, eτ33⟩ : ∃ y : tw_T, y = sI τ23 27 o29 z13.toNatClampNeg ((gI τ23 27 o29 z13.toNatClampNeg) - u3) := ⟨_, rfl⟩
          have hF := hF τ33 eτ33
          rw [← eτ33] at hP
          have hN : gN τ33 = gN τ0 := by rw [eτ33]; exact hN
          refine lv_iload hx hb dX4_moveAlong_89 (lv_at hl 0 rfl) ?_
          refine lv_istore (lv' := [(4, .int z13), (6, .int z13), (0, .ref (ad 8 p0)), (1, .int u1), (3, .int u3), (5, .int u5)]) hx hb dX4_moveAlong_91 hl (by decide) rfl (fun ls hl => ?_)
          obtain ⟨z34, ez34⟩ : ∃ y : Int32, y = u5 + (1 : Int32) := ⟨_, rfl⟩
          have hF := hF z34 ez34
          refine lv_iinc (v := z34) (lv' := [(5, .int z34), (4, .int z13), (6, .int z13), (0, .ref (ad 8 p0)), (1, .int u1), (3, .int u3)]) hx hb dX4_moveAlong_93 hl (k := 5) rfl (by rw [ez34]; rfl) (by decide) rfl (fun ls hl => ?_)
          refine lv_goto (tgt := 16) hx hb dX4_moveAlong_96 (by decide) ?_
          exact ih τ33 z13 z34 _ _ _ hF hP hN hS (lv_sub hl [3, 4, 5, 1, 0] rfl) hEX
  refine lv_aload_n hx hb dX4_moveAlong_0 rfl (lv_at hl 0 rfl) ?_
  obtain ⟨o35, eo35, hF⟩ := hF
  have ho35 : o35 < gN τ0 17 := tw_lt (hP.2.2.2 8 k0 2 o35 (by decide) hk0 eo35) (congrFun hN 17).symm
  refine tw_get (v := .ref (ad 17 o35)) hx hb hts (by decide +kernel) hown hK hP (by decide) hk0 rfl rfl 2 (by decide) (hts (.fieldLink RX4 21 "WineCellar$Planner" "room" "[I") (by decide +kernel)) (fun _ h9 => h9) (show some (va_rf ((gR τ0 8 k0 2).map (ad 17))) = some (.ref (ad 17 o35)) by rw [eo35]; rfl) dX4_moveAlong_1 ?_
  refine lv_iload_n hx hb dX4_moveAlong_4 rfl (lv_at hl 2 rfl) ?_
  refine lv_dup2_11 hx hb dX4_moveAlong_5 rfl rfl ?_
  obtain ⟨hi36, hF⟩ := hF
  refine tw_iald hx hb hK hP (by decide) ho35 rfl 0 rfl hi36 dX4_moveAlong_6 ?_
  refine lv_iload_n hx hb dX4_moveAlong_7 rfl (lv_at hl 3 rfl) ?_
  refine lv_isub hx hb dX4_moveAlong_8 ?_
  obtain ⟨hi37, hF⟩ := hF
  refine tw_iast hx hb hK hP hS (by decide) ho35 rfl 0 rfl hi37 dX4_moveAlong_9 (fun H locs hP hS => ?_)
  obtain ⟨τ38, eτ38⟩ : ∃ y : tw_T, y = sI τ0 17 o35 x2.toNatClampNeg ((gI τ0 17 o35 x2.toNatClampNeg) - x3) := ⟨_, rfl⟩
  have hF := hF τ38 eτ38
  rw [← eτ38] at hP
  have hN : gN τ38 = gN τ0 := by rw [eτ38]; exact hN
  refine lv_iload_n hx hb dX4_moveAlong_10 rfl (lv_at hl 2 rfl) ?_
  refine lv_istore (lv' := [(4, .int x2), (0, .ref (ad 8 k0)), (1, .int x1), (2, .int x2), (3, .int x3)]) hx hb dX4_moveAlong_11 hl (by decide) rfl (fun ls hl => ?_)
  refine lv_iconst (v := 0) hx hb dX4_moveAlong_13 (by decide) ?_
  refine lv_istore (lv' := [(5, .int ((0 : Int32))), (4, .int x2), (0, .ref (ad 8 k0)), (1, .int x1), (2, .int x2), (3, .int x3)]) hx hb dX4_moveAlong_14 hl (by decide) rfl (fun ls hl => ?_)
  obtain ⟨n39, hF⟩ := hF
  refine l16 k0 hk0 x1 x3 _ n39 τ38 x2 ((0 : Int32)) _ _ _ hF hP hN hS (lv_sub hl [2, 3, 5, 1, 0] rfl) ?_
  intro τ40 z41 z42 H locs ls hF hP hN hS hl
  exact j99 τ40 k0 hk0 x1 x3 z41 _ _ _ hF hP hN hS (lv_sub hl [0, 1, 2, 3] rfl)
def L_X4_gainOf_30 (p0 : Nat) (u2 : Int32) (u3 : Int32) (Q : Int32 → tw_T → Prop) (EX : tw_T → Int32 → Int32 → Int32 → Prop) : Nat → tw_T → Int32 → Int32 → Int32 → Prop
  | 0, _, _, _, _ => False
  | n + 1, τ, u4, u5, u6 => ((u2 ≤ u6 → (EX τ u4 u5 u6)) ∧ (¬ u2 ≤ u6 → (((u5 ≤ 0 → (EX τ u4 u5 u6)) ∧ (¬ u5 ≤ 0 → (F_X4_findChains τ p0 u3 (fun (τ3 : tw_T) => (F_X4_bestLast τ3 p0 (fun (r5 : Int32) (τ4 : tw_T) => (∃ o6 : Nat, gR τ4 8 p0 3 = some o6 ∧ (vp_in r5 7 ∧ (((0 < (gI τ4 18 o6 r5.toNatClampNeg) → (F_X4_widthOf τ4 p0 r5 u5 (fun (r10 : Int32) (τ9 : tw_T) => (F_X4_moveAlong τ9 p0 u3 r5 r10 (fun (τ11 : tw_T) => (∃ o12 : Nat, gR τ11 8 p0 3 = some o12 ∧ (vp_in r5 7 ∧ (∀ z14 : Int32, z14 = u4 + (r10 * (gI τ11 18 o12 r5.toNatClampNeg)) → (∀ z15 : Int32, z15 = u5 - r10 → (∀ z16 : Int32, z16 = u6 + (1 : Int32) → (L_X4_gainOf_30 p0 u2 u3 Q EX n τ11 z14 z15 z16))))))))))) ∧ (¬ 0 < (gI τ4 18 o6 r5.toNatClampNeg) → (EX τ4 u4 u5 u6)))))))))))))))
def F_X4_gainOf (τ0 : tw_T) (k0 : Nat) (k1 : Nat) (x2 : Int32) (Q : Int32 → tw_T → Prop) : Prop := (((gI τ0 8 k0 8) < ((30 : Int32)) → (∀ z18 : Int32, z18 = gI τ0 8 k0 8 → (F_X4_addGroup τ0 k0 k1 (fun (τ19 : tw_T) => (∃ n20 : Nat, L_X4_gainOf_30 k0 x2 z18 Q (fun (τ21 : tw_T) (z22 : Int32) (z23 : Int32) (z24 : Int32) => Q z22 τ21) n20 τ19 ((0 : Int32)) x2 ((0 : Int32))))))) ∧ (¬ (gI τ0 8 k0 8) < ((30 : Int32)) → (Q ((0 : Int32)) τ0)))
def rmX4_gainOf : Room := { frames := 3, cells := 0, slots := 0, locals := 69 }
set_option maxHeartbeats 4000000 in
set_option maxRecDepth 100000 in
theorem mX4_gainOf (l : Launch) (dC : Nat → ClassId) (dI : Nat → Nat → Nat) (ac : Nat → ClassId) (sa : Nat → Nat) (A : Nat → Prop) (ad : Nat → Nat → Nat) (τ0 : tw_T) (k0 : Nat) (k1 : Nat) (x2 : Int32) (Q : Int32 → tw_T → Prop) (hF : F_X4_gainOf τ0 k0 k1 x2 Q) (hk0 : k0 < gN τ0 8) (hk1 : k1 < gN τ0 21) : Met l yX4_gainOf wsX4_gainOf rmX4_gainOf (va_Pc [.ref (ad 8 k0), .ref (ad 21 k1), .int x2] (BX dC dI ac sa A ad τ0)) (va_Qi (fun r (u : tw_T) => Q r u ∧ gN u = gN τ0) (fun u t => PX dC dI ac A ad u t.heap) A) 0 0 A := by
  refine Met.ofW (cc := cX4_gainOf) (maxL := 9) (ret := (some .int)) (by decide) rfl ?_
  intro p e s m args below meth c s₁ B hml hv
  obtain ⟨rfl, hP, hK, hA, hZ⟩ := hv
  have hx := B.exec
  have hb := B.bytes
  have hr := B.returns
  have hts := atoms_spec (ws := wsX4_gainOf) B.pre
  have hown : s.vm.findClass RX4 = some m.cls := findClass_of_methodNamed B.named
  have hlocks := B.notSynchronized
  have hS : va_S A s.heap s.heap [] := va_S.rf
  have hN : gN τ0 = gN τ0 := rfl
  have hl := lv_entry ([.ref (ad 8 k0), .ref (ad 21 k1), .int x2]) (n := 9) (Nat.le_of_ble_eq_true rfl)
  rw [lg_entry_eq]
  generalize (lg_sl ([.ref (ad 8 k0), .ref (ad 21 k1), .int x2]) ++ List.replicate (9 - (lg_sl ([.ref (ad 8 k0), .ref (ad 21 k1), .int x2])).length) Slot.unset).toArray = ls at hl ⊢
  have hl : lv_has ls 9 [(0, .ref (ad 8 k0)), (1, .ref (ad 21 k1)), (2, .int x2)] := hl
  unfold F_X4_gainOf at hF
  have l30 : ∀ (p0 : Nat) (hp0 : p0 < gN τ0 8) (u2 : Int32) (u3 : Int32) (EX : tw_T → Int32 → Int32 → Int32 → Prop) (n : Nat) (τ : tw_T) (u4 : Int32) (u5 : Int32) (u6 : Int32) (H : Heap) (locs : List Loc) (ls : Array Slot), L_X4_gainOf_30 p0 u2 u3 Q EX n τ u4 u5 u6 → PX dC dI ac A ad τ H → gN τ = gN τ0 → va_S A s.heap H locs → lv_has ls 9 [(0, .ref (ad 8 p0)), (2, .int u2), (3, .int u3), (4, .int u4), (5, .int u5), (6, .int u6)] → (∀ (τ : tw_T) (u4 : Int32) (u5 : Int32) (u6 : Int32) (H : Heap) (locs : List Loc) (ls : Array Slot), EX τ u4 u5 u6 → PX dC dI ac A ad τ H → gN τ = gN τ0 → va_S A s.heap H locs → lv_has ls 9 [(0, .ref (ad 8 p0)), (2, .int u2), (3, .int u3), (4, .int u4), (5, .int u5), (6, .int u6)] → W p l e rmX4_gainOf s m ([.ref (ad 8 k0), .ref (ad 21 k1), .int x2] : List Value).toArray below meth c H locs 0 0 (MQ below (va_Qi (fun r (u : tw_T) => Q r u ∧ gN u = gN τ0) (fun u t => PX dC dI ac A ad u t.heap) A) ([.ref (ad 8 k0), .ref (ad 21 k1), .int x2] : List Value).toArray s 0 0 A) (F0 m 112 ls [])) → W p l e rmX4_gainOf s m ([.ref (ad 8 k0), .ref (ad 21 k1), .int x2] : List Value).toArray below meth c H locs 0 0 (MQ below (va_Qi (fun r (u : tw_T) => Q r u ∧ gN u = gN τ0) (fun u t => PX dC dI ac A ad u t.heap) A) ([.ref (ad 8 k0), .ref (ad 21 k1), .int x2] : List Value).toArray s 0 0 A) (F0 m 30 ls []) := by
    intro p0 hp0 u2 u3 EX n
    induction n with
    | zero => intro τ u4 u5 u6 H locs ls hF; exact hF.elim
    | succ n ih =>
      intro τ u4 u5 u6 H locs ls hF hP hN hS hl hEX
      rw [L_X4_gainOf_30] at hF
      refine lv_iload hx hb dX4_gainOf_30 (lv_at hl 5 rfl) ?_
      refine lv_iload_n hx hb dX4_gainOf_32 rfl (lv_at hl 1 rfl) ?_
      refine lv_icmp_ge (tgt := 112) hx hb dX4_gainOf_33 (by decide) (fun c1 => ?_) (fun c1 => ?_)
      · have hF := hF.1 c1
        exact hEX τ u4 u5 u6 _ _ _ hF hP hN hS (lv_sub hl [0, 1, 2, 3, 4, 5] rfl)
      · have hF := hF.2 c1
        refine lv_iload hx hb dX4_gainOf_36 (lv_at hl 4 rfl) ?_
        refine lv_if_le (tgt := 112) hx hb dX4_gainOf_38 (by decide) (fun c2 => ?_) (fun c2 => ?_)
        · have hF := hF.1 c2
          exact hEX τ u4 u5 u6 _ _ _ hF hP hN hS (lv_sub hl [0, 1, 2, 3, 4, 5] rfl)
        · have hF := hF.2 c2
          refine lv_aload_n hx hb dX4_gainOf_41 rfl (lv_at hl 0 rfl) ?_
          refine lv_iload_n hx hb dX4_gainOf_42 rfl (lv_at hl 2 rfl) ?_
          refine va_callv (va_runV (As := [.int u3]) (rest := []) ⟨hx, hb, hml, hown, hts⟩ (mX4_findChains l dC dI ac sa A ad τ p0 u3 _ hF (tw_lt hp0 (congrFun hN 8))) (cwV 1 hts gX4_gainOf_X4_findChains rfl rfl rfl (by decide +kernel) ⟨Nat.le_of_ble_eq_true rfl, Nat.le_of_ble_eq_true rfl⟩) ⟨BX.blind, tw_recv hK hP (by decide) (tw_lt hp0 (congrFun hN 8)) rfl rfl, fun U hU hW => ⟨rfl, BX.of hP hK hS hA hZ hU hW⟩⟩ rfl rfl hl.1 rfl (lv_room (Nat.le_of_ble_eq_true rfl)) dX4_gainOf_43 ⟨Nat.le_of_ble_eq_true rfl, Nat.le_of_ble_eq_true rfl⟩) hS (fun q _ h => h) (fun q h => h) (fun τ3 t H locs ht hvm hw hB hz hk hS => ?_)
          obtain ⟨hF, hN9⟩ := hw
          have hP : PX dC dI ac A ad τ3 H := tw_back hB ht
          have hN : gN τ3 = gN τ0 := hN9.trans hN
          refine lv_aload_n hx hb dX4_gainOf_46 rfl (lv_at hl 0 rfl) ?_
          refine va_calli (va_runV (As := []) (rest := []) ⟨hx, hb, hml, hown, hts⟩ (mX4_bestLast l dC dI ac sa A ad τ3 p0 _ hF (tw_lt hp0 (congrFun hN 8))) (cwV 0 hts gX4_gainOf_X4_bestLast rfl rfl rfl (by decide +kernel) ⟨Nat.le_of_ble_eq_true rfl, Nat.le_of_ble_eq_true rfl⟩) ⟨BX.blind, tw_recv hK hP (by decide) (tw_lt hp0 (congrFun hN 8)) rfl rfl, fun U hU hW => ⟨rfl, BX.of hP hK hS hA hZ hU hW⟩⟩ rfl rfl hl.1 rfl (lv_room (Nat.le_of_ble_eq_true rfl)) dX4_gainOf_47 ⟨Nat.le_of_ble_eq_true rfl, Nat.le_of_ble_eq_true rfl⟩) hS (fun q _ h => h) (fun q h => h) (fun r5 τ4 t H locs ht hvm hw hB hz hk hS => ?_)
          obtain ⟨hF, hN9⟩ := hw
          have hP : PX dC dI ac A ad τ4 H := tw_back hB ht
          have hN : gN τ4 = gN τ0 := hN9.trans hN
          refine lv_istore (lv' := [(7, .int r5), (0, .ref (ad 8 p0)), (2, .int u2), (3, .int u3), (4, .int u4), (5, .int u5), (6, .int u6)]) hx hb dX4_gainOf_50 hl (by decide) rfl (fun ls hl => ?_)
          refine lv_aload_n hx hb dX4_gainOf_52 rfl (lv_at hl 1 rfl) ?_
          obtain ⟨o6, eo6, hF⟩ := hF
          have ho6 : o6 < gN τ0 18 := tw_lt (hP.2.2.2 8 p0 3 o6 (by decide) (tw_lt hp0 (congrFun hN 8)) eo6) (congrFun hN 18).symm
          refine tw_get (v := .ref (ad 18 o6)) hx hb hts (by decide +kernel) hown hK hP (by decide) (tw_lt hp0 (congrFun hN 8)) rfl rfl 3 (by decide) (hts (.fieldLink RX4 25 "WineCellar$Planner" "best" "[I") (by decide +kernel)) (fun _ h9 => h9) (show some (va_rf ((gR τ4 8 p0 3).map (ad 18))) = some (.ref (ad 18 o6)) by rw [eo6]; rfl) dX4_gainOf_53 ?_
          refine lv_iload hx hb dX4_gainOf_56 (lv_at hl 0 rfl) ?_
          obtain ⟨hi7, hF⟩ := hF
          refine tw_iald hx hb hK hP (by decide) (tw_lt ho6 (congrFun hN 18)) rfl 0 rfl hi7 dX4_gainOf_58 ?_
          refine lv_if_gt (tgt := 65) hx hb dX4_gainOf_59 (by decide) (fun c8 => ?_) (fun c8 => ?_)
          · have hF := hF.1 c8
            refine lv_aload_n hx hb dX4_gainOf_65 rfl (lv_at hl 1 rfl) ?_
            refine lv_iload hx hb dX4_gainOf_66 (lv_at hl 0 rfl) ?_
            refine lv_iload hx hb dX4_gainOf_68 (lv_at hl 5 rfl) ?_
            refine va_calli (va_runV (As := [.int r5, .int u5]) (rest := []) ⟨hx, hb, hml, hown, hts⟩ (mX4_widthOf l dC dI ac sa A ad τ4 p0 r5 u5 _ hF (tw_lt hp0 (congrFun hN 8))) (cwV 2 hts gX4_gainOf_X4_widthOf rfl rfl rfl (by decide +kernel) ⟨Nat.le_of_ble_eq_true rfl, Nat.le_of_ble_eq_true rfl⟩) ⟨BX.blind, tw_recv hK hP (by decide) (tw_lt hp0 (congrFun hN 8)) rfl rfl, fun U hU hW => ⟨rfl, BX.of hP hK hS hA hZ hU hW⟩⟩ rfl rfl hl.1 rfl (lv_room (Nat.le_of_ble_eq_true rfl)) dX4_gainOf_70 ⟨Nat.le_of_ble_eq_true rfl, Nat.le_of_ble_eq_true rfl⟩) hS (fun q _ h => h) (fun q h => h) (fun r10 τ9 t H locs ht hvm hw hB hz hk hS => ?_)
            obtain ⟨hF, hN9⟩ := hw
            have hP : PX dC dI ac A ad τ9 H := tw_back hB ht
            have hN : gN τ9 = gN τ0 := hN9.trans hN
            refine lv_istore (lv' := [(8, .int r10), (7, .int r5), (0, .ref (ad 8 p0)), (2, .int u2), (3, .int u3), (4, .int u4), (5, .int u5), (6, .int u6)]) hx hb dX4_gainOf_73 hl (by decide) rfl (fun ls hl => ?_)
            refine lv_aload_n hx hb dX4_gainOf_75 rfl (lv_at hl 2 rfl) ?_
            refine lv_iload_n hx hb dX4_gainOf_76 rfl (lv_at hl 4 rfl) ?_
            refine lv_iload hx hb dX4_gainOf_77 (lv_at hl 1 rfl) ?_
            refine lv_iload hx hb dX4_gainOf_79 (lv_at hl 0 rfl) ?_
            refine va_callv (va_runV (As := [.int u3, .int r5, .int r10]) (rest := []) ⟨hx, hb, hml, hown, hts⟩ (mX4_moveAlong l dC dI ac sa A ad τ9 p0 u3 r5 r10 _ hF (tw_lt hp0 (congrFun hN 8))) (cwV 3 hts gX4_gainOf_X4_moveAlong rfl rfl rfl (by decide +kernel) ⟨Nat.le_of_ble_eq_true rfl, Nat.le_of_ble_eq_true rfl⟩) ⟨BX.blind, tw_recv hK hP (by decide) (tw_lt hp0 (congrFun hN 8)) rfl rfl, fun U hU hW => ⟨rfl, BX.of hP hK hS hA hZ hU hW⟩⟩ rfl rfl hl.1 rfl (lv_room (Nat.le_of_ble_eq_true rfl)) dX4_gainOf_81 ⟨Nat.le_of_ble_eq_true rfl, Nat.le_of_ble_eq_true rfl⟩) hS (fun q _ h => h) (fun q h => h) (fun τ11 t H locs ht hvm hw hB hz hk hS => ?_)
            obtain ⟨hF, hN9⟩ := hw
            have hP : PX dC dI ac A ad τ11 H := tw_back hB ht
            have hN : gN τ11 = gN τ0 := hN9.trans hN
            refine lv_iload hx hb dX4_gainOf_84 (lv_at hl 5 rfl) ?_
            refine lv_iload hx hb dX4_gainOf_86 (lv_at hl 0 rfl) ?_
            refine lv_aload_n hx hb dX4_gainOf_88 rfl (lv_at hl 2 rfl) ?_
            obtain ⟨o12, eo12, hF⟩ := hF
            have ho12 : o12 < gN τ0 18 := tw_lt (hP.2.2.2 8 p0 3 o12 (by decide) (tw_lt hp0 (congrFun hN 8)) eo12) (congrFun hN 18).symm
            refine tw_get (v := .ref (ad 18 o12)) hx hb hts (by decide +kernel) hown hK hP (by decide) (tw_lt hp0 (congrFun hN 8)) rfl rfl 3 (by decide) (hts (.fieldLink RX4 25 "WineCellar$Planner" "best" "[I") (by decide +kernel)) (fun _ h9 => h9) (show some (va_rf ((gR τ11 8 p0 3).map (ad 18))) = some (.ref (ad 18 o12)) by rw [eo12]; rfl) dX4_gainOf_89 ?_
            refine lv_iload hx hb dX4_gainOf_92 (lv_at hl 1 rfl) ?_
            obtain ⟨hi13, hF⟩ := hF
            refine tw_iald hx hb hK hP (by decide) (tw_lt ho12 (congrFun hN 18)) rfl 0 rfl hi13 dX4_gainOf_94 ?_
            refine lv_imul hx hb dX4_gainOf_95 ?_
            refine lv_iadd hx hb dX4_gainOf_96 ?_
            refine lv_topi (fun z14 ez14 => ?_)
            have hF := hF z14 ez14
            refine lv_istore (lv' := [(4, .int z14), (8, .int r10), (7, .int r5), (0, .ref (ad 8 p0)), (2, .int u2), (3, .int u3), (5, .int u5), (6, .int u6)]) hx hb dX4_gainOf_97 hl (by decide) rfl (fun ls hl => ?_)
            refine lv_iload hx hb dX4_gainOf_99 (lv_at hl 6 rfl) ?_
            refine lv_iload hx hb dX4_gainOf_101 (lv_at hl 1 rfl) ?_
            refine lv_isub hx hb dX4_gainOf_103 ?_
            refine lv_topi (fun z15 ez15 => ?_)
            have hF := hF z15 ez15
            refine lv_istore (lv' := [(5, .int z15), (4, .int z14), (8, .int r10), (7, .int r5), (0, .ref (ad 8 p0)), (2, .int u2), (3, .int u3), (6, .int u6)]) hx hb dX4_gainOf_104 hl (by decide) rfl (fun ls hl => ?_)
            obtain ⟨z16, ez16⟩ : ∃ y : Int32, y = u6 + (1 : Int32) := ⟨_, rfl⟩
            have hF := hF z16 ez16
            refine lv_iinc (v := z16) (lv' := [(6, .int z16), (5, .int z15), (4, .int z14), (8, .int r10), (7, .int r5), (0, .ref (ad 8 p0)), (2, .int u2), (3, .int u3)]) hx hb dX4_gainOf_106 hl (k := 7) rfl (by rw [ez16]; rfl) (by decide) rfl (fun ls hl => ?_)
            refine lv_goto (tgt := 30) hx hb dX4_gainOf_109 (by decide) ?_
            exact ih τ11 z14 z15 z16 _ _ _ hF hP hN hS (lv_sub hl [5, 6, 7, 2, 1, 0] rfl) hEX
          · have hF := hF.2 c8
            refine lv_goto (tgt := 112) hx hb dX4_gainOf_62 (by decide) ?_
            exact hEX τ4 u4 u5 u6 _ _ _ hF hP hN hS (lv_sub hl [1, 2, 3, 4, 5, 6] rfl)
  refine lv_aload_n hx hb dX4_gainOf_0 rfl (lv_at hl 0 rfl) ?_
  refine tw_get (v := .int (gI τ0 8 k0 8)) hx hb hts (by decide +kernel) hown hK hP (by decide) hk0 rfl rfl 8 (by decide) (hts (.fieldLink RX4 41 "WineCellar$Planner" "groups" "I") (by decide +kernel)) (fun _ h9 => h9) rfl dX4_gainOf_1 ?_
  refine lv_bipush (v := 30) hx hb dX4_gainOf_4 (by decide) ?_
  refine lv_icmp_lt (tgt := 11) hx hb dX4_gainOf_6 (by decide) (fun c17 => ?_) (fun c17 => ?_)
  · have hF := hF.1 c17
    refine lv_aload_n hx hb dX4_gainOf_11 rfl (lv_at hl 0 rfl) ?_
    refine tw_get (v := .int (gI τ0 8 k0 8)) hx hb hts (by decide +kernel) hown hK hP (by decide) hk0 rfl rfl 8 (by decide) (hts (.fieldLink RX4 41 "WineCellar$Planner" "groups" "I") (by decide +kernel)) (fun _ h9 => h9) rfl dX4_gainOf_12 ?_
    refine lv_topi (fun z18 ez18 => ?_)
    have hF := hF z18 ez18
    refine lv_istore_n (lv' := [(3, .int z18), (0, .ref (ad 8 k0)), (1, .ref (ad 21 k1)), (2, .int x2)]) hx hb dX4_gainOf_15 rfl hl (by decide) rfl (fun ls hl => ?_)
    refine lv_aload_n hx hb dX4_gainOf_16 rfl (lv_at hl 1 rfl) ?_
    refine lv_aload_n hx hb dX4_gainOf_17 rfl (lv_at hl 2 rfl) ?_
    refine va_callv (va_runV (As := [.ref (ad 21 k1)]) (rest := []) ⟨hx, hb, hml, hown, hts⟩ (mX4_addGroup l dC dI ac sa A ad τ0 k0 k1 _ hF hk0 hk1) (cwV 1 hts gX4_gainOf_X4_addGroup rfl rfl rfl (by decide +kernel) ⟨Nat.le_of_ble_eq_true rfl, Nat.le_of_ble_eq_true rfl⟩) ⟨BX.blind, tw_recv hK hP (by decide) hk0 rfl rfl, fun U hU hW => ⟨rfl, BX.of hP hK hS hA hZ hU hW⟩⟩ rfl rfl hl.1 rfl (lv_room (Nat.le_of_ble_eq_true rfl)) dX4_gainOf_18 ⟨Nat.le_of_ble_eq_true rfl, Nat.le_of_ble_eq_true rfl⟩) hS (fun q _ h => h) (fun q h => h) (fun τ19 t H locs ht hvm hw hB hz hk hS => ?_)
    obtain ⟨hF, hN9⟩ := hw
    have hP : PX dC dI ac A ad τ19 H := tw_back hB ht
    have hN : gN τ19 = gN τ0 := hN9.trans hN
    refine lv_iconst (v := 0) hx hb dX4_gainOf_21 (by decide) ?_
    refine lv_istore (lv' := [(4, .int ((0 : Int32))), (3, .int z18), (0, .ref (ad 8 k0)), (1, .ref (ad 21 k1)), (2, .int x2)]) hx hb dX4_gainOf_22 hl (by decide) rfl (fun ls hl => ?_)
    refine lv_iload_n hx hb dX4_gainOf_24 rfl (lv_at hl 4 rfl) ?_
    refine lv_istore (lv' := [(5, .int x2), (4, .int ((0 : Int32))), (3, .int z18), (0, .ref (ad 8 k0)), (1, .ref (ad 21 k1)), (2, .int x2)]) hx hb dX4_gainOf_25 hl (by decide) rfl (fun ls hl => ?_)
    refine lv_iconst (v := 0) hx hb dX4_gainOf_27 (by decide) ?_
    refine lv_istore (lv' := [(6, .int ((0 : Int32))), (5, .int x2), (4, .int ((0 : Int32))), (3, .int z18), (0, .ref (ad 8 k0)), (1, .ref (ad 21 k1)), (2, .int x2)]) hx hb dX4_gainOf_28 hl (by decide) rfl (fun ls hl => ?_)
    obtain ⟨n20, hF⟩ := hF
    refine l30 k0 hk0 x2 z18 _ n20 τ19 ((0 : Int32)) x2 ((0 : Int32)) _ _ _ hF hP hN hS (lv_sub hl [4, 6, 3, 2, 1, 0] rfl) ?_
    intro τ21 z22 z23 z24 H locs ls hF hP hN hS hl
    refine lv_iload hx hb dX4_gainOf_112 (lv_at hl 3 rfl) ?_
    exact W.iret (v := z22) hx hb hr (fun t ht hW => ⟨⟨z22, τ21, rfl, ⟨hF, hN⟩, tw_at hP ht⟩, hS.F ht⟩) hS.2.2 dX4_gainOf_114
  · have hF := hF.2 c17
    refine lv_iconst (v := 0) hx hb dX4_gainOf_9 (by decide) ?_
    exact W.iret (v := (0 : Int32)) hx hb hr (fun t ht hW => ⟨⟨((0 : Int32)), τ0, rfl, ⟨hF, hN⟩, tw_at hP ht⟩, hS.F ht⟩) hS.2.2 dX4_gainOf_10
