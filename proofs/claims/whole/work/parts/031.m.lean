def J_X10_adds_29 (τ : tw_T) (y0 : Int32) (y1 : Int32) (q2 : Nat) (Q : tw_T → Prop) : Prop := vp_in y1 30 ∧ (∀ τ2 : tw_T, τ2 = sI τ 123 q2 y1.toNatClampNeg y0 → (Q τ2))
def F_X10_adds (τ0 : tw_T) (k0 : Nat) (x1 : Int32) (x2 : Int32) (x3 : Int32) (Q : tw_T → Prop) : Prop := ∃ o3 : Nat, gR τ0 0 k0 24 = some o3 ∧ (vp_in x1 30 ∧ (vp_in x1 30 ∧ (∀ τ6 : tw_T, τ6 = sI τ0 124 o3 x1.toNatClampNeg ((gI τ0 124 o3 x1.toNatClampNeg) + x3) → (∃ o7 : Nat, gR τ6 0 k0 23 = some o7 ∧ (∃ o8 : Nat, gR τ6 0 k0 24 = some o8 ∧ (vp_in x1 30 ∧ (((¬ (gI τ6 124 o8 x1.toNatClampNeg) = 0 → (J_X10_adds_29 τ6  x2 x1 o7 Q)) ∧ ((gI τ6 124 o8 x1.toNatClampNeg) = 0 → (J_X10_adds_29 τ6  ((-1 : Int32)) x1 o7 Q))))))))))
def rmX10_adds : Room := { frames := 0, cells := 0, slots := 0, locals := 0 }
set_option maxHeartbeats 4000000 in
set_option maxRecDepth 100000 in
theorem mX10_adds (l : Launch) (dC : Nat → ClassId) (dI : Nat → Nat → Nat) (ac : Nat → ClassId) (sa : Nat → Nat) (A : Nat → Prop) (ad : Nat → Nat → Nat) (τ0 : tw_T) (k0 : Nat) (x1 : Int32) (x2 : Int32) (x3 : Int32) (Q : tw_T → Prop) (hF : F_X10_adds τ0 k0 x1 x2 x3 Q) (hk0 : k0 < gN τ0 0) : Met l yX10_adds wsX10_adds rmX10_adds (va_Pc [.ref (ad 0 k0), .int x1, .int x2, .int x3] (BM dC dI ac sa A ad τ0)) (va_Qv (fun (u : tw_T) => Q u ∧ gN u = gN τ0) (fun u t => PM dC dI ac A ad u t.heap) A) 0 0 A := by
  refine Met.ofW (cc := cX10_adds) (maxL := 4) (ret := none) (by decide) rfl ?_
  intro p e s m args below meth c s₁ B hml hv
  obtain ⟨rfl, hP, hK, hA, hZ⟩ := hv
  have hx := B.exec
  have hb := B.bytes
  have hr := B.returns
  have hts := atoms_spec (ws := wsX10_adds) B.pre
  have hown : s.vm.findClass RX10 = some m.cls := findClass_of_methodNamed B.named
  have hlocks := B.notSynchronized
  have hS : va_S A s.heap s.heap [] := va_S.rf
  have hN : gN τ0 = gN τ0 := rfl
  have hl := lv_entry ([.ref (ad 0 k0), .int x1, .int x2, .int x3]) (n := 4) (Nat.le_of_ble_eq_true rfl)
  rw [lg_entry_eq]
  generalize (lg_sl ([.ref (ad 0 k0), .int x1, .int x2, .int x3]) ++ List.replicate (4 - (lg_sl ([.ref (ad 0 k0), .int x1, .int x2, .int x3])).length) Slot.unset).toArray = ls at hl ⊢
  have hl : lv_has ls 4 [(0, .ref (ad 0 k0)), (1, .int x1), (2, .int x2), (3, .int x3)] := hl
  unfold F_X10_adds at hF
  have j29 : ∀ (τ : tw_T) (y0 : Int32) (y1 : Int32) (q2 : Nat) (hq2 : q2 < gN τ0 123) (H : Heap) (locs : List Loc) (ls : Array Slot), J_X10_adds_29 τ y0 y1 q2 Q → PM dC dI ac A ad τ H → gN τ = gN τ0 → va_S A s.heap H locs → lv_has ls 4 [] → W p l e rmX10_adds s m ([.ref (ad 0 k0), .int x1, .int x2, .int x3] : List Value).toArray below meth c H locs 0 0 (MQ below (va_Qv (fun (u : tw_T) => Q u ∧ gN u = gN τ0) (fun u t => PM dC dI ac A ad u t.heap) A) ([.ref (ad 0 k0), .int x1, .int x2, .int x3] : List Value).toArray s 0 0 A) (F0 m 29 ls [.int y0, .int y1, .ref (ad 123 q2)]) := by
    intro τ y0 y1 q2 hq2 H locs ls hF hP hN hS hl
    unfold J_X10_adds_29 at hF
    obtain ⟨hi1, hF⟩ := hF
    refine tw_iast hx hb hK hP hS (by decide) (tw_lt hq2 (congrFun hN 123)) rfl 0 rfl hi1 dX10_adds_29 (fun H locs hP hS => ?_)
    obtain ⟨τ2, eτ2⟩ : ∃ y : tw_T, y = sI τ 123 q2 y1.toNatClampNeg y0 := ⟨_, rfl⟩
    have hF := hF τ2 eτ2
    rw [← eτ2] at hP
    have hN : gN τ2 = gN τ0 := by rw [eτ2]; exact hN
    exact W.vret hx hb hr (fun t ht hW => ⟨⟨τ2, rfl, ⟨hF, hN⟩, tw_at hP ht⟩, hS.F ht⟩) hS.2.2 dX10_adds_30
  refine lv_aload_n hx hb dX10_adds_0 rfl (lv_at hl 0 rfl) ?_
  obtain ⟨o3, eo3, hF⟩ := hF
  have ho3 : o3 < gN τ0 124 := tw_lt (hP.2.2.2 0 k0 24 o3 (by decide) hk0 eo3) (congrFun hN 124).symm
  refine tw_get (v := .ref (ad 124 o3)) hx hb hts (by decide +kernel) hown hK hP (by decide) hk0 rfl rfl 24 (by decide) (hts (.fieldLink RX10 47 "WineCellarModel" "cellMany" "[I") (by decide +kernel)) (fun _ h9 => h9) (show some (va_rf ((gR τ0 0 k0 24).map (ad 124))) = some (.ref (ad 124 o3)) by rw [eo3]; rfl) dX10_adds_1 ?_
  refine lv_iload_n hx hb dX10_adds_4 rfl (lv_at hl 1 rfl) ?_
  refine lv_dup2_11 hx hb dX10_adds_5 rfl rfl ?_
  obtain ⟨hi4, hF⟩ := hF
  refine tw_iald hx hb hK hP (by decide) ho3 rfl 0 rfl hi4 dX10_adds_6 ?_
  refine lv_iload_n hx hb dX10_adds_7 rfl (lv_at hl 3 rfl) ?_
  refine lv_iadd hx hb dX10_adds_8 ?_
  obtain ⟨hi5, hF⟩ := hF
  refine tw_iast hx hb hK hP hS (by decide) ho3 rfl 0 rfl hi5 dX10_adds_9 (fun H locs hP hS => ?_)
  obtain ⟨τ6, eτ6⟩ : ∃ y : tw_T, y = sI τ0 124 o3 x1.toNatClampNeg ((gI τ0 124 o3 x1.toNatClampNeg) + x3) := ⟨_, rfl⟩
  have hF := hF τ6 eτ6
  rw [← eτ6] at hP
  have hN : gN τ6 = gN τ0 := by rw [eτ6]; exact hN
  refine lv_aload_n hx hb dX10_adds_10 rfl (lv_at hl 0 rfl) ?_
  obtain ⟨o7, eo7, hF⟩ := hF
  have ho7 : o7 < gN τ0 123 := tw_lt (hP.2.2.2 0 k0 23 o7 (by decide) (tw_lt hk0 (congrFun hN 0)) eo7) (congrFun hN 123).symm
  refine tw_get (v := .ref (ad 123 o7)) hx hb hts (by decide +kernel) hown hK hP (by decide) (tw_lt hk0 (congrFun hN 0)) rfl rfl 23 (by decide) (hts (.fieldLink RX10 44 "WineCellarModel" "cellLot" "[I") (by decide +kernel)) (fun _ h9 => h9) (show some (va_rf ((gR τ6 0 k0 23).map (ad 123))) = some (.ref (ad 123 o7)) by rw [eo7]; rfl) dX10_adds_11 ?_
  refine lv_iload_n hx hb dX10_adds_14 rfl (lv_at hl 1 rfl) ?_
  refine lv_aload_n hx hb dX10_adds_15 rfl (lv_at hl 0 rfl) ?_
  obtain ⟨o8, eo8, hF⟩ := hF
  have ho8 : o8 < gN τ0 124 := tw_lt (hP.2.2.2 0 k0 24 o8 (by decide) (tw_lt hk0 (congrFun hN 0)) eo8) (congrFun hN 124).symm
  refine tw_get (v := .ref (ad 124 o8)) hx hb hts (by decide +kernel) hown hK hP (by decide) (tw_lt hk0 (congrFun hN 0)) rfl rfl 24 (by decide) (hts (.fieldLink RX10 47 "WineCellarModel" "cellMany" "[I") (by decide +kernel)) (fun _ h9 => h9) (show some (va_rf ((gR τ6 0 k0 24).map (ad 124))) = some (.ref (ad 124 o8)) by rw [eo8]; rfl) dX10_adds_16 ?_
  refine lv_iload_n hx hb dX10_adds_19 rfl (lv_at hl 1 rfl) ?_
  obtain ⟨hi9, hF⟩ := hF
  refine tw_iald hx hb hK hP (by decide) (tw_lt ho8 (congrFun hN 124)) rfl 0 rfl hi9 dX10_adds_20 ?_
  refine lv_if_ne (tgt := 28) hx hb dX10_adds_21 (by decide) (fun c10 => ?_) (fun c10 => ?_)
  · have hF := hF.1 c10
    refine lv_iload_n hx hb dX10_adds_28 rfl (lv_at hl 2 rfl) ?_
    exact j29 τ6  x2 x1 o7 ho7 _ _ _ hF hP hN hS (lv_sub hl [] rfl)
  · have hF := hF.2 c10
    refine lv_iconst (v := (-1)) hx hb dX10_adds_24 (by decide) ?_
    refine lv_goto (tgt := 29) hx hb dX10_adds_25 (by decide) ?_
    exact j29 τ6  ((-1 : Int32)) x1 o7 ho7 _ _ _ hF hP hN hS (lv_sub hl [] rfl)
def J_X10_put_61 (τ : tw_T) (p0 : Nat) (u1 : Int32) (u2 : Int32) (u3 : Int32) (Q : Int32 → tw_T → Prop) : Prop := ∃ o1 : Nat, gR τ 0 p0 24 = some o1 ∧ (vp_in u1 30 ∧ (((((gI τ 124 o1 u1.toNatClampNeg) + u3) ≤ ((12 : Int32)) → (F_X10_adds τ p0 u1 u2 u3 (fun (τ4 : tw_T) => (∀ τ5 : tw_T, τ5 = sI τ4 0 p0 15 ((gI τ4 0 p0 15) + u3) → (∃ o6 : Nat, gR τ5 0 p0 24 = some o6 ∧ (vp_in u1 30 ∧ (Q (gI τ5 124 o6 u1.toNatClampNeg) τ5))))))) ∧ (¬ ((gI τ 124 o1 u1.toNatClampNeg) + u3) ≤ ((12 : Int32)) → (Q ((-2 : Int32)) τ)))))
def F_X10_put (τ0 : tw_T) (k0 : Nat) (x1 : Int32) (x2 : Int32) (x3 : Int32) (Q : Int32 → tw_T → Prop) : Prop := ∀ τ8 : tw_T, τ8 = sI τ0 0 k0 0 ((0 : Int32)) → (F_X10_isCell τ8 k0 x1 (fun (r10 : Int32) (τ9 : tw_T) => (((r10 = 0 → (Q ((0 : Int32)) τ9)) ∧ (¬ r10 = 0 → (F_X10_isLot τ9 k0 x2 ((2 : Int32)) (fun (r13 : Int32) (τ12 : tw_T) => (((r13 = 0 → (Q ((0 : Int32)) τ12)) ∧ (¬ r13 = 0 → (F_X10_within τ12 x3 ((1 : Int32)) ((12 : Int32)) (fun (r16 : Int32) (τ15 : tw_T) => (F_X10_may τ15 k0 r16 ((3 : Int32)) (fun (r18 : Int32) (τ17 : tw_T) => (((¬ r18 = 0 → (∃ o20 : Nat, gR τ17 0 k0 23 = some o20 ∧ (vp_in x1 30 ∧ ((((gI τ17 123 o20 x1.toNatClampNeg) = ((-1 : Int32)) → (J_X10_put_61 τ17 k0 x1 x2 x3 Q)) ∧ (¬ (gI τ17 123 o20 x1.toNatClampNeg) = ((-1 : Int32)) → (∃ o23 : Nat, gR τ17 0 k0 23 = some o23 ∧ (vp_in x1 30 ∧ ((((gI τ17 123 o23 x1.toNatClampNeg) = x2 → (J_X10_put_61 τ17 k0 x1 x2 x3 Q)) ∧ (¬ (gI τ17 123 o23 x1.toNatClampNeg) = x2 → (Q ((-1 : Int32)) τ17)))))))))))) ∧ (r18 = 0 → (Q ((0 : Int32)) τ17))))))))))))))))))
def rmX10_put : Room := { frames := 2, cells := 0, slots := 0, locals := 44 }
set_option maxHeartbeats 4000000 in
set_option maxRecDepth 100000 in
theorem mX10_put (l : Launch) (dC : Nat → ClassId) (dI : Nat → Nat → Nat) (ac : Nat → ClassId) (sa : Nat → Nat) (A : Nat → Prop) (ad : Nat → Nat → Nat) (τ0 : tw_T) (k0 : Nat) (x1 : Int32) (x2 : Int32) (x3 : Int32) (Q : Int32 → tw_T → Prop) (hF : F_X10_put τ0 k0 x1 x2 x3 Q) (hk0 : k0 < gN τ0 0) : Met l yX10_put wsX10_put rmX10_put (va_Pc [.ref (ad 0 k0), .int x1, .int x2, .int x3] (BM dC dI ac sa A ad τ0)) (va_Qi (fun r (u : tw_T) => Q r u ∧ gN u = gN τ0) (fun u t => PM dC dI ac A ad u t.heap) A) 0 0 A := by
  refine Met.ofW (cc := cX10_put) (maxL := 4) (ret := (some .int)) (by decide) rfl ?_
  intro p e s m args below meth c s₁ B hml hv
  obtain ⟨rfl, hP, hK, hA, hZ⟩ := hv
  have hx := B.exec
  have hb := B.bytes
  have hr := B.returns
  have hts := atoms_spec (ws := wsX10_put) B.pre
  have hown : s.vm.findClass RX10 = some m.cls := findClass_of_methodNamed B.named
  have hlocks := B.notSynchronized
  have hS : va_S A s.heap s.heap [] := va_S.rf
  have hN : gN τ0 = gN τ0 := rfl
  have hl := lv_entry ([.ref (ad 0 k0), .int x1, .int x2, .int x3]) (n := 4) (Nat.le_of_ble_eq_true rfl)
  rw [lg_entry_eq]
  generalize (lg_sl ([.ref (ad 0 k0), .int x1, .int x2, .int x3]) ++ List.replicate (4 - (lg_sl ([.ref (ad 0 k0), .int x1, .int x2, .int x3])).length) Slot.unset).toArray = ls at hl ⊢
  have hl : lv_has ls 4 [(0, .ref (ad 0 k0)), (1, .int x1), (2, .int x2), (3, .int x3)] := hl
  unfold F_X10_put at hF
  have j61 : ∀ (τ : tw_T) (p0 : Nat) (hp0 : p0 < gN τ0 0) (u1 : Int32) (u2 : Int32) (u3 : Int32) (H : Heap) (locs : List Loc) (ls : Array Slot), J_X10_put_61 τ p0 u1 u2 u3 Q → PM dC dI ac A ad τ H → gN τ = gN τ0 → va_S A s.heap H locs → lv_has ls 4 [(0, .ref (ad 0 p0)), (1, .int u1), (2, .int u2), (3, .int u3)] → W p l e rmX10_put s m ([.ref (ad 0 k0), .int x1, .int x2, .int x3] : List Value).toArray below meth c H locs 0 0 (MQ below (va_Qi (fun r (u : tw_T) => Q r u ∧ gN u = gN τ0) (fun u t => PM dC dI ac A ad u t.heap) A) ([.ref (ad 0 k0), .int x1, .int x2, .int x3] : List Value).toArray s 0 0 A) (F0 m 61 ls []) := by
    intro τ p0 hp0 u1 u2 u3 H locs ls hF hP hN hS hl
    unfold J_X10_put_61 at hF
    refine lv_aload_n hx hb dX10_put_61 rfl (lv_at hl 0 rfl) ?_
    obtain ⟨o1, eo1, hF⟩ := hF
    have ho1 : o1 < gN τ0 124 := tw_lt (hP.2.2.2 0 p0 24 o1 (by decide) (tw_lt hp0 (congrFun hN 0)) eo1) (congrFun hN 124).symm
    refine tw_get (v := .ref (ad 124 o1)) hx hb hts (by decide +kernel) hown hK hP (by decide) (tw_lt hp0 (congrFun hN 0)) rfl rfl 24 (by decide) (hts (.fieldLink RX10 47 "WineCellarModel" "cellMany" "[I") (by decide +kernel)) (fun _ h9 => h9) (show some (va_rf ((gR τ 0 p0 24).map (ad 124))) = some (.ref (ad 124 o1)) by rw [eo1]; rfl) dX10_put_62 ?_
    refine lv_iload_n hx hb dX10_put_65 rfl (lv_at hl 1 rfl) ?_
    obtain ⟨hi2, hF⟩ := hF
    refine tw_iald hx hb hK hP (by decide) (tw_lt ho1 (congrFun hN 124)) rfl 0 rfl hi2 dX10_put_66 ?_
    refine lv_iload_n hx hb dX10_put_67 rfl (lv_at hl 3 rfl) ?_
    refine lv_iadd hx hb dX10_put_68 ?_
    refine lv_bipush (v := 12) hx hb dX10_put_69 (by decide) ?_
    refine lv_icmp_le (tgt := 77) hx hb dX10_put_71 (by decide) (fun c3 => ?_) (fun c3 => ?_)
    · have hF := hF.1 c3
      refine lv_aload_n hx hb dX10_put_77 rfl (lv_at hl 0 rfl) ?_
      refine lv_iload_n hx hb dX10_put_78 rfl (lv_at hl 1 rfl) ?_
      refine lv_iload_n hx hb dX10_put_79 rfl (lv_at hl 2 rfl) ?_
      refine lv_iload_n hx hb dX10_put_80 rfl (lv_at hl 3 rfl) ?_
      refine va_callv (va_runV (As := [.int u1, .int u2, .int u3]) (rest := []) ⟨hx, hb, hml, hown, hts⟩ (mX10_adds l dC dI ac sa A ad τ p0 u1 u2 u3 _ hF (tw_lt hp0 (congrFun hN 0))) (cwV 3 hts gX10_put_X10_adds rfl rfl rfl (by decide +kernel) ⟨Nat.le_of_ble_eq_true rfl, Nat.le_of_ble_eq_true rfl⟩) ⟨BM.blind, tw_recv hK hP (by decide) (tw_lt hp0 (congrFun hN 0)) rfl rfl, fun U hU hW => ⟨rfl, BM.of hP hK hS hA hZ hU hW⟩⟩ rfl rfl hl.1 rfl (lv_room (Nat.le_of_ble_eq_true rfl)) dX10_put_81 ⟨Nat.le_of_ble_eq_true rfl, Nat.le_of_ble_eq_true rfl⟩) hS (fun q _ h => h) (fun q h => h) (fun τ4 t H locs ht hvm hw hB hz hk hS => ?_)
      obtain ⟨hF, hN9⟩ := hw
      have hP : PM dC dI ac A ad τ4 H := tw_back hB ht
      have hN : gN τ4 = gN τ0 := hN9.trans hN
      refine lv_aload_n hx hb dX10_put_84 rfl (lv_at hl 0 rfl) ?_
      refine lv_dup hx hb dX10_put_85 rfl ?_
      refine tw_get (v := .int (gI τ4 0 p0 15)) hx hb hts (by decide +kernel) hown hK hP (by decide) (tw_lt hp0 (congrFun hN 0)) rfl rfl 15 (by decide) (hts (.fieldLink RX10 146 "WineCellarModel" "bought" "I") (by decide +kernel)) (fun _ h9 => h9) rfl dX10_put_86 ?_
      refine lv_iload_n hx hb dX10_put_89 rfl (lv_at hl 3 rfl) ?_
      refine lv_iadd hx hb dX10_put_90 ?_
      refine tw_put (τ' := sI τ4 0 p0 15 ((gI τ4 0 p0 15) + u3)) (ty := .int) hx hb hts (by decide +kernel) tyX10 tyX10_ok nmX10 hown hK hP hS (by decide) (tw_lt hp0 (congrFun hN 0)) rfl rfl 15 (by decide) (hts (.fieldLink RX10 146 "WineCellarModel" "bought" "I") (by decide +kernel)) (fun _ h9 => h9) rfl (by decide +kernel) rfl rfl (Nat.le_of_ble_eq_true rfl) dX10_put_91 (fun H1 ha ho => tw_updI hP (by decide) (tw_lt hp0 (congrFun hN 0)) ha ho) (fun H locs hP hS => ?_)
      obtain ⟨τ5, eτ5⟩ : ∃ y : tw_T, y = sI τ4 0 p0 15 ((gI τ4 0 p0 15) + u3) := ⟨_, rfl⟩
      have hF := hF τ5 eτ5
      rw [← eτ5] at hP
      have hN : gN τ5 = gN τ0 := by rw [eτ5]; exact hN
      refine lv_aload_n hx hb dX10_put_94 rfl (lv_at hl 0 rfl) ?_
      obtain ⟨o6, eo6, hF⟩ := hF
      have ho6 : o6 < gN τ0 124 := tw_lt (hP.2.2.2 0 p0 24 o6 (by decide) (tw_lt hp0 (congrFun hN 0)) eo6) (congrFun hN 124).symm
      refine tw_get (v := .ref (ad 124 o6)) hx hb hts (by decide +kernel) hown hK hP (by decide) (tw_lt hp0 (congrFun hN 0)) rfl rfl 24 (by decide) (hts (.fieldLink RX10 47 "WineCellarModel" "cellMany" "[I") (by decide +kernel)) (fun _ h9 => h9) (show some (va_rf ((gR τ5 0 p0 24).map (ad 124))) = some (.ref (ad 124 o6)) by rw [eo6]; rfl) dX10_put_95 ?_
      refine lv_iload_n hx hb dX10_put_98 rfl (lv_at hl 1 rfl) ?_
      obtain ⟨hi7, hF⟩ := hF
      refine tw_iald hx hb hK hP (by decide) (tw_lt ho6 (congrFun hN 124)) rfl 0 rfl hi7 dX10_put_99 ?_
      exact W.iret (v := gI τ5 124 o6 u1.toNatClampNeg) hx hb hr (fun t ht hW => ⟨⟨(gI τ5 124 o6 u1.toNatClampNeg), τ5, rfl, ⟨hF, hN⟩, tw_at hP ht⟩, hS.F ht⟩) hS.2.2 dX10_put_100
    · have hF := hF.2 c3
      refine lv_bipush (v := (-2)) hx hb dX10_put_74 (by decide) ?_
      exact W.iret (v := (-2 : Int32)) hx hb hr (fun t ht hW => ⟨⟨((-2 : Int32)), τ, rfl, ⟨hF, hN⟩, tw_at hP ht⟩, hS.F ht⟩) hS.2.2 dX10_put_76
  refine lv_aload_n hx hb dX10_put_0 rfl (lv_at hl 0 rfl) ?_
  refine lv_iconst (v := 0) hx hb dX10_put_1 (by decide) ?_
  refine tw_put (τ' := sI τ0 0 k0 0 ((0 : Int32))) (ty := .int) hx hb hts (by decide +kernel) tyX10 tyX10_ok nmX10 hown hK hP hS (by decide) hk0 rfl rfl 0 (by decide) (hts (.fieldLink RX10 1 "WineCellarModel" "thrown" "I") (by decide +kernel)) (fun _ h9 => h9) rfl (by decide +kernel) rfl rfl (Nat.le_of_ble_eq_true rfl) dX10_put_2 (fun H1 ha ho => tw_updI hP (by decide) hk0 ha ho) (fun H locs hP hS => ?_)
  obtain ⟨τ8, eτ8⟩ : ∃ y : tw_T, y = sI τ0 0 k0 0 ((0 : Int32)) := ⟨_, rfl⟩
  have hF := hF τ8 eτ8
  rw [← eτ8] at hP
  have hN : gN τ8 = gN τ0 := by rw [eτ8]; exact hN
  refine lv_aload_n hx hb dX10_put_5 rfl (lv_at hl 0 rfl) ?_
  refine lv_iload_n hx hb dX10_put_6 rfl (lv_at hl 1 rfl) ?_
  refine va_calli (va_runV (As := [.int x1]) (rest := []) ⟨hx, hb, hml, hown, hts⟩ (mX10_isCell l dC dI ac sa A ad τ8 k0 x1 _ hF (tw_lt hk0 (congrFun hN 0))) (cwV 1 hts gX10_put_X10_isCell rfl rfl rfl (by decide +kernel) ⟨Nat.le_of_ble_eq_true rfl, Nat.le_of_ble_eq_true rfl⟩) ⟨BM.blind, tw_recv hK hP (by decide) (tw_lt hk0 (congrFun hN 0)) rfl rfl, fun U hU hW => ⟨rfl, BM.of hP hK hS hA hZ hU hW⟩⟩ rfl rfl hl.1 rfl (lv_room (Nat.le_of_ble_eq_true rfl)) dX10_put_7 ⟨Nat.le_of_ble_eq_true rfl, Nat.le_of_ble_eq_true rfl⟩) hS (fun q _ h => h) (fun q h => h) (fun r10 τ9 t H locs ht hvm hw hB hz hk hS => ?_)
  obtain ⟨hF, hN9⟩ := hw
  have hP : PM dC dI ac A ad τ9 H := tw_back hB ht
  have hN : gN τ9 = gN τ0 := hN9.trans hN
  refine lv_if_eq (tgt := 37) hx hb dX10_put_10 (by decide) (fun c11 => ?_) (fun c11 => ?_)
  · have hF := hF.1 c11
    refine lv_iconst (v := 0) hx hb dX10_put_37 (by decide) ?_
    exact W.iret (v := (0 : Int32)) hx hb hr (fun t ht hW => ⟨⟨((0 : Int32)), τ9, rfl, ⟨hF, hN⟩, tw_at hP ht⟩, hS.F ht⟩) hS.2.2 dX10_put_38
  · have hF := hF.2 c11
    refine lv_aload_n hx hb dX10_put_13 rfl (lv_at hl 0 rfl) ?_
    refine lv_iload_n hx hb dX10_put_14 rfl (lv_at hl 2 rfl) ?_
    refine lv_iconst (v := 2) hx hb dX10_put_15 (by decide) ?_
    refine va_calli (va_runV (As := [.int x2, .int ((2 : Int32))]) (rest := []) ⟨hx, hb, hml, hown, hts⟩ (mX10_isLot l dC dI ac sa A ad τ9 k0 x2 ((2 : Int32)) _ hF (tw_lt hk0 (congrFun hN 0))) (cwV 2 hts gX10_put_X10_isLot rfl rfl rfl (by decide +kernel) ⟨Nat.le_of_ble_eq_true rfl, Nat.le_of_ble_eq_true rfl⟩) ⟨BM.blind, tw_recv hK hP (by decide) (tw_lt hk0 (congrFun hN 0)) rfl rfl, fun U hU hW => ⟨rfl, BM.of hP hK hS hA hZ hU hW⟩⟩ rfl rfl hl.1 rfl (lv_room (Nat.le_of_ble_eq_true rfl)) dX10_put_16 ⟨Nat.le_of_ble_eq_true rfl, Nat.le_of_ble_eq_true rfl⟩) hS (fun q _ h => h) (fun q h => h) (fun r13 τ12 t H locs ht hvm hw hB hz hk hS => ?_)
    obtain ⟨hF, hN9⟩ := hw
    have hP : PM dC dI ac A ad τ12 H := tw_back hB ht
    have hN : gN τ12 = gN τ0 := hN9.trans hN
    refine lv_if_eq (tgt := 37) hx hb dX10_put_19 (by decide) (fun c14 => ?_) (fun c14 => ?_)
    · have hF := hF.1 c14
      refine lv_iconst (v := 0) hx hb dX10_put_37 (by decide) ?_
      exact W.iret (v := (0 : Int32)) hx hb hr (fun t ht hW => ⟨⟨((0 : Int32)), τ12, rfl, ⟨hF, hN⟩, tw_at hP ht⟩, hS.F ht⟩) hS.2.2 dX10_put_38
    · have hF := hF.2 c14
      refine lv_aload_n hx hb dX10_put_22 rfl (lv_at hl 0 rfl) ?_
      refine lv_iload_n hx hb dX10_put_23 rfl (lv_at hl 3 rfl) ?_
      refine lv_iconst (v := 1) hx hb dX10_put_24 (by decide) ?_
      refine lv_bipush (v := 12) hx hb dX10_put_25 (by decide) ?_
      refine va_calli (va_runS (As := [.int x3, .int ((1 : Int32)), .int ((12 : Int32))]) (rest := [.ref (ad 0 k0)]) ⟨hx, hb, hml, hown, hts⟩ (mX10_within l dC dI ac sa A ad τ12 x3 ((1 : Int32)) ((12 : Int32)) _ hF ) (va_cwS 3 hts gX10_put_X10_within rfl rfl rfl (by decide +kernel) ⟨Nat.le_of_ble_eq_true rfl, Nat.le_of_ble_eq_true rfl⟩) ⟨BM.blind, fun U hU hW => ⟨rfl, BM.of hP hK hS hA hZ hU hW⟩⟩ rfl rfl hl.1 rfl (lv_room (Nat.le_of_ble_eq_true rfl)) dX10_put_27 ⟨Nat.le_of_ble_eq_true rfl, Nat.le_of_ble_eq_true rfl⟩) hS (fun q _ h => h) (fun q h => h) (fun r16 τ15 t H locs ht hvm hw hB hz hk hS => ?_)
      obtain ⟨hF, hN9⟩ := hw
      have hP : PM dC dI ac A ad τ15 H := tw_back hB ht
      have hN : gN τ15 = gN τ0 := hN9.trans hN
      refine lv_iconst (v := 3) hx hb dX10_put_30 (by decide) ?_
      refine va_calli (va_runV (As := [.int r16, .int ((3 : Int32))]) (rest := []) ⟨hx, hb, hml, hown, hts⟩ (mX10_may l dC dI ac sa A ad τ15 k0 r16 ((3 : Int32)) _ hF (tw_lt hk0 (congrFun hN 0))) (cwV 2 hts gX10_put_X10_may rfl rfl rfl (by decide +kernel) ⟨Nat.le_of_ble_eq_true rfl, Nat.le_of_ble_eq_true rfl⟩) ⟨BM.blind, tw_recv hK hP (by decide) (tw_lt hk0 (congrFun hN 0)) rfl rfl, fun U hU hW => ⟨rfl, BM.of hP hK hS hA hZ hU hW⟩⟩ rfl rfl hl.1 rfl (lv_room (Nat.le_of_ble_eq_true rfl)) dX10_put_31 ⟨Nat.le_of_ble_eq_true rfl, Nat.le_of_ble_eq_true rfl⟩) hS (fun q _ h => h) (fun q h => h) (fun r18 τ17 t H locs ht hvm hw hB hz hk hS => ?_)
      obtain ⟨hF, hN9⟩ := hw
      have hP : PM dC dI ac A ad τ17 H := tw_back hB ht
      have hN : gN τ17 = gN τ0 := hN9.trans hN
      refine lv_if_ne (tgt := 39) hx hb dX10_put_34 (by decide) (fun c19 => ?_) (fun c19 => ?_)
      · have hF := hF.1 c19
        refine lv_aload_n hx hb dX10_put_39 rfl (lv_at hl 0 rfl) ?_
        obtain ⟨o20, eo20, hF⟩ := hF
        have ho20 : o20 < gN τ0 123 := tw_lt (hP.2.2.2 0 k0 23 o20 (by decide) (tw_lt hk0 (congrFun hN 0)) eo20) (congrFun hN 123).symm
        refine tw_get (v := .ref (ad 123 o20)) hx hb hts (by decide +kernel) hown hK hP (by decide) (tw_lt hk0 (congrFun hN 0)) rfl rfl 23 (by decide) (hts (.fieldLink RX10 44 "WineCellarModel" "cellLot" "[I") (by decide +kernel)) (fun _ h9 => h9) (show some (va_rf ((gR τ17 0 k0 23).map (ad 123))) = some (.ref (ad 123 o20)) by rw [eo20]; rfl) dX10_put_40 ?_
        refine lv_iload_n hx hb dX10_put_43 rfl (lv_at hl 1 rfl) ?_
        obtain ⟨hi21, hF⟩ := hF
        refine tw_iald hx hb hK hP (by decide) (tw_lt ho20 (congrFun hN 123)) rfl 0 rfl hi21 dX10_put_44 ?_
        refine lv_iconst (v := (-1)) hx hb dX10_put_45 (by decide) ?_
        refine lv_icmp_eq (tgt := 61) hx hb dX10_put_46 (by decide) (fun c22 => ?_) (fun c22 => ?_)
        · have hF := hF.1 c22
          exact j61 τ17 k0 hk0 x1 x2 x3 _ _ _ hF hP hN hS (lv_sub hl [0, 1, 2, 3] rfl)
        · have hF := hF.2 c22
          refine lv_aload_n hx hb dX10_put_49 rfl (lv_at hl 0 rfl) ?_
          obtain ⟨o23, eo23, hF⟩ := hF
          have ho23 : o23 < gN τ0 123 := tw_lt (hP.2.2.2 0 k0 23 o23 (by decide) (tw_lt hk0 (congrFun hN 0)) eo23) (congrFun hN 123).symm
          refine tw_get (v := .ref (ad 123 o23)) hx hb hts (by decide +kernel) hown hK hP (by decide) (tw_lt hk0 (congrFun hN 0)) rfl rfl 23 (by decide) (hts (.fieldLink RX10 44 "WineCellarModel" "cellLot" "[I") (by decide +kernel)) (fun _ h9 => h9) (show some (va_rf ((gR τ17 0 k0 23).map (ad 123))) = some (.ref (ad 123 o23)) by rw [eo23]; rfl) dX10_put_50 ?_
          refine lv_iload_n hx hb dX10_put_53 rfl (lv_at hl 1 rfl) ?_
          obtain ⟨hi24, hF⟩ := hF
          refine tw_iald hx hb hK hP (by decide) (tw_lt ho23 (congrFun hN 123)) rfl 0 rfl hi24 dX10_put_54 ?_
          refine lv_iload_n hx hb dX10_put_55 rfl (lv_at hl 2 rfl) ?_
          refine lv_icmp_eq (tgt := 61) hx hb dX10_put_56 (by decide) (fun c25 => ?_) (fun c25 => ?_)
          · have hF := hF.1 c25
            exact j61 τ17 k0 hk0 x1 x2 x3 _ _ _ hF hP hN hS (lv_sub hl [0, 1, 2, 3] rfl)
          · have hF := hF.2 c25
            refine lv_iconst (v := (-1)) hx hb dX10_put_59 (by decide) ?_
            exact W.iret (v := (-1 : Int32)) hx hb hr (fun t ht hW => ⟨⟨((-1 : Int32)), τ17, rfl, ⟨hF, hN⟩, tw_at hP ht⟩, hS.F ht⟩) hS.2.2 dX10_put_60
      · have hF := hF.2 c19
        refine lv_iconst (v := 0) hx hb dX10_put_37 (by decide) ?_
        exact W.iret (v := (0 : Int32)) hx hb hr (fun t ht hW => ⟨⟨((0 : Int32)), τ17, rfl, ⟨hF, hN⟩, tw_at hP ht⟩, hS.F ht⟩) hS.2.2 dX10_put_38
def J_X10_move_90 (τ : tw_T) (p0 : Nat) (u1 : Int32) (u2 : Int32) (u3 : Int32) (u4 : Int32) (Q : Int32 → tw_T → Prop) : Prop := ∃ o1 : Nat, gR τ 0 p0 24 = some o1 ∧ (vp_in u2 30 ∧ (((((gI τ 124 o1 u2.toNatClampNeg) + u3) ≤ ((12 : Int32)) → (F_X10_adds τ p0 u1 u4 (-u3) (fun (τ4 : tw_T) => (F_X10_adds τ4 p0 u2 u4 u3 (fun (τ5 : tw_T) => (∃ o6 : Nat, gR τ5 0 p0 24 = some o6 ∧ (vp_in u2 30 ∧ (Q (gI τ5 124 o6 u2.toNatClampNeg) τ5)))))))) ∧ (¬ ((gI τ 124 o1 u2.toNatClampNeg) + u3) ≤ ((12 : Int32)) → (Q ((-3 : Int32)) τ)))))
def J_X10_move_37 (τ : tw_T) (p0 : Nat) (u1 : Int32) (u2 : Int32) (u3 : Int32) (y0 : Int32) (q1 : Nat) (Q : Int32 → tw_T → Prop) : Prop := F_X10_may τ q1 y0 ((2 : Int32)) (fun (r9 : Int32) (τ8 : tw_T) => (((¬ r9 = 0 → (∃ o11 : Nat, gR τ8 0 p0 24 = some o11 ∧ (vp_in u1 30 ∧ (((u3 ≤ (gI τ8 124 o11 u1.toNatClampNeg) → (∃ o14 : Nat, gR τ8 0 p0 23 = some o14 ∧ (vp_in u1 30 ∧ (∀ z16 : Int32, z16 = gI τ8 123 o14 u1.toNatClampNeg → (∃ o17 : Nat, gR τ8 0 p0 23 = some o17 ∧ (vp_in u2 30 ∧ ((((gI τ8 123 o17 u2.toNatClampNeg) = ((-1 : Int32)) → (J_X10_move_90 τ8 p0 u1 u2 u3 z16 Q)) ∧ (¬ (gI τ8 123 o17 u2.toNatClampNeg) = ((-1 : Int32)) → (∃ o20 : Nat, gR τ8 0 p0 23 = some o20 ∧ (vp_in u2 30 ∧ ((((gI τ8 123 o20 u2.toNatClampNeg) = z16 → (J_X10_move_90 τ8 p0 u1 u2 u3 z16 Q)) ∧ (¬ (gI τ8 123 o20 u2.toNatClampNeg) = z16 → (Q ((-2 : Int32)) τ8))))))))))))))) ∧ (¬ u3 ≤ (gI τ8 124 o11 u1.toNatClampNeg) → (Q ((-1 : Int32)) τ8))))))) ∧ (r9 = 0 → (Q ((0 : Int32)) τ8)))))
def J_X10_move_36 (τ : tw_T) (p0 : Nat) (u1 : Int32) (u2 : Int32) (u3 : Int32) (q0 : Nat) (Q : Int32 → tw_T → Prop) : Prop := J_X10_move_37 τ p0 u1 u2 u3 ((0 : Int32)) q0 Q
def F_X10_move (τ0 : tw_T) (k0 : Nat) (x1 : Int32) (x2 : Int32) (x3 : Int32) (Q : Int32 → tw_T → Prop) : Prop := ∀ τ23 : tw_T, τ23 = sI τ0 0 k0 0 ((0 : Int32)) → (F_X10_isCell τ23 k0 x1 (fun (r25 : Int32) (τ24 : tw_T) => (((r25 = 0 → (Q ((0 : Int32)) τ24)) ∧ (¬ r25 = 0 → (F_X10_isCell τ24 k0 x2 (fun (r28 : Int32) (τ27 : tw_T) => (((r28 = 0 → (Q ((0 : Int32)) τ27)) ∧ (¬ r28 = 0 → (((x1 = x2 → (J_X10_move_36 τ27 k0 x1 x2 x3 k0 Q)) ∧ (¬ x1 = x2 → (((x3 < ((1 : Int32)) → (J_X10_move_36 τ27 k0 x1 x2 x3 k0 Q)) ∧ (¬ x3 < ((1 : Int32)) → (J_X10_move_37 τ27 k0 x1 x2 x3 ((1 : Int32)) k0 Q)))))))))))))))))
def rmX10_move : Room := { frames := 2, cells := 0, slots := 0, locals := 43 }
set_option maxHeartbeats 4000000 in
set_option maxRecDepth 100000 in
theorem mX10_move (l : Launch) (dC : Nat → ClassId) (dI : Nat → Nat → Nat) (ac : Nat → ClassId) (sa : Nat → Nat) (A : Nat → Prop) (ad : Nat → Nat → Nat) (τ0 : tw_T) (k0 : Nat) (x1 : Int32) (x2 : Int32) (x3 : Int32) (Q : Int32 → tw_T → Prop) (hF : F_X10_move τ0 k0 x1 x2 x3 Q) (hk0 : k0 < gN τ0 0) : Met l yX10_move wsX10_move rmX10_move (va_Pc [.ref (ad 0 k0), .int x1, .int x2, .int x3] (BM dC dI ac sa A ad τ0)) (va_Qi (fun r (u : tw_T) => Q r u ∧ gN u = gN τ0) (fun u t => PM dC dI ac A ad u t.heap) A) 0 0 A := by
  refine Met.ofW (cc := cX10_move) (maxL := 5) (ret := (some .int)) (by decide) rfl ?_
  intro p e s m args below meth c s₁ B hml hv
  obtain ⟨rfl, hP, hK, hA, hZ⟩ := hv
  have hx := B.exec
  have hb := B.bytes
  have hr := B.returns
  have hts := atoms_spec (ws := wsX10_move) B.pre
  have hown : s.vm.findClass RX10 = some m.cls := findClass_of_methodNamed B.named
  have hlocks := B.notSynchronized
  have hS : va_S A s.heap s.heap [] := va_S.rf
  have hN : gN τ0 = gN τ0 := rfl
  have hl := lv_entry ([.ref (ad 0 k0), .int x1, .int x2, .int x3]) (n := 5) (Nat.le_of_ble_eq_true rfl)
  rw [lg_entry_eq]
  generalize (lg_sl ([.ref (ad 0 k0), .int x1, .int x2, .int x3]) ++ List.replicate (5 - (lg_sl ([.ref (ad 0 k0), .int x1, .int x2, .int x3])).length) Slot.unset).toArray = ls at hl ⊢
  have hl : lv_has ls 5 [(0, .ref (ad 0 k0)), (1, .int x1), (2, .int x2), (3, .int x3)] := hl
  unfold F_X10_move at hF
  have j90 : ∀ (τ : tw_T) (p0 : Nat) (hp0 : p0 < gN τ0 0) (u1 : Int32) (u2 : Int32) (u3 : Int32) (u4 : Int32) (H : Heap) (locs : List Loc) (ls : Array Slot), J_X10_move_90 τ p0 u1 u2 u3 u4 Q → PM dC dI ac A ad τ H → gN τ = gN τ0 → va_S A s.heap H locs → lv_has ls 5 [(0, .ref (ad 0 p0)), (1, .int u1), (2, .int u2), (3, .int u3), (4, .int u4)] → W p l e rmX10_move s m ([.ref (ad 0 k0), .int x1, .int x2, .int x3] : List Value).toArray below meth c H locs 0 0 (MQ below (va_Qi (fun r (u : tw_T) => Q r u ∧ gN u = gN τ0) (fun u t => PM dC dI ac A ad u t.heap) A) ([.ref (ad 0 k0), .int x1, .int x2, .int x3] : List Value).toArray s 0 0 A) (F0 m 90 ls []) := by
    intro τ p0 hp0 u1 u2 u3 u4 H locs ls hF hP hN hS hl
    unfold J_X10_move_90 at hF
    refine lv_aload_n hx hb dX10_move_90 rfl (lv_at hl 0 rfl) ?_
    obtain ⟨o1, eo1, hF⟩ := hF
    have ho1 : o1 < gN τ0 124 := tw_lt (hP.2.2.2 0 p0 24 o1 (by decide) (tw_lt hp0 (congrFun hN 0)) eo1) (congrFun hN 124).symm
    refine tw_get (v := .ref (ad 124 o1)) hx hb hts (by decide +kernel) hown hK hP (by decide) (tw_lt hp0 (congrFun hN 0)) rfl rfl 24 (by decide) (hts (.fieldLink RX10 47 "WineCellarModel" "cellMany" "[I") (by decide +kernel)) (fun _ h9 => h9) (show some (va_rf ((gR τ 0 p0 24).map (ad 124))) = some (.ref (ad 124 o1)) by rw [eo1]; rfl) dX10_move_91 ?_
    refine lv_iload_n hx hb dX10_move_94 rfl (lv_at hl 2 rfl) ?_
    obtain ⟨hi2, hF⟩ := hF
    refine tw_iald hx hb hK hP (by decide) (tw_lt ho1 (congrFun hN 124)) rfl 0 rfl hi2 dX10_move_95 ?_
    refine lv_iload_n hx hb dX10_move_96 rfl (lv_at hl 3 rfl) ?_
    refine lv_iadd hx hb dX10_move_97 ?_
    refine lv_bipush (v := 12) hx hb dX10_move_98 (by decide) ?_
    refine lv_icmp_le (tgt := 106) hx hb dX10_move_100 (by decide) (fun c3 => ?_) (fun c3 => ?_)
    · have hF := hF.1 c3
      refine lv_aload_n hx hb dX10_move_106 rfl (lv_at hl 0 rfl) ?_
      refine lv_iload_n hx hb dX10_move_107 rfl (lv_at hl 1 rfl) ?_
      refine lv_iload hx hb dX10_move_108 (lv_at hl 4 rfl) ?_
      refine lv_iload_n hx hb dX10_move_110 rfl (lv_at hl 3 rfl) ?_
      refine lv_ineg hx hb dX10_move_111 ?_
      refine va_callv (va_runV (As := [.int u1, .int u4, .int (-u3)]) (rest := []) ⟨hx, hb, hml, hown, hts⟩ (mX10_adds l dC dI ac sa A ad τ p0 u1 u4 (-u3) _ hF (tw_lt hp0 (congrFun hN 0))) (cwV 3 hts gX10_move_X10_adds rfl rfl rfl (by decide +kernel) ⟨Nat.le_of_ble_eq_true rfl, Nat.le_of_ble_eq_true rfl⟩) ⟨BM.blind, tw_recv hK hP (by decide) (tw_lt hp0 (congrFun hN 0)) rfl rfl, fun U hU hW => ⟨rfl, BM.of hP hK hS hA hZ hU hW⟩⟩ rfl rfl hl.1 rfl (lv_room (Nat.le_of_ble_eq_true rfl)) dX10_move_112 ⟨Nat.le_of_ble_eq_true rfl, Nat.le_of_ble_eq_true rfl⟩) hS (fun q _ h => h) (fun q h => h) (fun τ4 t H locs ht hvm hw hB hz hk hS => ?_)
      obtain ⟨hF, hN9⟩ := hw
      have hP : PM dC dI ac A ad τ4 H := tw_back hB ht
      have hN : gN τ4 = gN τ0 := hN9.trans hN
      refine lv_aload_n hx hb dX10_move_115 rfl (lv_at hl 0 rfl) ?_
      refine lv_iload_n hx hb dX10_move_116 rfl (lv_at hl 2 rfl) ?_
      refine lv_iload hx hb dX10_move_117 (lv_at hl 4 rfl) ?_
      refine lv_iload_n hx hb dX10_move_119 rfl (lv_at hl 3 rfl) ?_
      refine va_callv (va_runV (As := [.int u2, .int u4, .int u3]) (rest := []) ⟨hx, hb, hml, hown, hts⟩ (mX10_adds l dC dI ac sa A ad τ4 p0 u2 u4 u3 _ hF (tw_lt hp0 (congrFun hN 0))) (cwV 3 hts gX10_move_X10_adds rfl rfl rfl (by decide +kernel) ⟨Nat.le_of_ble_eq_true rfl, Nat.le_of_ble_eq_true rfl⟩) ⟨BM.blind, tw_recv hK hP (by decide) (tw_lt hp0 (congrFun hN 0)) rfl rfl, fun U hU hW => ⟨rfl, BM.of hP hK hS hA hZ hU hW⟩⟩ rfl rfl hl.1 rfl (lv_room (Nat.le_of_ble_eq_true rfl)) dX10_move_120 ⟨Nat.le_of_ble_eq_true rfl, Nat.le_of_ble_eq_true rfl⟩) hS (fun q _ h => h) (fun q h => h) (fun τ5 t H locs ht hvm hw hB hz hk hS => ?_)
      obtain ⟨hF, hN9⟩ := hw
      have hP : PM dC dI ac A ad τ5 H := tw_back hB ht
      have hN : gN τ5 = gN τ0 := hN9.trans hN
      refine lv_aload_n hx hb dX10_move_123 rfl (lv_at hl 0 rfl) ?_
      obtain ⟨o6, eo6, hF⟩ := hF
      have ho6 : o6 < gN τ0 124 := tw_lt (hP.2.2.2 0 p0 24 o6 (by decide) (tw_lt hp0 (congrFun hN 0)) eo6) (congrFun hN 124).symm
      refine tw_get (v := .ref (ad 124 o6)) hx hb hts (by decide +kernel) hown hK hP (by decide) (tw_lt hp0 (congrFun hN 0)) rfl rfl 24 (by decide) (hts (.fieldLink RX10 47 "WineCellarModel" "cellMany" "[I") (by decide +kernel)) (fun _ h9 => h9) (show some (va_rf ((gR τ5 0 p0 24).map (ad 124))) = some (.ref (ad 124 o6)) by rw [eo6]; rfl) dX10_move_124 ?_
      refine lv_iload_n hx hb dX10_move_127 rfl (lv_at hl 2 rfl) ?_
      obtain ⟨hi7, hF⟩ := hF
      refine tw_iald hx hb hK hP (by decide) (tw_lt ho6 (congrFun hN 124)) rfl 0 rfl hi7 dX10_move_128 ?_
      exact W.iret (v := gI τ5 124 o6 u2.toNatClampNeg) hx hb hr (fun t ht hW => ⟨⟨(gI τ5 124 o6 u2.toNatClampNeg), τ5, rfl, ⟨hF, hN⟩, tw_at hP ht⟩, hS.F ht⟩) hS.2.2 dX10_move_129
    · have hF := hF.2 c3
      refine lv_bipush (v := (-3)) hx hb dX10_move_103 (by decide) ?_
      exact W.iret (v := (-3 : Int32)) hx hb hr (fun t ht hW => ⟨⟨((-3 : Int32)), τ, rfl, ⟨hF, hN⟩, tw_at hP ht⟩, hS.F ht⟩) hS.2.2 dX10_move_105
  have j37 : ∀ (τ : tw_T) (p0 : Nat) (hp0 : p0 < gN τ0 0) (u1 : Int32) (u2 : Int32) (u3 : Int32) (y0 : Int32) (q1 : Nat) (hq1 : q1 < gN τ0 0) (H : Heap) (locs : List Loc) (ls : Array Slot), J_X10_move_37 τ p0 u1 u2 u3 y0 q1 Q → PM dC dI ac A ad τ H → gN τ = gN τ0 → va_S A s.heap H locs → lv_has ls 5 [(0, .ref (ad 0 p0)), (1, .int u1), (2, .int u2), (3, .int u3)] → W p l e rmX10_move s m ([.ref (ad 0 k0), .int x1, .int x2, .int x3] : List Value).toArray below meth c H locs 0 0 (MQ below (va_Qi (fun r (u : tw_T) => Q r u ∧ gN u = gN τ0) (fun u t => PM dC dI ac A ad u t.heap) A) ([.ref (ad 0 k0), .int x1, .int x2, .int x3] : List Value).toArray s 0 0 A) (F0 m 37 ls [.int y0, .ref (ad 0 q1)]) := by
    intro τ p0 hp0 u1 u2 u3 y0 q1 hq1 H locs ls hF hP hN hS hl
    unfold J_X10_move_37 at hF
    refine lv_iconst (v := 2) hx hb dX10_move_37 (by decide) ?_
    refine va_calli (va_runV (As := [.int y0, .int ((2 : Int32))]) (rest := []) ⟨hx, hb, hml, hown, hts⟩ (mX10_may l dC dI ac sa A ad τ q1 y0 ((2 : Int32)) _ hF (tw_lt hq1 (congrFun hN 0))) (cwV 2 hts gX10_move_X10_may rfl rfl rfl (by decide +kernel) ⟨Nat.le_of_ble_eq_true rfl, Nat.le_of_ble_eq_true rfl⟩) ⟨BM.blind, tw_recv hK hP (by decide) (tw_lt hq1 (congrFun hN 0)) rfl rfl, fun U hU hW => ⟨rfl, BM.of hP hK hS hA hZ hU hW⟩⟩ rfl rfl hl.1 rfl (lv_room (Nat.le_of_ble_eq_true rfl)) dX10_move_38 ⟨Nat.le_of_ble_eq_true rfl, Nat.le_of_ble_eq_true rfl⟩) hS (fun q _ h => h) (fun q h => h) (fun r9 τ8 t H locs ht hvm hw hB hz hk hS => ?_)
    obtain ⟨hF, hN9⟩ := hw
    have hP : PM dC dI ac A ad τ8 H := tw_back hB ht
    have hN : gN τ8 = gN τ0 := hN9.trans hN
    refine lv_if_ne (tgt := 46) hx hb dX10_move_41 (by decide) (fun c10 => ?_) (fun c10 => ?_)
    · have hF := hF.1 c10
      refine lv_aload_n hx hb dX10_move_46 rfl (lv_at hl 0 rfl) ?_
      obtain ⟨o11, eo11, hF⟩ := hF
      have ho11 : o11 < gN τ0 124 := tw_lt (hP.2.2.2 0 p0 24 o11 (by decide) (tw_lt hp0 (congrFun hN 0)) eo11) (congrFun hN 124).symm
      refine tw_get (v := .ref (ad 124 o11)) hx hb hts (by decide +kernel) hown hK hP (by decide) (tw_lt hp0 (congrFun hN 0)) rfl rfl 24 (by decide) (hts (.fieldLink RX10 47 "WineCellarModel" "cellMany" "[I") (by decide +kernel)) (fun _ h9 => h9) (show some (va_rf ((gR τ8 0 p0 24).map (ad 124))) = some (.ref (ad 124 o11)) by rw [eo11]; rfl) dX10_move_47 ?_
      refine lv_iload_n hx hb dX10_move_50 rfl (lv_at hl 1 rfl) ?_
      obtain ⟨hi12, hF⟩ := hF
      refine tw_iald hx hb hK hP (by decide) (tw_lt ho11 (congrFun hN 124)) rfl 0 rfl hi12 dX10_move_51 ?_
      refine lv_iload_n hx hb dX10_move_52 rfl (lv_at hl 3 rfl) ?_
      refine lv_icmp_ge (tgt := 58) hx hb dX10_move_53 (by decide) (fun c13 => ?_) (fun c13 => ?_)
      · have hF := hF.1 c13
        refine lv_aload_n hx hb dX10_move_58 rfl (lv_at hl 0 rfl) ?_
        obtain ⟨o14, eo14, hF⟩ := hF
        have ho14 : o14 < gN τ0 123 := tw_lt (hP.2.2.2 0 p0 23 o14 (by decide) (tw_lt hp0 (congrFun hN 0)) eo14) (congrFun hN 123).symm
        refine tw_get (v := .ref (ad 123 o14)) hx hb hts (by decide +kernel) hown hK hP (by decide) (tw_lt hp0 (congrFun hN 0)) rfl rfl 23 (by decide) (hts (.fieldLink RX10 44 "WineCellarModel" "cellLot" "[I") (by decide +kernel)) (fun _ h9 => h9) (show some (va_rf ((gR τ8 0 p0 23).map (ad 123))) = some (.ref (ad 123 o14)) by rw [eo14]; rfl) dX10_move_59 ?_
        refine lv_iload_n hx hb dX10_move_62 rfl (lv_at hl 1 rfl) ?_
        obtain ⟨hi15, hF⟩ := hF
        refine tw_iald hx hb hK hP (by decide) (tw_lt ho14 (congrFun hN 123)) rfl 0 rfl hi15 dX10_move_63 ?_
        refine lv_topi (fun z16 ez16 => ?_)
        have hF := hF z16 ez16
        refine lv_istore (lv' := [(4, .int z16), (0, .ref (ad 0 p0)), (1, .int u1), (2, .int u2), (3, .int u3)]) hx hb dX10_move_64 hl (by decide) rfl (fun ls hl => ?_)
        refine lv_aload_n hx hb dX10_move_66 rfl (lv_at hl 1 rfl) ?_
        obtain ⟨o17, eo17, hF⟩ := hF
        have ho17 : o17 < gN τ0 123 := tw_lt (hP.2.2.2 0 p0 23 o17 (by decide) (tw_lt hp0 (congrFun hN 0)) eo17) (congrFun hN 123).symm
        refine tw_get (v := .ref (ad 123 o17)) hx hb hts (by decide +kernel) hown hK hP (by decide) (tw_lt hp0 (congrFun hN 0)) rfl rfl 23 (by decide) (hts (.fieldLink RX10 44 "WineCellarModel" "cellLot" "[I") (by decide +kernel)) (fun _ h9 => h9) (show some (va_rf ((gR τ8 0 p0 23).map (ad 123))) = some (.ref (ad 123 o17)) by rw [eo17]; rfl) dX10_move_67 ?_
        refine lv_iload_n hx hb dX10_move_70 rfl (lv_at hl 3 rfl) ?_
        obtain ⟨hi18, hF⟩ := hF
        refine tw_iald hx hb hK hP (by decide) (tw_lt ho17 (congrFun hN 123)) rfl 0 rfl hi18 dX10_move_71 ?_
        refine lv_iconst (v := (-1)) hx hb dX10_move_72 (by decide) ?_
        refine lv_icmp_eq (tgt := 90) hx hb dX10_move_73 (by decide) (fun c19 => ?_) (fun c19 => ?_)
        · have hF := hF.1 c19
          exact j90 τ8 p0 hp0 u1 u2 u3 z16 _ _ _ hF hP hN hS (lv_sub hl [1, 2, 3, 4, 0] rfl)
        · have hF := hF.2 c19
          refine lv_aload_n hx hb dX10_move_76 rfl (lv_at hl 1 rfl) ?_
          obtain ⟨o20, eo20, hF⟩ := hF
          have ho20 : o20 < gN τ0 123 := tw_lt (hP.2.2.2 0 p0 23 o20 (by decide) (tw_lt hp0 (congrFun hN 0)) eo20) (congrFun hN 123).symm
          refine tw_get (v := .ref (ad 123 o20)) hx hb hts (by decide +kernel) hown hK hP (by decide) (tw_lt hp0 (congrFun hN 0)) rfl rfl 23 (by decide) (hts (.fieldLink RX10 44 "WineCellarModel" "cellLot" "[I") (by decide +kernel)) (fun _ h9 => h9) (show some (va_rf ((gR τ8 0 p0 23).map (ad 123))) = some (.ref (ad 123 o20)) by rw [eo20]; rfl) dX10_move_77 ?_
          refine lv_iload_n hx hb dX10_move_80 rfl (lv_at hl 3 rfl) ?_
          obtain ⟨hi21, hF⟩ := hF
          refine tw_iald hx hb hK hP (by decide) (tw_lt ho20 (congrFun hN 123)) rfl 0 rfl hi21 dX10_move_81 ?_
          refine lv_iload hx hb dX10_move_82 (lv_at hl 0 rfl) ?_
          refine lv_icmp_eq (tgt := 90) hx hb dX10_move_84 (by decide) (fun c22 => ?_) (fun c22 => ?_)
          · have hF := hF.1 c22
            exact j90 τ8 p0 hp0 u1 u2 u3 z16 _ _ _ hF hP hN hS (lv_sub hl [1, 2, 3, 4, 0] rfl)
          · have hF := hF.2 c22
            refine lv_bipush (v := (-2)) hx hb dX10_move_87 (by decide) ?_
            exact W.iret (v := (-2 : Int32)) hx hb hr (fun t ht hW => ⟨⟨((-2 : Int32)), τ8, rfl, ⟨hF, hN⟩, tw_at hP ht⟩, hS.F ht⟩) hS.2.2 dX10_move_89
      · have hF := hF.2 c13
        refine lv_iconst (v := (-1)) hx hb dX10_move_56 (by decide) ?_
        exact W.iret (v := (-1 : Int32)) hx hb hr (fun t ht hW => ⟨⟨((-1 : Int32)), τ8, rfl, ⟨hF, hN⟩, tw_at hP ht⟩, hS.F ht⟩) hS.2.2 dX10_move_57
    · have hF := hF.2 c10
      refine lv_iconst (v := 0) hx hb dX10_move_44 (by decide) ?_
      exact W.iret (v := (0 : Int32)) hx hb hr (fun t ht hW => ⟨⟨((0 : Int32)), τ8, rfl, ⟨hF, hN⟩, tw_at hP ht⟩, hS.F ht⟩) hS.2.2 dX10_move_45
  have j36 : ∀ (τ : tw_T) (p0 : Nat) (hp0 : p0 < gN τ0 0) (u1 : Int32) (u2 : Int32) (u3 : Int32) (q0 : Nat) (hq0 : q0 < gN τ0 0) (H : Heap) (locs : List Loc) (ls : Array Slot), J_X10_move_36 τ p0 u1 u2 u3 q0 Q → PM dC dI ac A ad τ H → gN τ = gN τ0 → va_S A s.heap H locs → lv_has ls 5 [(0, .ref (ad 0 p0)), (1, .int u1), (2, .int u2), (3, .int u3)] → W p l e rmX10_move s m ([.ref (ad 0 k0), .int x1, .int x2, .int x3] : List Value).toArray below meth c H locs 0 0 (MQ below (va_Qi (fun r (u : tw_T) => Q r u ∧ gN u = gN τ0) (fun u t => PM dC dI ac A ad u t.heap) A) ([.ref (ad 0 k0), .int x1, .int x2, .int x3] : List Value).toArray s 0 0 A) (F0 m 36 ls [.ref (ad 0 q0)]) := by
    intro τ p0 hp0 u1 u2 u3 q0 hq0 H locs ls hF hP hN hS hl
    unfold J_X10_move_36 at hF
    refine lv_iconst (v := 0) hx hb dX10_move_36 (by decide) ?_
    exact j37 τ p0 hp0 u1 u2 u3 ((0 : Int32)) q0 hq0 _ _ _ hF hP hN hS (lv_sub hl [0, 1, 2, 3] rfl)
  refine lv_aload_n hx hb dX10_move_0 rfl (lv_at hl 0 rfl) ?_
  refine lv_iconst (v := 0) hx hb dX10_move_1 (by decide) ?_
  refine tw_put (τ' := sI τ0 0 k0 0 ((0 : Int32))) (ty := .int) hx hb hts (by decide +kernel) tyX10 tyX10_ok nmX10 hown hK hP hS (by decide) hk0 rfl rfl 0 (by decide) (hts (.fieldLink RX10 1 "WineCellarModel" "thrown" "I") (by decide +kernel)) (fun _ h9 => h9) rfl (by decide +kernel) rfl rfl (Nat.le_of_ble_eq_true rfl) dX10_move_2 (fun H1 ha ho => tw_updI hP (by decide) hk0 ha ho) (fun H locs hP hS => ?_)
  obtain ⟨τ23, eτ23⟩ : ∃ y : tw_T, y = sI τ0 0 k0 0 ((0 : Int32)) := ⟨_, rfl⟩
  have hF := hF τ23 eτ23
  rw [← eτ23] at hP
  have hN : gN τ23 = gN τ0 := by rw [eτ23]; exact hN
  refine lv_aload_n hx hb dX10_move_5 rfl (lv_at hl 0 rfl) ?_
  refine lv_iload_n hx hb dX10_move_6 rfl (lv_at hl 1 rfl) ?_
  refine va_calli (va_runV (As := [.int x1]) (rest := []) ⟨hx, hb, hml, hown, hts⟩ (mX10_isCell l dC dI ac sa A ad τ23 k0 x1 _ hF (tw_lt hk0 (congrFun hN 0))) (cwV 1 hts gX10_move_X10_isCell rfl rfl rfl (by decide +kernel) ⟨Nat.le_of_ble_eq_true rfl, Nat.le_of_ble_eq_true rfl⟩) ⟨BM.blind, tw_recv hK hP (by decide) (tw_lt hk0 (congrFun hN 0)) rfl rfl, fun U hU hW => ⟨rfl, BM.of hP hK hS hA hZ hU hW⟩⟩ rfl rfl hl.1 rfl (lv_room (Nat.le_of_ble_eq_true rfl)) dX10_move_7 ⟨Nat.le_of_ble_eq_true rfl, Nat.le_of_ble_eq_true rfl⟩) hS (fun q _ h => h) (fun q h => h) (fun r25 τ24 t H locs ht hvm hw hB hz hk hS => ?_)
  obtain ⟨hF, hN9⟩ := hw
  have hP : PM dC dI ac A ad τ24 H := tw_back hB ht
  have hN : gN τ24 = gN τ0 := hN9.trans hN
  refine lv_if_eq (tgt := 44) hx hb dX10_move_10 (by decide) (fun c26 => ?_) (fun c26 => ?_)
  · have hF := hF.1 c26
    refine lv_iconst (v := 0) hx hb dX10_move_44 (by decide) ?_
    exact W.iret (v := (0 : Int32)) hx hb hr (fun t ht hW => ⟨⟨((0 : Int32)), τ24, rfl, ⟨hF, hN⟩, tw_at hP ht⟩, hS.F ht⟩) hS.2.2 dX10_move_45
  · have hF := hF.2 c26
    refine lv_aload_n hx hb dX10_move_13 rfl (lv_at hl 0 rfl) ?_
    refine lv_iload_n hx hb dX10_move_14 rfl (lv_at hl 2 rfl) ?_
    refine va_calli (va_runV (As := [.int x2]) (rest := []) ⟨hx, hb, hml, hown, hts⟩ (mX10_isCell l dC dI ac sa A ad τ24 k0 x2 _ hF (tw_lt hk0 (congrFun hN 0))) (cwV 1 hts gX10_move_X10_isCell rfl rfl rfl (by decide +kernel) ⟨Nat.le_of_ble_eq_true rfl, Nat.le_of_ble_eq_true rfl⟩) ⟨BM.blind, tw_recv hK hP (by decide) (tw_lt hk0 (congrFun hN 0)) rfl rfl, fun U hU hW => ⟨rfl, BM.of hP hK hS hA hZ hU hW⟩⟩ rfl rfl hl.1 rfl (lv_room (Nat.le_of_ble_eq_true rfl)) dX10_move_15 ⟨Nat.le_of_ble_eq_true rfl, Nat.le_of_ble_eq_true rfl⟩) hS (fun q _ h => h) (fun q h => h) (fun r28 τ27 t H locs ht hvm hw hB hz hk hS => ?_)
    obtain ⟨hF, hN9⟩ := hw
    have hP : PM dC dI ac A ad τ27 H := tw_back hB ht
    have hN : gN τ27 = gN τ0 := hN9.trans hN
    refine lv_if_eq (tgt := 44) hx hb dX10_move_18 (by decide) (fun c29 => ?_) (fun c29 => ?_)
    · have hF := hF.1 c29
      refine lv_iconst (v := 0) hx hb dX10_move_44 (by decide) ?_
      exact W.iret (v := (0 : Int32)) hx hb hr (fun t ht hW => ⟨⟨((0 : Int32)), τ27, rfl, ⟨hF, hN⟩, tw_at hP ht⟩, hS.F ht⟩) hS.2.2 dX10_move_45
    · have hF := hF.2 c29
      refine lv_aload_n hx hb dX10_move_21 rfl (lv_at hl 0 rfl) ?_
      refine lv_iload_n hx hb dX10_move_22 rfl (lv_at hl 1 rfl) ?_
      refine lv_iload_n hx hb dX10_move_23 rfl (lv_at hl 2 rfl) ?_
      refine lv_icmp_eq (tgt := 36) hx hb dX10_move_24 (by decide) (fun c30 => ?_) (fun c30 => ?_)
      · have hF := hF.1 c30
        exact j36 τ27 k0 hk0 x1 x2 x3 k0 hk0 _ _ _ hF hP hN hS (lv_sub hl [0, 1, 2, 3] rfl)
      · have hF := hF.2 c30
        refine lv_iload_n hx hb dX10_move_27 rfl (lv_at hl 3 rfl) ?_
        refine lv_iconst (v := 1) hx hb dX10_move_28 (by decide) ?_
        refine lv_icmp_lt (tgt := 36) hx hb dX10_move_29 (by decide) (fun c31 => ?_) (fun c31 => ?_)
        · have hF := hF.1 c31
          exact j36 τ27 k0 hk0 x1 x2 x3 k0 hk0 _ _ _ hF hP hN hS (lv_sub hl [0, 1, 2, 3] rfl)
        · have hF := hF.2 c31
          refine lv_iconst (v := 1) hx hb dX10_move_32 (by decide) ?_
          refine lv_goto (tgt := 37) hx hb dX10_move_33 (by decide) ?_
          exact j37 τ27 k0 hk0 x1 x2 x3 ((1 : Int32)) k0 hk0 _ _ _ hF hP hN hS (lv_sub hl [0, 1, 2, 3] rfl)
def F_X10_cell (τ0 : tw_T) (k0 : Nat) (x1 : Int32) (x2 : Int32) (Q : Int32 → tw_T → Prop) : Prop := ∀ τ1 : tw_T, τ1 = sI τ0 0 k0 0 ((0 : Int32)) → (F_X10_isCell τ1 k0 x1 (fun (r3 : Int32) (τ2 : tw_T) => (((r3 = 0 → (Q ((0 : Int32)) τ2)) ∧ (¬ r3 = 0 → (F_X10_within τ2 x2 ((0 : Int32)) ((1 : Int32)) (fun (r6 : Int32) (τ5 : tw_T) => (F_X10_may τ5 k0 r6 ((2 : Int32)) (fun (r8 : Int32) (τ7 : tw_T) => (((¬ r8 = 0 → (((¬ x2 = 0 → (∃ o11 : Nat, gR τ7 0 k0 24 = some o11 ∧ (vp_in x1 30 ∧ (Q (gI τ7 124 o11 x1.toNatClampNeg) τ7)))) ∧ (x2 = 0 → (∃ o13 : Nat, gR τ7 0 k0 23 = some o13 ∧ (vp_in x1 30 ∧ (Q (gI τ7 123 o13 x1.toNatClampNeg) τ7))))))) ∧ (r8 = 0 → (Q ((0 : Int32)) τ7)))))))))))))
def rmX10_cell : Room := { frames := 2, cells := 0, slots := 0, locals := 43 }
set_option maxHeartbeats 4000000 in
set_option maxRecDepth 100000 in
theorem mX10_cell (l : Launch) (dC : Nat → ClassId) (dI : Nat → Nat → Nat) (ac : Nat → ClassId) (sa : Nat → Nat) (A : Nat → Prop) (ad : Nat → Nat → Nat) (τ0 : tw_T) (k0 : Nat) (x1 : Int32) (x2 : Int32) (Q : Int32 → tw_T → Prop) (hF : F_X10_cell τ0 k0 x1 x2 Q) (hk0 : k0 < gN τ0 0) : Met l yX10_cell wsX10_cell rmX10_cell (va_Pc [.ref (ad 0 k0), .int x1, .int x2] (BM dC dI ac sa A ad τ0)) (va_Qi (fun r (u : tw_T) => Q r u ∧ gN u = gN τ0) (fun u t => PM dC dI ac A ad u t.heap) A) 0 0 A := by
  refine Met.ofW (cc := cX10_cell) (maxL := 3) (ret := (some .int)) (by decide) rfl ?_
  intro p e s m args below meth c s₁ B hml hv
  obtain ⟨rfl, hP, hK, hA, hZ⟩ := hv
  have hx := B.exec
  have hb := B.bytes
  have hr := B.returns
  have hts := atoms_spec (ws := wsX10_cell) B.pre
  have hown : s.vm.findClass RX10 = some m.cls := findClass_of_methodNamed B.named
  have hlocks := B.notSynchronized
  have hS : va_S A s.heap s.heap [] := va_S.rf
  have hN : gN τ0 = gN τ0 := rfl
  have hl := lv_entry ([.ref (ad 0 k0), .int x1, .int x2]) (n := 3) (Nat.le_of_ble_eq_true rfl)
  rw [lg_entry_eq]
  generalize (lg_sl ([.ref (ad 0 k0), .int x1, .int x2]) ++ List.replicate (3 - (lg_sl ([.ref (ad 0 k0), .int x1, .int x2])).length) Slot.unset).toArray = ls at hl ⊢
  have hl : lv_has ls 3 [(0, .ref (ad 0 k0)), (1, .int x1), (2, .int x2)] := hl
  unfold F_X10_cell at hF
  refine lv_aload_n hx hb dX10_cell_0 rfl (lv_at hl 0 rfl) ?_
  refine lv_iconst (v := 0) hx hb dX10_cell_1 (by decide) ?_
  refine tw_put (τ' := sI τ0 0 k0 0 ((0 : Int32))) (ty := .int) hx hb hts (by decide +kernel) tyX10 tyX10_ok nmX10 hown hK hP hS (by decide) hk0 rfl rfl 0 (by decide) (hts (.fieldLink RX10 1 "WineCellarModel" "thrown" "I") (by decide +kernel)) (fun _ h9 => h9) rfl (by decide +kernel) rfl rfl (Nat.le_of_ble_eq_true rfl) dX10_cell_2 (fun H1 ha ho => tw_updI hP (by decide) hk0 ha ho) (fun H locs hP hS => ?_)
  obtain ⟨τ1, eτ1⟩ : ∃ y : tw_T, y = sI τ0 0 k0 0 ((0 : Int32)) := ⟨_, rfl⟩
  have hF := hF τ1 eτ1
  rw [← eτ1] at hP
  have hN : gN τ1 = gN τ0 := by rw [eτ1]; exact hN
  refine lv_aload_n hx hb dX10_cell_5 rfl (lv_at hl 0 rfl) ?_
  refine lv_iload_n hx hb dX10_cell_6 rfl (lv_at hl 1 rfl) ?_
  refine va_calli (va_runV (As := [.int x1]) (rest := []) ⟨hx, hb, hml, hown, hts⟩ (mX10_isCell l dC dI ac sa A ad τ1 k0 x1 _ hF (tw_lt hk0 (congrFun hN 0))) (cwV 1 hts gX10_cell_X10_isCell rfl rfl rfl (by decide +kernel) ⟨Nat.le_of_ble_eq_true rfl, Nat.le_of_ble_eq_true rfl⟩) ⟨BM.blind, tw_recv hK hP (by decide) (tw_lt hk0 (congrFun hN 0)) rfl rfl, fun U hU hW => ⟨rfl, BM.of hP hK hS hA hZ hU hW⟩⟩ rfl rfl hl.1 rfl (lv_room (Nat.le_of_ble_eq_true rfl)) dX10_cell_7 ⟨Nat.le_of_ble_eq_true rfl, Nat.le_of_ble_eq_true rfl⟩) hS (fun q _ h => h) (fun q h => h) (fun r3 τ2 t H locs ht hvm hw hB hz hk hS => ?_)
  obtain ⟨hF, hN9⟩ := hw
  have hP : PM dC dI ac A ad τ2 H := tw_back hB ht
  have hN : gN τ2 = gN τ0 := hN9.trans hN
  refine lv_if_eq (tgt := 27) hx hb dX10_cell_10 (by decide) (fun c4 => ?_) (fun c4 => ?_)
  · have hF := hF.1 c4
    refine lv_iconst (v := 0) hx hb dX10_cell_27 (by decide) ?_
    exact W.iret (v := (0 : Int32)) hx hb hr (fun t ht hW => ⟨⟨((0 : Int32)), τ2, rfl, ⟨hF, hN⟩, tw_at hP ht⟩, hS.F ht⟩) hS.2.2 dX10_cell_28
  · have hF := hF.2 c4
    refine lv_aload_n hx hb dX10_cell_13 rfl (lv_at hl 0 rfl) ?_
    refine lv_iload_n hx hb dX10_cell_14 rfl (lv_at hl 2 rfl) ?_
    refine lv_iconst (v := 0) hx hb dX10_cell_15 (by decide) ?_
    refine lv_iconst (v := 1) hx hb dX10_cell_16 (by decide) ?_
    refine va_calli (va_runS (As := [.int x2, .int ((0 : Int32)), .int ((1 : Int32))]) (rest := [.ref (ad 0 k0)]) ⟨hx, hb, hml, hown, hts⟩ (mX10_within l dC dI ac sa A ad τ2 x2 ((0 : Int32)) ((1 : Int32)) _ hF ) (va_cwS 3 hts gX10_cell_X10_within rfl rfl rfl (by decide +kernel) ⟨Nat.le_of_ble_eq_true rfl, Nat.le_of_ble_eq_true rfl⟩) ⟨BM.blind, fun U hU hW => ⟨rfl, BM.of hP hK hS hA hZ hU hW⟩⟩ rfl rfl hl.1 rfl (lv_room (Nat.le_of_ble_eq_true rfl)) dX10_cell_17 ⟨Nat.le_of_ble_eq_true rfl, Nat.le_of_ble_eq_true rfl⟩) hS (fun q _ h => h) (fun q h => h) (fun r6 τ5 t H locs ht hvm hw hB hz hk hS => ?_)
    obtain ⟨hF, hN9⟩ := hw
    have hP : PM dC dI ac A ad τ5 H := tw_back hB ht
    have hN : gN τ5 = gN τ0 := hN9.trans hN
    refine lv_iconst (v := 2) hx hb dX10_cell_20 (by decide) ?_
    refine va_calli (va_runV (As := [.int r6, .int ((2 : Int32))]) (rest := []) ⟨hx, hb, hml, hown, hts⟩ (mX10_may l dC dI ac sa A ad τ5 k0 r6 ((2 : Int32)) _ hF (tw_lt hk0 (congrFun hN 0))) (cwV 2 hts gX10_cell_X10_may rfl rfl rfl (by decide +kernel) ⟨Nat.le_of_ble_eq_true rfl, Nat.le_of_ble_eq_true rfl⟩) ⟨BM.blind, tw_recv hK hP (by decide) (tw_lt hk0 (congrFun hN 0)) rfl rfl, fun U hU hW => ⟨rfl, BM.of hP hK hS hA hZ hU hW⟩⟩ rfl rfl hl.1 rfl (lv_room (Nat.le_of_ble_eq_true rfl)) dX10_cell_21 ⟨Nat.le_of_ble_eq_true rfl, Nat.le_of_ble_eq_true rfl⟩) hS (fun q _ h => h) (fun q h => h) (fun r8 τ7 t H locs ht hvm hw hB hz hk hS => ?_)
    obtain ⟨hF, hN9⟩ := hw
    have hP : PM dC dI ac A ad τ7 H := tw_back hB ht
    have hN : gN τ7 = gN τ0 := hN9.trans hN
    refine lv_if_ne (tgt := 29) hx hb dX10_cell_24 (by decide) (fun c9 => ?_) (fun c9 => ?_)
    · have hF := hF.1 c9
      refine lv_iload_n hx hb dX10_cell_29 rfl (lv_at hl 2 rfl) ?_
      refine lv_if_ne (tgt := 42) hx hb dX10_cell_30 (by decide) (fun c10 => ?_) (fun c10 => ?_)
      · have hF := hF.1 c10
        refine lv_aload_n hx hb dX10_cell_42 rfl (lv_at hl 0 rfl) ?_
        obtain ⟨o11, eo11, hF⟩ := hF
        have ho11 : o11 < gN τ0 124 := tw_lt (hP.2.2.2 0 k0 24 o11 (by decide) (tw_lt hk0 (congrFun hN 0)) eo11) (congrFun hN 124).symm
        refine tw_get (v := .ref (ad 124 o11)) hx hb hts (by decide +kernel) hown hK hP (by decide) (tw_lt hk0 (congrFun hN 0)) rfl rfl 24 (by decide) (hts (.fieldLink RX10 47 "WineCellarModel" "cellMany" "[I") (by decide +kernel)) (fun _ h9 => h9) (show some (va_rf ((gR τ7 0 k0 24).map (ad 124))) = some (.ref (ad 124 o11)) by rw [eo11]; rfl) dX10_cell_43 ?_
        refine lv_iload_n hx hb dX10_cell_46 rfl (lv_at hl 1 rfl) ?_
        obtain ⟨hi12, hF⟩ := hF
        refine tw_iald hx hb hK hP (by decide) (tw_lt ho11 (congrFun hN 124)) rfl 0 rfl hi12 dX10_cell_47 ?_
        exact W.iret (v := gI τ7 124 o11 x1.toNatClampNeg) hx hb hr (fun t ht hW => ⟨⟨(gI τ7 124 o11 x1.toNatClampNeg), τ7, rfl, ⟨hF, hN⟩, tw_at hP ht⟩, hS.F ht⟩) hS.2.2 dX10_cell_48
      · have hF := hF.2 c10
        refine lv_aload_n hx hb dX10_cell_33 rfl (lv_at hl 0 rfl) ?_
        obtain ⟨o13, eo13, hF⟩ := hF
        have ho13 : o13 < gN τ0 123 := tw_lt (hP.2.2.2 0 k0 23 o13 (by decide) (tw_lt hk0 (congrFun hN 0)) eo13) (congrFun hN 123).symm
        refine tw_get (v := .ref (ad 123 o13)) hx hb hts (by decide +kernel) hown hK hP (by decide) (tw_lt hk0 (congrFun hN 0)) rfl rfl 23 (by decide) (hts (.fieldLink RX10 44 "WineCellarModel" "cellLot" "[I") (by decide +kernel)) (fun _ h9 => h9) (show some (va_rf ((gR τ7 0 k0 23).map (ad 123))) = some (.ref (ad 123 o13)) by rw [eo13]; rfl) dX10_cell_34 ?_
        refine lv_iload_n hx hb dX10_cell_37 rfl (lv_at hl 1 rfl) ?_
        obtain ⟨hi14, hF⟩ := hF
        refine tw_iald hx hb hK hP (by decide) (tw_lt ho13 (congrFun hN 123)) rfl 0 rfl hi14 dX10_cell_38 ?_
        refine lv_goto (tgt := 48) hx hb dX10_cell_39 (by decide) ?_
        exact W.iret (v := gI τ7 123 o13 x1.toNatClampNeg) hx hb hr (fun t ht hW => ⟨⟨(gI τ7 123 o13 x1.toNatClampNeg), τ7, rfl, ⟨hF, hN⟩, tw_at hP ht⟩, hS.F ht⟩) hS.2.2 dX10_cell_48
    · have hF := hF.2 c9
      refine lv_iconst (v := 0) hx hb dX10_cell_27 (by decide) ?_
      exact W.iret (v := (0 : Int32)) hx hb hr (fun t ht hW => ⟨⟨((0 : Int32)), τ7, rfl, ⟨hF, hN⟩, tw_at hP ht⟩, hS.F ht⟩) hS.2.2 dX10_cell_28
def J_X10_bottlesOf_31 (τ : tw_T) (p0 : Nat) (u1 : Int32) (u3 : Int32) (y0 : Int32) (y1 : Int32) (Q : Int32 → tw_T → Prop) (RC EX : tw_T → Int32 → Int32 → Prop) : Prop := ∀ z1 : Int32, z1 = y1 + y0 → (∀ z2 : Int32, z2 = u3 + (1 : Int32) → (RC τ z1 z2))
def L_X10_bottlesOf_4 (p0 : Nat) (u1 : Int32) (Q : Int32 → tw_T → Prop) (EX : tw_T → Int32 → Int32 → Prop) : Nat → tw_T → Int32 → Int32 → Prop
  | 0, _, _, _ => False
  | n + 1, τ, u2, u3 => ((((30 : Int32)) ≤ u3 → (EX τ u2 u3)) ∧ (¬ ((30 : Int32)) ≤ u3 → (∃ o4 : Nat, gR τ 0 p0 23 = some o4 ∧ (vp_in u3 30 ∧ (((¬ (gI τ 123 o4 u3.toNatClampNeg) = u1 → (J_X10_bottlesOf_31 τ p0 u1 u3 ((0 : Int32)) u2 Q (fun t v2 v3 => L_X10_bottlesOf_4 p0 u1 Q EX n t v2 v3) EX)) ∧ ((gI τ 123 o4 u3.toNatClampNeg) = u1 → (∃ o7 : Nat, gR τ 0 p0 24 = some o7 ∧ (vp_in u3 30 ∧ (J_X10_bottlesOf_31 τ p0 u1 u3 (gI τ 124 o7 u3.toNatClampNeg) u2 Q (fun t v2 v3 => L_X10_bottlesOf_4 p0 u1 Q EX n t v2 v3) EX))))))))))
def F_X10_bottlesOf (τ0 : tw_T) (k0 : Nat) (x1 : Int32) (Q : Int32 → tw_T → Prop) : Prop := ∃ n9 : Nat, L_X10_bottlesOf_4 k0 x1 Q (fun (τ10 : tw_T) (z11 : Int32) (z12 : Int32) => Q z11 τ10) n9 τ0 ((0 : Int32)) ((0 : Int32))
def rmX10_bottlesOf : Room := { frames := 0, cells := 0, slots := 0, locals := 0 }
set_option maxHeartbeats 4000000 in
set_option maxRecDepth 100000 in
theorem mX10_bottlesOf (l : Launch) (dC : Nat → ClassId) (dI : Nat → Nat → Nat) (ac : Nat → ClassId) (sa : Nat → Nat) (A : Nat → Prop) (ad : Nat → Nat → Nat) (τ0 : tw_T) (k0 : Nat) (x1 : Int32) (Q : Int32 → tw_T → Prop) (hF : F_X10_bottlesOf τ0 k0 x1 Q) (hk0 : k0 < gN τ0 0) : Met l yX10_bottlesOf wsX10_bottlesOf rmX10_bottlesOf (va_Pc [.ref (ad 0 k0), .int x1] (BM dC dI ac sa A ad τ0)) (va_Qi (fun r (u : tw_T) => Q r u ∧ gN u = gN τ0) (fun u t => PM dC dI ac A ad u t.heap) A) 0 0 A := by
  refine Met.ofW (cc := cX10_bottlesOf) (maxL := 4) (ret := (some .int)) (by decide) rfl ?_
  intro p e s m args below meth c s₁ B hml hv
  obtain ⟨rfl, hP, hK, hA, hZ⟩ := hv
  have hx := B.exec
  have hb := B.bytes
  have hr := B.returns
  have hts := atoms_spec (ws := wsX10_bottlesOf) B.pre
  have hown : s.vm.findClass RX10 = some m.cls := findClass_of_methodNamed B.named
  have hlocks := B.notSynchronized
  have hS : va_S A s.heap s.heap [] := va_S.rf
  have hN : gN τ0 = gN τ0 := rfl
  have hl := lv_entry ([.ref (ad 0 k0), .int x1]) (n := 4) (Nat.le_of_ble_eq_true rfl)
  rw [lg_entry_eq]
  generalize (lg_sl ([.ref (ad 0 k0), .int x1]) ++ List.replicate (4 - (lg_sl ([.ref (ad 0 k0), .int x1])).length) Slot.unset).toArray = ls at hl ⊢
  have hl : lv_has ls 4 [(0, .ref (ad 0 k0)), (1, .int x1)] := hl
  unfold F_X10_bottlesOf at hF
  have l4 : ∀ (p0 : Nat) (hp0 : p0 < gN τ0 0) (u1 : Int32) (EX : tw_T → Int32 → Int32 → Prop) (n : Nat) (τ : tw_T) (u2 : Int32) (u3 : Int32) (H : Heap) (locs : List Loc) (ls : Array Slot), L_X10_bottlesOf_4 p0 u1 Q EX n τ u2 u3 → PM dC dI ac A ad τ H → gN τ = gN τ0 → va_S A s.heap H locs → lv_has ls 4 [(0, .ref (ad 0 p0)), (1, .int u1), (2, .int u2), (3, .int u3)] → (∀ (τ : tw_T) (u2 : Int32) (u3 : Int32) (H : Heap) (locs : List Loc) (ls : Array Slot), EX τ u2 u3 → PM dC dI ac A ad τ H → gN τ = gN τ0 → va_S A s.heap H locs → lv_has ls 4 [(0, .ref (ad 0 p0)), (1, .int u1), (2, .int u2), (3, .int u3)] → W p l e rmX10_bottlesOf s m ([.ref (ad 0 k0), .int x1] : List Value).toArray below meth c H locs 0 0 (MQ below (va_Qi (fun r (u : tw_T) => Q r u ∧ gN u = gN τ0) (fun u t => PM dC dI ac A ad u t.heap) A) ([.ref (ad 0 k0), .int x1] : List Value).toArray s 0 0 A) (F0 m 39 ls [])) → W p l e rmX10_bottlesOf s m ([.ref (ad 0 k0), .int x1] : List Value).toArray below meth c H locs 0 0 (MQ below (va_Qi (fun r (u : tw_T) => Q r u ∧ gN u = gN τ0) (fun u t => PM dC dI ac A ad u t.heap) A) ([.ref (ad 0 k0), .int x1] : List Value).toArray s 0 0 A) (F0 m 4 ls []) := by
    intro p0 hp0 u1 EX n
    induction n with
    | zero => intro τ u2 u3 H locs ls hF; exact hF.elim
    | succ n ih =>
      intro τ u2 u3 H locs ls hF hP hN hS hl hEX
      rw [L_X10_bottlesOf_4] at hF
      have j31 : ∀ (τ : tw_T) (p0 : Nat) (hp0 : p0 < gN τ0 0) (u1 : Int32) (u3 : Int32) (y0 : Int32) (y1 : Int32) (H : Heap) (locs : List Loc) (ls : Array Slot) (RC EX : tw_T → Int32 → Int32 → Prop), J_X10_bottlesOf_31 τ p0 u1 u3 y0 y1 Q RC EX → PM dC dI ac A ad τ H → gN τ = gN τ0 → va_S A s.heap H locs → lv_has ls 4 [(0, .ref (ad 0 p0)), (1, .int u1), (3, .int u3)] → (∀ (τ : tw_T) (u2 : Int32) (u3 : Int32) (H : Heap) (locs : List Loc) (ls : Array Slot), RC τ u2 u3 → PM dC dI ac A ad τ H → gN τ = gN τ0 → va_S A s.heap H locs → lv_has ls 4 [(0, .ref (ad 0 p0)), (1, .int u1), (2, .int u2), (3, .int u3)] → W p l e rmX10_bottlesOf s m ([.ref (ad 0 k0), .int x1] : List Value).toArray below meth c H locs 0 0 (MQ below (va_Qi (fun r (u : tw_T) => Q r u ∧ gN u = gN τ0) (fun u t => PM dC dI ac A ad u t.heap) A) ([.ref (ad 0 k0), .int x1] : List Value).toArray s 0 0 A) (F0 m 4 ls [])) → (∀ (τ : tw_T) (u2 : Int32) (u3 : Int32) (H : Heap) (locs : List Loc) (ls : Array Slot), EX τ u2 u3 → PM dC dI ac A ad τ H → gN τ = gN τ0 → va_S A s.heap H locs → lv_has ls 4 [(0, .ref (ad 0 p0)), (1, .int u1), (2, .int u2), (3, .int u3)] → W p l e rmX10_bottlesOf s m ([.ref (ad 0 k0), .int x1] : List Value).toArray below meth c H locs 0 0 (MQ below (va_Qi (fun r (u : tw_T) => Q r u ∧ gN u = gN τ0) (fun u t => PM dC dI ac A ad u t.heap) A) ([.ref (ad 0 k0), .int x1] : List Value).toArray s 0 0 A) (F0 m 39 ls [])) → W p l e rmX10_bottlesOf s m ([.ref (ad 0 k0), .int x1] : List Value).toArray below meth c H locs 0 0 (MQ below (va_Qi (fun r (u : tw_T) => Q r u ∧ gN u = gN τ0) (fun u t => PM dC dI ac A ad u t.heap) A) ([.ref (ad 0 k0), .int x1] : List Value).toArray s 0 0 A) (F0 m 31 ls [.int y0, .int y1]) := by
        intro τ p0 hp0 u1 u3 y0 y1 H locs ls RC EX hF hP hN hS hl hRC hEX
        unfold J_X10_bottlesOf_31 at hF
        refine lv_iadd hx hb dX10_bottlesOf_31 ?_
        refine lv_topi (fun z1 ez1 => ?_)
        have hF := hF z1 ez1
        refine lv_istore_n (lv' := [(2, .int z1), (0, .ref (ad 0 p0)), (1, .int u1), (3, .int u3)]) hx hb dX10_bottlesOf_32 rfl hl (by decide) rfl (fun ls hl => ?_)
        obtain ⟨z2, ez2⟩ : ∃ y : Int32, y = u3 + (1 : Int32) := ⟨_, rfl⟩
        have hF := hF z2 ez2
        refine lv_iinc (v := z2) (lv' := [(3, .int z2), (2, .int z1), (0, .ref (ad 0 p0)), (1, .int u1)]) hx hb dX10_bottlesOf_33 hl (k := 3) rfl (by rw [ez2]; rfl) (by decide) rfl (fun ls hl => ?_)
        refine lv_goto (tgt := 4) hx hb dX10_bottlesOf_36 (by decide) ?_
        exact hRC τ z1 z2 _ _ _ hF hP hN hS (lv_sub hl [2, 3, 1, 0] rfl)
      refine lv_iload_n hx hb dX10_bottlesOf_4 rfl (lv_at hl 3 rfl) ?_
      refine lv_bipush (v := 30) hx hb dX10_bottlesOf_5 (by decide) ?_
      refine lv_icmp_ge (tgt := 39) hx hb dX10_bottlesOf_7 (by decide) (fun c3 => ?_) (fun c3 => ?_)
      · have hF := hF.1 c3
        exact hEX τ u2 u3 _ _ _ hF hP hN hS (lv_sub hl [0, 1, 2, 3] rfl)
      · have hF := hF.2 c3
        refine lv_iload_n hx hb dX10_bottlesOf_10 rfl (lv_at hl 2 rfl) ?_
        refine lv_aload_n hx hb dX10_bottlesOf_11 rfl (lv_at hl 0 rfl) ?_
        obtain ⟨o4, eo4, hF⟩ := hF
        have ho4 : o4 < gN τ0 123 := tw_lt (hP.2.2.2 0 p0 23 o4 (by decide) (tw_lt hp0 (congrFun hN 0)) eo4) (congrFun hN 123).symm
        refine tw_get (v := .ref (ad 123 o4)) hx hb hts (by decide +kernel) hown hK hP (by decide) (tw_lt hp0 (congrFun hN 0)) rfl rfl 23 (by decide) (hts (.fieldLink RX10 44 "WineCellarModel" "cellLot" "[I") (by decide +kernel)) (fun _ h9 => h9) (show some (va_rf ((gR τ 0 p0 23).map (ad 123))) = some (.ref (ad 123 o4)) by rw [eo4]; rfl) dX10_bottlesOf_12 ?_
        refine lv_iload_n hx hb dX10_bottlesOf_15 rfl (lv_at hl 3 rfl) ?_
        obtain ⟨hi5, hF⟩ := hF
        refine tw_iald hx hb hK hP (by decide) (tw_lt ho4 (congrFun hN 123)) rfl 0 rfl hi5 dX10_bottlesOf_16 ?_
        refine lv_iload_n hx hb dX10_bottlesOf_17 rfl (lv_at hl 1 rfl) ?_
        refine lv_icmp_ne (tgt := 30) hx hb dX10_bottlesOf_18 (by decide) (fun c6 => ?_) (fun c6 => ?_)
        · have hF := hF.1 c6
          refine lv_iconst (v := 0) hx hb dX10_bottlesOf_30 (by decide) ?_
          exact j31 τ p0 hp0 u1 u3 ((0 : Int32)) u2 _ _ _ _ _ hF hP hN hS (lv_sub hl [0, 1, 3] rfl) (fun t v2 v3 H locs ls hF hP hN hS hl => ih t v2 v3 _ _ _ hF hP hN hS hl hEX) hEX
        · have hF := hF.2 c6
          refine lv_aload_n hx hb dX10_bottlesOf_21 rfl (lv_at hl 0 rfl) ?_
          obtain ⟨o7, eo7, hF⟩ := hF
          have ho7 : o7 < gN τ0 124 := tw_lt (hP.2.2.2 0 p0 24 o7 (by decide) (tw_lt hp0 (congrFun hN 0)) eo7) (congrFun hN 124).symm
          refine tw_get (v := .ref (ad 124 o7)) hx hb hts (by decide +kernel) hown hK hP (by decide) (tw_lt hp0 (congrFun hN 0)) rfl rfl 24 (by decide) (hts (.fieldLink RX10 47 "WineCellarModel" "cellMany" "[I") (by decide +kernel)) (fun _ h9 => h9) (show some (va_rf ((gR τ 0 p0 24).map (ad 124))) = some (.ref (ad 124 o7)) by rw [eo7]; rfl) dX10_bottlesOf_22 ?_
          refine lv_iload_n hx hb dX10_bottlesOf_25 rfl (lv_at hl 3 rfl) ?_
          obtain ⟨hi8, hF⟩ := hF
          refine tw_iald hx hb hK hP (by decide) (tw_lt ho7 (congrFun hN 124)) rfl 0 rfl hi8 dX10_bottlesOf_26 ?_
          refine lv_goto (tgt := 31) hx hb dX10_bottlesOf_27 (by decide) ?_
          exact j31 τ p0 hp0 u1 u3 (gI τ 124 o7 u3.toNatClampNeg) u2 _ _ _ _ _ hF hP hN hS (lv_sub hl [0, 1, 3] rfl) (fun t v2 v3 H locs ls hF hP hN hS hl => ih t v2 v3 _ _ _ hF hP hN hS hl hEX) hEX
  refine lv_iconst (v := 0) hx hb dX10_bottlesOf_0 (by decide) ?_
  refine lv_istore_n (lv' := [(2, .int ((0 : Int32))), (0, .ref (ad 0 k0)), (1, .int x1)]) hx hb dX10_bottlesOf_1 rfl hl (by decide) rfl (fun ls hl => ?_)
  refine lv_iconst (v := 0) hx hb dX10_bottlesOf_2 (by decide) ?_
  refine lv_istore_n (lv' := [(3, .int ((0 : Int32))), (2, .int ((0 : Int32))), (0, .ref (ad 0 k0)), (1, .int x1)]) hx hb dX10_bottlesOf_3 rfl hl (by decide) rfl (fun ls hl => ?_)
  obtain ⟨n9, hF⟩ := hF
  refine l4 k0 hk0 x1 _ n9 τ0 ((0 : Int32)) ((0 : Int32)) _ _ _ hF hP hN hS (lv_sub hl [2, 3, 1, 0] rfl) ?_
  intro τ10 z11 z12 H locs ls hF hP hN hS hl
  refine lv_iload_n hx hb dX10_bottlesOf_39 rfl (lv_at hl 2 rfl) ?_
  exact W.iret (v := z11) hx hb hr (fun t ht hW => ⟨⟨z11, τ10, rfl, ⟨hF, hN⟩, tw_at hP ht⟩, hS.F ht⟩) hS.2.2 dX10_bottlesOf_40
def J_X10_told_91 (τ : tw_T) (p0 : Nat) (u1 : Int32) (u2 : Int32) (u3 : Int32) (u5 : Int32) (y0 : Int32) (y1 : Int32) (Q : Int32 → tw_T → Prop) (RC EX : tw_T → Int32 → Int32 → Int32 → Prop) : Prop := ∀ z1 : Int32, z1 = y1 + y0 → (∀ z2 : Int32, z2 = u5 + (1 : Int32) → (RC τ u3 z1 z2))
def J_X10_told_65 (τ : tw_T) (p0 : Nat) (u1 : Int32) (u2 : Int32) (u4 : Int32) (u5 : Int32) (y0 : Int32) (y1 : Int32) (Q : Int32 → tw_T → Prop) (RC EX : tw_T → Int32 → Int32 → Int32 → Prop) : Prop := ∀ z3 : Int32, z3 = y1 + y0 → (∃ o4 : Nat, gR τ 0 p0 25 = some o4 ∧ (vp_in u5 60 ∧ (((¬ (gI τ 125 o4 u5.toNatClampNeg) = u1 → (J_X10_told_91 τ p0 u1 u2 z3 u5 ((0 : Int32)) u4 Q RC EX)) ∧ ((gI τ 125 o4 u5.toNatClampNeg) = u1 → (∃ o7 : Nat, gR τ 0 p0 27 = some o7 ∧ (vp_in u5 60 ∧ (J_X10_told_91 τ p0 u1 u2 z3 u5 (gI τ 127 o7 u5.toNatClampNeg) u4 Q RC EX))))))))
def L_X10_told_39 (p0 : Nat) (u1 : Int32) (u2 : Int32) (Q : Int32 → tw_T → Prop) (EX : tw_T → Int32 → Int32 → Int32 → Prop) : Nat → tw_T → Int32 → Int32 → Int32 → Prop
  | 0, _, _, _, _ => False
  | n + 1, τ, u3, u4, u5 => (((gI τ 0 p0 22) ≤ u5 → (EX τ u3 u4 u5)) ∧ (¬ (gI τ 0 p0 22) ≤ u5 → (∃ o10 : Nat, gR τ 0 p0 25 = some o10 ∧ (vp_in u5 60 ∧ (((¬ (gI τ 125 o10 u5.toNatClampNeg) = u1 → (J_X10_told_65 τ p0 u1 u2 u4 u5 ((0 : Int32)) u3 Q (fun t v3 v4 v5 => L_X10_told_39 p0 u1 u2 Q EX n t v3 v4 v5) EX)) ∧ ((gI τ 125 o10 u5.toNatClampNeg) = u1 → (J_X10_told_65 τ p0 u1 u2 u4 u5 ((1 : Int32)) u3 Q (fun t v3 v4 v5 => L_X10_told_39 p0 u1 u2 Q EX n t v3 v4 v5) EX))))))))
def F_X10_told (τ0 : tw_T) (k0 : Nat) (x1 : Int32) (x2 : Int32) (Q : Int32 → tw_T → Prop) : Prop := ∀ τ13 : tw_T, τ13 = sI τ0 0 k0 0 ((0 : Int32)) → (F_X10_isLot τ13 k0 x1 ((1 : Int32)) (fun (r15 : Int32) (τ14 : tw_T) => (((r15 = 0 → (Q ((0 : Int32)) τ14)) ∧ (¬ r15 = 0 → (F_X10_within τ14 x2 ((0 : Int32)) ((7 : Int32)) (fun (r18 : Int32) (τ17 : tw_T) => (F_X10_may τ17 k0 r18 ((2 : Int32)) (fun (r20 : Int32) (τ19 : tw_T) => (((¬ r20 = 0 → (∃ n22 : Nat, L_X10_told_39 k0 x1 x2 Q (fun (τ23 : tw_T) (z24 : Int32) (z25 : Int32) (z26 : Int32) => ((x2.toInt < 0 ∨ 6 < x2.toInt → (Q z25 τ23)) ∧ (x2 = (0 : Int32) → (∃ o27 : Nat, gR τ23 0 k0 10 = some o27 ∧ (vp_in x1 60 ∧ (Q (gI τ23 110 o27 x1.toNatClampNeg) τ23)))) ∧ (x2 = (1 : Int32) → (∃ o29 : Nat, gR τ23 0 k0 11 = some o29 ∧ (vp_in x1 60 ∧ (Q (gI τ23 111 o29 x1.toNatClampNeg) τ23)))) ∧ (x2 = (2 : Int32) → (∃ o31 : Nat, gR τ23 0 k0 12 = some o31 ∧ (vp_in x1 60 ∧ (Q (gI τ23 112 o31 x1.toNatClampNeg) τ23)))) ∧ (x2 = (3 : Int32) → (∃ o33 : Nat, gR τ23 0 k0 13 = some o33 ∧ (vp_in x1 60 ∧ (Q (gI τ23 113 o33 x1.toNatClampNeg) τ23)))) ∧ (x2 = (4 : Int32) → (∃ o35 : Nat, gR τ23 0 k0 14 = some o35 ∧ (vp_in x1 60 ∧ (Q (gI τ23 114 o35 x1.toNatClampNeg) τ23)))) ∧ (x2 = (5 : Int32) → (F_X10_bottlesOf τ23 k0 x1 (fun (r38 : Int32) (τ37 : tw_T) => (Q r38 τ37)))) ∧ (x2 = (6 : Int32) → (Q z24 τ23)))) n22 τ19 ((0 : Int32)) ((0 : Int32)) ((0 : Int32)))) ∧ (r20 = 0 → (Q ((0 : Int32)) τ19)))))))))))))
def rmX10_told : Room := { frames := 2, cells := 0, slots := 0, locals := 44 }
set_option maxHeartbeats 4000000 in
set_option maxRecDepth 100000 in
theorem mX10_told (l : Launch) (dC : Nat → ClassId) (dI : Nat → Nat → Nat) (ac : Nat → ClassId) (sa : Nat → Nat) (A : Nat → Prop) (ad : Nat → Nat → Nat) (τ0 : tw_T) (k0 : Nat) (x1 : Int32) (x2 : Int32) (Q : Int32 → tw_T → Prop) (hF : F_X10_told τ0 k0 x1 x2 Q) (hk0 : k0 < gN τ0 0) : Met l yX10_told wsX10_told rmX10_told (va_Pc [.ref (ad 0 k0), .int x1, .int x2] (BM dC dI ac sa A ad τ0)) (va_Qi (fun r (u : tw_T) => Q r u ∧ gN u = gN τ0) (fun u t => PM dC dI ac A ad u t.heap) A) 0 0 A := by
  refine Met.ofW (cc := cX10_told) (maxL := 6) (ret := (some .int)) (by decide) rfl ?_
  intro p e s m args below meth c s₁ B hml hv
  obtain ⟨rfl, hP, hK, hA, hZ⟩ := hv
  have hx := B.exec
  have hb := B.bytes
  have hr := B.returns
  have hts := atoms_spec (ws := wsX10_told) B.pre
  have hown : s.vm.findClass RX10 = some m.cls := findClass_of_methodNamed B.named
  have hlocks := B.notSynchronized
  have hS : va_S A s.heap s.heap [] := va_S.rf
  have hN : gN τ0 = gN τ0 := rfl
  have hl := lv_entry ([.ref (ad 0 k0), .int x1, .int x2]) (n := 6) (Nat.le_of_ble_eq_true rfl)
  rw [lg_entry_eq]
  generalize (lg_sl ([.ref (ad 0 k0), .int x1, .int x2]) ++ List.replicate (6 - (lg_sl ([.ref (ad 0 k0), .int x1, .int x2])).length) Slot.unset).toArray = ls at hl ⊢
  have hl : lv_has ls 6 [(0, .ref (ad 0 k0)), (1, .int x1), (2, .int x2)] := hl
  unfold F_X10_told at hF
  have l39 : ∀ (p0 : Nat) (hp0 : p0 < gN τ0 0) (u1 : Int32) (u2 : Int32) (EX : tw_T → Int32 → Int32 → Int32 → Prop) (n : Nat) (τ : tw_T) (u3 : Int32) (u4 : Int32) (u5 : Int32) (H : Heap) (locs : List Loc) (ls : Array Slot), L_X10_told_39 p0 u1 u2 Q EX n τ u3 u4 u5 → PM dC dI ac A ad τ H → gN τ = gN τ0 → va_S A s.heap H locs → lv_has ls 6 [(0, .ref (ad 0 p0)), (1, .int u1), (2, .int u2), (3, .int u3), (4, .int u4), (5, .int u5)] → (∀ (τ : tw_T) (u3 : Int32) (u4 : Int32) (u5 : Int32) (H : Heap) (locs : List Loc) (ls : Array Slot), EX τ u3 u4 u5 → PM dC dI ac A ad τ H → gN τ = gN τ0 → va_S A s.heap H locs → lv_has ls 6 [(0, .ref (ad 0 p0)), (1, .int u1), (2, .int u2), (3, .int u3), (4, .int u4), (5, .int u5)] → W p l e rmX10_told s m ([.ref (ad 0 k0), .int x1, .int x2] : List Value).toArray below meth c H locs 0 0 (MQ below (va_Qi (fun r (u : tw_T) => Q r u ∧ gN u = gN τ0) (fun u t => PM dC dI ac A ad u t.heap) A) ([.ref (ad 0 k0), .int x1, .int x2] : List Value).toArray s 0 0 A) (F0 m 100 ls [])) → W p l e rmX10_told s m ([.ref (ad 0 k0), .int x1, .int x2] : List Value).toArray below meth c H locs 0 0 (MQ below (va_Qi (fun r (u : tw_T) => Q r u ∧ gN u = gN τ0) (fun u t => PM dC dI ac A ad u t.heap) A) ([.ref (ad 0 k0), .int x1, .int x2] : List Value).toArray s 0 0 A) (F0 m 39 ls []) := by
    intro p0 hp0 u1 u2 EX n
    induction n with
    | zero => intro τ u3 u4 u5 H locs ls hF; exact hF.elim
    | succ n ih =>
      intro τ u3 u4 u5 H locs ls hF hP hN hS hl hEX
      rw [L_X10_told_39] at hF
      have j91 : ∀ (τ : tw_T) (p0 : Nat) (hp0 : p0 < gN τ0 0) (u1 : Int32) (u2 : Int32) (u3 : Int32) (u5 : Int32) (y0 : Int32) (y1 : Int32) (H : Heap) (locs : List Loc) (ls : Array Slot) (RC EX : tw_T → Int32 → Int32 → Int32 → Prop), J_X10_told_91 τ p0 u1 u2 u3 u5 y0 y1 Q RC EX → PM dC dI ac A ad τ H → gN τ = gN τ0 → va_S A s.heap H locs → lv_has ls 6 [(0, .ref (ad 0 p0)), (1, .int u1), (2, .int u2), (3, .int u3), (5, .int u5)] → (∀ (τ : tw_T) (u3 : Int32) (u4 : Int32) (u5 : Int32) (H : Heap) (locs : List Loc) (ls : Array Slot), RC τ u3 u4 u5 → PM dC dI ac A ad τ H → gN τ = gN τ0 → va_S A s.heap H locs → lv_has ls 6 [(0, .ref (ad 0 p0)), (1, .int u1), (2, .int u2), (3, .int u3), (4, .int u4), (5, .int u5)] → W p l e rmX10_told s m ([.ref (ad 0 k0), .int x1, .int x2] : List Value).toArray below meth c H locs 0 0 (MQ below (va_Qi (fun r (u : tw_T) => Q r u ∧ gN u = gN τ0) (fun u t => PM dC dI ac A ad u t.heap) A) ([.ref (ad 0 k0), .int x1, .int x2] : List Value).toArray s 0 0 A) (F0 m 39 ls [])) → (∀ (τ : tw_T) (u3 : Int32) (u4 : Int32) (u5 : Int32) (H : Heap) (locs : List Loc) (ls : Array Slot), EX τ u3 u4 u5 → PM dC dI ac A ad τ H → gN τ = gN τ0 → va_S A s.heap H locs → lv_has ls 6 [(0, .ref (ad 0 p0)), (1, .int u1), (2, .int u2), (3, .int u3), (4, .int u4), (5, .int u5)] → W p l e rmX10_told s m ([.ref (ad 0 k0), .int x1, .int x2] : List Value).toArray below meth c H locs 0 0 (MQ below (va_Qi (fun r (u : tw_T) => Q r u ∧ gN u = gN τ0) (fun u t => PM dC dI ac A ad u t.heap) A) ([.ref (ad 0 k0), .int x1, .int x2] : List Value).toArray s 0 0 A) (F0 m 100 ls [])) → W p l e rmX10_told s m ([.ref (ad 0 k0), .int x1, .int x2] : List Value).toArray below meth c H locs 0 0 (MQ below (va_Qi (fun r (u : tw_T) => Q r u ∧ gN u = gN τ0) (fun u t => PM dC dI ac A ad u t.heap) A) ([.ref (ad 0 k0), .int x1, .int x2] : List Value).toArray s 0 0 A) (F0 m 91 ls [.int y0, .int y1]) := by
        intro τ p0 hp0 u1 u2 u3 u5 y0 y1 H locs ls RC EX hF hP hN hS hl hRC hEX
        unfold J_X10_told_91 at hF
        refine lv_iadd hx hb dX10_told_91 ?_
        refine lv_topi (fun z1 ez1 => ?_)
        have hF := hF z1 ez1
        refine lv_istore (lv' := [(4, .int z1), (0, .ref (ad 0 p0)), (1, .int u1), (2, .int u2), (3, .int u3), (5, .int u5)]) hx hb dX10_told_92 hl (by decide) rfl (fun ls hl => ?_)
        obtain ⟨z2, ez2⟩ : ∃ y : Int32, y = u5 + (1 : Int32) := ⟨_, rfl⟩
        have hF := hF z2 ez2
        refine lv_iinc (v := z2) (lv' := [(5, .int z2), (4, .int z1), (0, .ref (ad 0 p0)), (1, .int u1), (2, .int u2), (3, .int u3)]) hx hb dX10_told_94 hl (k := 5) rfl (by rw [ez2]; rfl) (by decide) rfl (fun ls hl => ?_)
        refine lv_goto (tgt := 39) hx hb dX10_told_97 (by decide) ?_
        exact hRC τ u3 z1 z2 _ _ _ hF hP hN hS (lv_sub hl [2, 3, 4, 5, 1, 0] rfl)
      have j65 : ∀ (τ : tw_T) (p0 : Nat) (hp0 : p0 < gN τ0 0) (u1 : Int32) (u2 : Int32) (u4 : Int32) (u5 : Int32) (y0 : Int32) (y1 : Int32) (H : Heap) (locs : List Loc) (ls : Array Slot) (RC EX : tw_T → Int32 → Int32 → Int32 → Prop), J_X10_told_65 τ p0 u1 u2 u4 u5 y0 y1 Q RC EX → PM dC dI ac A ad τ H → gN τ = gN τ0 → va_S A s.heap H locs → lv_has ls 6 [(0, .ref (ad 0 p0)), (1, .int u1), (2, .int u2), (4, .int u4), (5, .int u5)] → (∀ (τ : tw_T) (u3 : Int32) (u4 : Int32) (u5 : Int32) (H : Heap) (locs : List Loc) (ls : Array Slot), RC τ u3 u4 u5 → PM dC dI ac A ad τ H → gN τ = gN τ0 → va_S A s.heap H locs → lv_has ls 6 [(0, .ref (ad 0 p0)), (1, .int u1), (2, .int u2), (3, .int u3), (4, .int u4), (5, .int u5)] → W p l e rmX10_told s m ([.ref (ad 0 k0), .int x1, .int x2] : List Value).toArray below meth c H locs 0 0 (MQ below (va_Qi (fun r (u : tw_T) => Q r u ∧ gN u = gN τ0) (fun u t => PM dC dI ac A ad u t.heap) A) ([.ref (ad 0 k0), .int x1, .int x2] : List Value).toArray s 0 0 A) (F0 m 39 ls [])) → (∀ (τ : tw_T) (u3 : Int32) (u4 : Int32) (u5 : Int32) (H : Heap) (locs : List Loc) (ls : Array Slot), EX τ u3 u4 u5 → PM dC dI ac A ad τ H → gN τ = gN τ0 → va_S A s.heap H locs → lv_has ls 6 [(0, .ref (ad 0 p0)), (1, .int u1), (2, .int u2), (3, .int u3), (4, .int u4), (5, .int u5)] → W p l e rmX10_told s m ([.ref (ad 0 k0), .int x1, .int x2] : List Value).toArray below meth c H locs 0 0 (MQ below (va_Qi (fun r (u : tw_T) => Q r u ∧ gN u = gN τ0) (fun u t => PM dC dI ac A ad u t.heap) A) ([.ref (ad 0 k0), .int x1, .int x2] : List Value).toArray s 0 0 A) (F0 m 100 ls [])) → W p l e rmX10_told s m ([.ref (ad 0 k0), .int x1, .int x2] : List Value).toArray below meth c H locs 0 0 (MQ below (va_Qi (fun r (u : tw_T) => Q r u ∧ gN u = gN τ0) (fun u t => PM dC dI ac A ad u t.heap) A) ([.ref (ad 0 k0), .int x1, .int x2] : List Value).toArray s 0 0 A) (F0 m 65 ls [.int y0, .int y1]) := by
        intro τ p0 hp0 u1 u2 u4 u5 y0 y1 H locs ls RC EX hF hP hN hS hl hRC hEX
        unfold J_X10_told_65 at hF
        refine lv_iadd hx hb dX10_told_65 ?_
        refine lv_topi (fun z3 ez3 => ?_)
        have hF := hF z3 ez3
        refine lv_istore_n (lv' := [(3, .int z3), (0, .ref (ad 0 p0)), (1, .int u1), (2, .int u2), (4, .int u4), (5, .int u5)]) hx hb dX10_told_66 rfl hl (by decide) rfl (fun ls hl => ?_)
        refine lv_iload hx hb dX10_told_67 (lv_at hl 4 rfl) ?_
        refine lv_aload_n hx hb dX10_told_69 rfl (lv_at hl 1 rfl) ?_
        obtain ⟨o4, eo4, hF⟩ := hF
        have ho4 : o4 < gN τ0 125 := tw_lt (hP.2.2.2 0 p0 25 o4 (by decide) (tw_lt hp0 (congrFun hN 0)) eo4) (congrFun hN 125).symm
        refine tw_get (v := .ref (ad 125 o4)) hx hb hts (by decide +kernel) hown hK hP (by decide) (tw_lt hp0 (congrFun hN 0)) rfl rfl 25 (by decide) (hts (.fieldLink RX10 50 "WineCellarModel" "openLot" "[I") (by decide +kernel)) (fun _ h9 => h9) (show some (va_rf ((gR τ 0 p0 25).map (ad 125))) = some (.ref (ad 125 o4)) by rw [eo4]; rfl) dX10_told_70 ?_
        refine lv_iload hx hb dX10_told_73 (lv_at hl 5 rfl) ?_
        obtain ⟨hi5, hF⟩ := hF
        refine tw_iald hx hb hK hP (by decide) (tw_lt ho4 (congrFun hN 125)) rfl 0 rfl hi5 dX10_told_75 ?_
        refine lv_iload_n hx hb dX10_told_76 rfl (lv_at hl 2 rfl) ?_
        refine lv_icmp_ne (tgt := 90) hx hb dX10_told_77 (by decide) (fun c6 => ?_) (fun c6 => ?_)
        · have hF := hF.1 c6
          refine lv_iconst (v := 0) hx hb dX10_told_90 (by decide) ?_
          exact j91 τ p0 hp0 u1 u2 z3 u5 ((0 : Int32)) u4 _ _ _ RC EX hF hP hN hS (lv_sub hl [1, 2, 3, 0, 5] rfl) hRC hEX
        · have hF := hF.2 c6
          refine lv_aload_n hx hb dX10_told_80 rfl (lv_at hl 1 rfl) ?_
          obtain ⟨o7, eo7, hF⟩ := hF
          have ho7 : o7 < gN τ0 127 := tw_lt (hP.2.2.2 0 p0 27 o7 (by decide) (tw_lt hp0 (congrFun hN 0)) eo7) (congrFun hN 127).symm
          refine tw_get (v := .ref (ad 127 o7)) hx hb hts (by decide +kernel) hown hK hP (by decide) (tw_lt hp0 (congrFun hN 0)) rfl rfl 27 (by decide) (hts (.fieldLink RX10 56 "WineCellarModel" "openLeft" "[I") (by decide +kernel)) (fun _ h9 => h9) (show some (va_rf ((gR τ 0 p0 27).map (ad 127))) = some (.ref (ad 127 o7)) by rw [eo7]; rfl) dX10_told_81 ?_
          refine lv_iload hx hb dX10_told_84 (lv_at hl 5 rfl) ?_
          obtain ⟨hi8, hF⟩ := hF
          refine tw_iald hx hb hK hP (by decide) (tw_lt ho7 (congrFun hN 127)) rfl 0 rfl hi8 dX10_told_86 ?_
          refine lv_goto (tgt := 91) hx hb dX10_told_87 (by decide) ?_
          exact j91 τ p0 hp0 u1 u2 z3 u5 (gI τ 127 o7 u5.toNatClampNeg) u4 _ _ _ RC EX hF hP hN hS (lv_sub hl [1, 2, 3, 0, 5] rfl) hRC hEX
      refine lv_iload hx hb dX10_told_39 (lv_at hl 5 rfl) ?_
      refine lv_aload_n hx hb dX10_told_41 rfl (lv_at hl 0 rfl) ?_
      refine tw_get (v := .int (gI τ 0 p0 22)) hx hb hts (by decide +kernel) hown hK hP (by decide) (tw_lt hp0 (congrFun hN 0)) rfl rfl 22 (by decide) (hts (.fieldLink RX10 149 "WineCellarModel" "open" "I") (by decide +kernel)) (fun _ h9 => h9) rfl dX10_told_42 ?_
      refine lv_icmp_ge (tgt := 100) hx hb dX10_told_45 (by decide) (fun c9 => ?_) (fun c9 => ?_)
      · have hF := hF.1 c9
        exact hEX τ u3 u4 u5 _ _ _ hF hP hN hS (lv_sub hl [0, 1, 2, 3, 4, 5] rfl)
      · have hF := hF.2 c9
        refine lv_iload_n hx hb dX10_told_48 rfl (lv_at hl 3 rfl) ?_
        refine lv_aload_n hx hb dX10_told_49 rfl (lv_at hl 0 rfl) ?_
        obtain ⟨o10, eo10, hF⟩ := hF
        have ho10 : o10 < gN τ0 125 := tw_lt (hP.2.2.2 0 p0 25 o10 (by decide) (tw_lt hp0 (congrFun hN 0)) eo10) (congrFun hN 125).symm
        refine tw_get (v := .ref (ad 125 o10)) hx hb hts (by decide +kernel) hown hK hP (by decide) (tw_lt hp0 (congrFun hN 0)) rfl rfl 25 (by decide) (hts (.fieldLink RX10 50 "WineCellarModel" "openLot" "[I") (by decide +kernel)) (fun _ h9 => h9) (show some (va_rf ((gR τ 0 p0 25).map (ad 125))) = some (.ref (ad 125 o10)) by rw [eo10]; rfl) dX10_told_50 ?_
        refine lv_iload hx hb dX10_told_53 (lv_at hl 5 rfl) ?_
        obtain ⟨hi11, hF⟩ := hF
        refine tw_iald hx hb hK hP (by decide) (tw_lt ho10 (congrFun hN 125)) rfl 0 rfl hi11 dX10_told_55 ?_
        refine lv_iload_n hx hb dX10_told_56 rfl (lv_at hl 1 rfl) ?_
        refine lv_icmp_ne (tgt := 64) hx hb dX10_told_57 (by decide) (fun c12 => ?_) (fun c12 => ?_)
        · have hF := hF.1 c12
          refine lv_iconst (v := 0) hx hb dX10_told_64 (by decide) ?_
          exact j65 τ p0 hp0 u1 u2 u4 u5 ((0 : Int32)) u3 _ _ _ _ _ hF hP hN hS (lv_sub hl [0, 1, 2, 4, 5] rfl) (fun t v3 v4 v5 H locs ls hF hP hN hS hl => ih t v3 v4 v5 _ _ _ hF hP hN hS hl hEX) hEX
        · have hF := hF.2 c12
          refine lv_iconst (v := 1) hx hb dX10_told_60 (by decide) ?_
          refine lv_goto (tgt := 65) hx hb dX10_told_61 (by decide) ?_
          exact j65 τ p0 hp0 u1 u2 u4 u5 ((1 : Int32)) u3 _ _ _ _ _ hF hP hN hS (lv_sub hl [0, 1, 2, 4, 5] rfl) (fun t v3 v4 v5 H locs ls hF hP hN hS hl => ih t v3 v4 v5 _ _ _ hF hP hN hS hl hEX) hEX
  refine lv_aload_n hx hb dX10_told_0 rfl (lv_at hl 0 rfl) ?_
  refine lv_iconst (v := 0) hx hb dX10_told_1 (by decide) ?_
  refine tw_put (τ' := sI τ0 0 k0 0 ((0 : Int32))) (ty := .int) hx hb hts (by decide +kernel) tyX10 tyX10_ok nmX10 hown hK hP hS (by decide) hk0 rfl rfl 0 (by decide) (hts (.fieldLink RX10 1 "WineCellarModel" "thrown" "I") (by decide +kernel)) (fun _ h9 => h9) rfl (by decide +kernel) rfl rfl (Nat.le_of_ble_eq_true rfl) dX10_told_2 (fun H1 ha ho => tw_updI hP (by decide) hk0 ha ho) (fun H locs hP hS => ?_)
  obtain ⟨τ13, eτ13⟩ : ∃ y : tw_T, y = sI τ0 0 k0 0 ((0 : Int32)) := ⟨_, rfl⟩
  have hF := hF τ13 eτ13
  rw [← eτ13] at hP
  have hN : gN τ13 = gN τ0 := by rw [eτ13]; exact hN
  refine lv_aload_n hx hb dX10_told_5 rfl (lv_at hl 0 rfl) ?_
  refine lv_iload_n hx hb dX10_told_6 rfl (lv_at hl 1 rfl) ?_
  refine lv_iconst (v := 1) hx hb dX10_told_7 (by decide) ?_
  refine va_calli (va_runV (As := [.int x1, .int ((1 : Int32))]) (rest := []) ⟨hx, hb, hml, hown, hts⟩ (mX10_isLot l dC dI ac sa A ad τ13 k0 x1 ((1 : Int32)) _ hF (tw_lt hk0 (congrFun hN 0))) (cwV 2 hts gX10_told_X10_isLot rfl rfl rfl (by decide +kernel) ⟨Nat.le_of_ble_eq_true rfl, Nat.le_of_ble_eq_true rfl⟩) ⟨BM.blind, tw_recv hK hP (by decide) (tw_lt hk0 (congrFun hN 0)) rfl rfl, fun U hU hW => ⟨rfl, BM.of hP hK hS hA hZ hU hW⟩⟩ rfl rfl hl.1 rfl (lv_room (Nat.le_of_ble_eq_true rfl)) dX10_told_8 ⟨Nat.le_of_ble_eq_true rfl, Nat.le_of_ble_eq_true rfl⟩) hS (fun q _ h => h) (fun q h => h) (fun r15 τ14 t H locs ht hvm hw hB hz hk hS => ?_)
  obtain ⟨hF, hN9⟩ := hw
  have hP : PM dC dI ac A ad τ14 H := tw_back hB ht
  have hN : gN τ14 = gN τ0 := hN9.trans hN
  refine lv_if_eq (tgt := 29) hx hb dX10_told_11 (by decide) (fun c16 => ?_) (fun c16 => ?_)
  · have hF := hF.1 c16
    refine lv_iconst (v := 0) hx hb dX10_told_29 (by decide) ?_
    exact W.iret (v := (0 : Int32)) hx hb hr (fun t ht hW => ⟨⟨((0 : Int32)), τ14, rfl, ⟨hF, hN⟩, tw_at hP ht⟩, hS.F ht⟩) hS.2.2 dX10_told_30
  · have hF := hF.2 c16
    refine lv_aload_n hx hb dX10_told_14 rfl (lv_at hl 0 rfl) ?_
    refine lv_iload_n hx hb dX10_told_15 rfl (lv_at hl 2 rfl) ?_
    refine lv_iconst (v := 0) hx hb dX10_told_16 (by decide) ?_
    refine lv_bipush (v := 7) hx hb dX10_told_17 (by decide) ?_
    refine va_calli (va_runS (As := [.int x2, .int ((0 : Int32)), .int ((7 : Int32))]) (rest := [.ref (ad 0 k0)]) ⟨hx, hb, hml, hown, hts⟩ (mX10_within l dC dI ac sa A ad τ14 x2 ((0 : Int32)) ((7 : Int32)) _ hF ) (va_cwS 3 hts gX10_told_X10_within rfl rfl rfl (by decide +kernel) ⟨Nat.le_of_ble_eq_true rfl, Nat.le_of_ble_eq_true rfl⟩) ⟨BM.blind, fun U hU hW => ⟨rfl, BM.of hP hK hS hA hZ hU hW⟩⟩ rfl rfl hl.1 rfl (lv_room (Nat.le_of_ble_eq_true rfl)) dX10_told_19 ⟨Nat.le_of_ble_eq_true rfl, Nat.le_of_ble_eq_true rfl⟩) hS (fun q _ h => h) (fun q h => h) (fun r18 τ17 t H locs ht hvm hw hB hz hk hS => ?_)
    obtain ⟨hF, hN9⟩ := hw
    have hP : PM dC dI ac A ad τ17 H := tw_back hB ht
    have hN : gN τ17 = gN τ0 := hN9.trans hN
    refine lv_iconst (v := 2) hx hb dX10_told_22 (by decide) ?_
    refine va_calli (va_runV (As := [.int r18, .int ((2 : Int32))]) (rest := []) ⟨hx, hb, hml, hown, hts⟩ (mX10_may l dC dI ac sa A ad τ17 k0 r18 ((2 : Int32)) _ hF (tw_lt hk0 (congrFun hN 0))) (cwV 2 hts gX10_told_X10_may rfl rfl rfl (by decide +kernel) ⟨Nat.le_of_ble_eq_true rfl, Nat.le_of_ble_eq_true rfl⟩) ⟨BM.blind, tw_recv hK hP (by decide) (tw_lt hk0 (congrFun hN 0)) rfl rfl, fun U hU hW => ⟨rfl, BM.of hP hK hS hA hZ hU hW⟩⟩ rfl rfl hl.1 rfl (lv_room (Nat.le_of_ble_eq_true rfl)) dX10_told_23 ⟨Nat.le_of_ble_eq_true rfl, Nat.le_of_ble_eq_true rfl⟩) hS (fun q _ h => h) (fun q h => h) (fun r20 τ19 t H locs ht hvm hw hB hz hk hS => ?_)
    obtain ⟨hF, hN9⟩ := hw
    have hP : PM dC dI ac A ad τ19 H := tw_back hB ht
    have hN : gN τ19 = gN τ0 := hN9.trans hN
    refine lv_if_ne (tgt := 31) hx hb dX10_told_26 (by decide) (fun c21 => ?_) (fun c21 => ?_)
    · have hF := hF.1 c21
      refine lv_iconst (v := 0) hx hb dX10_told_31 (by decide) ?_
      refine lv_istore_n (lv' := [(3, .int ((0 : Int32))), (0, .ref (ad 0 k0)), (1, .int x1), (2, .int x2)]) hx hb dX10_told_32 rfl hl (by decide) rfl (fun ls hl => ?_)
      refine lv_iconst (v := 0) hx hb dX10_told_33 (by decide) ?_
      refine lv_istore (lv' := [(4, .int ((0 : Int32))), (3, .int ((0 : Int32))), (0, .ref (ad 0 k0)), (1, .int x1), (2, .int x2)]) hx hb dX10_told_34 hl (by decide) rfl (fun ls hl => ?_)
      refine lv_iconst (v := 0) hx hb dX10_told_36 (by decide) ?_
      refine lv_istore (lv' := [(5, .int ((0 : Int32))), (4, .int ((0 : Int32))), (3, .int ((0 : Int32))), (0, .ref (ad 0 k0)), (1, .int x1), (2, .int x2)]) hx hb dX10_told_37 hl (by decide) rfl (fun ls hl => ?_)
      obtain ⟨n22, hF⟩ := hF
      refine l39 k0 hk0 x1 x2 _ n22 τ19 ((0 : Int32)) ((0 : Int32)) ((0 : Int32)) _ _ _ hF hP hN hS (lv_sub hl [3, 4, 5, 2, 1, 0] rfl) ?_
      intro τ23 z24 z25 z26 H locs ls hF hP hN hS hl
      refine lv_iload_n hx hb dX10_told_100 rfl (lv_at hl 2 rfl) ?_
      by_cases cd : x2.toInt < 0 ∨ 6 < x2.toInt
      · have hF := hF.1 cd
        refine lv_tableOut (tgt := 187) hx hb dX10_told_101 cd (by decide) ?_
        refine lv_iload hx hb dX10_told_187 (lv_at hl 4 rfl) ?_
        exact W.iret (v := z25) hx hb hr (fun t ht hW => ⟨⟨z25, τ23, rfl, ⟨hF, hN⟩, tw_at hP ht⟩, hS.F ht⟩) hS.2.2 dX10_told_189
      · have hF := hF.2
        rcases (show x2.toInt = 0 ∨ x2.toInt = 1 ∨ x2.toInt = 2 ∨ x2.toInt = 3 ∨ x2.toInt = 4 ∨ x2.toInt = 5 ∨ x2.toInt = 6 by omega) with e9 | e9 | e9 | e9 | e9 | e9 | e9
        · have c9 : x2 = (0 : Int32) := tw_sw e9 rfl
          have hF := hF.1 c9
          refine lv_tableIn (off := 43) (tgt := 144) hx hb dX10_told_101 (by rw [e9]; decide) (by rw [e9]; decide) (by rw [e9]; rfl) (by decide) ?_
          refine lv_aload_n hx hb dX10_told_144 rfl (lv_at hl 0 rfl) ?_
          obtain ⟨o27, eo27, hF⟩ := hF
          have ho27 : o27 < gN τ0 110 := tw_lt (hP.2.2.2 0 k0 10 o27 (by decide) (tw_lt hk0 (congrFun hN 0)) eo27) (congrFun hN 110).symm
          refine tw_get (v := .ref (ad 110 o27)) hx hb hts (by decide +kernel) hown hK hP (by decide) (tw_lt hk0 (congrFun hN 0)) rfl rfl 10 (by decide) (hts (.fieldLink RX10 29 "WineCellarModel" "kindOf" "[I") (by decide +kernel)) (fun _ h9 => h9) (show some (va_rf ((gR τ23 0 k0 10).map (ad 110))) = some (.ref (ad 110 o27)) by rw [eo27]; rfl) dX10_told_145 ?_
          refine lv_iload_n hx hb dX10_told_148 rfl (lv_at hl 1 rfl) ?_
          obtain ⟨hi28, hF⟩ := hF
          refine tw_iald hx hb hK hP (by decide) (tw_lt ho27 (congrFun hN 110)) rfl 0 rfl hi28 dX10_told_149 ?_
          exact W.iret (v := gI τ23 110 o27 x1.toNatClampNeg) hx hb hr (fun t ht hW => ⟨⟨(gI τ23 110 o27 x1.toNatClampNeg), τ23, rfl, ⟨hF, hN⟩, tw_at hP ht⟩, hS.F ht⟩) hS.2.2 dX10_told_150
        · have c9 : x2 = (1 : Int32) := tw_sw e9 rfl
          have hF := hF.2.1 c9
          refine lv_tableIn (off := 50) (tgt := 151) hx hb dX10_told_101 (by rw [e9]; decide) (by rw [e9]; decide) (by rw [e9]; rfl) (by decide) ?_
          refine lv_aload_n hx hb dX10_told_151 rfl (lv_at hl 0 rfl) ?_
          obtain ⟨o29, eo29, hF⟩ := hF
          have ho29 : o29 < gN τ0 111 := tw_lt (hP.2.2.2 0 k0 11 o29 (by decide) (tw_lt hk0 (congrFun hN 0)) eo29) (congrFun hN 111).symm
          refine tw_get (v := .ref (ad 111 o29)) hx hb hts (by decide +kernel) hown hK hP (by decide) (tw_lt hk0 (congrFun hN 0)) rfl rfl 11 (by decide) (hts (.fieldLink RX10 32 "WineCellarModel" "vintage" "[I") (by decide +kernel)) (fun _ h9 => h9) (show some (va_rf ((gR τ23 0 k0 11).map (ad 111))) = some (.ref (ad 111 o29)) by rw [eo29]; rfl) dX10_told_152 ?_
          refine lv_iload_n hx hb dX10_told_155 rfl (lv_at hl 1 rfl) ?_
          obtain ⟨hi30, hF⟩ := hF
          refine tw_iald hx hb hK hP (by decide) (tw_lt ho29 (congrFun hN 111)) rfl 0 rfl hi30 dX10_told_156 ?_
          exact W.iret (v := gI τ23 111 o29 x1.toNatClampNeg) hx hb hr (fun t ht hW => ⟨⟨(gI τ23 111 o29 x1.toNatClampNeg), τ23, rfl, ⟨hF, hN⟩, tw_at hP ht⟩, hS.F ht⟩) hS.2.2 dX10_told_157
        · have c9 : x2 = (2 : Int32) := tw_sw e9 rfl
          have hF := hF.2.2.1 c9
          refine lv_tableIn (off := 57) (tgt := 158) hx hb dX10_told_101 (by rw [e9]; decide) (by rw [e9]; decide) (by rw [e9]; rfl) (by decide) ?_
          refine lv_aload_n hx hb dX10_told_158 rfl (lv_at hl 0 rfl) ?_
          obtain ⟨o31, eo31, hF⟩ := hF
          have ho31 : o31 < gN τ0 112 := tw_lt (hP.2.2.2 0 k0 12 o31 (by decide) (tw_lt hk0 (congrFun hN 0)) eo31) (congrFun hN 112).symm
          refine tw_get (v := .ref (ad 112 o31)) hx hb hts (by decide +kernel) hown hK hP (by decide) (tw_lt hk0 (congrFun hN 0)) rfl rfl 12 (by decide) (hts (.fieldLink RX10 35 "WineCellarModel" "price" "[I") (by decide +kernel)) (fun _ h9 => h9) (show some (va_rf ((gR τ23 0 k0 12).map (ad 112))) = some (.ref (ad 112 o31)) by rw [eo31]; rfl) dX10_told_159 ?_
          refine lv_iload_n hx hb dX10_told_162 rfl (lv_at hl 1 rfl) ?_
          obtain ⟨hi32, hF⟩ := hF
          refine tw_iald hx hb hK hP (by decide) (tw_lt ho31 (congrFun hN 112)) rfl 0 rfl hi32 dX10_told_163 ?_
          exact W.iret (v := gI τ23 112 o31 x1.toNatClampNeg) hx hb hr (fun t ht hW => ⟨⟨(gI τ23 112 o31 x1.toNatClampNeg), τ23, rfl, ⟨hF, hN⟩, tw_at hP ht⟩, hS.F ht⟩) hS.2.2 dX10_told_164
        · have c9 : x2 = (3 : Int32) := tw_sw e9 rfl
          have hF := hF.2.2.2.1 c9
          refine lv_tableIn (off := 64) (tgt := 165) hx hb dX10_told_101 (by rw [e9]; decide) (by rw [e9]; decide) (by rw [e9]; rfl) (by decide) ?_
          refine lv_aload_n hx hb dX10_told_165 rfl (lv_at hl 0 rfl) ?_
          obtain ⟨o33, eo33, hF⟩ := hF
          have ho33 : o33 < gN τ0 113 := tw_lt (hP.2.2.2 0 k0 13 o33 (by decide) (tw_lt hk0 (congrFun hN 0)) eo33) (congrFun hN 113).symm
          refine tw_get (v := .ref (ad 113 o33)) hx hb hts (by decide +kernel) hown hK hP (by decide) (tw_lt hk0 (congrFun hN 0)) rfl rfl 13 (by decide) (hts (.fieldLink RX10 38 "WineCellarModel" "from" "[I") (by decide +kernel)) (fun _ h9 => h9) (show some (va_rf ((gR τ23 0 k0 13).map (ad 113))) = some (.ref (ad 113 o33)) by rw [eo33]; rfl) dX10_told_166 ?_
          refine lv_iload_n hx hb dX10_told_169 rfl (lv_at hl 1 rfl) ?_
          obtain ⟨hi34, hF⟩ := hF
          refine tw_iald hx hb hK hP (by decide) (tw_lt ho33 (congrFun hN 113)) rfl 0 rfl hi34 dX10_told_170 ?_
          exact W.iret (v := gI τ23 113 o33 x1.toNatClampNeg) hx hb hr (fun t ht hW => ⟨⟨(gI τ23 113 o33 x1.toNatClampNeg), τ23, rfl, ⟨hF, hN⟩, tw_at hP ht⟩, hS.F ht⟩) hS.2.2 dX10_told_171
        · have c9 : x2 = (4 : Int32) := tw_sw e9 rfl
          have hF := hF.2.2.2.2.1 c9
          refine lv_tableIn (off := 71) (tgt := 172) hx hb dX10_told_101 (by rw [e9]; decide) (by rw [e9]; decide) (by rw [e9]; rfl) (by decide) ?_
          refine lv_aload_n hx hb dX10_told_172 rfl (lv_at hl 0 rfl) ?_
          obtain ⟨o35, eo35, hF⟩ := hF
          have ho35 : o35 < gN τ0 114 := tw_lt (hP.2.2.2 0 k0 14 o35 (by decide) (tw_lt hk0 (congrFun hN 0)) eo35) (congrFun hN 114).symm
          refine tw_get (v := .ref (ad 114 o35)) hx hb hts (by decide +kernel) hown hK hP (by decide) (tw_lt hk0 (congrFun hN 0)) rfl rfl 14 (by decide) (hts (.fieldLink RX10 41 "WineCellarModel" "until" "[I") (by decide +kernel)) (fun _ h9 => h9) (show some (va_rf ((gR τ23 0 k0 14).map (ad 114))) = some (.ref (ad 114 o35)) by rw [eo35]; rfl) dX10_told_173 ?_
          refine lv_iload_n hx hb dX10_told_176 rfl (lv_at hl 1 rfl) ?_
          obtain ⟨hi36, hF⟩ := hF
          refine tw_iald hx hb hK hP (by decide) (tw_lt ho35 (congrFun hN 114)) rfl 0 rfl hi36 dX10_told_177 ?_
          exact W.iret (v := gI τ23 114 o35 x1.toNatClampNeg) hx hb hr (fun t ht hW => ⟨⟨(gI τ23 114 o35 x1.toNatClampNeg), τ23, rfl, ⟨hF, hN⟩, tw_at hP ht⟩, hS.F ht⟩) hS.2.2 dX10_told_178
        · have c9 : x2 = (5 : Int32) := tw_sw e9 rfl
          have hF := hF.2.2.2.2.2.1 c9
          refine lv_tableIn (off := 78) (tgt := 179) hx hb dX10_told_101 (by rw [e9]; decide) (by rw [e9]; decide) (by rw [e9]; rfl) (by decide) ?_
          refine lv_aload_n hx hb dX10_told_179 rfl (lv_at hl 0 rfl) ?_
          refine lv_iload_n hx hb dX10_told_180 rfl (lv_at hl 1 rfl) ?_
          refine va_calli (va_runV (As := [.int x1]) (rest := []) ⟨hx, hb, hml, hown, hts⟩ (mX10_bottlesOf l dC dI ac sa A ad τ23 k0 x1 _ hF (tw_lt hk0 (congrFun hN 0))) (cwV 1 hts gX10_told_X10_bottlesOf rfl rfl rfl (by decide +kernel) ⟨Nat.le_of_ble_eq_true rfl, Nat.le_of_ble_eq_true rfl⟩) ⟨BM.blind, tw_recv hK hP (by decide) (tw_lt hk0 (congrFun hN 0)) rfl rfl, fun U hU hW => ⟨rfl, BM.of hP hK hS hA hZ hU hW⟩⟩ rfl rfl hl.1 rfl (lv_room (Nat.le_of_ble_eq_true rfl)) dX10_told_181 ⟨Nat.le_of_ble_eq_true rfl, Nat.le_of_ble_eq_true rfl⟩) hS (fun q _ h => h) (fun q h => h) (fun r38 τ37 t H locs ht hvm hw hB hz hk hS => ?_)
          obtain ⟨hF, hN9⟩ := hw
          have hP : PM dC dI ac A ad τ37 H := tw_back hB ht
          have hN : gN τ37 = gN τ0 := hN9.trans hN
          exact W.iret (v := r38) hx hb hr (fun t ht hW => ⟨⟨r38, τ37, rfl, ⟨hF, hN⟩, tw_at hP ht⟩, hS.F ht⟩) hS.2.2 dX10_told_184
        · have c9 : x2 = (6 : Int32) := tw_sw e9 rfl
          have hF := hF.2.2.2.2.2.2 c9
          refine lv_tableIn (off := 84) (tgt := 185) hx hb dX10_told_101 (by rw [e9]; decide) (by rw [e9]; decide) (by rw [e9]; rfl) (by decide) ?_
          refine lv_iload_n hx hb dX10_told_185 rfl (lv_at hl 3 rfl) ?_
          exact W.iret (v := z24) hx hb hr (fun t ht hW => ⟨⟨z24, τ23, rfl, ⟨hF, hN⟩, tw_at hP ht⟩, hS.F ht⟩) hS.2.2 dX10_told_186
    · have hF := hF.2 c21
      refine lv_iconst (v := 0) hx hb dX10_told_29 (by decide) ?_
      exact W.iret (v := (0 : Int32)) hx hb hr (fun t ht hW => ⟨⟨((0 : Int32)), τ19, rfl, ⟨hF, hN⟩, tw_at hP ht⟩, hS.F ht⟩) hS.2.2 dX10_told_30
def J_X10_find_53 (τ : tw_T) (p0 : Nat) (u1 : Int32) (u2 : Int32) (u3 : Int32) (u4 : Int32) (Q : Int32 → tw_T → Prop) (RC EX : tw_T → Int32 → Int32 → Prop) : Prop := ∀ z1 : Int32, z1 = u4 + (1 : Int32) → (RC τ u3 z1)
def L_X10_find_21 (p0 : Nat) (u1 : Int32) (u2 : Int32) (Q : Int32 → tw_T → Prop) (EX : tw_T → Int32 → Int32 → Prop) : Nat → tw_T → Int32 → Int32 → Prop
  | 0, _, _, _ => False
  | n + 1, τ, u3, u4 => ((((30 : Int32)) ≤ u4 → (EX τ u3 u4)) ∧ (¬ ((30 : Int32)) ≤ u4 → (∃ o3 : Nat, gR τ 0 p0 23 = some o3 ∧ (vp_in u4 30 ∧ ((((gI τ 123 o3 u4.toNatClampNeg) = u1 → (((¬ u3 = u2 → (∀ z7 : Int32, z7 = u3 + (1 : Int32) → (J_X10_find_53 τ p0 u1 u2 z7 u4 Q (fun t v3 v4 => L_X10_find_21 p0 u1 u2 Q EX n t v3 v4) EX))) ∧ (u3 = u2 → (Q u4 τ))))) ∧ (¬ (gI τ 123 o3 u4.toNatClampNeg) = u1 → (J_X10_find_53 τ p0 u1 u2 u3 u4 Q (fun t v3 v4 => L_X10_find_21 p0 u1 u2 Q EX n t v3 v4) EX))))))))
def F_X10_find (τ0 : tw_T) (k0 : Nat) (x1 : Int32) (x2 : Int32) (Q : Int32 → tw_T → Prop) : Prop := ∀ τ8 : tw_T, τ8 = sI τ0 0 k0 0 ((0 : Int32)) → (F_X10_isLot τ8 k0 x1 ((1 : Int32)) (fun (r10 : Int32) (τ9 : tw_T) => (((¬ r10 = 0 → (∃ n12 : Nat, L_X10_find_21 k0 x1 x2 Q (fun (τ13 : tw_T) (z14 : Int32) (z15 : Int32) => Q ((-1 : Int32)) τ13) n12 τ9 ((0 : Int32)) ((0 : Int32)))) ∧ (r10 = 0 → (Q ((0 : Int32)) τ9))))))
def rmX10_find : Room := { frames := 2, cells := 0, slots := 0, locals := 44 }
set_option maxHeartbeats 4000000 in
set_option maxRecDepth 100000 in
theorem mX10_find (l : Launch) (dC : Nat → ClassId) (dI : Nat → Nat → Nat) (ac : Nat → ClassId) (sa : Nat → Nat) (A : Nat → Prop) (ad : Nat → Nat → Nat) (τ0 : tw_T) (k0 : Nat) (x1 : Int32) (x2 : Int32) (Q : Int32 → tw_T → Prop) (hF : F_X10_find τ0 k0 x1 x2 Q) (hk0 : k0 < gN τ0 0) : Met l yX10_find wsX10_find rmX10_find (va_Pc [.ref (ad 0 k0), .int x1, .int x2] (BM dC dI ac sa A ad τ0)) (va_Qi (fun r (u : tw_T) => Q r u ∧ gN u = gN τ0) (fun u t => PM dC dI ac A ad u t.heap) A) 0 0 A := by
  refine Met.ofW (cc := cX10_find) (maxL := 5) (ret := (some .int)) (by decide) rfl ?_
  intro p e s m args below meth c s₁ B hml hv
  obtain ⟨rfl, hP, hK, hA, hZ⟩ := hv
  have hx := B.exec
  have hb := B.bytes
  have hr := B.returns
  have hts := atoms_spec (ws := wsX10_find) B.pre
  have hown : s.vm.findClass RX10 = some m.cls := findClass_of_methodNamed B.named
  have hlocks := B.notSynchronized
  have hS : va_S A s.heap s.heap [] := va_S.rf
  have hN : gN τ0 = gN τ0 := rfl
  have hl := lv_entry ([.ref (ad 0 k0), .int x1, .int x2]) (n := 5) (Nat.le_of_ble_eq_true rfl)
  rw [lg_entry_eq]
  generalize (lg_sl ([.ref (ad 0 k0), .int x1, .int x2]) ++ List.replicate (5 - (lg_sl ([.ref (ad 0 k0), .int x1, .int x2])).length) Slot.unset).toArray = ls at hl ⊢
  have hl : lv_has ls 5 [(0, .ref (ad 0 k0)), (1, .int x1), (2, .int x2)] := hl
  unfold F_X10_find at hF
  have l21 : ∀ (p0 : Nat) (hp0 : p0 < gN τ0 0) (u1 : Int32) (u2 : Int32) (EX : tw_T → Int32 → Int32 → Prop) (n : Nat) (τ : tw_T) (u3 : Int32) (u4 : Int32) (H : Heap) (locs : List Loc) (ls : Array Slot), L_X10_find_21 p0 u1 u2 Q EX n τ u3 u4 → PM dC dI ac A ad τ H → gN τ = gN τ0 → va_S A s.heap H locs → lv_has ls 5 [(0, .ref (ad 0 p0)), (1, .int u1), (2, .int u2), (3, .int u3), (4, .int u4)] → (∀ (τ : tw_T) (u3 : Int32) (u4 : Int32) (H : Heap) (locs : List Loc) (ls : Array Slot), EX τ u3 u4 → PM dC dI ac A ad τ H → gN τ = gN τ0 → va_S A s.heap H locs → lv_has ls 5 [(0, .ref (ad 0 p0)), (1, .int u1), (2, .int u2), (3, .int u3), (4, .int u4)] → W p l e rmX10_find s m ([.ref (ad 0 k0), .int x1, .int x2] : List Value).toArray below meth c H locs 0 0 (MQ below (va_Qi (fun r (u : tw_T) => Q r u ∧ gN u = gN τ0) (fun u t => PM dC dI ac A ad u t.heap) A) ([.ref (ad 0 k0), .int x1, .int x2] : List Value).toArray s 0 0 A) (F0 m 59 ls [])) → W p l e rmX10_find s m ([.ref (ad 0 k0), .int x1, .int x2] : List Value).toArray below meth c H locs 0 0 (MQ below (va_Qi (fun r (u : tw_T) => Q r u ∧ gN u = gN τ0) (fun u t => PM dC dI ac A ad u t.heap) A) ([.ref (ad 0 k0), .int x1, .int x2] : List Value).toArray s 0 0 A) (F0 m 21 ls []) := by
    intro p0 hp0 u1 u2 EX n
    induction n with
    | zero => intro τ u3 u4 H locs ls hF; exact hF.elim
    | succ n ih =>
      intro τ u3 u4 H locs ls hF hP hN hS hl hEX
      rw [L_X10_find_21] at hF
      have j53 : ∀ (τ : tw_T) (p0 : Nat) (hp0 : p0 < gN τ0 0) (u1 : Int32) (u2 : Int32) (u3 : Int32) (u4 : Int32) (H : Heap) (locs : List Loc) (ls : Array Slot) (RC EX : tw_T → Int32 → Int32 → Prop), J_X10_find_53 τ p0 u1 u2 u3 u4 Q RC EX → PM dC dI ac A ad τ H → gN τ = gN τ0 → va_S A s.heap H locs → lv_has ls 5 [(0, .ref (ad 0 p0)), (1, .int u1), (2, .int u2), (3, .int u3), (4, .int u4)] → (∀ (τ : tw_T) (u3 : Int32) (u4 : Int32) (H : Heap) (locs : List Loc) (ls : Array Slot), RC τ u3 u4 → PM dC dI ac A ad τ H → gN τ = gN τ0 → va_S A s.heap H locs → lv_has ls 5 [(0, .ref (ad 0 p0)), (1, .int u1), (2, .int u2), (3, .int u3), (4, .int u4)] → W p l e rmX10_find s m ([.ref (ad 0 k0), .int x1, .int x2] : List Value).toArray below meth c H locs 0 0 (MQ below (va_Qi (fun r (u : tw_T) => Q r u ∧ gN u = gN τ0) (fun u t => PM dC dI ac A ad u t.heap) A) ([.ref (ad 0 k0), .int x1, .int x2] : List Value).toArray s 0 0 A) (F0 m 21 ls [])) → (∀ (τ : tw_T) (u3 : Int32) (u4 : Int32) (H : Heap) (locs : List Loc) (ls : Array Slot), EX τ u3 u4 → PM dC dI ac A ad τ H → gN τ = gN τ0 → va_S A s.heap H locs → lv_has ls 5 [(0, .ref (ad 0 p0)), (1, .int u1), (2, .int u2), (3, .int u3), (4, .int u4)] → W p l e rmX10_find s m ([.ref (ad 0 k0), .int x1, .int x2] : List Value).toArray below meth c H locs 0 0 (MQ below (va_Qi (fun r (u : tw_T) => Q r u ∧ gN u = gN τ0) (fun u t => PM dC dI ac A ad u t.heap) A) ([.ref (ad 0 k0), .int x1, .int x2] : List Value).toArray s 0 0 A) (F0 m 59 ls [])) → W p l e rmX10_find s m ([.ref (ad 0 k0), .int x1, .int x2] : List Value).toArray below meth c H locs 0 0 (MQ below (va_Qi (fun r (u : tw_T) => Q r u ∧ gN u = gN τ0) (fun u t => PM dC dI ac A ad u t.heap) A) ([.ref (ad 0 k0), .int x1, .int x2] : List Value).toArray s 0 0 A) (F0 m 53 ls []) := by
        intro τ p0 hp0 u1 u2 u3 u4 H locs ls RC EX hF hP hN hS hl hRC hEX
        unfold J_X10_find_53 at hF
        obtain ⟨z1, ez1⟩ : ∃ y : Int32, y = u4 + (1 : Int32) := ⟨_, rfl⟩
        have hF := hF z1 ez1
        refine lv_iinc (v := z1) (lv' := [(4, .int z1), (0, .ref (ad 0 p0)), (1, .int u1), (2, .int u2), (3, .int u3)]) hx hb dX10_find_53 hl (k := 4) rfl (by rw [ez1]; rfl) (by decide) rfl (fun ls hl => ?_)
        refine lv_goto (tgt := 21) hx hb dX10_find_56 (by decide) ?_
        exact hRC τ u3 z1 _ _ _ hF hP hN hS (lv_sub hl [1, 2, 3, 4, 0] rfl)
      refine lv_iload hx hb dX10_find_21 (lv_at hl 4 rfl) ?_
      refine lv_bipush (v := 30) hx hb dX10_find_23 (by decide) ?_
      refine lv_icmp_ge (tgt := 59) hx hb dX10_find_25 (by decide) (fun c2 => ?_) (fun c2 => ?_)
      · have hF := hF.1 c2
        exact hEX τ u3 u4 _ _ _ hF hP hN hS (lv_sub hl [0, 1, 2, 3, 4] rfl)
      · have hF := hF.2 c2
        refine lv_aload_n hx hb dX10_find_28 rfl (lv_at hl 0 rfl) ?_
        obtain ⟨o3, eo3, hF⟩ := hF
        have ho3 : o3 < gN τ0 123 := tw_lt (hP.2.2.2 0 p0 23 o3 (by decide) (tw_lt hp0 (congrFun hN 0)) eo3) (congrFun hN 123).symm
        refine tw_get (v := .ref (ad 123 o3)) hx hb hts (by decide +kernel) hown hK hP (by decide) (tw_lt hp0 (congrFun hN 0)) rfl rfl 23 (by decide) (hts (.fieldLink RX10 44 "WineCellarModel" "cellLot" "[I") (by decide +kernel)) (fun _ h9 => h9) (show some (va_rf ((gR τ 0 p0 23).map (ad 123))) = some (.ref (ad 123 o3)) by rw [eo3]; rfl) dX10_find_29 ?_
        refine lv_iload hx hb dX10_find_32 (lv_at hl 4 rfl) ?_
        obtain ⟨hi4, hF⟩ := hF
        refine tw_iald hx hb hK hP (by decide) (tw_lt ho3 (congrFun hN 123)) rfl 0 rfl hi4 dX10_find_34 ?_
        refine lv_iload_n hx hb dX10_find_35 rfl (lv_at hl 1 rfl) ?_
        refine lv_icmp_eq (tgt := 42) hx hb dX10_find_36 (by decide) (fun c5 => ?_) (fun c5 => ?_)
        · have hF := hF.1 c5
          refine lv_iload_n hx hb dX10_find_42 rfl (lv_at hl 3 rfl) ?_
          refine lv_iload_n hx hb dX10_find_43 rfl (lv_at hl 2 rfl) ?_
          refine lv_icmp_ne (tgt := 50) hx hb dX10_find_44 (by decide) (fun c6 => ?_) (fun c6 => ?_)
          · have hF := hF.1 c6
            obtain ⟨z7, ez7⟩ : ∃ y : Int32, y = u3 + (1 : Int32) := ⟨_, rfl⟩
            have hF := hF z7 ez7
            refine lv_iinc (v := z7) (lv' := [(3, .int z7), (0, .ref (ad 0 p0)), (1, .int u1), (2, .int u2), (4, .int u4)]) hx hb dX10_find_50 hl (k := 3) rfl (by rw [ez7]; rfl) (by decide) rfl (fun ls hl => ?_)
            exact j53 τ p0 hp0 u1 u2 z7 u4 _ _ _ _ _ hF hP hN hS (lv_sub hl [1, 2, 3, 0, 4] rfl) (fun t v3 v4 H locs ls hF hP hN hS hl => ih t v3 v4 _ _ _ hF hP hN hS hl hEX) hEX
          · have hF := hF.2 c6
            refine lv_iload hx hb dX10_find_47 (lv_at hl 4 rfl) ?_
            exact W.iret (v := u4) hx hb hr (fun t ht hW => ⟨⟨u4, τ, rfl, ⟨hF, hN⟩, tw_at hP ht⟩, hS.F ht⟩) hS.2.2 dX10_find_49
        · have hF := hF.2 c5
          refine lv_goto (tgt := 53) hx hb dX10_find_39 (by decide) ?_
          exact j53 τ p0 hp0 u1 u2 u3 u4 _ _ _ _ _ hF hP hN hS (lv_sub hl [0, 1, 2, 3, 4] rfl) (fun t v3 v4 H locs ls hF hP hN hS hl => ih t v3 v4 _ _ _ hF hP hN hS hl hEX) hEX
  refine lv_aload_n hx hb dX10_find_0 rfl (lv_at hl 0 rfl) ?_
  refine lv_iconst (v := 0) hx hb dX10_find_1 (by decide) ?_
  refine tw_put (τ' := sI τ0 0 k0 0 ((0 : Int32))) (ty := .int) hx hb hts (by decide +kernel) tyX10 tyX10_ok nmX10 hown hK hP hS (by decide) hk0 rfl rfl 0 (by decide) (hts (.fieldLink RX10 1 "WineCellarModel" "thrown" "I") (by decide +kernel)) (fun _ h9 => h9) rfl (by decide +kernel) rfl rfl (Nat.le_of_ble_eq_true rfl) dX10_find_2 (fun H1 ha ho => tw_updI hP (by decide) hk0 ha ho) (fun H locs hP hS => ?_)
  obtain ⟨τ8, eτ8⟩ : ∃ y : tw_T, y = sI τ0 0 k0 0 ((0 : Int32)) := ⟨_, rfl⟩
  have hF := hF τ8 eτ8
  rw [← eτ8] at hP
  have hN : gN τ8 = gN τ0 := by rw [eτ8]; exact hN
  refine lv_aload_n hx hb dX10_find_5 rfl (lv_at hl 0 rfl) ?_
  refine lv_iload_n hx hb dX10_find_6 rfl (lv_at hl 1 rfl) ?_
  refine lv_iconst (v := 1) hx hb dX10_find_7 (by decide) ?_
  refine va_calli (va_runV (As := [.int x1, .int ((1 : Int32))]) (rest := []) ⟨hx, hb, hml, hown, hts⟩ (mX10_isLot l dC dI ac sa A ad τ8 k0 x1 ((1 : Int32)) _ hF (tw_lt hk0 (congrFun hN 0))) (cwV 2 hts gX10_find_X10_isLot rfl rfl rfl (by decide +kernel) ⟨Nat.le_of_ble_eq_true rfl, Nat.le_of_ble_eq_true rfl⟩) ⟨BM.blind, tw_recv hK hP (by decide) (tw_lt hk0 (congrFun hN 0)) rfl rfl, fun U hU hW => ⟨rfl, BM.of hP hK hS hA hZ hU hW⟩⟩ rfl rfl hl.1 rfl (lv_room (Nat.le_of_ble_eq_true rfl)) dX10_find_8 ⟨Nat.le_of_ble_eq_true rfl, Nat.le_of_ble_eq_true rfl⟩) hS (fun q _ h => h) (fun q h => h) (fun r10 τ9 t H locs ht hvm hw hB hz hk hS => ?_)
  obtain ⟨hF, hN9⟩ := hw
  have hP : PM dC dI ac A ad τ9 H := tw_back hB ht
  have hN : gN τ9 = gN τ0 := hN9.trans hN
  refine lv_if_ne (tgt := 16) hx hb dX10_find_11 (by decide) (fun c11 => ?_) (fun c11 => ?_)
  · have hF := hF.1 c11
    refine lv_iconst (v := 0) hx hb dX10_find_16 (by decide) ?_
    refine lv_istore_n (lv' := [(3, .int ((0 : Int32))), (0, .ref (ad 0 k0)), (1, .int x1), (2, .int x2)]) hx hb dX10_find_17 rfl hl (by decide) rfl (fun ls hl => ?_)
    refine lv_iconst (v := 0) hx hb dX10_find_18 (by decide) ?_
    refine lv_istore (lv' := [(4, .int ((0 : Int32))), (3, .int ((0 : Int32))), (0, .ref (ad 0 k0)), (1, .int x1), (2, .int x2)]) hx hb dX10_find_19 hl (by decide) rfl (fun ls hl => ?_)
    obtain ⟨n12, hF⟩ := hF
    refine l21 k0 hk0 x1 x2 _ n12 τ9 ((0 : Int32)) ((0 : Int32)) _ _ _ hF hP hN hS (lv_sub hl [2, 3, 4, 1, 0] rfl) ?_
    intro τ13 z14 z15 H locs ls hF hP hN hS hl
    refine lv_iconst (v := (-1)) hx hb dX10_find_59 (by decide) ?_
    exact W.iret (v := (-1 : Int32)) hx hb hr (fun t ht hW => ⟨⟨((-1 : Int32)), τ13, rfl, ⟨hF, hN⟩, tw_at hP ht⟩, hS.F ht⟩) hS.2.2 dX10_find_60
  · have hF := hF.2 c11
    refine lv_iconst (v := 0) hx hb dX10_find_14 (by decide) ?_
    exact W.iret (v := (0 : Int32)) hx hb hr (fun t ht hW => ⟨⟨((0 : Int32)), τ9, rfl, ⟨hF, hN⟩, tw_at hP ht⟩, hS.F ht⟩) hS.2.2 dX10_find_15
def F_X10_isForSale (τ0 : tw_T) (k0 : Nat) (x1 : Int32) (Q : Int32 → tw_T → Prop) : Prop := F_X10_year τ0 k0 (fun (r2 : Int32) (τ1 : tw_T) => (∃ o3 : Nat, gR τ1 0 k0 13 = some o3 ∧ (vp_in x1 60 ∧ (((r2 < (gI τ1 113 o3 x1.toNatClampNeg) → (Q ((0 : Int32)) τ1)) ∧ (¬ r2 < (gI τ1 113 o3 x1.toNatClampNeg) → (F_X10_year τ1 k0 (fun (r7 : Int32) (τ6 : tw_T) => (∃ o8 : Nat, gR τ6 0 k0 14 = some o8 ∧ (vp_in x1 60 ∧ (((r7 ≤ (gI τ6 114 o8 x1.toNatClampNeg) → (Q ((1 : Int32)) τ6)) ∧ (¬ r7 ≤ (gI τ6 114 o8 x1.toNatClampNeg) → (∃ o11 : Nat, gR τ6 0 k0 5 = some o11 ∧ (∃ o12 : Nat, gR τ6 0 k0 10 = some o12 ∧ (vp_in x1 60 ∧ (vp_in (gI τ6 110 o12 x1.toNatClampNeg) 20 ∧ (((¬ (gI τ6 105 o11 (gI τ6 110 o12 x1.toNatClampNeg).toNatClampNeg) = ((2 : Int32)) → (Q ((0 : Int32)) τ6)) ∧ ((gI τ6 105 o11 (gI τ6 110 o12 x1.toNatClampNeg).toNatClampNeg) = ((2 : Int32)) → (Q ((1 : Int32)) τ6)))))))))))))))))))))
def rmX10_isForSale : Room := { frames := 1, cells := 0, slots := 0, locals := 20 }
set_option maxHeartbeats 4000000 in
set_option maxRecDepth 100000 in
theorem mX10_isForSale (l : Launch) (dC : Nat → ClassId) (dI : Nat → Nat → Nat) (ac : Nat → ClassId) (sa : Nat → Nat) (A : Nat → Prop) (ad : Nat → Nat → Nat) (τ0 : tw_T) (k0 : Nat) (x1 : Int32) (Q : Int32 → tw_T → Prop) (hF : F_X10_isForSale τ0 k0 x1 Q) (hk0 : k0 < gN τ0 0) : Met l yX10_isForSale wsX10_isForSale rmX10_isForSale (va_Pc [.ref (ad 0 k0), .int x1] (BM dC dI ac sa A ad τ0)) (va_Qi (fun r (u : tw_T) => Q r u ∧ gN u = gN τ0) (fun u t => PM dC dI ac A ad u t.heap) A) 0 0 A := by
  refine Met.ofW (cc := cX10_isForSale) (maxL := 2) (ret := (some .boolean)) (by decide) rfl ?_
  intro p e s m args below meth c s₁ B hml hv
  obtain ⟨rfl, hP, hK, hA, hZ⟩ := hv
  have hx := B.exec
  have hb := B.bytes
  have hr := B.returns
  have hts := atoms_spec (ws := wsX10_isForSale) B.pre
  have hown : s.vm.findClass RX10 = some m.cls := findClass_of_methodNamed B.named
  have hlocks := B.notSynchronized
  have hS : va_S A s.heap s.heap [] := va_S.rf
  have hN : gN τ0 = gN τ0 := rfl
  have hl := lv_entry ([.ref (ad 0 k0), .int x1]) (n := 2) (Nat.le_of_ble_eq_true rfl)
  rw [lg_entry_eq]
  generalize (lg_sl ([.ref (ad 0 k0), .int x1]) ++ List.replicate (2 - (lg_sl ([.ref (ad 0 k0), .int x1])).length) Slot.unset).toArray = ls at hl ⊢
  have hl : lv_has ls 2 [(0, .ref (ad 0 k0)), (1, .int x1)] := hl
  unfold F_X10_isForSale at hF
  refine lv_aload_n hx hb dX10_isForSale_0 rfl (lv_at hl 0 rfl) ?_
  refine va_calli (va_runV (As := []) (rest := []) ⟨hx, hb, hml, hown, hts⟩ (mX10_year l dC dI ac sa A ad τ0 k0 _ hF hk0) (cwV 0 hts gX10_isForSale_X10_year rfl rfl rfl (by decide +kernel) ⟨Nat.le_of_ble_eq_true rfl, Nat.le_of_ble_eq_true rfl⟩) ⟨BM.blind, tw_recv hK hP (by decide) hk0 rfl rfl, fun U hU hW => ⟨rfl, BM.of hP hK hS hA hZ hU hW⟩⟩ rfl rfl hl.1 rfl (lv_room (Nat.le_of_ble_eq_true rfl)) dX10_isForSale_1 ⟨Nat.le_of_ble_eq_true rfl, Nat.le_of_ble_eq_true rfl⟩) hS (fun q _ h => h) (fun q h => h) (fun r2 τ1 t H locs ht hvm hw hB hz hk hS => ?_)
  obtain ⟨hF, hN9⟩ := hw
  have hP : PM dC dI ac A ad τ1 H := tw_back hB ht
  have hN : gN τ1 = gN τ0 := hN9.trans hN
  refine lv_aload_n hx hb dX10_isForSale_4 rfl (lv_at hl 0 rfl) ?_
  obtain ⟨o3, eo3, hF⟩ := hF
  have ho3 : o3 < gN τ0 113 := tw_lt (hP.2.2.2 0 k0 13 o3 (by decide) (tw_lt hk0 (congrFun hN 0)) eo3) (congrFun hN 113).symm
  refine tw_get (v := .ref (ad 113 o3)) hx hb hts (by decide +kernel) hown hK hP (by decide) (tw_lt hk0 (congrFun hN 0)) rfl rfl 13 (by decide) (hts (.fieldLink RX10 38 "WineCellarModel" "from" "[I") (by decide +kernel)) (fun _ h9 => h9) (show some (va_rf ((gR τ1 0 k0 13).map (ad 113))) = some (.ref (ad 113 o3)) by rw [eo3]; rfl) dX10_isForSale_5 ?_
  refine lv_iload_n hx hb dX10_isForSale_8 rfl (lv_at hl 1 rfl) ?_
  obtain ⟨hi4, hF⟩ := hF
  refine tw_iald hx hb hK hP (by decide) (tw_lt ho3 (congrFun hN 113)) rfl 0 rfl hi4 dX10_isForSale_9 ?_
  refine lv_icmp_lt (tgt := 45) hx hb dX10_isForSale_10 (by decide) (fun c5 => ?_) (fun c5 => ?_)
  · have hF := hF.1 c5
    refine lv_iconst (v := 0) hx hb dX10_isForSale_45 (by decide) ?_
    exact W.zret (v := (0 : Int32)) (ty := .boolean) hx hb hr rfl (fun t ht hW => ⟨⟨((0 : Int32)), τ1, rfl, ⟨hF, hN⟩, tw_at hP ht⟩, hS.F ht⟩) hS.2.2 dX10_isForSale_46
  · have hF := hF.2 c5
    refine lv_aload_n hx hb dX10_isForSale_13 rfl (lv_at hl 0 rfl) ?_
    refine va_calli (va_runV (As := []) (rest := []) ⟨hx, hb, hml, hown, hts⟩ (mX10_year l dC dI ac sa A ad τ1 k0 _ hF (tw_lt hk0 (congrFun hN 0))) (cwV 0 hts gX10_isForSale_X10_year rfl rfl rfl (by decide +kernel) ⟨Nat.le_of_ble_eq_true rfl, Nat.le_of_ble_eq_true rfl⟩) ⟨BM.blind, tw_recv hK hP (by decide) (tw_lt hk0 (congrFun hN 0)) rfl rfl, fun U hU hW => ⟨rfl, BM.of hP hK hS hA hZ hU hW⟩⟩ rfl rfl hl.1 rfl (lv_room (Nat.le_of_ble_eq_true rfl)) dX10_isForSale_14 ⟨Nat.le_of_ble_eq_true rfl, Nat.le_of_ble_eq_true rfl⟩) hS (fun q _ h => h) (fun q h => h) (fun r7 τ6 t H locs ht hvm hw hB hz hk hS => ?_)
    obtain ⟨hF, hN9⟩ := hw
    have hP : PM dC dI ac A ad τ6 H := tw_back hB ht
    have hN : gN τ6 = gN τ0 := hN9.trans hN
    refine lv_aload_n hx hb dX10_isForSale_17 rfl (lv_at hl 0 rfl) ?_
    obtain ⟨o8, eo8, hF⟩ := hF
    have ho8 : o8 < gN τ0 114 := tw_lt (hP.2.2.2 0 k0 14 o8 (by decide) (tw_lt hk0 (congrFun hN 0)) eo8) (congrFun hN 114).symm
    refine tw_get (v := .ref (ad 114 o8)) hx hb hts (by decide +kernel) hown hK hP (by decide) (tw_lt hk0 (congrFun hN 0)) rfl rfl 14 (by decide) (hts (.fieldLink RX10 41 "WineCellarModel" "until" "[I") (by decide +kernel)) (fun _ h9 => h9) (show some (va_rf ((gR τ6 0 k0 14).map (ad 114))) = some (.ref (ad 114 o8)) by rw [eo8]; rfl) dX10_isForSale_18 ?_
    refine lv_iload_n hx hb dX10_isForSale_21 rfl (lv_at hl 1 rfl) ?_
    obtain ⟨hi9, hF⟩ := hF
    refine tw_iald hx hb hK hP (by decide) (tw_lt ho8 (congrFun hN 114)) rfl 0 rfl hi9 dX10_isForSale_22 ?_
    refine lv_icmp_le (tgt := 41) hx hb dX10_isForSale_23 (by decide) (fun c10 => ?_) (fun c10 => ?_)
    · have hF := hF.1 c10
      refine lv_iconst (v := 1) hx hb dX10_isForSale_41 (by decide) ?_
      refine lv_goto (tgt := 46) hx hb dX10_isForSale_42 (by decide) ?_
      exact W.zret (v := (1 : Int32)) (ty := .boolean) hx hb hr rfl (fun t ht hW => ⟨⟨((1 : Int32)), τ6, rfl, ⟨hF, hN⟩, tw_at hP ht⟩, hS.F ht⟩) hS.2.2 dX10_isForSale_46
    · have hF := hF.2 c10
      refine lv_aload_n hx hb dX10_isForSale_26 rfl (lv_at hl 0 rfl) ?_
      obtain ⟨o11, eo11, hF⟩ := hF
      have ho11 : o11 < gN τ0 105 := tw_lt (hP.2.2.2 0 k0 5 o11 (by decide) (tw_lt hk0 (congrFun hN 0)) eo11) (congrFun hN 105).symm
      refine tw_get (v := .ref (ad 105 o11)) hx hb hts (by decide +kernel) hown hK hP (by decide) (tw_lt hk0 (congrFun hN 0)) rfl rfl 5 (by decide) (hts (.fieldLink RX10 13 "WineCellarModel" "sort" "[I") (by decide +kernel)) (fun _ h9 => h9) (show some (va_rf ((gR τ6 0 k0 5).map (ad 105))) = some (.ref (ad 105 o11)) by rw [eo11]; rfl) dX10_isForSale_27 ?_
      refine lv_aload_n hx hb dX10_isForSale_30 rfl (lv_at hl 0 rfl) ?_
      obtain ⟨o12, eo12, hF⟩ := hF
      have ho12 : o12 < gN τ0 110 := tw_lt (hP.2.2.2 0 k0 10 o12 (by decide) (tw_lt hk0 (congrFun hN 0)) eo12) (congrFun hN 110).symm
      refine tw_get (v := .ref (ad 110 o12)) hx hb hts (by decide +kernel) hown hK hP (by decide) (tw_lt hk0 (congrFun hN 0)) rfl rfl 10 (by decide) (hts (.fieldLink RX10 29 "WineCellarModel" "kindOf" "[I") (by decide +kernel)) (fun _ h9 => h9) (show some (va_rf ((gR τ6 0 k0 10).map (ad 110))) = some (.ref (ad 110 o12)) by rw [eo12]; rfl) dX10_isForSale_31 ?_
      refine lv_iload_n hx hb dX10_isForSale_34 rfl (lv_at hl 1 rfl) ?_
      obtain ⟨hi13, hF⟩ := hF
      refine tw_iald hx hb hK hP (by decide) (tw_lt ho12 (congrFun hN 110)) rfl 0 rfl hi13 dX10_isForSale_35 ?_
      obtain ⟨hi14, hF⟩ := hF
      refine tw_iald hx hb hK hP (by decide) (tw_lt ho11 (congrFun hN 105)) rfl 0 rfl hi14 dX10_isForSale_36 ?_
      refine lv_iconst (v := 2) hx hb dX10_isForSale_37 (by decide) ?_
      refine lv_icmp_ne (tgt := 45) hx hb dX10_isForSale_38 (by decide) (fun c15 => ?_) (fun c15 => ?_)
      · have hF := hF.1 c15
        refine lv_iconst (v := 0) hx hb dX10_isForSale_45 (by decide) ?_
        exact W.zret (v := (0 : Int32)) (ty := .boolean) hx hb hr rfl (fun t ht hW => ⟨⟨((0 : Int32)), τ6, rfl, ⟨hF, hN⟩, tw_at hP ht⟩, hS.F ht⟩) hS.2.2 dX10_isForSale_46
      · have hF := hF.2 c15
        refine lv_iconst (v := 1) hx hb dX10_isForSale_41 (by decide) ?_
        refine lv_goto (tgt := 46) hx hb dX10_isForSale_42 (by decide) ?_
        exact W.zret (v := (1 : Int32)) (ty := .boolean) hx hb hr rfl (fun t ht hW => ⟨⟨((1 : Int32)), τ6, rfl, ⟨hF, hN⟩, tw_at hP ht⟩, hS.F ht⟩) hS.2.2 dX10_isForSale_46
def F_X10_sell (τ0 : tw_T) (k0 : Nat) (x1 : Int32) (Q : Int32 → tw_T → Prop) : Prop := ∀ τ1 : tw_T, τ1 = sI τ0 0 k0 0 ((0 : Int32)) → (F_X10_isCell τ1 k0 x1 (fun (r3 : Int32) (τ2 : tw_T) => (((¬ r3 = 0 → (∃ o5 : Nat, gR τ2 0 k0 23 = some o5 ∧ (vp_in x1 30 ∧ (∀ z7 : Int32, z7 = gI τ2 123 o5 x1.toNatClampNeg → (((¬ z7 = ((-1 : Int32)) → (F_X10_isForSale τ2 k0 z7 (fun (r10 : Int32) (τ9 : tw_T) => (((¬ r10 = 0 → (F_X10_adds τ9 k0 x1 z7 ((-1 : Int32)) (fun (τ12 : tw_T) => (∀ τ13 : tw_T, τ13 = sI τ12 0 k0 17 ((gI τ12 0 k0 17) + ((1 : Int32))) → (F_X10_year τ13 k0 (fun (r15 : Int32) (τ14 : tw_T) => (F_X10_worthOf τ14 k0 z7 r15 (fun (r17 : Int32) (τ16 : tw_T) => (∀ τ18 : tw_T, τ18 = sJ τ16 0 k0 4 ((gJ τ13 0 k0 4) + r17.toInt64) → (F_X10_year τ18 k0 (fun (r20 : Int32) (τ19 : tw_T) => (F_X10_worthOf τ19 k0 z7 r20 (fun (r22 : Int32) (τ21 : tw_T) => (Q r22 τ21)))))))))))))) ∧ (r10 = 0 → (Q ((-2 : Int32)) τ9))))))) ∧ (z7 = ((-1 : Int32)) → (Q ((-1 : Int32)) τ2)))))))) ∧ (r3 = 0 → (Q ((0 : Int32)) τ2))))))
def rmX10_sell : Room := { frames := 2, cells := 0, slots := 0, locals := 43 }
set_option maxHeartbeats 4000000 in
set_option maxRecDepth 100000 in
theorem mX10_sell (l : Launch) (dC : Nat → ClassId) (dI : Nat → Nat → Nat) (ac : Nat → ClassId) (sa : Nat → Nat) (A : Nat → Prop) (ad : Nat → Nat → Nat) (τ0 : tw_T) (k0 : Nat) (x1 : Int32) (Q : Int32 → tw_T → Prop) (hF : F_X10_sell τ0 k0 x1 Q) (hk0 : k0 < gN τ0 0) : Met l yX10_sell wsX10_sell rmX10_sell (va_Pc [.ref (ad 0 k0), .int x1] (BM dC dI ac sa A ad τ0)) (va_Qi (fun r (u : tw_T) => Q r u ∧ gN u = gN τ0) (fun u t => PM dC dI ac A ad u t.heap) A) 0 0 A := by
  refine Met.ofW (cc := cX10_sell) (maxL := 3) (ret := (some .int)) (by decide) rfl ?_
  intro p e s m args below meth c s₁ B hml hv
  obtain ⟨rfl, hP, hK, hA, hZ⟩ := hv
  have hx := B.exec
  have hb := B.bytes
  have hr := B.returns
  have hts := atoms_spec (ws := wsX10_sell) B.pre
  have hown : s.vm.findClass RX10 = some m.cls := findClass_of_methodNamed B.named
  have hlocks := B.notSynchronized
  have hS : va_S A s.heap s.heap [] := va_S.rf
  have hN : gN τ0 = gN τ0 := rfl
  have hl := lv_entry ([.ref (ad 0 k0), .int x1]) (n := 3) (Nat.le_of_ble_eq_true rfl)
  rw [lg_entry_eq]
  generalize (lg_sl ([.ref (ad 0 k0), .int x1]) ++ List.replicate (3 - (lg_sl ([.ref (ad 0 k0), .int x1])).length) Slot.unset).toArray = ls at hl ⊢
  have hl : lv_has ls 3 [(0, .ref (ad 0 k0)), (1, .int x1)] := hl
  unfold F_X10_sell at hF
  refine lv_aload_n hx hb dX10_sell_0 rfl (lv_at hl 0 rfl) ?_
  refine lv_iconst (v := 0) hx hb dX10_sell_1 (by decide) ?_
  refine tw_put (τ' := sI τ0 0 k0 0 ((0 : Int32))) (ty := .int) hx hb hts (by decide +kernel) tyX10 tyX10_ok nmX10 hown hK hP hS (by decide) hk0 rfl rfl 0 (by decide) (hts (.fieldLink RX10 1 "WineCellarModel" "thrown" "I") (by decide +kernel)) (fun _ h9 => h9) rfl (by decide +kernel) rfl rfl (Nat.le_of_ble_eq_true rfl) dX10_sell_2 (fun H1 ha ho => tw_updI hP (by decide) hk0 ha ho) (fun H locs hP hS => ?_)
  obtain ⟨τ1, eτ1⟩ : ∃ y : tw_T, y = sI τ0 0 k0 0 ((0 : Int32)) := ⟨_, rfl⟩
  have hF := hF τ1 eτ1
  rw [← eτ1] at hP
  have hN : gN τ1 = gN τ0 := by rw [eτ1]; exact hN
  refine lv_aload_n hx hb dX10_sell_5 rfl (lv_at hl 0 rfl) ?_
  refine lv_iload_n hx hb dX10_sell_6 rfl (lv_at hl 1 rfl) ?_
  refine va_calli (va_runV (As := [.int x1]) (rest := []) ⟨hx, hb, hml, hown, hts⟩ (mX10_isCell l dC dI ac sa A ad τ1 k0 x1 _ hF (tw_lt hk0 (congrFun hN 0))) (cwV 1 hts gX10_sell_X10_isCell rfl rfl rfl (by decide +kernel) ⟨Nat.le_of_ble_eq_true rfl, Nat.le_of_ble_eq_true rfl⟩) ⟨BM.blind, tw_recv hK hP (by decide) (tw_lt hk0 (congrFun hN 0)) rfl rfl, fun U hU hW => ⟨rfl, BM.of hP hK hS hA hZ hU hW⟩⟩ rfl rfl hl.1 rfl (lv_room (Nat.le_of_ble_eq_true rfl)) dX10_sell_7 ⟨Nat.le_of_ble_eq_true rfl, Nat.le_of_ble_eq_true rfl⟩) hS (fun q _ h => h) (fun q h => h) (fun r3 τ2 t H locs ht hvm hw hB hz hk hS => ?_)
  obtain ⟨hF, hN9⟩ := hw
  have hP : PM dC dI ac A ad τ2 H := tw_back hB ht
  have hN : gN τ2 = gN τ0 := hN9.trans hN
  refine lv_if_ne (tgt := 15) hx hb dX10_sell_10 (by decide) (fun c4 => ?_) (fun c4 => ?_)
  · have hF := hF.1 c4
    refine lv_aload_n hx hb dX10_sell_15 rfl (lv_at hl 0 rfl) ?_
    obtain ⟨o5, eo5, hF⟩ := hF
    have ho5 : o5 < gN τ0 123 := tw_lt (hP.2.2.2 0 k0 23 o5 (by decide) (tw_lt hk0 (congrFun hN 0)) eo5) (congrFun hN 123).symm
    refine tw_get (v := .ref (ad 123 o5)) hx hb hts (by decide +kernel) hown hK hP (by decide) (tw_lt hk0 (congrFun hN 0)) rfl rfl 23 (by decide) (hts (.fieldLink RX10 44 "WineCellarModel" "cellLot" "[I") (by decide +kernel)) (fun _ h9 => h9) (show some (va_rf ((gR τ2 0 k0 23).map (ad 123))) = some (.ref (ad 123 o5)) by rw [eo5]; rfl) dX10_sell_16 ?_
    refine lv_iload_n hx hb dX10_sell_19 rfl (lv_at hl 1 rfl) ?_
    obtain ⟨hi6, hF⟩ := hF
    refine tw_iald hx hb hK hP (by decide) (tw_lt ho5 (congrFun hN 123)) rfl 0 rfl hi6 dX10_sell_20 ?_
    refine lv_topi (fun z7 ez7 => ?_)
    have hF := hF z7 ez7
    refine lv_istore_n (lv' := [(2, .int z7), (0, .ref (ad 0 k0)), (1, .int x1)]) hx hb dX10_sell_21 rfl hl (by decide) rfl (fun ls hl => ?_)
    refine lv_iload_n hx hb dX10_sell_22 rfl (lv_at hl 0 rfl) ?_
    refine lv_iconst (v := (-1)) hx hb dX10_sell_23 (by decide) ?_
    refine lv_icmp_ne (tgt := 29) hx hb dX10_sell_24 (by decide) (fun c8 => ?_) (fun c8 => ?_)
    · have hF := hF.1 c8
      refine lv_aload_n hx hb dX10_sell_29 rfl (lv_at hl 1 rfl) ?_
      refine lv_iload_n hx hb dX10_sell_30 rfl (lv_at hl 0 rfl) ?_
      refine va_calli (va_runV (As := [.int z7]) (rest := []) ⟨hx, hb, hml, hown, hts⟩ (mX10_isForSale l dC dI ac sa A ad τ2 k0 z7 _ hF (tw_lt hk0 (congrFun hN 0))) (cwV 1 hts gX10_sell_X10_isForSale rfl rfl rfl (by decide +kernel) ⟨Nat.le_of_ble_eq_true rfl, Nat.le_of_ble_eq_true rfl⟩) ⟨BM.blind, tw_recv hK hP (by decide) (tw_lt hk0 (congrFun hN 0)) rfl rfl, fun U hU hW => ⟨rfl, BM.of hP hK hS hA hZ hU hW⟩⟩ rfl rfl hl.1 rfl (lv_room (Nat.le_of_ble_eq_true rfl)) dX10_sell_31 ⟨Nat.le_of_ble_eq_true rfl, Nat.le_of_ble_eq_true rfl⟩) hS (fun q _ h => h) (fun q h => h) (fun r10 τ9 t H locs ht hvm hw hB hz hk hS => ?_)
      obtain ⟨hF, hN9⟩ := hw
      have hP : PM dC dI ac A ad τ9 H := tw_back hB ht
      have hN : gN τ9 = gN τ0 := hN9.trans hN
      refine lv_if_ne (tgt := 40) hx hb dX10_sell_34 (by decide) (fun c11 => ?_) (fun c11 => ?_)
      · have hF := hF.1 c11
        refine lv_aload_n hx hb dX10_sell_40 rfl (lv_at hl 1 rfl) ?_
        refine lv_iload_n hx hb dX10_sell_41 rfl (lv_at hl 2 rfl) ?_
        refine lv_iload_n hx hb dX10_sell_42 rfl (lv_at hl 0 rfl) ?_
        refine lv_iconst (v := (-1)) hx hb dX10_sell_43 (by decide) ?_
        refine va_callv (va_runV (As := [.int x1, .int z7, .int ((-1 : Int32))]) (rest := []) ⟨hx, hb, hml, hown, hts⟩ (mX10_adds l dC dI ac sa A ad τ9 k0 x1 z7 ((-1 : Int32)) _ hF (tw_lt hk0 (congrFun hN 0))) (cwV 3 hts gX10_sell_X10_adds rfl rfl rfl (by decide +kernel) ⟨Nat.le_of_ble_eq_true rfl, Nat.le_of_ble_eq_true rfl⟩) ⟨BM.blind, tw_recv hK hP (by decide) (tw_lt hk0 (congrFun hN 0)) rfl rfl, fun U hU hW => ⟨rfl, BM.of hP hK hS hA hZ hU hW⟩⟩ rfl rfl hl.1 rfl (lv_room (Nat.le_of_ble_eq_true rfl)) dX10_sell_44 ⟨Nat.le_of_ble_eq_true rfl, Nat.le_of_ble_eq_true rfl⟩) hS (fun q _ h => h) (fun q h => h) (fun τ12 t H locs ht hvm hw hB hz hk hS => ?_)
        obtain ⟨hF, hN9⟩ := hw
        have hP : PM dC dI ac A ad τ12 H := tw_back hB ht
        have hN : gN τ12 = gN τ0 := hN9.trans hN
        refine lv_aload_n hx hb dX10_sell_47 rfl (lv_at hl 1 rfl) ?_
        refine lv_dup hx hb dX10_sell_48 rfl ?_
        refine tw_get (v := .int (gI τ12 0 k0 17)) hx hb hts (by decide +kernel) hown hK hP (by decide) (tw_lt hk0 (congrFun hN 0)) rfl rfl 17 (by decide) (hts (.fieldLink RX10 159 "WineCellarModel" "soldMany" "I") (by decide +kernel)) (fun _ h9 => h9) rfl dX10_sell_49 ?_
        refine lv_iconst (v := 1) hx hb dX10_sell_52 (by decide) ?_
        refine lv_iadd hx hb dX10_sell_53 ?_
        refine tw_put (τ' := sI τ12 0 k0 17 ((gI τ12 0 k0 17) + ((1 : Int32)))) (ty := .int) hx hb hts (by decide +kernel) tyX10 tyX10_ok nmX10 hown hK hP hS (by decide) (tw_lt hk0 (congrFun hN 0)) rfl rfl 17 (by decide) (hts (.fieldLink RX10 159 "WineCellarModel" "soldMany" "I") (by decide +kernel)) (fun _ h9 => h9) rfl (by decide +kernel) rfl rfl (Nat.le_of_ble_eq_true rfl) dX10_sell_54 (fun H1 ha ho => tw_updI hP (by decide) (tw_lt hk0 (congrFun hN 0)) ha ho) (fun H locs hP hS => ?_)
        obtain ⟨τ13, eτ13⟩ : ∃ y : tw_T, y = sI τ12 0 k0 17 ((gI τ12 0 k0 17) + ((1 : Int32))) := ⟨_, rfl⟩
        have hF := hF τ13 eτ13
        rw [← eτ13] at hP
        have hN : gN τ13 = gN τ0 := by rw [eτ13]; exact hN
        refine lv_aload_n hx hb dX10_sell_57 rfl (lv_at hl 1 rfl) ?_
        refine lv_dup hx hb dX10_sell_58 rfl ?_
        refine tw_get (v := .long (gJ τ13 0 k0 4)) hx hb hts (by decide +kernel) hown hK hP (by decide) (tw_lt hk0 (congrFun hN 0)) rfl rfl 4 (by decide) (hts (.fieldLink RX10 162 "WineCellarModel" "till" "J") (by decide +kernel)) (fun _ h9 => h9) rfl dX10_sell_59 ?_
        refine lv_aload_n hx hb dX10_sell_62 rfl (lv_at hl 1 rfl) ?_
        refine lv_iload_n hx hb dX10_sell_63 rfl (lv_at hl 0 rfl) ?_
        refine lv_aload_n hx hb dX10_sell_64 rfl (lv_at hl 1 rfl) ?_
        refine va_calli (va_runV (As := []) (rest := [.int z7, .ref (ad 0 k0), .long (gJ τ13 0 k0 4), .ref (ad 0 k0)]) ⟨hx, hb, hml, hown, hts⟩ (mX10_year l dC dI ac sa A ad τ13 k0 _ hF (tw_lt hk0 (congrFun hN 0))) (cwV 0 hts gX10_sell_X10_year rfl rfl rfl (by decide +kernel) ⟨Nat.le_of_ble_eq_true rfl, Nat.le_of_ble_eq_true rfl⟩) ⟨BM.blind, tw_recv hK hP (by decide) (tw_lt hk0 (congrFun hN 0)) rfl rfl, fun U hU hW => ⟨rfl, BM.of hP hK hS hA hZ hU hW⟩⟩ rfl rfl hl.1 rfl (lv_room (Nat.le_of_ble_eq_true rfl)) dX10_sell_65 ⟨Nat.le_of_ble_eq_true rfl, Nat.le_of_ble_eq_true rfl⟩) hS (fun q _ h => h) (fun q h => h) (fun r15 τ14 t H locs ht hvm hw hB hz hk hS => ?_)
        obtain ⟨hF, hN9⟩ := hw
        have hP : PM dC dI ac A ad τ14 H := tw_back hB ht
        have hN : gN τ14 = gN τ0 := hN9.trans hN
        refine va_calli (va_runV (As := [.int z7, .int r15]) (rest := [.long (gJ τ13 0 k0 4), .ref (ad 0 k0)]) ⟨hx, hb, hml, hown, hts⟩ (mX10_worthOf l dC dI ac sa A ad τ14 k0 z7 r15 _ hF (tw_lt hk0 (congrFun hN 0))) (cwV 2 hts gX10_sell_X10_worthOf rfl rfl rfl (by decide +kernel) ⟨Nat.le_of_ble_eq_true rfl, Nat.le_of_ble_eq_true rfl⟩) ⟨BM.blind, tw_recv hK hP (by decide) (tw_lt hk0 (congrFun hN 0)) rfl rfl, fun U hU hW => ⟨rfl, BM.of hP hK hS hA hZ hU hW⟩⟩ rfl rfl hl.1 rfl (lv_room (Nat.le_of_ble_eq_true rfl)) dX10_sell_68 ⟨Nat.le_of_ble_eq_true rfl, Nat.le_of_ble_eq_true rfl⟩) hS (fun q _ h => h) (fun q h => h) (fun r17 τ16 t H locs ht hvm hw hB hz hk hS => ?_)
        obtain ⟨hF, hN9⟩ := hw
        have hP : PM dC dI ac A ad τ16 H := tw_back hB ht
        have hN : gN τ16 = gN τ0 := hN9.trans hN
        refine lv_i2l (v := r17.toInt64) hx hb dX10_sell_71 rfl ?_
        refine lv_ladd hx hb dX10_sell_72 ?_
        refine tw_put (τ' := sJ τ16 0 k0 4 ((gJ τ13 0 k0 4) + r17.toInt64)) (ty := .long) hx hb hts (by decide +kernel) tyX10 tyX10_ok nmX10 hown hK hP hS (by decide) (tw_lt hk0 (congrFun hN 0)) rfl rfl 4 (by decide) (hts (.fieldLink RX10 162 "WineCellarModel" "till" "J") (by decide +kernel)) (fun _ h9 => h9) rfl (by decide +kernel) rfl rfl (Nat.le_of_ble_eq_true rfl) dX10_sell_73 (fun H1 ha ho => tw_updJ hP (by decide) (tw_lt hk0 (congrFun hN 0)) ha ho) (fun H locs hP hS => ?_)
        obtain ⟨τ18, eτ18⟩ : ∃ y : tw_T, y = sJ τ16 0 k0 4 ((gJ τ13 0 k0 4) + r17.toInt64) := ⟨_, rfl⟩
        have hF := hF τ18 eτ18
        rw [← eτ18] at hP
        have hN : gN τ18 = gN τ0 := by rw [eτ18]; exact hN
        refine lv_aload_n hx hb dX10_sell_76 rfl (lv_at hl 1 rfl) ?_
        refine lv_iload_n hx hb dX10_sell_77 rfl (lv_at hl 0 rfl) ?_
        refine lv_aload_n hx hb dX10_sell_78 rfl (lv_at hl 1 rfl) ?_
        refine va_calli (va_runV (As := []) (rest := [.int z7, .ref (ad 0 k0)]) ⟨hx, hb, hml, hown, hts⟩ (mX10_year l dC dI ac sa A ad τ18 k0 _ hF (tw_lt hk0 (congrFun hN 0))) (cwV 0 hts gX10_sell_X10_year rfl rfl rfl (by decide +kernel) ⟨Nat.le_of_ble_eq_true rfl, Nat.le_of_ble_eq_true rfl⟩) ⟨BM.blind, tw_recv hK hP (by decide) (tw_lt hk0 (congrFun hN 0)) rfl rfl, fun U hU hW => ⟨rfl, BM.of hP hK hS hA hZ hU hW⟩⟩ rfl rfl hl.1 rfl (lv_room (Nat.le_of_ble_eq_true rfl)) dX10_sell_79 ⟨Nat.le_of_ble_eq_true rfl, Nat.le_of_ble_eq_true rfl⟩) hS (fun q _ h => h) (fun q h => h) (fun r20 τ19 t H locs ht hvm hw hB hz hk hS => ?_)
        obtain ⟨hF, hN9⟩ := hw
        have hP : PM dC dI ac A ad τ19 H := tw_back hB ht
        have hN : gN τ19 = gN τ0 := hN9.trans hN
        refine va_calli (va_runV (As := [.int z7, .int r20]) (rest := []) ⟨hx, hb, hml, hown, hts⟩ (mX10_worthOf l dC dI ac sa A ad τ19 k0 z7 r20 _ hF (tw_lt hk0 (congrFun hN 0))) (cwV 2 hts gX10_sell_X10_worthOf rfl rfl rfl (by decide +kernel) ⟨Nat.le_of_ble_eq_true rfl, Nat.le_of_ble_eq_true rfl⟩) ⟨BM.blind, tw_recv hK hP (by decide) (tw_lt hk0 (congrFun hN 0)) rfl rfl, fun U hU hW => ⟨rfl, BM.of hP hK hS hA hZ hU hW⟩⟩ rfl rfl hl.1 rfl (lv_room (Nat.le_of_ble_eq_true rfl)) dX10_sell_82 ⟨Nat.le_of_ble_eq_true rfl, Nat.le_of_ble_eq_true rfl⟩) hS (fun q _ h => h) (fun q h => h) (fun r22 τ21 t H locs ht hvm hw hB hz hk hS => ?_)
        obtain ⟨hF, hN9⟩ := hw
        have hP : PM dC dI ac A ad τ21 H := tw_back hB ht
        have hN : gN τ21 = gN τ0 := hN9.trans hN
        exact W.iret (v := r22) hx hb hr (fun t ht hW => ⟨⟨r22, τ21, rfl, ⟨hF, hN⟩, tw_at hP ht⟩, hS.F ht⟩) hS.2.2 dX10_sell_85
      · have hF := hF.2 c11
        refine lv_bipush (v := (-2)) hx hb dX10_sell_37 (by decide) ?_
        exact W.iret (v := (-2 : Int32)) hx hb hr (fun t ht hW => ⟨⟨((-2 : Int32)), τ9, rfl, ⟨hF, hN⟩, tw_at hP ht⟩, hS.F ht⟩) hS.2.2 dX10_sell_39
    · have hF := hF.2 c8
      refine lv_iconst (v := (-1)) hx hb dX10_sell_27 (by decide) ?_
      exact W.iret (v := (-1 : Int32)) hx hb hr (fun t ht hW => ⟨⟨((-1 : Int32)), τ2, rfl, ⟨hF, hN⟩, tw_at hP ht⟩, hS.F ht⟩) hS.2.2 dX10_sell_28
  · have hF := hF.2 c4
    refine lv_iconst (v := 0) hx hb dX10_sell_13 (by decide) ?_
    exact W.iret (v := (0 : Int32)) hx hb hr (fun t ht hW => ⟨⟨((0 : Int32)), τ2, rfl, ⟨hF, hN⟩, tw_at hP ht⟩, hS.F ht⟩) hS.2.2 dX10_sell_14
def F_X10_broken (τ0 : tw_T) (k0 : Nat) (x1 : Int32) (Q : Int32 → tw_T → Prop) : Prop := ∀ τ1 : tw_T, τ1 = sI τ0 0 k0 0 ((0 : Int32)) → (F_X10_isCell τ1 k0 x1 (fun (r3 : Int32) (τ2 : tw_T) => (((¬ r3 = 0 → (∃ o5 : Nat, gR τ2 0 k0 23 = some o5 ∧ (vp_in x1 30 ∧ (((¬ (gI τ2 123 o5 x1.toNatClampNeg) = ((-1 : Int32)) → (∃ o8 : Nat, gR τ2 0 k0 23 = some o8 ∧ (vp_in x1 30 ∧ (F_X10_adds τ2 k0 x1 (gI τ2 123 o8 x1.toNatClampNeg) ((-1 : Int32)) (fun (τ10 : tw_T) => (∀ τ11 : tw_T, τ11 = sI τ10 0 k0 19 ((gI τ10 0 k0 19) + ((1 : Int32))) → (∃ o12 : Nat, gR τ11 0 k0 24 = some o12 ∧ (vp_in x1 30 ∧ (Q (gI τ11 124 o12 x1.toNatClampNeg) τ11))))))))) ∧ ((gI τ2 123 o5 x1.toNatClampNeg) = ((-1 : Int32)) → (Q ((-1 : Int32)) τ2))))))) ∧ (r3 = 0 → (Q ((0 : Int32)) τ2))))))
def rmX10_broken : Room := { frames := 2, cells := 0, slots := 0, locals := 43 }
set_option maxHeartbeats 4000000 in
set_option maxRecDepth 100000 in
theorem mX10_broken (l : Launch) (dC : Nat → ClassId) (dI : Nat → Nat → Nat) (ac : Nat → ClassId) (sa : Nat → Nat) (A : Nat → Prop) (ad : Nat → Nat → Nat) (τ0 : tw_T) (k0 : Nat) (x1 : Int32) (Q : Int32 → tw_T → Prop) (hF : F_X10_broken τ0 k0 x1 Q) (hk0 : k0 < gN τ0 0) : Met l yX10_broken wsX10_broken rmX10_broken (va_Pc [.ref (ad 0 k0), .int x1] (BM dC dI ac sa A ad τ0)) (va_Qi (fun r (u : tw_T) => Q r u ∧ gN u = gN τ0) (fun u t => PM dC dI ac A ad u t.heap) A) 0 0 A := by
  refine Met.ofW (cc := cX10_broken) (maxL := 2) (ret := (some .int)) (by decide) rfl ?_
  intro p e s m args below meth c s₁ B hml hv
  obtain ⟨rfl, hP, hK, hA, hZ⟩ := hv
  have hx := B.exec
  have hb := B.bytes
  have hr := B.returns
  have hts := atoms_spec (ws := wsX10_broken) B.pre
  have hown : s.vm.findClass RX10 = some m.cls := findClass_of_methodNamed B.named
  have hlocks := B.notSynchronized
  have hS : va_S A s.heap s.heap [] := va_S.rf
  have hN : gN τ0 = gN τ0 := rfl
  have hl := lv_entry ([.ref (ad 0 k0), .int x1]) (n := 2) (Nat.le_of_ble_eq_true rfl)
  rw [lg_entry_eq]
  generalize (lg_sl ([.ref (ad 0 k0), .int x1]) ++ List.replicate (2 - (lg_sl ([.ref (ad 0 k0), .int x1])).length) Slot.unset).toArray = ls at hl ⊢
  have hl : lv_has ls 2 [(0, .ref (ad 0 k0)), (1, .int x1)] := hl
  unfold F_X10_broken at hF
  refine lv_aload_n hx hb dX10_broken_0 rfl (lv_at hl 0 rfl) ?_
  refine lv_iconst (v := 0) hx hb dX10_broken_1 (by decide) ?_
  refine tw_put (τ' := sI τ0 0 k0 0 ((0 : Int32))) (ty := .int) hx hb hts (by decide +kernel) tyX10 tyX10_ok nmX10 hown hK hP hS (by decide) hk0 rfl rfl 0 (by decide) (hts (.fieldLink RX10 1 "WineCellarModel" "thrown" "I") (by decide +kernel)) (fun _ h9 => h9) rfl (by decide +kernel) rfl rfl (Nat.le_of_ble_eq_true rfl) dX10_broken_2 (fun H1 ha ho => tw_updI hP (by decide) hk0 ha ho) (fun H locs hP hS => ?_)
  obtain ⟨τ1, eτ1⟩ : ∃ y : tw_T, y = sI τ0 0 k0 0 ((0 : Int32)) := ⟨_, rfl⟩
  have hF := hF τ1 eτ1
  rw [← eτ1] at hP
  have hN : gN τ1 = gN τ0 := by rw [eτ1]; exact hN
  refine lv_aload_n hx hb dX10_broken_5 rfl (lv_at hl 0 rfl) ?_
  refine lv_iload_n hx hb dX10_broken_6 rfl (lv_at hl 1 rfl) ?_
  refine va_calli (va_runV (As := [.int x1]) (rest := []) ⟨hx, hb, hml, hown, hts⟩ (mX10_isCell l dC dI ac sa A ad τ1 k0 x1 _ hF (tw_lt hk0 (congrFun hN 0))) (cwV 1 hts gX10_broken_X10_isCell rfl rfl rfl (by decide +kernel) ⟨Nat.le_of_ble_eq_true rfl, Nat.le_of_ble_eq_true rfl⟩) ⟨BM.blind, tw_recv hK hP (by decide) (tw_lt hk0 (congrFun hN 0)) rfl rfl, fun U hU hW => ⟨rfl, BM.of hP hK hS hA hZ hU hW⟩⟩ rfl rfl hl.1 rfl (lv_room (Nat.le_of_ble_eq_true rfl)) dX10_broken_7 ⟨Nat.le_of_ble_eq_true rfl, Nat.le_of_ble_eq_true rfl⟩) hS (fun q _ h => h) (fun q h => h) (fun r3 τ2 t H locs ht hvm hw hB hz hk hS => ?_)
  obtain ⟨hF, hN9⟩ := hw
  have hP : PM dC dI ac A ad τ2 H := tw_back hB ht
  have hN : gN τ2 = gN τ0 := hN9.trans hN
  refine lv_if_ne (tgt := 15) hx hb dX10_broken_10 (by decide) (fun c4 => ?_) (fun c4 => ?_)
  · have hF := hF.1 c4
    refine lv_aload_n hx hb dX10_broken_15 rfl (lv_at hl 0 rfl) ?_
    obtain ⟨o5, eo5, hF⟩ := hF
    have ho5 : o5 < gN τ0 123 := tw_lt (hP.2.2.2 0 k0 23 o5 (by decide) (tw_lt hk0 (congrFun hN 0)) eo5) (congrFun hN 123).symm
    refine tw_get (v := .ref (ad 123 o5)) hx hb hts (by decide +kernel) hown hK hP (by decide) (tw_lt hk0 (congrFun hN 0)) rfl rfl 23 (by decide) (hts (.fieldLink RX10 44 "WineCellarModel" "cellLot" "[I") (by decide +kernel)) (fun _ h9 => h9) (show some (va_rf ((gR τ2 0 k0 23).map (ad 123))) = some (.ref (ad 123 o5)) by rw [eo5]; rfl) dX10_broken_16 ?_
    refine lv_iload_n hx hb dX10_broken_19 rfl (lv_at hl 1 rfl) ?_
    obtain ⟨hi6, hF⟩ := hF
    refine tw_iald hx hb hK hP (by decide) (tw_lt ho5 (congrFun hN 123)) rfl 0 rfl hi6 dX10_broken_20 ?_
    refine lv_iconst (v := (-1)) hx hb dX10_broken_21 (by decide) ?_
    refine lv_icmp_ne (tgt := 27) hx hb dX10_broken_22 (by decide) (fun c7 => ?_) (fun c7 => ?_)
    · have hF := hF.1 c7
      refine lv_aload_n hx hb dX10_broken_27 rfl (lv_at hl 0 rfl) ?_
      refine lv_iload_n hx hb dX10_broken_28 rfl (lv_at hl 1 rfl) ?_
      refine lv_aload_n hx hb dX10_broken_29 rfl (lv_at hl 0 rfl) ?_
      obtain ⟨o8, eo8, hF⟩ := hF
      have ho8 : o8 < gN τ0 123 := tw_lt (hP.2.2.2 0 k0 23 o8 (by decide) (tw_lt hk0 (congrFun hN 0)) eo8) (congrFun hN 123).symm
      refine tw_get (v := .ref (ad 123 o8)) hx hb hts (by decide +kernel) hown hK hP (by decide) (tw_lt hk0 (congrFun hN 0)) rfl rfl 23 (by decide) (hts (.fieldLink RX10 44 "WineCellarModel" "cellLot" "[I") (by decide +kernel)) (fun _ h9 => h9) (show some (va_rf ((gR τ2 0 k0 23).map (ad 123))) = some (.ref (ad 123 o8)) by rw [eo8]; rfl) dX10_broken_30 ?_
      refine lv_iload_n hx hb dX10_broken_33 rfl (lv_at hl 1 rfl) ?_
      obtain ⟨hi9, hF⟩ := hF
      refine tw_iald hx hb hK hP (by decide) (tw_lt ho8 (congrFun hN 123)) rfl 0 rfl hi9 dX10_broken_34 ?_
      refine lv_iconst (v := (-1)) hx hb dX10_broken_35 (by decide) ?_
      refine va_callv (va_runV (As := [.int x1, .int (gI τ2 123 o8 x1.toNatClampNeg), .int ((-1 : Int32))]) (rest := []) ⟨hx, hb, hml, hown, hts⟩ (mX10_adds l dC dI ac sa A ad τ2 k0 x1 (gI τ2 123 o8 x1.toNatClampNeg) ((-1 : Int32)) _ hF (tw_lt hk0 (congrFun hN 0))) (cwV 3 hts gX10_broken_X10_adds rfl rfl rfl (by decide +kernel) ⟨Nat.le_of_ble_eq_true rfl, Nat.le_of_ble_eq_true rfl⟩) ⟨BM.blind, tw_recv hK hP (by decide) (tw_lt hk0 (congrFun hN 0)) rfl rfl, fun U hU hW => ⟨rfl, BM.of hP hK hS hA hZ hU hW⟩⟩ rfl rfl hl.1 rfl (lv_room (Nat.le_of_ble_eq_true rfl)) dX10_broken_36 ⟨Nat.le_of_ble_eq_true rfl, Nat.le_of_ble_eq_true rfl⟩) hS (fun q _ h => h) (fun q h => h) (fun τ10 t H locs ht hvm hw hB hz hk hS => ?_)
      obtain ⟨hF, hN9⟩ := hw
      have hP : PM dC dI ac A ad τ10 H := tw_back hB ht
      have hN : gN τ10 = gN τ0 := hN9.trans hN
      refine lv_aload_n hx hb dX10_broken_39 rfl (lv_at hl 0 rfl) ?_
      refine lv_dup hx hb dX10_broken_40 rfl ?_
      refine tw_get (v := .int (gI τ10 0 k0 19)) hx hb hts (by decide +kernel) hown hK hP (by decide) (tw_lt hk0 (congrFun hN 0)) rfl rfl 19 (by decide) (hts (.fieldLink RX10 166 "WineCellarModel" "brokenMany" "I") (by decide +kernel)) (fun _ h9 => h9) rfl dX10_broken_41 ?_
      refine lv_iconst (v := 1) hx hb dX10_broken_44 (by decide) ?_
      refine lv_iadd hx hb dX10_broken_45 ?_
      refine tw_put (τ' := sI τ10 0 k0 19 ((gI τ10 0 k0 19) + ((1 : Int32)))) (ty := .int) hx hb hts (by decide +kernel) tyX10 tyX10_ok nmX10 hown hK hP hS (by decide) (tw_lt hk0 (congrFun hN 0)) rfl rfl 19 (by decide) (hts (.fieldLink RX10 166 "WineCellarModel" "brokenMany" "I") (by decide +kernel)) (fun _ h9 => h9) rfl (by decide +kernel) rfl rfl (Nat.le_of_ble_eq_true rfl) dX10_broken_46 (fun H1 ha ho => tw_updI hP (by decide) (tw_lt hk0 (congrFun hN 0)) ha ho) (fun H locs hP hS => ?_)
      obtain ⟨τ11, eτ11⟩ : ∃ y : tw_T, y = sI τ10 0 k0 19 ((gI τ10 0 k0 19) + ((1 : Int32))) := ⟨_, rfl⟩
      have hF := hF τ11 eτ11
      rw [← eτ11] at hP
      have hN : gN τ11 = gN τ0 := by rw [eτ11]; exact hN
      refine lv_aload_n hx hb dX10_broken_49 rfl (lv_at hl 0 rfl) ?_
      obtain ⟨o12, eo12, hF⟩ := hF
      have ho12 : o12 < gN τ0 124 := tw_lt (hP.2.2.2 0 k0 24 o12 (by decide) (tw_lt hk0 (congrFun hN 0)) eo12) (congrFun hN 124).symm
      refine tw_get (v := .ref (ad 124 o12)) hx hb hts (by decide +kernel) hown hK hP (by decide) (tw_lt hk0 (congrFun hN 0)) rfl rfl 24 (by decide) (hts (.fieldLink RX10 47 "WineCellarModel" "cellMany" "[I") (by decide +kernel)) (fun _ h9 => h9) (show some (va_rf ((gR τ11 0 k0 24).map (ad 124))) = some (.ref (ad 124 o12)) by rw [eo12]; rfl) dX10_broken_50 ?_
      refine lv_iload_n hx hb dX10_broken_53 rfl (lv_at hl 1 rfl) ?_
      obtain ⟨hi13, hF⟩ := hF
      refine tw_iald hx hb hK hP (by decide) (tw_lt ho12 (congrFun hN 124)) rfl 0 rfl hi13 dX10_broken_54 ?_
      exact W.iret (v := gI τ11 124 o12 x1.toNatClampNeg) hx hb hr (fun t ht hW => ⟨⟨(gI τ11 124 o12 x1.toNatClampNeg), τ11, rfl, ⟨hF, hN⟩, tw_at hP ht⟩, hS.F ht⟩) hS.2.2 dX10_broken_55
    · have hF := hF.2 c7
      refine lv_iconst (v := (-1)) hx hb dX10_broken_25 (by decide) ?_
      exact W.iret (v := (-1 : Int32)) hx hb hr (fun t ht hW => ⟨⟨((-1 : Int32)), τ2, rfl, ⟨hF, hN⟩, tw_at hP ht⟩, hS.F ht⟩) hS.2.2 dX10_broken_26
  · have hF := hF.2 c4
    refine lv_iconst (v := 0) hx hb dX10_broken_13 (by decide) ?_
    exact W.iret (v := (0 : Int32)) hx hb hr (fun t ht hW => ⟨⟨((0 : Int32)), τ2, rfl, ⟨hF, hN⟩, tw_at hP ht⟩, hS.F ht⟩) hS.2.2 dX10_broken_14
def J_X10_counted_97 (τ : tw_T) (u3 : Int32) (y0 : Int32) (y1 : Int32) (q2 : Nat) (Q : Int32 → tw_T → Prop) : Prop := ∀ τ1 : tw_T, τ1 = sI τ 0 q2 19 (y1 + y0) → (Q u3 τ1)
def J_X10_counted_78 (τ : tw_T) (p0 : Nat) (u3 : Int32) (y0 : Int32) (y1 : Int32) (q2 : Nat) (Q : Int32 → tw_T → Prop) : Prop := ∀ τ2 : tw_T, τ2 = sI τ 0 q2 16 (y1 + y0) → (((0 ≤ u3 → (J_X10_counted_97 τ2 u3 ((0 : Int32)) (gI τ2 0 p0 19) p0 Q)) ∧ (¬ 0 ≤ u3 → (J_X10_counted_97 τ2 u3 (-u3) (gI τ2 0 p0 19) p0 Q))))
def F_X10_counted (τ0 : tw_T) (k0 : Nat) (x1 : Int32) (x2 : Int32) (Q : Int32 → tw_T → Prop) : Prop := ∀ τ4 : tw_T, τ4 = sI τ0 0 k0 0 ((0 : Int32)) → (F_X10_isCell τ4 k0 x1 (fun (r6 : Int32) (τ5 : tw_T) => (((r6 = 0 → (Q ((0 : Int32)) τ5)) ∧ (¬ r6 = 0 → (F_X10_within τ5 x2 ((0 : Int32)) ((12 : Int32)) (fun (r9 : Int32) (τ8 : tw_T) => (F_X10_may τ8 k0 r9 ((2 : Int32)) (fun (r11 : Int32) (τ10 : tw_T) => (((¬ r11 = 0 → (∃ o13 : Nat, gR τ10 0 k0 23 = some o13 ∧ (vp_in x1 30 ∧ (((¬ (gI τ10 123 o13 x1.toNatClampNeg) = ((-1 : Int32)) → (∃ o16 : Nat, gR τ10 0 k0 24 = some o16 ∧ (vp_in x1 30 ∧ (∀ z18 : Int32, z18 = x2 - (gI τ10 124 o16 x1.toNatClampNeg) → (∃ o19 : Nat, gR τ10 0 k0 23 = some o19 ∧ (vp_in x1 30 ∧ (F_X10_adds τ10 k0 x1 (gI τ10 123 o19 x1.toNatClampNeg) z18 (fun (τ21 : tw_T) => (((z18 ≤ 0 → (J_X10_counted_78 τ21 k0 z18 ((0 : Int32)) (gI τ21 0 k0 16) k0 Q)) ∧ (¬ z18 ≤ 0 → (J_X10_counted_78 τ21 k0 z18 z18 (gI τ21 0 k0 16) k0 Q)))))))))))) ∧ ((gI τ10 123 o13 x1.toNatClampNeg) = ((-1 : Int32)) → (Q ((-100 : Int32)) τ10))))))) ∧ (r11 = 0 → (Q ((0 : Int32)) τ10)))))))))))))
def rmX10_counted : Room := { frames := 2, cells := 0, slots := 0, locals := 43 }
set_option maxHeartbeats 4000000 in
set_option maxRecDepth 100000 in
theorem mX10_counted (l : Launch) (dC : Nat → ClassId) (dI : Nat → Nat → Nat) (ac : Nat → ClassId) (sa : Nat → Nat) (A : Nat → Prop) (ad : Nat → Nat → Nat) (τ0 : tw_T) (k0 : Nat) (x1 : Int32) (x2 : Int32) (Q : Int32 → tw_T → Prop) (hF : F_X10_counted τ0 k0 x1 x2 Q) (hk0 : k0 < gN τ0 0) : Met l yX10_counted wsX10_counted rmX10_counted (va_Pc [.ref (ad 0 k0), .int x1, .int x2] (BM dC dI ac sa A ad τ0)) (va_Qi (fun r (u : tw_T) => Q r u ∧ gN u = gN τ0) (fun u t => PM dC dI ac A ad u t.heap) A) 0 0 A := by
  refine Met.ofW (cc := cX10_counted) (maxL := 4) (ret := (some .int)) (by decide) rfl ?_
  intro p e s m args below meth c s₁ B hml hv
  obtain ⟨rfl, hP, hK, hA, hZ⟩ := hv
  have hx := B.exec
  have hb := B.bytes
  have hr := B.returns
  have hts := atoms_spec (ws := wsX10_counted) B.pre
  have hown : s.vm.findClass RX10 = some m.cls := findClass_of_methodNamed B.named
  have hlocks := B.notSynchronized
  have hS : va_S A s.heap s.heap [] := va_S.rf
  have hN : gN τ0 = gN τ0 := rfl
  have hl := lv_entry ([.ref (ad 0 k0), .int x1, .int x2]) (n := 4) (Nat.le_of_ble_eq_true rfl)
  rw [lg_entry_eq]
  generalize (lg_sl ([.ref (ad 0 k0), .int x1, .int x2]) ++ List.replicate (4 - (lg_sl ([.ref (ad 0 k0), .int x1, .int x2])).length) Slot.unset).toArray = ls at hl ⊢
  have hl : lv_has ls 4 [(0, .ref (ad 0 k0)), (1, .int x1), (2, .int x2)] := hl
  unfold F_X10_counted at hF
  have j97 : ∀ (τ : tw_T) (u3 : Int32) (y0 : Int32) (y1 : Int32) (q2 : Nat) (hq2 : q2 < gN τ0 0) (H : Heap) (locs : List Loc) (ls : Array Slot), J_X10_counted_97 τ u3 y0 y1 q2 Q → PM dC dI ac A ad τ H → gN τ = gN τ0 → va_S A s.heap H locs → lv_has ls 4 [(3, .int u3)] → W p l e rmX10_counted s m ([.ref (ad 0 k0), .int x1, .int x2] : List Value).toArray below meth c H locs 0 0 (MQ below (va_Qi (fun r (u : tw_T) => Q r u ∧ gN u = gN τ0) (fun u t => PM dC dI ac A ad u t.heap) A) ([.ref (ad 0 k0), .int x1, .int x2] : List Value).toArray s 0 0 A) (F0 m 97 ls [.int y0, .int y1, .ref (ad 0 q2)]) := by
    intro τ u3 y0 y1 q2 hq2 H locs ls hF hP hN hS hl
    unfold J_X10_counted_97 at hF
    refine lv_iadd hx hb dX10_counted_97 ?_
    refine tw_put (τ' := sI τ 0 q2 19 (y1 + y0)) (ty := .int) hx hb hts (by decide +kernel) tyX10 tyX10_ok nmX10 hown hK hP hS (by decide) (tw_lt hq2 (congrFun hN 0)) rfl rfl 19 (by decide) (hts (.fieldLink RX10 166 "WineCellarModel" "brokenMany" "I") (by decide +kernel)) (fun _ h9 => h9) rfl (by decide +kernel) rfl rfl (Nat.le_of_ble_eq_true rfl) dX10_counted_98 (fun H1 ha ho => tw_updI hP (by decide) (tw_lt hq2 (congrFun hN 0)) ha ho) (fun H locs hP hS => ?_)
    obtain ⟨τ1, eτ1⟩ : ∃ y : tw_T, y = sI τ 0 q2 19 (y1 + y0) := ⟨_, rfl⟩
    have hF := hF τ1 eτ1
    rw [← eτ1] at hP
    have hN : gN τ1 = gN τ0 := by rw [eτ1]; exact hN
    refine lv_iload_n hx hb dX10_counted_101 rfl (lv_at hl 0 rfl) ?_
    exact W.iret (v := u3) hx hb hr (fun t ht hW => ⟨⟨u3, τ1, rfl, ⟨hF, hN⟩, tw_at hP ht⟩, hS.F ht⟩) hS.2.2 dX10_counted_102
  have j78 : ∀ (τ : tw_T) (p0 : Nat) (hp0 : p0 < gN τ0 0) (u3 : Int32) (y0 : Int32) (y1 : Int32) (q2 : Nat) (hq2 : q2 < gN τ0 0) (H : Heap) (locs : List Loc) (ls : Array Slot), J_X10_counted_78 τ p0 u3 y0 y1 q2 Q → PM dC dI ac A ad τ H → gN τ = gN τ0 → va_S A s.heap H locs → lv_has ls 4 [(0, .ref (ad 0 p0)), (3, .int u3)] → W p l e rmX10_counted s m ([.ref (ad 0 k0), .int x1, .int x2] : List Value).toArray below meth c H locs 0 0 (MQ below (va_Qi (fun r (u : tw_T) => Q r u ∧ gN u = gN τ0) (fun u t => PM dC dI ac A ad u t.heap) A) ([.ref (ad 0 k0), .int x1, .int x2] : List Value).toArray s 0 0 A) (F0 m 78 ls [.int y0, .int y1, .ref (ad 0 q2)]) := by
    intro τ p0 hp0 u3 y0 y1 q2 hq2 H locs ls hF hP hN hS hl
    unfold J_X10_counted_78 at hF
    refine lv_iadd hx hb dX10_counted_78 ?_
    refine tw_put (τ' := sI τ 0 q2 16 (y1 + y0)) (ty := .int) hx hb hts (by decide +kernel) tyX10 tyX10_ok nmX10 hown hK hP hS (by decide) (tw_lt hq2 (congrFun hN 0)) rfl rfl 16 (by decide) (hts (.fieldLink RX10 169 "WineCellarModel" "foundMany" "I") (by decide +kernel)) (fun _ h9 => h9) rfl (by decide +kernel) rfl rfl (Nat.le_of_ble_eq_true rfl) dX10_counted_79 (fun H1 ha ho => tw_updI hP (by decide) (tw_lt hq2 (congrFun hN 0)) ha ho) (fun H locs hP hS => ?_)
    obtain ⟨τ2, eτ2⟩ : ∃ y : tw_T, y = sI τ 0 q2 16 (y1 + y0) := ⟨_, rfl⟩
    have hF := hF τ2 eτ2
    rw [← eτ2] at hP
    have hN : gN τ2 = gN τ0 := by rw [eτ2]; exact hN
    refine lv_aload_n hx hb dX10_counted_82 rfl (lv_at hl 0 rfl) ?_
    refine lv_dup hx hb dX10_counted_83 rfl ?_
    refine tw_get (v := .int (gI τ2 0 p0 19)) hx hb hts (by decide +kernel) hown hK hP (by decide) (tw_lt hp0 (congrFun hN 0)) rfl rfl 19 (by decide) (hts (.fieldLink RX10 166 "WineCellarModel" "brokenMany" "I") (by decide +kernel)) (fun _ h9 => h9) rfl dX10_counted_84 ?_
    refine lv_iload_n hx hb dX10_counted_87 rfl (lv_at hl 1 rfl) ?_
    refine lv_if_ge (tgt := 96) hx hb dX10_counted_88 (by decide) (fun c3 => ?_) (fun c3 => ?_)
    · have hF := hF.1 c3
      refine lv_iconst (v := 0) hx hb dX10_counted_96 (by decide) ?_
      exact j97 τ2 u3 ((0 : Int32)) (gI τ2 0 p0 19) p0 hp0 _ _ _ hF hP hN hS (lv_sub hl [1] rfl)
    · have hF := hF.2 c3
      refine lv_iload_n hx hb dX10_counted_91 rfl (lv_at hl 1 rfl) ?_
      refine lv_ineg hx hb dX10_counted_92 ?_
      refine lv_goto (tgt := 97) hx hb dX10_counted_93 (by decide) ?_
      exact j97 τ2 u3 (-u3) (gI τ2 0 p0 19) p0 hp0 _ _ _ hF hP hN hS (lv_sub hl [1] rfl)
  refine lv_aload_n hx hb dX10_counted_0 rfl (lv_at hl 0 rfl) ?_
  refine lv_iconst (v := 0) hx hb dX10_counted_1 (by decide) ?_
  refine tw_put (τ' := sI τ0 0 k0 0 ((0 : Int32))) (ty := .int) hx hb hts (by decide +kernel) tyX10 tyX10_ok nmX10 hown hK hP hS (by decide) hk0 rfl rfl 0 (by decide) (hts (.fieldLink RX10 1 "WineCellarModel" "thrown" "I") (by decide +kernel)) (fun _ h9 => h9) rfl (by decide +kernel) rfl rfl (Nat.le_of_ble_eq_true rfl) dX10_counted_2 (fun H1 ha ho => tw_updI hP (by decide) hk0 ha ho) (fun H locs hP hS => ?_)
  obtain ⟨τ4, eτ4⟩ : ∃ y : tw_T, y = sI τ0 0 k0 0 ((0 : Int32)) := ⟨_, rfl⟩
  have hF := hF τ4 eτ4
  rw [← eτ4] at hP
  have hN : gN τ4 = gN τ0 := by rw [eτ4]; exact hN
  refine lv_aload_n hx hb dX10_counted_5 rfl (lv_at hl 0 rfl) ?_
  refine lv_iload_n hx hb dX10_counted_6 rfl (lv_at hl 1 rfl) ?_
  refine va_calli (va_runV (As := [.int x1]) (rest := []) ⟨hx, hb, hml, hown, hts⟩ (mX10_isCell l dC dI ac sa A ad τ4 k0 x1 _ hF (tw_lt hk0 (congrFun hN 0))) (cwV 1 hts gX10_counted_X10_isCell rfl rfl rfl (by decide +kernel) ⟨Nat.le_of_ble_eq_true rfl, Nat.le_of_ble_eq_true rfl⟩) ⟨BM.blind, tw_recv hK hP (by decide) (tw_lt hk0 (congrFun hN 0)) rfl rfl, fun U hU hW => ⟨rfl, BM.of hP hK hS hA hZ hU hW⟩⟩ rfl rfl hl.1 rfl (lv_room (Nat.le_of_ble_eq_true rfl)) dX10_counted_7 ⟨Nat.le_of_ble_eq_true rfl, Nat.le_of_ble_eq_true rfl⟩) hS (fun q _ h => h) (fun q h => h) (fun r6 τ5 t H locs ht hvm hw hB hz hk hS => ?_)
  obtain ⟨hF, hN9⟩ := hw
  have hP : PM dC dI ac A ad τ5 H := tw_back hB ht
  have hN : gN τ5 = gN τ0 := hN9.trans hN
  refine lv_if_eq (tgt := 28) hx hb dX10_counted_10 (by decide) (fun c7 => ?_) (fun c7 => ?_)
  · have hF := hF.1 c7
    refine lv_iconst (v := 0) hx hb dX10_counted_28 (by decide) ?_
    exact W.iret (v := (0 : Int32)) hx hb hr (fun t ht hW => ⟨⟨((0 : Int32)), τ5, rfl, ⟨hF, hN⟩, tw_at hP ht⟩, hS.F ht⟩) hS.2.2 dX10_counted_29
  · have hF := hF.2 c7
    refine lv_aload_n hx hb dX10_counted_13 rfl (lv_at hl 0 rfl) ?_
    refine lv_iload_n hx hb dX10_counted_14 rfl (lv_at hl 2 rfl) ?_
    refine lv_iconst (v := 0) hx hb dX10_counted_15 (by decide) ?_
    refine lv_bipush (v := 12) hx hb dX10_counted_16 (by decide) ?_
    refine va_calli (va_runS (As := [.int x2, .int ((0 : Int32)), .int ((12 : Int32))]) (rest := [.ref (ad 0 k0)]) ⟨hx, hb, hml, hown, hts⟩ (mX10_within l dC dI ac sa A ad τ5 x2 ((0 : Int32)) ((12 : Int32)) _ hF ) (va_cwS 3 hts gX10_counted_X10_within rfl rfl rfl (by decide +kernel) ⟨Nat.le_of_ble_eq_true rfl, Nat.le_of_ble_eq_true rfl⟩) ⟨BM.blind, fun U hU hW => ⟨rfl, BM.of hP hK hS hA hZ hU hW⟩⟩ rfl rfl hl.1 rfl (lv_room (Nat.le_of_ble_eq_true rfl)) dX10_counted_18 ⟨Nat.le_of_ble_eq_true rfl, Nat.le_of_ble_eq_true rfl⟩) hS (fun q _ h => h) (fun q h => h) (fun r9 τ8 t H locs ht hvm hw hB hz hk hS => ?_)
    obtain ⟨hF, hN9⟩ := hw
    have hP : PM dC dI ac A ad τ8 H := tw_back hB ht
    have hN : gN τ8 = gN τ0 := hN9.trans hN
    refine lv_iconst (v := 2) hx hb dX10_counted_21 (by decide) ?_
    refine va_calli (va_runV (As := [.int r9, .int ((2 : Int32))]) (rest := []) ⟨hx, hb, hml, hown, hts⟩ (mX10_may l dC dI ac sa A ad τ8 k0 r9 ((2 : Int32)) _ hF (tw_lt hk0 (congrFun hN 0))) (cwV 2 hts gX10_counted_X10_may rfl rfl rfl (by decide +kernel) ⟨Nat.le_of_ble_eq_true rfl, Nat.le_of_ble_eq_true rfl⟩) ⟨BM.blind, tw_recv hK hP (by decide) (tw_lt hk0 (congrFun hN 0)) rfl rfl, fun U hU hW => ⟨rfl, BM.of hP hK hS hA hZ hU hW⟩⟩ rfl rfl hl.1 rfl (lv_room (Nat.le_of_ble_eq_true rfl)) dX10_counted_22 ⟨Nat.le_of_ble_eq_true rfl, Nat.le_of_ble_eq_true rfl⟩) hS (fun q _ h => h) (fun q h => h) (fun r11 τ10 t H locs ht hvm hw hB hz hk hS => ?_)
    obtain ⟨hF, hN9⟩ := hw
    have hP : PM dC dI ac A ad τ10 H := tw_back hB ht
    have hN : gN τ10 = gN τ0 := hN9.trans hN
    refine lv_if_ne (tgt := 30) hx hb dX10_counted_25 (by decide) (fun c12 => ?_) (fun c12 => ?_)
    · have hF := hF.1 c12
      refine lv_aload_n hx hb dX10_counted_30 rfl (lv_at hl 0 rfl) ?_
      obtain ⟨o13, eo13, hF⟩ := hF
      have ho13 : o13 < gN τ0 123 := tw_lt (hP.2.2.2 0 k0 23 o13 (by decide) (tw_lt hk0 (congrFun hN 0)) eo13) (congrFun hN 123).symm
      refine tw_get (v := .ref (ad 123 o13)) hx hb hts (by decide +kernel) hown hK hP (by decide) (tw_lt hk0 (congrFun hN 0)) rfl rfl 23 (by decide) (hts (.fieldLink RX10 44 "WineCellarModel" "cellLot" "[I") (by decide +kernel)) (fun _ h9 => h9) (show some (va_rf ((gR τ10 0 k0 23).map (ad 123))) = some (.ref (ad 123 o13)) by rw [eo13]; rfl) dX10_counted_31 ?_
      refine lv_iload_n hx hb dX10_counted_34 rfl (lv_at hl 1 rfl) ?_
      obtain ⟨hi14, hF⟩ := hF
      refine tw_iald hx hb hK hP (by decide) (tw_lt ho13 (congrFun hN 123)) rfl 0 rfl hi14 dX10_counted_35 ?_
      refine lv_iconst (v := (-1)) hx hb dX10_counted_36 (by decide) ?_
      refine lv_icmp_ne (tgt := 43) hx hb dX10_counted_37 (by decide) (fun c15 => ?_) (fun c15 => ?_)
      · have hF := hF.1 c15
        refine lv_iload_n hx hb dX10_counted_43 rfl (lv_at hl 2 rfl) ?_
        refine lv_aload_n hx hb dX10_counted_44 rfl (lv_at hl 0 rfl) ?_
        obtain ⟨o16, eo16, hF⟩ := hF
        have ho16 : o16 < gN τ0 124 := tw_lt (hP.2.2.2 0 k0 24 o16 (by decide) (tw_lt hk0 (congrFun hN 0)) eo16) (congrFun hN 124).symm
        refine tw_get (v := .ref (ad 124 o16)) hx hb hts (by decide +kernel) hown hK hP (by decide) (tw_lt hk0 (congrFun hN 0)) rfl rfl 24 (by decide) (hts (.fieldLink RX10 47 "WineCellarModel" "cellMany" "[I") (by decide +kernel)) (fun _ h9 => h9) (show some (va_rf ((gR τ10 0 k0 24).map (ad 124))) = some (.ref (ad 124 o16)) by rw [eo16]; rfl) dX10_counted_45 ?_
        refine lv_iload_n hx hb dX10_counted_48 rfl (lv_at hl 1 rfl) ?_
        obtain ⟨hi17, hF⟩ := hF
        refine tw_iald hx hb hK hP (by decide) (tw_lt ho16 (congrFun hN 124)) rfl 0 rfl hi17 dX10_counted_49 ?_
        refine lv_isub hx hb dX10_counted_50 ?_
        refine lv_topi (fun z18 ez18 => ?_)
        have hF := hF z18 ez18
        refine lv_istore_n (lv' := [(3, .int z18), (0, .ref (ad 0 k0)), (1, .int x1), (2, .int x2)]) hx hb dX10_counted_51 rfl hl (by decide) rfl (fun ls hl => ?_)
        refine lv_aload_n hx hb dX10_counted_52 rfl (lv_at hl 1 rfl) ?_
        refine lv_iload_n hx hb dX10_counted_53 rfl (lv_at hl 2 rfl) ?_
        refine lv_aload_n hx hb dX10_counted_54 rfl (lv_at hl 1 rfl) ?_
        obtain ⟨o19, eo19, hF⟩ := hF
        have ho19 : o19 < gN τ0 123 := tw_lt (hP.2.2.2 0 k0 23 o19 (by decide) (tw_lt hk0 (congrFun hN 0)) eo19) (congrFun hN 123).symm
        refine tw_get (v := .ref (ad 123 o19)) hx hb hts (by decide +kernel) hown hK hP (by decide) (tw_lt hk0 (congrFun hN 0)) rfl rfl 23 (by decide) (hts (.fieldLink RX10 44 "WineCellarModel" "cellLot" "[I") (by decide +kernel)) (fun _ h9 => h9) (show some (va_rf ((gR τ10 0 k0 23).map (ad 123))) = some (.ref (ad 123 o19)) by rw [eo19]; rfl) dX10_counted_55 ?_
        refine lv_iload_n hx hb dX10_counted_58 rfl (lv_at hl 2 rfl) ?_
        obtain ⟨hi20, hF⟩ := hF
        refine tw_iald hx hb hK hP (by decide) (tw_lt ho19 (congrFun hN 123)) rfl 0 rfl hi20 dX10_counted_59 ?_
        refine lv_iload_n hx hb dX10_counted_60 rfl (lv_at hl 0 rfl) ?_
        refine va_callv (va_runV (As := [.int x1, .int (gI τ10 123 o19 x1.toNatClampNeg), .int z18]) (rest := []) ⟨hx, hb, hml, hown, hts⟩ (mX10_adds l dC dI ac sa A ad τ10 k0 x1 (gI τ10 123 o19 x1.toNatClampNeg) z18 _ hF (tw_lt hk0 (congrFun hN 0))) (cwV 3 hts gX10_counted_X10_adds rfl rfl rfl (by decide +kernel) ⟨Nat.le_of_ble_eq_true rfl, Nat.le_of_ble_eq_true rfl⟩) ⟨BM.blind, tw_recv hK hP (by decide) (tw_lt hk0 (congrFun hN 0)) rfl rfl, fun U hU hW => ⟨rfl, BM.of hP hK hS hA hZ hU hW⟩⟩ rfl rfl hl.1 rfl (lv_room (Nat.le_of_ble_eq_true rfl)) dX10_counted_61 ⟨Nat.le_of_ble_eq_true rfl, Nat.le_of_ble_eq_true rfl⟩) hS (fun q _ h => h) (fun q h => h) (fun τ21 t H locs ht hvm hw hB hz hk hS => ?_)
        obtain ⟨hF, hN9⟩ := hw
        have hP : PM dC dI ac A ad τ21 H := tw_back hB ht
        have hN : gN τ21 = gN τ0 := hN9.trans hN
        refine lv_aload_n hx hb dX10_counted_64 rfl (lv_at hl 1 rfl) ?_
        refine lv_dup hx hb dX10_counted_65 rfl ?_
        refine tw_get (v := .int (gI τ21 0 k0 16)) hx hb hts (by decide +kernel) hown hK hP (by decide) (tw_lt hk0 (congrFun hN 0)) rfl rfl 16 (by decide) (hts (.fieldLink RX10 169 "WineCellarModel" "foundMany" "I") (by decide +kernel)) (fun _ h9 => h9) rfl dX10_counted_66 ?_
        refine lv_iload_n hx hb dX10_counted_69 rfl (lv_at hl 0 rfl) ?_
        refine lv_if_le (tgt := 77) hx hb dX10_counted_70 (by decide) (fun c22 => ?_) (fun c22 => ?_)
        · have hF := hF.1 c22
          refine lv_iconst (v := 0) hx hb dX10_counted_77 (by decide) ?_
          exact j78 τ21 k0 hk0 z18 ((0 : Int32)) (gI τ21 0 k0 16) k0 hk0 _ _ _ hF hP hN hS (lv_sub hl [1, 0] rfl)
        · have hF := hF.2 c22
          refine lv_iload_n hx hb dX10_counted_73 rfl (lv_at hl 0 rfl) ?_
          refine lv_goto (tgt := 78) hx hb dX10_counted_74 (by decide) ?_
          exact j78 τ21 k0 hk0 z18 z18 (gI τ21 0 k0 16) k0 hk0 _ _ _ hF hP hN hS (lv_sub hl [1, 0] rfl)
      · have hF := hF.2 c15
        refine lv_bipush (v := (-100)) hx hb dX10_counted_40 (by decide) ?_
        exact W.iret (v := (-100 : Int32)) hx hb hr (fun t ht hW => ⟨⟨((-100 : Int32)), τ10, rfl, ⟨hF, hN⟩, tw_at hP ht⟩, hS.F ht⟩) hS.2.2 dX10_counted_42
    · have hF := hF.2 c12
      refine lv_iconst (v := 0) hx hb dX10_counted_28 (by decide) ?_
      exact W.iret (v := (0 : Int32)) hx hb hr (fun t ht hW => ⟨⟨((0 : Int32)), τ10, rfl, ⟨hF, hN⟩, tw_at hP ht⟩, hS.F ht⟩) hS.2.2 dX10_counted_29
