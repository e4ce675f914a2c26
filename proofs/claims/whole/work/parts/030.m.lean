def F_X10_within (τ0 : tw_T) (x0 : Int32) (x1 : Int32) (x2 : Int32) (Q : Int32 → tw_T → Prop) : Prop := ((x0 < x1 → (Q ((0 : Int32)) τ0)) ∧ (¬ x0 < x1 → (((x2 < x0 → (Q ((0 : Int32)) τ0)) ∧ (¬ x2 < x0 → (Q ((1 : Int32)) τ0))))))
def rmX10_within : Room := { frames := 0, cells := 0, slots := 0, locals := 0 }
set_option maxHeartbeats 4000000 in
set_option maxRecDepth 100000 in
theorem mX10_within (l : Launch) (dC : Nat → ClassId) (dI : Nat → Nat → Nat) (ac : Nat → ClassId) (sa : Nat → Nat) (A : Nat → Prop) (ad : Nat → Nat → Nat) (τ0 : tw_T) (x0 : Int32) (x1 : Int32) (x2 : Int32) (Q : Int32 → tw_T → Prop) (hF : F_X10_within τ0 x0 x1 x2 Q)  : Met l yX10_within wsX10_within rmX10_within (va_Pc [.int x0, .int x1, .int x2] (BM dC dI ac sa A ad τ0)) (va_Qi (fun r (u : tw_T) => Q r u ∧ gN u = gN τ0) (fun u t => PM dC dI ac A ad u t.heap) A) 0 0 A := by
  refine Met.ofW (cc := cX10_within) (maxL := 3) (ret := (some .boolean)) (by decide) rfl ?_
  intro p e s m args below meth c s₁ B hml hv
  obtain ⟨rfl, hP, hK, hA, hZ⟩ := hv
  have hx := B.exec
  have hb := B.bytes
  have hr := B.returns
  have hts := atoms_spec (ws := wsX10_within) B.pre
  have hown : s.vm.findClass RX10 = some m.cls := findClass_of_methodNamed B.named
  have hlocks := B.notSynchronized
  have hS : va_S A s.heap s.heap [] := va_S.rf
  have hN : gN τ0 = gN τ0 := rfl
  have hl := lv_entry ([.int x0, .int x1, .int x2]) (n := 3) (Nat.le_of_ble_eq_true rfl)
  rw [lg_entry_eq]
  generalize (lg_sl ([.int x0, .int x1, .int x2]) ++ List.replicate (3 - (lg_sl ([.int x0, .int x1, .int x2])).length) Slot.unset).toArray = ls at hl ⊢
  have hl : lv_has ls 3 [(0, .int x0), (1, .int x1), (2, .int x2)] := hl
  unfold F_X10_within at hF
  refine lv_iload_n hx hb dX10_within_0 rfl (lv_at hl 0 rfl) ?_
  refine lv_iload_n hx hb dX10_within_1 rfl (lv_at hl 1 rfl) ?_
  refine lv_icmp_lt (tgt := 14) hx hb dX10_within_2 (by decide) (fun c1 => ?_) (fun c1 => ?_)
  · have hF := hF.1 c1
    refine lv_iconst (v := 0) hx hb dX10_within_14 (by decide) ?_
    exact W.zret (v := (0 : Int32)) (ty := .boolean) hx hb hr rfl (fun t ht hW => ⟨⟨((0 : Int32)), τ0, rfl, ⟨hF, hN⟩, tw_at hP ht⟩, hS.F ht⟩) hS.2.2 dX10_within_15
  · have hF := hF.2 c1
    refine lv_iload_n hx hb dX10_within_5 rfl (lv_at hl 0 rfl) ?_
    refine lv_iload_n hx hb dX10_within_6 rfl (lv_at hl 2 rfl) ?_
    refine lv_icmp_gt (tgt := 14) hx hb dX10_within_7 (by decide) (fun c2 => ?_) (fun c2 => ?_)
    · have hF := hF.1 c2
      refine lv_iconst (v := 0) hx hb dX10_within_14 (by decide) ?_
      exact W.zret (v := (0 : Int32)) (ty := .boolean) hx hb hr rfl (fun t ht hW => ⟨⟨((0 : Int32)), τ0, rfl, ⟨hF, hN⟩, tw_at hP ht⟩, hS.F ht⟩) hS.2.2 dX10_within_15
    · have hF := hF.2 c2
      refine lv_iconst (v := 1) hx hb dX10_within_10 (by decide) ?_
      refine lv_goto (tgt := 15) hx hb dX10_within_11 (by decide) ?_
      exact W.zret (v := (1 : Int32)) (ty := .boolean) hx hb hr rfl (fun t ht hW => ⟨⟨((1 : Int32)), τ0, rfl, ⟨hF, hN⟩, tw_at hP ht⟩, hS.F ht⟩) hS.2.2 dX10_within_15
def F_X10_thrown (τ0 : tw_T) (k0 : Nat) (Q : Int32 → tw_T → Prop) : Prop := Q (gI τ0 0 k0 0) τ0
def rmX10_thrown : Room := { frames := 0, cells := 0, slots := 0, locals := 0 }
set_option maxHeartbeats 4000000 in
set_option maxRecDepth 100000 in
theorem mX10_thrown (l : Launch) (dC : Nat → ClassId) (dI : Nat → Nat → Nat) (ac : Nat → ClassId) (sa : Nat → Nat) (A : Nat → Prop) (ad : Nat → Nat → Nat) (τ0 : tw_T) (k0 : Nat) (Q : Int32 → tw_T → Prop) (hF : F_X10_thrown τ0 k0 Q) (hk0 : k0 < gN τ0 0) : Met l yX10_thrown wsX10_thrown rmX10_thrown (va_Pc [.ref (ad 0 k0)] (BM dC dI ac sa A ad τ0)) (va_Qi (fun r (u : tw_T) => Q r u ∧ gN u = gN τ0) (fun u t => PM dC dI ac A ad u t.heap) A) 0 0 A := by
  refine Met.ofW (cc := cX10_thrown) (maxL := 1) (ret := (some .int)) (by decide) rfl ?_
  intro p e s m args below meth c s₁ B hml hv
  obtain ⟨rfl, hP, hK, hA, hZ⟩ := hv
  have hx := B.exec
  have hb := B.bytes
  have hr := B.returns
  have hts := atoms_spec (ws := wsX10_thrown) B.pre
  have hown : s.vm.findClass RX10 = some m.cls := findClass_of_methodNamed B.named
  have hlocks := B.notSynchronized
  have hS : va_S A s.heap s.heap [] := va_S.rf
  have hN : gN τ0 = gN τ0 := rfl
  have hl := lv_entry ([.ref (ad 0 k0)]) (n := 1) (Nat.le_of_ble_eq_true rfl)
  rw [lg_entry_eq]
  generalize (lg_sl ([.ref (ad 0 k0)]) ++ List.replicate (1 - (lg_sl ([.ref (ad 0 k0)])).length) Slot.unset).toArray = ls at hl ⊢
  have hl : lv_has ls 1 [(0, .ref (ad 0 k0))] := hl
  unfold F_X10_thrown at hF
  refine lv_aload_n hx hb dX10_thrown_0 rfl (lv_at hl 0 rfl) ?_
  refine tw_get (v := .int (gI τ0 0 k0 0)) hx hb hts (by decide +kernel) hown hK hP (by decide) hk0 rfl rfl 0 (by decide) (hts (.fieldLink RX10 1 "WineCellarModel" "thrown" "I") (by decide +kernel)) (fun _ h9 => h9) rfl dX10_thrown_1 ?_
  exact W.iret (v := gI τ0 0 k0 0) hx hb hr (fun t ht hW => ⟨⟨(gI τ0 0 k0 0), τ0, rfl, ⟨hF, hN⟩, tw_at hP ht⟩, hS.F ht⟩) hS.2.2 dX10_thrown_4
def J_X10_may_16 (τ : tw_T) (p0 : Nat) (Q : Int32 → tw_T → Prop) : Prop := ((¬ (gI τ 0 p0 0) = 0 → (Q ((0 : Int32)) τ)) ∧ ((gI τ 0 p0 0) = 0 → (Q ((1 : Int32)) τ)))
def F_X10_may (τ0 : tw_T) (k0 : Nat) (x1 : Int32) (x2 : Int32) (Q : Int32 → tw_T → Prop) : Prop := ((¬ x1 = 0 → (J_X10_may_16 τ0 k0 Q)) ∧ (x1 = 0 → (((¬ (gI τ0 0 k0 0) = 0 → (J_X10_may_16 τ0 k0 Q)) ∧ ((gI τ0 0 k0 0) = 0 → (∀ τ4 : tw_T, τ4 = sI τ0 0 k0 0 x2 → (J_X10_may_16 τ4 k0 Q)))))))
def rmX10_may : Room := { frames := 0, cells := 0, slots := 0, locals := 0 }
set_option maxHeartbeats 4000000 in
set_option maxRecDepth 100000 in
theorem mX10_may (l : Launch) (dC : Nat → ClassId) (dI : Nat → Nat → Nat) (ac : Nat → ClassId) (sa : Nat → Nat) (A : Nat → Prop) (ad : Nat → Nat → Nat) (τ0 : tw_T) (k0 : Nat) (x1 : Int32) (x2 : Int32) (Q : Int32 → tw_T → Prop) (hF : F_X10_may τ0 k0 x1 x2 Q) (hk0 : k0 < gN τ0 0) : Met l yX10_may wsX10_may rmX10_may (va_Pc [.ref (ad 0 k0), .int x1, .int x2] (BM dC dI ac sa A ad τ0)) (va_Qi (fun r (u : tw_T) => Q r u ∧ gN u = gN τ0) (fun u t => PM dC dI ac A ad u t.heap) A) 0 0 A := by
  refine Met.ofW (cc := cX10_may) (maxL := 3) (ret := (some .boolean)) (by decide) rfl ?_
  intro p e s m args below meth c s₁ B hml hv
  obtain ⟨rfl, hP, hK, hA, hZ⟩ := hv
  have hx := B.exec
  have hb := B.bytes
  have hr := B.returns
  have hts := atoms_spec (ws := wsX10_may) B.pre
  have hown : s.vm.findClass RX10 = some m.cls := findClass_of_methodNamed B.named
  have hlocks := B.notSynchronized
  have hS : va_S A s.heap s.heap [] := va_S.rf
  have hN : gN τ0 = gN τ0 := rfl
  have hl := lv_entry ([.ref (ad 0 k0), .int x1, .int x2]) (n := 3) (Nat.le_of_ble_eq_true rfl)
  rw [lg_entry_eq]
  generalize (lg_sl ([.ref (ad 0 k0), .int x1, .int x2]) ++ List.replicate (3 - (lg_sl ([.ref (ad 0 k0), .int x1, .int x2])).length) Slot.unset).toArray = ls at hl ⊢
  have hl : lv_has ls 3 [(0, .ref (ad 0 k0)), (1, .int x1), (2, .int x2)] := hl
  unfold F_X10_may at hF
  have j16 : ∀ (τ : tw_T) (p0 : Nat) (hp0 : p0 < gN τ0 0) (H : Heap) (locs : List Loc) (ls : Array Slot), J_X10_may_16 τ p0 Q → PM dC dI ac A ad τ H → gN τ = gN τ0 → va_S A s.heap H locs → lv_has ls 3 [(0, .ref (ad 0 p0))] → W p l e rmX10_may s m ([.ref (ad 0 k0), .int x1, .int x2] : List Value).toArray below meth c H locs 0 0 (MQ below (va_Qi (fun r (u : tw_T) => Q r u ∧ gN u = gN τ0) (fun u t => PM dC dI ac A ad u t.heap) A) ([.ref (ad 0 k0), .int x1, .int x2] : List Value).toArray s 0 0 A) (F0 m 16 ls []) := by
    intro τ p0 hp0 H locs ls hF hP hN hS hl
    unfold J_X10_may_16 at hF
    refine lv_aload_n hx hb dX10_may_16 rfl (lv_at hl 0 rfl) ?_
    refine tw_get (v := .int (gI τ 0 p0 0)) hx hb hts (by decide +kernel) hown hK hP (by decide) (tw_lt hp0 (congrFun hN 0)) rfl rfl 0 (by decide) (hts (.fieldLink RX10 1 "WineCellarModel" "thrown" "I") (by decide +kernel)) (fun _ h9 => h9) rfl dX10_may_17 ?_
    refine lv_if_ne (tgt := 27) hx hb dX10_may_20 (by decide) (fun c1 => ?_) (fun c1 => ?_)
    · have hF := hF.1 c1
      refine lv_iconst (v := 0) hx hb dX10_may_27 (by decide) ?_
      exact W.zret (v := (0 : Int32)) (ty := .boolean) hx hb hr rfl (fun t ht hW => ⟨⟨((0 : Int32)), τ, rfl, ⟨hF, hN⟩, tw_at hP ht⟩, hS.F ht⟩) hS.2.2 dX10_may_28
    · have hF := hF.2 c1
      refine lv_iconst (v := 1) hx hb dX10_may_23 (by decide) ?_
      refine lv_goto (tgt := 28) hx hb dX10_may_24 (by decide) ?_
      exact W.zret (v := (1 : Int32)) (ty := .boolean) hx hb hr rfl (fun t ht hW => ⟨⟨((1 : Int32)), τ, rfl, ⟨hF, hN⟩, tw_at hP ht⟩, hS.F ht⟩) hS.2.2 dX10_may_28
  refine lv_iload_n hx hb dX10_may_0 rfl (lv_at hl 1 rfl) ?_
  refine lv_if_ne (tgt := 16) hx hb dX10_may_1 (by decide) (fun c2 => ?_) (fun c2 => ?_)
  · have hF := hF.1 c2
    exact j16 τ0 k0 hk0 _ _ _ hF hP hN hS (lv_sub hl [0] rfl)
  · have hF := hF.2 c2
    refine lv_aload_n hx hb dX10_may_4 rfl (lv_at hl 0 rfl) ?_
    refine tw_get (v := .int (gI τ0 0 k0 0)) hx hb hts (by decide +kernel) hown hK hP (by decide) hk0 rfl rfl 0 (by decide) (hts (.fieldLink RX10 1 "WineCellarModel" "thrown" "I") (by decide +kernel)) (fun _ h9 => h9) rfl dX10_may_5 ?_
    refine lv_if_ne (tgt := 16) hx hb dX10_may_8 (by decide) (fun c3 => ?_) (fun c3 => ?_)
    · have hF := hF.1 c3
      exact j16 τ0 k0 hk0 _ _ _ hF hP hN hS (lv_sub hl [0] rfl)
    · have hF := hF.2 c3
      refine lv_aload_n hx hb dX10_may_11 rfl (lv_at hl 0 rfl) ?_
      refine lv_iload_n hx hb dX10_may_12 rfl (lv_at hl 2 rfl) ?_
      refine tw_put (τ' := sI τ0 0 k0 0 x2) (ty := .int) hx hb hts (by decide +kernel) tyX10 tyX10_ok nmX10 hown hK hP hS (by decide) hk0 rfl rfl 0 (by decide) (hts (.fieldLink RX10 1 "WineCellarModel" "thrown" "I") (by decide +kernel)) (fun _ h9 => h9) rfl (by decide +kernel) rfl rfl (Nat.le_of_ble_eq_true rfl) dX10_may_13 (fun H1 ha ho => tw_updI hP (by decide) hk0 ha ho) (fun H locs hP hS => ?_)
      obtain ⟨τ4, eτ4⟩ : ∃ y : tw_T, y = sI τ0 0 k0 0 x2 := ⟨_, rfl⟩
      have hF := hF τ4 eτ4
      rw [← eτ4] at hP
      have hN : gN τ4 = gN τ0 := by rw [eτ4]; exact hN
      exact j16 τ4 k0 hk0 _ _ _ hF hP hN hS (lv_sub hl [0] rfl)
def F_X10_year (τ0 : tw_T) (k0 : Nat) (Q : Int32 → tw_T → Prop) : Prop := Q (((2000 : Int32)) + ((gI τ0 0 k0 3) / ((8760 : Int32)))) τ0
def rmX10_year : Room := { frames := 0, cells := 0, slots := 0, locals := 0 }
set_option maxHeartbeats 4000000 in
set_option maxRecDepth 100000 in
theorem mX10_year (l : Launch) (dC : Nat → ClassId) (dI : Nat → Nat → Nat) (ac : Nat → ClassId) (sa : Nat → Nat) (A : Nat → Prop) (ad : Nat → Nat → Nat) (τ0 : tw_T) (k0 : Nat) (Q : Int32 → tw_T → Prop) (hF : F_X10_year τ0 k0 Q) (hk0 : k0 < gN τ0 0) : Met l yX10_year wsX10_year rmX10_year (va_Pc [.ref (ad 0 k0)] (BM dC dI ac sa A ad τ0)) (va_Qi (fun r (u : tw_T) => Q r u ∧ gN u = gN τ0) (fun u t => PM dC dI ac A ad u t.heap) A) 0 0 A := by
  refine Met.ofW (cc := cX10_year) (maxL := 1) (ret := (some .int)) (by decide) rfl ?_
  intro p e s m args below meth c s₁ B hml hv
  obtain ⟨rfl, hP, hK, hA, hZ⟩ := hv
  have hx := B.exec
  have hb := B.bytes
  have hr := B.returns
  have hts := atoms_spec (ws := wsX10_year) B.pre
  have hown : s.vm.findClass RX10 = some m.cls := findClass_of_methodNamed B.named
  have hlocks := B.notSynchronized
  have hS : va_S A s.heap s.heap [] := va_S.rf
  have hN : gN τ0 = gN τ0 := rfl
  have hl := lv_entry ([.ref (ad 0 k0)]) (n := 1) (Nat.le_of_ble_eq_true rfl)
  rw [lg_entry_eq]
  generalize (lg_sl ([.ref (ad 0 k0)]) ++ List.replicate (1 - (lg_sl ([.ref (ad 0 k0)])).length) Slot.unset).toArray = ls at hl ⊢
  have hl : lv_has ls 1 [(0, .ref (ad 0 k0))] := hl
  unfold F_X10_year at hF
  refine lv_sipush (v := 2000) hx hb dX10_year_0 (by decide) ?_
  refine lv_aload_n hx hb dX10_year_3 rfl (lv_at hl 0 rfl) ?_
  refine tw_get (v := .int (gI τ0 0 k0 3)) hx hb hts (by decide +kernel) hown hK hP (by decide) hk0 rfl rfl 3 (by decide) (hts (.fieldLink RX10 105 "WineCellarModel" "hour" "I") (by decide +kernel)) (fun _ h9 => h9) rfl dX10_year_4 ?_
  refine lv_sipush (v := 8760) hx hb dX10_year_7 (by decide) ?_
  refine lv_idiv hx hb dX10_year_10 (by decide) ?_
  refine lv_iadd hx hb dX10_year_11 ?_
  exact W.iret (v := ((2000 : Int32)) + ((gI τ0 0 k0 3) / ((8760 : Int32)))) hx hb hr (fun t ht hW => ⟨⟨(((2000 : Int32)) + ((gI τ0 0 k0 3) / ((8760 : Int32)))), τ0, rfl, ⟨hF, hN⟩, tw_at hP ht⟩, hS.F ht⟩) hS.2.2 dX10_year_12
def F_X10_newLot (τ0 : tw_T) (k0 : Nat) (x1 : Int32) (x2 : Int32) (x3 : Int32) (Q : Int32 → tw_T → Prop) : Prop := ∃ o1 : Nat, gR τ0 0 k0 10 = some o1 ∧ (vp_in (gI τ0 0 k0 2) 60 ∧ (∀ τ3 : tw_T, τ3 = sI τ0 110 o1 (gI τ0 0 k0 2).toNatClampNeg x1 → (∃ o4 : Nat, gR τ3 0 k0 11 = some o4 ∧ (vp_in (gI τ3 0 k0 2) 60 ∧ (∀ τ6 : tw_T, τ6 = sI τ3 111 o4 (gI τ3 0 k0 2).toNatClampNeg x2 → (∃ o7 : Nat, gR τ6 0 k0 12 = some o7 ∧ (vp_in (gI τ6 0 k0 2) 60 ∧ (∀ τ9 : tw_T, τ9 = sI τ6 112 o7 (gI τ6 0 k0 2).toNatClampNeg x3 → (∃ o10 : Nat, gR τ9 0 k0 13 = some o10 ∧ (∃ o11 : Nat, gR τ9 0 k0 8 = some o11 ∧ (vp_in x1 20 ∧ (vp_in (gI τ9 0 k0 2) 60 ∧ (∀ τ14 : tw_T, τ14 = sI τ9 113 o10 (gI τ9 0 k0 2).toNatClampNeg (x2 + (gI τ9 108 o11 x1.toNatClampNeg)) → (∃ o15 : Nat, gR τ14 0 k0 14 = some o15 ∧ (∃ o16 : Nat, gR τ14 0 k0 9 = some o16 ∧ (vp_in x1 20 ∧ (vp_in (gI τ14 0 k0 2) 60 ∧ (∀ τ19 : tw_T, τ19 = sI τ14 114 o15 (gI τ14 0 k0 2).toNatClampNeg (x2 + (gI τ14 109 o16 x1.toNatClampNeg)) → (∀ τ20 : tw_T, τ20 = sI τ19 0 k0 2 ((gI τ19 0 k0 2) + ((1 : Int32))) → (Q ((gI τ20 0 k0 2) - ((1 : Int32))) τ20))))))))))))))))))))
def rmX10_newLot : Room := { frames := 0, cells := 0, slots := 0, locals := 0 }
set_option maxHeartbeats 4000000 in
set_option maxRecDepth 100000 in
theorem mX10_newLot (l : Launch) (dC : Nat → ClassId) (dI : Nat → Nat → Nat) (ac : Nat → ClassId) (sa : Nat → Nat) (A : Nat → Prop) (ad : Nat → Nat → Nat) (τ0 : tw_T) (k0 : Nat) (x1 : Int32) (x2 : Int32) (x3 : Int32) (Q : Int32 → tw_T → Prop) (hF : F_X10_newLot τ0 k0 x1 x2 x3 Q) (hk0 : k0 < gN τ0 0) : Met l yX10_newLot wsX10_newLot rmX10_newLot (va_Pc [.ref (ad 0 k0), .int x1, .int x2, .int x3] (BM dC dI ac sa A ad τ0)) (va_Qi (fun r (u : tw_T) => Q r u ∧ gN u = gN τ0) (fun u t => PM dC dI ac A ad u t.heap) A) 0 0 A := by
  refine Met.ofW (cc := cX10_newLot) (maxL := 4) (ret := (some .int)) (by decide) rfl ?_
  intro p e s m args below meth c s₁ B hml hv
  obtain ⟨rfl, hP, hK, hA, hZ⟩ := hv
  have hx := B.exec
  have hb := B.bytes
  have hr := B.returns
  have hts := atoms_spec (ws := wsX10_newLot) B.pre
  have hown : s.vm.findClass RX10 = some m.cls := findClass_of_methodNamed B.named
  have hlocks := B.notSynchronized
  have hS : va_S A s.heap s.heap [] := va_S.rf
  have hN : gN τ0 = gN τ0 := rfl
  have hl := lv_entry ([.ref (ad 0 k0), .int x1, .int x2, .int x3]) (n := 4) (Nat.le_of_ble_eq_true rfl)
  rw [lg_entry_eq]
  generalize (lg_sl ([.ref (ad 0 k0), .int x1, .int x2, .int x3]) ++ List.replicate (4 - (lg_sl ([.ref (ad 0 k0), .int x1, .int x2, .int x3])).length) Slot.unset).toArray = ls at hl ⊢
  have hl : lv_has ls 4 [(0, .ref (ad 0 k0)), (1, .int x1), (2, .int x2), (3, .int x3)] := hl
  unfold F_X10_newLot at hF
  refine lv_aload_n hx hb dX10_newLot_0 rfl (lv_at hl 0 rfl) ?_
  obtain ⟨o1, eo1, hF⟩ := hF
  have ho1 : o1 < gN τ0 110 := tw_lt (hP.2.2.2 0 k0 10 o1 (by decide) hk0 eo1) (congrFun hN 110).symm
  refine tw_get (v := .ref (ad 110 o1)) hx hb hts (by decide +kernel) hown hK hP (by decide) hk0 rfl rfl 10 (by decide) (hts (.fieldLink RX10 29 "WineCellarModel" "kindOf" "[I") (by decide +kernel)) (fun _ h9 => h9) (show some (va_rf ((gR τ0 0 k0 10).map (ad 110))) = some (.ref (ad 110 o1)) by rw [eo1]; rfl) dX10_newLot_1 ?_
  refine lv_aload_n hx hb dX10_newLot_4 rfl (lv_at hl 0 rfl) ?_
  refine tw_get (v := .int (gI τ0 0 k0 2)) hx hb hts (by decide +kernel) hown hK hP (by decide) hk0 rfl rfl 2 (by decide) (hts (.fieldLink RX10 119 "WineCellarModel" "lots" "I") (by decide +kernel)) (fun _ h9 => h9) rfl dX10_newLot_5 ?_
  refine lv_iload_n hx hb dX10_newLot_8 rfl (lv_at hl 1 rfl) ?_
  obtain ⟨hi2, hF⟩ := hF
  refine tw_iast hx hb hK hP hS (by decide) ho1 rfl 0 rfl hi2 dX10_newLot_9 (fun H locs hP hS => ?_)
  obtain ⟨τ3, eτ3⟩ : ∃ y : tw_T, y = sI τ0 110 o1 (gI τ0 0 k0 2).toNatClampNeg x1 := ⟨_, rfl⟩
  have hF := hF τ3 eτ3
  rw [← eτ3] at hP
  have hN : gN τ3 = gN τ0 := by rw [eτ3]; exact hN
  refine lv_aload_n hx hb dX10_newLot_10 rfl (lv_at hl 0 rfl) ?_
  obtain ⟨o4, eo4, hF⟩ := hF
  have ho4 : o4 < gN τ0 111 := tw_lt (hP.2.2.2 0 k0 11 o4 (by decide) (tw_lt hk0 (congrFun hN 0)) eo4) (congrFun hN 111).symm
  refine tw_get (v := .ref (ad 111 o4)) hx hb hts (by decide +kernel) hown hK hP (by decide) (tw_lt hk0 (congrFun hN 0)) rfl rfl 11 (by decide) (hts (.fieldLink RX10 32 "WineCellarModel" "vintage" "[I") (by decide +kernel)) (fun _ h9 => h9) (show some (va_rf ((gR τ3 0 k0 11).map (ad 111))) = some (.ref (ad 111 o4)) by rw [eo4]; rfl) dX10_newLot_11 ?_
  refine lv_aload_n hx hb dX10_newLot_14 rfl (lv_at hl 0 rfl) ?_
  refine tw_get (v := .int (gI τ3 0 k0 2)) hx hb hts (by decide +kernel) hown hK hP (by decide) (tw_lt hk0 (congrFun hN 0)) rfl rfl 2 (by decide) (hts (.fieldLink RX10 119 "WineCellarModel" "lots" "I") (by decide +kernel)) (fun _ h9 => h9) rfl dX10_newLot_15 ?_
  refine lv_iload_n hx hb dX10_newLot_18 rfl (lv_at hl 2 rfl) ?_
  obtain ⟨hi5, hF⟩ := hF
  refine tw_iast hx hb hK hP hS (by decide) (tw_lt ho4 (congrFun hN 111)) rfl 0 rfl hi5 dX10_newLot_19 (fun H locs hP hS => ?_)
  obtain ⟨τ6, eτ6⟩ : ∃ y : tw_T, y = sI τ3 111 o4 (gI τ3 0 k0 2).toNatClampNeg x2 := ⟨_, rfl⟩
  have hF := hF τ6 eτ6
  rw [← eτ6] at hP
  have hN : gN τ6 = gN τ0 := by rw [eτ6]; exact hN
  refine lv_aload_n hx hb dX10_newLot_20 rfl (lv_at hl 0 rfl) ?_
  obtain ⟨o7, eo7, hF⟩ := hF
  have ho7 : o7 < gN τ0 112 := tw_lt (hP.2.2.2 0 k0 12 o7 (by decide) (tw_lt hk0 (congrFun hN 0)) eo7) (congrFun hN 112).symm
  refine tw_get (v := .ref (ad 112 o7)) hx hb hts (by decide +kernel) hown hK hP (by decide) (tw_lt hk0 (congrFun hN 0)) rfl rfl 12 (by decide) (hts (.fieldLink RX10 35 "WineCellarModel" "price" "[I") (by decide +kernel)) (fun _ h9 => h9) (show some (va_rf ((gR τ6 0 k0 12).map (ad 112))) = some (.ref (ad 112 o7)) by rw [eo7]; rfl) dX10_newLot_21 ?_
  refine lv_aload_n hx hb dX10_newLot_24 rfl (lv_at hl 0 rfl) ?_
  refine tw_get (v := .int (gI τ6 0 k0 2)) hx hb hts (by decide +kernel) hown hK hP (by decide) (tw_lt hk0 (congrFun hN 0)) rfl rfl 2 (by decide) (hts (.fieldLink RX10 119 "WineCellarModel" "lots" "I") (by decide +kernel)) (fun _ h9 => h9) rfl dX10_newLot_25 ?_
  refine lv_iload_n hx hb dX10_newLot_28 rfl (lv_at hl 3 rfl) ?_
  obtain ⟨hi8, hF⟩ := hF
  refine tw_iast hx hb hK hP hS (by decide) (tw_lt ho7 (congrFun hN 112)) rfl 0 rfl hi8 dX10_newLot_29 (fun H locs hP hS => ?_)
  obtain ⟨τ9, eτ9⟩ : ∃ y : tw_T, y = sI τ6 112 o7 (gI τ6 0 k0 2).toNatClampNeg x3 := ⟨_, rfl⟩
  have hF := hF τ9 eτ9
  rw [← eτ9] at hP
  have hN : gN τ9 = gN τ0 := by rw [eτ9]; exact hN
  refine lv_aload_n hx hb dX10_newLot_30 rfl (lv_at hl 0 rfl) ?_
  obtain ⟨o10, eo10, hF⟩ := hF
  have ho10 : o10 < gN τ0 113 := tw_lt (hP.2.2.2 0 k0 13 o10 (by decide) (tw_lt hk0 (congrFun hN 0)) eo10) (congrFun hN 113).symm
  refine tw_get (v := .ref (ad 113 o10)) hx hb hts (by decide +kernel) hown hK hP (by decide) (tw_lt hk0 (congrFun hN 0)) rfl rfl 13 (by decide) (hts (.fieldLink RX10 38 "WineCellarModel" "from" "[I") (by decide +kernel)) (fun _ h9 => h9) (show some (va_rf ((gR τ9 0 k0 13).map (ad 113))) = some (.ref (ad 113 o10)) by rw [eo10]; rfl) dX10_newLot_31 ?_
  refine lv_aload_n hx hb dX10_newLot_34 rfl (lv_at hl 0 rfl) ?_
  refine tw_get (v := .int (gI τ9 0 k0 2)) hx hb hts (by decide +kernel) hown hK hP (by decide) (tw_lt hk0 (congrFun hN 0)) rfl rfl 2 (by decide) (hts (.fieldLink RX10 119 "WineCellarModel" "lots" "I") (by decide +kernel)) (fun _ h9 => h9) rfl dX10_newLot_35 ?_
  refine lv_iload_n hx hb dX10_newLot_38 rfl (lv_at hl 2 rfl) ?_
  refine lv_aload_n hx hb dX10_newLot_39 rfl (lv_at hl 0 rfl) ?_
  obtain ⟨o11, eo11, hF⟩ := hF
  have ho11 : o11 < gN τ0 108 := tw_lt (hP.2.2.2 0 k0 8 o11 (by decide) (tw_lt hk0 (congrFun hN 0)) eo11) (congrFun hN 108).symm
  refine tw_get (v := .ref (ad 108 o11)) hx hb hts (by decide +kernel) hown hK hP (by decide) (tw_lt hk0 (congrFun hN 0)) rfl rfl 8 (by decide) (hts (.fieldLink RX10 23 "WineCellarModel" "young" "[I") (by decide +kernel)) (fun _ h9 => h9) (show some (va_rf ((gR τ9 0 k0 8).map (ad 108))) = some (.ref (ad 108 o11)) by rw [eo11]; rfl) dX10_newLot_40 ?_
  refine lv_iload_n hx hb dX10_newLot_43 rfl (lv_at hl 1 rfl) ?_
  obtain ⟨hi12, hF⟩ := hF
  refine tw_iald hx hb hK hP (by decide) (tw_lt ho11 (congrFun hN 108)) rfl 0 rfl hi12 dX10_newLot_44 ?_
  refine lv_iadd hx hb dX10_newLot_45 ?_
  obtain ⟨hi13, hF⟩ := hF
  refine tw_iast hx hb hK hP hS (by decide) (tw_lt ho10 (congrFun hN 113)) rfl 0 rfl hi13 dX10_newLot_46 (fun H locs hP hS => ?_)
  obtain ⟨τ14, eτ14⟩ : ∃ y : tw_T, y = sI τ9 113 o10 (gI τ9 0 k0 2).toNatClampNeg (x2 + (gI τ9 108 o11 x1.toNatClampNeg)) := ⟨_, rfl⟩
  have hF := hF τ14 eτ14
  rw [← eτ14] at hP
  have hN : gN τ14 = gN τ0 := by rw [eτ14]; exact hN
  refine lv_aload_n hx hb dX10_newLot_47 rfl (lv_at hl 0 rfl) ?_
  obtain ⟨o15, eo15, hF⟩ := hF
  have ho15 : o15 < gN τ0 114 := tw_lt (hP.2.2.2 0 k0 14 o15 (by decide) (tw_lt hk0 (congrFun hN 0)) eo15) (congrFun hN 114).symm
  refine tw_get (v := .ref (ad 114 o15)) hx hb hts (by decide +kernel) hown hK hP (by decide) (tw_lt hk0 (congrFun hN 0)) rfl rfl 14 (by decide) (hts (.fieldLink RX10 41 "WineCellarModel" "until" "[I") (by decide +kernel)) (fun _ h9 => h9) (show some (va_rf ((gR τ14 0 k0 14).map (ad 114))) = some (.ref (ad 114 o15)) by rw [eo15]; rfl) dX10_newLot_48 ?_
  refine lv_aload_n hx hb dX10_newLot_51 rfl (lv_at hl 0 rfl) ?_
  refine tw_get (v := .int (gI τ14 0 k0 2)) hx hb hts (by decide +kernel) hown hK hP (by decide) (tw_lt hk0 (congrFun hN 0)) rfl rfl 2 (by decide) (hts (.fieldLink RX10 119 "WineCellarModel" "lots" "I") (by decide +kernel)) (fun _ h9 => h9) rfl dX10_newLot_52 ?_
  refine lv_iload_n hx hb dX10_newLot_55 rfl (lv_at hl 2 rfl) ?_
  refine lv_aload_n hx hb dX10_newLot_56 rfl (lv_at hl 0 rfl) ?_
  obtain ⟨o16, eo16, hF⟩ := hF
  have ho16 : o16 < gN τ0 109 := tw_lt (hP.2.2.2 0 k0 9 o16 (by decide) (tw_lt hk0 (congrFun hN 0)) eo16) (congrFun hN 109).symm
  refine tw_get (v := .ref (ad 109 o16)) hx hb hts (by decide +kernel) hown hK hP (by decide) (tw_lt hk0 (congrFun hN 0)) rfl rfl 9 (by decide) (hts (.fieldLink RX10 26 "WineCellarModel" "old" "[I") (by decide +kernel)) (fun _ h9 => h9) (show some (va_rf ((gR τ14 0 k0 9).map (ad 109))) = some (.ref (ad 109 o16)) by rw [eo16]; rfl) dX10_newLot_57 ?_
  refine lv_iload_n hx hb dX10_newLot_60 rfl (lv_at hl 1 rfl) ?_
  obtain ⟨hi17, hF⟩ := hF
  refine tw_iald hx hb hK hP (by decide) (tw_lt ho16 (congrFun hN 109)) rfl 0 rfl hi17 dX10_newLot_61 ?_
  refine lv_iadd hx hb dX10_newLot_62 ?_
  obtain ⟨hi18, hF⟩ := hF
  refine tw_iast hx hb hK hP hS (by decide) (tw_lt ho15 (congrFun hN 114)) rfl 0 rfl hi18 dX10_newLot_63 (fun H locs hP hS => ?_)
  obtain ⟨τ19, eτ19⟩ : ∃ y : tw_T, y = sI τ14 114 o15 (gI τ14 0 k0 2).toNatClampNeg (x2 + (gI τ14 109 o16 x1.toNatClampNeg)) := ⟨_, rfl⟩
  have hF := hF τ19 eτ19
  rw [← eτ19] at hP
  have hN : gN τ19 = gN τ0 := by rw [eτ19]; exact hN
  refine lv_aload_n hx hb dX10_newLot_64 rfl (lv_at hl 0 rfl) ?_
  refine lv_dup hx hb dX10_newLot_65 rfl ?_
  refine tw_get (v := .int (gI τ19 0 k0 2)) hx hb hts (by decide +kernel) hown hK hP (by decide) (tw_lt hk0 (congrFun hN 0)) rfl rfl 2 (by decide) (hts (.fieldLink RX10 119 "WineCellarModel" "lots" "I") (by decide +kernel)) (fun _ h9 => h9) rfl dX10_newLot_66 ?_
  refine lv_iconst (v := 1) hx hb dX10_newLot_69 (by decide) ?_
  refine lv_iadd hx hb dX10_newLot_70 ?_
  refine tw_put (τ' := sI τ19 0 k0 2 ((gI τ19 0 k0 2) + ((1 : Int32)))) (ty := .int) hx hb hts (by decide +kernel) tyX10 tyX10_ok nmX10 hown hK hP hS (by decide) (tw_lt hk0 (congrFun hN 0)) rfl rfl 2 (by decide) (hts (.fieldLink RX10 119 "WineCellarModel" "lots" "I") (by decide +kernel)) (fun _ h9 => h9) rfl (by decide +kernel) rfl rfl (Nat.le_of_ble_eq_true rfl) dX10_newLot_71 (fun H1 ha ho => tw_updI hP (by decide) (tw_lt hk0 (congrFun hN 0)) ha ho) (fun H locs hP hS => ?_)
  obtain ⟨τ20, eτ20⟩ : ∃ y : tw_T, y = sI τ19 0 k0 2 ((gI τ19 0 k0 2) + ((1 : Int32))) := ⟨_, rfl⟩
  have hF := hF τ20 eτ20
  rw [← eτ20] at hP
  have hN : gN τ20 = gN τ0 := by rw [eτ20]; exact hN
  refine lv_aload_n hx hb dX10_newLot_74 rfl (lv_at hl 0 rfl) ?_
  refine tw_get (v := .int (gI τ20 0 k0 2)) hx hb hts (by decide +kernel) hown hK hP (by decide) (tw_lt hk0 (congrFun hN 0)) rfl rfl 2 (by decide) (hts (.fieldLink RX10 119 "WineCellarModel" "lots" "I") (by decide +kernel)) (fun _ h9 => h9) rfl dX10_newLot_75 ?_
  refine lv_iconst (v := 1) hx hb dX10_newLot_78 (by decide) ?_
  refine lv_isub hx hb dX10_newLot_79 ?_
  exact W.iret (v := (gI τ20 0 k0 2) - ((1 : Int32))) hx hb hr (fun t ht hW => ⟨⟨((gI τ20 0 k0 2) - ((1 : Int32))), τ20, rfl, ⟨hF, hN⟩, tw_at hP ht⟩, hS.F ht⟩) hS.2.2 dX10_newLot_80
def J_X10_kind_60 (τ : tw_T) (p0 : Nat) (u1 : Int32) (u2 : Int32) (u3 : Int32) (u4 : Int32) (u5 : Int32) (y0 : Int32) (Q : Int32 → tw_T → Prop) : Prop := F_X10_may τ p0 y0 ((1 : Int32)) (fun (r2 : Int32) (τ1 : tw_T) => (((¬ r2 = 0 → (((¬ (gI τ1 0 p0 1) = ((20 : Int32)) → (∃ o5 : Nat, gR τ1 0 p0 5 = some o5 ∧ (vp_in (gI τ1 0 p0 1) 20 ∧ (∀ τ7 : tw_T, τ7 = sI τ1 105 o5 (gI τ1 0 p0 1).toNatClampNeg u1 → (∃ o8 : Nat, gR τ7 0 p0 6 = some o8 ∧ (vp_in (gI τ7 0 p0 1) 20 ∧ (∀ τ10 : tw_T, τ10 = sI τ7 106 o8 (gI τ7 0 p0 1).toNatClampNeg u2 → (∃ o11 : Nat, gR τ10 0 p0 7 = some o11 ∧ (vp_in (gI τ10 0 p0 1) 20 ∧ (∀ τ13 : tw_T, τ13 = sI τ10 107 o11 (gI τ10 0 p0 1).toNatClampNeg u3 → (∃ o14 : Nat, gR τ13 0 p0 8 = some o14 ∧ (vp_in (gI τ13 0 p0 1) 20 ∧ (∀ τ16 : tw_T, τ16 = sI τ13 108 o14 (gI τ13 0 p0 1).toNatClampNeg u4 → (∃ o17 : Nat, gR τ16 0 p0 9 = some o17 ∧ (vp_in (gI τ16 0 p0 1) 20 ∧ (∀ τ19 : tw_T, τ19 = sI τ16 109 o17 (gI τ16 0 p0 1).toNatClampNeg u5 → (∀ τ20 : tw_T, τ20 = sI τ19 0 p0 1 ((gI τ19 0 p0 1) + ((1 : Int32))) → (Q ((gI τ20 0 p0 1) - ((1 : Int32))) τ20)))))))))))))))))) ∧ ((gI τ1 0 p0 1) = ((20 : Int32)) → (Q ((-1 : Int32)) τ1))))) ∧ (r2 = 0 → (Q ((0 : Int32)) τ1)))))
def J_X10_kind_59 (τ : tw_T) (p0 : Nat) (u1 : Int32) (u2 : Int32) (u3 : Int32) (u4 : Int32) (u5 : Int32) (Q : Int32 → tw_T → Prop) : Prop := J_X10_kind_60 τ p0 u1 u2 u3 u4 u5 ((0 : Int32)) Q
def F_X10_kind (τ0 : tw_T) (k0 : Nat) (x1 : Int32) (x2 : Int32) (x3 : Int32) (x4 : Int32) (x5 : Int32) (Q : Int32 → tw_T → Prop) : Prop := ∀ τ21 : tw_T, τ21 = sI τ0 0 k0 0 ((0 : Int32)) → (F_X10_within τ21 x1 ((0 : Int32)) ((2 : Int32)) (fun (r23 : Int32) (τ22 : tw_T) => (((r23 = 0 → (J_X10_kind_59 τ22 k0 x1 x2 x3 x4 x5 Q)) ∧ (¬ r23 = 0 → (F_X10_within τ22 x2 ((1 : Int32)) ((5 : Int32)) (fun (r26 : Int32) (τ25 : tw_T) => (((r26 = 0 → (J_X10_kind_59 τ25 k0 x1 x2 x3 x4 x5 Q)) ∧ (¬ r26 = 0 → (F_X10_within τ25 x3 ((0 : Int32)) ((1 : Int32)) (fun (r29 : Int32) (τ28 : tw_T) => (((r29 = 0 → (J_X10_kind_59 τ28 k0 x1 x2 x3 x4 x5 Q)) ∧ (¬ r29 = 0 → (F_X10_within τ28 x4 ((0 : Int32)) ((60 : Int32)) (fun (r32 : Int32) (τ31 : tw_T) => (((r32 = 0 → (J_X10_kind_59 τ31 k0 x1 x2 x3 x4 x5 Q)) ∧ (¬ r32 = 0 → (F_X10_within τ31 x5 x4 ((60 : Int32)) (fun (r35 : Int32) (τ34 : tw_T) => (((r35 = 0 → (J_X10_kind_59 τ34 k0 x1 x2 x3 x4 x5 Q)) ∧ (¬ r35 = 0 → (J_X10_kind_60 τ34 k0 x1 x2 x3 x4 x5 ((1 : Int32)) Q))))))))))))))))))))))))))
def rmX10_kind : Room := { frames := 1, cells := 0, slots := 0, locals := 22 }
set_option maxHeartbeats 4000000 in
set_option maxRecDepth 100000 in
theorem mX10_kind (l : Launch) (dC : Nat → ClassId) (dI : Nat → Nat → Nat) (ac : Nat → ClassId) (sa : Nat → Nat) (A : Nat → Prop) (ad : Nat → Nat → Nat) (τ0 : tw_T) (k0 : Nat) (x1 : Int32) (x2 : Int32) (x3 : Int32) (x4 : Int32) (x5 : Int32) (Q : Int32 → tw_T → Prop) (hF : F_X10_kind τ0 k0 x1 x2 x3 x4 x5 Q) (hk0 : k0 < gN τ0 0) : Met l yX10_kind wsX10_kind rmX10_kind (va_Pc [.ref (ad 0 k0), .int x1, .int x2, .int x3, .int x4, .int x5] (BM dC dI ac sa A ad τ0)) (va_Qi (fun r (u : tw_T) => Q r u ∧ gN u = gN τ0) (fun u t => PM dC dI ac A ad u t.heap) A) 0 0 A := by
  refine Met.ofW (cc := cX10_kind) (maxL := 7) (ret := (some .int)) (by decide) rfl ?_
  intro p e s m args below meth c s₁ B hml hv
  obtain ⟨rfl, hP, hK, hA, hZ⟩ := hv
  have hx := B.exec
  have hb := B.bytes
  have hr := B.returns
  have hts := atoms_spec (ws := wsX10_kind) B.pre
  have hown : s.vm.findClass RX10 = some m.cls := findClass_of_methodNamed B.named
  have hlocks := B.notSynchronized
  have hS : va_S A s.heap s.heap [] := va_S.rf
  have hN : gN τ0 = gN τ0 := rfl
  have hl := lv_entry ([.ref (ad 0 k0), .int x1, .int x2, .int x3, .int x4, .int x5]) (n := 7) (Nat.le_of_ble_eq_true rfl)
  rw [lg_entry_eq]
  generalize (lg_sl ([.ref (ad 0 k0), .int x1, .int x2, .int x3, .int x4, .int x5]) ++ List.replicate (7 - (lg_sl ([.ref (ad 0 k0), .int x1, .int x2, .int x3, .int x4, .int x5])).length) Slot.unset).toArray = ls at hl ⊢
  have hl : lv_has ls 7 [(0, .ref (ad 0 k0)), (1, .int x1), (2, .int x2), (3, .int x3), (4, .int x4), (5, .int x5)] := hl
  unfold F_X10_kind at hF
  have j60 : ∀ (τ : tw_T) (p0 : Nat) (hp0 : p0 < gN τ0 0) (u1 : Int32) (u2 : Int32) (u3 : Int32) (u4 : Int32) (u5 : Int32) (y0 : Int32) (H : Heap) (locs : List Loc) (ls : Array Slot), J_X10_kind_60 τ p0 u1 u2 u3 u4 u5 y0 Q → PM dC dI ac A ad τ H → gN τ = gN τ0 → va_S A s.heap H locs → lv_has ls 7 [(0, .ref (ad 0 p0)), (1, .int u1), (2, .int u2), (3, .int u3), (4, .int u4), (5, .int u5)] → W p l e rmX10_kind s m ([.ref (ad 0 k0), .int x1, .int x2, .int x3, .int x4, .int x5] : List Value).toArray below meth c H locs 0 0 (MQ below (va_Qi (fun r (u : tw_T) => Q r u ∧ gN u = gN τ0) (fun u t => PM dC dI ac A ad u t.heap) A) ([.ref (ad 0 k0), .int x1, .int x2, .int x3, .int x4, .int x5] : List Value).toArray s 0 0 A) (F0 m 60 ls [.int y0]) := by
    intro τ p0 hp0 u1 u2 u3 u4 u5 y0 H locs ls hF hP hN hS hl
    unfold J_X10_kind_60 at hF
    refine lv_istore (lv' := [(6, .int y0), (0, .ref (ad 0 p0)), (1, .int u1), (2, .int u2), (3, .int u3), (4, .int u4), (5, .int u5)]) hx hb dX10_kind_60 hl (by decide) rfl (fun ls hl => ?_)
    refine lv_aload_n hx hb dX10_kind_62 rfl (lv_at hl 1 rfl) ?_
    refine lv_iload hx hb dX10_kind_63 (lv_at hl 0 rfl) ?_
    refine lv_iconst (v := 1) hx hb dX10_kind_65 (by decide) ?_
    refine va_calli (va_runV (As := [.int y0, .int ((1 : Int32))]) (rest := []) ⟨hx, hb, hml, hown, hts⟩ (mX10_may l dC dI ac sa A ad τ p0 y0 ((1 : Int32)) _ hF (tw_lt hp0 (congrFun hN 0))) (cwV 2 hts gX10_kind_X10_may rfl rfl rfl (by decide +kernel) ⟨Nat.le_of_ble_eq_true rfl, Nat.le_of_ble_eq_true rfl⟩) ⟨BM.blind, tw_recv hK hP (by decide) (tw_lt hp0 (congrFun hN 0)) rfl rfl, fun U hU hW => ⟨rfl, BM.of hP hK hS hA hZ hU hW⟩⟩ rfl rfl hl.1 rfl (lv_room (Nat.le_of_ble_eq_true rfl)) dX10_kind_66 ⟨Nat.le_of_ble_eq_true rfl, Nat.le_of_ble_eq_true rfl⟩) hS (fun q _ h => h) (fun q h => h) (fun r2 τ1 t H locs ht hvm hw hB hz hk hS => ?_)
    obtain ⟨hF, hN9⟩ := hw
    have hP : PM dC dI ac A ad τ1 H := tw_back hB ht
    have hN : gN τ1 = gN τ0 := hN9.trans hN
    refine lv_if_ne (tgt := 74) hx hb dX10_kind_69 (by decide) (fun c3 => ?_) (fun c3 => ?_)
    · have hF := hF.1 c3
      refine lv_aload_n hx hb dX10_kind_74 rfl (lv_at hl 1 rfl) ?_
      refine tw_get (v := .int (gI τ1 0 p0 1)) hx hb hts (by decide +kernel) hown hK hP (by decide) (tw_lt hp0 (congrFun hN 0)) rfl rfl 1 (by decide) (hts (.fieldLink RX10 116 "WineCellarModel" "kinds" "I") (by decide +kernel)) (fun _ h9 => h9) rfl dX10_kind_75 ?_
      refine lv_bipush (v := 20) hx hb dX10_kind_78 (by decide) ?_
      refine lv_icmp_ne (tgt := 85) hx hb dX10_kind_80 (by decide) (fun c4 => ?_) (fun c4 => ?_)
      · have hF := hF.1 c4
        refine lv_aload_n hx hb dX10_kind_85 rfl (lv_at hl 1 rfl) ?_
        obtain ⟨o5, eo5, hF⟩ := hF
        have ho5 : o5 < gN τ0 105 := tw_lt (hP.2.2.2 0 p0 5 o5 (by decide) (tw_lt hp0 (congrFun hN 0)) eo5) (congrFun hN 105).symm
        refine tw_get (v := .ref (ad 105 o5)) hx hb hts (by decide +kernel) hown hK hP (by decide) (tw_lt hp0 (congrFun hN 0)) rfl rfl 5 (by decide) (hts (.fieldLink RX10 13 "WineCellarModel" "sort" "[I") (by decide +kernel)) (fun _ h9 => h9) (show some (va_rf ((gR τ1 0 p0 5).map (ad 105))) = some (.ref (ad 105 o5)) by rw [eo5]; rfl) dX10_kind_86 ?_
        refine lv_aload_n hx hb dX10_kind_89 rfl (lv_at hl 1 rfl) ?_
        refine tw_get (v := .int (gI τ1 0 p0 1)) hx hb hts (by decide +kernel) hown hK hP (by decide) (tw_lt hp0 (congrFun hN 0)) rfl rfl 1 (by decide) (hts (.fieldLink RX10 116 "WineCellarModel" "kinds" "I") (by decide +kernel)) (fun _ h9 => h9) rfl dX10_kind_90 ?_
        refine lv_iload_n hx hb dX10_kind_93 rfl (lv_at hl 2 rfl) ?_
        obtain ⟨hi6, hF⟩ := hF
        refine tw_iast hx hb hK hP hS (by decide) (tw_lt ho5 (congrFun hN 105)) rfl 0 rfl hi6 dX10_kind_94 (fun H locs hP hS => ?_)
        obtain ⟨τ7, eτ7⟩ : ∃ y : tw_T, y = sI τ1 105 o5 (gI τ1 0 p0 1).toNatClampNeg u1 := ⟨_, rfl⟩
        have hF := hF τ7 eτ7
        rw [← eτ7] at hP
        have hN : gN τ7 = gN τ0 := by rw [eτ7]; exact hN
        refine lv_aload_n hx hb dX10_kind_95 rfl (lv_at hl 1 rfl) ?_
        obtain ⟨o8, eo8, hF⟩ := hF
        have ho8 : o8 < gN τ0 106 := tw_lt (hP.2.2.2 0 p0 6 o8 (by decide) (tw_lt hp0 (congrFun hN 0)) eo8) (congrFun hN 106).symm
        refine tw_get (v := .ref (ad 106 o8)) hx hb hts (by decide +kernel) hown hK hP (by decide) (tw_lt hp0 (congrFun hN 0)) rfl rfl 6 (by decide) (hts (.fieldLink RX10 17 "WineCellarModel" "body" "[I") (by decide +kernel)) (fun _ h9 => h9) (show some (va_rf ((gR τ7 0 p0 6).map (ad 106))) = some (.ref (ad 106 o8)) by rw [eo8]; rfl) dX10_kind_96 ?_
        refine lv_aload_n hx hb dX10_kind_99 rfl (lv_at hl 1 rfl) ?_
        refine tw_get (v := .int (gI τ7 0 p0 1)) hx hb hts (by decide +kernel) hown hK hP (by decide) (tw_lt hp0 (congrFun hN 0)) rfl rfl 1 (by decide) (hts (.fieldLink RX10 116 "WineCellarModel" "kinds" "I") (by decide +kernel)) (fun _ h9 => h9) rfl dX10_kind_100 ?_
        refine lv_iload_n hx hb dX10_kind_103 rfl (lv_at hl 3 rfl) ?_
        obtain ⟨hi9, hF⟩ := hF
        refine tw_iast hx hb hK hP hS (by decide) (tw_lt ho8 (congrFun hN 106)) rfl 0 rfl hi9 dX10_kind_104 (fun H locs hP hS => ?_)
        obtain ⟨τ10, eτ10⟩ : ∃ y : tw_T, y = sI τ7 106 o8 (gI τ7 0 p0 1).toNatClampNeg u2 := ⟨_, rfl⟩
        have hF := hF τ10 eτ10
        rw [← eτ10] at hP
        have hN : gN τ10 = gN τ0 := by rw [eτ10]; exact hN
        refine lv_aload_n hx hb dX10_kind_105 rfl (lv_at hl 1 rfl) ?_
        obtain ⟨o11, eo11, hF⟩ := hF
        have ho11 : o11 < gN τ0 107 := tw_lt (hP.2.2.2 0 p0 7 o11 (by decide) (tw_lt hp0 (congrFun hN 0)) eo11) (congrFun hN 107).symm
        refine tw_get (v := .ref (ad 107 o11)) hx hb hts (by decide +kernel) hown hK hP (by decide) (tw_lt hp0 (congrFun hN 0)) rfl rfl 7 (by decide) (hts (.fieldLink RX10 20 "WineCellarModel" "red" "[I") (by decide +kernel)) (fun _ h9 => h9) (show some (va_rf ((gR τ10 0 p0 7).map (ad 107))) = some (.ref (ad 107 o11)) by rw [eo11]; rfl) dX10_kind_106 ?_
        refine lv_aload_n hx hb dX10_kind_109 rfl (lv_at hl 1 rfl) ?_
        refine tw_get (v := .int (gI τ10 0 p0 1)) hx hb hts (by decide +kernel) hown hK hP (by decide) (tw_lt hp0 (congrFun hN 0)) rfl rfl 1 (by decide) (hts (.fieldLink RX10 116 "WineCellarModel" "kinds" "I") (by decide +kernel)) (fun _ h9 => h9) rfl dX10_kind_110 ?_
        refine lv_iload_n hx hb dX10_kind_113 rfl (lv_at hl 4 rfl) ?_
        obtain ⟨hi12, hF⟩ := hF
        refine tw_iast hx hb hK hP hS (by decide) (tw_lt ho11 (congrFun hN 107)) rfl 0 rfl hi12 dX10_kind_114 (fun H locs hP hS => ?_)
        obtain ⟨τ13, eτ13⟩ : ∃ y : tw_T, y = sI τ10 107 o11 (gI τ10 0 p0 1).toNatClampNeg u3 := ⟨_, rfl⟩
        have hF := hF τ13 eτ13
        rw [← eτ13] at hP
        have hN : gN τ13 = gN τ0 := by rw [eτ13]; exact hN
        refine lv_aload_n hx hb dX10_kind_115 rfl (lv_at hl 1 rfl) ?_
        obtain ⟨o14, eo14, hF⟩ := hF
        have ho14 : o14 < gN τ0 108 := tw_lt (hP.2.2.2 0 p0 8 o14 (by decide) (tw_lt hp0 (congrFun hN 0)) eo14) (congrFun hN 108).symm
        refine tw_get (v := .ref (ad 108 o14)) hx hb hts (by decide +kernel) hown hK hP (by decide) (tw_lt hp0 (congrFun hN 0)) rfl rfl 8 (by decide) (hts (.fieldLink RX10 23 "WineCellarModel" "young" "[I") (by decide +kernel)) (fun _ h9 => h9) (show some (va_rf ((gR τ13 0 p0 8).map (ad 108))) = some (.ref (ad 108 o14)) by rw [eo14]; rfl) dX10_kind_116 ?_
        refine lv_aload_n hx hb dX10_kind_119 rfl (lv_at hl 1 rfl) ?_
        refine tw_get (v := .int (gI τ13 0 p0 1)) hx hb hts (by decide +kernel) hown hK hP (by decide) (tw_lt hp0 (congrFun hN 0)) rfl rfl 1 (by decide) (hts (.fieldLink RX10 116 "WineCellarModel" "kinds" "I") (by decide +kernel)) (fun _ h9 => h9) rfl dX10_kind_120 ?_
        refine lv_iload hx hb dX10_kind_123 (lv_at hl 5 rfl) ?_
        obtain ⟨hi15, hF⟩ := hF
        refine tw_iast hx hb hK hP hS (by decide) (tw_lt ho14 (congrFun hN 108)) rfl 0 rfl hi15 dX10_kind_125 (fun H locs hP hS => ?_)
        obtain ⟨τ16, eτ16⟩ : ∃ y : tw_T, y = sI τ13 108 o14 (gI τ13 0 p0 1).toNatClampNeg u4 := ⟨_, rfl⟩
        have hF := hF τ16 eτ16
        rw [← eτ16] at hP
        have hN : gN τ16 = gN τ0 := by rw [eτ16]; exact hN
        refine lv_aload_n hx hb dX10_kind_126 rfl (lv_at hl 1 rfl) ?_
        obtain ⟨o17, eo17, hF⟩ := hF
        have ho17 : o17 < gN τ0 109 := tw_lt (hP.2.2.2 0 p0 9 o17 (by decide) (tw_lt hp0 (congrFun hN 0)) eo17) (congrFun hN 109).symm
        refine tw_get (v := .ref (ad 109 o17)) hx hb hts (by decide +kernel) hown hK hP (by decide) (tw_lt hp0 (congrFun hN 0)) rfl rfl 9 (by decide) (hts (.fieldLink RX10 26 "WineCellarModel" "old" "[I") (by decide +kernel)) (fun _ h9 => h9) (show some (va_rf ((gR τ16 0 p0 9).map (ad 109))) = some (.ref (ad 109 o17)) by rw [eo17]; rfl) dX10_kind_127 ?_
        refine lv_aload_n hx hb dX10_kind_130 rfl (lv_at hl 1 rfl) ?_
        refine tw_get (v := .int (gI τ16 0 p0 1)) hx hb hts (by decide +kernel) hown hK hP (by decide) (tw_lt hp0 (congrFun hN 0)) rfl rfl 1 (by decide) (hts (.fieldLink RX10 116 "WineCellarModel" "kinds" "I") (by decide +kernel)) (fun _ h9 => h9) rfl dX10_kind_131 ?_
        refine lv_iload hx hb dX10_kind_134 (lv_at hl 6 rfl) ?_
        obtain ⟨hi18, hF⟩ := hF
        refine tw_iast hx hb hK hP hS (by decide) (tw_lt ho17 (congrFun hN 109)) rfl 0 rfl hi18 dX10_kind_136 (fun H locs hP hS => ?_)
        obtain ⟨τ19, eτ19⟩ : ∃ y : tw_T, y = sI τ16 109 o17 (gI τ16 0 p0 1).toNatClampNeg u5 := ⟨_, rfl⟩
        have hF := hF τ19 eτ19
        rw [← eτ19] at hP
        have hN : gN τ19 = gN τ0 := by rw [eτ19]; exact hN
        refine lv_aload_n hx hb dX10_kind_137 rfl (lv_at hl 1 rfl) ?_
        refine lv_dup hx hb dX10_kind_138 rfl ?_
        refine tw_get (v := .int (gI τ19 0 p0 1)) hx hb hts (by decide +kernel) hown hK hP (by decide) (tw_lt hp0 (congrFun hN 0)) rfl rfl 1 (by decide) (hts (.fieldLink RX10 116 "WineCellarModel" "kinds" "I") (by decide +kernel)) (fun _ h9 => h9) rfl dX10_kind_139 ?_
        refine lv_iconst (v := 1) hx hb dX10_kind_142 (by decide) ?_
        refine lv_iadd hx hb dX10_kind_143 ?_
        refine tw_put (τ' := sI τ19 0 p0 1 ((gI τ19 0 p0 1) + ((1 : Int32)))) (ty := .int) hx hb hts (by decide +kernel) tyX10 tyX10_ok nmX10 hown hK hP hS (by decide) (tw_lt hp0 (congrFun hN 0)) rfl rfl 1 (by decide) (hts (.fieldLink RX10 116 "WineCellarModel" "kinds" "I") (by decide +kernel)) (fun _ h9 => h9) rfl (by decide +kernel) rfl rfl (Nat.le_of_ble_eq_true rfl) dX10_kind_144 (fun H1 ha ho => tw_updI hP (by decide) (tw_lt hp0 (congrFun hN 0)) ha ho) (fun H locs hP hS => ?_)
        obtain ⟨τ20, eτ20⟩ : ∃ y : tw_T, y = sI τ19 0 p0 1 ((gI τ19 0 p0 1) + ((1 : Int32))) := ⟨_, rfl⟩
        have hF := hF τ20 eτ20
        rw [← eτ20] at hP
        have hN : gN τ20 = gN τ0 := by rw [eτ20]; exact hN
        refine lv_aload_n hx hb dX10_kind_147 rfl (lv_at hl 1 rfl) ?_
        refine tw_get (v := .int (gI τ20 0 p0 1)) hx hb hts (by decide +kernel) hown hK hP (by decide) (tw_lt hp0 (congrFun hN 0)) rfl rfl 1 (by decide) (hts (.fieldLink RX10 116 "WineCellarModel" "kinds" "I") (by decide +kernel)) (fun _ h9 => h9) rfl dX10_kind_148 ?_
        refine lv_iconst (v := 1) hx hb dX10_kind_151 (by decide) ?_
        refine lv_isub hx hb dX10_kind_152 ?_
        exact W.iret (v := (gI τ20 0 p0 1) - ((1 : Int32))) hx hb hr (fun t ht hW => ⟨⟨((gI τ20 0 p0 1) - ((1 : Int32))), τ20, rfl, ⟨hF, hN⟩, tw_at hP ht⟩, hS.F ht⟩) hS.2.2 dX10_kind_153
      · have hF := hF.2 c4
        refine lv_iconst (v := (-1)) hx hb dX10_kind_83 (by decide) ?_
        exact W.iret (v := (-1 : Int32)) hx hb hr (fun t ht hW => ⟨⟨((-1 : Int32)), τ1, rfl, ⟨hF, hN⟩, tw_at hP ht⟩, hS.F ht⟩) hS.2.2 dX10_kind_84
    · have hF := hF.2 c3
      refine lv_iconst (v := 0) hx hb dX10_kind_72 (by decide) ?_
      exact W.iret (v := (0 : Int32)) hx hb hr (fun t ht hW => ⟨⟨((0 : Int32)), τ1, rfl, ⟨hF, hN⟩, tw_at hP ht⟩, hS.F ht⟩) hS.2.2 dX10_kind_73
  have j59 : ∀ (τ : tw_T) (p0 : Nat) (hp0 : p0 < gN τ0 0) (u1 : Int32) (u2 : Int32) (u3 : Int32) (u4 : Int32) (u5 : Int32) (H : Heap) (locs : List Loc) (ls : Array Slot), J_X10_kind_59 τ p0 u1 u2 u3 u4 u5 Q → PM dC dI ac A ad τ H → gN τ = gN τ0 → va_S A s.heap H locs → lv_has ls 7 [(0, .ref (ad 0 p0)), (1, .int u1), (2, .int u2), (3, .int u3), (4, .int u4), (5, .int u5)] → W p l e rmX10_kind s m ([.ref (ad 0 k0), .int x1, .int x2, .int x3, .int x4, .int x5] : List Value).toArray below meth c H locs 0 0 (MQ below (va_Qi (fun r (u : tw_T) => Q r u ∧ gN u = gN τ0) (fun u t => PM dC dI ac A ad u t.heap) A) ([.ref (ad 0 k0), .int x1, .int x2, .int x3, .int x4, .int x5] : List Value).toArray s 0 0 A) (F0 m 59 ls []) := by
    intro τ p0 hp0 u1 u2 u3 u4 u5 H locs ls hF hP hN hS hl
    unfold J_X10_kind_59 at hF
    refine lv_iconst (v := 0) hx hb dX10_kind_59 (by decide) ?_
    exact j60 τ p0 hp0 u1 u2 u3 u4 u5 ((0 : Int32)) _ _ _ hF hP hN hS (lv_sub hl [0, 1, 2, 3, 4, 5] rfl)
  refine lv_aload_n hx hb dX10_kind_0 rfl (lv_at hl 0 rfl) ?_
  refine lv_iconst (v := 0) hx hb dX10_kind_1 (by decide) ?_
  refine tw_put (τ' := sI τ0 0 k0 0 ((0 : Int32))) (ty := .int) hx hb hts (by decide +kernel) tyX10 tyX10_ok nmX10 hown hK hP hS (by decide) hk0 rfl rfl 0 (by decide) (hts (.fieldLink RX10 1 "WineCellarModel" "thrown" "I") (by decide +kernel)) (fun _ h9 => h9) rfl (by decide +kernel) rfl rfl (Nat.le_of_ble_eq_true rfl) dX10_kind_2 (fun H1 ha ho => tw_updI hP (by decide) hk0 ha ho) (fun H locs hP hS => ?_)
  obtain ⟨τ21, eτ21⟩ : ∃ y : tw_T, y = sI τ0 0 k0 0 ((0 : Int32)) := ⟨_, rfl⟩
  have hF := hF τ21 eτ21
  rw [← eτ21] at hP
  have hN : gN τ21 = gN τ0 := by rw [eτ21]; exact hN
  refine lv_iload_n hx hb dX10_kind_5 rfl (lv_at hl 1 rfl) ?_
  refine lv_iconst (v := 0) hx hb dX10_kind_6 (by decide) ?_
  refine lv_iconst (v := 2) hx hb dX10_kind_7 (by decide) ?_
  refine va_calli (va_runS (As := [.int x1, .int ((0 : Int32)), .int ((2 : Int32))]) (rest := []) ⟨hx, hb, hml, hown, hts⟩ (mX10_within l dC dI ac sa A ad τ21 x1 ((0 : Int32)) ((2 : Int32)) _ hF ) (va_cwS 3 hts gX10_kind_X10_within rfl rfl rfl (by decide +kernel) ⟨Nat.le_of_ble_eq_true rfl, Nat.le_of_ble_eq_true rfl⟩) ⟨BM.blind, fun U hU hW => ⟨rfl, BM.of hP hK hS hA hZ hU hW⟩⟩ rfl rfl hl.1 rfl (lv_room (Nat.le_of_ble_eq_true rfl)) dX10_kind_8 ⟨Nat.le_of_ble_eq_true rfl, Nat.le_of_ble_eq_true rfl⟩) hS (fun q _ h => h) (fun q h => h) (fun r23 τ22 t H locs ht hvm hw hB hz hk hS => ?_)
  obtain ⟨hF, hN9⟩ := hw
  have hP : PM dC dI ac A ad τ22 H := tw_back hB ht
  have hN : gN τ22 = gN τ0 := hN9.trans hN
  refine lv_if_eq (tgt := 59) hx hb dX10_kind_11 (by decide) (fun c24 => ?_) (fun c24 => ?_)
  · have hF := hF.1 c24
    exact j59 τ22 k0 hk0 x1 x2 x3 x4 x5 _ _ _ hF hP hN hS (lv_sub hl [0, 1, 2, 3, 4, 5] rfl)
  · have hF := hF.2 c24
    refine lv_iload_n hx hb dX10_kind_14 rfl (lv_at hl 2 rfl) ?_
    refine lv_iconst (v := 1) hx hb dX10_kind_15 (by decide) ?_
    refine lv_iconst (v := 5) hx hb dX10_kind_16 (by decide) ?_
    refine va_calli (va_runS (As := [.int x2, .int ((1 : Int32)), .int ((5 : Int32))]) (rest := []) ⟨hx, hb, hml, hown, hts⟩ (mX10_within l dC dI ac sa A ad τ22 x2 ((1 : Int32)) ((5 : Int32)) _ hF ) (va_cwS 3 hts gX10_kind_X10_within rfl rfl rfl (by decide +kernel) ⟨Nat.le_of_ble_eq_true rfl, Nat.le_of_ble_eq_true rfl⟩) ⟨BM.blind, fun U hU hW => ⟨rfl, BM.of hP hK hS hA hZ hU hW⟩⟩ rfl rfl hl.1 rfl (lv_room (Nat.le_of_ble_eq_true rfl)) dX10_kind_17 ⟨Nat.le_of_ble_eq_true rfl, Nat.le_of_ble_eq_true rfl⟩) hS (fun q _ h => h) (fun q h => h) (fun r26 τ25 t H locs ht hvm hw hB hz hk hS => ?_)
    obtain ⟨hF, hN9⟩ := hw
    have hP : PM dC dI ac A ad τ25 H := tw_back hB ht
    have hN : gN τ25 = gN τ0 := hN9.trans hN
    refine lv_if_eq (tgt := 59) hx hb dX10_kind_20 (by decide) (fun c27 => ?_) (fun c27 => ?_)
    · have hF := hF.1 c27
      exact j59 τ25 k0 hk0 x1 x2 x3 x4 x5 _ _ _ hF hP hN hS (lv_sub hl [0, 1, 2, 3, 4, 5] rfl)
    · have hF := hF.2 c27
      refine lv_iload_n hx hb dX10_kind_23 rfl (lv_at hl 3 rfl) ?_
      refine lv_iconst (v := 0) hx hb dX10_kind_24 (by decide) ?_
      refine lv_iconst (v := 1) hx hb dX10_kind_25 (by decide) ?_
      refine va_calli (va_runS (As := [.int x3, .int ((0 : Int32)), .int ((1 : Int32))]) (rest := []) ⟨hx, hb, hml, hown, hts⟩ (mX10_within l dC dI ac sa A ad τ25 x3 ((0 : Int32)) ((1 : Int32)) _ hF ) (va_cwS 3 hts gX10_kind_X10_within rfl rfl rfl (by decide +kernel) ⟨Nat.le_of_ble_eq_true rfl, Nat.le_of_ble_eq_true rfl⟩) ⟨BM.blind, fun U hU hW => ⟨rfl, BM.of hP hK hS hA hZ hU hW⟩⟩ rfl rfl hl.1 rfl (lv_room (Nat.le_of_ble_eq_true rfl)) dX10_kind_26 ⟨Nat.le_of_ble_eq_true rfl, Nat.le_of_ble_eq_true rfl⟩) hS (fun q _ h => h) (fun q h => h) (fun r29 τ28 t H locs ht hvm hw hB hz hk hS => ?_)
      obtain ⟨hF, hN9⟩ := hw
      have hP : PM dC dI ac A ad τ28 H := tw_back hB ht
      have hN : gN τ28 = gN τ0 := hN9.trans hN
      refine lv_if_eq (tgt := 59) hx hb dX10_kind_29 (by decide) (fun c30 => ?_) (fun c30 => ?_)
      · have hF := hF.1 c30
        exact j59 τ28 k0 hk0 x1 x2 x3 x4 x5 _ _ _ hF hP hN hS (lv_sub hl [0, 1, 2, 3, 4, 5] rfl)
      · have hF := hF.2 c30
        refine lv_iload hx hb dX10_kind_32 (lv_at hl 4 rfl) ?_
        refine lv_iconst (v := 0) hx hb dX10_kind_34 (by decide) ?_
        refine lv_bipush (v := 60) hx hb dX10_kind_35 (by decide) ?_
        refine va_calli (va_runS (As := [.int x4, .int ((0 : Int32)), .int ((60 : Int32))]) (rest := []) ⟨hx, hb, hml, hown, hts⟩ (mX10_within l dC dI ac sa A ad τ28 x4 ((0 : Int32)) ((60 : Int32)) _ hF ) (va_cwS 3 hts gX10_kind_X10_within rfl rfl rfl (by decide +kernel) ⟨Nat.le_of_ble_eq_true rfl, Nat.le_of_ble_eq_true rfl⟩) ⟨BM.blind, fun U hU hW => ⟨rfl, BM.of hP hK hS hA hZ hU hW⟩⟩ rfl rfl hl.1 rfl (lv_room (Nat.le_of_ble_eq_true rfl)) dX10_kind_37 ⟨Nat.le_of_ble_eq_true rfl, Nat.le_of_ble_eq_true rfl⟩) hS (fun q _ h => h) (fun q h => h) (fun r32 τ31 t H locs ht hvm hw hB hz hk hS => ?_)
        obtain ⟨hF, hN9⟩ := hw
        have hP : PM dC dI ac A ad τ31 H := tw_back hB ht
        have hN : gN τ31 = gN τ0 := hN9.trans hN
        refine lv_if_eq (tgt := 59) hx hb dX10_kind_40 (by decide) (fun c33 => ?_) (fun c33 => ?_)
        · have hF := hF.1 c33
          exact j59 τ31 k0 hk0 x1 x2 x3 x4 x5 _ _ _ hF hP hN hS (lv_sub hl [0, 1, 2, 3, 4, 5] rfl)
        · have hF := hF.2 c33
          refine lv_iload hx hb dX10_kind_43 (lv_at hl 5 rfl) ?_
          refine lv_iload hx hb dX10_kind_45 (lv_at hl 4 rfl) ?_
          refine lv_bipush (v := 60) hx hb dX10_kind_47 (by decide) ?_
          refine va_calli (va_runS (As := [.int x5, .int x4, .int ((60 : Int32))]) (rest := []) ⟨hx, hb, hml, hown, hts⟩ (mX10_within l dC dI ac sa A ad τ31 x5 x4 ((60 : Int32)) _ hF ) (va_cwS 3 hts gX10_kind_X10_within rfl rfl rfl (by decide +kernel) ⟨Nat.le_of_ble_eq_true rfl, Nat.le_of_ble_eq_true rfl⟩) ⟨BM.blind, fun U hU hW => ⟨rfl, BM.of hP hK hS hA hZ hU hW⟩⟩ rfl rfl hl.1 rfl (lv_room (Nat.le_of_ble_eq_true rfl)) dX10_kind_49 ⟨Nat.le_of_ble_eq_true rfl, Nat.le_of_ble_eq_true rfl⟩) hS (fun q _ h => h) (fun q h => h) (fun r35 τ34 t H locs ht hvm hw hB hz hk hS => ?_)
          obtain ⟨hF, hN9⟩ := hw
          have hP : PM dC dI ac A ad τ34 H := tw_back hB ht
          have hN : gN τ34 = gN τ0 := hN9.trans hN
          refine lv_if_eq (tgt := 59) hx hb dX10_kind_52 (by decide) (fun c36 => ?_) (fun c36 => ?_)
          · have hF := hF.1 c36
            exact j59 τ34 k0 hk0 x1 x2 x3 x4 x5 _ _ _ hF hP hN hS (lv_sub hl [0, 1, 2, 3, 4, 5] rfl)
          · have hF := hF.2 c36
            refine lv_iconst (v := 1) hx hb dX10_kind_55 (by decide) ?_
            refine lv_goto (tgt := 60) hx hb dX10_kind_56 (by decide) ?_
            exact j60 τ34 k0 hk0 x1 x2 x3 x4 x5 ((1 : Int32)) _ _ _ hF hP hN hS (lv_sub hl [0, 1, 2, 3, 4, 5] rfl)
def J_X10_lot_54 (τ : tw_T) (p0 : Nat) (u1 : Int32) (u2 : Int32) (u3 : Int32) (y0 : Int32) (q1 : Nat) (Q : Int32 → tw_T → Prop) : Prop := F_X10_may τ q1 y0 ((2 : Int32)) (fun (r2 : Int32) (τ1 : tw_T) => (((¬ r2 = 0 → (((¬ (gI τ1 0 p0 2) = ((60 : Int32)) → (F_X10_newLot τ1 p0 u1 u2 u3 (fun (r6 : Int32) (τ5 : tw_T) => (Q r6 τ5)))) ∧ ((gI τ1 0 p0 2) = ((60 : Int32)) → (Q ((-1 : Int32)) τ1))))) ∧ (r2 = 0 → (Q ((0 : Int32)) τ1)))))
def J_X10_lot_53 (τ : tw_T) (p0 : Nat) (u1 : Int32) (u2 : Int32) (u3 : Int32) (q0 : Nat) (Q : Int32 → tw_T → Prop) : Prop := J_X10_lot_54 τ p0 u1 u2 u3 ((0 : Int32)) q0 Q
def F_X10_lot (τ0 : tw_T) (k0 : Nat) (x1 : Int32) (x2 : Int32) (x3 : Int32) (Q : Int32 → tw_T → Prop) : Prop := ∀ τ7 : tw_T, τ7 = sI τ0 0 k0 0 ((0 : Int32)) → (F_X10_within τ7 x1 ((0 : Int32)) ((gI τ7 0 k0 1) - ((1 : Int32))) (fun (r9 : Int32) (τ8 : tw_T) => (F_X10_may τ8 k0 r9 ((1 : Int32)) (fun (r11 : Int32) (τ10 : tw_T) => (((r11 = 0 → (Q ((0 : Int32)) τ10)) ∧ (¬ r11 = 0 → (F_X10_within τ10 x2 ((1900 : Int32)) ((2100 : Int32)) (fun (r14 : Int32) (τ13 : tw_T) => (((r14 = 0 → (J_X10_lot_53 τ13 k0 x1 x2 x3 k0 Q)) ∧ (¬ r14 = 0 → (F_X10_within τ13 x3 ((1 : Int32)) ((10000 : Int32)) (fun (r17 : Int32) (τ16 : tw_T) => (((r17 = 0 → (J_X10_lot_53 τ16 k0 x1 x2 x3 k0 Q)) ∧ (¬ r17 = 0 → (J_X10_lot_54 τ16 k0 x1 x2 x3 ((1 : Int32)) k0 Q))))))))))))))))))
def rmX10_lot : Room := { frames := 1, cells := 0, slots := 0, locals := 23 }
set_option maxHeartbeats 4000000 in
set_option maxRecDepth 100000 in
theorem mX10_lot (l : Launch) (dC : Nat → ClassId) (dI : Nat → Nat → Nat) (ac : Nat → ClassId) (sa : Nat → Nat) (A : Nat → Prop) (ad : Nat → Nat → Nat) (τ0 : tw_T) (k0 : Nat) (x1 : Int32) (x2 : Int32) (x3 : Int32) (Q : Int32 → tw_T → Prop) (hF : F_X10_lot τ0 k0 x1 x2 x3 Q) (hk0 : k0 < gN τ0 0) : Met l yX10_lot wsX10_lot rmX10_lot (va_Pc [.ref (ad 0 k0), .int x1, .int x2, .int x3] (BM dC dI ac sa A ad τ0)) (va_Qi (fun r (u : tw_T) => Q r u ∧ gN u = gN τ0) (fun u t => PM dC dI ac A ad u t.heap) A) 0 0 A := by
  refine Met.ofW (cc := cX10_lot) (maxL := 4) (ret := (some .int)) (by decide) rfl ?_
  intro p e s m args below meth c s₁ B hml hv
  obtain ⟨rfl, hP, hK, hA, hZ⟩ := hv
  have hx := B.exec
  have hb := B.bytes
  have hr := B.returns
  have hts := atoms_spec (ws := wsX10_lot) B.pre
  have hown : s.vm.findClass RX10 = some m.cls := findClass_of_methodNamed B.named
  have hlocks := B.notSynchronized
  have hS : va_S A s.heap s.heap [] := va_S.rf
  have hN : gN τ0 = gN τ0 := rfl
  have hl := lv_entry ([.ref (ad 0 k0), .int x1, .int x2, .int x3]) (n := 4) (Nat.le_of_ble_eq_true rfl)
  rw [lg_entry_eq]
  generalize (lg_sl ([.ref (ad 0 k0), .int x1, .int x2, .int x3]) ++ List.replicate (4 - (lg_sl ([.ref (ad 0 k0), .int x1, .int x2, .int x3])).length) Slot.unset).toArray = ls at hl ⊢
  have hl : lv_has ls 4 [(0, .ref (ad 0 k0)), (1, .int x1), (2, .int x2), (3, .int x3)] := hl
  unfold F_X10_lot at hF
  have j54 : ∀ (τ : tw_T) (p0 : Nat) (hp0 : p0 < gN τ0 0) (u1 : Int32) (u2 : Int32) (u3 : Int32) (y0 : Int32) (q1 : Nat) (hq1 : q1 < gN τ0 0) (H : Heap) (locs : List Loc) (ls : Array Slot), J_X10_lot_54 τ p0 u1 u2 u3 y0 q1 Q → PM dC dI ac A ad τ H → gN τ = gN τ0 → va_S A s.heap H locs → lv_has ls 4 [(0, .ref (ad 0 p0)), (1, .int u1), (2, .int u2), (3, .int u3)] → W p l e rmX10_lot s m ([.ref (ad 0 k0), .int x1, .int x2, .int x3] : List Value).toArray below meth c H locs 0 0 (MQ below (va_Qi (fun r (u : tw_T) => Q r u ∧ gN u = gN τ0) (fun u t => PM dC dI ac A ad u t.heap) A) ([.ref (ad 0 k0), .int x1, .int x2, .int x3] : List Value).toArray s 0 0 A) (F0 m 54 ls [.int y0, .ref (ad 0 q1)]) := by
    intro τ p0 hp0 u1 u2 u3 y0 q1 hq1 H locs ls hF hP hN hS hl
    unfold J_X10_lot_54 at hF
    refine lv_iconst (v := 2) hx hb dX10_lot_54 (by decide) ?_
    refine va_calli (va_runV (As := [.int y0, .int ((2 : Int32))]) (rest := []) ⟨hx, hb, hml, hown, hts⟩ (mX10_may l dC dI ac sa A ad τ q1 y0 ((2 : Int32)) _ hF (tw_lt hq1 (congrFun hN 0))) (cwV 2 hts gX10_lot_X10_may rfl rfl rfl (by decide +kernel) ⟨Nat.le_of_ble_eq_true rfl, Nat.le_of_ble_eq_true rfl⟩) ⟨BM.blind, tw_recv hK hP (by decide) (tw_lt hq1 (congrFun hN 0)) rfl rfl, fun U hU hW => ⟨rfl, BM.of hP hK hS hA hZ hU hW⟩⟩ rfl rfl hl.1 rfl (lv_room (Nat.le_of_ble_eq_true rfl)) dX10_lot_55 ⟨Nat.le_of_ble_eq_true rfl, Nat.le_of_ble_eq_true rfl⟩) hS (fun q _ h => h) (fun q h => h) (fun r2 τ1 t H locs ht hvm hw hB hz hk hS => ?_)
    obtain ⟨hF, hN9⟩ := hw
    have hP : PM dC dI ac A ad τ1 H := tw_back hB ht
    have hN : gN τ1 = gN τ0 := hN9.trans hN
    refine lv_if_ne (tgt := 63) hx hb dX10_lot_58 (by decide) (fun c3 => ?_) (fun c3 => ?_)
    · have hF := hF.1 c3
      refine lv_aload_n hx hb dX10_lot_63 rfl (lv_at hl 0 rfl) ?_
      refine tw_get (v := .int (gI τ1 0 p0 2)) hx hb hts (by decide +kernel) hown hK hP (by decide) (tw_lt hp0 (congrFun hN 0)) rfl rfl 2 (by decide) (hts (.fieldLink RX10 119 "WineCellarModel" "lots" "I") (by decide +kernel)) (fun _ h9 => h9) rfl dX10_lot_64 ?_
      refine lv_bipush (v := 60) hx hb dX10_lot_67 (by decide) ?_
      refine lv_icmp_ne (tgt := 76) hx hb dX10_lot_69 (by decide) (fun c4 => ?_) (fun c4 => ?_)
      · have hF := hF.1 c4
        refine lv_aload_n hx hb dX10_lot_76 rfl (lv_at hl 0 rfl) ?_
        refine lv_iload_n hx hb dX10_lot_77 rfl (lv_at hl 1 rfl) ?_
        refine lv_iload_n hx hb dX10_lot_78 rfl (lv_at hl 2 rfl) ?_
        refine lv_iload_n hx hb dX10_lot_79 rfl (lv_at hl 3 rfl) ?_
        refine va_calli (va_runV (As := [.int u1, .int u2, .int u3]) (rest := []) ⟨hx, hb, hml, hown, hts⟩ (mX10_newLot l dC dI ac sa A ad τ1 p0 u1 u2 u3 _ hF (tw_lt hp0 (congrFun hN 0))) (cwV 3 hts gX10_lot_X10_newLot rfl rfl rfl (by decide +kernel) ⟨Nat.le_of_ble_eq_true rfl, Nat.le_of_ble_eq_true rfl⟩) ⟨BM.blind, tw_recv hK hP (by decide) (tw_lt hp0 (congrFun hN 0)) rfl rfl, fun U hU hW => ⟨rfl, BM.of hP hK hS hA hZ hU hW⟩⟩ rfl rfl hl.1 rfl (lv_room (Nat.le_of_ble_eq_true rfl)) dX10_lot_80 ⟨Nat.le_of_ble_eq_true rfl, Nat.le_of_ble_eq_true rfl⟩) hS (fun q _ h => h) (fun q h => h) (fun r6 τ5 t H locs ht hvm hw hB hz hk hS => ?_)
        obtain ⟨hF, hN9⟩ := hw
        have hP : PM dC dI ac A ad τ5 H := tw_back hB ht
        have hN : gN τ5 = gN τ0 := hN9.trans hN
        exact W.iret (v := r6) hx hb hr (fun t ht hW => ⟨⟨r6, τ5, rfl, ⟨hF, hN⟩, tw_at hP ht⟩, hS.F ht⟩) hS.2.2 dX10_lot_83
      · have hF := hF.2 c4
        refine lv_iconst (v := (-1)) hx hb dX10_lot_72 (by decide) ?_
        refine lv_goto (tgt := 83) hx hb dX10_lot_73 (by decide) ?_
        exact W.iret (v := (-1 : Int32)) hx hb hr (fun t ht hW => ⟨⟨((-1 : Int32)), τ1, rfl, ⟨hF, hN⟩, tw_at hP ht⟩, hS.F ht⟩) hS.2.2 dX10_lot_83
    · have hF := hF.2 c3
      refine lv_iconst (v := 0) hx hb dX10_lot_61 (by decide) ?_
      exact W.iret (v := (0 : Int32)) hx hb hr (fun t ht hW => ⟨⟨((0 : Int32)), τ1, rfl, ⟨hF, hN⟩, tw_at hP ht⟩, hS.F ht⟩) hS.2.2 dX10_lot_62
  have j53 : ∀ (τ : tw_T) (p0 : Nat) (hp0 : p0 < gN τ0 0) (u1 : Int32) (u2 : Int32) (u3 : Int32) (q0 : Nat) (hq0 : q0 < gN τ0 0) (H : Heap) (locs : List Loc) (ls : Array Slot), J_X10_lot_53 τ p0 u1 u2 u3 q0 Q → PM dC dI ac A ad τ H → gN τ = gN τ0 → va_S A s.heap H locs → lv_has ls 4 [(0, .ref (ad 0 p0)), (1, .int u1), (2, .int u2), (3, .int u3)] → W p l e rmX10_lot s m ([.ref (ad 0 k0), .int x1, .int x2, .int x3] : List Value).toArray below meth c H locs 0 0 (MQ below (va_Qi (fun r (u : tw_T) => Q r u ∧ gN u = gN τ0) (fun u t => PM dC dI ac A ad u t.heap) A) ([.ref (ad 0 k0), .int x1, .int x2, .int x3] : List Value).toArray s 0 0 A) (F0 m 53 ls [.ref (ad 0 q0)]) := by
    intro τ p0 hp0 u1 u2 u3 q0 hq0 H locs ls hF hP hN hS hl
    unfold J_X10_lot_53 at hF
    refine lv_iconst (v := 0) hx hb dX10_lot_53 (by decide) ?_
    exact j54 τ p0 hp0 u1 u2 u3 ((0 : Int32)) q0 hq0 _ _ _ hF hP hN hS (lv_sub hl [0, 1, 2, 3] rfl)
  refine lv_aload_n hx hb dX10_lot_0 rfl (lv_at hl 0 rfl) ?_
  refine lv_iconst (v := 0) hx hb dX10_lot_1 (by decide) ?_
  refine tw_put (τ' := sI τ0 0 k0 0 ((0 : Int32))) (ty := .int) hx hb hts (by decide +kernel) tyX10 tyX10_ok nmX10 hown hK hP hS (by decide) hk0 rfl rfl 0 (by decide) (hts (.fieldLink RX10 1 "WineCellarModel" "thrown" "I") (by decide +kernel)) (fun _ h9 => h9) rfl (by decide +kernel) rfl rfl (Nat.le_of_ble_eq_true rfl) dX10_lot_2 (fun H1 ha ho => tw_updI hP (by decide) hk0 ha ho) (fun H locs hP hS => ?_)
  obtain ⟨τ7, eτ7⟩ : ∃ y : tw_T, y = sI τ0 0 k0 0 ((0 : Int32)) := ⟨_, rfl⟩
  have hF := hF τ7 eτ7
  rw [← eτ7] at hP
  have hN : gN τ7 = gN τ0 := by rw [eτ7]; exact hN
  refine lv_aload_n hx hb dX10_lot_5 rfl (lv_at hl 0 rfl) ?_
  refine lv_iload_n hx hb dX10_lot_6 rfl (lv_at hl 1 rfl) ?_
  refine lv_iconst (v := 0) hx hb dX10_lot_7 (by decide) ?_
  refine lv_aload_n hx hb dX10_lot_8 rfl (lv_at hl 0 rfl) ?_
  refine tw_get (v := .int (gI τ7 0 k0 1)) hx hb hts (by decide +kernel) hown hK hP (by decide) (tw_lt hk0 (congrFun hN 0)) rfl rfl 1 (by decide) (hts (.fieldLink RX10 116 "WineCellarModel" "kinds" "I") (by decide +kernel)) (fun _ h9 => h9) rfl dX10_lot_9 ?_
  refine lv_iconst (v := 1) hx hb dX10_lot_12 (by decide) ?_
  refine lv_isub hx hb dX10_lot_13 ?_
  refine va_calli (va_runS (As := [.int x1, .int ((0 : Int32)), .int ((gI τ7 0 k0 1) - ((1 : Int32)))]) (rest := [.ref (ad 0 k0)]) ⟨hx, hb, hml, hown, hts⟩ (mX10_within l dC dI ac sa A ad τ7 x1 ((0 : Int32)) ((gI τ7 0 k0 1) - ((1 : Int32))) _ hF ) (va_cwS 3 hts gX10_lot_X10_within rfl rfl rfl (by decide +kernel) ⟨Nat.le_of_ble_eq_true rfl, Nat.le_of_ble_eq_true rfl⟩) ⟨BM.blind, fun U hU hW => ⟨rfl, BM.of hP hK hS hA hZ hU hW⟩⟩ rfl rfl hl.1 rfl (lv_room (Nat.le_of_ble_eq_true rfl)) dX10_lot_14 ⟨Nat.le_of_ble_eq_true rfl, Nat.le_of_ble_eq_true rfl⟩) hS (fun q _ h => h) (fun q h => h) (fun r9 τ8 t H locs ht hvm hw hB hz hk hS => ?_)
  obtain ⟨hF, hN9⟩ := hw
  have hP : PM dC dI ac A ad τ8 H := tw_back hB ht
  have hN : gN τ8 = gN τ0 := hN9.trans hN
  refine lv_iconst (v := 1) hx hb dX10_lot_17 (by decide) ?_
  refine va_calli (va_runV (As := [.int r9, .int ((1 : Int32))]) (rest := []) ⟨hx, hb, hml, hown, hts⟩ (mX10_may l dC dI ac sa A ad τ8 k0 r9 ((1 : Int32)) _ hF (tw_lt hk0 (congrFun hN 0))) (cwV 2 hts gX10_lot_X10_may rfl rfl rfl (by decide +kernel) ⟨Nat.le_of_ble_eq_true rfl, Nat.le_of_ble_eq_true rfl⟩) ⟨BM.blind, tw_recv hK hP (by decide) (tw_lt hk0 (congrFun hN 0)) rfl rfl, fun U hU hW => ⟨rfl, BM.of hP hK hS hA hZ hU hW⟩⟩ rfl rfl hl.1 rfl (lv_room (Nat.le_of_ble_eq_true rfl)) dX10_lot_18 ⟨Nat.le_of_ble_eq_true rfl, Nat.le_of_ble_eq_true rfl⟩) hS (fun q _ h => h) (fun q h => h) (fun r11 τ10 t H locs ht hvm hw hB hz hk hS => ?_)
  obtain ⟨hF, hN9⟩ := hw
  have hP : PM dC dI ac A ad τ10 H := tw_back hB ht
  have hN : gN τ10 = gN τ0 := hN9.trans hN
  refine lv_if_eq (tgt := 61) hx hb dX10_lot_21 (by decide) (fun c12 => ?_) (fun c12 => ?_)
  · have hF := hF.1 c12
    refine lv_iconst (v := 0) hx hb dX10_lot_61 (by decide) ?_
    exact W.iret (v := (0 : Int32)) hx hb hr (fun t ht hW => ⟨⟨((0 : Int32)), τ10, rfl, ⟨hF, hN⟩, tw_at hP ht⟩, hS.F ht⟩) hS.2.2 dX10_lot_62
  · have hF := hF.2 c12
    refine lv_aload_n hx hb dX10_lot_24 rfl (lv_at hl 0 rfl) ?_
    refine lv_iload_n hx hb dX10_lot_25 rfl (lv_at hl 2 rfl) ?_
    refine lv_sipush (v := 1900) hx hb dX10_lot_26 (by decide) ?_
    refine lv_sipush (v := 2100) hx hb dX10_lot_29 (by decide) ?_
    refine va_calli (va_runS (As := [.int x2, .int ((1900 : Int32)), .int ((2100 : Int32))]) (rest := [.ref (ad 0 k0)]) ⟨hx, hb, hml, hown, hts⟩ (mX10_within l dC dI ac sa A ad τ10 x2 ((1900 : Int32)) ((2100 : Int32)) _ hF ) (va_cwS 3 hts gX10_lot_X10_within rfl rfl rfl (by decide +kernel) ⟨Nat.le_of_ble_eq_true rfl, Nat.le_of_ble_eq_true rfl⟩) ⟨BM.blind, fun U hU hW => ⟨rfl, BM.of hP hK hS hA hZ hU hW⟩⟩ rfl rfl hl.1 rfl (lv_room (Nat.le_of_ble_eq_true rfl)) dX10_lot_32 ⟨Nat.le_of_ble_eq_true rfl, Nat.le_of_ble_eq_true rfl⟩) hS (fun q _ h => h) (fun q h => h) (fun r14 τ13 t H locs ht hvm hw hB hz hk hS => ?_)
    obtain ⟨hF, hN9⟩ := hw
    have hP : PM dC dI ac A ad τ13 H := tw_back hB ht
    have hN : gN τ13 = gN τ0 := hN9.trans hN
    refine lv_if_eq (tgt := 53) hx hb dX10_lot_35 (by decide) (fun c15 => ?_) (fun c15 => ?_)
    · have hF := hF.1 c15
      exact j53 τ13 k0 hk0 x1 x2 x3 k0 hk0 _ _ _ hF hP hN hS (lv_sub hl [0, 1, 2, 3] rfl)
    · have hF := hF.2 c15
      refine lv_iload_n hx hb dX10_lot_38 rfl (lv_at hl 3 rfl) ?_
      refine lv_iconst (v := 1) hx hb dX10_lot_39 (by decide) ?_
      refine lv_sipush (v := 10000) hx hb dX10_lot_40 (by decide) ?_
      refine va_calli (va_runS (As := [.int x3, .int ((1 : Int32)), .int ((10000 : Int32))]) (rest := [.ref (ad 0 k0)]) ⟨hx, hb, hml, hown, hts⟩ (mX10_within l dC dI ac sa A ad τ13 x3 ((1 : Int32)) ((10000 : Int32)) _ hF ) (va_cwS 3 hts gX10_lot_X10_within rfl rfl rfl (by decide +kernel) ⟨Nat.le_of_ble_eq_true rfl, Nat.le_of_ble_eq_true rfl⟩) ⟨BM.blind, fun U hU hW => ⟨rfl, BM.of hP hK hS hA hZ hU hW⟩⟩ rfl rfl hl.1 rfl (lv_room (Nat.le_of_ble_eq_true rfl)) dX10_lot_43 ⟨Nat.le_of_ble_eq_true rfl, Nat.le_of_ble_eq_true rfl⟩) hS (fun q _ h => h) (fun q h => h) (fun r17 τ16 t H locs ht hvm hw hB hz hk hS => ?_)
      obtain ⟨hF, hN9⟩ := hw
      have hP : PM dC dI ac A ad τ16 H := tw_back hB ht
      have hN : gN τ16 = gN τ0 := hN9.trans hN
      refine lv_if_eq (tgt := 53) hx hb dX10_lot_46 (by decide) (fun c18 => ?_) (fun c18 => ?_)
      · have hF := hF.1 c18
        exact j53 τ16 k0 hk0 x1 x2 x3 k0 hk0 _ _ _ hF hP hN hS (lv_sub hl [0, 1, 2, 3] rfl)
      · have hF := hF.2 c18
        refine lv_iconst (v := 1) hx hb dX10_lot_49 (by decide) ?_
        refine lv_goto (tgt := 54) hx hb dX10_lot_50 (by decide) ?_
        exact j54 τ16 k0 hk0 x1 x2 x3 ((1 : Int32)) k0 hk0 _ _ _ hF hP hN hS (lv_sub hl [0, 1, 2, 3] rfl)
def F_X10_isLot (τ0 : tw_T) (k0 : Nat) (x1 : Int32) (x2 : Int32) (Q : Int32 → tw_T → Prop) : Prop := F_X10_within τ0 x1 ((0 : Int32)) ((gI τ0 0 k0 2) - ((1 : Int32))) (fun (r2 : Int32) (τ1 : tw_T) => (F_X10_may τ1 k0 r2 x2 (fun (r4 : Int32) (τ3 : tw_T) => (tw_b r4 ∧ (Q r4 τ3)))))
def rmX10_isLot : Room := { frames := 1, cells := 0, slots := 0, locals := 22 }
set_option maxHeartbeats 4000000 in
set_option maxRecDepth 100000 in
theorem mX10_isLot (l : Launch) (dC : Nat → ClassId) (dI : Nat → Nat → Nat) (ac : Nat → ClassId) (sa : Nat → Nat) (A : Nat → Prop) (ad : Nat → Nat → Nat) (τ0 : tw_T) (k0 : Nat) (x1 : Int32) (x2 : Int32) (Q : Int32 → tw_T → Prop) (hF : F_X10_isLot τ0 k0 x1 x2 Q) (hk0 : k0 < gN τ0 0) : Met l yX10_isLot wsX10_isLot rmX10_isLot (va_Pc [.ref (ad 0 k0), .int x1, .int x2] (BM dC dI ac sa A ad τ0)) (va_Qi (fun r (u : tw_T) => Q r u ∧ gN u = gN τ0) (fun u t => PM dC dI ac A ad u t.heap) A) 0 0 A := by
  refine Met.ofW (cc := cX10_isLot) (maxL := 3) (ret := (some .boolean)) (by decide) rfl ?_
  intro p e s m args below meth c s₁ B hml hv
  obtain ⟨rfl, hP, hK, hA, hZ⟩ := hv
  have hx := B.exec
  have hb := B.bytes
  have hr := B.returns
  have hts := atoms_spec (ws := wsX10_isLot) B.pre
  have hown : s.vm.findClass RX10 = some m.cls := findClass_of_methodNamed B.named
  have hlocks := B.notSynchronized
  have hS : va_S A s.heap s.heap [] := va_S.rf
  have hN : gN τ0 = gN τ0 := rfl
  have hl := lv_entry ([.ref (ad 0 k0), .int x1, .int x2]) (n := 3) (Nat.le_of_ble_eq_true rfl)
  rw [lg_entry_eq]
  generalize (lg_sl ([.ref (ad 0 k0), .int x1, .int x2]) ++ List.replicate (3 - (lg_sl ([.ref (ad 0 k0), .int x1, .int x2])).length) Slot.unset).toArray = ls at hl ⊢
  have hl : lv_has ls 3 [(0, .ref (ad 0 k0)), (1, .int x1), (2, .int x2)] := hl
  unfold F_X10_isLot at hF
  refine lv_aload_n hx hb dX10_isLot_0 rfl (lv_at hl 0 rfl) ?_
  refine lv_iload_n hx hb dX10_isLot_1 rfl (lv_at hl 1 rfl) ?_
  refine lv_iconst (v := 0) hx hb dX10_isLot_2 (by decide) ?_
  refine lv_aload_n hx hb dX10_isLot_3 rfl (lv_at hl 0 rfl) ?_
  refine tw_get (v := .int (gI τ0 0 k0 2)) hx hb hts (by decide +kernel) hown hK hP (by decide) hk0 rfl rfl 2 (by decide) (hts (.fieldLink RX10 119 "WineCellarModel" "lots" "I") (by decide +kernel)) (fun _ h9 => h9) rfl dX10_isLot_4 ?_
  refine lv_iconst (v := 1) hx hb dX10_isLot_7 (by decide) ?_
  refine lv_isub hx hb dX10_isLot_8 ?_
  refine va_calli (va_runS (As := [.int x1, .int ((0 : Int32)), .int ((gI τ0 0 k0 2) - ((1 : Int32)))]) (rest := [.ref (ad 0 k0)]) ⟨hx, hb, hml, hown, hts⟩ (mX10_within l dC dI ac sa A ad τ0 x1 ((0 : Int32)) ((gI τ0 0 k0 2) - ((1 : Int32))) _ hF ) (va_cwS 3 hts gX10_isLot_X10_within rfl rfl rfl (by decide +kernel) ⟨Nat.le_of_ble_eq_true rfl, Nat.le_of_ble_eq_true rfl⟩) ⟨BM.blind, fun U hU hW => ⟨rfl, BM.of hP hK hS hA hZ hU hW⟩⟩ rfl rfl hl.1 rfl (lv_room (Nat.le_of_ble_eq_true rfl)) dX10_isLot_9 ⟨Nat.le_of_ble_eq_true rfl, Nat.le_of_ble_eq_true rfl⟩) hS (fun q _ h => h) (fun q h => h) (fun r2 τ1 t H locs ht hvm hw hB hz hk hS => ?_)
  obtain ⟨hF, hN9⟩ := hw
  have hP : PM dC dI ac A ad τ1 H := tw_back hB ht
  have hN : gN τ1 = gN τ0 := hN9.trans hN
  refine lv_iload_n hx hb dX10_isLot_12 rfl (lv_at hl 2 rfl) ?_
  refine va_calli (va_runV (As := [.int r2, .int x2]) (rest := []) ⟨hx, hb, hml, hown, hts⟩ (mX10_may l dC dI ac sa A ad τ1 k0 r2 x2 _ hF (tw_lt hk0 (congrFun hN 0))) (cwV 2 hts gX10_isLot_X10_may rfl rfl rfl (by decide +kernel) ⟨Nat.le_of_ble_eq_true rfl, Nat.le_of_ble_eq_true rfl⟩) ⟨BM.blind, tw_recv hK hP (by decide) (tw_lt hk0 (congrFun hN 0)) rfl rfl, fun U hU hW => ⟨rfl, BM.of hP hK hS hA hZ hU hW⟩⟩ rfl rfl hl.1 rfl (lv_room (Nat.le_of_ble_eq_true rfl)) dX10_isLot_13 ⟨Nat.le_of_ble_eq_true rfl, Nat.le_of_ble_eq_true rfl⟩) hS (fun q _ h => h) (fun q h => h) (fun r4 τ3 t H locs ht hvm hw hB hz hk hS => ?_)
  obtain ⟨hF, hN9⟩ := hw
  have hP : PM dC dI ac A ad τ3 H := tw_back hB ht
  have hN : gN τ3 = gN τ0 := hN9.trans hN
  obtain ⟨hb9, hF⟩ := hF
  exact W.zret (v := r4) (ty := .boolean) hx hb hr (tw_bn hb9) (fun t ht hW => ⟨⟨r4, τ3, rfl, ⟨hF, hN⟩, tw_at hP ht⟩, hS.F ht⟩) hS.2.2 dX10_isLot_16
def L_X10_worthOf_118 (u2 : Int32) (Q : Int32 → tw_T → Prop) (EX : tw_T → Int32 → Int32 → Prop) : Nat → tw_T → Int32 → Int32 → Prop
  | 0, _, _, _ => False
  | n + 1, τ, u4, u5 => ((u2 ≤ u5 → (EX τ u4 u5)) ∧ (¬ u2 ≤ u5 → (((u4 ≤ 0 → (EX τ u4 u5)) ∧ (¬ u4 ≤ 0 → (∀ z3 : Int32, z3 = u4 / ((2 : Int32)) → (∀ z4 : Int32, z4 = u5 + (1 : Int32) → (L_X10_worthOf_118 u2 Q EX n τ z3 z4))))))))
def J_X10_worthOf_37 (τ : tw_T) (p0 : Nat) (u1 : Int32) (u2 : Int32) (y0 : Int32) (Q : Int32 → tw_T → Prop) : Prop := ∃ o5 : Nat, gR τ 0 p0 12 = some o5 ∧ (vp_in u1 60 ∧ (∃ o7 : Nat, gR τ 0 p0 12 = some o7 ∧ (vp_in u1 60 ∧ (∃ o9 : Nat, gR τ 0 p0 13 = some o9 ∧ (vp_in u1 60 ∧ (∀ z11 : Int32, z11 = (gI τ 112 o5 u1.toNatClampNeg) + (((gI τ 112 o7 u1.toNatClampNeg) * (y0 - (gI τ 113 o9 u1.toNatClampNeg))) / ((20 : Int32))) → (∃ o12 : Nat, gR τ 0 p0 14 = some o12 ∧ (vp_in u1 60 ∧ (((u2 ≤ (gI τ 114 o12 u1.toNatClampNeg) → (Q z11 τ)) ∧ (¬ u2 ≤ (gI τ 114 o12 u1.toNatClampNeg) → (∃ o15 : Nat, gR τ 0 p0 5 = some o15 ∧ (∃ o16 : Nat, gR τ 0 p0 10 = some o16 ∧ (vp_in u1 60 ∧ (vp_in (gI τ 110 o16 u1.toNatClampNeg) 20 ∧ (((¬ (gI τ 105 o15 (gI τ 110 o16 u1.toNatClampNeg).toNatClampNeg) = ((2 : Int32)) → (∃ o20 : Nat, gR τ 0 p0 5 = some o20 ∧ (∃ o21 : Nat, gR τ 0 p0 10 = some o21 ∧ (vp_in u1 60 ∧ (vp_in (gI τ 110 o21 u1.toNatClampNeg) 20 ∧ (((¬ (gI τ 105 o20 (gI τ 110 o21 u1.toNatClampNeg).toNatClampNeg) = ((1 : Int32)) → (∃ o25 : Nat, gR τ 0 p0 14 = some o25 ∧ (vp_in u1 60 ∧ (∀ z27 : Int32, z27 = gI τ 114 o25 u1.toNatClampNeg → (∃ n28 : Nat, L_X10_worthOf_118 u2 Q (fun (τ29 : tw_T) (z30 : Int32) (z31 : Int32) => Q z30 τ29) n28 τ z11 z27))))) ∧ ((gI τ 105 o20 (gI τ 110 o21 u1.toNatClampNeg).toNatClampNeg) = ((1 : Int32)) → (Q ((0 : Int32)) τ))))))))) ∧ ((gI τ 105 o15 (gI τ 110 o16 u1.toNatClampNeg).toNatClampNeg) = ((2 : Int32)) → (Q z11 τ)))))))))))))))))))
def F_X10_worthOf (τ0 : tw_T) (k0 : Nat) (x1 : Int32) (x2 : Int32) (Q : Int32 → tw_T → Prop) : Prop := ∃ o32 : Nat, gR τ0 0 k0 13 = some o32 ∧ (vp_in x1 60 ∧ ((((gI τ0 113 o32 x1.toNatClampNeg) ≤ x2 → (∃ o35 : Nat, gR τ0 0 k0 14 = some o35 ∧ (vp_in x1 60 ∧ ((((gI τ0 114 o35 x1.toNatClampNeg) ≤ x2 → (∃ o38 : Nat, gR τ0 0 k0 14 = some o38 ∧ (vp_in x1 60 ∧ (J_X10_worthOf_37 τ0 k0 x1 x2 (gI τ0 114 o38 x1.toNatClampNeg) Q)))) ∧ (¬ (gI τ0 114 o35 x1.toNatClampNeg) ≤ x2 → (J_X10_worthOf_37 τ0 k0 x1 x2 x2 Q))))))) ∧ (¬ (gI τ0 113 o32 x1.toNatClampNeg) ≤ x2 → (∃ o40 : Nat, gR τ0 0 k0 12 = some o40 ∧ (vp_in x1 60 ∧ (Q (gI τ0 112 o40 x1.toNatClampNeg) τ0)))))))
def rmX10_worthOf : Room := { frames := 0, cells := 0, slots := 0, locals := 0 }
set_option maxHeartbeats 4000000 in
set_option maxRecDepth 100000 in
theorem mX10_worthOf (l : Launch) (dC : Nat → ClassId) (dI : Nat → Nat → Nat) (ac : Nat → ClassId) (sa : Nat → Nat) (A : Nat → Prop) (ad : Nat → Nat → Nat) (τ0 : tw_T) (k0 : Nat) (x1 : Int32) (x2 : Int32) (Q : Int32 → tw_T → Prop) (hF : F_X10_worthOf τ0 k0 x1 x2 Q) (hk0 : k0 < gN τ0 0) : Met l yX10_worthOf wsX10_worthOf rmX10_worthOf (va_Pc [.ref (ad 0 k0), .int x1, .int x2] (BM dC dI ac sa A ad τ0)) (va_Qi (fun r (u : tw_T) => Q r u ∧ gN u = gN τ0) (fun u t => PM dC dI ac A ad u t.heap) A) 0 0 A := by
  refine Met.ofW (cc := cX10_worthOf) (maxL := 6) (ret := (some .int)) (by decide) rfl ?_
  intro p e s m args below meth c s₁ B hml hv
  obtain ⟨rfl, hP, hK, hA, hZ⟩ := hv
  have hx := B.exec
  have hb := B.bytes
  have hr := B.returns
  have hts := atoms_spec (ws := wsX10_worthOf) B.pre
  have hown : s.vm.findClass RX10 = some m.cls := findClass_of_methodNamed B.named
  have hlocks := B.notSynchronized
  have hS : va_S A s.heap s.heap [] := va_S.rf
  have hN : gN τ0 = gN τ0 := rfl
  have hl := lv_entry ([.ref (ad 0 k0), .int x1, .int x2]) (n := 6) (Nat.le_of_ble_eq_true rfl)
  rw [lg_entry_eq]
  generalize (lg_sl ([.ref (ad 0 k0), .int x1, .int x2]) ++ List.replicate (6 - (lg_sl ([.ref (ad 0 k0), .int x1, .int x2])).length) Slot.unset).toArray = ls at hl ⊢
  have hl : lv_has ls 6 [(0, .ref (ad 0 k0)), (1, .int x1), (2, .int x2)] := hl
  unfold F_X10_worthOf at hF
  have l118 : ∀ (u2 : Int32) (EX : tw_T → Int32 → Int32 → Prop) (n : Nat) (τ : tw_T) (u4 : Int32) (u5 : Int32) (H : Heap) (locs : List Loc) (ls : Array Slot), L_X10_worthOf_118 u2 Q EX n τ u4 u5 → PM dC dI ac A ad τ H → gN τ = gN τ0 → va_S A s.heap H locs → lv_has ls 6 [(2, .int u2), (4, .int u4), (5, .int u5)] → (∀ (τ : tw_T) (u4 : Int32) (u5 : Int32) (H : Heap) (locs : List Loc) (ls : Array Slot), EX τ u4 u5 → PM dC dI ac A ad τ H → gN τ = gN τ0 → va_S A s.heap H locs → lv_has ls 6 [(2, .int u2), (4, .int u4), (5, .int u5)] → W p l e rmX10_worthOf s m ([.ref (ad 0 k0), .int x1, .int x2] : List Value).toArray below meth c H locs 0 0 (MQ below (va_Qi (fun r (u : tw_T) => Q r u ∧ gN u = gN τ0) (fun u t => PM dC dI ac A ad u t.heap) A) ([.ref (ad 0 k0), .int x1, .int x2] : List Value).toArray s 0 0 A) (F0 m 141 ls [])) → W p l e rmX10_worthOf s m ([.ref (ad 0 k0), .int x1, .int x2] : List Value).toArray below meth c H locs 0 0 (MQ below (va_Qi (fun r (u : tw_T) => Q r u ∧ gN u = gN τ0) (fun u t => PM dC dI ac A ad u t.heap) A) ([.ref (ad 0 k0), .int x1, .int x2] : List Value).toArray s 0 0 A) (F0 m 118 ls []) := by
    intro u2 EX n
    induction n with
    | zero => intro τ u4 u5 H locs ls hF; exact hF.elim
    | succ n ih =>
      intro τ u4 u5 H locs ls hF hP hN hS hl hEX
      rw [L_X10_worthOf_118] at hF
      refine lv_iload hx hb dX10_worthOf_118 (lv_at hl 2 rfl) ?_
      refine lv_iload_n hx hb dX10_worthOf_120 rfl (lv_at hl 0 rfl) ?_
      refine lv_icmp_ge (tgt := 141) hx hb dX10_worthOf_121 (by decide) (fun c1 => ?_) (fun c1 => ?_)
      · have hF := hF.1 c1
        exact hEX τ u4 u5 _ _ _ hF hP hN hS (lv_sub hl [0, 1, 2] rfl)
      · have hF := hF.2 c1
        refine lv_iload hx hb dX10_worthOf_124 (lv_at hl 1 rfl) ?_
        refine lv_if_le (tgt := 141) hx hb dX10_worthOf_126 (by decide) (fun c2 => ?_) (fun c2 => ?_)
        · have hF := hF.1 c2
          exact hEX τ u4 u5 _ _ _ hF hP hN hS (lv_sub hl [0, 1, 2] rfl)
        · have hF := hF.2 c2
          refine lv_iload hx hb dX10_worthOf_129 (lv_at hl 1 rfl) ?_
          refine lv_iconst (v := 2) hx hb dX10_worthOf_131 (by decide) ?_
          refine lv_idiv hx hb dX10_worthOf_132 (by decide) ?_
          refine lv_topi (fun z3 ez3 => ?_)
          have hF := hF z3 ez3
          refine lv_istore (lv' := [(4, .int z3), (2, .int u2), (5, .int u5)]) hx hb dX10_worthOf_133 hl (by decide) rfl (fun ls hl => ?_)
          obtain ⟨z4, ez4⟩ : ∃ y : Int32, y = u5 + (1 : Int32) := ⟨_, rfl⟩
          have hF := hF z4 ez4
          refine lv_iinc (v := z4) (lv' := [(5, .int z4), (4, .int z3), (2, .int u2)]) hx hb dX10_worthOf_135 hl (k := 2) rfl (by rw [ez4]; rfl) (by decide) rfl (fun ls hl => ?_)
          refine lv_goto (tgt := 118) hx hb dX10_worthOf_138 (by decide) ?_
          exact ih τ z3 z4 _ _ _ hF hP hN hS (lv_sub hl [2, 1, 0] rfl) hEX
  have j37 : ∀ (τ : tw_T) (p0 : Nat) (hp0 : p0 < gN τ0 0) (u1 : Int32) (u2 : Int32) (y0 : Int32) (H : Heap) (locs : List Loc) (ls : Array Slot), J_X10_worthOf_37 τ p0 u1 u2 y0 Q → PM dC dI ac A ad τ H → gN τ = gN τ0 → va_S A s.heap H locs → lv_has ls 6 [(0, .ref (ad 0 p0)), (1, .int u1), (2, .int u2)] → W p l e rmX10_worthOf s m ([.ref (ad 0 k0), .int x1, .int x2] : List Value).toArray below meth c H locs 0 0 (MQ below (va_Qi (fun r (u : tw_T) => Q r u ∧ gN u = gN τ0) (fun u t => PM dC dI ac A ad u t.heap) A) ([.ref (ad 0 k0), .int x1, .int x2] : List Value).toArray s 0 0 A) (F0 m 37 ls [.int y0]) := by
    intro τ p0 hp0 u1 u2 y0 H locs ls hF hP hN hS hl
    unfold J_X10_worthOf_37 at hF
    refine lv_istore_n (lv' := [(3, .int y0), (0, .ref (ad 0 p0)), (1, .int u1), (2, .int u2)]) hx hb dX10_worthOf_37 rfl hl (by decide) rfl (fun ls hl => ?_)
    refine lv_aload_n hx hb dX10_worthOf_38 rfl (lv_at hl 1 rfl) ?_
    obtain ⟨o5, eo5, hF⟩ := hF
    have ho5 : o5 < gN τ0 112 := tw_lt (hP.2.2.2 0 p0 12 o5 (by decide) (tw_lt hp0 (congrFun hN 0)) eo5) (congrFun hN 112).symm
    refine tw_get (v := .ref (ad 112 o5)) hx hb hts (by decide +kernel) hown hK hP (by decide) (tw_lt hp0 (congrFun hN 0)) rfl rfl 12 (by decide) (hts (.fieldLink RX10 35 "WineCellarModel" "price" "[I") (by decide +kernel)) (fun _ h9 => h9) (show some (va_rf ((gR τ 0 p0 12).map (ad 112))) = some (.ref (ad 112 o5)) by rw [eo5]; rfl) dX10_worthOf_39 ?_
    refine lv_iload_n hx hb dX10_worthOf_42 rfl (lv_at hl 2 rfl) ?_
    obtain ⟨hi6, hF⟩ := hF
    refine tw_iald hx hb hK hP (by decide) (tw_lt ho5 (congrFun hN 112)) rfl 0 rfl hi6 dX10_worthOf_43 ?_
    refine lv_aload_n hx hb dX10_worthOf_44 rfl (lv_at hl 1 rfl) ?_
    obtain ⟨o7, eo7, hF⟩ := hF
    have ho7 : o7 < gN τ0 112 := tw_lt (hP.2.2.2 0 p0 12 o7 (by decide) (tw_lt hp0 (congrFun hN 0)) eo7) (congrFun hN 112).symm
    refine tw_get (v := .ref (ad 112 o7)) hx hb hts (by decide +kernel) hown hK hP (by decide) (tw_lt hp0 (congrFun hN 0)) rfl rfl 12 (by decide) (hts (.fieldLink RX10 35 "WineCellarModel" "price" "[I") (by decide +kernel)) (fun _ h9 => h9) (show some (va_rf ((gR τ 0 p0 12).map (ad 112))) = some (.ref (ad 112 o7)) by rw [eo7]; rfl) dX10_worthOf_45 ?_
    refine lv_iload_n hx hb dX10_worthOf_48 rfl (lv_at hl 2 rfl) ?_
    obtain ⟨hi8, hF⟩ := hF
    refine tw_iald hx hb hK hP (by decide) (tw_lt ho7 (congrFun hN 112)) rfl 0 rfl hi8 dX10_worthOf_49 ?_
    refine lv_iload_n hx hb dX10_worthOf_50 rfl (lv_at hl 0 rfl) ?_
    refine lv_aload_n hx hb dX10_worthOf_51 rfl (lv_at hl 1 rfl) ?_
    obtain ⟨o9, eo9, hF⟩ := hF
    have ho9 : o9 < gN τ0 113 := tw_lt (hP.2.2.2 0 p0 13 o9 (by decide) (tw_lt hp0 (congrFun hN 0)) eo9) (congrFun hN 113).symm
    refine tw_get (v := .ref (ad 113 o9)) hx hb hts (by decide +kernel) hown hK hP (by decide) (tw_lt hp0 (congrFun hN 0)) rfl rfl 13 (by decide) (hts (.fieldLink RX10 38 "WineCellarModel" "from" "[I") (by decide +kernel)) (fun _ h9 => h9) (show some (va_rf ((gR τ 0 p0 13).map (ad 113))) = some (.ref (ad 113 o9)) by rw [eo9]; rfl) dX10_worthOf_52 ?_
    refine lv_iload_n hx hb dX10_worthOf_55 rfl (lv_at hl 2 rfl) ?_
    obtain ⟨hi10, hF⟩ := hF
    refine tw_iald hx hb hK hP (by decide) (tw_lt ho9 (congrFun hN 113)) rfl 0 rfl hi10 dX10_worthOf_56 ?_
    refine lv_isub hx hb dX10_worthOf_57 ?_
    refine lv_imul hx hb dX10_worthOf_58 ?_
    refine lv_bipush (v := 20) hx hb dX10_worthOf_59 (by decide) ?_
    refine lv_idiv hx hb dX10_worthOf_61 (by decide) ?_
    refine lv_iadd hx hb dX10_worthOf_62 ?_
    refine lv_topi (fun z11 ez11 => ?_)
    have hF := hF z11 ez11
    refine lv_istore (lv' := [(4, .int z11), (3, .int y0), (0, .ref (ad 0 p0)), (1, .int u1), (2, .int u2)]) hx hb dX10_worthOf_63 hl (by decide) rfl (fun ls hl => ?_)
    refine lv_iload_n hx hb dX10_worthOf_65 rfl (lv_at hl 4 rfl) ?_
    refine lv_aload_n hx hb dX10_worthOf_66 rfl (lv_at hl 2 rfl) ?_
    obtain ⟨o12, eo12, hF⟩ := hF
    have ho12 : o12 < gN τ0 114 := tw_lt (hP.2.2.2 0 p0 14 o12 (by decide) (tw_lt hp0 (congrFun hN 0)) eo12) (congrFun hN 114).symm
    refine tw_get (v := .ref (ad 114 o12)) hx hb hts (by decide +kernel) hown hK hP (by decide) (tw_lt hp0 (congrFun hN 0)) rfl rfl 14 (by decide) (hts (.fieldLink RX10 41 "WineCellarModel" "until" "[I") (by decide +kernel)) (fun _ h9 => h9) (show some (va_rf ((gR τ 0 p0 14).map (ad 114))) = some (.ref (ad 114 o12)) by rw [eo12]; rfl) dX10_worthOf_67 ?_
    refine lv_iload_n hx hb dX10_worthOf_70 rfl (lv_at hl 3 rfl) ?_
    obtain ⟨hi13, hF⟩ := hF
    refine tw_iald hx hb hK hP (by decide) (tw_lt ho12 (congrFun hN 114)) rfl 0 rfl hi13 dX10_worthOf_71 ?_
    refine lv_icmp_le (tgt := 90) hx hb dX10_worthOf_72 (by decide) (fun c14 => ?_) (fun c14 => ?_)
    · have hF := hF.1 c14
      refine lv_iload hx hb dX10_worthOf_90 (lv_at hl 0 rfl) ?_
      exact W.iret (v := z11) hx hb hr (fun t ht hW => ⟨⟨z11, τ, rfl, ⟨hF, hN⟩, tw_at hP ht⟩, hS.F ht⟩) hS.2.2 dX10_worthOf_92
    · have hF := hF.2 c14
      refine lv_aload_n hx hb dX10_worthOf_75 rfl (lv_at hl 2 rfl) ?_
      obtain ⟨o15, eo15, hF⟩ := hF
      have ho15 : o15 < gN τ0 105 := tw_lt (hP.2.2.2 0 p0 5 o15 (by decide) (tw_lt hp0 (congrFun hN 0)) eo15) (congrFun hN 105).symm
      refine tw_get (v := .ref (ad 105 o15)) hx hb hts (by decide +kernel) hown hK hP (by decide) (tw_lt hp0 (congrFun hN 0)) rfl rfl 5 (by decide) (hts (.fieldLink RX10 13 "WineCellarModel" "sort" "[I") (by decide +kernel)) (fun _ h9 => h9) (show some (va_rf ((gR τ 0 p0 5).map (ad 105))) = some (.ref (ad 105 o15)) by rw [eo15]; rfl) dX10_worthOf_76 ?_
      refine lv_aload_n hx hb dX10_worthOf_79 rfl (lv_at hl 2 rfl) ?_
      obtain ⟨o16, eo16, hF⟩ := hF
      have ho16 : o16 < gN τ0 110 := tw_lt (hP.2.2.2 0 p0 10 o16 (by decide) (tw_lt hp0 (congrFun hN 0)) eo16) (congrFun hN 110).symm
      refine tw_get (v := .ref (ad 110 o16)) hx hb hts (by decide +kernel) hown hK hP (by decide) (tw_lt hp0 (congrFun hN 0)) rfl rfl 10 (by decide) (hts (.fieldLink RX10 29 "WineCellarModel" "kindOf" "[I") (by decide +kernel)) (fun _ h9 => h9) (show some (va_rf ((gR τ 0 p0 10).map (ad 110))) = some (.ref (ad 110 o16)) by rw [eo16]; rfl) dX10_worthOf_80 ?_
      refine lv_iload_n hx hb dX10_worthOf_83 rfl (lv_at hl 3 rfl) ?_
      obtain ⟨hi17, hF⟩ := hF
      refine tw_iald hx hb hK hP (by decide) (tw_lt ho16 (congrFun hN 110)) rfl 0 rfl hi17 dX10_worthOf_84 ?_
      obtain ⟨hi18, hF⟩ := hF
      refine tw_iald hx hb hK hP (by decide) (tw_lt ho15 (congrFun hN 105)) rfl 0 rfl hi18 dX10_worthOf_85 ?_
      refine lv_iconst (v := 2) hx hb dX10_worthOf_86 (by decide) ?_
      refine lv_icmp_ne (tgt := 93) hx hb dX10_worthOf_87 (by decide) (fun c19 => ?_) (fun c19 => ?_)
      · have hF := hF.1 c19
        refine lv_aload_n hx hb dX10_worthOf_93 rfl (lv_at hl 2 rfl) ?_
        obtain ⟨o20, eo20, hF⟩ := hF
        have ho20 : o20 < gN τ0 105 := tw_lt (hP.2.2.2 0 p0 5 o20 (by decide) (tw_lt hp0 (congrFun hN 0)) eo20) (congrFun hN 105).symm
        refine tw_get (v := .ref (ad 105 o20)) hx hb hts (by decide +kernel) hown hK hP (by decide) (tw_lt hp0 (congrFun hN 0)) rfl rfl 5 (by decide) (hts (.fieldLink RX10 13 "WineCellarModel" "sort" "[I") (by decide +kernel)) (fun _ h9 => h9) (show some (va_rf ((gR τ 0 p0 5).map (ad 105))) = some (.ref (ad 105 o20)) by rw [eo20]; rfl) dX10_worthOf_94 ?_
        refine lv_aload_n hx hb dX10_worthOf_97 rfl (lv_at hl 2 rfl) ?_
        obtain ⟨o21, eo21, hF⟩ := hF
        have ho21 : o21 < gN τ0 110 := tw_lt (hP.2.2.2 0 p0 10 o21 (by decide) (tw_lt hp0 (congrFun hN 0)) eo21) (congrFun hN 110).symm
        refine tw_get (v := .ref (ad 110 o21)) hx hb hts (by decide +kernel) hown hK hP (by decide) (tw_lt hp0 (congrFun hN 0)) rfl rfl 10 (by decide) (hts (.fieldLink RX10 29 "WineCellarModel" "kindOf" "[I") (by decide +kernel)) (fun _ h9 => h9) (show some (va_rf ((gR τ 0 p0 10).map (ad 110))) = some (.ref (ad 110 o21)) by rw [eo21]; rfl) dX10_worthOf_98 ?_
        refine lv_iload_n hx hb dX10_worthOf_101 rfl (lv_at hl 3 rfl) ?_
        obtain ⟨hi22, hF⟩ := hF
        refine tw_iald hx hb hK hP (by decide) (tw_lt ho21 (congrFun hN 110)) rfl 0 rfl hi22 dX10_worthOf_102 ?_
        obtain ⟨hi23, hF⟩ := hF
        refine tw_iald hx hb hK hP (by decide) (tw_lt ho20 (congrFun hN 105)) rfl 0 rfl hi23 dX10_worthOf_103 ?_
        refine lv_iconst (v := 1) hx hb dX10_worthOf_104 (by decide) ?_
        refine lv_icmp_ne (tgt := 110) hx hb dX10_worthOf_105 (by decide) (fun c24 => ?_) (fun c24 => ?_)
        · have hF := hF.1 c24
          refine lv_aload_n hx hb dX10_worthOf_110 rfl (lv_at hl 2 rfl) ?_
          obtain ⟨o25, eo25, hF⟩ := hF
          have ho25 : o25 < gN τ0 114 := tw_lt (hP.2.2.2 0 p0 14 o25 (by decide) (tw_lt hp0 (congrFun hN 0)) eo25) (congrFun hN 114).symm
          refine tw_get (v := .ref (ad 114 o25)) hx hb hts (by decide +kernel) hown hK hP (by decide) (tw_lt hp0 (congrFun hN 0)) rfl rfl 14 (by decide) (hts (.fieldLink RX10 41 "WineCellarModel" "until" "[I") (by decide +kernel)) (fun _ h9 => h9) (show some (va_rf ((gR τ 0 p0 14).map (ad 114))) = some (.ref (ad 114 o25)) by rw [eo25]; rfl) dX10_worthOf_111 ?_
          refine lv_iload_n hx hb dX10_worthOf_114 rfl (lv_at hl 3 rfl) ?_
          obtain ⟨hi26, hF⟩ := hF
          refine tw_iald hx hb hK hP (by decide) (tw_lt ho25 (congrFun hN 114)) rfl 0 rfl hi26 dX10_worthOf_115 ?_
          refine lv_topi (fun z27 ez27 => ?_)
          have hF := hF z27 ez27
          refine lv_istore (lv' := [(5, .int z27), (4, .int z11), (3, .int y0), (0, .ref (ad 0 p0)), (1, .int u1), (2, .int u2)]) hx hb dX10_worthOf_116 hl (by decide) rfl (fun ls hl => ?_)
          obtain ⟨n28, hF⟩ := hF
          refine l118 u2 _ n28 τ z11 z27 _ _ _ hF hP hN hS (lv_sub hl [5, 1, 0] rfl) ?_
          intro τ29 z30 z31 H locs ls hF hP hN hS hl
          refine lv_iload hx hb dX10_worthOf_141 (lv_at hl 1 rfl) ?_
          exact W.iret (v := z30) hx hb hr (fun t ht hW => ⟨⟨z30, τ29, rfl, ⟨hF, hN⟩, tw_at hP ht⟩, hS.F ht⟩) hS.2.2 dX10_worthOf_143
        · have hF := hF.2 c24
          refine lv_iconst (v := 0) hx hb dX10_worthOf_108 (by decide) ?_
          exact W.iret (v := (0 : Int32)) hx hb hr (fun t ht hW => ⟨⟨((0 : Int32)), τ, rfl, ⟨hF, hN⟩, tw_at hP ht⟩, hS.F ht⟩) hS.2.2 dX10_worthOf_109
      · have hF := hF.2 c19
        refine lv_iload hx hb dX10_worthOf_90 (lv_at hl 0 rfl) ?_
        exact W.iret (v := z11) hx hb hr (fun t ht hW => ⟨⟨z11, τ, rfl, ⟨hF, hN⟩, tw_at hP ht⟩, hS.F ht⟩) hS.2.2 dX10_worthOf_92
  refine lv_iload_n hx hb dX10_worthOf_0 rfl (lv_at hl 2 rfl) ?_
  refine lv_aload_n hx hb dX10_worthOf_1 rfl (lv_at hl 0 rfl) ?_
  obtain ⟨o32, eo32, hF⟩ := hF
  have ho32 : o32 < gN τ0 113 := tw_lt (hP.2.2.2 0 k0 13 o32 (by decide) hk0 eo32) (congrFun hN 113).symm
  refine tw_get (v := .ref (ad 113 o32)) hx hb hts (by decide +kernel) hown hK hP (by decide) hk0 rfl rfl 13 (by decide) (hts (.fieldLink RX10 38 "WineCellarModel" "from" "[I") (by decide +kernel)) (fun _ h9 => h9) (show some (va_rf ((gR τ0 0 k0 13).map (ad 113))) = some (.ref (ad 113 o32)) by rw [eo32]; rfl) dX10_worthOf_2 ?_
  refine lv_iload_n hx hb dX10_worthOf_5 rfl (lv_at hl 1 rfl) ?_
  obtain ⟨hi33, hF⟩ := hF
  refine tw_iald hx hb hK hP (by decide) ho32 rfl 0 rfl hi33 dX10_worthOf_6 ?_
  refine lv_icmp_ge (tgt := 17) hx hb dX10_worthOf_7 (by decide) (fun c34 => ?_) (fun c34 => ?_)
  · have hF := hF.1 c34
    refine lv_iload_n hx hb dX10_worthOf_17 rfl (lv_at hl 2 rfl) ?_
    refine lv_aload_n hx hb dX10_worthOf_18 rfl (lv_at hl 0 rfl) ?_
    obtain ⟨o35, eo35, hF⟩ := hF
    have ho35 : o35 < gN τ0 114 := tw_lt (hP.2.2.2 0 k0 14 o35 (by decide) hk0 eo35) (congrFun hN 114).symm
    refine tw_get (v := .ref (ad 114 o35)) hx hb hts (by decide +kernel) hown hK hP (by decide) hk0 rfl rfl 14 (by decide) (hts (.fieldLink RX10 41 "WineCellarModel" "until" "[I") (by decide +kernel)) (fun _ h9 => h9) (show some (va_rf ((gR τ0 0 k0 14).map (ad 114))) = some (.ref (ad 114 o35)) by rw [eo35]; rfl) dX10_worthOf_19 ?_
    refine lv_iload_n hx hb dX10_worthOf_22 rfl (lv_at hl 1 rfl) ?_
    obtain ⟨hi36, hF⟩ := hF
    refine tw_iald hx hb hK hP (by decide) ho35 rfl 0 rfl hi36 dX10_worthOf_23 ?_
    refine lv_icmp_ge (tgt := 31) hx hb dX10_worthOf_24 (by decide) (fun c37 => ?_) (fun c37 => ?_)
    · have hF := hF.1 c37
      refine lv_aload_n hx hb dX10_worthOf_31 rfl (lv_at hl 0 rfl) ?_
      obtain ⟨o38, eo38, hF⟩ := hF
      have ho38 : o38 < gN τ0 114 := tw_lt (hP.2.2.2 0 k0 14 o38 (by decide) hk0 eo38) (congrFun hN 114).symm
      refine tw_get (v := .ref (ad 114 o38)) hx hb hts (by decide +kernel) hown hK hP (by decide) hk0 rfl rfl 14 (by decide) (hts (.fieldLink RX10 41 "WineCellarModel" "until" "[I") (by decide +kernel)) (fun _ h9 => h9) (show some (va_rf ((gR τ0 0 k0 14).map (ad 114))) = some (.ref (ad 114 o38)) by rw [eo38]; rfl) dX10_worthOf_32 ?_
      refine lv_iload_n hx hb dX10_worthOf_35 rfl (lv_at hl 1 rfl) ?_
      obtain ⟨hi39, hF⟩ := hF
      refine tw_iald hx hb hK hP (by decide) ho38 rfl 0 rfl hi39 dX10_worthOf_36 ?_
      exact j37 τ0 k0 hk0 x1 x2 (gI τ0 114 o38 x1.toNatClampNeg) _ _ _ hF hP hN hS (lv_sub hl [0, 1, 2] rfl)
    · have hF := hF.2 c37
      refine lv_iload_n hx hb dX10_worthOf_27 rfl (lv_at hl 2 rfl) ?_
      refine lv_goto (tgt := 37) hx hb dX10_worthOf_28 (by decide) ?_
      exact j37 τ0 k0 hk0 x1 x2 x2 _ _ _ hF hP hN hS (lv_sub hl [0, 1, 2] rfl)
  · have hF := hF.2 c34
    refine lv_aload_n hx hb dX10_worthOf_10 rfl (lv_at hl 0 rfl) ?_
    obtain ⟨o40, eo40, hF⟩ := hF
    have ho40 : o40 < gN τ0 112 := tw_lt (hP.2.2.2 0 k0 12 o40 (by decide) hk0 eo40) (congrFun hN 112).symm
    refine tw_get (v := .ref (ad 112 o40)) hx hb hts (by decide +kernel) hown hK hP (by decide) hk0 rfl rfl 12 (by decide) (hts (.fieldLink RX10 35 "WineCellarModel" "price" "[I") (by decide +kernel)) (fun _ h9 => h9) (show some (va_rf ((gR τ0 0 k0 12).map (ad 112))) = some (.ref (ad 112 o40)) by rw [eo40]; rfl) dX10_worthOf_11 ?_
    refine lv_iload_n hx hb dX10_worthOf_14 rfl (lv_at hl 1 rfl) ?_
    obtain ⟨hi41, hF⟩ := hF
    refine tw_iald hx hb hK hP (by decide) ho40 rfl 0 rfl hi41 dX10_worthOf_15 ?_
    exact W.iret (v := gI τ0 112 o40 x1.toNatClampNeg) hx hb hr (fun t ht hW => ⟨⟨(gI τ0 112 o40 x1.toNatClampNeg), τ0, rfl, ⟨hF, hN⟩, tw_at hP ht⟩, hS.F ht⟩) hS.2.2 dX10_worthOf_16
def F_X10_worth (τ0 : tw_T) (k0 : Nat) (x1 : Int32) (x2 : Int32) (Q : Int32 → tw_T → Prop) : Prop := ∀ τ1 : tw_T, τ1 = sI τ0 0 k0 0 ((0 : Int32)) → (F_X10_isLot τ1 k0 x1 ((1 : Int32)) (fun (r3 : Int32) (τ2 : tw_T) => (((r3 = 0 → (Q ((0 : Int32)) τ2)) ∧ (¬ r3 = 0 → (F_X10_within τ2 x2 ((1900 : Int32)) ((2300 : Int32)) (fun (r6 : Int32) (τ5 : tw_T) => (F_X10_may τ5 k0 r6 ((2 : Int32)) (fun (r8 : Int32) (τ7 : tw_T) => (((r8 = 0 → (Q ((0 : Int32)) τ7)) ∧ (¬ r8 = 0 → (F_X10_worthOf τ7 k0 x1 x2 (fun (r11 : Int32) (τ10 : tw_T) => (Q r11 τ10)))))))))))))))
def rmX10_worth : Room := { frames := 2, cells := 0, slots := 0, locals := 44 }
set_option maxHeartbeats 4000000 in
set_option maxRecDepth 100000 in
theorem mX10_worth (l : Launch) (dC : Nat → ClassId) (dI : Nat → Nat → Nat) (ac : Nat → ClassId) (sa : Nat → Nat) (A : Nat → Prop) (ad : Nat → Nat → Nat) (τ0 : tw_T) (k0 : Nat) (x1 : Int32) (x2 : Int32) (Q : Int32 → tw_T → Prop) (hF : F_X10_worth τ0 k0 x1 x2 Q) (hk0 : k0 < gN τ0 0) : Met l yX10_worth wsX10_worth rmX10_worth (va_Pc [.ref (ad 0 k0), .int x1, .int x2] (BM dC dI ac sa A ad τ0)) (va_Qi (fun r (u : tw_T) => Q r u ∧ gN u = gN τ0) (fun u t => PM dC dI ac A ad u t.heap) A) 0 0 A := by
  refine Met.ofW (cc := cX10_worth) (maxL := 3) (ret := (some .int)) (by decide) rfl ?_
  intro p e s m args below meth c s₁ B hml hv
  obtain ⟨rfl, hP, hK, hA, hZ⟩ := hv
  have hx := B.exec
  have hb := B.bytes
  have hr := B.returns
  have hts := atoms_spec (ws := wsX10_worth) B.pre
  have hown : s.vm.findClass RX10 = some m.cls := findClass_of_methodNamed B.named
  have hlocks := B.notSynchronized
  have hS : va_S A s.heap s.heap [] := va_S.rf
  have hN : gN τ0 = gN τ0 := rfl
  have hl := lv_entry ([.ref (ad 0 k0), .int x1, .int x2]) (n := 3) (Nat.le_of_ble_eq_true rfl)
  rw [lg_entry_eq]
  generalize (lg_sl ([.ref (ad 0 k0), .int x1, .int x2]) ++ List.replicate (3 - (lg_sl ([.ref (ad 0 k0), .int x1, .int x2])).length) Slot.unset).toArray = ls at hl ⊢
  have hl : lv_has ls 3 [(0, .ref (ad 0 k0)), (1, .int x1), (2, .int x2)] := hl
  unfold F_X10_worth at hF
  refine lv_aload_n hx hb dX10_worth_0 rfl (lv_at hl 0 rfl) ?_
  refine lv_iconst (v := 0) hx hb dX10_worth_1 (by decide) ?_
  refine tw_put (τ' := sI τ0 0 k0 0 ((0 : Int32))) (ty := .int) hx hb hts (by decide +kernel) tyX10 tyX10_ok nmX10 hown hK hP hS (by decide) hk0 rfl rfl 0 (by decide) (hts (.fieldLink RX10 1 "WineCellarModel" "thrown" "I") (by decide +kernel)) (fun _ h9 => h9) rfl (by decide +kernel) rfl rfl (Nat.le_of_ble_eq_true rfl) dX10_worth_2 (fun H1 ha ho => tw_updI hP (by decide) hk0 ha ho) (fun H locs hP hS => ?_)
  obtain ⟨τ1, eτ1⟩ : ∃ y : tw_T, y = sI τ0 0 k0 0 ((0 : Int32)) := ⟨_, rfl⟩
  have hF := hF τ1 eτ1
  rw [← eτ1] at hP
  have hN : gN τ1 = gN τ0 := by rw [eτ1]; exact hN
  refine lv_aload_n hx hb dX10_worth_5 rfl (lv_at hl 0 rfl) ?_
  refine lv_iload_n hx hb dX10_worth_6 rfl (lv_at hl 1 rfl) ?_
  refine lv_iconst (v := 1) hx hb dX10_worth_7 (by decide) ?_
  refine va_calli (va_runV (As := [.int x1, .int ((1 : Int32))]) (rest := []) ⟨hx, hb, hml, hown, hts⟩ (mX10_isLot l dC dI ac sa A ad τ1 k0 x1 ((1 : Int32)) _ hF (tw_lt hk0 (congrFun hN 0))) (cwV 2 hts gX10_worth_X10_isLot rfl rfl rfl (by decide +kernel) ⟨Nat.le_of_ble_eq_true rfl, Nat.le_of_ble_eq_true rfl⟩) ⟨BM.blind, tw_recv hK hP (by decide) (tw_lt hk0 (congrFun hN 0)) rfl rfl, fun U hU hW => ⟨rfl, BM.of hP hK hS hA hZ hU hW⟩⟩ rfl rfl hl.1 rfl (lv_room (Nat.le_of_ble_eq_true rfl)) dX10_worth_8 ⟨Nat.le_of_ble_eq_true rfl, Nat.le_of_ble_eq_true rfl⟩) hS (fun q _ h => h) (fun q h => h) (fun r3 τ2 t H locs ht hvm hw hB hz hk hS => ?_)
  obtain ⟨hF, hN9⟩ := hw
  have hP : PM dC dI ac A ad τ2 H := tw_back hB ht
  have hN : gN τ2 = gN τ0 := hN9.trans hN
  refine lv_if_eq (tgt := 41) hx hb dX10_worth_11 (by decide) (fun c4 => ?_) (fun c4 => ?_)
  · have hF := hF.1 c4
    refine lv_iconst (v := 0) hx hb dX10_worth_41 (by decide) ?_
    exact W.iret (v := (0 : Int32)) hx hb hr (fun t ht hW => ⟨⟨((0 : Int32)), τ2, rfl, ⟨hF, hN⟩, tw_at hP ht⟩, hS.F ht⟩) hS.2.2 dX10_worth_42
  · have hF := hF.2 c4
    refine lv_aload_n hx hb dX10_worth_14 rfl (lv_at hl 0 rfl) ?_
    refine lv_iload_n hx hb dX10_worth_15 rfl (lv_at hl 2 rfl) ?_
    refine lv_sipush (v := 1900) hx hb dX10_worth_16 (by decide) ?_
    refine lv_sipush (v := 2300) hx hb dX10_worth_19 (by decide) ?_
    refine va_calli (va_runS (As := [.int x2, .int ((1900 : Int32)), .int ((2300 : Int32))]) (rest := [.ref (ad 0 k0)]) ⟨hx, hb, hml, hown, hts⟩ (mX10_within l dC dI ac sa A ad τ2 x2 ((1900 : Int32)) ((2300 : Int32)) _ hF ) (va_cwS 3 hts gX10_worth_X10_within rfl rfl rfl (by decide +kernel) ⟨Nat.le_of_ble_eq_true rfl, Nat.le_of_ble_eq_true rfl⟩) ⟨BM.blind, fun U hU hW => ⟨rfl, BM.of hP hK hS hA hZ hU hW⟩⟩ rfl rfl hl.1 rfl (lv_room (Nat.le_of_ble_eq_true rfl)) dX10_worth_22 ⟨Nat.le_of_ble_eq_true rfl, Nat.le_of_ble_eq_true rfl⟩) hS (fun q _ h => h) (fun q h => h) (fun r6 τ5 t H locs ht hvm hw hB hz hk hS => ?_)
    obtain ⟨hF, hN9⟩ := hw
    have hP : PM dC dI ac A ad τ5 H := tw_back hB ht
    have hN : gN τ5 = gN τ0 := hN9.trans hN
    refine lv_iconst (v := 2) hx hb dX10_worth_25 (by decide) ?_
    refine va_calli (va_runV (As := [.int r6, .int ((2 : Int32))]) (rest := []) ⟨hx, hb, hml, hown, hts⟩ (mX10_may l dC dI ac sa A ad τ5 k0 r6 ((2 : Int32)) _ hF (tw_lt hk0 (congrFun hN 0))) (cwV 2 hts gX10_worth_X10_may rfl rfl rfl (by decide +kernel) ⟨Nat.le_of_ble_eq_true rfl, Nat.le_of_ble_eq_true rfl⟩) ⟨BM.blind, tw_recv hK hP (by decide) (tw_lt hk0 (congrFun hN 0)) rfl rfl, fun U hU hW => ⟨rfl, BM.of hP hK hS hA hZ hU hW⟩⟩ rfl rfl hl.1 rfl (lv_room (Nat.le_of_ble_eq_true rfl)) dX10_worth_26 ⟨Nat.le_of_ble_eq_true rfl, Nat.le_of_ble_eq_true rfl⟩) hS (fun q _ h => h) (fun q h => h) (fun r8 τ7 t H locs ht hvm hw hB hz hk hS => ?_)
    obtain ⟨hF, hN9⟩ := hw
    have hP : PM dC dI ac A ad τ7 H := tw_back hB ht
    have hN : gN τ7 = gN τ0 := hN9.trans hN
    refine lv_if_eq (tgt := 41) hx hb dX10_worth_29 (by decide) (fun c9 => ?_) (fun c9 => ?_)
    · have hF := hF.1 c9
      refine lv_iconst (v := 0) hx hb dX10_worth_41 (by decide) ?_
      exact W.iret (v := (0 : Int32)) hx hb hr (fun t ht hW => ⟨⟨((0 : Int32)), τ7, rfl, ⟨hF, hN⟩, tw_at hP ht⟩, hS.F ht⟩) hS.2.2 dX10_worth_42
    · have hF := hF.2 c9
      refine lv_aload_n hx hb dX10_worth_32 rfl (lv_at hl 0 rfl) ?_
      refine lv_iload_n hx hb dX10_worth_33 rfl (lv_at hl 1 rfl) ?_
      refine lv_iload_n hx hb dX10_worth_34 rfl (lv_at hl 2 rfl) ?_
      refine va_calli (va_runV (As := [.int x1, .int x2]) (rest := []) ⟨hx, hb, hml, hown, hts⟩ (mX10_worthOf l dC dI ac sa A ad τ7 k0 x1 x2 _ hF (tw_lt hk0 (congrFun hN 0))) (cwV 2 hts gX10_worth_X10_worthOf rfl rfl rfl (by decide +kernel) ⟨Nat.le_of_ble_eq_true rfl, Nat.le_of_ble_eq_true rfl⟩) ⟨BM.blind, tw_recv hK hP (by decide) (tw_lt hk0 (congrFun hN 0)) rfl rfl, fun U hU hW => ⟨rfl, BM.of hP hK hS hA hZ hU hW⟩⟩ rfl rfl hl.1 rfl (lv_room (Nat.le_of_ble_eq_true rfl)) dX10_worth_35 ⟨Nat.le_of_ble_eq_true rfl, Nat.le_of_ble_eq_true rfl⟩) hS (fun q _ h => h) (fun q h => h) (fun r11 τ10 t H locs ht hvm hw hB hz hk hS => ?_)
      obtain ⟨hF, hN9⟩ := hw
      have hP : PM dC dI ac A ad τ10 H := tw_back hB ht
      have hN : gN τ10 = gN τ0 := hN9.trans hN
      refine lv_goto (tgt := 42) hx hb dX10_worth_38 (by decide) ?_
      exact W.iret (v := r11) hx hb hr (fun t ht hW => ⟨⟨r11, τ10, rfl, ⟨hF, hN⟩, tw_at hP ht⟩, hS.F ht⟩) hS.2.2 dX10_worth_42
def J_X10_taste_177 (τ : tw_T) (p0 : Nat) (u1 : Int32) (u3 : Int32) (u4 : Int32) (Q : Int32 → tw_T → Prop) : Prop := ∃ o1 : Nat, gR τ 0 p0 13 = some o1 ∧ (vp_in u1 60 ∧ (((¬ (gI τ 113 o1 u1.toNatClampNeg) = u3 → (Q ((1 : Int32)) τ)) ∧ ((gI τ 113 o1 u1.toNatClampNeg) = u3 → (∃ o4 : Nat, gR τ 0 p0 14 = some o4 ∧ (vp_in u1 60 ∧ ((((gI τ 114 o4 u1.toNatClampNeg) = u4 → (Q ((0 : Int32)) τ)) ∧ (¬ (gI τ 114 o4 u1.toNatClampNeg) = u4 → (Q ((1 : Int32)) τ))))))))))
def J_X10_taste_142 (τ : tw_T) (p0 : Nat) (u1 : Int32) (u3 : Int32) (u4 : Int32) (u5 : Int32) (y0 : Int32) (y1 : Int32) (q2 : Nat) (Q : Int32 → tw_T → Prop) : Prop := vp_in y1 60 ∧ (∀ τ8 : tw_T, τ8 = sI τ 114 q2 y1.toNatClampNeg y0 → (((u4 ≤ u5 → (J_X10_taste_177 τ8 p0 u1 u3 u4 Q)) ∧ (¬ u4 ≤ u5 → (((u3 ≤ u5 → (J_X10_taste_177 τ8 p0 u1 u3 u4 Q)) ∧ (¬ u3 ≤ u5 → (∃ o11 : Nat, gR τ8 0 p0 13 = some o11 ∧ (vp_in u1 60 ∧ (∀ τ13 : tw_T, τ13 = sI τ8 113 o11 u1.toNatClampNeg u5 → (J_X10_taste_177 τ13 p0 u1 u3 u4 Q)))))))))))
def J_X10_taste_119 (τ : tw_T) (p0 : Nat) (u1 : Int32) (u3 : Int32) (u4 : Int32) (y0 : Int32) (y1 : Int32) (q2 : Nat) (Q : Int32 → tw_T → Prop) : Prop := vp_in y1 60 ∧ (∀ τ15 : tw_T, τ15 = sI τ 113 q2 y1.toNatClampNeg y0 → (J_X10_taste_177 τ15 p0 u1 u3 u4 Q))
def J_X10_taste_98 (τ : tw_T) (p0 : Nat) (u1 : Int32) (u3 : Int32) (u4 : Int32) (y0 : Int32) (y1 : Int32) (q2 : Nat) (Q : Int32 → tw_T → Prop) : Prop := vp_in y1 60 ∧ (∀ τ17 : tw_T, τ17 = sI τ 113 q2 y1.toNatClampNeg y0 → (J_X10_taste_177 τ17 p0 u1 u3 u4 Q))
def F_X10_taste (τ0 : tw_T) (k0 : Nat) (x1 : Int32) (x2 : Int32) (Q : Int32 → tw_T → Prop) : Prop := ∀ τ18 : tw_T, τ18 = sI τ0 0 k0 0 ((0 : Int32)) → (F_X10_isLot τ18 k0 x1 ((1 : Int32)) (fun (r20 : Int32) (τ19 : tw_T) => (((r20 = 0 → (Q ((0 : Int32)) τ19)) ∧ (¬ r20 = 0 → (F_X10_within τ19 x2 ((0 : Int32)) ((3 : Int32)) (fun (r23 : Int32) (τ22 : tw_T) => (F_X10_may τ22 k0 r23 ((2 : Int32)) (fun (r25 : Int32) (τ24 : tw_T) => (((¬ r25 = 0 → (∃ o27 : Nat, gR τ24 0 k0 13 = some o27 ∧ (vp_in x1 60 ∧ (∀ z29 : Int32, z29 = gI τ24 113 o27 x1.toNatClampNeg → (∃ o30 : Nat, gR τ24 0 k0 14 = some o30 ∧ (vp_in x1 60 ∧ (∀ z32 : Int32, z32 = gI τ24 114 o30 x1.toNatClampNeg → (F_X10_year τ24 k0 (fun (r34 : Int32) (τ33 : tw_T) => (((x2.toInt < 0 ∨ 2 < x2.toInt → (∃ o35 : Nat, gR τ33 0 k0 14 = some o35 ∧ (vp_in x1 60 ∧ (∀ τ37 : tw_T, τ37 = sI τ33 114 o35 x1.toNatClampNeg (z32 + ((2 : Int32))) → (J_X10_taste_177 τ37 k0 x1 z29 z32 Q))))) ∧ (x2 = (0 : Int32) → (∃ o38 : Nat, gR τ33 0 k0 13 = some o38 ∧ (((z32 ≤ z29 → (J_X10_taste_98 τ33 k0 x1 z29 z32 z29 x1 o38 Q)) ∧ (¬ z32 ≤ z29 → (J_X10_taste_98 τ33 k0 x1 z29 z32 (z29 + ((1 : Int32))) x1 o38 Q)))))) ∧ (x2 = (1 : Int32) → (∃ o40 : Nat, gR τ33 0 k0 13 = some o40 ∧ (((z29 ≤ r34 → (J_X10_taste_119 τ33 k0 x1 z29 z32 z29 x1 o40 Q)) ∧ (¬ z29 ≤ r34 → (J_X10_taste_119 τ33 k0 x1 z29 z32 r34 x1 o40 Q)))))) ∧ (x2 = (2 : Int32) → (∃ o42 : Nat, gR τ33 0 k0 14 = some o42 ∧ (((z32 ≤ r34 → (J_X10_taste_142 τ33 k0 x1 z29 z32 r34 z32 x1 o42 Q)) ∧ (¬ z32 ≤ r34 → (J_X10_taste_142 τ33 k0 x1 z29 z32 r34 r34 x1 o42 Q))))))))))))))))) ∧ (r25 = 0 → (Q ((0 : Int32)) τ24)))))))))))))
def rmX10_taste : Room := { frames := 2, cells := 0, slots := 0, locals := 44 }
set_option maxHeartbeats 4000000 in
set_option maxRecDepth 100000 in
theorem mX10_taste (l : Launch) (dC : Nat → ClassId) (dI : Nat → Nat → Nat) (ac : Nat → ClassId) (sa : Nat → Nat) (A : Nat → Prop) (ad : Nat → Nat → Nat) (τ0 : tw_T) (k0 : Nat) (x1 : Int32) (x2 : Int32) (Q : Int32 → tw_T → Prop) (hF : F_X10_taste τ0 k0 x1 x2 Q) (hk0 : k0 < gN τ0 0) : Met l yX10_taste wsX10_taste rmX10_taste (va_Pc [.ref (ad 0 k0), .int x1, .int x2] (BM dC dI ac sa A ad τ0)) (va_Qi (fun r (u : tw_T) => Q r u ∧ gN u = gN τ0) (fun u t => PM dC dI ac A ad u t.heap) A) 0 0 A := by
  refine Met.ofW (cc := cX10_taste) (maxL := 6) (ret := (some .int)) (by decide) rfl ?_
  intro p e s m args below meth c s₁ B hml hv
  obtain ⟨rfl, hP, hK, hA, hZ⟩ := hv
  have hx := B.exec
  have hb := B.bytes
  have hr := B.returns
  have hts := atoms_spec (ws := wsX10_taste) B.pre
  have hown : s.vm.findClass RX10 = some m.cls := findClass_of_methodNamed B.named
  have hlocks := B.notSynchronized
  have hS : va_S A s.heap s.heap [] := va_S.rf
  have hN : gN τ0 = gN τ0 := rfl
  have hl := lv_entry ([.ref (ad 0 k0), .int x1, .int x2]) (n := 6) (Nat.le_of_ble_eq_true rfl)
  rw [lg_entry_eq]
  generalize (lg_sl ([.ref (ad 0 k0), .int x1, .int x2]) ++ List.replicate (6 - (lg_sl ([.ref (ad 0 k0), .int x1, .int x2])).length) Slot.unset).toArray = ls at hl ⊢
  have hl : lv_has ls 6 [(0, .ref (ad 0 k0)), (1, .int x1), (2, .int x2)] := hl
  unfold F_X10_taste at hF
  have j177 : ∀ (τ : tw_T) (p0 : Nat) (hp0 : p0 < gN τ0 0) (u1 : Int32) (u3 : Int32) (u4 : Int32) (H : Heap) (locs : List Loc) (ls : Array Slot), J_X10_taste_177 τ p0 u1 u3 u4 Q → PM dC dI ac A ad τ H → gN τ = gN τ0 → va_S A s.heap H locs → lv_has ls 6 [(0, .ref (ad 0 p0)), (1, .int u1), (3, .int u3), (4, .int u4)] → W p l e rmX10_taste s m ([.ref (ad 0 k0), .int x1, .int x2] : List Value).toArray below meth c H locs 0 0 (MQ below (va_Qi (fun r (u : tw_T) => Q r u ∧ gN u = gN τ0) (fun u t => PM dC dI ac A ad u t.heap) A) ([.ref (ad 0 k0), .int x1, .int x2] : List Value).toArray s 0 0 A) (F0 m 177 ls []) := by
    intro τ p0 hp0 u1 u3 u4 H locs ls hF hP hN hS hl
    unfold J_X10_taste_177 at hF
    refine lv_aload_n hx hb dX10_taste_177 rfl (lv_at hl 0 rfl) ?_
    obtain ⟨o1, eo1, hF⟩ := hF
    have ho1 : o1 < gN τ0 113 := tw_lt (hP.2.2.2 0 p0 13 o1 (by decide) (tw_lt hp0 (congrFun hN 0)) eo1) (congrFun hN 113).symm
    refine tw_get (v := .ref (ad 113 o1)) hx hb hts (by decide +kernel) hown hK hP (by decide) (tw_lt hp0 (congrFun hN 0)) rfl rfl 13 (by decide) (hts (.fieldLink RX10 38 "WineCellarModel" "from" "[I") (by decide +kernel)) (fun _ h9 => h9) (show some (va_rf ((gR τ 0 p0 13).map (ad 113))) = some (.ref (ad 113 o1)) by rw [eo1]; rfl) dX10_taste_178 ?_
    refine lv_iload_n hx hb dX10_taste_181 rfl (lv_at hl 1 rfl) ?_
    obtain ⟨hi2, hF⟩ := hF
    refine tw_iald hx hb hK hP (by decide) (tw_lt ho1 (congrFun hN 113)) rfl 0 rfl hi2 dX10_taste_182 ?_
    refine lv_iload_n hx hb dX10_taste_183 rfl (lv_at hl 2 rfl) ?_
    refine lv_icmp_ne (tgt := 198) hx hb dX10_taste_184 (by decide) (fun c3 => ?_) (fun c3 => ?_)
    · have hF := hF.1 c3
      refine lv_iconst (v := 1) hx hb dX10_taste_198 (by decide) ?_
      refine lv_goto (tgt := 203) hx hb dX10_taste_199 (by decide) ?_
      exact W.iret (v := (1 : Int32)) hx hb hr (fun t ht hW => ⟨⟨((1 : Int32)), τ, rfl, ⟨hF, hN⟩, tw_at hP ht⟩, hS.F ht⟩) hS.2.2 dX10_taste_203
    · have hF := hF.2 c3
      refine lv_aload_n hx hb dX10_taste_187 rfl (lv_at hl 0 rfl) ?_
      obtain ⟨o4, eo4, hF⟩ := hF
      have ho4 : o4 < gN τ0 114 := tw_lt (hP.2.2.2 0 p0 14 o4 (by decide) (tw_lt hp0 (congrFun hN 0)) eo4) (congrFun hN 114).symm
      refine tw_get (v := .ref (ad 114 o4)) hx hb hts (by decide +kernel) hown hK hP (by decide) (tw_lt hp0 (congrFun hN 0)) rfl rfl 14 (by decide) (hts (.fieldLink RX10 41 "WineCellarModel" "until" "[I") (by decide +kernel)) (fun _ h9 => h9) (show some (va_rf ((gR τ 0 p0 14).map (ad 114))) = some (.ref (ad 114 o4)) by rw [eo4]; rfl) dX10_taste_188 ?_
      refine lv_iload_n hx hb dX10_taste_191 rfl (lv_at hl 1 rfl) ?_
      obtain ⟨hi5, hF⟩ := hF
      refine tw_iald hx hb hK hP (by decide) (tw_lt ho4 (congrFun hN 114)) rfl 0 rfl hi5 dX10_taste_192 ?_
      refine lv_iload hx hb dX10_taste_193 (lv_at hl 3 rfl) ?_
      refine lv_icmp_eq (tgt := 202) hx hb dX10_taste_195 (by decide) (fun c6 => ?_) (fun c6 => ?_)
      · have hF := hF.1 c6
        refine lv_iconst (v := 0) hx hb dX10_taste_202 (by decide) ?_
        exact W.iret (v := (0 : Int32)) hx hb hr (fun t ht hW => ⟨⟨((0 : Int32)), τ, rfl, ⟨hF, hN⟩, tw_at hP ht⟩, hS.F ht⟩) hS.2.2 dX10_taste_203
      · have hF := hF.2 c6
        refine lv_iconst (v := 1) hx hb dX10_taste_198 (by decide) ?_
        refine lv_goto (tgt := 203) hx hb dX10_taste_199 (by decide) ?_
        exact W.iret (v := (1 : Int32)) hx hb hr (fun t ht hW => ⟨⟨((1 : Int32)), τ, rfl, ⟨hF, hN⟩, tw_at hP ht⟩, hS.F ht⟩) hS.2.2 dX10_taste_203
  have j142 : ∀ (τ : tw_T) (p0 : Nat) (hp0 : p0 < gN τ0 0) (u1 : Int32) (u3 : Int32) (u4 : Int32) (u5 : Int32) (y0 : Int32) (y1 : Int32) (q2 : Nat) (hq2 : q2 < gN τ0 114) (H : Heap) (locs : List Loc) (ls : Array Slot), J_X10_taste_142 τ p0 u1 u3 u4 u5 y0 y1 q2 Q → PM dC dI ac A ad τ H → gN τ = gN τ0 → va_S A s.heap H locs → lv_has ls 6 [(0, .ref (ad 0 p0)), (1, .int u1), (3, .int u3), (4, .int u4), (5, .int u5)] → W p l e rmX10_taste s m ([.ref (ad 0 k0), .int x1, .int x2] : List Value).toArray below meth c H locs 0 0 (MQ below (va_Qi (fun r (u : tw_T) => Q r u ∧ gN u = gN τ0) (fun u t => PM dC dI ac A ad u t.heap) A) ([.ref (ad 0 k0), .int x1, .int x2] : List Value).toArray s 0 0 A) (F0 m 142 ls [.int y0, .int y1, .ref (ad 114 q2)]) := by
    intro τ p0 hp0 u1 u3 u4 u5 y0 y1 q2 hq2 H locs ls hF hP hN hS hl
    unfold J_X10_taste_142 at hF
    obtain ⟨hi7, hF⟩ := hF
    refine tw_iast hx hb hK hP hS (by decide) (tw_lt hq2 (congrFun hN 114)) rfl 0 rfl hi7 dX10_taste_142 (fun H locs hP hS => ?_)
    obtain ⟨τ8, eτ8⟩ : ∃ y : tw_T, y = sI τ 114 q2 y1.toNatClampNeg y0 := ⟨_, rfl⟩
    have hF := hF τ8 eτ8
    rw [← eτ8] at hP
    have hN : gN τ8 = gN τ0 := by rw [eτ8]; exact hN
    refine lv_iload hx hb dX10_taste_143 (lv_at hl 3 rfl) ?_
    refine lv_iload hx hb dX10_taste_145 (lv_at hl 4 rfl) ?_
    refine lv_icmp_le (tgt := 177) hx hb dX10_taste_147 (by decide) (fun c9 => ?_) (fun c9 => ?_)
    · have hF := hF.1 c9
      exact j177 τ8 p0 hp0 u1 u3 u4 _ _ _ hF hP hN hS (lv_sub hl [0, 1, 2, 3] rfl)
    · have hF := hF.2 c9
      refine lv_iload_n hx hb dX10_taste_150 rfl (lv_at hl 2 rfl) ?_
      refine lv_iload hx hb dX10_taste_151 (lv_at hl 4 rfl) ?_
      refine lv_icmp_le (tgt := 177) hx hb dX10_taste_153 (by decide) (fun c10 => ?_) (fun c10 => ?_)
      · have hF := hF.1 c10
        exact j177 τ8 p0 hp0 u1 u3 u4 _ _ _ hF hP hN hS (lv_sub hl [0, 1, 2, 3] rfl)
      · have hF := hF.2 c10
        refine lv_aload_n hx hb dX10_taste_156 rfl (lv_at hl 0 rfl) ?_
        obtain ⟨o11, eo11, hF⟩ := hF
        have ho11 : o11 < gN τ0 113 := tw_lt (hP.2.2.2 0 p0 13 o11 (by decide) (tw_lt hp0 (congrFun hN 0)) eo11) (congrFun hN 113).symm
        refine tw_get (v := .ref (ad 113 o11)) hx hb hts (by decide +kernel) hown hK hP (by decide) (tw_lt hp0 (congrFun hN 0)) rfl rfl 13 (by decide) (hts (.fieldLink RX10 38 "WineCellarModel" "from" "[I") (by decide +kernel)) (fun _ h9 => h9) (show some (va_rf ((gR τ8 0 p0 13).map (ad 113))) = some (.ref (ad 113 o11)) by rw [eo11]; rfl) dX10_taste_157 ?_
        refine lv_iload_n hx hb dX10_taste_160 rfl (lv_at hl 1 rfl) ?_
        refine lv_iload hx hb dX10_taste_161 (lv_at hl 4 rfl) ?_
        obtain ⟨hi12, hF⟩ := hF
        refine tw_iast hx hb hK hP hS (by decide) (tw_lt ho11 (congrFun hN 113)) rfl 0 rfl hi12 dX10_taste_163 (fun H locs hP hS => ?_)
        obtain ⟨τ13, eτ13⟩ : ∃ y : tw_T, y = sI τ8 113 o11 u1.toNatClampNeg u5 := ⟨_, rfl⟩
        have hF := hF τ13 eτ13
        rw [← eτ13] at hP
        have hN : gN τ13 = gN τ0 := by rw [eτ13]; exact hN
        refine lv_goto (tgt := 177) hx hb dX10_taste_164 (by decide) ?_
        exact j177 τ13 p0 hp0 u1 u3 u4 _ _ _ hF hP hN hS (lv_sub hl [0, 1, 2, 3] rfl)
  have j119 : ∀ (τ : tw_T) (p0 : Nat) (hp0 : p0 < gN τ0 0) (u1 : Int32) (u3 : Int32) (u4 : Int32) (y0 : Int32) (y1 : Int32) (q2 : Nat) (hq2 : q2 < gN τ0 113) (H : Heap) (locs : List Loc) (ls : Array Slot), J_X10_taste_119 τ p0 u1 u3 u4 y0 y1 q2 Q → PM dC dI ac A ad τ H → gN τ = gN τ0 → va_S A s.heap H locs → lv_has ls 6 [(0, .ref (ad 0 p0)), (1, .int u1), (3, .int u3), (4, .int u4)] → W p l e rmX10_taste s m ([.ref (ad 0 k0), .int x1, .int x2] : List Value).toArray below meth c H locs 0 0 (MQ below (va_Qi (fun r (u : tw_T) => Q r u ∧ gN u = gN τ0) (fun u t => PM dC dI ac A ad u t.heap) A) ([.ref (ad 0 k0), .int x1, .int x2] : List Value).toArray s 0 0 A) (F0 m 119 ls [.int y0, .int y1, .ref (ad 113 q2)]) := by
    intro τ p0 hp0 u1 u3 u4 y0 y1 q2 hq2 H locs ls hF hP hN hS hl
    unfold J_X10_taste_119 at hF
    obtain ⟨hi14, hF⟩ := hF
    refine tw_iast hx hb hK hP hS (by decide) (tw_lt hq2 (congrFun hN 113)) rfl 0 rfl hi14 dX10_taste_119 (fun H locs hP hS => ?_)
    obtain ⟨τ15, eτ15⟩ : ∃ y : tw_T, y = sI τ 113 q2 y1.toNatClampNeg y0 := ⟨_, rfl⟩
    have hF := hF τ15 eτ15
    rw [← eτ15] at hP
    have hN : gN τ15 = gN τ0 := by rw [eτ15]; exact hN
    refine lv_goto (tgt := 177) hx hb dX10_taste_120 (by decide) ?_
    exact j177 τ15 p0 hp0 u1 u3 u4 _ _ _ hF hP hN hS (lv_sub hl [0, 1, 2, 3] rfl)
  have j98 : ∀ (τ : tw_T) (p0 : Nat) (hp0 : p0 < gN τ0 0) (u1 : Int32) (u3 : Int32) (u4 : Int32) (y0 : Int32) (y1 : Int32) (q2 : Nat) (hq2 : q2 < gN τ0 113) (H : Heap) (locs : List Loc) (ls : Array Slot), J_X10_taste_98 τ p0 u1 u3 u4 y0 y1 q2 Q → PM dC dI ac A ad τ H → gN τ = gN τ0 → va_S A s.heap H locs → lv_has ls 6 [(0, .ref (ad 0 p0)), (1, .int u1), (3, .int u3), (4, .int u4)] → W p l e rmX10_taste s m ([.ref (ad 0 k0), .int x1, .int x2] : List Value).toArray below meth c H locs 0 0 (MQ below (va_Qi (fun r (u : tw_T) => Q r u ∧ gN u = gN τ0) (fun u t => PM dC dI ac A ad u t.heap) A) ([.ref (ad 0 k0), .int x1, .int x2] : List Value).toArray s 0 0 A) (F0 m 98 ls [.int y0, .int y1, .ref (ad 113 q2)]) := by
    intro τ p0 hp0 u1 u3 u4 y0 y1 q2 hq2 H locs ls hF hP hN hS hl
    unfold J_X10_taste_98 at hF
    obtain ⟨hi16, hF⟩ := hF
    refine tw_iast hx hb hK hP hS (by decide) (tw_lt hq2 (congrFun hN 113)) rfl 0 rfl hi16 dX10_taste_98 (fun H locs hP hS => ?_)
    obtain ⟨τ17, eτ17⟩ : ∃ y : tw_T, y = sI τ 113 q2 y1.toNatClampNeg y0 := ⟨_, rfl⟩
    have hF := hF τ17 eτ17
    rw [← eτ17] at hP
    have hN : gN τ17 = gN τ0 := by rw [eτ17]; exact hN
    refine lv_goto (tgt := 177) hx hb dX10_taste_99 (by decide) ?_
    exact j177 τ17 p0 hp0 u1 u3 u4 _ _ _ hF hP hN hS (lv_sub hl [0, 1, 2, 3] rfl)
  refine lv_aload_n hx hb dX10_taste_0 rfl (lv_at hl 0 rfl) ?_
  refine lv_iconst (v := 0) hx hb dX10_taste_1 (by decide) ?_
  refine tw_put (τ' := sI τ0 0 k0 0 ((0 : Int32))) (ty := .int) hx hb hts (by decide +kernel) tyX10 tyX10_ok nmX10 hown hK hP hS (by decide) hk0 rfl rfl 0 (by decide) (hts (.fieldLink RX10 1 "WineCellarModel" "thrown" "I") (by decide +kernel)) (fun _ h9 => h9) rfl (by decide +kernel) rfl rfl (Nat.le_of_ble_eq_true rfl) dX10_taste_2 (fun H1 ha ho => tw_updI hP (by decide) hk0 ha ho) (fun H locs hP hS => ?_)
  obtain ⟨τ18, eτ18⟩ : ∃ y : tw_T, y = sI τ0 0 k0 0 ((0 : Int32)) := ⟨_, rfl⟩
  have hF := hF τ18 eτ18
  rw [← eτ18] at hP
  have hN : gN τ18 = gN τ0 := by rw [eτ18]; exact hN
  refine lv_aload_n hx hb dX10_taste_5 rfl (lv_at hl 0 rfl) ?_
  refine lv_iload_n hx hb dX10_taste_6 rfl (lv_at hl 1 rfl) ?_
  refine lv_iconst (v := 1) hx hb dX10_taste_7 (by decide) ?_
  refine va_calli (va_runV (As := [.int x1, .int ((1 : Int32))]) (rest := []) ⟨hx, hb, hml, hown, hts⟩ (mX10_isLot l dC dI ac sa A ad τ18 k0 x1 ((1 : Int32)) _ hF (tw_lt hk0 (congrFun hN 0))) (cwV 2 hts gX10_taste_X10_isLot rfl rfl rfl (by decide +kernel) ⟨Nat.le_of_ble_eq_true rfl, Nat.le_of_ble_eq_true rfl⟩) ⟨BM.blind, tw_recv hK hP (by decide) (tw_lt hk0 (congrFun hN 0)) rfl rfl, fun U hU hW => ⟨rfl, BM.of hP hK hS hA hZ hU hW⟩⟩ rfl rfl hl.1 rfl (lv_room (Nat.le_of_ble_eq_true rfl)) dX10_taste_8 ⟨Nat.le_of_ble_eq_true rfl, Nat.le_of_ble_eq_true rfl⟩) hS (fun q _ h => h) (fun q h => h) (fun r20 τ19 t H locs ht hvm hw hB hz hk hS => ?_)
  obtain ⟨hF, hN9⟩ := hw
  have hP : PM dC dI ac A ad τ19 H := tw_back hB ht
  have hN : gN τ19 = gN τ0 := hN9.trans hN
  refine lv_if_eq (tgt := 28) hx hb dX10_taste_11 (by decide) (fun c21 => ?_) (fun c21 => ?_)
  · have hF := hF.1 c21
    refine lv_iconst (v := 0) hx hb dX10_taste_28 (by decide) ?_
    exact W.iret (v := (0 : Int32)) hx hb hr (fun t ht hW => ⟨⟨((0 : Int32)), τ19, rfl, ⟨hF, hN⟩, tw_at hP ht⟩, hS.F ht⟩) hS.2.2 dX10_taste_29
  · have hF := hF.2 c21
    refine lv_aload_n hx hb dX10_taste_14 rfl (lv_at hl 0 rfl) ?_
    refine lv_iload_n hx hb dX10_taste_15 rfl (lv_at hl 2 rfl) ?_
    refine lv_iconst (v := 0) hx hb dX10_taste_16 (by decide) ?_
    refine lv_iconst (v := 3) hx hb dX10_taste_17 (by decide) ?_
    refine va_calli (va_runS (As := [.int x2, .int ((0 : Int32)), .int ((3 : Int32))]) (rest := [.ref (ad 0 k0)]) ⟨hx, hb, hml, hown, hts⟩ (mX10_within l dC dI ac sa A ad τ19 x2 ((0 : Int32)) ((3 : Int32)) _ hF ) (va_cwS 3 hts gX10_taste_X10_within rfl rfl rfl (by decide +kernel) ⟨Nat.le_of_ble_eq_true rfl, Nat.le_of_ble_eq_true rfl⟩) ⟨BM.blind, fun U hU hW => ⟨rfl, BM.of hP hK hS hA hZ hU hW⟩⟩ rfl rfl hl.1 rfl (lv_room (Nat.le_of_ble_eq_true rfl)) dX10_taste_18 ⟨Nat.le_of_ble_eq_true rfl, Nat.le_of_ble_eq_true rfl⟩) hS (fun q _ h => h) (fun q h => h) (fun r23 τ22 t H locs ht hvm hw hB hz hk hS => ?_)
    obtain ⟨hF, hN9⟩ := hw
    have hP : PM dC dI ac A ad τ22 H := tw_back hB ht
    have hN : gN τ22 = gN τ0 := hN9.trans hN
    refine lv_iconst (v := 2) hx hb dX10_taste_21 (by decide) ?_
    refine va_calli (va_runV (As := [.int r23, .int ((2 : Int32))]) (rest := []) ⟨hx, hb, hml, hown, hts⟩ (mX10_may l dC dI ac sa A ad τ22 k0 r23 ((2 : Int32)) _ hF (tw_lt hk0 (congrFun hN 0))) (cwV 2 hts gX10_taste_X10_may rfl rfl rfl (by decide +kernel) ⟨Nat.le_of_ble_eq_true rfl, Nat.le_of_ble_eq_true rfl⟩) ⟨BM.blind, tw_recv hK hP (by decide) (tw_lt hk0 (congrFun hN 0)) rfl rfl, fun U hU hW => ⟨rfl, BM.of hP hK hS hA hZ hU hW⟩⟩ rfl rfl hl.1 rfl (lv_room (Nat.le_of_ble_eq_true rfl)) dX10_taste_22 ⟨Nat.le_of_ble_eq_true rfl, Nat.le_of_ble_eq_true rfl⟩) hS (fun q _ h => h) (fun q h => h) (fun r25 τ24 t H locs ht hvm hw hB hz hk hS => ?_)
    obtain ⟨hF, hN9⟩ := hw
    have hP : PM dC dI ac A ad τ24 H := tw_back hB ht
    have hN : gN τ24 = gN τ0 := hN9.trans hN
    refine lv_if_ne (tgt := 30) hx hb dX10_taste_25 (by decide) (fun c26 => ?_) (fun c26 => ?_)
    · have hF := hF.1 c26
      refine lv_aload_n hx hb dX10_taste_30 rfl (lv_at hl 0 rfl) ?_
      obtain ⟨o27, eo27, hF⟩ := hF
      have ho27 : o27 < gN τ0 113 := tw_lt (hP.2.2.2 0 k0 13 o27 (by decide) (tw_lt hk0 (congrFun hN 0)) eo27) (congrFun hN 113).symm
      refine tw_get (v := .ref (ad 113 o27)) hx hb hts (by decide +kernel) hown hK hP (by decide) (tw_lt hk0 (congrFun hN 0)) rfl rfl 13 (by decide) (hts (.fieldLink RX10 38 "WineCellarModel" "from" "[I") (by decide +kernel)) (fun _ h9 => h9) (show some (va_rf ((gR τ24 0 k0 13).map (ad 113))) = some (.ref (ad 113 o27)) by rw [eo27]; rfl) dX10_taste_31 ?_
      refine lv_iload_n hx hb dX10_taste_34 rfl (lv_at hl 1 rfl) ?_
      obtain ⟨hi28, hF⟩ := hF
      refine tw_iald hx hb hK hP (by decide) (tw_lt ho27 (congrFun hN 113)) rfl 0 rfl hi28 dX10_taste_35 ?_
      refine lv_topi (fun z29 ez29 => ?_)
      have hF := hF z29 ez29
      refine lv_istore_n (lv' := [(3, .int z29), (0, .ref (ad 0 k0)), (1, .int x1), (2, .int x2)]) hx hb dX10_taste_36 rfl hl (by decide) rfl (fun ls hl => ?_)
      refine lv_aload_n hx hb dX10_taste_37 rfl (lv_at hl 1 rfl) ?_
      obtain ⟨o30, eo30, hF⟩ := hF
      have ho30 : o30 < gN τ0 114 := tw_lt (hP.2.2.2 0 k0 14 o30 (by decide) (tw_lt hk0 (congrFun hN 0)) eo30) (congrFun hN 114).symm
      refine tw_get (v := .ref (ad 114 o30)) hx hb hts (by decide +kernel) hown hK hP (by decide) (tw_lt hk0 (congrFun hN 0)) rfl rfl 14 (by decide) (hts (.fieldLink RX10 41 "WineCellarModel" "until" "[I") (by decide +kernel)) (fun _ h9 => h9) (show some (va_rf ((gR τ24 0 k0 14).map (ad 114))) = some (.ref (ad 114 o30)) by rw [eo30]; rfl) dX10_taste_38 ?_
      refine lv_iload_n hx hb dX10_taste_41 rfl (lv_at hl 2 rfl) ?_
      obtain ⟨hi31, hF⟩ := hF
      refine tw_iald hx hb hK hP (by decide) (tw_lt ho30 (congrFun hN 114)) rfl 0 rfl hi31 dX10_taste_42 ?_
      refine lv_topi (fun z32 ez32 => ?_)
      have hF := hF z32 ez32
      refine lv_istore (lv' := [(4, .int z32), (3, .int z29), (0, .ref (ad 0 k0)), (1, .int x1), (2, .int x2)]) hx hb dX10_taste_43 hl (by decide) rfl (fun ls hl => ?_)
      refine lv_aload_n hx hb dX10_taste_45 rfl (lv_at hl 2 rfl) ?_
      refine va_calli (va_runV (As := []) (rest := []) ⟨hx, hb, hml, hown, hts⟩ (mX10_year l dC dI ac sa A ad τ24 k0 _ hF (tw_lt hk0 (congrFun hN 0))) (cwV 0 hts gX10_taste_X10_year rfl rfl rfl (by decide +kernel) ⟨Nat.le_of_ble_eq_true rfl, Nat.le_of_ble_eq_true rfl⟩) ⟨BM.blind, tw_recv hK hP (by decide) (tw_lt hk0 (congrFun hN 0)) rfl rfl, fun U hU hW => ⟨rfl, BM.of hP hK hS hA hZ hU hW⟩⟩ rfl rfl hl.1 rfl (lv_room (Nat.le_of_ble_eq_true rfl)) dX10_taste_46 ⟨Nat.le_of_ble_eq_true rfl, Nat.le_of_ble_eq_true rfl⟩) hS (fun q _ h => h) (fun q h => h) (fun r34 τ33 t H locs ht hvm hw hB hz hk hS => ?_)
      obtain ⟨hF, hN9⟩ := hw
      have hP : PM dC dI ac A ad τ33 H := tw_back hB ht
      have hN : gN τ33 = gN τ0 := hN9.trans hN
      refine lv_istore (lv' := [(5, .int r34), (4, .int z32), (3, .int z29), (0, .ref (ad 0 k0)), (1, .int x1), (2, .int x2)]) hx hb dX10_taste_49 hl (by decide) rfl (fun ls hl => ?_)
      refine lv_iload_n hx hb dX10_taste_51 rfl (lv_at hl 5 rfl) ?_
      by_cases cd : x2.toInt < 0 ∨ 2 < x2.toInt
      · have hF := hF.1 cd
        refine lv_tableOut (tgt := 167) hx hb dX10_taste_52 cd (by decide) ?_
        refine lv_aload_n hx hb dX10_taste_167 rfl (lv_at hl 3 rfl) ?_
        obtain ⟨o35, eo35, hF⟩ := hF
        have ho35 : o35 < gN τ0 114 := tw_lt (hP.2.2.2 0 k0 14 o35 (by decide) (tw_lt hk0 (congrFun hN 0)) eo35) (congrFun hN 114).symm
        refine tw_get (v := .ref (ad 114 o35)) hx hb hts (by decide +kernel) hown hK hP (by decide) (tw_lt hk0 (congrFun hN 0)) rfl rfl 14 (by decide) (hts (.fieldLink RX10 41 "WineCellarModel" "until" "[I") (by decide +kernel)) (fun _ h9 => h9) (show some (va_rf ((gR τ33 0 k0 14).map (ad 114))) = some (.ref (ad 114 o35)) by rw [eo35]; rfl) dX10_taste_168 ?_
        refine lv_iload_n hx hb dX10_taste_171 rfl (lv_at hl 4 rfl) ?_
        refine lv_iload hx hb dX10_taste_172 (lv_at hl 1 rfl) ?_
        refine lv_iconst (v := 2) hx hb dX10_taste_174 (by decide) ?_
        refine lv_iadd hx hb dX10_taste_175 ?_
        obtain ⟨hi36, hF⟩ := hF
        refine tw_iast hx hb hK hP hS (by decide) (tw_lt ho35 (congrFun hN 114)) rfl 0 rfl hi36 dX10_taste_176 (fun H locs hP hS => ?_)
        obtain ⟨τ37, eτ37⟩ : ∃ y : tw_T, y = sI τ33 114 o35 x1.toNatClampNeg (z32 + ((2 : Int32))) := ⟨_, rfl⟩
        have hF := hF τ37 eτ37
        rw [← eτ37] at hP
        have hN : gN τ37 = gN τ0 := by rw [eτ37]; exact hN
        exact j177 τ37 k0 hk0 x1 z29 z32 _ _ _ hF hP hN hS (lv_sub hl [3, 4, 2, 1] rfl)
      · have hF := hF.2
        rcases (show x2.toInt = 0 ∨ x2.toInt = 1 ∨ x2.toInt = 2 by omega) with e9 | e9 | e9
        · have c9 : x2 = (0 : Int32) := tw_sw e9 rfl
          have hF := hF.1 c9
          refine lv_tableIn (off := 28) (tgt := 80) hx hb dX10_taste_52 (by rw [e9]; decide) (by rw [e9]; decide) (by rw [e9]; rfl) (by decide) ?_
          refine lv_aload_n hx hb dX10_taste_80 rfl (lv_at hl 3 rfl) ?_
          obtain ⟨o38, eo38, hF⟩ := hF
          have ho38 : o38 < gN τ0 113 := tw_lt (hP.2.2.2 0 k0 13 o38 (by decide) (tw_lt hk0 (congrFun hN 0)) eo38) (congrFun hN 113).symm
          refine tw_get (v := .ref (ad 113 o38)) hx hb hts (by decide +kernel) hown hK hP (by decide) (tw_lt hk0 (congrFun hN 0)) rfl rfl 13 (by decide) (hts (.fieldLink RX10 38 "WineCellarModel" "from" "[I") (by decide +kernel)) (fun _ h9 => h9) (show some (va_rf ((gR τ33 0 k0 13).map (ad 113))) = some (.ref (ad 113 o38)) by rw [eo38]; rfl) dX10_taste_81 ?_
          refine lv_iload_n hx hb dX10_taste_84 rfl (lv_at hl 4 rfl) ?_
          refine lv_iload_n hx hb dX10_taste_85 rfl (lv_at hl 2 rfl) ?_
          refine lv_iload hx hb dX10_taste_86 (lv_at hl 1 rfl) ?_
          refine lv_icmp_ge (tgt := 97) hx hb dX10_taste_88 (by decide) (fun c39 => ?_) (fun c39 => ?_)
          · have hF := hF.1 c39
            refine lv_iload_n hx hb dX10_taste_97 rfl (lv_at hl 2 rfl) ?_
            exact j98 τ33 k0 hk0 x1 z29 z32 z29 x1 o38 ho38 _ _ _ hF hP hN hS (lv_sub hl [3, 4, 2, 1] rfl)
          · have hF := hF.2 c39
            refine lv_iload_n hx hb dX10_taste_91 rfl (lv_at hl 2 rfl) ?_
            refine lv_iconst (v := 1) hx hb dX10_taste_92 (by decide) ?_
            refine lv_iadd hx hb dX10_taste_93 ?_
            refine lv_goto (tgt := 98) hx hb dX10_taste_94 (by decide) ?_
            exact j98 τ33 k0 hk0 x1 z29 z32 (z29 + ((1 : Int32))) x1 o38 ho38 _ _ _ hF hP hN hS (lv_sub hl [3, 4, 2, 1] rfl)
        · have c9 : x2 = (1 : Int32) := tw_sw e9 rfl
          have hF := hF.2.1 c9
          refine lv_tableIn (off := 50) (tgt := 102) hx hb dX10_taste_52 (by rw [e9]; decide) (by rw [e9]; decide) (by rw [e9]; rfl) (by decide) ?_
          refine lv_aload_n hx hb dX10_taste_102 rfl (lv_at hl 3 rfl) ?_
          obtain ⟨o40, eo40, hF⟩ := hF
          have ho40 : o40 < gN τ0 113 := tw_lt (hP.2.2.2 0 k0 13 o40 (by decide) (tw_lt hk0 (congrFun hN 0)) eo40) (congrFun hN 113).symm
          refine tw_get (v := .ref (ad 113 o40)) hx hb hts (by decide +kernel) hown hK hP (by decide) (tw_lt hk0 (congrFun hN 0)) rfl rfl 13 (by decide) (hts (.fieldLink RX10 38 "WineCellarModel" "from" "[I") (by decide +kernel)) (fun _ h9 => h9) (show some (va_rf ((gR τ33 0 k0 13).map (ad 113))) = some (.ref (ad 113 o40)) by rw [eo40]; rfl) dX10_taste_103 ?_
          refine lv_iload_n hx hb dX10_taste_106 rfl (lv_at hl 4 rfl) ?_
          refine lv_iload_n hx hb dX10_taste_107 rfl (lv_at hl 2 rfl) ?_
          refine lv_iload hx hb dX10_taste_108 (lv_at hl 0 rfl) ?_
          refine lv_icmp_le (tgt := 118) hx hb dX10_taste_110 (by decide) (fun c41 => ?_) (fun c41 => ?_)
          · have hF := hF.1 c41
            refine lv_iload_n hx hb dX10_taste_118 rfl (lv_at hl 2 rfl) ?_
            exact j119 τ33 k0 hk0 x1 z29 z32 z29 x1 o40 ho40 _ _ _ hF hP hN hS (lv_sub hl [3, 4, 2, 1] rfl)
          · have hF := hF.2 c41
            refine lv_iload hx hb dX10_taste_113 (lv_at hl 0 rfl) ?_
            refine lv_goto (tgt := 119) hx hb dX10_taste_115 (by decide) ?_
            exact j119 τ33 k0 hk0 x1 z29 z32 r34 x1 o40 ho40 _ _ _ hF hP hN hS (lv_sub hl [3, 4, 2, 1] rfl)
        · have c9 : x2 = (2 : Int32) := tw_sw e9 rfl
          have hF := hF.2.2 c9
          refine lv_tableIn (off := 71) (tgt := 123) hx hb dX10_taste_52 (by rw [e9]; decide) (by rw [e9]; decide) (by rw [e9]; rfl) (by decide) ?_
          refine lv_aload_n hx hb dX10_taste_123 rfl (lv_at hl 3 rfl) ?_
          obtain ⟨o42, eo42, hF⟩ := hF
          have ho42 : o42 < gN τ0 114 := tw_lt (hP.2.2.2 0 k0 14 o42 (by decide) (tw_lt hk0 (congrFun hN 0)) eo42) (congrFun hN 114).symm
          refine tw_get (v := .ref (ad 114 o42)) hx hb hts (by decide +kernel) hown hK hP (by decide) (tw_lt hk0 (congrFun hN 0)) rfl rfl 14 (by decide) (hts (.fieldLink RX10 41 "WineCellarModel" "until" "[I") (by decide +kernel)) (fun _ h9 => h9) (show some (va_rf ((gR τ33 0 k0 14).map (ad 114))) = some (.ref (ad 114 o42)) by rw [eo42]; rfl) dX10_taste_124 ?_
          refine lv_iload_n hx hb dX10_taste_127 rfl (lv_at hl 4 rfl) ?_
          refine lv_iload hx hb dX10_taste_128 (lv_at hl 1 rfl) ?_
          refine lv_iload hx hb dX10_taste_130 (lv_at hl 0 rfl) ?_
          refine lv_icmp_le (tgt := 140) hx hb dX10_taste_132 (by decide) (fun c43 => ?_) (fun c43 => ?_)
          · have hF := hF.1 c43
            refine lv_iload hx hb dX10_taste_140 (lv_at hl 1 rfl) ?_
            exact j142 τ33 k0 hk0 x1 z29 z32 r34 z32 x1 o42 ho42 _ _ _ hF hP hN hS (lv_sub hl [3, 4, 2, 1, 0] rfl)
          · have hF := hF.2 c43
            refine lv_iload hx hb dX10_taste_135 (lv_at hl 0 rfl) ?_
            refine lv_goto (tgt := 142) hx hb dX10_taste_137 (by decide) ?_
            exact j142 τ33 k0 hk0 x1 z29 z32 r34 r34 x1 o42 ho42 _ _ _ hF hP hN hS (lv_sub hl [3, 4, 2, 1, 0] rfl)
    · have hF := hF.2 c26
      refine lv_iconst (v := 0) hx hb dX10_taste_28 (by decide) ?_
      exact W.iret (v := (0 : Int32)) hx hb hr (fun t ht hW => ⟨⟨((0 : Int32)), τ24, rfl, ⟨hF, hN⟩, tw_at hP ht⟩, hS.F ht⟩) hS.2.2 dX10_taste_29
def F_X10_isCell (τ0 : tw_T) (k0 : Nat) (x1 : Int32) (Q : Int32 → tw_T → Prop) : Prop := F_X10_within τ0 x1 ((0 : Int32)) ((29 : Int32)) (fun (r2 : Int32) (τ1 : tw_T) => (F_X10_may τ1 k0 r2 ((1 : Int32)) (fun (r4 : Int32) (τ3 : tw_T) => (tw_b r4 ∧ (Q r4 τ3)))))
def rmX10_isCell : Room := { frames := 1, cells := 0, slots := 0, locals := 22 }
set_option maxHeartbeats 4000000 in
set_option maxRecDepth 100000 in
theorem mX10_isCell (l : Launch) (dC : Nat → ClassId) (dI : Nat → Nat → Nat) (ac : Nat → ClassId) (sa : Nat → Nat) (A : Nat → Prop) (ad : Nat → Nat → Nat) (τ0 : tw_T) (k0 : Nat) (x1 : Int32) (Q : Int32 → tw_T → Prop) (hF : F_X10_isCell τ0 k0 x1 Q) (hk0 : k0 < gN τ0 0) : Met l yX10_isCell wsX10_isCell rmX10_isCell (va_Pc [.ref (ad 0 k0), .int x1] (BM dC dI ac sa A ad τ0)) (va_Qi (fun r (u : tw_T) => Q r u ∧ gN u = gN τ0) (fun u t => PM dC dI ac A ad u t.heap) A) 0 0 A := by
  refine Met.ofW (cc := cX10_isCell) (maxL := 2) (ret := (some .boolean)) (by decide) rfl ?_
  intro p e s m args below meth c s₁ B hml hv
  obtain ⟨rfl, hP, hK, hA, hZ⟩ := hv
  have hx := B.exec
  have hb := B.bytes
  have hr := B.returns
  have hts := atoms_spec (ws := wsX10_isCell) B.pre
  have hown : s.vm.findClass RX10 = some m.cls := findClass_of_methodNamed B.named
  have hlocks := B.notSynchronized
  have hS : va_S A s.heap s.heap [] := va_S.rf
  have hN : gN τ0 = gN τ0 := rfl
  have hl := lv_entry ([.ref (ad 0 k0), .int x1]) (n := 2) (Nat.le_of_ble_eq_true rfl)
  rw [lg_entry_eq]
  generalize (lg_sl ([.ref (ad 0 k0), .int x1]) ++ List.replicate (2 - (lg_sl ([.ref (ad 0 k0), .int x1])).length) Slot.unset).toArray = ls at hl ⊢
  have hl : lv_has ls 2 [(0, .ref (ad 0 k0)), (1, .int x1)] := hl
  unfold F_X10_isCell at hF
  refine lv_aload_n hx hb dX10_isCell_0 rfl (lv_at hl 0 rfl) ?_
  refine lv_iload_n hx hb dX10_isCell_1 rfl (lv_at hl 1 rfl) ?_
  refine lv_iconst (v := 0) hx hb dX10_isCell_2 (by decide) ?_
  refine lv_bipush (v := 29) hx hb dX10_isCell_3 (by decide) ?_
  refine va_calli (va_runS (As := [.int x1, .int ((0 : Int32)), .int ((29 : Int32))]) (rest := [.ref (ad 0 k0)]) ⟨hx, hb, hml, hown, hts⟩ (mX10_within l dC dI ac sa A ad τ0 x1 ((0 : Int32)) ((29 : Int32)) _ hF ) (va_cwS 3 hts gX10_isCell_X10_within rfl rfl rfl (by decide +kernel) ⟨Nat.le_of_ble_eq_true rfl, Nat.le_of_ble_eq_true rfl⟩) ⟨BM.blind, fun U hU hW => ⟨rfl, BM.of hP hK hS hA hZ hU hW⟩⟩ rfl rfl hl.1 rfl (lv_room (Nat.le_of_ble_eq_true rfl)) dX10_isCell_5 ⟨Nat.le_of_ble_eq_true rfl, Nat.le_of_ble_eq_true rfl⟩) hS (fun q _ h => h) (fun q h => h) (fun r2 τ1 t H locs ht hvm hw hB hz hk hS => ?_)
  obtain ⟨hF, hN9⟩ := hw
  have hP : PM dC dI ac A ad τ1 H := tw_back hB ht
  have hN : gN τ1 = gN τ0 := hN9.trans hN
  refine lv_iconst (v := 1) hx hb dX10_isCell_8 (by decide) ?_
  refine va_calli (va_runV (As := [.int r2, .int ((1 : Int32))]) (rest := []) ⟨hx, hb, hml, hown, hts⟩ (mX10_may l dC dI ac sa A ad τ1 k0 r2 ((1 : Int32)) _ hF (tw_lt hk0 (congrFun hN 0))) (cwV 2 hts gX10_isCell_X10_may rfl rfl rfl (by decide +kernel) ⟨Nat.le_of_ble_eq_true rfl, Nat.le_of_ble_eq_true rfl⟩) ⟨BM.blind, tw_recv hK hP (by decide) (tw_lt hk0 (congrFun hN 0)) rfl rfl, fun U hU hW => ⟨rfl, BM.of hP hK hS hA hZ hU hW⟩⟩ rfl rfl hl.1 rfl (lv_room (Nat.le_of_ble_eq_true rfl)) dX10_isCell_9 ⟨Nat.le_of_ble_eq_true rfl, Nat.le_of_ble_eq_true rfl⟩) hS (fun q _ h => h) (fun q h => h) (fun r4 τ3 t H locs ht hvm hw hB hz hk hS => ?_)
  obtain ⟨hF, hN9⟩ := hw
  have hP : PM dC dI ac A ad τ3 H := tw_back hB ht
  have hN : gN τ3 = gN τ0 := hN9.trans hN
  obtain ⟨hb9, hF⟩ := hF
  exact W.zret (v := r4) (ty := .boolean) hx hb hr (tw_bn hb9) (fun t ht hW => ⟨⟨r4, τ3, rfl, ⟨hF, hN⟩, tw_at hP ht⟩, hS.F ht⟩) hS.2.2 dX10_isCell_12
