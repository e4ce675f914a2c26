def F_L_kind (τ0 : tw_T) (k0 : Nat) (x1 : Int32) (x2 : Int32) (x3 : Int32) (x4 : Int32) (x5 : Int32) (v0 : Int64) (Q : Int32 → Int64 → tw_T → Prop) : Prop := F_X9_kind τ0 k0 x1 x2 x3 x4 x5 (fun r τ => Q 0 r.toInt64 τ) (fun c τ => (c = 0 ∧ Q 1 v0 τ))
def rmL_kind : Room := { frames := 7, cells := 1, slots := 6, locals := 107 }
set_option maxHeartbeats 4000000 in
set_option maxRecDepth 100000 in
theorem mL_kind (l : Launch) (hlt : l.stackTraces = false) (dC : Nat → ClassId) (dI : Nat → Nat → Nat) (ac : Nat → ClassId) (sa : Nat → Nat) (A : Nat → Prop) (ad : Nat → Nat → Nat) (o : Nat) (τ0 : tw_T) (k0 : Nat) (x1 : Int32) (x2 : Int32) (x3 : Int32) (x4 : Int32) (x5 : Int32) (v0 : Int64) (Q : Int32 → Int64 → tw_T → Prop) (hF : F_L_kind τ0 k0 x1 x2 x3 x4 x5 v0 Q) (hk0 : k0 < gN τ0 0) : vx_Met l yL_kind wsL_kind rmL_kind (va_Pc [.ref (ad 0 k0), .int x1, .int x2, .int x3, .int x4, .int x5, .ref o] (BW dC dI ac sa A ad o τ0 v0)) (va_Qi (fun r (u : tw_T × (Nat → Nat → Nat) × Int64) => Q r u.2.2 u.1 ∧ tw_le τ0 ad u.1 u.2.1) (fun u t => PX dC dI ac A u.2.1 u.1 t.heap ∧ OutAt ac o u.2.2 t.heap) (fun q => A q ∨ q = o)) (vx_X (fun (_ : Unit) => False) (fun _ _ _ => True) (fun _ => False)) 1 6 (fun q => A q ∨ q = o) := by
  refine vx_ofWH (cc := cL_kind) (maxL := 8) (ret := (some .int)) (hh := [(0, 16, 19, 13)]) (by decide) rfl ?_
  intro p e s m args below meth c s₁ B hml hv
  obtain ⟨rfl, ⟨hP, hK, hA, hZ⟩, hO, hoA, hZL⟩ := hv
  have hx := B.exec
  have hb := B.bytes
  have hr := B.returns
  have hts := atoms_spec (ws := wsL_kind) B.pre
  have htb := vx_table (x := yL_kind) B (hts _ List.mem_cons_self)
  have hown : s.vm.findClass RL = some m.cls := findClass_of_methodNamed B.named
  have hlocks := B.notSynchronized
  have hol := hO.lt
  have hS : va_S (fun q => A q ∨ q = o) s.heap s.heap [] := va_S.rf
  have hS0 : va_S A s.heap s.heap [] := va_S.rf
  have hl := lv_entry ([.ref (ad 0 k0), .int x1, .int x2, .int x3, .int x4, .int x5, .ref o]) (n := 8) (Nat.le_of_ble_eq_true rfl)
  rw [lg_entry_eq]
  generalize (lg_sl ([.ref (ad 0 k0), .int x1, .int x2, .int x3, .int x4, .int x5, .ref o]) ++ List.replicate (8 - (lg_sl ([.ref (ad 0 k0), .int x1, .int x2, .int x3, .int x4, .int x5, .ref o])).length) Slot.unset).toArray = ls at hl ⊢
  have hl : lv_has ls 8 [(0, .ref (ad 0 k0)), (1, .int x1), (2, .int x2), (3, .int x3), (4, .int x4), (5, .int x5), (6, .ref o)] := hl
  unfold F_L_kind at hF
  refine lv_aload hx hb dL_kind_0 (lv_at hl 6 rfl) ?_
  refine lv_iconst (v := 0) hx hb dL_kind_2 (by decide) ?_
  refine lv_aload_n hx hb dL_kind_3 rfl (lv_at hl 0 rfl) ?_
  refine lv_iload_n hx hb dL_kind_4 rfl (lv_at hl 1 rfl) ?_
  refine lv_iload_n hx hb dL_kind_5 rfl (lv_at hl 2 rfl) ?_
  refine lv_iload_n hx hb dL_kind_6 rfl (lv_at hl 3 rfl) ?_
  refine lv_iload hx hb dL_kind_7 (lv_at hl 4 rfl) ?_
  refine lv_iload hx hb dL_kind_9 (lv_at hl 5 rfl) ?_
  refine vx_calli (vx_runV (As := [.int x1, .int x2, .int x3, .int x4, .int x5]) (rest := [.int 0, .ref o]) ⟨hx, hb, hml, hown, hts⟩ (mX9_kind l hlt dC dI ac sa A ad τ0 k0 x1 x2 x3 x4 x5 _ _ hF hk0) (cwV 5 hts gL_kind_X9_kind rfl rfl rfl (by decide +kernel) ⟨Nat.le_of_ble_eq_true rfl, Nat.le_of_ble_eq_true rfl⟩) ⟨BX.blind, tw_recv hK hP (by decide) hk0 rfl rfl, fun U hU hW => ⟨rfl, BX.of hP hK hS0 hA hZ hU hW⟩⟩ rfl rfl hl.1 rfl (lv_room (Nat.le_of_ble_eq_true rfl)) dL_kind_11 ⟨Nat.le_of_ble_eq_true rfl, Nat.le_of_ble_eq_true rfl⟩) hS (fun q _ h => Or.inl h) (fun q h => Or.inl h) (fun q _ h => Or.inl h) (fun E9 ce9 q9 u9 t9 H locs ht hvm hpx hBX hz9 hk9 hS hce hcv hcl => ?_) (fun r1 u1 t H locs ht hvm hw hB hz hk hS => ?_)
  · obtain ⟨ec9, τ9, ad9⟩ := u9
    obtain ⟨hF9, hN9⟩ := hpx
    obtain ⟨rfl, hP9⟩ := hBX
    have hP9 := tw_back hP9 ht
    have hO9 : OutAt ac o v0 H := hO.kept (hk9 o hol hoA)
    obtain ⟨rfl, hF9⟩ := hF9
    refine vx_catch (name := "java/lang/IllegalArgumentException") hown [] ⟨0, 16, 19, 13⟩ [] (by rw [htb]; rfl) (by intro z hz; cases hz) (by decide) (by decide) (hts (.classLink RL 13 "java/lang/IllegalArgumentException") (by decide +kernel)) (va_Nw.use rfl hZ.2.2.2.2.2.2.2.2.1) hce hcv hcl ?_
    refine lv_astore (lv' := [(7, .ref q9), (0, .ref (ad 0 k0)), (1, .int x1), (2, .int x2), (3, .int x3), (4, .int x4), (5, .int x5), (6, .ref o)]) hx hb dL_kind_19 hl (by decide) rfl (fun ls hl => ?_)
    refine lv_iconst (v := 1) hx hb dL_kind_21 (by decide) ?_
    exact vx_ret (W.iret (v := 1) hx hb hr (fun t ht hW => ⟨⟨1, (τ9, ad9, v0), rfl, ⟨hF9, hN9⟩, tw_at hP9 ht, hO9.at ht⟩, hS.F ht⟩) hS.2.2 dL_kind_22)
  · obtain ⟨hF, hN9⟩ := hw
    obtain ⟨τ1, ad1⟩ := u1
    try dsimp only at hF hN9 hB
    have hP := tw_back hB ht
    have hO1 : OutAt ac o v0 H := hO.kept (hk o hol hoA)
    refine lv_i2l (v := r1.toInt64) hx hb dL_kind_14 rfl ?_
    refine wr_last hx hb hK hP hO1 hoA hS dL_kind_15 (fun H locs hP hO hS => ?_)
    refine lv_goto (tgt := 23) hx hb dL_kind_16 (by decide) ?_
    refine lv_iconst (v := 0) hx hb dL_kind_23 (by decide) ?_
    exact vx_ret (W.iret (v := 0) hx hb hr (fun t ht hW => ⟨⟨0, (τ1, ad1, r1.toInt64), rfl, ⟨hF, hN9⟩, tw_at hP ht, hO.at ht⟩, hS.F ht⟩) hS.2.2 dL_kind_24)
def F_L_lot (τ0 : tw_T) (k0 : Nat) (x1 : Int32) (x2 : Int32) (x3 : Int32) (v0 : Int64) (Q : Int32 → Int64 → tw_T → Prop) : Prop := F_X9_lot τ0 k0 x1 x2 x3 (fun r τ => Q 0 r.toInt64 τ) (fun c τ => (c = 1 ∧ Q 1 v0 τ) ∨ (c = 0 ∧ Q 2 v0 τ))
def rmL_lot : Room := { frames := 7, cells := 1, slots := 8, locals := 105 }
set_option maxHeartbeats 4000000 in
set_option maxRecDepth 100000 in
theorem mL_lot (l : Launch) (hlt : l.stackTraces = false) (dC : Nat → ClassId) (dI : Nat → Nat → Nat) (ac : Nat → ClassId) (sa : Nat → Nat) (A : Nat → Prop) (ad : Nat → Nat → Nat) (o : Nat) (τ0 : tw_T) (k0 : Nat) (x1 : Int32) (x2 : Int32) (x3 : Int32) (v0 : Int64) (Q : Int32 → Int64 → tw_T → Prop) (hF : F_L_lot τ0 k0 x1 x2 x3 v0 Q) (hk0 : k0 < gN τ0 0) : vx_Met l yL_lot wsL_lot rmL_lot (va_Pc [.ref (ad 0 k0), .int x1, .int x2, .int x3, .ref o] (BW dC dI ac sa A ad o τ0 v0)) (va_Qi (fun r (u : tw_T × (Nat → Nat → Nat) × Int64) => Q r u.2.2 u.1 ∧ tw_le τ0 ad u.1 u.2.1) (fun u t => PX dC dI ac A u.2.1 u.1 t.heap ∧ OutAt ac o u.2.2 t.heap) (fun q => A q ∨ q = o)) (vx_X (fun (_ : Unit) => False) (fun _ _ _ => True) (fun _ => False)) 1 8 (fun q => A q ∨ q = o) := by
  refine vx_ofWH (cc := cL_lot) (maxL := 6) (ret := (some .int)) (hh := [(0, 12, 15, 19), (0, 12, 19, 13)]) (by decide) rfl ?_
  intro p e s m args below meth c s₁ B hml hv
  obtain ⟨rfl, ⟨hP, hK, hA, hZ⟩, hO, hoA, hZL⟩ := hv
  have hx := B.exec
  have hb := B.bytes
  have hr := B.returns
  have hts := atoms_spec (ws := wsL_lot) B.pre
  have htb := vx_table (x := yL_lot) B (hts _ List.mem_cons_self)
  have hown : s.vm.findClass RL = some m.cls := findClass_of_methodNamed B.named
  have hlocks := B.notSynchronized
  have hol := hO.lt
  have hS : va_S (fun q => A q ∨ q = o) s.heap s.heap [] := va_S.rf
  have hS0 : va_S A s.heap s.heap [] := va_S.rf
  have hl := lv_entry ([.ref (ad 0 k0), .int x1, .int x2, .int x3, .ref o]) (n := 6) (Nat.le_of_ble_eq_true rfl)
  rw [lg_entry_eq]
  generalize (lg_sl ([.ref (ad 0 k0), .int x1, .int x2, .int x3, .ref o]) ++ List.replicate (6 - (lg_sl ([.ref (ad 0 k0), .int x1, .int x2, .int x3, .ref o])).length) Slot.unset).toArray = ls at hl ⊢
  have hl : lv_has ls 6 [(0, .ref (ad 0 k0)), (1, .int x1), (2, .int x2), (3, .int x3), (4, .ref o)] := hl
  unfold F_L_lot at hF
  refine lv_aload hx hb dL_lot_0 (lv_at hl 4 rfl) ?_
  refine lv_iconst (v := 0) hx hb dL_lot_2 (by decide) ?_
  refine lv_aload_n hx hb dL_lot_3 rfl (lv_at hl 0 rfl) ?_
  refine lv_iload_n hx hb dL_lot_4 rfl (lv_at hl 1 rfl) ?_
  refine lv_iload_n hx hb dL_lot_5 rfl (lv_at hl 2 rfl) ?_
  refine lv_iload_n hx hb dL_lot_6 rfl (lv_at hl 3 rfl) ?_
  refine vx_calli (vx_runV (As := [.int x1, .int x2, .int x3]) (rest := [.int 0, .ref o]) ⟨hx, hb, hml, hown, hts⟩ (mX9_lot l hlt dC dI ac sa A ad τ0 k0 x1 x2 x3 _ _ hF hk0) (cwV 3 hts gL_lot_X9_lot rfl rfl rfl (by decide +kernel) ⟨Nat.le_of_ble_eq_true rfl, Nat.le_of_ble_eq_true rfl⟩) ⟨BX.blind, tw_recv hK hP (by decide) hk0 rfl rfl, fun U hU hW => ⟨rfl, BX.of hP hK hS0 hA hZ hU hW⟩⟩ rfl rfl hl.1 rfl (lv_room (Nat.le_of_ble_eq_true rfl)) dL_lot_7 ⟨Nat.le_of_ble_eq_true rfl, Nat.le_of_ble_eq_true rfl⟩) hS (fun q _ h => Or.inl h) (fun q h => Or.inl h) (fun q _ h => Or.inl h) (fun E9 ce9 q9 u9 t9 H locs ht hvm hpx hBX hz9 hk9 hS hce hcv hcl => ?_) (fun r1 u1 t H locs ht hvm hw hB hz hk hS => ?_)
  · obtain ⟨ec9, τ9, ad9⟩ := u9
    obtain ⟨hF9, hN9⟩ := hpx
    obtain ⟨rfl, hP9⟩ := hBX
    have hP9 := tw_back hP9 ht
    have hO9 : OutAt ac o v0 H := hO.kept (hk9 o hol hoA)
    rcases hF9 with ⟨rfl, hF9⟩ | ⟨rfl, hF9⟩
    · refine vx_catch (name := "java/lang/IndexOutOfBoundsException") hown [] ⟨0, 12, 15, 19⟩ [⟨0, 12, 19, 13⟩] (by rw [htb]; rfl) (by intro z hz; cases hz) (by decide) (by decide) (hts (.classLink RL 19 "java/lang/IndexOutOfBoundsException") (by decide +kernel)) (va_Nw.use rfl hZ.2.2.2.2.2.2.2.2.2.1) hce hcv hcl ?_
      refine lv_astore (lv' := [(5, .ref q9), (0, .ref (ad 0 k0)), (1, .int x1), (2, .int x2), (3, .int x3), (4, .ref o)]) hx hb dL_lot_15 hl (by decide) rfl (fun ls hl => ?_)
      refine lv_iconst (v := 1) hx hb dL_lot_17 (by decide) ?_
      exact vx_ret (W.iret (v := 1) hx hb hr (fun t ht hW => ⟨⟨1, (τ9, ad9, v0), rfl, ⟨hF9, hN9⟩, tw_at hP9 ht, hO9.at ht⟩, hS.F ht⟩) hS.2.2 dL_lot_18)
    · refine vx_catch (name := "java/lang/IllegalArgumentException") hown [⟨0, 12, 15, 19⟩] ⟨0, 12, 19, 13⟩ [] (by rw [htb]; rfl) (fun z hz => (List.mem_cons.mp hz).elim (fun ez => by subst ez; exact Or.inr ⟨by decide, "java/lang/IndexOutOfBoundsException", hts (.classLink RL 19 "java/lang/IndexOutOfBoundsException") (by decide +kernel), hZL 0 1 (by decide) (by decide) (by decide)⟩) (fun hz => by cases hz)) (by decide) (by decide) (hts (.classLink RL 13 "java/lang/IllegalArgumentException") (by decide +kernel)) (va_Nw.use rfl hZ.2.2.2.2.2.2.2.2.1) hce hcv hcl ?_
      refine lv_astore (lv' := [(5, .ref q9), (0, .ref (ad 0 k0)), (1, .int x1), (2, .int x2), (3, .int x3), (4, .ref o)]) hx hb dL_lot_19 hl (by decide) rfl (fun ls hl => ?_)
      refine lv_iconst (v := 2) hx hb dL_lot_21 (by decide) ?_
      exact vx_ret (W.iret (v := 2) hx hb hr (fun t ht hW => ⟨⟨2, (τ9, ad9, v0), rfl, ⟨hF9, hN9⟩, tw_at hP9 ht, hO9.at ht⟩, hS.F ht⟩) hS.2.2 dL_lot_22)
  · obtain ⟨hF, hN9⟩ := hw
    obtain ⟨τ1, ad1⟩ := u1
    try dsimp only at hF hN9 hB
    have hP := tw_back hB ht
    have hO1 : OutAt ac o v0 H := hO.kept (hk o hol hoA)
    refine lv_i2l (v := r1.toInt64) hx hb dL_lot_10 rfl ?_
    refine wr_last hx hb hK hP hO1 hoA hS dL_lot_11 (fun H locs hP hO hS => ?_)
    refine lv_goto (tgt := 23) hx hb dL_lot_12 (by decide) ?_
    refine lv_iconst (v := 0) hx hb dL_lot_23 (by decide) ?_
    exact vx_ret (W.iret (v := 0) hx hb hr (fun t ht hW => ⟨⟨0, (τ1, ad1, r1.toInt64), rfl, ⟨hF, hN9⟩, tw_at hP ht, hO.at ht⟩, hS.F ht⟩) hS.2.2 dL_lot_24)
def F_L_told (τ0 : tw_T) (k0 : Nat) (x1 : Int32) (x2 : Int32) (v0 : Int64) (Q : Int32 → Int64 → tw_T → Prop) : Prop := F_X9_told τ0 k0 x1 x2 (fun r τ => Q 0 r.toInt64 τ) (fun c τ => (c = 1 ∧ Q 1 v0 τ) ∨ (c = 0 ∧ Q 2 v0 τ))
def rmL_told : Room := { frames := 8, cells := 2, slots := 12, locals := 126 }
set_option maxHeartbeats 4000000 in
set_option maxRecDepth 100000 in
theorem mL_told (l : Launch) (hlt : l.stackTraces = false) (dC : Nat → ClassId) (dI : Nat → Nat → Nat) (ac : Nat → ClassId) (sa : Nat → Nat) (A : Nat → Prop) (ad : Nat → Nat → Nat) (o : Nat) (τ0 : tw_T) (k0 : Nat) (x1 : Int32) (x2 : Int32) (v0 : Int64) (Q : Int32 → Int64 → tw_T → Prop) (hF : F_L_told τ0 k0 x1 x2 v0 Q) (hk0 : k0 < gN τ0 0) : vx_Met l yL_told wsL_told rmL_told (va_Pc [.ref (ad 0 k0), .int x1, .int x2, .ref o] (BW dC dI ac sa A ad o τ0 v0)) (va_Qi (fun r (u : tw_T × (Nat → Nat → Nat) × Int64) => Q r u.2.2 u.1 ∧ tw_le τ0 ad u.1 u.2.1) (fun u t => PX dC dI ac A u.2.1 u.1 t.heap ∧ OutAt ac o u.2.2 t.heap) (fun q => A q ∨ q = o)) (vx_X (fun (_ : Unit) => False) (fun _ _ _ => True) (fun _ => False)) 2 12 (fun q => A q ∨ q = o) := by
  refine vx_ofWH (cc := cL_told) (maxL := 5) (ret := (some .int)) (hh := [(0, 10, 13, 19), (0, 10, 17, 13)]) (by decide) rfl ?_
  intro p e s m args below meth c s₁ B hml hv
  obtain ⟨rfl, ⟨hP, hK, hA, hZ⟩, hO, hoA, hZL⟩ := hv
  have hx := B.exec
  have hb := B.bytes
  have hr := B.returns
  have hts := atoms_spec (ws := wsL_told) B.pre
  have htb := vx_table (x := yL_told) B (hts _ List.mem_cons_self)
  have hown : s.vm.findClass RL = some m.cls := findClass_of_methodNamed B.named
  have hlocks := B.notSynchronized
  have hol := hO.lt
  have hS : va_S (fun q => A q ∨ q = o) s.heap s.heap [] := va_S.rf
  have hS0 : va_S A s.heap s.heap [] := va_S.rf
  have hl := lv_entry ([.ref (ad 0 k0), .int x1, .int x2, .ref o]) (n := 5) (Nat.le_of_ble_eq_true rfl)
  rw [lg_entry_eq]
  generalize (lg_sl ([.ref (ad 0 k0), .int x1, .int x2, .ref o]) ++ List.replicate (5 - (lg_sl ([.ref (ad 0 k0), .int x1, .int x2, .ref o])).length) Slot.unset).toArray = ls at hl ⊢
  have hl : lv_has ls 5 [(0, .ref (ad 0 k0)), (1, .int x1), (2, .int x2), (3, .ref o)] := hl
  unfold F_L_told at hF
  refine lv_aload_n hx hb dL_told_0 rfl (lv_at hl 3 rfl) ?_
  refine lv_iconst (v := 0) hx hb dL_told_1 (by decide) ?_
  refine lv_aload_n hx hb dL_told_2 rfl (lv_at hl 0 rfl) ?_
  refine lv_iload_n hx hb dL_told_3 rfl (lv_at hl 1 rfl) ?_
  refine lv_iload_n hx hb dL_told_4 rfl (lv_at hl 2 rfl) ?_
  refine vx_calli (vx_runV (As := [.int x1, .int x2]) (rest := [.int 0, .ref o]) ⟨hx, hb, hml, hown, hts⟩ (mX9_told l hlt dC dI ac sa A ad τ0 k0 x1 x2 _ _ hF hk0) (cwV 2 hts gL_told_X9_told rfl rfl rfl (by decide +kernel) ⟨Nat.le_of_ble_eq_true rfl, Nat.le_of_ble_eq_true rfl⟩) ⟨BX.blind, tw_recv hK hP (by decide) hk0 rfl rfl, fun U hU hW => ⟨rfl, BX.of hP hK hS0 hA hZ hU hW⟩⟩ rfl rfl hl.1 rfl (lv_room (Nat.le_of_ble_eq_true rfl)) dL_told_5 ⟨Nat.le_of_ble_eq_true rfl, Nat.le_of_ble_eq_true rfl⟩) hS (fun q _ h => Or.inl h) (fun q h => Or.inl h) (fun q _ h => Or.inl h) (fun E9 ce9 q9 u9 t9 H locs ht hvm hpx hBX hz9 hk9 hS hce hcv hcl => ?_) (fun r1 u1 t H locs ht hvm hw hB hz hk hS => ?_)
  · obtain ⟨ec9, τ9⟩ := u9
    obtain ⟨hF9, hN9⟩ := hpx
    obtain ⟨rfl, hP9⟩ := hBX
    have hP9 := tw_back hP9 ht
    have hO9 : OutAt ac o v0 H := hO.kept (hk9 o hol hoA)
    rcases hF9 with ⟨rfl, hF9⟩ | ⟨rfl, hF9⟩
    · refine vx_catch (name := "java/lang/IndexOutOfBoundsException") hown [] ⟨0, 10, 13, 19⟩ [⟨0, 10, 17, 13⟩] (by rw [htb]; rfl) (by intro z hz; cases hz) (by decide) (by decide) (hts (.classLink RL 19 "java/lang/IndexOutOfBoundsException") (by decide +kernel)) (va_Nw.use rfl hZ.2.2.2.2.2.2.2.2.2.1) hce hcv hcl ?_
      refine lv_astore (lv' := [(4, .ref q9), (0, .ref (ad 0 k0)), (1, .int x1), (2, .int x2), (3, .ref o)]) hx hb dL_told_13 hl (by decide) rfl (fun ls hl => ?_)
      refine lv_iconst (v := 1) hx hb dL_told_15 (by decide) ?_
      exact vx_ret (W.iret (v := 1) hx hb hr (fun t ht hW => ⟨⟨1, (τ9, ad, v0), rfl, ⟨hF9, tw_le.rf.same hN9⟩, tw_at hP9 ht, hO9.at ht⟩, hS.F ht⟩) hS.2.2 dL_told_16)
    · refine vx_catch (name := "java/lang/IllegalArgumentException") hown [⟨0, 10, 13, 19⟩] ⟨0, 10, 17, 13⟩ [] (by rw [htb]; rfl) (fun z hz => (List.mem_cons.mp hz).elim (fun ez => by subst ez; exact Or.inr ⟨by decide, "java/lang/IndexOutOfBoundsException", hts (.classLink RL 19 "java/lang/IndexOutOfBoundsException") (by decide +kernel), hZL 0 1 (by decide) (by decide) (by decide)⟩) (fun hz => by cases hz)) (by decide) (by decide) (hts (.classLink RL 13 "java/lang/IllegalArgumentException") (by decide +kernel)) (va_Nw.use rfl hZ.2.2.2.2.2.2.2.2.1) hce hcv hcl ?_
      refine lv_astore (lv' := [(4, .ref q9), (0, .ref (ad 0 k0)), (1, .int x1), (2, .int x2), (3, .ref o)]) hx hb dL_told_17 hl (by decide) rfl (fun ls hl => ?_)
      refine lv_iconst (v := 2) hx hb dL_told_19 (by decide) ?_
      exact vx_ret (W.iret (v := 2) hx hb hr (fun t ht hW => ⟨⟨2, (τ9, ad, v0), rfl, ⟨hF9, tw_le.rf.same hN9⟩, tw_at hP9 ht, hO9.at ht⟩, hS.F ht⟩) hS.2.2 dL_told_20)
  · obtain ⟨hF, hN9⟩ := hw
    obtain ⟨τ1, rfl⟩ : ∃ z, z = u1 := ⟨_, rfl⟩
    try dsimp only at hF hN9 hB
    have hP := tw_back hB ht
    have hO1 : OutAt ac o v0 H := hO.kept (hk o hol hoA)
    refine lv_i2l (v := r1.toInt64) hx hb dL_told_8 rfl ?_
    refine wr_last hx hb hK hP hO1 hoA hS dL_told_9 (fun H locs hP hO hS => ?_)
    refine lv_goto (tgt := 21) hx hb dL_told_10 (by decide) ?_
    refine lv_iconst (v := 0) hx hb dL_told_21 (by decide) ?_
    exact vx_ret (W.iret (v := 0) hx hb hr (fun t ht hW => ⟨⟨0, (τ1, ad, r1.toInt64), rfl, ⟨hF, tw_le.rf.same hN9⟩, tw_at hP ht, hO.at ht⟩, hS.F ht⟩) hS.2.2 dL_told_22)
def F_L_worth (τ0 : tw_T) (k0 : Nat) (x1 : Int32) (x2 : Int32) (v0 : Int64) (Q : Int32 → Int64 → tw_T → Prop) : Prop := F_X9_worth τ0 k0 x1 x2 (fun r τ => Q 0 r.toInt64 τ) (fun c τ => (c = 1 ∧ Q 1 v0 τ) ∨ (c = 0 ∧ Q 2 v0 τ))
def rmL_worth : Room := { frames := 8, cells := 2, slots := 12, locals := 126 }
set_option maxHeartbeats 4000000 in
set_option maxRecDepth 100000 in
theorem mL_worth (l : Launch) (hlt : l.stackTraces = false) (dC : Nat → ClassId) (dI : Nat → Nat → Nat) (ac : Nat → ClassId) (sa : Nat → Nat) (A : Nat → Prop) (ad : Nat → Nat → Nat) (o : Nat) (τ0 : tw_T) (k0 : Nat) (x1 : Int32) (x2 : Int32) (v0 : Int64) (Q : Int32 → Int64 → tw_T → Prop) (hF : F_L_worth τ0 k0 x1 x2 v0 Q) (hk0 : k0 < gN τ0 0) : vx_Met l yL_worth wsL_worth rmL_worth (va_Pc [.ref (ad 0 k0), .int x1, .int x2, .ref o] (BW dC dI ac sa A ad o τ0 v0)) (va_Qi (fun r (u : tw_T × (Nat → Nat → Nat) × Int64) => Q r u.2.2 u.1 ∧ tw_le τ0 ad u.1 u.2.1) (fun u t => PX dC dI ac A u.2.1 u.1 t.heap ∧ OutAt ac o u.2.2 t.heap) (fun q => A q ∨ q = o)) (vx_X (fun (_ : Unit) => False) (fun _ _ _ => True) (fun _ => False)) 2 12 (fun q => A q ∨ q = o) := by
  refine vx_ofWH (cc := cL_worth) (maxL := 5) (ret := (some .int)) (hh := [(0, 10, 13, 19), (0, 10, 17, 13)]) (by decide) rfl ?_
  intro p e s m args below meth c s₁ B hml hv
  obtain ⟨rfl, ⟨hP, hK, hA, hZ⟩, hO, hoA, hZL⟩ := hv
  have hx := B.exec
  have hb := B.bytes
  have hr := B.returns
  have hts := atoms_spec (ws := wsL_worth) B.pre
  have htb := vx_table (x := yL_worth) B (hts _ List.mem_cons_self)
  have hown : s.vm.findClass RL = some m.cls := findClass_of_methodNamed B.named
  have hlocks := B.notSynchronized
  have hol := hO.lt
  have hS : va_S (fun q => A q ∨ q = o) s.heap s.heap [] := va_S.rf
  have hS0 : va_S A s.heap s.heap [] := va_S.rf
  have hl := lv_entry ([.ref (ad 0 k0), .int x1, .int x2, .ref o]) (n := 5) (Nat.le_of_ble_eq_true rfl)
  rw [lg_entry_eq]
  generalize (lg_sl ([.ref (ad 0 k0), .int x1, .int x2, .ref o]) ++ List.replicate (5 - (lg_sl ([.ref (ad 0 k0), .int x1, .int x2, .ref o])).length) Slot.unset).toArray = ls at hl ⊢
  have hl : lv_has ls 5 [(0, .ref (ad 0 k0)), (1, .int x1), (2, .int x2), (3, .ref o)] := hl
  unfold F_L_worth at hF
  refine lv_aload_n hx hb dL_worth_0 rfl (lv_at hl 3 rfl) ?_
  refine lv_iconst (v := 0) hx hb dL_worth_1 (by decide) ?_
  refine lv_aload_n hx hb dL_worth_2 rfl (lv_at hl 0 rfl) ?_
  refine lv_iload_n hx hb dL_worth_3 rfl (lv_at hl 1 rfl) ?_
  refine lv_iload_n hx hb dL_worth_4 rfl (lv_at hl 2 rfl) ?_
  refine vx_calli (vx_runV (As := [.int x1, .int x2]) (rest := [.int 0, .ref o]) ⟨hx, hb, hml, hown, hts⟩ (mX9_worth l hlt dC dI ac sa A ad τ0 k0 x1 x2 _ _ hF hk0) (cwV 2 hts gL_worth_X9_worth rfl rfl rfl (by decide +kernel) ⟨Nat.le_of_ble_eq_true rfl, Nat.le_of_ble_eq_true rfl⟩) ⟨BX.blind, tw_recv hK hP (by decide) hk0 rfl rfl, fun U hU hW => ⟨rfl, BX.of hP hK hS0 hA hZ hU hW⟩⟩ rfl rfl hl.1 rfl (lv_room (Nat.le_of_ble_eq_true rfl)) dL_worth_5 ⟨Nat.le_of_ble_eq_true rfl, Nat.le_of_ble_eq_true rfl⟩) hS (fun q _ h => Or.inl h) (fun q h => Or.inl h) (fun q _ h => Or.inl h) (fun E9 ce9 q9 u9 t9 H locs ht hvm hpx hBX hz9 hk9 hS hce hcv hcl => ?_) (fun r1 u1 t H locs ht hvm hw hB hz hk hS => ?_)
  · obtain ⟨ec9, τ9⟩ := u9
    obtain ⟨hF9, hN9⟩ := hpx
    obtain ⟨rfl, hP9⟩ := hBX
    have hP9 := tw_back hP9 ht
    have hO9 : OutAt ac o v0 H := hO.kept (hk9 o hol hoA)
    rcases hF9 with ⟨rfl, hF9⟩ | ⟨rfl, hF9⟩
    · refine vx_catch (name := "java/lang/IndexOutOfBoundsException") hown [] ⟨0, 10, 13, 19⟩ [⟨0, 10, 17, 13⟩] (by rw [htb]; rfl) (by intro z hz; cases hz) (by decide) (by decide) (hts (.classLink RL 19 "java/lang/IndexOutOfBoundsException") (by decide +kernel)) (va_Nw.use rfl hZ.2.2.2.2.2.2.2.2.2.1) hce hcv hcl ?_
      refine lv_astore (lv' := [(4, .ref q9), (0, .ref (ad 0 k0)), (1, .int x1), (2, .int x2), (3, .ref o)]) hx hb dL_worth_13 hl (by decide) rfl (fun ls hl => ?_)
      refine lv_iconst (v := 1) hx hb dL_worth_15 (by decide) ?_
      exact vx_ret (W.iret (v := 1) hx hb hr (fun t ht hW => ⟨⟨1, (τ9, ad, v0), rfl, ⟨hF9, tw_le.rf.same hN9⟩, tw_at hP9 ht, hO9.at ht⟩, hS.F ht⟩) hS.2.2 dL_worth_16)
    · refine vx_catch (name := "java/lang/IllegalArgumentException") hown [⟨0, 10, 13, 19⟩] ⟨0, 10, 17, 13⟩ [] (by rw [htb]; rfl) (fun z hz => (List.mem_cons.mp hz).elim (fun ez => by subst ez; exact Or.inr ⟨by decide, "java/lang/IndexOutOfBoundsException", hts (.classLink RL 19 "java/lang/IndexOutOfBoundsException") (by decide +kernel), hZL 0 1 (by decide) (by decide) (by decide)⟩) (fun hz => by cases hz)) (by decide) (by decide) (hts (.classLink RL 13 "java/lang/IllegalArgumentException") (by decide +kernel)) (va_Nw.use rfl hZ.2.2.2.2.2.2.2.2.1) hce hcv hcl ?_
      refine lv_astore (lv' := [(4, .ref q9), (0, .ref (ad 0 k0)), (1, .int x1), (2, .int x2), (3, .ref o)]) hx hb dL_worth_17 hl (by decide) rfl (fun ls hl => ?_)
      refine lv_iconst (v := 2) hx hb dL_worth_19 (by decide) ?_
      exact vx_ret (W.iret (v := 2) hx hb hr (fun t ht hW => ⟨⟨2, (τ9, ad, v0), rfl, ⟨hF9, tw_le.rf.same hN9⟩, tw_at hP9 ht, hO9.at ht⟩, hS.F ht⟩) hS.2.2 dL_worth_20)
  · obtain ⟨hF, hN9⟩ := hw
    obtain ⟨τ1, rfl⟩ : ∃ z, z = u1 := ⟨_, rfl⟩
    try dsimp only at hF hN9 hB
    have hP := tw_back hB ht
    have hO1 : OutAt ac o v0 H := hO.kept (hk o hol hoA)
    refine lv_i2l (v := r1.toInt64) hx hb dL_worth_8 rfl ?_
    refine wr_last hx hb hK hP hO1 hoA hS dL_worth_9 (fun H locs hP hO hS => ?_)
    refine lv_goto (tgt := 21) hx hb dL_worth_10 (by decide) ?_
    refine lv_iconst (v := 0) hx hb dL_worth_21 (by decide) ?_
    exact vx_ret (W.iret (v := 0) hx hb hr (fun t ht hW => ⟨⟨0, (τ1, ad, r1.toInt64), rfl, ⟨hF, tw_le.rf.same hN9⟩, tw_at hP ht, hO.at ht⟩, hS.F ht⟩) hS.2.2 dL_worth_22)
def F_L_taste (τ0 : tw_T) (k0 : Nat) (x1 : Int32) (x2 : Int32) (v0 : Int64) (Q : Int32 → Int64 → tw_T → Prop) : Prop := F_X9_taste τ0 k0 x1 x2 (fun r τ => Q 0 r.toInt64 τ) (fun c τ => (c = 1 ∧ Q 1 v0 τ) ∨ (c = 0 ∧ Q 2 v0 τ))
def rmL_taste : Room := { frames := 8, cells := 2, slots := 12, locals := 128 }
set_option maxHeartbeats 4000000 in
set_option maxRecDepth 100000 in
theorem mL_taste (l : Launch) (hlt : l.stackTraces = false) (dC : Nat → ClassId) (dI : Nat → Nat → Nat) (ac : Nat → ClassId) (sa : Nat → Nat) (A : Nat → Prop) (ad : Nat → Nat → Nat) (o : Nat) (τ0 : tw_T) (k0 : Nat) (x1 : Int32) (x2 : Int32) (v0 : Int64) (Q : Int32 → Int64 → tw_T → Prop) (hF : F_L_taste τ0 k0 x1 x2 v0 Q) (hk0 : k0 < gN τ0 0) : vx_Met l yL_taste wsL_taste rmL_taste (va_Pc [.ref (ad 0 k0), .int x1, .int x2, .ref o] (BW dC dI ac sa A ad o τ0 v0)) (va_Qi (fun r (u : tw_T × (Nat → Nat → Nat) × Int64) => Q r u.2.2 u.1 ∧ tw_le τ0 ad u.1 u.2.1) (fun u t => PX dC dI ac A u.2.1 u.1 t.heap ∧ OutAt ac o u.2.2 t.heap) (fun q => A q ∨ q = o)) (vx_X (fun (_ : Unit) => False) (fun _ _ _ => True) (fun _ => False)) 2 12 (fun q => A q ∨ q = o) := by
  refine vx_ofWH (cc := cL_taste) (maxL := 5) (ret := (some .int)) (hh := [(0, 10, 13, 19), (0, 10, 17, 13)]) (by decide) rfl ?_
  intro p e s m args below meth c s₁ B hml hv
  obtain ⟨rfl, ⟨hP, hK, hA, hZ⟩, hO, hoA, hZL⟩ := hv
  have hx := B.exec
  have hb := B.bytes
  have hr := B.returns
  have hts := atoms_spec (ws := wsL_taste) B.pre
  have htb := vx_table (x := yL_taste) B (hts _ List.mem_cons_self)
  have hown : s.vm.findClass RL = some m.cls := findClass_of_methodNamed B.named
  have hlocks := B.notSynchronized
  have hol := hO.lt
  have hS : va_S (fun q => A q ∨ q = o) s.heap s.heap [] := va_S.rf
  have hS0 : va_S A s.heap s.heap [] := va_S.rf
  have hl := lv_entry ([.ref (ad 0 k0), .int x1, .int x2, .ref o]) (n := 5) (Nat.le_of_ble_eq_true rfl)
  rw [lg_entry_eq]
  generalize (lg_sl ([.ref (ad 0 k0), .int x1, .int x2, .ref o]) ++ List.replicate (5 - (lg_sl ([.ref (ad 0 k0), .int x1, .int x2, .ref o])).length) Slot.unset).toArray = ls at hl ⊢
  have hl : lv_has ls 5 [(0, .ref (ad 0 k0)), (1, .int x1), (2, .int x2), (3, .ref o)] := hl
  unfold F_L_taste at hF
  refine lv_aload_n hx hb dL_taste_0 rfl (lv_at hl 3 rfl) ?_
  refine lv_iconst (v := 0) hx hb dL_taste_1 (by decide) ?_
  refine lv_aload_n hx hb dL_taste_2 rfl (lv_at hl 0 rfl) ?_
  refine lv_iload_n hx hb dL_taste_3 rfl (lv_at hl 1 rfl) ?_
  refine lv_iload_n hx hb dL_taste_4 rfl (lv_at hl 2 rfl) ?_
  refine vx_calli (vx_runV (As := [.int x1, .int x2]) (rest := [.int 0, .ref o]) ⟨hx, hb, hml, hown, hts⟩ (mX9_taste l hlt dC dI ac sa A ad τ0 k0 x1 x2 _ _ hF hk0) (cwV 2 hts gL_taste_X9_taste rfl rfl rfl (by decide +kernel) ⟨Nat.le_of_ble_eq_true rfl, Nat.le_of_ble_eq_true rfl⟩) ⟨BX.blind, tw_recv hK hP (by decide) hk0 rfl rfl, fun U hU hW => ⟨rfl, BX.of hP hK hS0 hA hZ hU hW⟩⟩ rfl rfl hl.1 rfl (lv_room (Nat.le_of_ble_eq_true rfl)) dL_taste_5 ⟨Nat.le_of_ble_eq_true rfl, Nat.le_of_ble_eq_true rfl⟩) hS (fun q _ h => Or.inl h) (fun q h => Or.inl h) (fun q _ h => Or.inl h) (fun E9 ce9 q9 u9 t9 H locs ht hvm hpx hBX hz9 hk9 hS hce hcv hcl => ?_) (fun r1 u1 t H locs ht hvm hw hB hz hk hS => ?_)
  · obtain ⟨ec9, τ9⟩ := u9
    obtain ⟨hF9, hN9⟩ := hpx
    obtain ⟨rfl, hP9⟩ := hBX
    have hP9 := tw_back hP9 ht
    have hO9 : OutAt ac o v0 H := hO.kept (hk9 o hol hoA)
    rcases hF9 with ⟨rfl, hF9⟩ | ⟨rfl, hF9⟩
    · refine vx_catch (name := "java/lang/IndexOutOfBoundsException") hown [] ⟨0, 10, 13, 19⟩ [⟨0, 10, 17, 13⟩] (by rw [htb]; rfl) (by intro z hz; cases hz) (by decide) (by decide) (hts (.classLink RL 19 "java/lang/IndexOutOfBoundsException") (by decide +kernel)) (va_Nw.use rfl hZ.2.2.2.2.2.2.2.2.2.1) hce hcv hcl ?_
      refine lv_astore (lv' := [(4, .ref q9), (0, .ref (ad 0 k0)), (1, .int x1), (2, .int x2), (3, .ref o)]) hx hb dL_taste_13 hl (by decide) rfl (fun ls hl => ?_)
      refine lv_iconst (v := 1) hx hb dL_taste_15 (by decide) ?_
      exact vx_ret (W.iret (v := 1) hx hb hr (fun t ht hW => ⟨⟨1, (τ9, ad, v0), rfl, ⟨hF9, tw_le.rf.same hN9⟩, tw_at hP9 ht, hO9.at ht⟩, hS.F ht⟩) hS.2.2 dL_taste_16)
    · refine vx_catch (name := "java/lang/IllegalArgumentException") hown [⟨0, 10, 13, 19⟩] ⟨0, 10, 17, 13⟩ [] (by rw [htb]; rfl) (fun z hz => (List.mem_cons.mp hz).elim (fun ez => by subst ez; exact Or.inr ⟨by decide, "java/lang/IndexOutOfBoundsException", hts (.classLink RL 19 "java/lang/IndexOutOfBoundsException") (by decide +kernel), hZL 0 1 (by decide) (by decide) (by decide)⟩) (fun hz => by cases hz)) (by decide) (by decide) (hts (.classLink RL 13 "java/lang/IllegalArgumentException") (by decide +kernel)) (va_Nw.use rfl hZ.2.2.2.2.2.2.2.2.1) hce hcv hcl ?_
      refine lv_astore (lv' := [(4, .ref q9), (0, .ref (ad 0 k0)), (1, .int x1), (2, .int x2), (3, .ref o)]) hx hb dL_taste_17 hl (by decide) rfl (fun ls hl => ?_)
      refine lv_iconst (v := 2) hx hb dL_taste_19 (by decide) ?_
      exact vx_ret (W.iret (v := 2) hx hb hr (fun t ht hW => ⟨⟨2, (τ9, ad, v0), rfl, ⟨hF9, tw_le.rf.same hN9⟩, tw_at hP9 ht, hO9.at ht⟩, hS.F ht⟩) hS.2.2 dL_taste_20)
  · obtain ⟨hF, hN9⟩ := hw
    obtain ⟨τ1, rfl⟩ : ∃ z, z = u1 := ⟨_, rfl⟩
    try dsimp only at hF hN9 hB
    have hP := tw_back hB ht
    have hO1 : OutAt ac o v0 H := hO.kept (hk o hol hoA)
    refine lv_i2l (v := r1.toInt64) hx hb dL_taste_8 rfl ?_
    refine wr_last hx hb hK hP hO1 hoA hS dL_taste_9 (fun H locs hP hO hS => ?_)
    refine lv_goto (tgt := 21) hx hb dL_taste_10 (by decide) ?_
    refine lv_iconst (v := 0) hx hb dL_taste_21 (by decide) ?_
    exact vx_ret (W.iret (v := 0) hx hb hr (fun t ht hW => ⟨⟨0, (τ1, ad, r1.toInt64), rfl, ⟨hF, tw_le.rf.same hN9⟩, tw_at hP ht, hO.at ht⟩, hS.F ht⟩) hS.2.2 dL_taste_22)
def F_L_put (τ0 : tw_T) (k0 : Nat) (x1 : Int32) (x2 : Int32) (x3 : Int32) (v0 : Int64) (Q : Int32 → Int64 → tw_T → Prop) : Prop := F_X9_put τ0 k0 x1 x2 x3 (fun r τ => Q 0 r.toInt64 τ) (fun c τ => (c = 3 ∧ Q 1 v0 τ) ∨ (c = 1 ∧ Q 2 v0 τ) ∨ (c = 0 ∧ Q 3 v0 τ))
def rmL_put : Room := { frames := 8, cells := 3, slots := 18, locals := 126 }
set_option maxHeartbeats 4000000 in
set_option maxRecDepth 100000 in
theorem mL_put (l : Launch) (hlt : l.stackTraces = false) (dC : Nat → ClassId) (dI : Nat → Nat → Nat) (ac : Nat → ClassId) (sa : Nat → Nat) (A : Nat → Prop) (ad : Nat → Nat → Nat) (o : Nat) (τ0 : tw_T) (k0 : Nat) (x1 : Int32) (x2 : Int32) (x3 : Int32) (v0 : Int64) (Q : Int32 → Int64 → tw_T → Prop) (hF : F_L_put τ0 k0 x1 x2 x3 v0 Q) (hk0 : k0 < gN τ0 0) : vx_Met l yL_put wsL_put rmL_put (va_Pc [.ref (ad 0 k0), .int x1, .int x2, .int x3, .ref o] (BW dC dI ac sa A ad o τ0 v0)) (va_Qi (fun r (u : tw_T × (Nat → Nat → Nat) × Int64) => Q r u.2.2 u.1 ∧ tw_le τ0 ad u.1 u.2.1) (fun u t => PX dC dI ac A u.2.1 u.1 t.heap ∧ OutAt ac o u.2.2 t.heap) (fun q => A q ∨ q = o)) (vx_X (fun (_ : Unit) => False) (fun _ _ _ => True) (fun _ => False)) 3 18 (fun q => A q ∨ q = o) := by
  refine vx_ofWH (cc := cL_put) (maxL := 6) (ret := (some .int)) (hh := [(0, 12, 15, 34), (0, 12, 19, 19), (0, 12, 23, 13)]) (by decide) rfl ?_
  intro p e s m args below meth c s₁ B hml hv
  obtain ⟨rfl, ⟨hP, hK, hA, hZ⟩, hO, hoA, hZL⟩ := hv
  have hx := B.exec
  have hb := B.bytes
  have hr := B.returns
  have hts := atoms_spec (ws := wsL_put) B.pre
  have htb := vx_table (x := yL_put) B (hts _ List.mem_cons_self)
  have hown : s.vm.findClass RL = some m.cls := findClass_of_methodNamed B.named
  have hlocks := B.notSynchronized
  have hol := hO.lt
  have hS : va_S (fun q => A q ∨ q = o) s.heap s.heap [] := va_S.rf
  have hS0 : va_S A s.heap s.heap [] := va_S.rf
  have hl := lv_entry ([.ref (ad 0 k0), .int x1, .int x2, .int x3, .ref o]) (n := 6) (Nat.le_of_ble_eq_true rfl)
  rw [lg_entry_eq]
  generalize (lg_sl ([.ref (ad 0 k0), .int x1, .int x2, .int x3, .ref o]) ++ List.replicate (6 - (lg_sl ([.ref (ad 0 k0), .int x1, .int x2, .int x3, .ref o])).length) Slot.unset).toArray = ls at hl ⊢
  have hl : lv_has ls 6 [(0, .ref (ad 0 k0)), (1, .int x1), (2, .int x2), (3, .int x3), (4, .ref o)] := hl
  unfold F_L_put at hF
  refine lv_aload hx hb dL_put_0 (lv_at hl 4 rfl) ?_
  refine lv_iconst (v := 0) hx hb dL_put_2 (by decide) ?_
  refine lv_aload_n hx hb dL_put_3 rfl (lv_at hl 0 rfl) ?_
  refine lv_iload_n hx hb dL_put_4 rfl (lv_at hl 1 rfl) ?_
  refine lv_iload_n hx hb dL_put_5 rfl (lv_at hl 2 rfl) ?_
  refine lv_iload_n hx hb dL_put_6 rfl (lv_at hl 3 rfl) ?_
  refine vx_calli (vx_runV (As := [.int x1, .int x2, .int x3]) (rest := [.int 0, .ref o]) ⟨hx, hb, hml, hown, hts⟩ (mX9_put l hlt dC dI ac sa A ad τ0 k0 x1 x2 x3 _ _ hF hk0) (cwV 3 hts gL_put_X9_put rfl rfl rfl (by decide +kernel) ⟨Nat.le_of_ble_eq_true rfl, Nat.le_of_ble_eq_true rfl⟩) ⟨BX.blind, tw_recv hK hP (by decide) hk0 rfl rfl, fun U hU hW => ⟨rfl, BX.of hP hK hS0 hA hZ hU hW⟩⟩ rfl rfl hl.1 rfl (lv_room (Nat.le_of_ble_eq_true rfl)) dL_put_7 ⟨Nat.le_of_ble_eq_true rfl, Nat.le_of_ble_eq_true rfl⟩) hS (fun q _ h => Or.inl h) (fun q h => Or.inl h) (fun q _ h => Or.inl h) (fun E9 ce9 q9 u9 t9 H locs ht hvm hpx hBX hz9 hk9 hS hce hcv hcl => ?_) (fun r1 u1 t H locs ht hvm hw hB hz hk hS => ?_)
  · obtain ⟨ec9, τ9⟩ := u9
    obtain ⟨hF9, hN9⟩ := hpx
    obtain ⟨rfl, hP9⟩ := hBX
    have hP9 := tw_back hP9 ht
    have hO9 : OutAt ac o v0 H := hO.kept (hk9 o hol hoA)
    rcases hF9 with ⟨rfl, hF9⟩ | ⟨rfl, hF9⟩ | ⟨rfl, hF9⟩
    · refine vx_catch (name := "java/util/NoSuchElementException") hown [] ⟨0, 12, 15, 34⟩ [⟨0, 12, 19, 19⟩, ⟨0, 12, 23, 13⟩] (by rw [htb]; rfl) (by intro z hz; cases hz) (by decide) (by decide) (hts (.classLink RL 34 "java/util/NoSuchElementException") (by decide +kernel)) (va_Nw.use rfl hZ.2.2.2.2.2.2.2.2.2.2.2) hce hcv hcl ?_
      refine lv_astore (lv' := [(5, .ref q9), (0, .ref (ad 0 k0)), (1, .int x1), (2, .int x2), (3, .int x3), (4, .ref o)]) hx hb dL_put_15 hl (by decide) rfl (fun ls hl => ?_)
      refine lv_iconst (v := 1) hx hb dL_put_17 (by decide) ?_
      exact vx_ret (W.iret (v := 1) hx hb hr (fun t ht hW => ⟨⟨1, (τ9, ad, v0), rfl, ⟨hF9, tw_le.rf.same hN9⟩, tw_at hP9 ht, hO9.at ht⟩, hS.F ht⟩) hS.2.2 dL_put_18)
    · refine vx_catch (name := "java/lang/IndexOutOfBoundsException") hown [⟨0, 12, 15, 34⟩] ⟨0, 12, 19, 19⟩ [⟨0, 12, 23, 13⟩] (by rw [htb]; rfl) (fun z hz => (List.mem_cons.mp hz).elim (fun ez => by subst ez; exact Or.inr ⟨by decide, "java/util/NoSuchElementException", hts (.classLink RL 34 "java/util/NoSuchElementException") (by decide +kernel), hZL 1 3 (by decide) (by decide) (by decide)⟩) (fun hz => by cases hz)) (by decide) (by decide) (hts (.classLink RL 19 "java/lang/IndexOutOfBoundsException") (by decide +kernel)) (va_Nw.use rfl hZ.2.2.2.2.2.2.2.2.2.1) hce hcv hcl ?_
      refine lv_astore (lv' := [(5, .ref q9), (0, .ref (ad 0 k0)), (1, .int x1), (2, .int x2), (3, .int x3), (4, .ref o)]) hx hb dL_put_19 hl (by decide) rfl (fun ls hl => ?_)
      refine lv_iconst (v := 2) hx hb dL_put_21 (by decide) ?_
      exact vx_ret (W.iret (v := 2) hx hb hr (fun t ht hW => ⟨⟨2, (τ9, ad, v0), rfl, ⟨hF9, tw_le.rf.same hN9⟩, tw_at hP9 ht, hO9.at ht⟩, hS.F ht⟩) hS.2.2 dL_put_22)
    · refine vx_catch (name := "java/lang/IllegalArgumentException") hown [⟨0, 12, 15, 34⟩, ⟨0, 12, 19, 19⟩] ⟨0, 12, 23, 13⟩ [] (by rw [htb]; rfl) (fun z hz => (List.mem_cons.mp hz).elim (fun ez => by subst ez; exact Or.inr ⟨by decide, "java/util/NoSuchElementException", hts (.classLink RL 34 "java/util/NoSuchElementException") (by decide +kernel), hZL 0 3 (by decide) (by decide) (by decide)⟩) (fun hz => (List.mem_cons.mp hz).elim (fun ez => by subst ez; exact Or.inr ⟨by decide, "java/lang/IndexOutOfBoundsException", hts (.classLink RL 19 "java/lang/IndexOutOfBoundsException") (by decide +kernel), hZL 0 1 (by decide) (by decide) (by decide)⟩) (fun hz => by cases hz))) (by decide) (by decide) (hts (.classLink RL 13 "java/lang/IllegalArgumentException") (by decide +kernel)) (va_Nw.use rfl hZ.2.2.2.2.2.2.2.2.1) hce hcv hcl ?_
      refine lv_astore (lv' := [(5, .ref q9), (0, .ref (ad 0 k0)), (1, .int x1), (2, .int x2), (3, .int x3), (4, .ref o)]) hx hb dL_put_23 hl (by decide) rfl (fun ls hl => ?_)
      refine lv_iconst (v := 3) hx hb dL_put_25 (by decide) ?_
      exact vx_ret (W.iret (v := 3) hx hb hr (fun t ht hW => ⟨⟨3, (τ9, ad, v0), rfl, ⟨hF9, tw_le.rf.same hN9⟩, tw_at hP9 ht, hO9.at ht⟩, hS.F ht⟩) hS.2.2 dL_put_26)
  · obtain ⟨hF, hN9⟩ := hw
    obtain ⟨τ1, rfl⟩ : ∃ z, z = u1 := ⟨_, rfl⟩
    try dsimp only at hF hN9 hB
    have hP := tw_back hB ht
    have hO1 : OutAt ac o v0 H := hO.kept (hk o hol hoA)
    refine lv_i2l (v := r1.toInt64) hx hb dL_put_10 rfl ?_
    refine wr_last hx hb hK hP hO1 hoA hS dL_put_11 (fun H locs hP hO hS => ?_)
    refine lv_goto (tgt := 27) hx hb dL_put_12 (by decide) ?_
    refine lv_iconst (v := 0) hx hb dL_put_27 (by decide) ?_
    exact vx_ret (W.iret (v := 0) hx hb hr (fun t ht hW => ⟨⟨0, (τ1, ad, r1.toInt64), rfl, ⟨hF, tw_le.rf.same hN9⟩, tw_at hP ht, hO.at ht⟩, hS.F ht⟩) hS.2.2 dL_put_28)
def F_L_move (τ0 : tw_T) (k0 : Nat) (x1 : Int32) (x2 : Int32) (x3 : Int32) (v0 : Int64) (Q : Int32 → Int64 → tw_T → Prop) : Prop := F_X9_move τ0 k0 x1 x2 x3 (fun r τ => Q 0 r.toInt64 τ) (fun c τ => (c = 3 ∧ Q 1 v0 τ) ∨ (c = 0 ∧ Q 2 v0 τ))
def rmL_move : Room := { frames := 8, cells := 3, slots := 18, locals := 126 }
set_option maxHeartbeats 4000000 in
set_option maxRecDepth 100000 in
theorem mL_move (l : Launch) (hlt : l.stackTraces = false) (dC : Nat → ClassId) (dI : Nat → Nat → Nat) (ac : Nat → ClassId) (sa : Nat → Nat) (A : Nat → Prop) (ad : Nat → Nat → Nat) (o : Nat) (τ0 : tw_T) (k0 : Nat) (x1 : Int32) (x2 : Int32) (x3 : Int32) (v0 : Int64) (Q : Int32 → Int64 → tw_T → Prop) (hF : F_L_move τ0 k0 x1 x2 x3 v0 Q) (hk0 : k0 < gN τ0 0) : vx_Met l yL_move wsL_move rmL_move (va_Pc [.ref (ad 0 k0), .int x1, .int x2, .int x3, .ref o] (BW dC dI ac sa A ad o τ0 v0)) (va_Qi (fun r (u : tw_T × (Nat → Nat → Nat) × Int64) => Q r u.2.2 u.1 ∧ tw_le τ0 ad u.1 u.2.1) (fun u t => PX dC dI ac A u.2.1 u.1 t.heap ∧ OutAt ac o u.2.2 t.heap) (fun q => A q ∨ q = o)) (vx_X (fun (_ : Unit) => False) (fun _ _ _ => True) (fun _ => False)) 3 18 (fun q => A q ∨ q = o) := by
  refine vx_ofWH (cc := cL_move) (maxL := 6) (ret := (some .int)) (hh := [(0, 12, 15, 34), (0, 12, 19, 13)]) (by decide) rfl ?_
  intro p e s m args below meth c s₁ B hml hv
  obtain ⟨rfl, ⟨hP, hK, hA, hZ⟩, hO, hoA, hZL⟩ := hv
  have hx := B.exec
  have hb := B.bytes
  have hr := B.returns
  have hts := atoms_spec (ws := wsL_move) B.pre
  have htb := vx_table (x := yL_move) B (hts _ List.mem_cons_self)
  have hown : s.vm.findClass RL = some m.cls := findClass_of_methodNamed B.named
  have hlocks := B.notSynchronized
  have hol := hO.lt
  have hS : va_S (fun q => A q ∨ q = o) s.heap s.heap [] := va_S.rf
  have hS0 : va_S A s.heap s.heap [] := va_S.rf
  have hl := lv_entry ([.ref (ad 0 k0), .int x1, .int x2, .int x3, .ref o]) (n := 6) (Nat.le_of_ble_eq_true rfl)
  rw [lg_entry_eq]
  generalize (lg_sl ([.ref (ad 0 k0), .int x1, .int x2, .int x3, .ref o]) ++ List.replicate (6 - (lg_sl ([.ref (ad 0 k0), .int x1, .int x2, .int x3, .ref o])).length) Slot.unset).toArray = ls at hl ⊢
  have hl : lv_has ls 6 [(0, .ref (ad 0 k0)), (1, .int x1), (2, .int x2), (3, .int x3), (4, .ref o)] := hl
  unfold F_L_move at hF
  refine lv_aload hx hb dL_move_0 (lv_at hl 4 rfl) ?_
  refine lv_iconst (v := 0) hx hb dL_move_2 (by decide) ?_
  refine lv_aload_n hx hb dL_move_3 rfl (lv_at hl 0 rfl) ?_
  refine lv_iload_n hx hb dL_move_4 rfl (lv_at hl 1 rfl) ?_
  refine lv_iload_n hx hb dL_move_5 rfl (lv_at hl 2 rfl) ?_
  refine lv_iload_n hx hb dL_move_6 rfl (lv_at hl 3 rfl) ?_
  refine vx_calli (vx_runV (As := [.int x1, .int x2, .int x3]) (rest := [.int 0, .ref o]) ⟨hx, hb, hml, hown, hts⟩ (mX9_move l hlt dC dI ac sa A ad τ0 k0 x1 x2 x3 _ _ hF hk0) (cwV 3 hts gL_move_X9_move rfl rfl rfl (by decide +kernel) ⟨Nat.le_of_ble_eq_true rfl, Nat.le_of_ble_eq_true rfl⟩) ⟨BX.blind, tw_recv hK hP (by decide) hk0 rfl rfl, fun U hU hW => ⟨rfl, BX.of hP hK hS0 hA hZ hU hW⟩⟩ rfl rfl hl.1 rfl (lv_room (Nat.le_of_ble_eq_true rfl)) dL_move_7 ⟨Nat.le_of_ble_eq_true rfl, Nat.le_of_ble_eq_true rfl⟩) hS (fun q _ h => Or.inl h) (fun q h => Or.inl h) (fun q _ h => Or.inl h) (fun E9 ce9 q9 u9 t9 H locs ht hvm hpx hBX hz9 hk9 hS hce hcv hcl => ?_) (fun r1 u1 t H locs ht hvm hw hB hz hk hS => ?_)
  · obtain ⟨ec9, τ9⟩ := u9
    obtain ⟨hF9, hN9⟩ := hpx
    obtain ⟨rfl, hP9⟩ := hBX
    have hP9 := tw_back hP9 ht
    have hO9 : OutAt ac o v0 H := hO.kept (hk9 o hol hoA)
    rcases hF9 with ⟨rfl, hF9⟩ | ⟨rfl, hF9⟩
    · refine vx_catch (name := "java/util/NoSuchElementException") hown [] ⟨0, 12, 15, 34⟩ [⟨0, 12, 19, 13⟩] (by rw [htb]; rfl) (by intro z hz; cases hz) (by decide) (by decide) (hts (.classLink RL 34 "java/util/NoSuchElementException") (by decide +kernel)) (va_Nw.use rfl hZ.2.2.2.2.2.2.2.2.2.2.2) hce hcv hcl ?_
      refine lv_astore (lv' := [(5, .ref q9), (0, .ref (ad 0 k0)), (1, .int x1), (2, .int x2), (3, .int x3), (4, .ref o)]) hx hb dL_move_15 hl (by decide) rfl (fun ls hl => ?_)
      refine lv_iconst (v := 1) hx hb dL_move_17 (by decide) ?_
      exact vx_ret (W.iret (v := 1) hx hb hr (fun t ht hW => ⟨⟨1, (τ9, ad, v0), rfl, ⟨hF9, tw_le.rf.same hN9⟩, tw_at hP9 ht, hO9.at ht⟩, hS.F ht⟩) hS.2.2 dL_move_18)
    · refine vx_catch (name := "java/lang/IllegalArgumentException") hown [⟨0, 12, 15, 34⟩] ⟨0, 12, 19, 13⟩ [] (by rw [htb]; rfl) (fun z hz => (List.mem_cons.mp hz).elim (fun ez => by subst ez; exact Or.inr ⟨by decide, "java/util/NoSuchElementException", hts (.classLink RL 34 "java/util/NoSuchElementException") (by decide +kernel), hZL 0 3 (by decide) (by decide) (by decide)⟩) (fun hz => by cases hz)) (by decide) (by decide) (hts (.classLink RL 13 "java/lang/IllegalArgumentException") (by decide +kernel)) (va_Nw.use rfl hZ.2.2.2.2.2.2.2.2.1) hce hcv hcl ?_
      refine lv_astore (lv' := [(5, .ref q9), (0, .ref (ad 0 k0)), (1, .int x1), (2, .int x2), (3, .int x3), (4, .ref o)]) hx hb dL_move_19 hl (by decide) rfl (fun ls hl => ?_)
      refine lv_iconst (v := 2) hx hb dL_move_21 (by decide) ?_
      exact vx_ret (W.iret (v := 2) hx hb hr (fun t ht hW => ⟨⟨2, (τ9, ad, v0), rfl, ⟨hF9, tw_le.rf.same hN9⟩, tw_at hP9 ht, hO9.at ht⟩, hS.F ht⟩) hS.2.2 dL_move_22)
  · obtain ⟨hF, hN9⟩ := hw
    obtain ⟨τ1, rfl⟩ : ∃ z, z = u1 := ⟨_, rfl⟩
    try dsimp only at hF hN9 hB
    have hP := tw_back hB ht
    have hO1 : OutAt ac o v0 H := hO.kept (hk o hol hoA)
    refine lv_i2l (v := r1.toInt64) hx hb dL_move_10 rfl ?_
    refine wr_last hx hb hK hP hO1 hoA hS dL_move_11 (fun H locs hP hO hS => ?_)
    refine lv_goto (tgt := 23) hx hb dL_move_12 (by decide) ?_
    refine lv_iconst (v := 0) hx hb dL_move_23 (by decide) ?_
    exact vx_ret (W.iret (v := 0) hx hb hr (fun t ht hW => ⟨⟨0, (τ1, ad, r1.toInt64), rfl, ⟨hF, tw_le.rf.same hN9⟩, tw_at hP ht, hO.at ht⟩, hS.F ht⟩) hS.2.2 dL_move_24)
def F_L_cell (τ0 : tw_T) (k0 : Nat) (x1 : Int32) (x2 : Int32) (v0 : Int64) (Q : Int32 → Int64 → tw_T → Prop) : Prop := F_X9_cell τ0 k0 x1 x2 (fun r τ => Q 0 r.toInt64 τ) (fun c τ => (c = 3 ∧ Q 1 v0 τ) ∨ (c = 0 ∧ Q 2 v0 τ))
def rmL_cell : Room := { frames := 8, cells := 2, slots := 12, locals := 124 }
set_option maxHeartbeats 4000000 in
set_option maxRecDepth 100000 in
theorem mL_cell (l : Launch) (hlt : l.stackTraces = false) (dC : Nat → ClassId) (dI : Nat → Nat → Nat) (ac : Nat → ClassId) (sa : Nat → Nat) (A : Nat → Prop) (ad : Nat → Nat → Nat) (o : Nat) (τ0 : tw_T) (k0 : Nat) (x1 : Int32) (x2 : Int32) (v0 : Int64) (Q : Int32 → Int64 → tw_T → Prop) (hF : F_L_cell τ0 k0 x1 x2 v0 Q) (hk0 : k0 < gN τ0 0) : vx_Met l yL_cell wsL_cell rmL_cell (va_Pc [.ref (ad 0 k0), .int x1, .int x2, .ref o] (BW dC dI ac sa A ad o τ0 v0)) (va_Qi (fun r (u : tw_T × (Nat → Nat → Nat) × Int64) => Q r u.2.2 u.1 ∧ tw_le τ0 ad u.1 u.2.1) (fun u t => PX dC dI ac A u.2.1 u.1 t.heap ∧ OutAt ac o u.2.2 t.heap) (fun q => A q ∨ q = o)) (vx_X (fun (_ : Unit) => False) (fun _ _ _ => True) (fun _ => False)) 2 12 (fun q => A q ∨ q = o) := by
  refine vx_ofWH (cc := cL_cell) (maxL := 5) (ret := (some .int)) (hh := [(0, 10, 13, 34), (0, 10, 17, 13)]) (by decide) rfl ?_
  intro p e s m args below meth c s₁ B hml hv
  obtain ⟨rfl, ⟨hP, hK, hA, hZ⟩, hO, hoA, hZL⟩ := hv
  have hx := B.exec
  have hb := B.bytes
  have hr := B.returns
  have hts := atoms_spec (ws := wsL_cell) B.pre
  have htb := vx_table (x := yL_cell) B (hts _ List.mem_cons_self)
  have hown : s.vm.findClass RL = some m.cls := findClass_of_methodNamed B.named
  have hlocks := B.notSynchronized
  have hol := hO.lt
  have hS : va_S (fun q => A q ∨ q = o) s.heap s.heap [] := va_S.rf
  have hS0 : va_S A s.heap s.heap [] := va_S.rf
  have hl := lv_entry ([.ref (ad 0 k0), .int x1, .int x2, .ref o]) (n := 5) (Nat.le_of_ble_eq_true rfl)
  rw [lg_entry_eq]
  generalize (lg_sl ([.ref (ad 0 k0), .int x1, .int x2, .ref o]) ++ List.replicate (5 - (lg_sl ([.ref (ad 0 k0), .int x1, .int x2, .ref o])).length) Slot.unset).toArray = ls at hl ⊢
  have hl : lv_has ls 5 [(0, .ref (ad 0 k0)), (1, .int x1), (2, .int x2), (3, .ref o)] := hl
  unfold F_L_cell at hF
  refine lv_aload_n hx hb dL_cell_0 rfl (lv_at hl 3 rfl) ?_
  refine lv_iconst (v := 0) hx hb dL_cell_1 (by decide) ?_
  refine lv_aload_n hx hb dL_cell_2 rfl (lv_at hl 0 rfl) ?_
  refine lv_iload_n hx hb dL_cell_3 rfl (lv_at hl 1 rfl) ?_
  refine lv_iload_n hx hb dL_cell_4 rfl (lv_at hl 2 rfl) ?_
  refine vx_calli (vx_runV (As := [.int x1, .int x2]) (rest := [.int 0, .ref o]) ⟨hx, hb, hml, hown, hts⟩ (mX9_cell l hlt dC dI ac sa A ad τ0 k0 x1 x2 _ _ hF hk0) (cwV 2 hts gL_cell_X9_cell rfl rfl rfl (by decide +kernel) ⟨Nat.le_of_ble_eq_true rfl, Nat.le_of_ble_eq_true rfl⟩) ⟨BX.blind, tw_recv hK hP (by decide) hk0 rfl rfl, fun U hU hW => ⟨rfl, BX.of hP hK hS0 hA hZ hU hW⟩⟩ rfl rfl hl.1 rfl (lv_room (Nat.le_of_ble_eq_true rfl)) dL_cell_5 ⟨Nat.le_of_ble_eq_true rfl, Nat.le_of_ble_eq_true rfl⟩) hS (fun q _ h => Or.inl h) (fun q h => Or.inl h) (fun q _ h => Or.inl h) (fun E9 ce9 q9 u9 t9 H locs ht hvm hpx hBX hz9 hk9 hS hce hcv hcl => ?_) (fun r1 u1 t H locs ht hvm hw hB hz hk hS => ?_)
  · obtain ⟨ec9, τ9⟩ := u9
    obtain ⟨hF9, hN9⟩ := hpx
    obtain ⟨rfl, hP9⟩ := hBX
    have hP9 := tw_back hP9 ht
    have hO9 : OutAt ac o v0 H := hO.kept (hk9 o hol hoA)
    rcases hF9 with ⟨rfl, hF9⟩ | ⟨rfl, hF9⟩
    · refine vx_catch (name := "java/util/NoSuchElementException") hown [] ⟨0, 10, 13, 34⟩ [⟨0, 10, 17, 13⟩] (by rw [htb]; rfl) (by intro z hz; cases hz) (by decide) (by decide) (hts (.classLink RL 34 "java/util/NoSuchElementException") (by decide +kernel)) (va_Nw.use rfl hZ.2.2.2.2.2.2.2.2.2.2.2) hce hcv hcl ?_
      refine lv_astore (lv' := [(4, .ref q9), (0, .ref (ad 0 k0)), (1, .int x1), (2, .int x2), (3, .ref o)]) hx hb dL_cell_13 hl (by decide) rfl (fun ls hl => ?_)
      refine lv_iconst (v := 1) hx hb dL_cell_15 (by decide) ?_
      exact vx_ret (W.iret (v := 1) hx hb hr (fun t ht hW => ⟨⟨1, (τ9, ad, v0), rfl, ⟨hF9, tw_le.rf.same hN9⟩, tw_at hP9 ht, hO9.at ht⟩, hS.F ht⟩) hS.2.2 dL_cell_16)
    · refine vx_catch (name := "java/lang/IllegalArgumentException") hown [⟨0, 10, 13, 34⟩] ⟨0, 10, 17, 13⟩ [] (by rw [htb]; rfl) (fun z hz => (List.mem_cons.mp hz).elim (fun ez => by subst ez; exact Or.inr ⟨by decide, "java/util/NoSuchElementException", hts (.classLink RL 34 "java/util/NoSuchElementException") (by decide +kernel), hZL 0 3 (by decide) (by decide) (by decide)⟩) (fun hz => by cases hz)) (by decide) (by decide) (hts (.classLink RL 13 "java/lang/IllegalArgumentException") (by decide +kernel)) (va_Nw.use rfl hZ.2.2.2.2.2.2.2.2.1) hce hcv hcl ?_
      refine lv_astore (lv' := [(4, .ref q9), (0, .ref (ad 0 k0)), (1, .int x1), (2, .int x2), (3, .ref o)]) hx hb dL_cell_17 hl (by decide) rfl (fun ls hl => ?_)
      refine lv_iconst (v := 2) hx hb dL_cell_19 (by decide) ?_
      exact vx_ret (W.iret (v := 2) hx hb hr (fun t ht hW => ⟨⟨2, (τ9, ad, v0), rfl, ⟨hF9, tw_le.rf.same hN9⟩, tw_at hP9 ht, hO9.at ht⟩, hS.F ht⟩) hS.2.2 dL_cell_20)
  · obtain ⟨hF, hN9⟩ := hw
    obtain ⟨τ1, rfl⟩ : ∃ z, z = u1 := ⟨_, rfl⟩
    try dsimp only at hF hN9 hB
    have hP := tw_back hB ht
    have hO1 : OutAt ac o v0 H := hO.kept (hk o hol hoA)
    refine lv_i2l (v := r1.toInt64) hx hb dL_cell_8 rfl ?_
    refine wr_last hx hb hK hP hO1 hoA hS dL_cell_9 (fun H locs hP hO hS => ?_)
    refine lv_goto (tgt := 21) hx hb dL_cell_10 (by decide) ?_
    refine lv_iconst (v := 0) hx hb dL_cell_21 (by decide) ?_
    exact vx_ret (W.iret (v := 0) hx hb hr (fun t ht hW => ⟨⟨0, (τ1, ad, r1.toInt64), rfl, ⟨hF, tw_le.rf.same hN9⟩, tw_at hP ht, hO.at ht⟩, hS.F ht⟩) hS.2.2 dL_cell_22)
