def F_L_find (τ0 : tw_T) (k0 : Nat) (x1 : Int32) (x2 : Int32) (v0 : Int64) (Q : Int32 → Int64 → tw_T → Prop) : Prop := F_X9_find τ0 k0 x1 x2 (fun r τ => Q 0 r.toInt64 τ) (fun c τ => (c = 1 ∧ Q 1 v0 τ))
def rmL_find : Room := { frames := 8, cells := 1, slots := 6, locals := 125 }
set_option maxHeartbeats 4000000 in
set_option maxRecDepth 100000 in
theorem mL_find (l : Launch) (hlt : l.stackTraces = false) (dC : Nat → ClassId) (dI : Nat → Nat → Nat) (ac : Nat → ClassId) (sa : Nat → Nat) (A : Nat → Prop) (ad : Nat → Nat → Nat) (o : Nat) (τ0 : tw_T) (k0 : Nat) (x1 : Int32) (x2 : Int32) (v0 : Int64) (Q : Int32 → Int64 → tw_T → Prop) (hF : F_L_find τ0 k0 x1 x2 v0 Q) (hk0 : k0 < gN τ0 0) : vx_Met l yL_find wsL_find rmL_find (va_Pc [.ref (ad 0 k0), .int x1, .int x2, .ref o] (BW dC dI ac sa A ad o τ0 v0)) (va_Qi (fun r (u : tw_T × (Nat → Nat → Nat) × Int64) => Q r u.2.2 u.1 ∧ tw_le τ0 ad u.1 u.2.1) (fun u t => PX dC dI ac A u.2.1 u.1 t.heap ∧ OutAt ac o u.2.2 t.heap) (fun q => A q ∨ q = o)) (vx_X (fun (_ : Unit) => False) (fun _ _ _ => True) (fun _ => False)) 1 6 (fun q => A q ∨ q = o) := by
  refine vx_ofWH (cc := cL_find) (maxL := 5) (ret := (some .int)) (hh := [(0, 10, 13, 19)]) (by decide) rfl ?_
  intro p e s m args below meth c s₁ B hml hv
  obtain ⟨rfl, ⟨hP, hK, hA, hZ⟩, hO, hoA, hZL⟩ := hv
  have hx := B.exec
  have hb := B.bytes
  have hr := B.returns
  have hts := atoms_spec (ws := wsL_find) B.pre
  have htb := vx_table (x := yL_find) B (hts _ List.mem_cons_self)
  have hown : s.vm.findClass RL = some m.cls := findClass_of_methodNamed B.named
  have hlocks := B.notSynchronized
  have hol := hO.lt
  have hS : va_S (fun q => A q ∨ q = o) s.heap s.heap [] := va_S.rf
  have hS0 : va_S A s.heap s.heap [] := va_S.rf
  have hl := lv_entry ([.ref (ad 0 k0), .int x1, .int x2, .ref o]) (n := 5) (Nat.le_of_ble_eq_true rfl)
  rw [lg_entry_eq]
  generalize (lg_sl ([.ref (ad 0 k0), .int x1, .int x2, .ref o]) ++ List.replicate (5 - (lg_sl ([.ref (ad 0 k0), .int x1, .int x2, .ref o])).length) Slot.unset).toArray = ls at hl ⊢
  have hl : lv_has ls 5 [(0, .ref (ad 0 k0)), (1, .int x1), (2, .int x2), (3, .ref o)] := hl
  unfold F_L_find at hF
  refine lv_aload_n hx hb dL_find_0 rfl (lv_at hl 3 rfl) ?_
  refine lv_iconst (v := 0) hx hb dL_find_1 (by decide) ?_
  refine lv_aload_n hx hb dL_find_2 rfl (lv_at hl 0 rfl) ?_
  refine lv_iload_n hx hb dL_find_3 rfl (lv_at hl 1 rfl) ?_
  refine lv_iload_n hx hb dL_find_4 rfl (lv_at hl 2 rfl) ?_
  refine vx_calli (vx_runV (As := [.int x1, .int x2]) (rest := [.int 0, .ref o]) ⟨hx, hb, hml, hown, hts⟩ (mX9_find l hlt dC dI ac sa A ad τ0 k0 x1 x2 _ _ hF hk0) (cwV 2 hts gL_find_X9_find rfl rfl rfl (by decide +kernel) ⟨Nat.le_of_ble_eq_true rfl, Nat.le_of_ble_eq_true rfl⟩) ⟨BX.blind, tw_recv hK hP (by decide) hk0 rfl rfl, fun U hU hW => ⟨rfl, BX.of hP hK hS0 hA hZ hU hW⟩⟩ rfl rfl hl.1 rfl (lv_room (Nat.le_of_ble_eq_true rfl)) dL_find_5 ⟨Nat.le_of_ble_eq_true rfl, Nat.le_of_ble_eq_true rfl⟩) hS (fun q _ h => Or.inl h) (fun q h => Or.inl h) (fun q _ h => Or.inl h) (fun E9 ce9 q9 u9 t9 H locs ht hvm hpx hBX hz9 hk9 hS hce hcv hcl => ?_) (fun r1 u1 t H locs ht hvm hw hB hz hk hS => ?_)
  · obtain ⟨ec9, τ9⟩ := u9
    obtain ⟨hF9, hN9⟩ := hpx
    obtain ⟨rfl, hP9⟩ := hBX
    have hP9 := tw_back hP9 ht
    have hO9 : OutAt ac o v0 H := hO.kept (hk9 o hol hoA)
    obtain ⟨rfl, hF9⟩ := hF9
    refine vx_catch (name := "java/lang/IndexOutOfBoundsException") hown [] ⟨0, 10, 13, 19⟩ [] (by rw [htb]; rfl) (by intro z hz; cases hz) (by decide) (by decide) (hts (.classLink RL 19 "java/lang/IndexOutOfBoundsException") (by decide +kernel)) (va_Nw.use rfl hZ.2.2.2.2.2.2.2.2.2.1) hce hcv hcl ?_
    refine lv_astore (lv' := [(4, .ref q9), (0, .ref (ad 0 k0)), (1, .int x1), (2, .int x2), (3, .ref o)]) hx hb dL_find_13 hl (by decide) rfl (fun ls hl => ?_)
    refine lv_iconst (v := 1) hx hb dL_find_15 (by decide) ?_
    exact vx_ret (W.iret (v := 1) hx hb hr (fun t ht hW => ⟨⟨1, (τ9, ad, v0), rfl, ⟨hF9, tw_le.rf.same hN9⟩, tw_at hP9 ht, hO9.at ht⟩, hS.F ht⟩) hS.2.2 dL_find_16)
  · obtain ⟨hF, hN9⟩ := hw
    obtain ⟨τ1, rfl⟩ : ∃ z, z = u1 := ⟨_, rfl⟩
    try dsimp only at hF hN9 hB
    have hP := tw_back hB ht
    have hO1 : OutAt ac o v0 H := hO.kept (hk o hol hoA)
    refine lv_i2l (v := r1.toInt64) hx hb dL_find_8 rfl ?_
    refine wr_last hx hb hK hP hO1 hoA hS dL_find_9 (fun H locs hP hO hS => ?_)
    refine lv_goto (tgt := 17) hx hb dL_find_10 (by decide) ?_
    refine lv_iconst (v := 0) hx hb dL_find_17 (by decide) ?_
    exact vx_ret (W.iret (v := 0) hx hb hr (fun t ht hW => ⟨⟨0, (τ1, ad, r1.toInt64), rfl, ⟨hF, tw_le.rf.same hN9⟩, tw_at hP ht, hO.at ht⟩, hS.F ht⟩) hS.2.2 dL_find_18)
def F_L_sell (τ0 : tw_T) (k0 : Nat) (x1 : Int32) (v0 : Int64) (Q : Int32 → Int64 → tw_T → Prop) : Prop := F_X9_sell τ0 k0 x1 (fun r τ => Q 0 r.toInt64 τ) (fun c τ => (c = 3 ∧ Q 1 v0 τ))
def rmL_sell : Room := { frames := 8, cells := 1, slots := 6, locals := 125 }
set_option maxHeartbeats 4000000 in
set_option maxRecDepth 100000 in
theorem mL_sell (l : Launch) (hlt : l.stackTraces = false) (dC : Nat → ClassId) (dI : Nat → Nat → Nat) (ac : Nat → ClassId) (sa : Nat → Nat) (A : Nat → Prop) (ad : Nat → Nat → Nat) (o : Nat) (τ0 : tw_T) (k0 : Nat) (x1 : Int32) (v0 : Int64) (Q : Int32 → Int64 → tw_T → Prop) (hF : F_L_sell τ0 k0 x1 v0 Q) (hk0 : k0 < gN τ0 0) : vx_Met l yL_sell wsL_sell rmL_sell (va_Pc [.ref (ad 0 k0), .int x1, .ref o] (BW dC dI ac sa A ad o τ0 v0)) (va_Qi (fun r (u : tw_T × (Nat → Nat → Nat) × Int64) => Q r u.2.2 u.1 ∧ tw_le τ0 ad u.1 u.2.1) (fun u t => PX dC dI ac A u.2.1 u.1 t.heap ∧ OutAt ac o u.2.2 t.heap) (fun q => A q ∨ q = o)) (vx_X (fun (_ : Unit) => False) (fun _ _ _ => True) (fun _ => False)) 1 6 (fun q => A q ∨ q = o) := by
  refine vx_ofWH (cc := cL_sell) (maxL := 4) (ret := (some .int)) (hh := [(0, 9, 12, 34)]) (by decide) rfl ?_
  intro p e s m args below meth c s₁ B hml hv
  obtain ⟨rfl, ⟨hP, hK, hA, hZ⟩, hO, hoA, hZL⟩ := hv
  have hx := B.exec
  have hb := B.bytes
  have hr := B.returns
  have hts := atoms_spec (ws := wsL_sell) B.pre
  have htb := vx_table (x := yL_sell) B (hts _ List.mem_cons_self)
  have hown : s.vm.findClass RL = some m.cls := findClass_of_methodNamed B.named
  have hlocks := B.notSynchronized
  have hol := hO.lt
  have hS : va_S (fun q => A q ∨ q = o) s.heap s.heap [] := va_S.rf
  have hS0 : va_S A s.heap s.heap [] := va_S.rf
  have hl := lv_entry ([.ref (ad 0 k0), .int x1, .ref o]) (n := 4) (Nat.le_of_ble_eq_true rfl)
  rw [lg_entry_eq]
  generalize (lg_sl ([.ref (ad 0 k0), .int x1, .ref o]) ++ List.replicate (4 - (lg_sl ([.ref (ad 0 k0), .int x1, .ref o])).length) Slot.unset).toArray = ls at hl ⊢
  have hl : lv_has ls 4 [(0, .ref (ad 0 k0)), (1, .int x1), (2, .ref o)] := hl
  unfold F_L_sell at hF
  refine lv_aload_n hx hb dL_sell_0 rfl (lv_at hl 2 rfl) ?_
  refine lv_iconst (v := 0) hx hb dL_sell_1 (by decide) ?_
  refine lv_aload_n hx hb dL_sell_2 rfl (lv_at hl 0 rfl) ?_
  refine lv_iload_n hx hb dL_sell_3 rfl (lv_at hl 1 rfl) ?_
  refine vx_calli (vx_runV (As := [.int x1]) (rest := [.int 0, .ref o]) ⟨hx, hb, hml, hown, hts⟩ (mX9_sell l hlt dC dI ac sa A ad τ0 k0 x1 _ _ hF hk0) (cwV 1 hts gL_sell_X9_sell rfl rfl rfl (by decide +kernel) ⟨Nat.le_of_ble_eq_true rfl, Nat.le_of_ble_eq_true rfl⟩) ⟨BX.blind, tw_recv hK hP (by decide) hk0 rfl rfl, fun U hU hW => ⟨rfl, BX.of hP hK hS0 hA hZ hU hW⟩⟩ rfl rfl hl.1 rfl (lv_room (Nat.le_of_ble_eq_true rfl)) dL_sell_4 ⟨Nat.le_of_ble_eq_true rfl, Nat.le_of_ble_eq_true rfl⟩) hS (fun q _ h => Or.inl h) (fun q h => Or.inl h) (fun q _ h => Or.inl h) (fun E9 ce9 q9 u9 t9 H locs ht hvm hpx hBX hz9 hk9 hS hce hcv hcl => ?_) (fun r1 u1 t H locs ht hvm hw hB hz hk hS => ?_)
  · obtain ⟨ec9, τ9⟩ := u9
    obtain ⟨hF9, hN9⟩ := hpx
    obtain ⟨rfl, hP9⟩ := hBX
    have hP9 := tw_back hP9 ht
    have hO9 : OutAt ac o v0 H := hO.kept (hk9 o hol hoA)
    obtain ⟨rfl, hF9⟩ := hF9
    refine vx_catch (name := "java/util/NoSuchElementException") hown [] ⟨0, 9, 12, 34⟩ [] (by rw [htb]; rfl) (by intro z hz; cases hz) (by decide) (by decide) (hts (.classLink RL 34 "java/util/NoSuchElementException") (by decide +kernel)) (va_Nw.use rfl hZ.2.2.2.2.2.2.2.2.2.2.2) hce hcv hcl ?_
    refine lv_astore_n (lv' := [(3, .ref q9), (0, .ref (ad 0 k0)), (1, .int x1), (2, .ref o)]) hx hb dL_sell_12 rfl hl (by decide) rfl (fun ls hl => ?_)
    refine lv_iconst (v := 1) hx hb dL_sell_13 (by decide) ?_
    exact vx_ret (W.iret (v := 1) hx hb hr (fun t ht hW => ⟨⟨1, (τ9, ad, v0), rfl, ⟨hF9, tw_le.rf.same hN9⟩, tw_at hP9 ht, hO9.at ht⟩, hS.F ht⟩) hS.2.2 dL_sell_14)
  · obtain ⟨hF, hN9⟩ := hw
    obtain ⟨τ1, rfl⟩ : ∃ z, z = u1 := ⟨_, rfl⟩
    try dsimp only at hF hN9 hB
    have hP := tw_back hB ht
    have hO1 : OutAt ac o v0 H := hO.kept (hk o hol hoA)
    refine lv_i2l (v := r1.toInt64) hx hb dL_sell_7 rfl ?_
    refine wr_last hx hb hK hP hO1 hoA hS dL_sell_8 (fun H locs hP hO hS => ?_)
    refine lv_goto (tgt := 15) hx hb dL_sell_9 (by decide) ?_
    refine lv_iconst (v := 0) hx hb dL_sell_15 (by decide) ?_
    exact vx_ret (W.iret (v := 0) hx hb hr (fun t ht hW => ⟨⟨0, (τ1, ad, r1.toInt64), rfl, ⟨hF, tw_le.rf.same hN9⟩, tw_at hP ht, hO.at ht⟩, hS.F ht⟩) hS.2.2 dL_sell_16)
def F_L_broken (τ0 : tw_T) (k0 : Nat) (x1 : Int32) (v0 : Int64) (Q : Int32 → Int64 → tw_T → Prop) : Prop := F_X9_broken τ0 k0 x1 (fun r τ => Q 0 r.toInt64 τ) (fun c τ => (c = 3 ∧ Q 1 v0 τ))
def rmL_broken : Room := { frames := 8, cells := 1, slots := 6, locals := 123 }
set_option maxHeartbeats 4000000 in
set_option maxRecDepth 100000 in
theorem mL_broken (l : Launch) (hlt : l.stackTraces = false) (dC : Nat → ClassId) (dI : Nat → Nat → Nat) (ac : Nat → ClassId) (sa : Nat → Nat) (A : Nat → Prop) (ad : Nat → Nat → Nat) (o : Nat) (τ0 : tw_T) (k0 : Nat) (x1 : Int32) (v0 : Int64) (Q : Int32 → Int64 → tw_T → Prop) (hF : F_L_broken τ0 k0 x1 v0 Q) (hk0 : k0 < gN τ0 0) : vx_Met l yL_broken wsL_broken rmL_broken (va_Pc [.ref (ad 0 k0), .int x1, .ref o] (BW dC dI ac sa A ad o τ0 v0)) (va_Qi (fun r (u : tw_T × (Nat → Nat → Nat) × Int64) => Q r u.2.2 u.1 ∧ tw_le τ0 ad u.1 u.2.1) (fun u t => PX dC dI ac A u.2.1 u.1 t.heap ∧ OutAt ac o u.2.2 t.heap) (fun q => A q ∨ q = o)) (vx_X (fun (_ : Unit) => False) (fun _ _ _ => True) (fun _ => False)) 1 6 (fun q => A q ∨ q = o) := by
  refine vx_ofWH (cc := cL_broken) (maxL := 4) (ret := (some .int)) (hh := [(0, 9, 12, 34)]) (by decide) rfl ?_
  intro p e s m args below meth c s₁ B hml hv
  obtain ⟨rfl, ⟨hP, hK, hA, hZ⟩, hO, hoA, hZL⟩ := hv
  have hx := B.exec
  have hb := B.bytes
  have hr := B.returns
  have hts := atoms_spec (ws := wsL_broken) B.pre
  have htb := vx_table (x := yL_broken) B (hts _ List.mem_cons_self)
  have hown : s.vm.findClass RL = some m.cls := findClass_of_methodNamed B.named
  have hlocks := B.notSynchronized
  have hol := hO.lt
  have hS : va_S (fun q => A q ∨ q = o) s.heap s.heap [] := va_S.rf
  have hS0 : va_S A s.heap s.heap [] := va_S.rf
  have hl := lv_entry ([.ref (ad 0 k0), .int x1, .ref o]) (n := 4) (Nat.le_of_ble_eq_true rfl)
  rw [lg_entry_eq]
  generalize (lg_sl ([.ref (ad 0 k0), .int x1, .ref o]) ++ List.replicate (4 - (lg_sl ([.ref (ad 0 k0), .int x1, .ref o])).length) Slot.unset).toArray = ls at hl ⊢
  have hl : lv_has ls 4 [(0, .ref (ad 0 k0)), (1, .int x1), (2, .ref o)] := hl
  unfold F_L_broken at hF
  refine lv_aload_n hx hb dL_broken_0 rfl (lv_at hl 2 rfl) ?_
  refine lv_iconst (v := 0) hx hb dL_broken_1 (by decide) ?_
  refine lv_aload_n hx hb dL_broken_2 rfl (lv_at hl 0 rfl) ?_
  refine lv_iload_n hx hb dL_broken_3 rfl (lv_at hl 1 rfl) ?_
  refine vx_calli (vx_runV (As := [.int x1]) (rest := [.int 0, .ref o]) ⟨hx, hb, hml, hown, hts⟩ (mX9_broken l hlt dC dI ac sa A ad τ0 k0 x1 _ _ hF hk0) (cwV 1 hts gL_broken_X9_broken rfl rfl rfl (by decide +kernel) ⟨Nat.le_of_ble_eq_true rfl, Nat.le_of_ble_eq_true rfl⟩) ⟨BX.blind, tw_recv hK hP (by decide) hk0 rfl rfl, fun U hU hW => ⟨rfl, BX.of hP hK hS0 hA hZ hU hW⟩⟩ rfl rfl hl.1 rfl (lv_room (Nat.le_of_ble_eq_true rfl)) dL_broken_4 ⟨Nat.le_of_ble_eq_true rfl, Nat.le_of_ble_eq_true rfl⟩) hS (fun q _ h => Or.inl h) (fun q h => Or.inl h) (fun q _ h => Or.inl h) (fun E9 ce9 q9 u9 t9 H locs ht hvm hpx hBX hz9 hk9 hS hce hcv hcl => ?_) (fun r1 u1 t H locs ht hvm hw hB hz hk hS => ?_)
  · obtain ⟨ec9, τ9⟩ := u9
    obtain ⟨hF9, hN9⟩ := hpx
    obtain ⟨rfl, hP9⟩ := hBX
    have hP9 := tw_back hP9 ht
    have hO9 : OutAt ac o v0 H := hO.kept (hk9 o hol hoA)
    obtain ⟨rfl, hF9⟩ := hF9
    refine vx_catch (name := "java/util/NoSuchElementException") hown [] ⟨0, 9, 12, 34⟩ [] (by rw [htb]; rfl) (by intro z hz; cases hz) (by decide) (by decide) (hts (.classLink RL 34 "java/util/NoSuchElementException") (by decide +kernel)) (va_Nw.use rfl hZ.2.2.2.2.2.2.2.2.2.2.2) hce hcv hcl ?_
    refine lv_astore_n (lv' := [(3, .ref q9), (0, .ref (ad 0 k0)), (1, .int x1), (2, .ref o)]) hx hb dL_broken_12 rfl hl (by decide) rfl (fun ls hl => ?_)
    refine lv_iconst (v := 1) hx hb dL_broken_13 (by decide) ?_
    exact vx_ret (W.iret (v := 1) hx hb hr (fun t ht hW => ⟨⟨1, (τ9, ad, v0), rfl, ⟨hF9, tw_le.rf.same hN9⟩, tw_at hP9 ht, hO9.at ht⟩, hS.F ht⟩) hS.2.2 dL_broken_14)
  · obtain ⟨hF, hN9⟩ := hw
    obtain ⟨τ1, rfl⟩ : ∃ z, z = u1 := ⟨_, rfl⟩
    try dsimp only at hF hN9 hB
    have hP := tw_back hB ht
    have hO1 : OutAt ac o v0 H := hO.kept (hk o hol hoA)
    refine lv_i2l (v := r1.toInt64) hx hb dL_broken_7 rfl ?_
    refine wr_last hx hb hK hP hO1 hoA hS dL_broken_8 (fun H locs hP hO hS => ?_)
    refine lv_goto (tgt := 15) hx hb dL_broken_9 (by decide) ?_
    refine lv_iconst (v := 0) hx hb dL_broken_15 (by decide) ?_
    exact vx_ret (W.iret (v := 0) hx hb hr (fun t ht hW => ⟨⟨0, (τ1, ad, r1.toInt64), rfl, ⟨hF, tw_le.rf.same hN9⟩, tw_at hP ht, hO.at ht⟩, hS.F ht⟩) hS.2.2 dL_broken_16)
def F_L_counted (τ0 : tw_T) (k0 : Nat) (x1 : Int32) (x2 : Int32) (v0 : Int64) (Q : Int32 → Int64 → tw_T → Prop) : Prop := F_X9_counted τ0 k0 x1 x2 (fun r τ => Q 0 r.toInt64 τ) (fun c τ => (c = 3 ∧ Q 1 v0 τ) ∨ (c = 0 ∧ Q 2 v0 τ))
def rmL_counted : Room := { frames := 8, cells := 2, slots := 12, locals := 125 }
set_option maxHeartbeats 4000000 in
set_option maxRecDepth 100000 in
theorem mL_counted (l : Launch) (hlt : l.stackTraces = false) (dC : Nat → ClassId) (dI : Nat → Nat → Nat) (ac : Nat → ClassId) (sa : Nat → Nat) (A : Nat → Prop) (ad : Nat → Nat → Nat) (o : Nat) (τ0 : tw_T) (k0 : Nat) (x1 : Int32) (x2 : Int32) (v0 : Int64) (Q : Int32 → Int64 → tw_T → Prop) (hF : F_L_counted τ0 k0 x1 x2 v0 Q) (hk0 : k0 < gN τ0 0) : vx_Met l yL_counted wsL_counted rmL_counted (va_Pc [.ref (ad 0 k0), .int x1, .int x2, .ref o] (BW dC dI ac sa A ad o τ0 v0)) (va_Qi (fun r (u : tw_T × (Nat → Nat → Nat) × Int64) => Q r u.2.2 u.1 ∧ tw_le τ0 ad u.1 u.2.1) (fun u t => PX dC dI ac A u.2.1 u.1 t.heap ∧ OutAt ac o u.2.2 t.heap) (fun q => A q ∨ q = o)) (vx_X (fun (_ : Unit) => False) (fun _ _ _ => True) (fun _ => False)) 2 12 (fun q => A q ∨ q = o) := by
  refine vx_ofWH (cc := cL_counted) (maxL := 5) (ret := (some .int)) (hh := [(0, 10, 13, 34), (0, 10, 17, 13)]) (by decide) rfl ?_
  intro p e s m args below meth c s₁ B hml hv
  obtain ⟨rfl, ⟨hP, hK, hA, hZ⟩, hO, hoA, hZL⟩ := hv
  have hx := B.exec
  have hb := B.bytes
  have hr := B.returns
  have hts := atoms_spec (ws := wsL_counted) B.pre
  have htb := vx_table (x := yL_counted) B (hts _ List.mem_cons_self)
  have hown : s.vm.findClass RL = some m.cls := findClass_of_methodNamed B.named
  have hlocks := B.notSynchronized
  have hol := hO.lt
  have hS : va_S (fun q => A q ∨ q = o) s.heap s.heap [] := va_S.rf
  have hS0 : va_S A s.heap s.heap [] := va_S.rf
  have hl := lv_entry ([.ref (ad 0 k0), .int x1, .int x2, .ref o]) (n := 5) (Nat.le_of_ble_eq_true rfl)
  rw [lg_entry_eq]
  generalize (lg_sl ([.ref (ad 0 k0), .int x1, .int x2, .ref o]) ++ List.replicate (5 - (lg_sl ([.ref (ad 0 k0), .int x1, .int x2, .ref o])).length) Slot.unset).toArray = ls at hl ⊢
  have hl : lv_has ls 5 [(0, .ref (ad 0 k0)), (1, .int x1), (2, .int x2), (3, .ref o)] := hl
  unfold F_L_counted at hF
  refine lv_aload_n hx hb dL_counted_0 rfl (lv_at hl 3 rfl) ?_
  refine lv_iconst (v := 0) hx hb dL_counted_1 (by decide) ?_
  refine lv_aload_n hx hb dL_counted_2 rfl (lv_at hl 0 rfl) ?_
  refine lv_iload_n hx hb dL_counted_3 rfl (lv_at hl 1 rfl) ?_
  refine lv_iload_n hx hb dL_counted_4 rfl (lv_at hl 2 rfl) ?_
  refine vx_calli (vx_runV (As := [.int x1, .int x2]) (rest := [.int 0, .ref o]) ⟨hx, hb, hml, hown, hts⟩ (mX9_counted l hlt dC dI ac sa A ad τ0 k0 x1 x2 _ _ hF hk0) (cwV 2 hts gL_counted_X9_counted rfl rfl rfl (by decide +kernel) ⟨Nat.le_of_ble_eq_true rfl, Nat.le_of_ble_eq_true rfl⟩) ⟨BX.blind, tw_recv hK hP (by decide) hk0 rfl rfl, fun U hU hW => ⟨rfl, BX.of hP hK hS0 hA hZ hU hW⟩⟩ rfl rfl hl.1 rfl (lv_room (Nat.le_of_ble_eq_true rfl)) dL_counted_5 ⟨Nat.le_of_ble_eq_true rfl, Nat.le_of_ble_eq_true rfl⟩) hS (fun q _ h => Or.inl h) (fun q h => Or.inl h) (fun q _ h => Or.inl h) (fun E9 ce9 q9 u9 t9 H locs ht hvm hpx hBX hz9 hk9 hS hce hcv hcl => ?_) (fun r1 u1 t H locs ht hvm hw hB hz hk hS => ?_)
  · obtain ⟨ec9, τ9⟩ := u9
    obtain ⟨hF9, hN9⟩ := hpx
    obtain ⟨rfl, hP9⟩ := hBX
    have hP9 := tw_back hP9 ht
    have hO9 : OutAt ac o v0 H := hO.kept (hk9 o hol hoA)
    rcases hF9 with ⟨rfl, hF9⟩ | ⟨rfl, hF9⟩
    · refine vx_catch (name := "java/util/NoSuchElementException") hown [] ⟨0, 10, 13, 34⟩ [⟨0, 10, 17, 13⟩] (by rw [htb]; rfl) (by intro z hz; cases hz) (by decide) (by decide) (hts (.classLink RL 34 "java/util/NoSuchElementException") (by decide +kernel)) (va_Nw.use rfl hZ.2.2.2.2.2.2.2.2.2.2.2) hce hcv hcl ?_
      refine lv_astore (lv' := [(4, .ref q9), (0, .ref (ad 0 k0)), (1, .int x1), (2, .int x2), (3, .ref o)]) hx hb dL_counted_13 hl (by decide) rfl (fun ls hl => ?_)
      refine lv_iconst (v := 1) hx hb dL_counted_15 (by decide) ?_
      exact vx_ret (W.iret (v := 1) hx hb hr (fun t ht hW => ⟨⟨1, (τ9, ad, v0), rfl, ⟨hF9, tw_le.rf.same hN9⟩, tw_at hP9 ht, hO9.at ht⟩, hS.F ht⟩) hS.2.2 dL_counted_16)
    · refine vx_catch (name := "java/lang/IllegalArgumentException") hown [⟨0, 10, 13, 34⟩] ⟨0, 10, 17, 13⟩ [] (by rw [htb]; rfl) (fun z hz => (List.mem_cons.mp hz).elim (fun ez => by subst ez; exact Or.inr ⟨by decide, "java/util/NoSuchElementException", hts (.classLink RL 34 "java/util/NoSuchElementException") (by decide +kernel), hZL 0 3 (by decide) (by decide) (by decide)⟩) (fun hz => by cases hz)) (by decide) (by decide) (hts (.classLink RL 13 "java/lang/IllegalArgumentException") (by decide +kernel)) (va_Nw.use rfl hZ.2.2.2.2.2.2.2.2.1) hce hcv hcl ?_
      refine lv_astore (lv' := [(4, .ref q9), (0, .ref (ad 0 k0)), (1, .int x1), (2, .int x2), (3, .ref o)]) hx hb dL_counted_17 hl (by decide) rfl (fun ls hl => ?_)
      refine lv_iconst (v := 2) hx hb dL_counted_19 (by decide) ?_
      exact vx_ret (W.iret (v := 2) hx hb hr (fun t ht hW => ⟨⟨2, (τ9, ad, v0), rfl, ⟨hF9, tw_le.rf.same hN9⟩, tw_at hP9 ht, hO9.at ht⟩, hS.F ht⟩) hS.2.2 dL_counted_20)
  · obtain ⟨hF, hN9⟩ := hw
    obtain ⟨τ1, rfl⟩ : ∃ z, z = u1 := ⟨_, rfl⟩
    try dsimp only at hF hN9 hB
    have hP := tw_back hB ht
    have hO1 : OutAt ac o v0 H := hO.kept (hk o hol hoA)
    refine lv_i2l (v := r1.toInt64) hx hb dL_counted_8 rfl ?_
    refine wr_last hx hb hK hP hO1 hoA hS dL_counted_9 (fun H locs hP hO hS => ?_)
    refine lv_goto (tgt := 21) hx hb dL_counted_10 (by decide) ?_
    refine lv_iconst (v := 0) hx hb dL_counted_21 (by decide) ?_
    exact vx_ret (W.iret (v := 0) hx hb hr (fun t ht hW => ⟨⟨0, (τ1, ad, r1.toInt64), rfl, ⟨hF, tw_le.rf.same hN9⟩, tw_at hP ht, hO.at ht⟩, hS.F ht⟩) hS.2.2 dL_counted_22)
def F_L_glass (τ0 : tw_T) (k0 : Nat) (x1 : Int32) (v0 : Int64) (Q : Int32 → Int64 → tw_T → Prop) : Prop := F_X9_glass τ0 k0 x1 (fun r τ => Q 0 r.toInt64 τ) (fun c τ => (c = 1 ∧ Q 1 v0 τ))
def rmL_glass : Room := { frames := 8, cells := 1, slots := 6, locals := 126 }
set_option maxHeartbeats 4000000 in
set_option maxRecDepth 100000 in
theorem mL_glass (l : Launch) (hlt : l.stackTraces = false) (dC : Nat → ClassId) (dI : Nat → Nat → Nat) (ac : Nat → ClassId) (sa : Nat → Nat) (A : Nat → Prop) (ad : Nat → Nat → Nat) (o : Nat) (τ0 : tw_T) (k0 : Nat) (x1 : Int32) (v0 : Int64) (Q : Int32 → Int64 → tw_T → Prop) (hF : F_L_glass τ0 k0 x1 v0 Q) (hk0 : k0 < gN τ0 0) : vx_Met l yL_glass wsL_glass rmL_glass (va_Pc [.ref (ad 0 k0), .int x1, .ref o] (BW dC dI ac sa A ad o τ0 v0)) (va_Qi (fun r (u : tw_T × (Nat → Nat → Nat) × Int64) => Q r u.2.2 u.1 ∧ tw_le τ0 ad u.1 u.2.1) (fun u t => PX dC dI ac A u.2.1 u.1 t.heap ∧ OutAt ac o u.2.2 t.heap) (fun q => A q ∨ q = o)) (vx_X (fun (_ : Unit) => False) (fun _ _ _ => True) (fun _ => False)) 1 6 (fun q => A q ∨ q = o) := by
  refine vx_ofWH (cc := cL_glass) (maxL := 4) (ret := (some .int)) (hh := [(0, 9, 12, 19)]) (by decide) rfl ?_
  intro p e s m args below meth c s₁ B hml hv
  obtain ⟨rfl, ⟨hP, hK, hA, hZ⟩, hO, hoA, hZL⟩ := hv
  have hx := B.exec
  have hb := B.bytes
  have hr := B.returns
  have hts := atoms_spec (ws := wsL_glass) B.pre
  have htb := vx_table (x := yL_glass) B (hts _ List.mem_cons_self)
  have hown : s.vm.findClass RL = some m.cls := findClass_of_methodNamed B.named
  have hlocks := B.notSynchronized
  have hol := hO.lt
  have hS : va_S (fun q => A q ∨ q = o) s.heap s.heap [] := va_S.rf
  have hS0 : va_S A s.heap s.heap [] := va_S.rf
  have hl := lv_entry ([.ref (ad 0 k0), .int x1, .ref o]) (n := 4) (Nat.le_of_ble_eq_true rfl)
  rw [lg_entry_eq]
  generalize (lg_sl ([.ref (ad 0 k0), .int x1, .ref o]) ++ List.replicate (4 - (lg_sl ([.ref (ad 0 k0), .int x1, .ref o])).length) Slot.unset).toArray = ls at hl ⊢
  have hl : lv_has ls 4 [(0, .ref (ad 0 k0)), (1, .int x1), (2, .ref o)] := hl
  unfold F_L_glass at hF
  refine lv_aload_n hx hb dL_glass_0 rfl (lv_at hl 2 rfl) ?_
  refine lv_iconst (v := 0) hx hb dL_glass_1 (by decide) ?_
  refine lv_aload_n hx hb dL_glass_2 rfl (lv_at hl 0 rfl) ?_
  refine lv_iload_n hx hb dL_glass_3 rfl (lv_at hl 1 rfl) ?_
  refine vx_calli (vx_runV (As := [.int x1]) (rest := [.int 0, .ref o]) ⟨hx, hb, hml, hown, hts⟩ (mX9_glass l hlt dC dI ac sa A ad τ0 k0 x1 _ _ hF hk0) (cwV 1 hts gL_glass_X9_glass rfl rfl rfl (by decide +kernel) ⟨Nat.le_of_ble_eq_true rfl, Nat.le_of_ble_eq_true rfl⟩) ⟨BX.blind, tw_recv hK hP (by decide) hk0 rfl rfl, fun U hU hW => ⟨rfl, BX.of hP hK hS0 hA hZ hU hW⟩⟩ rfl rfl hl.1 rfl (lv_room (Nat.le_of_ble_eq_true rfl)) dL_glass_4 ⟨Nat.le_of_ble_eq_true rfl, Nat.le_of_ble_eq_true rfl⟩) hS (fun q _ h => Or.inl h) (fun q h => Or.inl h) (fun q _ h => Or.inl h) (fun E9 ce9 q9 u9 t9 H locs ht hvm hpx hBX hz9 hk9 hS hce hcv hcl => ?_) (fun r1 u1 t H locs ht hvm hw hB hz hk hS => ?_)
  · obtain ⟨ec9, τ9⟩ := u9
    obtain ⟨hF9, hN9⟩ := hpx
    obtain ⟨rfl, hP9⟩ := hBX
    have hP9 := tw_back hP9 ht
    have hO9 : OutAt ac o v0 H := hO.kept (hk9 o hol hoA)
    obtain ⟨rfl, hF9⟩ := hF9
    refine vx_catch (name := "java/lang/IndexOutOfBoundsException") hown [] ⟨0, 9, 12, 19⟩ [] (by rw [htb]; rfl) (by intro z hz; cases hz) (by decide) (by decide) (hts (.classLink RL 19 "java/lang/IndexOutOfBoundsException") (by decide +kernel)) (va_Nw.use rfl hZ.2.2.2.2.2.2.2.2.2.1) hce hcv hcl ?_
    refine lv_astore_n (lv' := [(3, .ref q9), (0, .ref (ad 0 k0)), (1, .int x1), (2, .ref o)]) hx hb dL_glass_12 rfl hl (by decide) rfl (fun ls hl => ?_)
    refine lv_iconst (v := 1) hx hb dL_glass_13 (by decide) ?_
    exact vx_ret (W.iret (v := 1) hx hb hr (fun t ht hW => ⟨⟨1, (τ9, ad, v0), rfl, ⟨hF9, tw_le.rf.same hN9⟩, tw_at hP9 ht, hO9.at ht⟩, hS.F ht⟩) hS.2.2 dL_glass_14)
  · obtain ⟨hF, hN9⟩ := hw
    obtain ⟨τ1, rfl⟩ : ∃ z, z = u1 := ⟨_, rfl⟩
    try dsimp only at hF hN9 hB
    have hP := tw_back hB ht
    have hO1 : OutAt ac o v0 H := hO.kept (hk o hol hoA)
    refine lv_i2l (v := r1.toInt64) hx hb dL_glass_7 rfl ?_
    refine wr_last hx hb hK hP hO1 hoA hS dL_glass_8 (fun H locs hP hO hS => ?_)
    refine lv_goto (tgt := 15) hx hb dL_glass_9 (by decide) ?_
    refine lv_iconst (v := 0) hx hb dL_glass_15 (by decide) ?_
    exact vx_ret (W.iret (v := 0) hx hb hr (fun t ht hW => ⟨⟨0, (τ1, ad, r1.toInt64), rfl, ⟨hF, tw_le.rf.same hN9⟩, tw_at hP ht, hO.at ht⟩, hS.F ht⟩) hS.2.2 dL_glass_16)
def F_L_wait (τ0 : tw_T) (k0 : Nat) (x1 : Int32) (v0 : Int64) (Q : Int32 → Int64 → tw_T → Prop) : Prop := F_X9_wait τ0 k0 x1 (fun r τ => Q 0 r.toInt64 τ) (fun c τ => (c = 0 ∧ Q 1 v0 τ) ∨ (c = 2 ∧ Q 2 v0 τ))
def rmL_wait : Room := { frames := 7, cells := 1, slots := 6, locals := 104 }
set_option maxHeartbeats 4000000 in
set_option maxRecDepth 100000 in
theorem mL_wait (l : Launch) (hlt : l.stackTraces = false) (dC : Nat → ClassId) (dI : Nat → Nat → Nat) (ac : Nat → ClassId) (sa : Nat → Nat) (A : Nat → Prop) (ad : Nat → Nat → Nat) (o : Nat) (τ0 : tw_T) (k0 : Nat) (x1 : Int32) (v0 : Int64) (Q : Int32 → Int64 → tw_T → Prop) (hF : F_L_wait τ0 k0 x1 v0 Q) (hk0 : k0 < gN τ0 0) : vx_Met l yL_wait wsL_wait rmL_wait (va_Pc [.ref (ad 0 k0), .int x1, .ref o] (BW dC dI ac sa A ad o τ0 v0)) (va_Qi (fun r (u : tw_T × (Nat → Nat → Nat) × Int64) => Q r u.2.2 u.1 ∧ tw_le τ0 ad u.1 u.2.1) (fun u t => PX dC dI ac A u.2.1 u.1 t.heap ∧ OutAt ac o u.2.2 t.heap) (fun q => A q ∨ q = o)) (vx_X (fun (_ : Unit) => False) (fun _ _ _ => True) (fun _ => False)) 1 6 (fun q => A q ∨ q = o) := by
  refine vx_ofWH (cc := cL_wait) (maxL := 4) (ret := (some .int)) (hh := [(0, 9, 12, 13), (0, 9, 15, 61)]) (by decide) rfl ?_
  intro p e s m args below meth c s₁ B hml hv
  obtain ⟨rfl, ⟨hP, hK, hA, hZ⟩, hO, hoA, hZL⟩ := hv
  have hx := B.exec
  have hb := B.bytes
  have hr := B.returns
  have hts := atoms_spec (ws := wsL_wait) B.pre
  have htb := vx_table (x := yL_wait) B (hts _ List.mem_cons_self)
  have hown : s.vm.findClass RL = some m.cls := findClass_of_methodNamed B.named
  have hlocks := B.notSynchronized
  have hol := hO.lt
  have hS : va_S (fun q => A q ∨ q = o) s.heap s.heap [] := va_S.rf
  have hS0 : va_S A s.heap s.heap [] := va_S.rf
  have hl := lv_entry ([.ref (ad 0 k0), .int x1, .ref o]) (n := 4) (Nat.le_of_ble_eq_true rfl)
  rw [lg_entry_eq]
  generalize (lg_sl ([.ref (ad 0 k0), .int x1, .ref o]) ++ List.replicate (4 - (lg_sl ([.ref (ad 0 k0), .int x1, .ref o])).length) Slot.unset).toArray = ls at hl ⊢
  have hl : lv_has ls 4 [(0, .ref (ad 0 k0)), (1, .int x1), (2, .ref o)] := hl
  unfold F_L_wait at hF
  refine lv_aload_n hx hb dL_wait_0 rfl (lv_at hl 2 rfl) ?_
  refine lv_iconst (v := 0) hx hb dL_wait_1 (by decide) ?_
  refine lv_aload_n hx hb dL_wait_2 rfl (lv_at hl 0 rfl) ?_
  refine lv_iload_n hx hb dL_wait_3 rfl (lv_at hl 1 rfl) ?_
  refine vx_calli (vx_runV (As := [.int x1]) (rest := [.int 0, .ref o]) ⟨hx, hb, hml, hown, hts⟩ (mX9_wait l hlt dC dI ac sa A ad τ0 k0 x1 _ _ hF hk0) (cwV 1 hts gL_wait_X9_wait rfl rfl rfl (by decide +kernel) ⟨Nat.le_of_ble_eq_true rfl, Nat.le_of_ble_eq_true rfl⟩) ⟨BX.blind, tw_recv hK hP (by decide) hk0 rfl rfl, fun U hU hW => ⟨rfl, BX.of hP hK hS0 hA hZ hU hW⟩⟩ rfl rfl hl.1 rfl (lv_room (Nat.le_of_ble_eq_true rfl)) dL_wait_4 ⟨Nat.le_of_ble_eq_true rfl, Nat.le_of_ble_eq_true rfl⟩) hS (fun q _ h => Or.inl h) (fun q h => Or.inl h) (fun q _ h => Or.inl h) (fun E9 ce9 q9 u9 t9 H locs ht hvm hpx hBX hz9 hk9 hS hce hcv hcl => ?_) (fun r1 u1 t H locs ht hvm hw hB hz hk hS => ?_)
  · obtain ⟨ec9, τ9⟩ := u9
    obtain ⟨hF9, hN9⟩ := hpx
    obtain ⟨rfl, hP9⟩ := hBX
    have hP9 := tw_back hP9 ht
    have hO9 : OutAt ac o v0 H := hO.kept (hk9 o hol hoA)
    rcases hF9 with ⟨rfl, hF9⟩ | ⟨rfl, hF9⟩
    · refine vx_catch (name := "java/lang/IllegalArgumentException") hown [] ⟨0, 9, 12, 13⟩ [⟨0, 9, 15, 61⟩] (by rw [htb]; rfl) (by intro z hz; cases hz) (by decide) (by decide) (hts (.classLink RL 13 "java/lang/IllegalArgumentException") (by decide +kernel)) (va_Nw.use rfl hZ.2.2.2.2.2.2.2.2.1) hce hcv hcl ?_
      refine lv_astore_n (lv' := [(3, .ref q9), (0, .ref (ad 0 k0)), (1, .int x1), (2, .ref o)]) hx hb dL_wait_12 rfl hl (by decide) rfl (fun ls hl => ?_)
      refine lv_iconst (v := 1) hx hb dL_wait_13 (by decide) ?_
      exact vx_ret (W.iret (v := 1) hx hb hr (fun t ht hW => ⟨⟨1, (τ9, ad, v0), rfl, ⟨hF9, tw_le.rf.same hN9⟩, tw_at hP9 ht, hO9.at ht⟩, hS.F ht⟩) hS.2.2 dL_wait_14)
    · refine vx_catch (name := "java/lang/IllegalStateException") hown [⟨0, 9, 12, 13⟩] ⟨0, 9, 15, 61⟩ [] (by rw [htb]; rfl) (fun z hz => (List.mem_cons.mp hz).elim (fun ez => by subst ez; exact Or.inr ⟨by decide, "java/lang/IllegalArgumentException", hts (.classLink RL 13 "java/lang/IllegalArgumentException") (by decide +kernel), hZL 2 0 (by decide) (by decide) (by decide)⟩) (fun hz => by cases hz)) (by decide) (by decide) (hts (.classLink RL 61 "java/lang/IllegalStateException") (by decide +kernel)) (va_Nw.use rfl hZ.2.2.2.2.2.2.2.2.2.2.1) hce hcv hcl ?_
      refine lv_astore_n (lv' := [(3, .ref q9), (0, .ref (ad 0 k0)), (1, .int x1), (2, .ref o)]) hx hb dL_wait_15 rfl hl (by decide) rfl (fun ls hl => ?_)
      refine lv_iconst (v := 2) hx hb dL_wait_16 (by decide) ?_
      exact vx_ret (W.iret (v := 2) hx hb hr (fun t ht hW => ⟨⟨2, (τ9, ad, v0), rfl, ⟨hF9, tw_le.rf.same hN9⟩, tw_at hP9 ht, hO9.at ht⟩, hS.F ht⟩) hS.2.2 dL_wait_17)
  · obtain ⟨hF, hN9⟩ := hw
    obtain ⟨τ1, rfl⟩ : ∃ z, z = u1 := ⟨_, rfl⟩
    try dsimp only at hF hN9 hB
    have hP := tw_back hB ht
    have hO1 : OutAt ac o v0 H := hO.kept (hk o hol hoA)
    refine lv_i2l (v := r1.toInt64) hx hb dL_wait_7 rfl ?_
    refine wr_last hx hb hK hP hO1 hoA hS dL_wait_8 (fun H locs hP hO hS => ?_)
    refine lv_goto (tgt := 18) hx hb dL_wait_9 (by decide) ?_
    refine lv_iconst (v := 0) hx hb dL_wait_18 (by decide) ?_
    exact vx_ret (W.iret (v := 0) hx hb hr (fun t ht hW => ⟨⟨0, (τ1, ad, r1.toInt64), rfl, ⟨hF, tw_le.rf.same hN9⟩, tw_at hP ht, hO.at ht⟩, hS.F ht⟩) hS.2.2 dL_wait_19)
def F_L_dish (τ0 : tw_T) (k0 : Nat) (x1 : Int32) (v0 : Int64) (Q : Int32 → Int64 → tw_T → Prop) : Prop := F_X9_dish τ0 k0 x1 (fun r τ => Q 0 r.toInt64 τ) (fun c τ => (c = 0 ∧ Q 1 v0 τ) ∨ (c = 2 ∧ Q 2 v0 τ))
def rmL_dish : Room := { frames := 9, cells := 5, slots := 53, locals := 200 }
set_option maxHeartbeats 4000000 in
set_option maxRecDepth 100000 in
theorem mL_dish (l : Launch) (hlt : l.stackTraces = false) (dC : Nat → ClassId) (dI : Nat → Nat → Nat) (ac : Nat → ClassId) (sa : Nat → Nat) (A : Nat → Prop) (ad : Nat → Nat → Nat) (o : Nat) (τ0 : tw_T) (k0 : Nat) (x1 : Int32) (v0 : Int64) (Q : Int32 → Int64 → tw_T → Prop) (hF : F_L_dish τ0 k0 x1 v0 Q) (hk0 : k0 < gN τ0 0) (hsa : ∀ i, i < 8 → ad 1000 i = sa i) (h8 : 8 ≤ gN τ0 1000) : vx_Met l yL_dish wsL_dish rmL_dish (va_Pc [.ref (ad 0 k0), .int x1, .ref o] (BW dC dI ac sa A ad o τ0 v0)) (va_Qi (fun r (u : tw_T × (Nat → Nat → Nat) × Int64) => Q r u.2.2 u.1 ∧ tw_le τ0 ad u.1 u.2.1) (fun u t => PX dC dI ac A u.2.1 u.1 t.heap ∧ OutAt ac o u.2.2 t.heap) (fun q => A q ∨ q = o)) (vx_X (fun (_ : Unit) => False) (fun _ _ _ => True) (fun _ => False)) 5 53 (fun q => A q ∨ q = o) := by
  refine vx_ofWH (cc := cL_dish) (maxL := 4) (ret := (some .int)) (hh := [(0, 9, 12, 13), (0, 9, 15, 61)]) (by decide) rfl ?_
  intro p e s m args below meth c s₁ B hml hv
  obtain ⟨rfl, ⟨hP, hK, hA, hZ⟩, hO, hoA, hZL⟩ := hv
  have hx := B.exec
  have hb := B.bytes
  have hr := B.returns
  have hts := atoms_spec (ws := wsL_dish) B.pre
  have htb := vx_table (x := yL_dish) B (hts _ List.mem_cons_self)
  have hown : s.vm.findClass RL = some m.cls := findClass_of_methodNamed B.named
  have hlocks := B.notSynchronized
  have hol := hO.lt
  have hS : va_S (fun q => A q ∨ q = o) s.heap s.heap [] := va_S.rf
  have hS0 : va_S A s.heap s.heap [] := va_S.rf
  have hl := lv_entry ([.ref (ad 0 k0), .int x1, .ref o]) (n := 4) (Nat.le_of_ble_eq_true rfl)
  rw [lg_entry_eq]
  generalize (lg_sl ([.ref (ad 0 k0), .int x1, .ref o]) ++ List.replicate (4 - (lg_sl ([.ref (ad 0 k0), .int x1, .ref o])).length) Slot.unset).toArray = ls at hl ⊢
  have hl : lv_has ls 4 [(0, .ref (ad 0 k0)), (1, .int x1), (2, .ref o)] := hl
  unfold F_L_dish at hF
  refine lv_aload_n hx hb dL_dish_0 rfl (lv_at hl 2 rfl) ?_
  refine lv_iconst (v := 0) hx hb dL_dish_1 (by decide) ?_
  refine lv_aload_n hx hb dL_dish_2 rfl (lv_at hl 0 rfl) ?_
  refine lv_iload_n hx hb dL_dish_3 rfl (lv_at hl 1 rfl) ?_
  refine vx_calli (vx_runV (As := [.int x1]) (rest := [.int 0, .ref o]) ⟨hx, hb, hml, hown, hts⟩ (mX9_dish l hlt dC dI ac sa A ad τ0 k0 x1 _ _ hF hk0 hsa h8) (cwV 1 hts gL_dish_X9_dish rfl rfl rfl (by decide +kernel) ⟨Nat.le_of_ble_eq_true rfl, Nat.le_of_ble_eq_true rfl⟩) ⟨BX.blind, tw_recv hK hP (by decide) hk0 rfl rfl, fun U hU hW => ⟨rfl, BX.of hP hK hS0 hA hZ hU hW⟩⟩ rfl rfl hl.1 rfl (lv_room (Nat.le_of_ble_eq_true rfl)) dL_dish_4 ⟨Nat.le_of_ble_eq_true rfl, Nat.le_of_ble_eq_true rfl⟩) hS (fun q _ h => Or.inl h) (fun q h => Or.inl h) (fun q _ h => Or.inl h) (fun E9 ce9 q9 u9 t9 H locs ht hvm hpx hBX hz9 hk9 hS hce hcv hcl => ?_) (fun r1 u1 t H locs ht hvm hw hB hz hk hS => ?_)
  · obtain ⟨ec9, τ9, ad9⟩ := u9
    obtain ⟨hF9, hN9⟩ := hpx
    obtain ⟨rfl, hP9⟩ := hBX
    have hP9 := tw_back hP9 ht
    have hO9 : OutAt ac o v0 H := hO.kept (hk9 o hol hoA)
    rcases hF9 with ⟨rfl, hF9⟩ | ⟨rfl, hF9⟩
    · refine vx_catch (name := "java/lang/IllegalArgumentException") hown [] ⟨0, 9, 12, 13⟩ [⟨0, 9, 15, 61⟩] (by rw [htb]; rfl) (by intro z hz; cases hz) (by decide) (by decide) (hts (.classLink RL 13 "java/lang/IllegalArgumentException") (by decide +kernel)) (va_Nw.use rfl hZ.2.2.2.2.2.2.2.2.1) hce hcv hcl ?_
      refine lv_astore_n (lv' := [(3, .ref q9), (0, .ref (ad 0 k0)), (1, .int x1), (2, .ref o)]) hx hb dL_dish_12 rfl hl (by decide) rfl (fun ls hl => ?_)
      refine lv_iconst (v := 1) hx hb dL_dish_13 (by decide) ?_
      exact vx_ret (W.iret (v := 1) hx hb hr (fun t ht hW => ⟨⟨1, (τ9, ad9, v0), rfl, ⟨hF9, hN9⟩, tw_at hP9 ht, hO9.at ht⟩, hS.F ht⟩) hS.2.2 dL_dish_14)
    · refine vx_catch (name := "java/lang/IllegalStateException") hown [⟨0, 9, 12, 13⟩] ⟨0, 9, 15, 61⟩ [] (by rw [htb]; rfl) (fun z hz => (List.mem_cons.mp hz).elim (fun ez => by subst ez; exact Or.inr ⟨by decide, "java/lang/IllegalArgumentException", hts (.classLink RL 13 "java/lang/IllegalArgumentException") (by decide +kernel), hZL 2 0 (by decide) (by decide) (by decide)⟩) (fun hz => by cases hz)) (by decide) (by decide) (hts (.classLink RL 61 "java/lang/IllegalStateException") (by decide +kernel)) (va_Nw.use rfl hZ.2.2.2.2.2.2.2.2.2.2.1) hce hcv hcl ?_
      refine lv_astore_n (lv' := [(3, .ref q9), (0, .ref (ad 0 k0)), (1, .int x1), (2, .ref o)]) hx hb dL_dish_15 rfl hl (by decide) rfl (fun ls hl => ?_)
      refine lv_iconst (v := 2) hx hb dL_dish_16 (by decide) ?_
      exact vx_ret (W.iret (v := 2) hx hb hr (fun t ht hW => ⟨⟨2, (τ9, ad9, v0), rfl, ⟨hF9, hN9⟩, tw_at hP9 ht, hO9.at ht⟩, hS.F ht⟩) hS.2.2 dL_dish_17)
  · obtain ⟨hF, hN9⟩ := hw
    obtain ⟨τ1, ad1⟩ := u1
    try dsimp only at hF hN9 hB
    have hP := tw_back hB ht
    have hO1 : OutAt ac o v0 H := hO.kept (hk o hol hoA)
    refine lv_i2l (v := r1.toInt64) hx hb dL_dish_7 rfl ?_
    refine wr_last hx hb hK hP hO1 hoA hS dL_dish_8 (fun H locs hP hO hS => ?_)
    refine lv_goto (tgt := 18) hx hb dL_dish_9 (by decide) ?_
    refine lv_iconst (v := 0) hx hb dL_dish_18 (by decide) ?_
    exact vx_ret (W.iret (v := 0) hx hb hr (fun t ht hW => ⟨⟨0, (τ1, ad1, r1.toInt64), rfl, ⟨hF, hN9⟩, tw_at hP ht, hO.at ht⟩, hS.F ht⟩) hS.2.2 dL_dish_19)
