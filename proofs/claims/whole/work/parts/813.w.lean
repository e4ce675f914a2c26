def F_L_score (τ0 : tw_T) (k0 : Nat) (x1 : Int32) (x2 : Int32) (v0 : Int64) (Q : Int32 → Int64 → tw_T → Prop) : Prop := F_X9_score τ0 k0 x1 x2 (fun r τ => Q 0 r.toInt64 τ) (fun c τ => (c = 3 ∧ Q 1 v0 τ) ∨ (c = 1 ∧ Q 2 v0 τ))
def rmL_score : Room := { frames := 8, cells := 2, slots := 12, locals := 136 }
set_option maxHeartbeats 4000000 in
set_option maxRecDepth 100000 in
theorem mL_score (l : Launch) (hlt : l.stackTraces = false) (dC : Nat → ClassId) (dI : Nat → Nat → Nat) (ac : Nat → ClassId) (sa : Nat → Nat) (A : Nat → Prop) (ad : Nat → Nat → Nat) (o : Nat) (τ0 : tw_T) (k0 : Nat) (x1 : Int32) (x2 : Int32) (v0 : Int64) (Q : Int32 → Int64 → tw_T → Prop) (hF : F_L_score τ0 k0 x1 x2 v0 Q) (hk0 : k0 < gN τ0 0) (hsa : ∀ i, i < 8 → ad 1000 i = sa i) (h8 : 8 ≤ gN τ0 1000) : vx_Met l yL_score wsL_score rmL_score (va_Pc [.ref (ad 0 k0), .int x1, .int x2, .ref o] (BW dC dI ac sa A ad o τ0 v0)) (va_Qi (fun r (u : tw_T × (Nat → Nat → Nat) × Int64) => Q r u.2.2 u.1 ∧ tw_le τ0 ad u.1 u.2.1) (fun u t => PX dC dI ac A u.2.1 u.1 t.heap ∧ OutAt ac o u.2.2 t.heap) (fun q => A q ∨ q = o)) (vx_X (fun (_ : Unit) => False) (fun _ _ _ => True) (fun _ => False)) 2 12 (fun q => A q ∨ q = o) := by
  refine vx_ofWH (cc := cL_score) (maxL := 5) (ret := (some .int)) (hh := [(0, 10, 13, 34), (0, 10, 17, 19)]) (by decide) rfl ?_
  intro p e s m args below meth c s₁ B hml hv
  obtain ⟨rfl, ⟨hP, hK, hA, hZ⟩, hO, hoA, hZL⟩ := hv
  have hx := B.exec
  have hb := B.bytes
  have hr := B.returns
  have hts := atoms_spec (ws := wsL_score) B.pre
  have htb := vx_table (x := yL_score) B (hts _ List.mem_cons_self)
  have hown : s.vm.findClass RL = some m.cls := findClass_of_methodNamed B.named
  have hlocks := B.notSynchronized
  have hol := hO.lt
  have hS : va_S (fun q => A q ∨ q = o) s.heap s.heap [] := va_S.rf
  have hS0 : va_S A s.heap s.heap [] := va_S.rf
  have hl := lv_entry ([.ref (ad 0 k0), .int x1, .int x2, .ref o]) (n := 5) (Nat.le_of_ble_eq_true rfl)
  rw [lg_entry_eq]
  generalize (lg_sl ([.ref (ad 0 k0), .int x1, .int x2, .ref o]) ++ List.replicate (5 - (lg_sl ([.ref (ad 0 k0), .int x1, .int x2, .ref o])).length) Slot.unset).toArray = ls at hl ⊢
  have hl : lv_has ls 5 [(0, .ref (ad 0 k0)), (1, .int x1), (2, .int x2), (3, .ref o)] := hl
  unfold F_L_score at hF
  refine lv_aload_n hx hb dL_score_0 rfl (lv_at hl 3 rfl) ?_
  refine lv_iconst (v := 0) hx hb dL_score_1 (by decide) ?_
  refine lv_aload_n hx hb dL_score_2 rfl (lv_at hl 0 rfl) ?_
  refine lv_iload_n hx hb dL_score_3 rfl (lv_at hl 1 rfl) ?_
  refine lv_iload_n hx hb dL_score_4 rfl (lv_at hl 2 rfl) ?_
  refine vx_calli (vx_runV (As := [.int x1, .int x2]) (rest := [.int 0, .ref o]) ⟨hx, hb, hml, hown, hts⟩ (mX9_score l hlt dC dI ac sa A ad τ0 k0 x1 x2 _ _ hF hk0 hsa h8) (cwV 2 hts gL_score_X9_score rfl rfl rfl (by decide +kernel) ⟨Nat.le_of_ble_eq_true rfl, Nat.le_of_ble_eq_true rfl⟩) ⟨BX.blind, tw_recv hK hP (by decide) hk0 rfl rfl, fun U hU hW => ⟨rfl, BX.of hP hK hS0 hA hZ hU hW⟩⟩ rfl rfl hl.1 rfl (lv_room (Nat.le_of_ble_eq_true rfl)) dL_score_5 ⟨Nat.le_of_ble_eq_true rfl, Nat.le_of_ble_eq_true rfl⟩) hS (fun q _ h => Or.inl h) (fun q h => Or.inl h) (fun q _ h => Or.inl h) (fun E9 ce9 q9 u9 t9 H locs ht hvm hpx hBX hz9 hk9 hS hce hcv hcl => ?_) (fun r1 u1 t H locs ht hvm hw hB hz hk hS => ?_)
  · obtain ⟨ec9, τ9⟩ := u9
    obtain ⟨hF9, hN9⟩ := hpx
    obtain ⟨rfl, hP9⟩ := hBX
    have hP9 := tw_back hP9 ht
    have hO9 : OutAt ac o v0 H := hO.kept (hk9 o hol hoA)
    rcases hF9 with ⟨rfl, hF9⟩ | ⟨rfl, hF9⟩
    · refine vx_catch (name := "java/util/NoSuchElementException") hown [] ⟨0, 10, 13, 34⟩ [⟨0, 10, 17, 19⟩] (by rw [htb]; rfl) (by intro z hz; cases hz) (by decide) (by decide) (hts (.classLink RL 34 "java/util/NoSuchElementException") (by decide +kernel)) (va_Nw.use rfl hZ.2.2.2.2.2.2.2.2.2.2.2) hce hcv hcl ?_
      refine lv_astore (lv' := [(4, .ref q9), (0, .ref (ad 0 k0)), (1, .int x1), (2, .int x2), (3, .ref o)]) hx hb dL_score_13 hl (by decide) rfl (fun ls hl => ?_)
      refine lv_iconst (v := 1) hx hb dL_score_15 (by decide) ?_
      exact vx_ret (W.iret (v := 1) hx hb hr (fun t ht hW => ⟨⟨1, (τ9, ad, v0), rfl, ⟨hF9, tw_le.rf.same hN9⟩, tw_at hP9 ht, hO9.at ht⟩, hS.F ht⟩) hS.2.2 dL_score_16)
    · refine vx_catch (name := "java/lang/IndexOutOfBoundsException") hown [⟨0, 10, 13, 34⟩] ⟨0, 10, 17, 19⟩ [] (by rw [htb]; rfl) (fun z hz => (List.mem_cons.mp hz).elim (fun ez => by subst ez; exact Or.inr ⟨by decide, "java/util/NoSuchElementException", hts (.classLink RL 34 "java/util/NoSuchElementException") (by decide +kernel), hZL 1 3 (by decide) (by decide) (by decide)⟩) (fun hz => by cases hz)) (by decide) (by decide) (hts (.classLink RL 19 "java/lang/IndexOutOfBoundsException") (by decide +kernel)) (va_Nw.use rfl hZ.2.2.2.2.2.2.2.2.2.1) hce hcv hcl ?_
      refine lv_astore (lv' := [(4, .ref q9), (0, .ref (ad 0 k0)), (1, .int x1), (2, .int x2), (3, .ref o)]) hx hb dL_score_17 hl (by decide) rfl (fun ls hl => ?_)
      refine lv_iconst (v := 2) hx hb dL_score_19 (by decide) ?_
      exact vx_ret (W.iret (v := 2) hx hb hr (fun t ht hW => ⟨⟨2, (τ9, ad, v0), rfl, ⟨hF9, tw_le.rf.same hN9⟩, tw_at hP9 ht, hO9.at ht⟩, hS.F ht⟩) hS.2.2 dL_score_20)
  · obtain ⟨hF, hN9⟩ := hw
    obtain ⟨τ1, rfl⟩ : ∃ z, z = u1 := ⟨_, rfl⟩
    try dsimp only at hF hN9 hB
    have hP := tw_back hB ht
    have hO1 : OutAt ac o v0 H := hO.kept (hk o hol hoA)
    refine lv_i2l (v := r1.toInt64) hx hb dL_score_8 rfl ?_
    refine wr_last hx hb hK hP hO1 hoA hS dL_score_9 (fun H locs hP hO hS => ?_)
    refine lv_goto (tgt := 21) hx hb dL_score_10 (by decide) ?_
    refine lv_iconst (v := 0) hx hb dL_score_21 (by decide) ?_
    exact vx_ret (W.iret (v := 0) hx hb hr (fun t ht hW => ⟨⟨0, (τ1, ad, r1.toInt64), rfl, ⟨hF, tw_le.rf.same hN9⟩, tw_at hP ht, hO.at ht⟩, hS.F ht⟩) hS.2.2 dL_score_22)
def F_L_match (τ0 : tw_T) (k0 : Nat) (x1 : Int32) (x2 : Int32) (v0 : Int64) (Q : Int32 → Int64 → tw_T → Prop) : Prop := F_X9_match τ0 k0 x1 x2 (fun r τ => Q 0 r.toInt64 τ) (fun c τ => (c = 3 ∧ Q 1 v0 τ))
def rmL_match : Room := { frames := 8, cells := 1, slots := 6, locals := 138 }
set_option maxHeartbeats 4000000 in
set_option maxRecDepth 100000 in
theorem mL_match (l : Launch) (hlt : l.stackTraces = false) (dC : Nat → ClassId) (dI : Nat → Nat → Nat) (ac : Nat → ClassId) (sa : Nat → Nat) (A : Nat → Prop) (ad : Nat → Nat → Nat) (o : Nat) (τ0 : tw_T) (k0 : Nat) (x1 : Int32) (x2 : Int32) (v0 : Int64) (Q : Int32 → Int64 → tw_T → Prop) (hF : F_L_match τ0 k0 x1 x2 v0 Q) (hk0 : k0 < gN τ0 0) (hsa : ∀ i, i < 8 → ad 1000 i = sa i) (h8 : 8 ≤ gN τ0 1000) : vx_Met l yL_match wsL_match rmL_match (va_Pc [.ref (ad 0 k0), .int x1, .int x2, .ref o] (BW dC dI ac sa A ad o τ0 v0)) (va_Qi (fun r (u : tw_T × (Nat → Nat → Nat) × Int64) => Q r u.2.2 u.1 ∧ tw_le τ0 ad u.1 u.2.1) (fun u t => PX dC dI ac A u.2.1 u.1 t.heap ∧ OutAt ac o u.2.2 t.heap) (fun q => A q ∨ q = o)) (vx_X (fun (_ : Unit) => False) (fun _ _ _ => True) (fun _ => False)) 1 6 (fun q => A q ∨ q = o) := by
  refine vx_ofWH (cc := cL_match) (maxL := 5) (ret := (some .int)) (hh := [(0, 10, 13, 34)]) (by decide) rfl ?_
  intro p e s m args below meth c s₁ B hml hv
  obtain ⟨rfl, ⟨hP, hK, hA, hZ⟩, hO, hoA, hZL⟩ := hv
  have hx := B.exec
  have hb := B.bytes
  have hr := B.returns
  have hts := atoms_spec (ws := wsL_match) B.pre
  have htb := vx_table (x := yL_match) B (hts _ List.mem_cons_self)
  have hown : s.vm.findClass RL = some m.cls := findClass_of_methodNamed B.named
  have hlocks := B.notSynchronized
  have hol := hO.lt
  have hS : va_S (fun q => A q ∨ q = o) s.heap s.heap [] := va_S.rf
  have hS0 : va_S A s.heap s.heap [] := va_S.rf
  have hl := lv_entry ([.ref (ad 0 k0), .int x1, .int x2, .ref o]) (n := 5) (Nat.le_of_ble_eq_true rfl)
  rw [lg_entry_eq]
  generalize (lg_sl ([.ref (ad 0 k0), .int x1, .int x2, .ref o]) ++ List.replicate (5 - (lg_sl ([.ref (ad 0 k0), .int x1, .int x2, .ref o])).length) Slot.unset).toArray = ls at hl ⊢
  have hl : lv_has ls 5 [(0, .ref (ad 0 k0)), (1, .int x1), (2, .int x2), (3, .ref o)] := hl
  unfold F_L_match at hF
  refine lv_aload_n hx hb dL_match_0 rfl (lv_at hl 3 rfl) ?_
  refine lv_iconst (v := 0) hx hb dL_match_1 (by decide) ?_
  refine lv_aload_n hx hb dL_match_2 rfl (lv_at hl 0 rfl) ?_
  refine lv_iload_n hx hb dL_match_3 rfl (lv_at hl 1 rfl) ?_
  refine lv_iload_n hx hb dL_match_4 rfl (lv_at hl 2 rfl) ?_
  refine vx_calli (vx_runV (As := [.int x1, .int x2]) (rest := [.int 0, .ref o]) ⟨hx, hb, hml, hown, hts⟩ (mX9_match l hlt dC dI ac sa A ad τ0 k0 x1 x2 _ _ hF hk0 hsa h8) (cwV 2 hts gL_match_X9_match rfl rfl rfl (by decide +kernel) ⟨Nat.le_of_ble_eq_true rfl, Nat.le_of_ble_eq_true rfl⟩) ⟨BX.blind, tw_recv hK hP (by decide) hk0 rfl rfl, fun U hU hW => ⟨rfl, BX.of hP hK hS0 hA hZ hU hW⟩⟩ rfl rfl hl.1 rfl (lv_room (Nat.le_of_ble_eq_true rfl)) dL_match_5 ⟨Nat.le_of_ble_eq_true rfl, Nat.le_of_ble_eq_true rfl⟩) hS (fun q _ h => Or.inl h) (fun q h => Or.inl h) (fun q _ h => Or.inl h) (fun E9 ce9 q9 u9 t9 H locs ht hvm hpx hBX hz9 hk9 hS hce hcv hcl => ?_) (fun r1 u1 t H locs ht hvm hw hB hz hk hS => ?_)
  · obtain ⟨ec9, τ9⟩ := u9
    obtain ⟨hF9, hN9⟩ := hpx
    obtain ⟨rfl, hP9⟩ := hBX
    have hP9 := tw_back hP9 ht
    have hO9 : OutAt ac o v0 H := hO.kept (hk9 o hol hoA)
    obtain ⟨rfl, hF9⟩ := hF9
    refine vx_catch (name := "java/util/NoSuchElementException") hown [] ⟨0, 10, 13, 34⟩ [] (by rw [htb]; rfl) (by intro z hz; cases hz) (by decide) (by decide) (hts (.classLink RL 34 "java/util/NoSuchElementException") (by decide +kernel)) (va_Nw.use rfl hZ.2.2.2.2.2.2.2.2.2.2.2) hce hcv hcl ?_
    refine lv_astore (lv' := [(4, .ref q9), (0, .ref (ad 0 k0)), (1, .int x1), (2, .int x2), (3, .ref o)]) hx hb dL_match_13 hl (by decide) rfl (fun ls hl => ?_)
    refine lv_iconst (v := 1) hx hb dL_match_15 (by decide) ?_
    exact vx_ret (W.iret (v := 1) hx hb hr (fun t ht hW => ⟨⟨1, (τ9, ad, v0), rfl, ⟨hF9, tw_le.rf.same hN9⟩, tw_at hP9 ht, hO9.at ht⟩, hS.F ht⟩) hS.2.2 dL_match_16)
  · obtain ⟨hF, hN9⟩ := hw
    obtain ⟨τ1, rfl⟩ : ∃ z, z = u1 := ⟨_, rfl⟩
    try dsimp only at hF hN9 hB
    have hP := tw_back hB ht
    have hO1 : OutAt ac o v0 H := hO.kept (hk o hol hoA)
    refine lv_i2l (v := r1.toInt64) hx hb dL_match_8 rfl ?_
    refine wr_last hx hb hK hP hO1 hoA hS dL_match_9 (fun H locs hP hO hS => ?_)
    refine lv_goto (tgt := 17) hx hb dL_match_10 (by decide) ?_
    refine lv_iconst (v := 0) hx hb dL_match_17 (by decide) ?_
    exact vx_ret (W.iret (v := 0) hx hb hr (fun t ht hW => ⟨⟨0, (τ1, ad, r1.toInt64), rfl, ⟨hF, tw_le.rf.same hN9⟩, tw_at hP ht, hO.at ht⟩, hS.F ht⟩) hS.2.2 dL_match_18)
def F_L_sheet (τ0 : tw_T) (k0 : Nat) (x1 : Int32) (v0 : Int64) (Q : Int32 → Int64 → tw_T → Prop) : Prop := F_X9_sheet τ0 k0 x1 (fun r τ => Q 0 r.toInt64 τ) (fun c τ => (c = 0 ∧ Q 1 v0 τ))
def rmL_sheet : Room := { frames := 7, cells := 13, slots := 423, locals := 103 }
set_option maxHeartbeats 4000000 in
set_option maxRecDepth 100000 in
theorem mL_sheet (l : Launch) (hlt : l.stackTraces = false) (dC : Nat → ClassId) (dI : Nat → Nat → Nat) (ac : Nat → ClassId) (sa : Nat → Nat) (A : Nat → Prop) (ad : Nat → Nat → Nat) (o : Nat) (τ0 : tw_T) (k0 : Nat) (x1 : Int32) (v0 : Int64) (Q : Int32 → Int64 → tw_T → Prop) (hF : F_L_sheet τ0 k0 x1 v0 Q) (hk0 : k0 < gN τ0 0) : vx_Met l yL_sheet wsL_sheet rmL_sheet (va_Pc [.ref (ad 0 k0), .int x1, .ref o] (BW dC dI ac sa A ad o τ0 v0)) (va_Qi (fun r (u : tw_T × (Nat → Nat → Nat) × Int64) => Q r u.2.2 u.1 ∧ tw_le τ0 ad u.1 u.2.1) (fun u t => PX dC dI ac A u.2.1 u.1 t.heap ∧ OutAt ac o u.2.2 t.heap) (fun q => A q ∨ q = o)) (vx_X (fun (_ : Unit) => False) (fun _ _ _ => True) (fun _ => False)) 13 423 (fun q => A q ∨ q = o) := by
  refine vx_ofWH (cc := cL_sheet) (maxL := 4) (ret := (some .int)) (hh := [(0, 9, 12, 13)]) (by decide) rfl ?_
  intro p e s m args below meth c s₁ B hml hv
  obtain ⟨rfl, ⟨hP, hK, hA, hZ⟩, hO, hoA, hZL⟩ := hv
  have hx := B.exec
  have hb := B.bytes
  have hr := B.returns
  have hts := atoms_spec (ws := wsL_sheet) B.pre
  have htb := vx_table (x := yL_sheet) B (hts _ List.mem_cons_self)
  have hown : s.vm.findClass RL = some m.cls := findClass_of_methodNamed B.named
  have hlocks := B.notSynchronized
  have hol := hO.lt
  have hS : va_S (fun q => A q ∨ q = o) s.heap s.heap [] := va_S.rf
  have hS0 : va_S A s.heap s.heap [] := va_S.rf
  have hl := lv_entry ([.ref (ad 0 k0), .int x1, .ref o]) (n := 4) (Nat.le_of_ble_eq_true rfl)
  rw [lg_entry_eq]
  generalize (lg_sl ([.ref (ad 0 k0), .int x1, .ref o]) ++ List.replicate (4 - (lg_sl ([.ref (ad 0 k0), .int x1, .ref o])).length) Slot.unset).toArray = ls at hl ⊢
  have hl : lv_has ls 4 [(0, .ref (ad 0 k0)), (1, .int x1), (2, .ref o)] := hl
  unfold F_L_sheet at hF
  refine lv_aload_n hx hb dL_sheet_0 rfl (lv_at hl 2 rfl) ?_
  refine lv_iconst (v := 0) hx hb dL_sheet_1 (by decide) ?_
  refine lv_aload_n hx hb dL_sheet_2 rfl (lv_at hl 0 rfl) ?_
  refine lv_iload_n hx hb dL_sheet_3 rfl (lv_at hl 1 rfl) ?_
  refine vx_calli (vx_runV (As := [.int x1]) (rest := [.int 0, .ref o]) ⟨hx, hb, hml, hown, hts⟩ (mX9_sheet l hlt dC dI ac sa A ad τ0 k0 x1 _ _ hF hk0) (cwV 1 hts gL_sheet_X9_sheet rfl rfl rfl (by decide +kernel) ⟨Nat.le_of_ble_eq_true rfl, Nat.le_of_ble_eq_true rfl⟩) ⟨BX.blind, tw_recv hK hP (by decide) hk0 rfl rfl, fun U hU hW => ⟨rfl, BX.of hP hK hS0 hA hZ hU hW⟩⟩ rfl rfl hl.1 rfl (lv_room (Nat.le_of_ble_eq_true rfl)) dL_sheet_4 ⟨Nat.le_of_ble_eq_true rfl, Nat.le_of_ble_eq_true rfl⟩) hS (fun q _ h => Or.inl h) (fun q h => Or.inl h) (fun q _ h => Or.inl h) (fun E9 ce9 q9 u9 t9 H locs ht hvm hpx hBX hz9 hk9 hS hce hcv hcl => ?_) (fun r1 u1 t H locs ht hvm hw hB hz hk hS => ?_)
  · obtain ⟨ec9, τ9, ad9⟩ := u9
    obtain ⟨hF9, hN9⟩ := hpx
    obtain ⟨rfl, hP9⟩ := hBX
    have hP9 := tw_back hP9 ht
    have hO9 : OutAt ac o v0 H := hO.kept (hk9 o hol hoA)
    obtain ⟨rfl, hF9⟩ := hF9
    refine vx_catch (name := "java/lang/IllegalArgumentException") hown [] ⟨0, 9, 12, 13⟩ [] (by rw [htb]; rfl) (by intro z hz; cases hz) (by decide) (by decide) (hts (.classLink RL 13 "java/lang/IllegalArgumentException") (by decide +kernel)) (va_Nw.use rfl hZ.2.2.2.2.2.2.2.2.1) hce hcv hcl ?_
    refine lv_astore_n (lv' := [(3, .ref q9), (0, .ref (ad 0 k0)), (1, .int x1), (2, .ref o)]) hx hb dL_sheet_12 rfl hl (by decide) rfl (fun ls hl => ?_)
    refine lv_iconst (v := 1) hx hb dL_sheet_13 (by decide) ?_
    exact vx_ret (W.iret (v := 1) hx hb hr (fun t ht hW => ⟨⟨1, (τ9, ad9, v0), rfl, ⟨hF9, hN9⟩, tw_at hP9 ht, hO9.at ht⟩, hS.F ht⟩) hS.2.2 dL_sheet_14)
  · obtain ⟨hF, hN9⟩ := hw
    obtain ⟨τ1, ad1⟩ := u1
    try dsimp only at hF hN9 hB
    have hP := tw_back hB ht
    have hO1 : OutAt ac o v0 H := hO.kept (hk o hol hoA)
    refine lv_i2l (v := r1.toInt64) hx hb dL_sheet_7 rfl ?_
    refine wr_last hx hb hK hP hO1 hoA hS dL_sheet_8 (fun H locs hP hO hS => ?_)
    refine lv_goto (tgt := 15) hx hb dL_sheet_9 (by decide) ?_
    refine lv_iconst (v := 0) hx hb dL_sheet_15 (by decide) ?_
    exact vx_ret (W.iret (v := 0) hx hb hr (fun t ht hW => ⟨⟨0, (τ1, ad1, r1.toInt64), rfl, ⟨hF, hN9⟩, tw_at hP ht, hO.at ht⟩, hS.F ht⟩) hS.2.2 dL_sheet_16)
def F_L_row (τ0 : tw_T) (k0 : Nat) (x1 : Int32) (x2 : Int32) (x3 : Int32) (v0 : Int64) (Q : Int32 → Int64 → tw_T → Prop) : Prop := F_X9_row τ0 k0 x1 x2 x3 (fun r τ => Q 0 r.toInt64 τ) (fun c τ => (c = 1 ∧ Q 1 v0 τ))
def rmL_row : Room := { frames := 8, cells := 1, slots := 6, locals := 128 }
set_option maxHeartbeats 4000000 in
set_option maxRecDepth 100000 in
theorem mL_row (l : Launch) (hlt : l.stackTraces = false) (dC : Nat → ClassId) (dI : Nat → Nat → Nat) (ac : Nat → ClassId) (sa : Nat → Nat) (A : Nat → Prop) (ad : Nat → Nat → Nat) (o : Nat) (τ0 : tw_T) (k0 : Nat) (x1 : Int32) (x2 : Int32) (x3 : Int32) (v0 : Int64) (Q : Int32 → Int64 → tw_T → Prop) (hF : F_L_row τ0 k0 x1 x2 x3 v0 Q) (hk0 : k0 < gN τ0 0) : vx_Met l yL_row wsL_row rmL_row (va_Pc [.ref (ad 0 k0), .int x1, .int x2, .int x3, .ref o] (BW dC dI ac sa A ad o τ0 v0)) (va_Qi (fun r (u : tw_T × (Nat → Nat → Nat) × Int64) => Q r u.2.2 u.1 ∧ tw_le τ0 ad u.1 u.2.1) (fun u t => PX dC dI ac A u.2.1 u.1 t.heap ∧ OutAt ac o u.2.2 t.heap) (fun q => A q ∨ q = o)) (vx_X (fun (_ : Unit) => False) (fun _ _ _ => True) (fun _ => False)) 1 6 (fun q => A q ∨ q = o) := by
  refine vx_ofWH (cc := cL_row) (maxL := 6) (ret := (some .int)) (hh := [(0, 12, 15, 19)]) (by decide) rfl ?_
  intro p e s m args below meth c s₁ B hml hv
  obtain ⟨rfl, ⟨hP, hK, hA, hZ⟩, hO, hoA, hZL⟩ := hv
  have hx := B.exec
  have hb := B.bytes
  have hr := B.returns
  have hts := atoms_spec (ws := wsL_row) B.pre
  have htb := vx_table (x := yL_row) B (hts _ List.mem_cons_self)
  have hown : s.vm.findClass RL = some m.cls := findClass_of_methodNamed B.named
  have hlocks := B.notSynchronized
  have hol := hO.lt
  have hS : va_S (fun q => A q ∨ q = o) s.heap s.heap [] := va_S.rf
  have hS0 : va_S A s.heap s.heap [] := va_S.rf
  have hl := lv_entry ([.ref (ad 0 k0), .int x1, .int x2, .int x3, .ref o]) (n := 6) (Nat.le_of_ble_eq_true rfl)
  rw [lg_entry_eq]
  generalize (lg_sl ([.ref (ad 0 k0), .int x1, .int x2, .int x3, .ref o]) ++ List.replicate (6 - (lg_sl ([.ref (ad 0 k0), .int x1, .int x2, .int x3, .ref o])).length) Slot.unset).toArray = ls at hl ⊢
  have hl : lv_has ls 6 [(0, .ref (ad 0 k0)), (1, .int x1), (2, .int x2), (3, .int x3), (4, .ref o)] := hl
  unfold F_L_row at hF
  refine lv_aload hx hb dL_row_0 (lv_at hl 4 rfl) ?_
  refine lv_iconst (v := 0) hx hb dL_row_2 (by decide) ?_
  refine lv_aload_n hx hb dL_row_3 rfl (lv_at hl 0 rfl) ?_
  refine lv_iload_n hx hb dL_row_4 rfl (lv_at hl 1 rfl) ?_
  refine lv_iload_n hx hb dL_row_5 rfl (lv_at hl 2 rfl) ?_
  refine lv_iload_n hx hb dL_row_6 rfl (lv_at hl 3 rfl) ?_
  refine vx_calli (vx_runV (As := [.int x1, .int x2, .int x3]) (rest := [.int 0, .ref o]) ⟨hx, hb, hml, hown, hts⟩ (mX9_row l hlt dC dI ac sa A ad τ0 k0 x1 x2 x3 _ _ hF hk0) (cwV 3 hts gL_row_X9_row rfl rfl rfl (by decide +kernel) ⟨Nat.le_of_ble_eq_true rfl, Nat.le_of_ble_eq_true rfl⟩) ⟨BX.blind, tw_recv hK hP (by decide) hk0 rfl rfl, fun U hU hW => ⟨rfl, BX.of hP hK hS0 hA hZ hU hW⟩⟩ rfl rfl hl.1 rfl (lv_room (Nat.le_of_ble_eq_true rfl)) dL_row_7 ⟨Nat.le_of_ble_eq_true rfl, Nat.le_of_ble_eq_true rfl⟩) hS (fun q _ h => Or.inl h) (fun q h => Or.inl h) (fun q _ h => Or.inl h) (fun E9 ce9 q9 u9 t9 H locs ht hvm hpx hBX hz9 hk9 hS hce hcv hcl => ?_) (fun r1 u1 t H locs ht hvm hw hB hz hk hS => ?_)
  · obtain ⟨ec9, τ9⟩ := u9
    obtain ⟨hF9, hN9⟩ := hpx
    obtain ⟨rfl, hP9⟩ := hBX
    have hP9 := tw_back hP9 ht
    have hO9 : OutAt ac o v0 H := hO.kept (hk9 o hol hoA)
    obtain ⟨rfl, hF9⟩ := hF9
    refine vx_catch (name := "java/lang/IndexOutOfBoundsException") hown [] ⟨0, 12, 15, 19⟩ [] (by rw [htb]; rfl) (by intro z hz; cases hz) (by decide) (by decide) (hts (.classLink RL 19 "java/lang/IndexOutOfBoundsException") (by decide +kernel)) (va_Nw.use rfl hZ.2.2.2.2.2.2.2.2.2.1) hce hcv hcl ?_
    refine lv_astore (lv' := [(5, .ref q9), (0, .ref (ad 0 k0)), (1, .int x1), (2, .int x2), (3, .int x3), (4, .ref o)]) hx hb dL_row_15 hl (by decide) rfl (fun ls hl => ?_)
    refine lv_iconst (v := 1) hx hb dL_row_17 (by decide) ?_
    exact vx_ret (W.iret (v := 1) hx hb hr (fun t ht hW => ⟨⟨1, (τ9, ad, v0), rfl, ⟨hF9, tw_le.rf.same hN9⟩, tw_at hP9 ht, hO9.at ht⟩, hS.F ht⟩) hS.2.2 dL_row_18)
  · obtain ⟨hF, hN9⟩ := hw
    obtain ⟨τ1, rfl⟩ : ∃ z, z = u1 := ⟨_, rfl⟩
    try dsimp only at hF hN9 hB
    have hP := tw_back hB ht
    have hO1 : OutAt ac o v0 H := hO.kept (hk o hol hoA)
    refine lv_i2l (v := r1.toInt64) hx hb dL_row_10 rfl ?_
    refine wr_last hx hb hK hP hO1 hoA hS dL_row_11 (fun H locs hP hO hS => ?_)
    refine lv_goto (tgt := 19) hx hb dL_row_12 (by decide) ?_
    refine lv_iconst (v := 0) hx hb dL_row_19 (by decide) ?_
    exact vx_ret (W.iret (v := 0) hx hb hr (fun t ht hW => ⟨⟨0, (τ1, ad, r1.toInt64), rfl, ⟨hF, tw_le.rf.same hN9⟩, tw_at hP ht, hO.at ht⟩, hS.F ht⟩) hS.2.2 dL_row_20)
def F_L_set (τ0 : tw_T) (k0 : Nat) (x1 : Int32) (x2 : Int32) (x3 : Int32) (x4 : Int64) (v0 : Int64) (Q : Int32 → Int64 → tw_T → Prop) : Prop := F_X9_set τ0 k0 x1 x2 x3 x4 (fun r τ => Q 0 r.toInt64 τ) (fun c τ => (c = 1 ∧ Q 1 v0 τ))
def rmL_set : Room := { frames := 8, cells := 1, slots := 6, locals := 130 }
set_option maxHeartbeats 4000000 in
set_option maxRecDepth 100000 in
theorem mL_set (l : Launch) (hlt : l.stackTraces = false) (dC : Nat → ClassId) (dI : Nat → Nat → Nat) (ac : Nat → ClassId) (sa : Nat → Nat) (A : Nat → Prop) (ad : Nat → Nat → Nat) (o : Nat) (τ0 : tw_T) (k0 : Nat) (x1 : Int32) (x2 : Int32) (x3 : Int32) (x4 : Int64) (v0 : Int64) (Q : Int32 → Int64 → tw_T → Prop) (hF : F_L_set τ0 k0 x1 x2 x3 x4 v0 Q) (hk0 : k0 < gN τ0 0) : vx_Met l yL_set wsL_set rmL_set (va_Pc [.ref (ad 0 k0), .int x1, .int x2, .int x3, .long x4, .ref o] (BW dC dI ac sa A ad o τ0 v0)) (va_Qi (fun r (u : tw_T × (Nat → Nat → Nat) × Int64) => Q r u.2.2 u.1 ∧ tw_le τ0 ad u.1 u.2.1) (fun u t => PX dC dI ac A u.2.1 u.1 t.heap ∧ OutAt ac o u.2.2 t.heap) (fun q => A q ∨ q = o)) (vx_X (fun (_ : Unit) => False) (fun _ _ _ => True) (fun _ => False)) 1 6 (fun q => A q ∨ q = o) := by
  refine vx_ofWH (cc := cL_set) (maxL := 8) (ret := (some .int)) (hh := [(0, 14, 17, 19)]) (by decide) rfl ?_
  intro p e s m args below meth c s₁ B hml hv
  obtain ⟨rfl, ⟨hP, hK, hA, hZ⟩, hO, hoA, hZL⟩ := hv
  have hx := B.exec
  have hb := B.bytes
  have hr := B.returns
  have hts := atoms_spec (ws := wsL_set) B.pre
  have htb := vx_table (x := yL_set) B (hts _ List.mem_cons_self)
  have hown : s.vm.findClass RL = some m.cls := findClass_of_methodNamed B.named
  have hlocks := B.notSynchronized
  have hol := hO.lt
  have hS : va_S (fun q => A q ∨ q = o) s.heap s.heap [] := va_S.rf
  have hS0 : va_S A s.heap s.heap [] := va_S.rf
  have hl := lv_entry ([.ref (ad 0 k0), .int x1, .int x2, .int x3, .long x4, .ref o]) (n := 8) (Nat.le_of_ble_eq_true rfl)
  rw [lg_entry_eq]
  generalize (lg_sl ([.ref (ad 0 k0), .int x1, .int x2, .int x3, .long x4, .ref o]) ++ List.replicate (8 - (lg_sl ([.ref (ad 0 k0), .int x1, .int x2, .int x3, .long x4, .ref o])).length) Slot.unset).toArray = ls at hl ⊢
  have hl : lv_has ls 8 [(0, .ref (ad 0 k0)), (1, .int x1), (2, .int x2), (3, .int x3), (4, .long x4), (6, .ref o)] := hl
  unfold F_L_set at hF
  refine lv_aload hx hb dL_set_0 (lv_at hl 5 rfl) ?_
  refine lv_iconst (v := 0) hx hb dL_set_2 (by decide) ?_
  refine lv_aload_n hx hb dL_set_3 rfl (lv_at hl 0 rfl) ?_
  refine lv_iload_n hx hb dL_set_4 rfl (lv_at hl 1 rfl) ?_
  refine lv_iload_n hx hb dL_set_5 rfl (lv_at hl 2 rfl) ?_
  refine lv_iload_n hx hb dL_set_6 rfl (lv_at hl 3 rfl) ?_
  refine lv_lload hx hb dL_set_7 (lv_at hl 4 rfl) ?_
  refine vx_calli (vx_runV (As := [.int x1, .int x2, .int x3, .long x4]) (rest := [.int 0, .ref o]) ⟨hx, hb, hml, hown, hts⟩ (mX9_set l hlt dC dI ac sa A ad τ0 k0 x1 x2 x3 x4 _ _ hF hk0) (cwV 4 hts gL_set_X9_set rfl rfl rfl (by decide +kernel) ⟨Nat.le_of_ble_eq_true rfl, Nat.le_of_ble_eq_true rfl⟩) ⟨BX.blind, tw_recv hK hP (by decide) hk0 rfl rfl, fun U hU hW => ⟨rfl, BX.of hP hK hS0 hA hZ hU hW⟩⟩ rfl rfl hl.1 rfl (lv_room (Nat.le_of_ble_eq_true rfl)) dL_set_9 ⟨Nat.le_of_ble_eq_true rfl, Nat.le_of_ble_eq_true rfl⟩) hS (fun q _ h => Or.inl h) (fun q h => Or.inl h) (fun q _ h => Or.inl h) (fun E9 ce9 q9 u9 t9 H locs ht hvm hpx hBX hz9 hk9 hS hce hcv hcl => ?_) (fun r1 u1 t H locs ht hvm hw hB hz hk hS => ?_)
  · obtain ⟨ec9, τ9⟩ := u9
    obtain ⟨hF9, hN9⟩ := hpx
    obtain ⟨rfl, hP9⟩ := hBX
    have hP9 := tw_back hP9 ht
    have hO9 : OutAt ac o v0 H := hO.kept (hk9 o hol hoA)
    obtain ⟨rfl, hF9⟩ := hF9
    refine vx_catch (name := "java/lang/IndexOutOfBoundsException") hown [] ⟨0, 14, 17, 19⟩ [] (by rw [htb]; rfl) (by intro z hz; cases hz) (by decide) (by decide) (hts (.classLink RL 19 "java/lang/IndexOutOfBoundsException") (by decide +kernel)) (va_Nw.use rfl hZ.2.2.2.2.2.2.2.2.2.1) hce hcv hcl ?_
    refine lv_astore (lv' := [(7, .ref q9), (0, .ref (ad 0 k0)), (1, .int x1), (2, .int x2), (3, .int x3), (4, .long x4), (6, .ref o)]) hx hb dL_set_17 hl (by decide) rfl (fun ls hl => ?_)
    refine lv_iconst (v := 1) hx hb dL_set_19 (by decide) ?_
    exact vx_ret (W.iret (v := 1) hx hb hr (fun t ht hW => ⟨⟨1, (τ9, ad, v0), rfl, ⟨hF9, tw_le.rf.same hN9⟩, tw_at hP9 ht, hO9.at ht⟩, hS.F ht⟩) hS.2.2 dL_set_20)
  · obtain ⟨hF, hN9⟩ := hw
    obtain ⟨τ1, rfl⟩ : ∃ z, z = u1 := ⟨_, rfl⟩
    try dsimp only at hF hN9 hB
    have hP := tw_back hB ht
    have hO1 : OutAt ac o v0 H := hO.kept (hk o hol hoA)
    refine lv_i2l (v := r1.toInt64) hx hb dL_set_12 rfl ?_
    refine wr_last hx hb hK hP hO1 hoA hS dL_set_13 (fun H locs hP hO hS => ?_)
    refine lv_goto (tgt := 21) hx hb dL_set_14 (by decide) ?_
    refine lv_iconst (v := 0) hx hb dL_set_21 (by decide) ?_
    exact vx_ret (W.iret (v := 0) hx hb hr (fun t ht hW => ⟨⟨0, (τ1, ad, r1.toInt64), rfl, ⟨hF, tw_le.rf.same hN9⟩, tw_at hP ht, hO.at ht⟩, hS.F ht⟩) hS.2.2 dL_set_22)
def F_L_deliver (τ0 : tw_T) (k0 : Nat) (x1 : Int32) (x2 : Int32) (v0 : Int64) (Q : Int32 → Int64 → tw_T → Prop) : Prop := F_X9_deliver τ0 k0 x1 x2 (fun r τ => Q 0 r.toInt64 τ) (fun c τ => (c = 1 ∧ Q 1 v0 τ))
def rmL_deliver : Room := { frames := 8, cells := 12, slots := 94, locals := 129 }
set_option maxHeartbeats 4000000 in
set_option maxRecDepth 100000 in
theorem mL_deliver (l : Launch) (hlt : l.stackTraces = false) (dC : Nat → ClassId) (dI : Nat → Nat → Nat) (ac : Nat → ClassId) (sa : Nat → Nat) (A : Nat → Prop) (ad : Nat → Nat → Nat) (o : Nat) (τ0 : tw_T) (k0 : Nat) (x1 : Int32) (x2 : Int32) (v0 : Int64) (Q : Int32 → Int64 → tw_T → Prop) (hF : F_L_deliver τ0 k0 x1 x2 v0 Q) (hk0 : k0 < gN τ0 0) : vx_Met l yL_deliver wsL_deliver rmL_deliver (va_Pc [.ref (ad 0 k0), .int x1, .int x2, .ref o] (BW dC dI ac sa A ad o τ0 v0)) (va_Qi (fun r (u : tw_T × (Nat → Nat → Nat) × Int64) => Q r u.2.2 u.1 ∧ tw_le τ0 ad u.1 u.2.1) (fun u t => PX dC dI ac A u.2.1 u.1 t.heap ∧ OutAt ac o u.2.2 t.heap) (fun q => A q ∨ q = o)) (vx_X (fun (_ : Unit) => False) (fun _ _ _ => True) (fun _ => False)) 12 94 (fun q => A q ∨ q = o) := by
  refine vx_ofWH (cc := cL_deliver) (maxL := 5) (ret := (some .int)) (hh := [(0, 10, 13, 19)]) (by decide) rfl ?_
  intro p e s m args below meth c s₁ B hml hv
  obtain ⟨rfl, ⟨hP, hK, hA, hZ⟩, hO, hoA, hZL⟩ := hv
  have hx := B.exec
  have hb := B.bytes
  have hr := B.returns
  have hts := atoms_spec (ws := wsL_deliver) B.pre
  have htb := vx_table (x := yL_deliver) B (hts _ List.mem_cons_self)
  have hown : s.vm.findClass RL = some m.cls := findClass_of_methodNamed B.named
  have hlocks := B.notSynchronized
  have hol := hO.lt
  have hS : va_S (fun q => A q ∨ q = o) s.heap s.heap [] := va_S.rf
  have hS0 : va_S A s.heap s.heap [] := va_S.rf
  have hl := lv_entry ([.ref (ad 0 k0), .int x1, .int x2, .ref o]) (n := 5) (Nat.le_of_ble_eq_true rfl)
  rw [lg_entry_eq]
  generalize (lg_sl ([.ref (ad 0 k0), .int x1, .int x2, .ref o]) ++ List.replicate (5 - (lg_sl ([.ref (ad 0 k0), .int x1, .int x2, .ref o])).length) Slot.unset).toArray = ls at hl ⊢
  have hl : lv_has ls 5 [(0, .ref (ad 0 k0)), (1, .int x1), (2, .int x2), (3, .ref o)] := hl
  unfold F_L_deliver at hF
  refine lv_aload_n hx hb dL_deliver_0 rfl (lv_at hl 3 rfl) ?_
  refine lv_iconst (v := 0) hx hb dL_deliver_1 (by decide) ?_
  refine lv_aload_n hx hb dL_deliver_2 rfl (lv_at hl 0 rfl) ?_
  refine lv_iload_n hx hb dL_deliver_3 rfl (lv_at hl 1 rfl) ?_
  refine lv_iload_n hx hb dL_deliver_4 rfl (lv_at hl 2 rfl) ?_
  refine vx_calli (vx_runV (As := [.int x1, .int x2]) (rest := [.int 0, .ref o]) ⟨hx, hb, hml, hown, hts⟩ (mX9_deliver l hlt dC dI ac sa A ad τ0 k0 x1 x2 _ _ hF hk0) (cwV 2 hts gL_deliver_X9_deliver rfl rfl rfl (by decide +kernel) ⟨Nat.le_of_ble_eq_true rfl, Nat.le_of_ble_eq_true rfl⟩) ⟨BX.blind, tw_recv hK hP (by decide) hk0 rfl rfl, fun U hU hW => ⟨rfl, BX.of hP hK hS0 hA hZ hU hW⟩⟩ rfl rfl hl.1 rfl (lv_room (Nat.le_of_ble_eq_true rfl)) dL_deliver_5 ⟨Nat.le_of_ble_eq_true rfl, Nat.le_of_ble_eq_true rfl⟩) hS (fun q _ h => Or.inl h) (fun q h => Or.inl h) (fun q _ h => Or.inl h) (fun E9 ce9 q9 u9 t9 H locs ht hvm hpx hBX hz9 hk9 hS hce hcv hcl => ?_) (fun r1 u1 t H locs ht hvm hw hB hz hk hS => ?_)
  · obtain ⟨ec9, τ9, ad9⟩ := u9
    obtain ⟨hF9, hN9⟩ := hpx
    obtain ⟨rfl, hP9⟩ := hBX
    have hP9 := tw_back hP9 ht
    have hO9 : OutAt ac o v0 H := hO.kept (hk9 o hol hoA)
    obtain ⟨rfl, hF9⟩ := hF9
    refine vx_catch (name := "java/lang/IndexOutOfBoundsException") hown [] ⟨0, 10, 13, 19⟩ [] (by rw [htb]; rfl) (by intro z hz; cases hz) (by decide) (by decide) (hts (.classLink RL 19 "java/lang/IndexOutOfBoundsException") (by decide +kernel)) (va_Nw.use rfl hZ.2.2.2.2.2.2.2.2.2.1) hce hcv hcl ?_
    refine lv_astore (lv' := [(4, .ref q9), (0, .ref (ad 0 k0)), (1, .int x1), (2, .int x2), (3, .ref o)]) hx hb dL_deliver_13 hl (by decide) rfl (fun ls hl => ?_)
    refine lv_iconst (v := 1) hx hb dL_deliver_15 (by decide) ?_
    exact vx_ret (W.iret (v := 1) hx hb hr (fun t ht hW => ⟨⟨1, (τ9, ad9, v0), rfl, ⟨hF9, hN9⟩, tw_at hP9 ht, hO9.at ht⟩, hS.F ht⟩) hS.2.2 dL_deliver_16)
  · obtain ⟨hF, hN9⟩ := hw
    obtain ⟨τ1, ad1⟩ := u1
    try dsimp only at hF hN9 hB
    have hP := tw_back hB ht
    have hO1 : OutAt ac o v0 H := hO.kept (hk o hol hoA)
    refine lv_i2l (v := r1.toInt64) hx hb dL_deliver_8 rfl ?_
    refine wr_last hx hb hK hP hO1 hoA hS dL_deliver_9 (fun H locs hP hO hS => ?_)
    refine lv_goto (tgt := 17) hx hb dL_deliver_10 (by decide) ?_
    refine lv_iconst (v := 0) hx hb dL_deliver_17 (by decide) ?_
    exact vx_ret (W.iret (v := 0) hx hb hr (fun t ht hW => ⟨⟨0, (τ1, ad1, r1.toInt64), rfl, ⟨hF, hN9⟩, tw_at hP ht, hO.at ht⟩, hS.F ht⟩) hS.2.2 dL_deliver_18)
def F_L_plan (τ0 : tw_T) (k0 : Nat) (x1 : Int32) (x2 : Int32) (v0 : Int64) (Q : Int32 → Int64 → tw_T → Prop) : Prop := F_X9_plan τ0 k0 x1 x2 (fun r τ => Q 0 r.toInt64 τ) (fun c τ => (c = 0 ∧ Q 1 v0 τ))
def rmL_plan : Room := { frames := 7, cells := 1, slots := 6, locals := 121 }
set_option maxHeartbeats 4000000 in
set_option maxRecDepth 100000 in
theorem mL_plan (l : Launch) (hlt : l.stackTraces = false) (dC : Nat → ClassId) (dI : Nat → Nat → Nat) (ac : Nat → ClassId) (sa : Nat → Nat) (A : Nat → Prop) (ad : Nat → Nat → Nat) (o : Nat) (τ0 : tw_T) (k0 : Nat) (x1 : Int32) (x2 : Int32) (v0 : Int64) (Q : Int32 → Int64 → tw_T → Prop) (hF : F_L_plan τ0 k0 x1 x2 v0 Q) (hk0 : k0 < gN τ0 0) : vx_Met l yL_plan wsL_plan rmL_plan (va_Pc [.ref (ad 0 k0), .int x1, .int x2, .ref o] (BW dC dI ac sa A ad o τ0 v0)) (va_Qi (fun r (u : tw_T × (Nat → Nat → Nat) × Int64) => Q r u.2.2 u.1 ∧ tw_le τ0 ad u.1 u.2.1) (fun u t => PX dC dI ac A u.2.1 u.1 t.heap ∧ OutAt ac o u.2.2 t.heap) (fun q => A q ∨ q = o)) (vx_X (fun (_ : Unit) => False) (fun _ _ _ => True) (fun _ => False)) 1 6 (fun q => A q ∨ q = o) := by
  refine vx_ofWH (cc := cL_plan) (maxL := 5) (ret := (some .int)) (hh := [(0, 10, 13, 13)]) (by decide) rfl ?_
  intro p e s m args below meth c s₁ B hml hv
  obtain ⟨rfl, ⟨hP, hK, hA, hZ⟩, hO, hoA, hZL⟩ := hv
  have hx := B.exec
  have hb := B.bytes
  have hr := B.returns
  have hts := atoms_spec (ws := wsL_plan) B.pre
  have htb := vx_table (x := yL_plan) B (hts _ List.mem_cons_self)
  have hown : s.vm.findClass RL = some m.cls := findClass_of_methodNamed B.named
  have hlocks := B.notSynchronized
  have hol := hO.lt
  have hS : va_S (fun q => A q ∨ q = o) s.heap s.heap [] := va_S.rf
  have hS0 : va_S A s.heap s.heap [] := va_S.rf
  have hl := lv_entry ([.ref (ad 0 k0), .int x1, .int x2, .ref o]) (n := 5) (Nat.le_of_ble_eq_true rfl)
  rw [lg_entry_eq]
  generalize (lg_sl ([.ref (ad 0 k0), .int x1, .int x2, .ref o]) ++ List.replicate (5 - (lg_sl ([.ref (ad 0 k0), .int x1, .int x2, .ref o])).length) Slot.unset).toArray = ls at hl ⊢
  have hl : lv_has ls 5 [(0, .ref (ad 0 k0)), (1, .int x1), (2, .int x2), (3, .ref o)] := hl
  unfold F_L_plan at hF
  refine lv_aload_n hx hb dL_plan_0 rfl (lv_at hl 3 rfl) ?_
  refine lv_iconst (v := 0) hx hb dL_plan_1 (by decide) ?_
  refine lv_aload_n hx hb dL_plan_2 rfl (lv_at hl 0 rfl) ?_
  refine lv_iload_n hx hb dL_plan_3 rfl (lv_at hl 1 rfl) ?_
  refine lv_iload_n hx hb dL_plan_4 rfl (lv_at hl 2 rfl) ?_
  refine vx_calli (vx_runV (As := [.int x1, .int x2]) (rest := [.int 0, .ref o]) ⟨hx, hb, hml, hown, hts⟩ (mX9_plan l hlt dC dI ac sa A ad τ0 k0 x1 x2 _ _ hF hk0) (cwV 2 hts gL_plan_X9_plan rfl rfl rfl (by decide +kernel) ⟨Nat.le_of_ble_eq_true rfl, Nat.le_of_ble_eq_true rfl⟩) ⟨BX.blind, tw_recv hK hP (by decide) hk0 rfl rfl, fun U hU hW => ⟨rfl, BX.of hP hK hS0 hA hZ hU hW⟩⟩ rfl rfl hl.1 rfl (lv_room (Nat.le_of_ble_eq_true rfl)) dL_plan_5 ⟨Nat.le_of_ble_eq_true rfl, Nat.le_of_ble_eq_true rfl⟩) hS (fun q _ h => Or.inl h) (fun q h => Or.inl h) (fun q _ h => Or.inl h) (fun E9 ce9 q9 u9 t9 H locs ht hvm hpx hBX hz9 hk9 hS hce hcv hcl => ?_) (fun r1 u1 t H locs ht hvm hw hB hz hk hS => ?_)
  · obtain ⟨ec9, τ9⟩ := u9
    obtain ⟨hF9, hN9⟩ := hpx
    obtain ⟨rfl, hP9⟩ := hBX
    have hP9 := tw_back hP9 ht
    have hO9 : OutAt ac o v0 H := hO.kept (hk9 o hol hoA)
    obtain ⟨rfl, hF9⟩ := hF9
    refine vx_catch (name := "java/lang/IllegalArgumentException") hown [] ⟨0, 10, 13, 13⟩ [] (by rw [htb]; rfl) (by intro z hz; cases hz) (by decide) (by decide) (hts (.classLink RL 13 "java/lang/IllegalArgumentException") (by decide +kernel)) (va_Nw.use rfl hZ.2.2.2.2.2.2.2.2.1) hce hcv hcl ?_
    refine lv_astore (lv' := [(4, .ref q9), (0, .ref (ad 0 k0)), (1, .int x1), (2, .int x2), (3, .ref o)]) hx hb dL_plan_13 hl (by decide) rfl (fun ls hl => ?_)
    refine lv_iconst (v := 1) hx hb dL_plan_15 (by decide) ?_
    exact vx_ret (W.iret (v := 1) hx hb hr (fun t ht hW => ⟨⟨1, (τ9, ad, v0), rfl, ⟨hF9, tw_le.rf.same hN9⟩, tw_at hP9 ht, hO9.at ht⟩, hS.F ht⟩) hS.2.2 dL_plan_16)
  · obtain ⟨hF, hN9⟩ := hw
    obtain ⟨τ1, rfl⟩ : ∃ z, z = u1 := ⟨_, rfl⟩
    try dsimp only at hF hN9 hB
    have hP := tw_back hB ht
    have hO1 : OutAt ac o v0 H := hO.kept (hk o hol hoA)
    refine lv_i2l (v := r1.toInt64) hx hb dL_plan_8 rfl ?_
    refine wr_last hx hb hK hP hO1 hoA hS dL_plan_9 (fun H locs hP hO hS => ?_)
    refine lv_goto (tgt := 17) hx hb dL_plan_10 (by decide) ?_
    refine lv_iconst (v := 0) hx hb dL_plan_17 (by decide) ?_
    exact vx_ret (W.iret (v := 0) hx hb hr (fun t ht hW => ⟨⟨0, (τ1, ad, r1.toInt64), rfl, ⟨hF, tw_le.rf.same hN9⟩, tw_at hP ht, hO.at ht⟩, hS.F ht⟩) hS.2.2 dL_plan_18)
