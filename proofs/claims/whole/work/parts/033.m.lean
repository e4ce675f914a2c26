def J_X10_readTerm_239 (τ : tw_T) (p0 : Nat) (y0 : Int32) (y1 : Int32) (q2 : Nat) (Q : tw_T → Prop) : Prop := vp_in y1 252 ∧ (∀ τ2 : tw_T, τ2 = sI τ 138 q2 y1.toNatClampNeg y0 → (∃ o3 : Nat, gR τ2 0 p0 34 = some o3 ∧ (vp_in (gI τ2 0 p0 29) 21 ∧ (vp_in (gI τ2 0 p0 29) 21 ∧ (∀ τ6 : tw_T, τ6 = sI τ2 134 o3 (gI τ2 0 p0 29).toNatClampNeg ((gI τ2 134 o3 (gI τ2 0 p0 29).toNatClampNeg) + ((1 : Int32))) → (Q τ6))))))
def J_X10_readTerm_218 (τ : tw_T) (p0 : Nat) (u1 : Int32) (u3 : Int32) (y0 : Int32) (Q : tw_T → Prop) : Prop := ∃ o7 : Nat, gR τ 0 p0 38 = some o7 ∧ (((¬ u3 = ((45 : Int32)) → (J_X10_readTerm_239 τ p0 y0 u1 o7 Q)) ∧ (u3 = ((45 : Int32)) → (J_X10_readTerm_239 τ p0 (-y0) u1 o7 Q))))
def J_X10_readTerm_193 (τ : tw_T) (p0 : Nat) (u1 : Int32) (u3 : Int32) (Q : tw_T → Prop) : Prop := ∀ τ9 : tw_T, τ9 = sI τ 0 p0 31 ((gI τ 0 p0 31) + ((1 : Int32))) → (F_X10_fine τ9 p0 (fun (r11 : Int32) (τ10 : tw_T) => (((r11 = 0 → (J_X10_readTerm_218 τ10 p0 u1 u3 ((0 : Int32)) Q)) ∧ (¬ r11 = 0 → (F_X10_digits τ10 p0 (fun (r14 : Int32) (τ13 : tw_T) => (J_X10_readTerm_218 τ13 p0 u1 u3 r14 Q))))))))
def J_X10_readTerm_165 (τ : tw_T) (p0 : Nat) (u1 : Int32) (y0 : Int32) (Q : tw_T → Prop) : Prop := F_X10_fine τ p0 (fun (r16 : Int32) (τ15 : tw_T) => (((r16 = 0 → (J_X10_readTerm_193 τ15 p0 u1 y0 Q)) ∧ (¬ r16 = 0 → (((y0 = ((43 : Int32)) → (J_X10_readTerm_193 τ15 p0 u1 y0 Q)) ∧ (¬ y0 = ((43 : Int32)) → (((y0 = ((45 : Int32)) → (J_X10_readTerm_193 τ15 p0 u1 y0 Q)) ∧ (¬ y0 = ((45 : Int32)) → (F_X10_wrong τ15 p0 (gI τ15 0 p0 31) (fun (τ20 : tw_T) => (J_X10_readTerm_193 τ20 p0 u1 y0 Q)))))))))))))
def J_X10_readTerm_150 (τ : tw_T) (p0 : Nat) (u1 : Int32) (Q : tw_T → Prop) : Prop := F_X10_fine τ p0 (fun (r22 : Int32) (τ21 : tw_T) => (((r22 = 0 → (J_X10_readTerm_165 τ21 p0 u1 ((0 : Int32)) Q)) ∧ (¬ r22 = 0 → (F_X10_here τ21 p0 (fun (r25 : Int32) (τ24 : tw_T) => (J_X10_readTerm_165 τ24 p0 u1 r25 Q)))))))
def J_X10_readTerm_123 (τ : tw_T) (p0 : Nat) (u1 : Int32) (u3 : Int32) (Q : tw_T → Prop) : Prop := ∃ o26 : Nat, gR τ 0 p0 36 = some o26 ∧ (vp_in u1 252 ∧ (∀ τ28 : tw_T, τ28 = sI τ 136 o26 u1.toNatClampNeg u3 → (∀ τ29 : tw_T, τ29 = sI τ28 0 p0 31 ((gI τ28 0 p0 31) + ((1 : Int32))) → (∃ o30 : Nat, gR τ29 0 p0 37 = some o30 ∧ (F_X10_digits τ29 p0 (fun (r32 : Int32) (τ31 : tw_T) => (vp_in u1 252 ∧ (∀ τ34 : tw_T, τ34 = sI τ31 137 o30 u1.toNatClampNeg r32 → (J_X10_readTerm_150 τ34 p0 u1 Q)))))))))
def J_X10_readTerm_79 (τ : tw_T) (p0 : Nat) (u1 : Int32) (u2 : Int32) (Q : tw_T → Prop) : Prop := ∃ o35 : Nat, gR τ 0 p0 35 = some o35 ∧ (vp_in u1 252 ∧ (∀ τ37 : tw_T, τ37 = sI τ 135 o35 u1.toNatClampNeg u2 → (((u2 < ((5 : Int32)) → (J_X10_readTerm_150 τ37 p0 u1 Q)) ∧ (¬ u2 < ((5 : Int32)) → (F_X10_here τ37 p0 (fun (r40 : Int32) (τ39 : tw_T) => (((r40 = ((60 : Int32)) → (J_X10_readTerm_123 τ39 p0 u1 r40 Q)) ∧ (¬ r40 = ((60 : Int32)) → (((r40 = ((62 : Int32)) → (J_X10_readTerm_123 τ39 p0 u1 r40 Q)) ∧ (¬ r40 = ((62 : Int32)) → (((r40 = ((61 : Int32)) → (J_X10_readTerm_123 τ39 p0 u1 r40 Q)) ∧ (¬ r40 = ((61 : Int32)) → (F_X10_wrong τ39 p0 (gI τ39 0 p0 31) (fun (τ44 : tw_T) => (Q τ44)))))))))))))))))))
def L_X10_readTerm_40 (p0 : Nat) (u1 : Int32) (u2 : Int32) (Q : tw_T → Prop) (EX : tw_T → Prop) : Nat → tw_T → Prop
  | 0, _ => False
  | n + 1, τ => (((gI τ 0 p0 30) ≤ (gI τ 0 p0 31) → (EX τ )) ∧ (¬ (gI τ 0 p0 30) ≤ (gI τ 0 p0 31) → (∃ o46 : Nat, gR τ 0 p0 33 = some o46 ∧ (vp_in (gI τ 0 p0 31) 200 ∧ (F_X10_isSmall τ (gI τ 133 o46 (gI τ 0 p0 31).toNatClampNeg) (fun (r49 : Int32) (τ48 : tw_T) => (((r49 = 0 → (EX τ48 )) ∧ (¬ r49 = 0 → (∀ τ51 : tw_T, τ51 = sI τ48 0 p0 31 ((gI τ48 0 p0 31) + ((1 : Int32))) → (L_X10_readTerm_40 p0 u1 u2 Q EX n τ51 )))))))))))
def F_X10_readTerm (τ0 : tw_T) (k0 : Nat) (Q : tw_T → Prop) : Prop := ∃ o52 : Nat, gR τ0 0 k0 34 = some o52 ∧ (vp_in (gI τ0 0 k0 29) 21 ∧ (∀ z54 : Int32, z54 = (((12 : Int32)) * (gI τ0 0 k0 29)) + (gI τ0 134 o52 (gI τ0 0 k0 29).toNatClampNeg) → (F_X10_word τ0 k0 (fun (r56 : Int32) (τ55 : tw_T) => (F_X10_testOf τ55 r56 (fun (r58 : Int32) (τ57 : tw_T) => (((¬ r58 = ((-1 : Int32)) → (∃ n60 : Nat, L_X10_readTerm_40 k0 z54 r58 Q (fun (τ61 : tw_T)  => J_X10_readTerm_79 τ61 k0 z54 r58 Q) n60 τ57 )) ∧ (r58 = ((-1 : Int32)) → (F_X10_wrong τ57 k0 (gI τ57 0 k0 31) (fun (τ62 : tw_T) => (Q τ62))))))))))))
def rmX10_readTerm : Room := { frames := 2, cells := 0, slots := 0, locals := 43 }
set_option maxHeartbeats 4000000 in
set_option maxRecDepth 100000 in
theorem mX10_readTerm (l : Launch) (dC : Nat → ClassId) (dI : Nat → Nat → Nat) (ac : Nat → ClassId) (sa : Nat → Nat) (A : Nat → Prop) (ad : Nat → Nat → Nat) (τ0 : tw_T) (k0 : Nat) (Q : tw_T → Prop) (hF : F_X10_readTerm τ0 k0 Q) (hk0 : k0 < gN τ0 0) : Met l yX10_readTerm wsX10_readTerm rmX10_readTerm (va_Pc [.ref (ad 0 k0)] (BM dC dI ac sa A ad τ0)) (va_Qv (fun (u : tw_T) => Q u ∧ gN u = gN τ0) (fun u t => PM dC dI ac A ad u t.heap) A) 0 0 A := by
  refine Met.ofW (cc := cX10_readTerm) (maxL := 5) (ret := none) (by decide) rfl ?_
  intro p e s m args below meth c s₁ B hml hv
  obtain ⟨rfl, hP, hK, hA, hZ⟩ := hv
  have hx := B.exec
  have hb := B.bytes
  have hr := B.returns
  have hts := atoms_spec (ws := wsX10_readTerm) B.pre
  have hown : s.vm.findClass RX10 = some m.cls := findClass_of_methodNamed B.named
  have hlocks := B.notSynchronized
  have hS : va_S A s.heap s.heap [] := va_S.rf
  have hN : gN τ0 = gN τ0 := rfl
  have hl := lv_entry ([.ref (ad 0 k0)]) (n := 5) (Nat.le_of_ble_eq_true rfl)
  rw [lg_entry_eq]
  generalize (lg_sl ([.ref (ad 0 k0)]) ++ List.replicate (5 - (lg_sl ([.ref (ad 0 k0)])).length) Slot.unset).toArray = ls at hl ⊢
  have hl : lv_has ls 5 [(0, .ref (ad 0 k0))] := hl
  unfold F_X10_readTerm at hF
  have j239 : ∀ (τ : tw_T) (p0 : Nat) (hp0 : p0 < gN τ0 0) (y0 : Int32) (y1 : Int32) (q2 : Nat) (hq2 : q2 < gN τ0 138) (H : Heap) (locs : List Loc) (ls : Array Slot), J_X10_readTerm_239 τ p0 y0 y1 q2 Q → PM dC dI ac A ad τ H → gN τ = gN τ0 → va_S A s.heap H locs → lv_has ls 5 [(0, .ref (ad 0 p0))] → W p l e rmX10_readTerm s m ([.ref (ad 0 k0)] : List Value).toArray below meth c H locs 0 0 (MQ below (va_Qv (fun (u : tw_T) => Q u ∧ gN u = gN τ0) (fun u t => PM dC dI ac A ad u t.heap) A) ([.ref (ad 0 k0)] : List Value).toArray s 0 0 A) (F0 m 239 ls [.int y0, .int y1, .ref (ad 138 q2)]) := by
    intro τ p0 hp0 y0 y1 q2 hq2 H locs ls hF hP hN hS hl
    unfold J_X10_readTerm_239 at hF
    obtain ⟨hi1, hF⟩ := hF
    refine tw_iast hx hb hK hP hS (by decide) (tw_lt hq2 (congrFun hN 138)) rfl 0 rfl hi1 dX10_readTerm_239 (fun H locs hP hS => ?_)
    obtain ⟨τ2, eτ2⟩ : ∃ y : tw_T, y = sI τ 138 q2 y1.toNatClampNeg y0 := ⟨_, rfl⟩
    have hF := hF τ2 eτ2
    rw [← eτ2] at hP
    have hN : gN τ2 = gN τ0 := by rw [eτ2]; exact hN
    refine lv_aload_n hx hb dX10_readTerm_240 rfl (lv_at hl 0 rfl) ?_
    obtain ⟨o3, eo3, hF⟩ := hF
    have ho3 : o3 < gN τ0 134 := tw_lt (hP.2.2.2 0 p0 34 o3 (by decide) (tw_lt hp0 (congrFun hN 0)) eo3) (congrFun hN 134).symm
    refine tw_get (v := .ref (ad 134 o3)) hx hb hts (by decide +kernel) hown hK hP (by decide) (tw_lt hp0 (congrFun hN 0)) rfl rfl 34 (by decide) (hts (.fieldLink RX10 62 "WineCellarModel" "termMany" "[I") (by decide +kernel)) (fun _ h9 => h9) (show some (va_rf ((gR τ2 0 p0 34).map (ad 134))) = some (.ref (ad 134 o3)) by rw [eo3]; rfl) dX10_readTerm_241 ?_
    refine lv_aload_n hx hb dX10_readTerm_244 rfl (lv_at hl 0 rfl) ?_
    refine tw_get (v := .int (gI τ2 0 p0 29)) hx hb hts (by decide +kernel) hown hK hP (by decide) (tw_lt hp0 (congrFun hN 0)) rfl rfl 29 (by decide) (hts (.fieldLink RX10 224 "WineCellarModel" "dishes" "I") (by decide +kernel)) (fun _ h9 => h9) rfl dX10_readTerm_245 ?_
    refine lv_dup2_11 hx hb dX10_readTerm_248 rfl rfl ?_
    obtain ⟨hi4, hF⟩ := hF
    refine tw_iald hx hb hK hP (by decide) (tw_lt ho3 (congrFun hN 134)) rfl 0 rfl hi4 dX10_readTerm_249 ?_
    refine lv_iconst (v := 1) hx hb dX10_readTerm_250 (by decide) ?_
    refine lv_iadd hx hb dX10_readTerm_251 ?_
    obtain ⟨hi5, hF⟩ := hF
    refine tw_iast hx hb hK hP hS (by decide) (tw_lt ho3 (congrFun hN 134)) rfl 0 rfl hi5 dX10_readTerm_252 (fun H locs hP hS => ?_)
    obtain ⟨τ6, eτ6⟩ : ∃ y : tw_T, y = sI τ2 134 o3 (gI τ2 0 p0 29).toNatClampNeg ((gI τ2 134 o3 (gI τ2 0 p0 29).toNatClampNeg) + ((1 : Int32))) := ⟨_, rfl⟩
    have hF := hF τ6 eτ6
    rw [← eτ6] at hP
    have hN : gN τ6 = gN τ0 := by rw [eτ6]; exact hN
    exact W.vret hx hb hr (fun t ht hW => ⟨⟨τ6, rfl, ⟨hF, hN⟩, tw_at hP ht⟩, hS.F ht⟩) hS.2.2 dX10_readTerm_253
  have j218 : ∀ (τ : tw_T) (p0 : Nat) (hp0 : p0 < gN τ0 0) (u1 : Int32) (u3 : Int32) (y0 : Int32) (H : Heap) (locs : List Loc) (ls : Array Slot), J_X10_readTerm_218 τ p0 u1 u3 y0 Q → PM dC dI ac A ad τ H → gN τ = gN τ0 → va_S A s.heap H locs → lv_has ls 5 [(0, .ref (ad 0 p0)), (1, .int u1), (3, .int u3)] → W p l e rmX10_readTerm s m ([.ref (ad 0 k0)] : List Value).toArray below meth c H locs 0 0 (MQ below (va_Qv (fun (u : tw_T) => Q u ∧ gN u = gN τ0) (fun u t => PM dC dI ac A ad u t.heap) A) ([.ref (ad 0 k0)] : List Value).toArray s 0 0 A) (F0 m 218 ls [.int y0]) := by
    intro τ p0 hp0 u1 u3 y0 H locs ls hF hP hN hS hl
    unfold J_X10_readTerm_218 at hF
    refine lv_istore (lv' := [(4, .int y0), (0, .ref (ad 0 p0)), (1, .int u1), (3, .int u3)]) hx hb dX10_readTerm_218 hl (by decide) rfl (fun ls hl => ?_)
    refine lv_aload_n hx hb dX10_readTerm_220 rfl (lv_at hl 1 rfl) ?_
    obtain ⟨o7, eo7, hF⟩ := hF
    have ho7 : o7 < gN τ0 138 := tw_lt (hP.2.2.2 0 p0 38 o7 (by decide) (tw_lt hp0 (congrFun hN 0)) eo7) (congrFun hN 138).symm
    refine tw_get (v := .ref (ad 138 o7)) hx hb hts (by decide +kernel) hown hK hP (by decide) (tw_lt hp0 (congrFun hN 0)) rfl rfl 38 (by decide) (hts (.fieldLink RX10 74 "WineCellarModel" "termScore" "[I") (by decide +kernel)) (fun _ h9 => h9) (show some (va_rf ((gR τ 0 p0 38).map (ad 138))) = some (.ref (ad 138 o7)) by rw [eo7]; rfl) dX10_readTerm_221 ?_
    refine lv_iload_n hx hb dX10_readTerm_224 rfl (lv_at hl 2 rfl) ?_
    refine lv_iload_n hx hb dX10_readTerm_225 rfl (lv_at hl 3 rfl) ?_
    refine lv_bipush (v := 45) hx hb dX10_readTerm_226 (by decide) ?_
    refine lv_icmp_ne (tgt := 237) hx hb dX10_readTerm_228 (by decide) (fun c8 => ?_) (fun c8 => ?_)
    · have hF := hF.1 c8
      refine lv_iload hx hb dX10_readTerm_237 (lv_at hl 0 rfl) ?_
      exact j239 τ p0 hp0 y0 u1 o7 ho7 _ _ _ hF hP hN hS (lv_sub hl [1] rfl)
    · have hF := hF.2 c8
      refine lv_iload hx hb dX10_readTerm_231 (lv_at hl 0 rfl) ?_
      refine lv_ineg hx hb dX10_readTerm_233 ?_
      refine lv_goto (tgt := 239) hx hb dX10_readTerm_234 (by decide) ?_
      exact j239 τ p0 hp0 (-y0) u1 o7 ho7 _ _ _ hF hP hN hS (lv_sub hl [1] rfl)
  have j193 : ∀ (τ : tw_T) (p0 : Nat) (hp0 : p0 < gN τ0 0) (u1 : Int32) (u3 : Int32) (H : Heap) (locs : List Loc) (ls : Array Slot), J_X10_readTerm_193 τ p0 u1 u3 Q → PM dC dI ac A ad τ H → gN τ = gN τ0 → va_S A s.heap H locs → lv_has ls 5 [(0, .ref (ad 0 p0)), (1, .int u1), (3, .int u3)] → W p l e rmX10_readTerm s m ([.ref (ad 0 k0)] : List Value).toArray below meth c H locs 0 0 (MQ below (va_Qv (fun (u : tw_T) => Q u ∧ gN u = gN τ0) (fun u t => PM dC dI ac A ad u t.heap) A) ([.ref (ad 0 k0)] : List Value).toArray s 0 0 A) (F0 m 193 ls []) := by
    intro τ p0 hp0 u1 u3 H locs ls hF hP hN hS hl
    unfold J_X10_readTerm_193 at hF
    refine lv_aload_n hx hb dX10_readTerm_193 rfl (lv_at hl 0 rfl) ?_
    refine lv_dup hx hb dX10_readTerm_194 rfl ?_
    refine tw_get (v := .int (gI τ 0 p0 31)) hx hb hts (by decide +kernel) hown hK hP (by decide) (tw_lt hp0 (congrFun hN 0)) rfl rfl 31 (by decide) (hts (.fieldLink RX10 196 "WineCellarModel" "at" "I") (by decide +kernel)) (fun _ h9 => h9) rfl dX10_readTerm_195 ?_
    refine lv_iconst (v := 1) hx hb dX10_readTerm_198 (by decide) ?_
    refine lv_iadd hx hb dX10_readTerm_199 ?_
    refine tw_put (τ' := sI τ 0 p0 31 ((gI τ 0 p0 31) + ((1 : Int32)))) (ty := .int) hx hb hts (by decide +kernel) tyX10 tyX10_ok nmX10 hown hK hP hS (by decide) (tw_lt hp0 (congrFun hN 0)) rfl rfl 31 (by decide) (hts (.fieldLink RX10 196 "WineCellarModel" "at" "I") (by decide +kernel)) (fun _ h9 => h9) rfl (by decide +kernel) rfl rfl (Nat.le_of_ble_eq_true rfl) dX10_readTerm_200 (fun H1 ha ho => tw_updI hP (by decide) (tw_lt hp0 (congrFun hN 0)) ha ho) (fun H locs hP hS => ?_)
    obtain ⟨τ9, eτ9⟩ : ∃ y : tw_T, y = sI τ 0 p0 31 ((gI τ 0 p0 31) + ((1 : Int32))) := ⟨_, rfl⟩
    have hF := hF τ9 eτ9
    rw [← eτ9] at hP
    have hN : gN τ9 = gN τ0 := by rw [eτ9]; exact hN
    refine lv_aload_n hx hb dX10_readTerm_203 rfl (lv_at hl 0 rfl) ?_
    refine va_calli (va_runV (As := []) (rest := []) ⟨hx, hb, hml, hown, hts⟩ (mX10_fine l dC dI ac sa A ad τ9 p0 _ hF (tw_lt hp0 (congrFun hN 0))) (cwV 0 hts gX10_readTerm_X10_fine rfl rfl rfl (by decide +kernel) ⟨Nat.le_of_ble_eq_true rfl, Nat.le_of_ble_eq_true rfl⟩) ⟨BM.blind, tw_recv hK hP (by decide) (tw_lt hp0 (congrFun hN 0)) rfl rfl, fun U hU hW => ⟨rfl, BM.of hP hK hS hA hZ hU hW⟩⟩ rfl rfl hl.1 rfl (lv_room (Nat.le_of_ble_eq_true rfl)) dX10_readTerm_204 ⟨Nat.le_of_ble_eq_true rfl, Nat.le_of_ble_eq_true rfl⟩) hS (fun q _ h => h) (fun q h => h) (fun r11 τ10 t H locs ht hvm hw hB hz hk hS => ?_)
    obtain ⟨hF, hN9⟩ := hw
    have hP : PM dC dI ac A ad τ10 H := tw_back hB ht
    have hN : gN τ10 = gN τ0 := hN9.trans hN
    refine lv_if_eq (tgt := 217) hx hb dX10_readTerm_207 (by decide) (fun c12 => ?_) (fun c12 => ?_)
    · have hF := hF.1 c12
      refine lv_iconst (v := 0) hx hb dX10_readTerm_217 (by decide) ?_
      exact j218 τ10 p0 hp0 u1 u3 ((0 : Int32)) _ _ _ hF hP hN hS (lv_sub hl [0, 1, 2] rfl)
    · have hF := hF.2 c12
      refine lv_aload_n hx hb dX10_readTerm_210 rfl (lv_at hl 0 rfl) ?_
      refine va_calli (va_runV (As := []) (rest := []) ⟨hx, hb, hml, hown, hts⟩ (mX10_digits l dC dI ac sa A ad τ10 p0 _ hF (tw_lt hp0 (congrFun hN 0))) (cwV 0 hts gX10_readTerm_X10_digits rfl rfl rfl (by decide +kernel) ⟨Nat.le_of_ble_eq_true rfl, Nat.le_of_ble_eq_true rfl⟩) ⟨BM.blind, tw_recv hK hP (by decide) (tw_lt hp0 (congrFun hN 0)) rfl rfl, fun U hU hW => ⟨rfl, BM.of hP hK hS hA hZ hU hW⟩⟩ rfl rfl hl.1 rfl (lv_room (Nat.le_of_ble_eq_true rfl)) dX10_readTerm_211 ⟨Nat.le_of_ble_eq_true rfl, Nat.le_of_ble_eq_true rfl⟩) hS (fun q _ h => h) (fun q h => h) (fun r14 τ13 t H locs ht hvm hw hB hz hk hS => ?_)
      obtain ⟨hF, hN9⟩ := hw
      have hP : PM dC dI ac A ad τ13 H := tw_back hB ht
      have hN : gN τ13 = gN τ0 := hN9.trans hN
      refine lv_goto (tgt := 218) hx hb dX10_readTerm_214 (by decide) ?_
      exact j218 τ13 p0 hp0 u1 u3 r14 _ _ _ hF hP hN hS (lv_sub hl [0, 1, 2] rfl)
  have j165 : ∀ (τ : tw_T) (p0 : Nat) (hp0 : p0 < gN τ0 0) (u1 : Int32) (y0 : Int32) (H : Heap) (locs : List Loc) (ls : Array Slot), J_X10_readTerm_165 τ p0 u1 y0 Q → PM dC dI ac A ad τ H → gN τ = gN τ0 → va_S A s.heap H locs → lv_has ls 5 [(0, .ref (ad 0 p0)), (1, .int u1)] → W p l e rmX10_readTerm s m ([.ref (ad 0 k0)] : List Value).toArray below meth c H locs 0 0 (MQ below (va_Qv (fun (u : tw_T) => Q u ∧ gN u = gN τ0) (fun u t => PM dC dI ac A ad u t.heap) A) ([.ref (ad 0 k0)] : List Value).toArray s 0 0 A) (F0 m 165 ls [.int y0]) := by
    intro τ p0 hp0 u1 y0 H locs ls hF hP hN hS hl
    unfold J_X10_readTerm_165 at hF
    refine lv_istore_n (lv' := [(3, .int y0), (0, .ref (ad 0 p0)), (1, .int u1)]) hx hb dX10_readTerm_165 rfl hl (by decide) rfl (fun ls hl => ?_)
    refine lv_aload_n hx hb dX10_readTerm_166 rfl (lv_at hl 1 rfl) ?_
    refine va_calli (va_runV (As := []) (rest := []) ⟨hx, hb, hml, hown, hts⟩ (mX10_fine l dC dI ac sa A ad τ p0 _ hF (tw_lt hp0 (congrFun hN 0))) (cwV 0 hts gX10_readTerm_X10_fine rfl rfl rfl (by decide +kernel) ⟨Nat.le_of_ble_eq_true rfl, Nat.le_of_ble_eq_true rfl⟩) ⟨BM.blind, tw_recv hK hP (by decide) (tw_lt hp0 (congrFun hN 0)) rfl rfl, fun U hU hW => ⟨rfl, BM.of hP hK hS hA hZ hU hW⟩⟩ rfl rfl hl.1 rfl (lv_room (Nat.le_of_ble_eq_true rfl)) dX10_readTerm_167 ⟨Nat.le_of_ble_eq_true rfl, Nat.le_of_ble_eq_true rfl⟩) hS (fun q _ h => h) (fun q h => h) (fun r16 τ15 t H locs ht hvm hw hB hz hk hS => ?_)
    obtain ⟨hF, hN9⟩ := hw
    have hP : PM dC dI ac A ad τ15 H := tw_back hB ht
    have hN : gN τ15 = gN τ0 := hN9.trans hN
    refine lv_if_eq (tgt := 193) hx hb dX10_readTerm_170 (by decide) (fun c17 => ?_) (fun c17 => ?_)
    · have hF := hF.1 c17
      exact j193 τ15 p0 hp0 u1 y0 _ _ _ hF hP hN hS (lv_sub hl [1, 2, 0] rfl)
    · have hF := hF.2 c17
      refine lv_iload_n hx hb dX10_readTerm_173 rfl (lv_at hl 0 rfl) ?_
      refine lv_bipush (v := 43) hx hb dX10_readTerm_174 (by decide) ?_
      refine lv_icmp_eq (tgt := 193) hx hb dX10_readTerm_176 (by decide) (fun c18 => ?_) (fun c18 => ?_)
      · have hF := hF.1 c18
        exact j193 τ15 p0 hp0 u1 y0 _ _ _ hF hP hN hS (lv_sub hl [1, 2, 0] rfl)
      · have hF := hF.2 c18
        refine lv_iload_n hx hb dX10_readTerm_179 rfl (lv_at hl 0 rfl) ?_
        refine lv_bipush (v := 45) hx hb dX10_readTerm_180 (by decide) ?_
        refine lv_icmp_eq (tgt := 193) hx hb dX10_readTerm_182 (by decide) (fun c19 => ?_) (fun c19 => ?_)
        · have hF := hF.1 c19
          exact j193 τ15 p0 hp0 u1 y0 _ _ _ hF hP hN hS (lv_sub hl [1, 2, 0] rfl)
        · have hF := hF.2 c19
          refine lv_aload_n hx hb dX10_readTerm_185 rfl (lv_at hl 1 rfl) ?_
          refine lv_aload_n hx hb dX10_readTerm_186 rfl (lv_at hl 1 rfl) ?_
          refine tw_get (v := .int (gI τ15 0 p0 31)) hx hb hts (by decide +kernel) hown hK hP (by decide) (tw_lt hp0 (congrFun hN 0)) rfl rfl 31 (by decide) (hts (.fieldLink RX10 196 "WineCellarModel" "at" "I") (by decide +kernel)) (fun _ h9 => h9) rfl dX10_readTerm_187 ?_
          refine va_callv (va_runV (As := [.int (gI τ15 0 p0 31)]) (rest := []) ⟨hx, hb, hml, hown, hts⟩ (mX10_wrong l dC dI ac sa A ad τ15 p0 (gI τ15 0 p0 31) _ hF (tw_lt hp0 (congrFun hN 0))) (cwV 1 hts gX10_readTerm_X10_wrong rfl rfl rfl (by decide +kernel) ⟨Nat.le_of_ble_eq_true rfl, Nat.le_of_ble_eq_true rfl⟩) ⟨BM.blind, tw_recv hK hP (by decide) (tw_lt hp0 (congrFun hN 0)) rfl rfl, fun U hU hW => ⟨rfl, BM.of hP hK hS hA hZ hU hW⟩⟩ rfl rfl hl.1 rfl (lv_room (Nat.le_of_ble_eq_true rfl)) dX10_readTerm_190 ⟨Nat.le_of_ble_eq_true rfl, Nat.le_of_ble_eq_true rfl⟩) hS (fun q _ h => h) (fun q h => h) (fun τ20 t H locs ht hvm hw hB hz hk hS => ?_)
          obtain ⟨hF, hN9⟩ := hw
          have hP : PM dC dI ac A ad τ20 H := tw_back hB ht
          have hN : gN τ20 = gN τ0 := hN9.trans hN
          exact j193 τ20 p0 hp0 u1 y0 _ _ _ hF hP hN hS (lv_sub hl [1, 2, 0] rfl)
  have j150 : ∀ (τ : tw_T) (p0 : Nat) (hp0 : p0 < gN τ0 0) (u1 : Int32) (H : Heap) (locs : List Loc) (ls : Array Slot), J_X10_readTerm_150 τ p0 u1 Q → PM dC dI ac A ad τ H → gN τ = gN τ0 → va_S A s.heap H locs → lv_has ls 5 [(0, .ref (ad 0 p0)), (1, .int u1)] → W p l e rmX10_readTerm s m ([.ref (ad 0 k0)] : List Value).toArray below meth c H locs 0 0 (MQ below (va_Qv (fun (u : tw_T) => Q u ∧ gN u = gN τ0) (fun u t => PM dC dI ac A ad u t.heap) A) ([.ref (ad 0 k0)] : List Value).toArray s 0 0 A) (F0 m 150 ls []) := by
    intro τ p0 hp0 u1 H locs ls hF hP hN hS hl
    unfold J_X10_readTerm_150 at hF
    refine lv_aload_n hx hb dX10_readTerm_150 rfl (lv_at hl 0 rfl) ?_
    refine va_calli (va_runV (As := []) (rest := []) ⟨hx, hb, hml, hown, hts⟩ (mX10_fine l dC dI ac sa A ad τ p0 _ hF (tw_lt hp0 (congrFun hN 0))) (cwV 0 hts gX10_readTerm_X10_fine rfl rfl rfl (by decide +kernel) ⟨Nat.le_of_ble_eq_true rfl, Nat.le_of_ble_eq_true rfl⟩) ⟨BM.blind, tw_recv hK hP (by decide) (tw_lt hp0 (congrFun hN 0)) rfl rfl, fun U hU hW => ⟨rfl, BM.of hP hK hS hA hZ hU hW⟩⟩ rfl rfl hl.1 rfl (lv_room (Nat.le_of_ble_eq_true rfl)) dX10_readTerm_151 ⟨Nat.le_of_ble_eq_true rfl, Nat.le_of_ble_eq_true rfl⟩) hS (fun q _ h => h) (fun q h => h) (fun r22 τ21 t H locs ht hvm hw hB hz hk hS => ?_)
    obtain ⟨hF, hN9⟩ := hw
    have hP : PM dC dI ac A ad τ21 H := tw_back hB ht
    have hN : gN τ21 = gN τ0 := hN9.trans hN
    refine lv_if_eq (tgt := 164) hx hb dX10_readTerm_154 (by decide) (fun c23 => ?_) (fun c23 => ?_)
    · have hF := hF.1 c23
      refine lv_iconst (v := 0) hx hb dX10_readTerm_164 (by decide) ?_
      exact j165 τ21 p0 hp0 u1 ((0 : Int32)) _ _ _ hF hP hN hS (lv_sub hl [0, 1] rfl)
    · have hF := hF.2 c23
      refine lv_aload_n hx hb dX10_readTerm_157 rfl (lv_at hl 0 rfl) ?_
      refine va_calli (va_runV (As := []) (rest := []) ⟨hx, hb, hml, hown, hts⟩ (mX10_here l dC dI ac sa A ad τ21 p0 _ hF (tw_lt hp0 (congrFun hN 0))) (cwV 0 hts gX10_readTerm_X10_here rfl rfl rfl (by decide +kernel) ⟨Nat.le_of_ble_eq_true rfl, Nat.le_of_ble_eq_true rfl⟩) ⟨BM.blind, tw_recv hK hP (by decide) (tw_lt hp0 (congrFun hN 0)) rfl rfl, fun U hU hW => ⟨rfl, BM.of hP hK hS hA hZ hU hW⟩⟩ rfl rfl hl.1 rfl (lv_room (Nat.le_of_ble_eq_true rfl)) dX10_readTerm_158 ⟨Nat.le_of_ble_eq_true rfl, Nat.le_of_ble_eq_true rfl⟩) hS (fun q _ h => h) (fun q h => h) (fun r25 τ24 t H locs ht hvm hw hB hz hk hS => ?_)
      obtain ⟨hF, hN9⟩ := hw
      have hP : PM dC dI ac A ad τ24 H := tw_back hB ht
      have hN : gN τ24 = gN τ0 := hN9.trans hN
      refine lv_goto (tgt := 165) hx hb dX10_readTerm_161 (by decide) ?_
      exact j165 τ24 p0 hp0 u1 r25 _ _ _ hF hP hN hS (lv_sub hl [0, 1] rfl)
  have j123 : ∀ (τ : tw_T) (p0 : Nat) (hp0 : p0 < gN τ0 0) (u1 : Int32) (u3 : Int32) (H : Heap) (locs : List Loc) (ls : Array Slot), J_X10_readTerm_123 τ p0 u1 u3 Q → PM dC dI ac A ad τ H → gN τ = gN τ0 → va_S A s.heap H locs → lv_has ls 5 [(0, .ref (ad 0 p0)), (1, .int u1), (3, .int u3)] → W p l e rmX10_readTerm s m ([.ref (ad 0 k0)] : List Value).toArray below meth c H locs 0 0 (MQ below (va_Qv (fun (u : tw_T) => Q u ∧ gN u = gN τ0) (fun u t => PM dC dI ac A ad u t.heap) A) ([.ref (ad 0 k0)] : List Value).toArray s 0 0 A) (F0 m 123 ls []) := by
    intro τ p0 hp0 u1 u3 H locs ls hF hP hN hS hl
    unfold J_X10_readTerm_123 at hF
    refine lv_aload_n hx hb dX10_readTerm_123 rfl (lv_at hl 0 rfl) ?_
    obtain ⟨o26, eo26, hF⟩ := hF
    have ho26 : o26 < gN τ0 136 := tw_lt (hP.2.2.2 0 p0 36 o26 (by decide) (tw_lt hp0 (congrFun hN 0)) eo26) (congrFun hN 136).symm
    refine tw_get (v := .ref (ad 136 o26)) hx hb hts (by decide +kernel) hown hK hP (by decide) (tw_lt hp0 (congrFun hN 0)) rfl rfl 36 (by decide) (hts (.fieldLink RX10 68 "WineCellarModel" "termSign" "[I") (by decide +kernel)) (fun _ h9 => h9) (show some (va_rf ((gR τ 0 p0 36).map (ad 136))) = some (.ref (ad 136 o26)) by rw [eo26]; rfl) dX10_readTerm_124 ?_
    refine lv_iload_n hx hb dX10_readTerm_127 rfl (lv_at hl 1 rfl) ?_
    refine lv_iload_n hx hb dX10_readTerm_128 rfl (lv_at hl 2 rfl) ?_
    obtain ⟨hi27, hF⟩ := hF
    refine tw_iast hx hb hK hP hS (by decide) (tw_lt ho26 (congrFun hN 136)) rfl 0 rfl hi27 dX10_readTerm_129 (fun H locs hP hS => ?_)
    obtain ⟨τ28, eτ28⟩ : ∃ y : tw_T, y = sI τ 136 o26 u1.toNatClampNeg u3 := ⟨_, rfl⟩
    have hF := hF τ28 eτ28
    rw [← eτ28] at hP
    have hN : gN τ28 = gN τ0 := by rw [eτ28]; exact hN
    refine lv_aload_n hx hb dX10_readTerm_130 rfl (lv_at hl 0 rfl) ?_
    refine lv_dup hx hb dX10_readTerm_131 rfl ?_
    refine tw_get (v := .int (gI τ28 0 p0 31)) hx hb hts (by decide +kernel) hown hK hP (by decide) (tw_lt hp0 (congrFun hN 0)) rfl rfl 31 (by decide) (hts (.fieldLink RX10 196 "WineCellarModel" "at" "I") (by decide +kernel)) (fun _ h9 => h9) rfl dX10_readTerm_132 ?_
    refine lv_iconst (v := 1) hx hb dX10_readTerm_135 (by decide) ?_
    refine lv_iadd hx hb dX10_readTerm_136 ?_
    refine tw_put (τ' := sI τ28 0 p0 31 ((gI τ28 0 p0 31) + ((1 : Int32)))) (ty := .int) hx hb hts (by decide +kernel) tyX10 tyX10_ok nmX10 hown hK hP hS (by decide) (tw_lt hp0 (congrFun hN 0)) rfl rfl 31 (by decide) (hts (.fieldLink RX10 196 "WineCellarModel" "at" "I") (by decide +kernel)) (fun _ h9 => h9) rfl (by decide +kernel) rfl rfl (Nat.le_of_ble_eq_true rfl) dX10_readTerm_137 (fun H1 ha ho => tw_updI hP (by decide) (tw_lt hp0 (congrFun hN 0)) ha ho) (fun H locs hP hS => ?_)
    obtain ⟨τ29, eτ29⟩ : ∃ y : tw_T, y = sI τ28 0 p0 31 ((gI τ28 0 p0 31) + ((1 : Int32))) := ⟨_, rfl⟩
    have hF := hF τ29 eτ29
    rw [← eτ29] at hP
    have hN : gN τ29 = gN τ0 := by rw [eτ29]; exact hN
    refine lv_aload_n hx hb dX10_readTerm_140 rfl (lv_at hl 0 rfl) ?_
    obtain ⟨o30, eo30, hF⟩ := hF
    have ho30 : o30 < gN τ0 137 := tw_lt (hP.2.2.2 0 p0 37 o30 (by decide) (tw_lt hp0 (congrFun hN 0)) eo30) (congrFun hN 137).symm
    refine tw_get (v := .ref (ad 137 o30)) hx hb hts (by decide +kernel) hown hK hP (by decide) (tw_lt hp0 (congrFun hN 0)) rfl rfl 37 (by decide) (hts (.fieldLink RX10 71 "WineCellarModel" "termNumber" "[I") (by decide +kernel)) (fun _ h9 => h9) (show some (va_rf ((gR τ29 0 p0 37).map (ad 137))) = some (.ref (ad 137 o30)) by rw [eo30]; rfl) dX10_readTerm_141 ?_
    refine lv_iload_n hx hb dX10_readTerm_144 rfl (lv_at hl 1 rfl) ?_
    refine lv_aload_n hx hb dX10_readTerm_145 rfl (lv_at hl 0 rfl) ?_
    refine va_calli (va_runV (As := []) (rest := [.int u1, .ref (ad 137 o30)]) ⟨hx, hb, hml, hown, hts⟩ (mX10_digits l dC dI ac sa A ad τ29 p0 _ hF (tw_lt hp0 (congrFun hN 0))) (cwV 0 hts gX10_readTerm_X10_digits rfl rfl rfl (by decide +kernel) ⟨Nat.le_of_ble_eq_true rfl, Nat.le_of_ble_eq_true rfl⟩) ⟨BM.blind, tw_recv hK hP (by decide) (tw_lt hp0 (congrFun hN 0)) rfl rfl, fun U hU hW => ⟨rfl, BM.of hP hK hS hA hZ hU hW⟩⟩ rfl rfl hl.1 rfl (lv_room (Nat.le_of_ble_eq_true rfl)) dX10_readTerm_146 ⟨Nat.le_of_ble_eq_true rfl, Nat.le_of_ble_eq_true rfl⟩) hS (fun q _ h => h) (fun q h => h) (fun r32 τ31 t H locs ht hvm hw hB hz hk hS => ?_)
    obtain ⟨hF, hN9⟩ := hw
    have hP : PM dC dI ac A ad τ31 H := tw_back hB ht
    have hN : gN τ31 = gN τ0 := hN9.trans hN
    obtain ⟨hi33, hF⟩ := hF
    refine tw_iast hx hb hK hP hS (by decide) (tw_lt ho30 (congrFun hN 137)) rfl 0 rfl hi33 dX10_readTerm_149 (fun H locs hP hS => ?_)
    obtain ⟨τ34, eτ34⟩ : ∃ y : tw_T, y = sI τ31 137 o30 u1.toNatClampNeg r32 := ⟨_, rfl⟩
    have hF := hF τ34 eτ34
    rw [← eτ34] at hP
    have hN : gN τ34 = gN τ0 := by rw [eτ34]; exact hN
    exact j150 τ34 p0 hp0 u1 _ _ _ hF hP hN hS (lv_sub hl [0, 1] rfl)
  have j79 : ∀ (τ : tw_T) (p0 : Nat) (hp0 : p0 < gN τ0 0) (u1 : Int32) (u2 : Int32) (H : Heap) (locs : List Loc) (ls : Array Slot), J_X10_readTerm_79 τ p0 u1 u2 Q → PM dC dI ac A ad τ H → gN τ = gN τ0 → va_S A s.heap H locs → lv_has ls 5 [(0, .ref (ad 0 p0)), (1, .int u1), (2, .int u2)] → W p l e rmX10_readTerm s m ([.ref (ad 0 k0)] : List Value).toArray below meth c H locs 0 0 (MQ below (va_Qv (fun (u : tw_T) => Q u ∧ gN u = gN τ0) (fun u t => PM dC dI ac A ad u t.heap) A) ([.ref (ad 0 k0)] : List Value).toArray s 0 0 A) (F0 m 79 ls []) := by
    intro τ p0 hp0 u1 u2 H locs ls hF hP hN hS hl
    unfold J_X10_readTerm_79 at hF
    refine lv_aload_n hx hb dX10_readTerm_79 rfl (lv_at hl 0 rfl) ?_
    obtain ⟨o35, eo35, hF⟩ := hF
    have ho35 : o35 < gN τ0 135 := tw_lt (hP.2.2.2 0 p0 35 o35 (by decide) (tw_lt hp0 (congrFun hN 0)) eo35) (congrFun hN 135).symm
    refine tw_get (v := .ref (ad 135 o35)) hx hb hts (by decide +kernel) hown hK hP (by decide) (tw_lt hp0 (congrFun hN 0)) rfl rfl 35 (by decide) (hts (.fieldLink RX10 65 "WineCellarModel" "term" "[I") (by decide +kernel)) (fun _ h9 => h9) (show some (va_rf ((gR τ 0 p0 35).map (ad 135))) = some (.ref (ad 135 o35)) by rw [eo35]; rfl) dX10_readTerm_80 ?_
    refine lv_iload_n hx hb dX10_readTerm_83 rfl (lv_at hl 1 rfl) ?_
    refine lv_iload_n hx hb dX10_readTerm_84 rfl (lv_at hl 2 rfl) ?_
    obtain ⟨hi36, hF⟩ := hF
    refine tw_iast hx hb hK hP hS (by decide) (tw_lt ho35 (congrFun hN 135)) rfl 0 rfl hi36 dX10_readTerm_85 (fun H locs hP hS => ?_)
    obtain ⟨τ37, eτ37⟩ : ∃ y : tw_T, y = sI τ 135 o35 u1.toNatClampNeg u2 := ⟨_, rfl⟩
    have hF := hF τ37 eτ37
    rw [← eτ37] at hP
    have hN : gN τ37 = gN τ0 := by rw [eτ37]; exact hN
    refine lv_iload_n hx hb dX10_readTerm_86 rfl (lv_at hl 2 rfl) ?_
    refine lv_iconst (v := 5) hx hb dX10_readTerm_87 (by decide) ?_
    refine lv_icmp_lt (tgt := 150) hx hb dX10_readTerm_88 (by decide) (fun c38 => ?_) (fun c38 => ?_)
    · have hF := hF.1 c38
      exact j150 τ37 p0 hp0 u1 _ _ _ hF hP hN hS (lv_sub hl [0, 1] rfl)
    · have hF := hF.2 c38
      refine lv_aload_n hx hb dX10_readTerm_91 rfl (lv_at hl 0 rfl) ?_
      refine va_calli (va_runV (As := []) (rest := []) ⟨hx, hb, hml, hown, hts⟩ (mX10_here l dC dI ac sa A ad τ37 p0 _ hF (tw_lt hp0 (congrFun hN 0))) (cwV 0 hts gX10_readTerm_X10_here rfl rfl rfl (by decide +kernel) ⟨Nat.le_of_ble_eq_true rfl, Nat.le_of_ble_eq_true rfl⟩) ⟨BM.blind, tw_recv hK hP (by decide) (tw_lt hp0 (congrFun hN 0)) rfl rfl, fun U hU hW => ⟨rfl, BM.of hP hK hS hA hZ hU hW⟩⟩ rfl rfl hl.1 rfl (lv_room (Nat.le_of_ble_eq_true rfl)) dX10_readTerm_92 ⟨Nat.le_of_ble_eq_true rfl, Nat.le_of_ble_eq_true rfl⟩) hS (fun q _ h => h) (fun q h => h) (fun r40 τ39 t H locs ht hvm hw hB hz hk hS => ?_)
      obtain ⟨hF, hN9⟩ := hw
      have hP : PM dC dI ac A ad τ39 H := tw_back hB ht
      have hN : gN τ39 = gN τ0 := hN9.trans hN
      refine lv_istore_n (lv' := [(3, .int r40), (0, .ref (ad 0 p0)), (1, .int u1), (2, .int u2)]) hx hb dX10_readTerm_95 rfl hl (by decide) rfl (fun ls hl => ?_)
      refine lv_iload_n hx hb dX10_readTerm_96 rfl (lv_at hl 0 rfl) ?_
      refine lv_bipush (v := 60) hx hb dX10_readTerm_97 (by decide) ?_
      refine lv_icmp_eq (tgt := 123) hx hb dX10_readTerm_99 (by decide) (fun c41 => ?_) (fun c41 => ?_)
      · have hF := hF.1 c41
        exact j123 τ39 p0 hp0 u1 r40 _ _ _ hF hP hN hS (lv_sub hl [1, 2, 0] rfl)
      · have hF := hF.2 c41
        refine lv_iload_n hx hb dX10_readTerm_102 rfl (lv_at hl 0 rfl) ?_
        refine lv_bipush (v := 62) hx hb dX10_readTerm_103 (by decide) ?_
        refine lv_icmp_eq (tgt := 123) hx hb dX10_readTerm_105 (by decide) (fun c42 => ?_) (fun c42 => ?_)
        · have hF := hF.1 c42
          exact j123 τ39 p0 hp0 u1 r40 _ _ _ hF hP hN hS (lv_sub hl [1, 2, 0] rfl)
        · have hF := hF.2 c42
          refine lv_iload_n hx hb dX10_readTerm_108 rfl (lv_at hl 0 rfl) ?_
          refine lv_bipush (v := 61) hx hb dX10_readTerm_109 (by decide) ?_
          refine lv_icmp_eq (tgt := 123) hx hb dX10_readTerm_111 (by decide) (fun c43 => ?_) (fun c43 => ?_)
          · have hF := hF.1 c43
            exact j123 τ39 p0 hp0 u1 r40 _ _ _ hF hP hN hS (lv_sub hl [1, 2, 0] rfl)
          · have hF := hF.2 c43
            refine lv_aload_n hx hb dX10_readTerm_114 rfl (lv_at hl 1 rfl) ?_
            refine lv_aload_n hx hb dX10_readTerm_115 rfl (lv_at hl 1 rfl) ?_
            refine tw_get (v := .int (gI τ39 0 p0 31)) hx hb hts (by decide +kernel) hown hK hP (by decide) (tw_lt hp0 (congrFun hN 0)) rfl rfl 31 (by decide) (hts (.fieldLink RX10 196 "WineCellarModel" "at" "I") (by decide +kernel)) (fun _ h9 => h9) rfl dX10_readTerm_116 ?_
            refine va_callv (va_runV (As := [.int (gI τ39 0 p0 31)]) (rest := []) ⟨hx, hb, hml, hown, hts⟩ (mX10_wrong l dC dI ac sa A ad τ39 p0 (gI τ39 0 p0 31) _ hF (tw_lt hp0 (congrFun hN 0))) (cwV 1 hts gX10_readTerm_X10_wrong rfl rfl rfl (by decide +kernel) ⟨Nat.le_of_ble_eq_true rfl, Nat.le_of_ble_eq_true rfl⟩) ⟨BM.blind, tw_recv hK hP (by decide) (tw_lt hp0 (congrFun hN 0)) rfl rfl, fun U hU hW => ⟨rfl, BM.of hP hK hS hA hZ hU hW⟩⟩ rfl rfl hl.1 rfl (lv_room (Nat.le_of_ble_eq_true rfl)) dX10_readTerm_119 ⟨Nat.le_of_ble_eq_true rfl, Nat.le_of_ble_eq_true rfl⟩) hS (fun q _ h => h) (fun q h => h) (fun τ44 t H locs ht hvm hw hB hz hk hS => ?_)
            obtain ⟨hF, hN9⟩ := hw
            have hP : PM dC dI ac A ad τ44 H := tw_back hB ht
            have hN : gN τ44 = gN τ0 := hN9.trans hN
            exact W.vret hx hb hr (fun t ht hW => ⟨⟨τ44, rfl, ⟨hF, hN⟩, tw_at hP ht⟩, hS.F ht⟩) hS.2.2 dX10_readTerm_122
  have l40 : ∀ (p0 : Nat) (hp0 : p0 < gN τ0 0) (u1 : Int32) (u2 : Int32) (EX : tw_T → Prop) (n : Nat) (τ : tw_T)  (H : Heap) (locs : List Loc) (ls : Array Slot), L_X10_readTerm_40 p0 u1 u2 Q EX n τ  → PM dC dI ac A ad τ H → gN τ = gN τ0 → va_S A s.heap H locs → lv_has ls 5 [(0, .ref (ad 0 p0)), (1, .int u1), (2, .int u2)] → (∀ (τ : tw_T)  (H : Heap) (locs : List Loc) (ls : Array Slot), EX τ  → PM dC dI ac A ad τ H → gN τ = gN τ0 → va_S A s.heap H locs → lv_has ls 5 [(0, .ref (ad 0 p0)), (1, .int u1), (2, .int u2)] → W p l e rmX10_readTerm s m ([.ref (ad 0 k0)] : List Value).toArray below meth c H locs 0 0 (MQ below (va_Qv (fun (u : tw_T) => Q u ∧ gN u = gN τ0) (fun u t => PM dC dI ac A ad u t.heap) A) ([.ref (ad 0 k0)] : List Value).toArray s 0 0 A) (F0 m 79 ls [])) → W p l e rmX10_readTerm s m ([.ref (ad 0 k0)] : List Value).toArray below meth c H locs 0 0 (MQ below (va_Qv (fun (u : tw_T) => Q u ∧ gN u = gN τ0) (fun u t => PM dC dI ac A ad u t.heap) A) ([.ref (ad 0 k0)] : List Value).toArray s 0 0 A) (F0 m 40 ls []) := by
    intro p0 hp0 u1 u2 EX n
    induction n with
    | zero => intro τ  H locs ls hF; exact hF.elim
    | succ n ih =>
      intro τ  H locs ls hF hP hN hS hl hEX
      rw [L_X10_readTerm_40] at hF
      refine lv_aload_n hx hb dX10_readTerm_40 rfl (lv_at hl 0 rfl) ?_
      refine tw_get (v := .int (gI τ 0 p0 31)) hx hb hts (by decide +kernel) hown hK hP (by decide) (tw_lt hp0 (congrFun hN 0)) rfl rfl 31 (by decide) (hts (.fieldLink RX10 196 "WineCellarModel" "at" "I") (by decide +kernel)) (fun _ h9 => h9) rfl dX10_readTerm_41 ?_
      refine lv_aload_n hx hb dX10_readTerm_44 rfl (lv_at hl 0 rfl) ?_
      refine tw_get (v := .int (gI τ 0 p0 30)) hx hb hts (by decide +kernel) hown hK hP (by decide) (tw_lt hp0 (congrFun hN 0)) rfl rfl 30 (by decide) (hts (.fieldLink RX10 199 "WineCellarModel" "size" "I") (by decide +kernel)) (fun _ h9 => h9) rfl dX10_readTerm_45 ?_
      refine lv_icmp_ge (tgt := 79) hx hb dX10_readTerm_48 (by decide) (fun c45 => ?_) (fun c45 => ?_)
      · have hF := hF.1 c45
        exact hEX τ  _ _ _ hF hP hN hS (lv_sub hl [0, 1, 2] rfl)
      · have hF := hF.2 c45
        refine lv_aload_n hx hb dX10_readTerm_51 rfl (lv_at hl 0 rfl) ?_
        obtain ⟨o46, eo46, hF⟩ := hF
        have ho46 : o46 < gN τ0 133 := tw_lt (hP.2.2.2 0 p0 33 o46 (by decide) (tw_lt hp0 (congrFun hN 0)) eo46) (congrFun hN 133).symm
        refine tw_get (v := .ref (ad 133 o46)) hx hb hts (by decide +kernel) hown hK hP (by decide) (tw_lt hp0 (congrFun hN 0)) rfl rfl 33 (by decide) (hts (.fieldLink RX10 59 "WineCellarModel" "tape" "[I") (by decide +kernel)) (fun _ h9 => h9) (show some (va_rf ((gR τ 0 p0 33).map (ad 133))) = some (.ref (ad 133 o46)) by rw [eo46]; rfl) dX10_readTerm_52 ?_
        refine lv_aload_n hx hb dX10_readTerm_55 rfl (lv_at hl 0 rfl) ?_
        refine tw_get (v := .int (gI τ 0 p0 31)) hx hb hts (by decide +kernel) hown hK hP (by decide) (tw_lt hp0 (congrFun hN 0)) rfl rfl 31 (by decide) (hts (.fieldLink RX10 196 "WineCellarModel" "at" "I") (by decide +kernel)) (fun _ h9 => h9) rfl dX10_readTerm_56 ?_
        obtain ⟨hi47, hF⟩ := hF
        refine tw_iald hx hb hK hP (by decide) (tw_lt ho46 (congrFun hN 133)) rfl 0 rfl hi47 dX10_readTerm_59 ?_
        refine va_calli (va_runS (As := [.int (gI τ 133 o46 (gI τ 0 p0 31).toNatClampNeg)]) (rest := []) ⟨hx, hb, hml, hown, hts⟩ (mX10_isSmall l dC dI ac sa A ad τ (gI τ 133 o46 (gI τ 0 p0 31).toNatClampNeg) _ hF ) (va_cwS 1 hts gX10_readTerm_X10_isSmall rfl rfl rfl (by decide +kernel) ⟨Nat.le_of_ble_eq_true rfl, Nat.le_of_ble_eq_true rfl⟩) ⟨BM.blind, fun U hU hW => ⟨rfl, BM.of hP hK hS hA hZ hU hW⟩⟩ rfl rfl hl.1 rfl (lv_room (Nat.le_of_ble_eq_true rfl)) dX10_readTerm_60 ⟨Nat.le_of_ble_eq_true rfl, Nat.le_of_ble_eq_true rfl⟩) hS (fun q _ h => h) (fun q h => h) (fun r49 τ48 t H locs ht hvm hw hB hz hk hS => ?_)
        obtain ⟨hF, hN9⟩ := hw
        have hP : PM dC dI ac A ad τ48 H := tw_back hB ht
        have hN : gN τ48 = gN τ0 := hN9.trans hN
        refine lv_if_eq (tgt := 79) hx hb dX10_readTerm_63 (by decide) (fun c50 => ?_) (fun c50 => ?_)
        · have hF := hF.1 c50
          exact hEX τ48  _ _ _ hF hP hN hS (lv_sub hl [0, 1, 2] rfl)
        · have hF := hF.2 c50
          refine lv_aload_n hx hb dX10_readTerm_66 rfl (lv_at hl 0 rfl) ?_
          refine lv_dup hx hb dX10_readTerm_67 rfl ?_
          refine tw_get (v := .int (gI τ48 0 p0 31)) hx hb hts (by decide +kernel) hown hK hP (by decide) (tw_lt hp0 (congrFun hN 0)) rfl rfl 31 (by decide) (hts (.fieldLink RX10 196 "WineCellarModel" "at" "I") (by decide +kernel)) (fun _ h9 => h9) rfl dX10_readTerm_68 ?_
          refine lv_iconst (v := 1) hx hb dX10_readTerm_71 (by decide) ?_
          refine lv_iadd hx hb dX10_readTerm_72 ?_
          refine tw_put (τ' := sI τ48 0 p0 31 ((gI τ48 0 p0 31) + ((1 : Int32)))) (ty := .int) hx hb hts (by decide +kernel) tyX10 tyX10_ok nmX10 hown hK hP hS (by decide) (tw_lt hp0 (congrFun hN 0)) rfl rfl 31 (by decide) (hts (.fieldLink RX10 196 "WineCellarModel" "at" "I") (by decide +kernel)) (fun _ h9 => h9) rfl (by decide +kernel) rfl rfl (Nat.le_of_ble_eq_true rfl) dX10_readTerm_73 (fun H1 ha ho => tw_updI hP (by decide) (tw_lt hp0 (congrFun hN 0)) ha ho) (fun H locs hP hS => ?_)
          obtain ⟨τ51, eτ51⟩ : ∃ y : tw_T, y = sI τ48 0 p0 31 ((gI τ48 0 p0 31) + ((1 : Int32))) := ⟨_, rfl⟩
          have hF := hF τ51 eτ51
          rw [← eτ51] at hP
          have hN : gN τ51 = gN τ0 := by rw [eτ51]; exact hN
          refine lv_goto (tgt := 40) hx hb dX10_readTerm_76 (by decide) ?_
          exact ih τ51  _ _ _ hF hP hN hS (lv_sub hl [0, 1, 2] rfl) hEX
  refine lv_bipush (v := 12) hx hb dX10_readTerm_0 (by decide) ?_
  refine lv_aload_n hx hb dX10_readTerm_2 rfl (lv_at hl 0 rfl) ?_
  refine tw_get (v := .int (gI τ0 0 k0 29)) hx hb hts (by decide +kernel) hown hK hP (by decide) hk0 rfl rfl 29 (by decide) (hts (.fieldLink RX10 224 "WineCellarModel" "dishes" "I") (by decide +kernel)) (fun _ h9 => h9) rfl dX10_readTerm_3 ?_
  refine lv_imul hx hb dX10_readTerm_6 ?_
  refine lv_aload_n hx hb dX10_readTerm_7 rfl (lv_at hl 0 rfl) ?_
  obtain ⟨o52, eo52, hF⟩ := hF
  have ho52 : o52 < gN τ0 134 := tw_lt (hP.2.2.2 0 k0 34 o52 (by decide) hk0 eo52) (congrFun hN 134).symm
  refine tw_get (v := .ref (ad 134 o52)) hx hb hts (by decide +kernel) hown hK hP (by decide) hk0 rfl rfl 34 (by decide) (hts (.fieldLink RX10 62 "WineCellarModel" "termMany" "[I") (by decide +kernel)) (fun _ h9 => h9) (show some (va_rf ((gR τ0 0 k0 34).map (ad 134))) = some (.ref (ad 134 o52)) by rw [eo52]; rfl) dX10_readTerm_8 ?_
  refine lv_aload_n hx hb dX10_readTerm_11 rfl (lv_at hl 0 rfl) ?_
  refine tw_get (v := .int (gI τ0 0 k0 29)) hx hb hts (by decide +kernel) hown hK hP (by decide) hk0 rfl rfl 29 (by decide) (hts (.fieldLink RX10 224 "WineCellarModel" "dishes" "I") (by decide +kernel)) (fun _ h9 => h9) rfl dX10_readTerm_12 ?_
  obtain ⟨hi53, hF⟩ := hF
  refine tw_iald hx hb hK hP (by decide) ho52 rfl 0 rfl hi53 dX10_readTerm_15 ?_
  refine lv_iadd hx hb dX10_readTerm_16 ?_
  refine lv_topi (fun z54 ez54 => ?_)
  have hF := hF z54 ez54
  refine lv_istore_n (lv' := [(1, .int z54), (0, .ref (ad 0 k0))]) hx hb dX10_readTerm_17 rfl hl (by decide) rfl (fun ls hl => ?_)
  refine lv_aload_n hx hb dX10_readTerm_18 rfl (lv_at hl 1 rfl) ?_
  refine va_calli (va_runV (As := []) (rest := []) ⟨hx, hb, hml, hown, hts⟩ (mX10_word l dC dI ac sa A ad τ0 k0 _ hF hk0) (cwV 0 hts gX10_readTerm_X10_word rfl rfl rfl (by decide +kernel) ⟨Nat.le_of_ble_eq_true rfl, Nat.le_of_ble_eq_true rfl⟩) ⟨BM.blind, tw_recv hK hP (by decide) hk0 rfl rfl, fun U hU hW => ⟨rfl, BM.of hP hK hS hA hZ hU hW⟩⟩ rfl rfl hl.1 rfl (lv_room (Nat.le_of_ble_eq_true rfl)) dX10_readTerm_19 ⟨Nat.le_of_ble_eq_true rfl, Nat.le_of_ble_eq_true rfl⟩) hS (fun q _ h => h) (fun q h => h) (fun r56 τ55 t H locs ht hvm hw hB hz hk hS => ?_)
  obtain ⟨hF, hN9⟩ := hw
  have hP : PM dC dI ac A ad τ55 H := tw_back hB ht
  have hN : gN τ55 = gN τ0 := hN9.trans hN
  refine va_calli (va_runS (As := [.int r56]) (rest := []) ⟨hx, hb, hml, hown, hts⟩ (mX10_testOf l dC dI ac sa A ad τ55 r56 _ hF ) (va_cwS 1 hts gX10_readTerm_X10_testOf rfl rfl rfl (by decide +kernel) ⟨Nat.le_of_ble_eq_true rfl, Nat.le_of_ble_eq_true rfl⟩) ⟨BM.blind, fun U hU hW => ⟨rfl, BM.of hP hK hS hA hZ hU hW⟩⟩ rfl rfl hl.1 rfl (lv_room (Nat.le_of_ble_eq_true rfl)) dX10_readTerm_22 ⟨Nat.le_of_ble_eq_true rfl, Nat.le_of_ble_eq_true rfl⟩) hS (fun q _ h => h) (fun q h => h) (fun r58 τ57 t H locs ht hvm hw hB hz hk hS => ?_)
  obtain ⟨hF, hN9⟩ := hw
  have hP : PM dC dI ac A ad τ57 H := tw_back hB ht
  have hN : gN τ57 = gN τ0 := hN9.trans hN
  refine lv_istore_n (lv' := [(2, .int r58), (1, .int z54), (0, .ref (ad 0 k0))]) hx hb dX10_readTerm_25 rfl hl (by decide) rfl (fun ls hl => ?_)
  refine lv_iload_n hx hb dX10_readTerm_26 rfl (lv_at hl 0 rfl) ?_
  refine lv_iconst (v := (-1)) hx hb dX10_readTerm_27 (by decide) ?_
  refine lv_icmp_ne (tgt := 40) hx hb dX10_readTerm_28 (by decide) (fun c59 => ?_) (fun c59 => ?_)
  · have hF := hF.1 c59
    obtain ⟨n60, hF⟩ := hF
    refine l40 k0 hk0 z54 r58 _ n60 τ57  _ _ _ hF hP hN hS (lv_sub hl [2, 1, 0] rfl) ?_
    intro τ61  H locs ls hF hP hN hS hl
    exact j79 τ61 k0 hk0 z54 r58 _ _ _ hF hP hN hS (lv_sub hl [0, 1, 2] rfl)
  · have hF := hF.2 c59
    refine lv_aload_n hx hb dX10_readTerm_31 rfl (lv_at hl 2 rfl) ?_
    refine lv_aload_n hx hb dX10_readTerm_32 rfl (lv_at hl 2 rfl) ?_
    refine tw_get (v := .int (gI τ57 0 k0 31)) hx hb hts (by decide +kernel) hown hK hP (by decide) (tw_lt hk0 (congrFun hN 0)) rfl rfl 31 (by decide) (hts (.fieldLink RX10 196 "WineCellarModel" "at" "I") (by decide +kernel)) (fun _ h9 => h9) rfl dX10_readTerm_33 ?_
    refine va_callv (va_runV (As := [.int (gI τ57 0 k0 31)]) (rest := []) ⟨hx, hb, hml, hown, hts⟩ (mX10_wrong l dC dI ac sa A ad τ57 k0 (gI τ57 0 k0 31) _ hF (tw_lt hk0 (congrFun hN 0))) (cwV 1 hts gX10_readTerm_X10_wrong rfl rfl rfl (by decide +kernel) ⟨Nat.le_of_ble_eq_true rfl, Nat.le_of_ble_eq_true rfl⟩) ⟨BM.blind, tw_recv hK hP (by decide) (tw_lt hk0 (congrFun hN 0)) rfl rfl, fun U hU hW => ⟨rfl, BM.of hP hK hS hA hZ hU hW⟩⟩ rfl rfl hl.1 rfl (lv_room (Nat.le_of_ble_eq_true rfl)) dX10_readTerm_36 ⟨Nat.le_of_ble_eq_true rfl, Nat.le_of_ble_eq_true rfl⟩) hS (fun q _ h => h) (fun q h => h) (fun τ62 t H locs ht hvm hw hB hz hk hS => ?_)
    obtain ⟨hF, hN9⟩ := hw
    have hP : PM dC dI ac A ad τ62 H := tw_back hB ht
    have hN : gN τ62 = gN τ0 := hN9.trans hN
    exact W.vret hx hb hr (fun t ht hW => ⟨⟨τ62, rfl, ⟨hF, hN⟩, tw_at hP ht⟩, hS.F ht⟩) hS.2.2 dX10_readTerm_39
def J_X10_dish_172 (τ : tw_T) (p0 : Nat) (Q : Int32 → tw_T → Prop) : Prop := F_X10_fine τ p0 (fun (r2 : Int32) (τ1 : tw_T) => (((¬ r2 = 0 → (∀ τ4 : tw_T, τ4 = sI τ1 0 p0 29 ((gI τ1 0 p0 29) + ((1 : Int32))) → (Q ((gI τ4 0 p0 29) - ((1 : Int32))) τ4))) ∧ (r2 = 0 → (Q (((-2 : Int32)) - (gI τ1 0 p0 32)) τ1)))))
def J_X10_dish_146 (τ : tw_T) (p0 : Nat) (Q : Int32 → tw_T → Prop) : Prop := F_X10_fine τ p0 (fun (r6 : Int32) (τ5 : tw_T) => (((r6 = 0 → (J_X10_dish_172 τ5 p0 Q)) ∧ (¬ r6 = 0 → ((((gI τ5 0 p0 30) ≤ (gI τ5 0 p0 31) → (J_X10_dish_172 τ5 p0 Q)) ∧ (¬ (gI τ5 0 p0 30) ≤ (gI τ5 0 p0 31) → (F_X10_wrong τ5 p0 (gI τ5 0 p0 31) (fun (τ9 : tw_T) => (J_X10_dish_172 τ9 p0 Q))))))))))
def L_X10_dish_88 (p0 : Nat) (Q : Int32 → tw_T → Prop) (EX : tw_T → Prop) : Nat → tw_T → Prop
  | 0, _ => False
  | n + 1, τ => F_X10_fine τ p0 (fun (r11 : Int32) (τ10 : tw_T) => (((r11 = 0 → (EX τ10 )) ∧ (¬ r11 = 0 → (F_X10_here τ10 p0 (fun (r14 : Int32) (τ13 : tw_T) => (((¬ r14 = ((44 : Int32)) → (EX τ13 )) ∧ (r14 = ((44 : Int32)) → (∃ o16 : Nat, gR τ13 0 p0 34 = some o16 ∧ (vp_in (gI τ13 0 p0 29) 21 ∧ (((¬ (gI τ13 134 o16 (gI τ13 0 p0 29).toNatClampNeg) = ((12 : Int32)) → (∀ τ19 : tw_T, τ19 = sI τ13 0 p0 31 ((gI τ13 0 p0 31) + ((1 : Int32))) → (F_X10_readTerm τ19 p0 (fun (τ20 : tw_T) => (L_X10_dish_88 p0 Q EX n τ20 ))))) ∧ ((gI τ13 134 o16 (gI τ13 0 p0 29).toNatClampNeg) = ((12 : Int32)) → (F_X10_wrong τ13 p0 (gI τ13 0 p0 31) (fun (τ21 : tw_T) => (L_X10_dish_88 p0 Q EX n τ21 )))))))))))))))))
def J_X10_dish_45 (τ : tw_T) (p0 : Nat) (u1 : Int32) (y0 : Int32) (q1 : Nat) (Q : Int32 → tw_T → Prop) : Prop := F_X10_may τ q1 y0 ((2 : Int32)) (fun (r23 : Int32) (τ22 : tw_T) => (((¬ r23 = 0 → (∀ τ25 : tw_T, τ25 = sI τ22 0 p0 28 ((0 : Int32)) → (∀ τ26 : tw_T, τ26 = sI τ25 0 p0 30 u1 → (∀ τ27 : tw_T, τ27 = sI τ26 0 p0 31 ((0 : Int32)) → (∀ τ28 : tw_T, τ28 = sI τ27 0 p0 32 ((-1 : Int32)) → (∃ o29 : Nat, gR τ28 0 p0 34 = some o29 ∧ (vp_in (gI τ28 0 p0 29) 21 ∧ (∀ τ31 : tw_T, τ31 = sI τ28 134 o29 (gI τ28 0 p0 29).toNatClampNeg ((0 : Int32)) → (F_X10_readTerm τ31 p0 (fun (τ32 : tw_T) => (∃ n33 : Nat, L_X10_dish_88 p0 Q (fun (τ34 : tw_T)  => J_X10_dish_146 τ34 p0 Q) n33 τ32 ))))))))))) ∧ (r23 = 0 → (Q ((0 : Int32)) τ22)))))
def J_X10_dish_23 (τ : tw_T) (p0 : Nat) (u1 : Int32) (y0 : Int32) (q1 : Nat) (Q : Int32 → tw_T → Prop) : Prop := F_X10_may τ q1 y0 ((1 : Int32)) (fun (r36 : Int32) (τ35 : tw_T) => (((r36 = 0 → (Q ((0 : Int32)) τ35)) ∧ (¬ r36 = 0 → (((((20 : Int32)) ≤ (gI τ35 0 p0 29) → (J_X10_dish_45 τ35 p0 u1 ((0 : Int32)) p0 Q)) ∧ (¬ ((20 : Int32)) ≤ (gI τ35 0 p0 29) → (J_X10_dish_45 τ35 p0 u1 ((1 : Int32)) p0 Q))))))))
def J_X10_dish_22 (τ : tw_T) (p0 : Nat) (u1 : Int32) (q0 : Nat) (Q : Int32 → tw_T → Prop) : Prop := J_X10_dish_23 τ p0 u1 ((0 : Int32)) q0 Q
def F_X10_dish (τ0 : tw_T) (k0 : Nat) (x1 : Int32) (Q : Int32 → tw_T → Prop) : Prop := ∀ τ39 : tw_T, τ39 = sI τ0 0 k0 0 ((0 : Int32)) → (((x1 < 0 → (J_X10_dish_22 τ39 k0 x1 k0 Q)) ∧ (¬ x1 < 0 → ((((gI τ39 0 k0 28) < x1 → (J_X10_dish_22 τ39 k0 x1 k0 Q)) ∧ (¬ (gI τ39 0 k0 28) < x1 → (J_X10_dish_23 τ39 k0 x1 ((1 : Int32)) k0 Q)))))))
def rmX10_dish : Room := { frames := 3, cells := 0, slots := 0, locals := 67 }
set_option maxHeartbeats 4000000 in
set_option maxRecDepth 100000 in
theorem mX10_dish (l : Launch) (dC : Nat → ClassId) (dI : Nat → Nat → Nat) (ac : Nat → ClassId) (sa : Nat → Nat) (A : Nat → Prop) (ad : Nat → Nat → Nat) (τ0 : tw_T) (k0 : Nat) (x1 : Int32) (Q : Int32 → tw_T → Prop) (hF : F_X10_dish τ0 k0 x1 Q) (hk0 : k0 < gN τ0 0) : Met l yX10_dish wsX10_dish rmX10_dish (va_Pc [.ref (ad 0 k0), .int x1] (BM dC dI ac sa A ad τ0)) (va_Qi (fun r (u : tw_T) => Q r u ∧ gN u = gN τ0) (fun u t => PM dC dI ac A ad u t.heap) A) 0 0 A := by
  refine Met.ofW (cc := cX10_dish) (maxL := 2) (ret := (some .int)) (by decide) rfl ?_
  intro p e s m args below meth c s₁ B hml hv
  obtain ⟨rfl, hP, hK, hA, hZ⟩ := hv
  have hx := B.exec
  have hb := B.bytes
  have hr := B.returns
  have hts := atoms_spec (ws := wsX10_dish) B.pre
  have hown : s.vm.findClass RX10 = some m.cls := findClass_of_methodNamed B.named
  have hlocks := B.notSynchronized
  have hS : va_S A s.heap s.heap [] := va_S.rf
  have hN : gN τ0 = gN τ0 := rfl
  have hl := lv_entry ([.ref (ad 0 k0), .int x1]) (n := 2) (Nat.le_of_ble_eq_true rfl)
  rw [lg_entry_eq]
  generalize (lg_sl ([.ref (ad 0 k0), .int x1]) ++ List.replicate (2 - (lg_sl ([.ref (ad 0 k0), .int x1])).length) Slot.unset).toArray = ls at hl ⊢
  have hl : lv_has ls 2 [(0, .ref (ad 0 k0)), (1, .int x1)] := hl
  unfold F_X10_dish at hF
  have j172 : ∀ (τ : tw_T) (p0 : Nat) (hp0 : p0 < gN τ0 0) (H : Heap) (locs : List Loc) (ls : Array Slot), J_X10_dish_172 τ p0 Q → PM dC dI ac A ad τ H → gN τ = gN τ0 → va_S A s.heap H locs → lv_has ls 2 [(0, .ref (ad 0 p0))] → W p l e rmX10_dish s m ([.ref (ad 0 k0), .int x1] : List Value).toArray below meth c H locs 0 0 (MQ below (va_Qi (fun r (u : tw_T) => Q r u ∧ gN u = gN τ0) (fun u t => PM dC dI ac A ad u t.heap) A) ([.ref (ad 0 k0), .int x1] : List Value).toArray s 0 0 A) (F0 m 172 ls []) := by
    intro τ p0 hp0 H locs ls hF hP hN hS hl
    unfold J_X10_dish_172 at hF
    refine lv_aload_n hx hb dX10_dish_172 rfl (lv_at hl 0 rfl) ?_
    refine va_calli (va_runV (As := []) (rest := []) ⟨hx, hb, hml, hown, hts⟩ (mX10_fine l dC dI ac sa A ad τ p0 _ hF (tw_lt hp0 (congrFun hN 0))) (cwV 0 hts gX10_dish_X10_fine rfl rfl rfl (by decide +kernel) ⟨Nat.le_of_ble_eq_true rfl, Nat.le_of_ble_eq_true rfl⟩) ⟨BM.blind, tw_recv hK hP (by decide) (tw_lt hp0 (congrFun hN 0)) rfl rfl, fun U hU hW => ⟨rfl, BM.of hP hK hS hA hZ hU hW⟩⟩ rfl rfl hl.1 rfl (lv_room (Nat.le_of_ble_eq_true rfl)) dX10_dish_173 ⟨Nat.le_of_ble_eq_true rfl, Nat.le_of_ble_eq_true rfl⟩) hS (fun q _ h => h) (fun q h => h) (fun r2 τ1 t H locs ht hvm hw hB hz hk hS => ?_)
    obtain ⟨hF, hN9⟩ := hw
    have hP : PM dC dI ac A ad τ1 H := tw_back hB ht
    have hN : gN τ1 = gN τ0 := hN9.trans hN
    refine lv_if_ne (tgt := 187) hx hb dX10_dish_176 (by decide) (fun c3 => ?_) (fun c3 => ?_)
    · have hF := hF.1 c3
      refine lv_aload_n hx hb dX10_dish_187 rfl (lv_at hl 0 rfl) ?_
      refine lv_dup hx hb dX10_dish_188 rfl ?_
      refine tw_get (v := .int (gI τ1 0 p0 29)) hx hb hts (by decide +kernel) hown hK hP (by decide) (tw_lt hp0 (congrFun hN 0)) rfl rfl 29 (by decide) (hts (.fieldLink RX10 224 "WineCellarModel" "dishes" "I") (by decide +kernel)) (fun _ h9 => h9) rfl dX10_dish_189 ?_
      refine lv_iconst (v := 1) hx hb dX10_dish_192 (by decide) ?_
      refine lv_iadd hx hb dX10_dish_193 ?_
      refine tw_put (τ' := sI τ1 0 p0 29 ((gI τ1 0 p0 29) + ((1 : Int32)))) (ty := .int) hx hb hts (by decide +kernel) tyX10 tyX10_ok nmX10 hown hK hP hS (by decide) (tw_lt hp0 (congrFun hN 0)) rfl rfl 29 (by decide) (hts (.fieldLink RX10 224 "WineCellarModel" "dishes" "I") (by decide +kernel)) (fun _ h9 => h9) rfl (by decide +kernel) rfl rfl (Nat.le_of_ble_eq_true rfl) dX10_dish_194 (fun H1 ha ho => tw_updI hP (by decide) (tw_lt hp0 (congrFun hN 0)) ha ho) (fun H locs hP hS => ?_)
      obtain ⟨τ4, eτ4⟩ : ∃ y : tw_T, y = sI τ1 0 p0 29 ((gI τ1 0 p0 29) + ((1 : Int32))) := ⟨_, rfl⟩
      have hF := hF τ4 eτ4
      rw [← eτ4] at hP
      have hN : gN τ4 = gN τ0 := by rw [eτ4]; exact hN
      refine lv_aload_n hx hb dX10_dish_197 rfl (lv_at hl 0 rfl) ?_
      refine tw_get (v := .int (gI τ4 0 p0 29)) hx hb hts (by decide +kernel) hown hK hP (by decide) (tw_lt hp0 (congrFun hN 0)) rfl rfl 29 (by decide) (hts (.fieldLink RX10 224 "WineCellarModel" "dishes" "I") (by decide +kernel)) (fun _ h9 => h9) rfl dX10_dish_198 ?_
      refine lv_iconst (v := 1) hx hb dX10_dish_201 (by decide) ?_
      refine lv_isub hx hb dX10_dish_202 ?_
      exact W.iret (v := (gI τ4 0 p0 29) - ((1 : Int32))) hx hb hr (fun t ht hW => ⟨⟨((gI τ4 0 p0 29) - ((1 : Int32))), τ4, rfl, ⟨hF, hN⟩, tw_at hP ht⟩, hS.F ht⟩) hS.2.2 dX10_dish_203
    · have hF := hF.2 c3
      refine lv_bipush (v := (-2)) hx hb dX10_dish_179 (by decide) ?_
      refine lv_aload_n hx hb dX10_dish_181 rfl (lv_at hl 0 rfl) ?_
      refine tw_get (v := .int (gI τ1 0 p0 32)) hx hb hts (by decide +kernel) hown hK hP (by decide) (tw_lt hp0 (congrFun hN 0)) rfl rfl 32 (by decide) (hts (.fieldLink RX10 193 "WineCellarModel" "bad" "I") (by decide +kernel)) (fun _ h9 => h9) rfl dX10_dish_182 ?_
      refine lv_isub hx hb dX10_dish_185 ?_
      exact W.iret (v := ((-2 : Int32)) - (gI τ1 0 p0 32)) hx hb hr (fun t ht hW => ⟨⟨(((-2 : Int32)) - (gI τ1 0 p0 32)), τ1, rfl, ⟨hF, hN⟩, tw_at hP ht⟩, hS.F ht⟩) hS.2.2 dX10_dish_186
  have j146 : ∀ (τ : tw_T) (p0 : Nat) (hp0 : p0 < gN τ0 0) (H : Heap) (locs : List Loc) (ls : Array Slot), J_X10_dish_146 τ p0 Q → PM dC dI ac A ad τ H → gN τ = gN τ0 → va_S A s.heap H locs → lv_has ls 2 [(0, .ref (ad 0 p0))] → W p l e rmX10_dish s m ([.ref (ad 0 k0), .int x1] : List Value).toArray below meth c H locs 0 0 (MQ below (va_Qi (fun r (u : tw_T) => Q r u ∧ gN u = gN τ0) (fun u t => PM dC dI ac A ad u t.heap) A) ([.ref (ad 0 k0), .int x1] : List Value).toArray s 0 0 A) (F0 m 146 ls []) := by
    intro τ p0 hp0 H locs ls hF hP hN hS hl
    unfold J_X10_dish_146 at hF
    refine lv_aload_n hx hb dX10_dish_146 rfl (lv_at hl 0 rfl) ?_
    refine va_calli (va_runV (As := []) (rest := []) ⟨hx, hb, hml, hown, hts⟩ (mX10_fine l dC dI ac sa A ad τ p0 _ hF (tw_lt hp0 (congrFun hN 0))) (cwV 0 hts gX10_dish_X10_fine rfl rfl rfl (by decide +kernel) ⟨Nat.le_of_ble_eq_true rfl, Nat.le_of_ble_eq_true rfl⟩) ⟨BM.blind, tw_recv hK hP (by decide) (tw_lt hp0 (congrFun hN 0)) rfl rfl, fun U hU hW => ⟨rfl, BM.of hP hK hS hA hZ hU hW⟩⟩ rfl rfl hl.1 rfl (lv_room (Nat.le_of_ble_eq_true rfl)) dX10_dish_147 ⟨Nat.le_of_ble_eq_true rfl, Nat.le_of_ble_eq_true rfl⟩) hS (fun q _ h => h) (fun q h => h) (fun r6 τ5 t H locs ht hvm hw hB hz hk hS => ?_)
    obtain ⟨hF, hN9⟩ := hw
    have hP : PM dC dI ac A ad τ5 H := tw_back hB ht
    have hN : gN τ5 = gN τ0 := hN9.trans hN
    refine lv_if_eq (tgt := 172) hx hb dX10_dish_150 (by decide) (fun c7 => ?_) (fun c7 => ?_)
    · have hF := hF.1 c7
      exact j172 τ5 p0 hp0 _ _ _ hF hP hN hS (lv_sub hl [0] rfl)
    · have hF := hF.2 c7
      refine lv_aload_n hx hb dX10_dish_153 rfl (lv_at hl 0 rfl) ?_
      refine tw_get (v := .int (gI τ5 0 p0 31)) hx hb hts (by decide +kernel) hown hK hP (by decide) (tw_lt hp0 (congrFun hN 0)) rfl rfl 31 (by decide) (hts (.fieldLink RX10 196 "WineCellarModel" "at" "I") (by decide +kernel)) (fun _ h9 => h9) rfl dX10_dish_154 ?_
      refine lv_aload_n hx hb dX10_dish_157 rfl (lv_at hl 0 rfl) ?_
      refine tw_get (v := .int (gI τ5 0 p0 30)) hx hb hts (by decide +kernel) hown hK hP (by decide) (tw_lt hp0 (congrFun hN 0)) rfl rfl 30 (by decide) (hts (.fieldLink RX10 199 "WineCellarModel" "size" "I") (by decide +kernel)) (fun _ h9 => h9) rfl dX10_dish_158 ?_
      refine lv_icmp_ge (tgt := 172) hx hb dX10_dish_161 (by decide) (fun c8 => ?_) (fun c8 => ?_)
      · have hF := hF.1 c8
        exact j172 τ5 p0 hp0 _ _ _ hF hP hN hS (lv_sub hl [0] rfl)
      · have hF := hF.2 c8
        refine lv_aload_n hx hb dX10_dish_164 rfl (lv_at hl 0 rfl) ?_
        refine lv_aload_n hx hb dX10_dish_165 rfl (lv_at hl 0 rfl) ?_
        refine tw_get (v := .int (gI τ5 0 p0 31)) hx hb hts (by decide +kernel) hown hK hP (by decide) (tw_lt hp0 (congrFun hN 0)) rfl rfl 31 (by decide) (hts (.fieldLink RX10 196 "WineCellarModel" "at" "I") (by decide +kernel)) (fun _ h9 => h9) rfl dX10_dish_166 ?_
        refine va_callv (va_runV (As := [.int (gI τ5 0 p0 31)]) (rest := []) ⟨hx, hb, hml, hown, hts⟩ (mX10_wrong l dC dI ac sa A ad τ5 p0 (gI τ5 0 p0 31) _ hF (tw_lt hp0 (congrFun hN 0))) (cwV 1 hts gX10_dish_X10_wrong rfl rfl rfl (by decide +kernel) ⟨Nat.le_of_ble_eq_true rfl, Nat.le_of_ble_eq_true rfl⟩) ⟨BM.blind, tw_recv hK hP (by decide) (tw_lt hp0 (congrFun hN 0)) rfl rfl, fun U hU hW => ⟨rfl, BM.of hP hK hS hA hZ hU hW⟩⟩ rfl rfl hl.1 rfl (lv_room (Nat.le_of_ble_eq_true rfl)) dX10_dish_169 ⟨Nat.le_of_ble_eq_true rfl, Nat.le_of_ble_eq_true rfl⟩) hS (fun q _ h => h) (fun q h => h) (fun τ9 t H locs ht hvm hw hB hz hk hS => ?_)
        obtain ⟨hF, hN9⟩ := hw
        have hP : PM dC dI ac A ad τ9 H := tw_back hB ht
        have hN : gN τ9 = gN τ0 := hN9.trans hN
        exact j172 τ9 p0 hp0 _ _ _ hF hP hN hS (lv_sub hl [0] rfl)
  have l88 : ∀ (p0 : Nat) (hp0 : p0 < gN τ0 0) (EX : tw_T → Prop) (n : Nat) (τ : tw_T)  (H : Heap) (locs : List Loc) (ls : Array Slot), L_X10_dish_88 p0 Q EX n τ  → PM dC dI ac A ad τ H → gN τ = gN τ0 → va_S A s.heap H locs → lv_has ls 2 [(0, .ref (ad 0 p0))] → (∀ (τ : tw_T)  (H : Heap) (locs : List Loc) (ls : Array Slot), EX τ  → PM dC dI ac A ad τ H → gN τ = gN τ0 → va_S A s.heap H locs → lv_has ls 2 [(0, .ref (ad 0 p0))] → W p l e rmX10_dish s m ([.ref (ad 0 k0), .int x1] : List Value).toArray below meth c H locs 0 0 (MQ below (va_Qi (fun r (u : tw_T) => Q r u ∧ gN u = gN τ0) (fun u t => PM dC dI ac A ad u t.heap) A) ([.ref (ad 0 k0), .int x1] : List Value).toArray s 0 0 A) (F0 m 146 ls [])) → W p l e rmX10_dish s m ([.ref (ad 0 k0), .int x1] : List Value).toArray below meth c H locs 0 0 (MQ below (va_Qi (fun r (u : tw_T) => Q r u ∧ gN u = gN τ0) (fun u t => PM dC dI ac A ad u t.heap) A) ([.ref (ad 0 k0), .int x1] : List Value).toArray s 0 0 A) (F0 m 88 ls []) := by
    intro p0 hp0 EX n
    induction n with
    | zero => intro τ  H locs ls hF; exact hF.elim
    | succ n ih =>
      intro τ  H locs ls hF hP hN hS hl hEX
      rw [L_X10_dish_88] at hF
      refine lv_aload_n hx hb dX10_dish_88 rfl (lv_at hl 0 rfl) ?_
      refine va_calli (va_runV (As := []) (rest := []) ⟨hx, hb, hml, hown, hts⟩ (mX10_fine l dC dI ac sa A ad τ p0 _ hF (tw_lt hp0 (congrFun hN 0))) (cwV 0 hts gX10_dish_X10_fine rfl rfl rfl (by decide +kernel) ⟨Nat.le_of_ble_eq_true rfl, Nat.le_of_ble_eq_true rfl⟩) ⟨BM.blind, tw_recv hK hP (by decide) (tw_lt hp0 (congrFun hN 0)) rfl rfl, fun U hU hW => ⟨rfl, BM.of hP hK hS hA hZ hU hW⟩⟩ rfl rfl hl.1 rfl (lv_room (Nat.le_of_ble_eq_true rfl)) dX10_dish_89 ⟨Nat.le_of_ble_eq_true rfl, Nat.le_of_ble_eq_true rfl⟩) hS (fun q _ h => h) (fun q h => h) (fun r11 τ10 t H locs ht hvm hw hB hz hk hS => ?_)
      obtain ⟨hF, hN9⟩ := hw
      have hP : PM dC dI ac A ad τ10 H := tw_back hB ht
      have hN : gN τ10 = gN τ0 := hN9.trans hN
      refine lv_if_eq (tgt := 146) hx hb dX10_dish_92 (by decide) (fun c12 => ?_) (fun c12 => ?_)
      · have hF := hF.1 c12
        exact hEX τ10  _ _ _ hF hP hN hS (lv_sub hl [0] rfl)
      · have hF := hF.2 c12
        refine lv_aload_n hx hb dX10_dish_95 rfl (lv_at hl 0 rfl) ?_
        refine va_calli (va_runV (As := []) (rest := []) ⟨hx, hb, hml, hown, hts⟩ (mX10_here l dC dI ac sa A ad τ10 p0 _ hF (tw_lt hp0 (congrFun hN 0))) (cwV 0 hts gX10_dish_X10_here rfl rfl rfl (by decide +kernel) ⟨Nat.le_of_ble_eq_true rfl, Nat.le_of_ble_eq_true rfl⟩) ⟨BM.blind, tw_recv hK hP (by decide) (tw_lt hp0 (congrFun hN 0)) rfl rfl, fun U hU hW => ⟨rfl, BM.of hP hK hS hA hZ hU hW⟩⟩ rfl rfl hl.1 rfl (lv_room (Nat.le_of_ble_eq_true rfl)) dX10_dish_96 ⟨Nat.le_of_ble_eq_true rfl, Nat.le_of_ble_eq_true rfl⟩) hS (fun q _ h => h) (fun q h => h) (fun r14 τ13 t H locs ht hvm hw hB hz hk hS => ?_)
        obtain ⟨hF, hN9⟩ := hw
        have hP : PM dC dI ac A ad τ13 H := tw_back hB ht
        have hN : gN τ13 = gN τ0 := hN9.trans hN
        refine lv_bipush (v := 44) hx hb dX10_dish_99 (by decide) ?_
        refine lv_icmp_ne (tgt := 146) hx hb dX10_dish_101 (by decide) (fun c15 => ?_) (fun c15 => ?_)
        · have hF := hF.1 c15
          exact hEX τ13  _ _ _ hF hP hN hS (lv_sub hl [0] rfl)
        · have hF := hF.2 c15
          refine lv_aload_n hx hb dX10_dish_104 rfl (lv_at hl 0 rfl) ?_
          obtain ⟨o16, eo16, hF⟩ := hF
          have ho16 : o16 < gN τ0 134 := tw_lt (hP.2.2.2 0 p0 34 o16 (by decide) (tw_lt hp0 (congrFun hN 0)) eo16) (congrFun hN 134).symm
          refine tw_get (v := .ref (ad 134 o16)) hx hb hts (by decide +kernel) hown hK hP (by decide) (tw_lt hp0 (congrFun hN 0)) rfl rfl 34 (by decide) (hts (.fieldLink RX10 62 "WineCellarModel" "termMany" "[I") (by decide +kernel)) (fun _ h9 => h9) (show some (va_rf ((gR τ13 0 p0 34).map (ad 134))) = some (.ref (ad 134 o16)) by rw [eo16]; rfl) dX10_dish_105 ?_
          refine lv_aload_n hx hb dX10_dish_108 rfl (lv_at hl 0 rfl) ?_
          refine tw_get (v := .int (gI τ13 0 p0 29)) hx hb hts (by decide +kernel) hown hK hP (by decide) (tw_lt hp0 (congrFun hN 0)) rfl rfl 29 (by decide) (hts (.fieldLink RX10 224 "WineCellarModel" "dishes" "I") (by decide +kernel)) (fun _ h9 => h9) rfl dX10_dish_109 ?_
          obtain ⟨hi17, hF⟩ := hF
          refine tw_iald hx hb hK hP (by decide) (tw_lt ho16 (congrFun hN 134)) rfl 0 rfl hi17 dX10_dish_112 ?_
          refine lv_bipush (v := 12) hx hb dX10_dish_113 (by decide) ?_
          refine lv_icmp_ne (tgt := 129) hx hb dX10_dish_115 (by decide) (fun c18 => ?_) (fun c18 => ?_)
          · have hF := hF.1 c18
            refine lv_aload_n hx hb dX10_dish_129 rfl (lv_at hl 0 rfl) ?_
            refine lv_dup hx hb dX10_dish_130 rfl ?_
            refine tw_get (v := .int (gI τ13 0 p0 31)) hx hb hts (by decide +kernel) hown hK hP (by decide) (tw_lt hp0 (congrFun hN 0)) rfl rfl 31 (by decide) (hts (.fieldLink RX10 196 "WineCellarModel" "at" "I") (by decide +kernel)) (fun _ h9 => h9) rfl dX10_dish_131 ?_
            refine lv_iconst (v := 1) hx hb dX10_dish_134 (by decide) ?_
            refine lv_iadd hx hb dX10_dish_135 ?_
            refine tw_put (τ' := sI τ13 0 p0 31 ((gI τ13 0 p0 31) + ((1 : Int32)))) (ty := .int) hx hb hts (by decide +kernel) tyX10 tyX10_ok nmX10 hown hK hP hS (by decide) (tw_lt hp0 (congrFun hN 0)) rfl rfl 31 (by decide) (hts (.fieldLink RX10 196 "WineCellarModel" "at" "I") (by decide +kernel)) (fun _ h9 => h9) rfl (by decide +kernel) rfl rfl (Nat.le_of_ble_eq_true rfl) dX10_dish_136 (fun H1 ha ho => tw_updI hP (by decide) (tw_lt hp0 (congrFun hN 0)) ha ho) (fun H locs hP hS => ?_)
            obtain ⟨τ19, eτ19⟩ : ∃ y : tw_T, y = sI τ13 0 p0 31 ((gI τ13 0 p0 31) + ((1 : Int32))) := ⟨_, rfl⟩
            have hF := hF τ19 eτ19
            rw [← eτ19] at hP
            have hN : gN τ19 = gN τ0 := by rw [eτ19]; exact hN
            refine lv_aload_n hx hb dX10_dish_139 rfl (lv_at hl 0 rfl) ?_
            refine va_callv (va_runV (As := []) (rest := []) ⟨hx, hb, hml, hown, hts⟩ (mX10_readTerm l dC dI ac sa A ad τ19 p0 _ hF (tw_lt hp0 (congrFun hN 0))) (cwV 0 hts gX10_dish_X10_readTerm rfl rfl rfl (by decide +kernel) ⟨Nat.le_of_ble_eq_true rfl, Nat.le_of_ble_eq_true rfl⟩) ⟨BM.blind, tw_recv hK hP (by decide) (tw_lt hp0 (congrFun hN 0)) rfl rfl, fun U hU hW => ⟨rfl, BM.of hP hK hS hA hZ hU hW⟩⟩ rfl rfl hl.1 rfl (lv_room (Nat.le_of_ble_eq_true rfl)) dX10_dish_140 ⟨Nat.le_of_ble_eq_true rfl, Nat.le_of_ble_eq_true rfl⟩) hS (fun q _ h => h) (fun q h => h) (fun τ20 t H locs ht hvm hw hB hz hk hS => ?_)
            obtain ⟨hF, hN9⟩ := hw
            have hP : PM dC dI ac A ad τ20 H := tw_back hB ht
            have hN : gN τ20 = gN τ0 := hN9.trans hN
            refine lv_goto (tgt := 88) hx hb dX10_dish_143 (by decide) ?_
            exact ih τ20  _ _ _ hF hP hN hS (lv_sub hl [0] rfl) hEX
          · have hF := hF.2 c18
            refine lv_aload_n hx hb dX10_dish_118 rfl (lv_at hl 0 rfl) ?_
            refine lv_aload_n hx hb dX10_dish_119 rfl (lv_at hl 0 rfl) ?_
            refine tw_get (v := .int (gI τ13 0 p0 31)) hx hb hts (by decide +kernel) hown hK hP (by decide) (tw_lt hp0 (congrFun hN 0)) rfl rfl 31 (by decide) (hts (.fieldLink RX10 196 "WineCellarModel" "at" "I") (by decide +kernel)) (fun _ h9 => h9) rfl dX10_dish_120 ?_
            refine va_callv (va_runV (As := [.int (gI τ13 0 p0 31)]) (rest := []) ⟨hx, hb, hml, hown, hts⟩ (mX10_wrong l dC dI ac sa A ad τ13 p0 (gI τ13 0 p0 31) _ hF (tw_lt hp0 (congrFun hN 0))) (cwV 1 hts gX10_dish_X10_wrong rfl rfl rfl (by decide +kernel) ⟨Nat.le_of_ble_eq_true rfl, Nat.le_of_ble_eq_true rfl⟩) ⟨BM.blind, tw_recv hK hP (by decide) (tw_lt hp0 (congrFun hN 0)) rfl rfl, fun U hU hW => ⟨rfl, BM.of hP hK hS hA hZ hU hW⟩⟩ rfl rfl hl.1 rfl (lv_room (Nat.le_of_ble_eq_true rfl)) dX10_dish_123 ⟨Nat.le_of_ble_eq_true rfl, Nat.le_of_ble_eq_true rfl⟩) hS (fun q _ h => h) (fun q h => h) (fun τ21 t H locs ht hvm hw hB hz hk hS => ?_)
            obtain ⟨hF, hN9⟩ := hw
            have hP : PM dC dI ac A ad τ21 H := tw_back hB ht
            have hN : gN τ21 = gN τ0 := hN9.trans hN
            refine lv_goto (tgt := 88) hx hb dX10_dish_126 (by decide) ?_
            exact ih τ21  _ _ _ hF hP hN hS (lv_sub hl [0] rfl) hEX
  have j45 : ∀ (τ : tw_T) (p0 : Nat) (hp0 : p0 < gN τ0 0) (u1 : Int32) (y0 : Int32) (q1 : Nat) (hq1 : q1 < gN τ0 0) (H : Heap) (locs : List Loc) (ls : Array Slot), J_X10_dish_45 τ p0 u1 y0 q1 Q → PM dC dI ac A ad τ H → gN τ = gN τ0 → va_S A s.heap H locs → lv_has ls 2 [(0, .ref (ad 0 p0)), (1, .int u1)] → W p l e rmX10_dish s m ([.ref (ad 0 k0), .int x1] : List Value).toArray below meth c H locs 0 0 (MQ below (va_Qi (fun r (u : tw_T) => Q r u ∧ gN u = gN τ0) (fun u t => PM dC dI ac A ad u t.heap) A) ([.ref (ad 0 k0), .int x1] : List Value).toArray s 0 0 A) (F0 m 45 ls [.int y0, .ref (ad 0 q1)]) := by
    intro τ p0 hp0 u1 y0 q1 hq1 H locs ls hF hP hN hS hl
    unfold J_X10_dish_45 at hF
    refine lv_iconst (v := 2) hx hb dX10_dish_45 (by decide) ?_
    refine va_calli (va_runV (As := [.int y0, .int ((2 : Int32))]) (rest := []) ⟨hx, hb, hml, hown, hts⟩ (mX10_may l dC dI ac sa A ad τ q1 y0 ((2 : Int32)) _ hF (tw_lt hq1 (congrFun hN 0))) (cwV 2 hts gX10_dish_X10_may rfl rfl rfl (by decide +kernel) ⟨Nat.le_of_ble_eq_true rfl, Nat.le_of_ble_eq_true rfl⟩) ⟨BM.blind, tw_recv hK hP (by decide) (tw_lt hq1 (congrFun hN 0)) rfl rfl, fun U hU hW => ⟨rfl, BM.of hP hK hS hA hZ hU hW⟩⟩ rfl rfl hl.1 rfl (lv_room (Nat.le_of_ble_eq_true rfl)) dX10_dish_46 ⟨Nat.le_of_ble_eq_true rfl, Nat.le_of_ble_eq_true rfl⟩) hS (fun q _ h => h) (fun q h => h) (fun r23 τ22 t H locs ht hvm hw hB hz hk hS => ?_)
    obtain ⟨hF, hN9⟩ := hw
    have hP : PM dC dI ac A ad τ22 H := tw_back hB ht
    have hN : gN τ22 = gN τ0 := hN9.trans hN
    refine lv_if_ne (tgt := 54) hx hb dX10_dish_49 (by decide) (fun c24 => ?_) (fun c24 => ?_)
    · have hF := hF.1 c24
      refine lv_aload_n hx hb dX10_dish_54 rfl (lv_at hl 0 rfl) ?_
      refine lv_iconst (v := 0) hx hb dX10_dish_55 (by decide) ?_
      refine tw_put (τ' := sI τ22 0 p0 28 ((0 : Int32))) (ty := .int) hx hb hts (by decide +kernel) tyX10 tyX10_ok nmX10 hown hK hP hS (by decide) (tw_lt hp0 (congrFun hN 0)) rfl rfl 28 (by decide) (hts (.fieldLink RX10 190 "WineCellarModel" "taped" "I") (by decide +kernel)) (fun _ h9 => h9) rfl (by decide +kernel) rfl rfl (Nat.le_of_ble_eq_true rfl) dX10_dish_56 (fun H1 ha ho => tw_updI hP (by decide) (tw_lt hp0 (congrFun hN 0)) ha ho) (fun H locs hP hS => ?_)
      obtain ⟨τ25, eτ25⟩ : ∃ y : tw_T, y = sI τ22 0 p0 28 ((0 : Int32)) := ⟨_, rfl⟩
      have hF := hF τ25 eτ25
      rw [← eτ25] at hP
      have hN : gN τ25 = gN τ0 := by rw [eτ25]; exact hN
      refine lv_aload_n hx hb dX10_dish_59 rfl (lv_at hl 0 rfl) ?_
      refine lv_iload_n hx hb dX10_dish_60 rfl (lv_at hl 1 rfl) ?_
      refine tw_put (τ' := sI τ25 0 p0 30 u1) (ty := .int) hx hb hts (by decide +kernel) tyX10 tyX10_ok nmX10 hown hK hP hS (by decide) (tw_lt hp0 (congrFun hN 0)) rfl rfl 30 (by decide) (hts (.fieldLink RX10 199 "WineCellarModel" "size" "I") (by decide +kernel)) (fun _ h9 => h9) rfl (by decide +kernel) rfl rfl (Nat.le_of_ble_eq_true rfl) dX10_dish_61 (fun H1 ha ho => tw_updI hP (by decide) (tw_lt hp0 (congrFun hN 0)) ha ho) (fun H locs hP hS => ?_)
      obtain ⟨τ26, eτ26⟩ : ∃ y : tw_T, y = sI τ25 0 p0 30 u1 := ⟨_, rfl⟩
      have hF := hF τ26 eτ26
      rw [← eτ26] at hP
      have hN : gN τ26 = gN τ0 := by rw [eτ26]; exact hN
      refine lv_aload_n hx hb dX10_dish_64 rfl (lv_at hl 0 rfl) ?_
      refine lv_iconst (v := 0) hx hb dX10_dish_65 (by decide) ?_
      refine tw_put (τ' := sI τ26 0 p0 31 ((0 : Int32))) (ty := .int) hx hb hts (by decide +kernel) tyX10 tyX10_ok nmX10 hown hK hP hS (by decide) (tw_lt hp0 (congrFun hN 0)) rfl rfl 31 (by decide) (hts (.fieldLink RX10 196 "WineCellarModel" "at" "I") (by decide +kernel)) (fun _ h9 => h9) rfl (by decide +kernel) rfl rfl (Nat.le_of_ble_eq_true rfl) dX10_dish_66 (fun H1 ha ho => tw_updI hP (by decide) (tw_lt hp0 (congrFun hN 0)) ha ho) (fun H locs hP hS => ?_)
      obtain ⟨τ27, eτ27⟩ : ∃ y : tw_T, y = sI τ26 0 p0 31 ((0 : Int32)) := ⟨_, rfl⟩
      have hF := hF τ27 eτ27
      rw [← eτ27] at hP
      have hN : gN τ27 = gN τ0 := by rw [eτ27]; exact hN
      refine lv_aload_n hx hb dX10_dish_69 rfl (lv_at hl 0 rfl) ?_
      refine lv_iconst (v := (-1)) hx hb dX10_dish_70 (by decide) ?_
      refine tw_put (τ' := sI τ27 0 p0 32 ((-1 : Int32))) (ty := .int) hx hb hts (by decide +kernel) tyX10 tyX10_ok nmX10 hown hK hP hS (by decide) (tw_lt hp0 (congrFun hN 0)) rfl rfl 32 (by decide) (hts (.fieldLink RX10 193 "WineCellarModel" "bad" "I") (by decide +kernel)) (fun _ h9 => h9) rfl (by decide +kernel) rfl rfl (Nat.le_of_ble_eq_true rfl) dX10_dish_71 (fun H1 ha ho => tw_updI hP (by decide) (tw_lt hp0 (congrFun hN 0)) ha ho) (fun H locs hP hS => ?_)
      obtain ⟨τ28, eτ28⟩ : ∃ y : tw_T, y = sI τ27 0 p0 32 ((-1 : Int32)) := ⟨_, rfl⟩
      have hF := hF τ28 eτ28
      rw [← eτ28] at hP
      have hN : gN τ28 = gN τ0 := by rw [eτ28]; exact hN
      refine lv_aload_n hx hb dX10_dish_74 rfl (lv_at hl 0 rfl) ?_
      obtain ⟨o29, eo29, hF⟩ := hF
      have ho29 : o29 < gN τ0 134 := tw_lt (hP.2.2.2 0 p0 34 o29 (by decide) (tw_lt hp0 (congrFun hN 0)) eo29) (congrFun hN 134).symm
      refine tw_get (v := .ref (ad 134 o29)) hx hb hts (by decide +kernel) hown hK hP (by decide) (tw_lt hp0 (congrFun hN 0)) rfl rfl 34 (by decide) (hts (.fieldLink RX10 62 "WineCellarModel" "termMany" "[I") (by decide +kernel)) (fun _ h9 => h9) (show some (va_rf ((gR τ28 0 p0 34).map (ad 134))) = some (.ref (ad 134 o29)) by rw [eo29]; rfl) dX10_dish_75 ?_
      refine lv_aload_n hx hb dX10_dish_78 rfl (lv_at hl 0 rfl) ?_
      refine tw_get (v := .int (gI τ28 0 p0 29)) hx hb hts (by decide +kernel) hown hK hP (by decide) (tw_lt hp0 (congrFun hN 0)) rfl rfl 29 (by decide) (hts (.fieldLink RX10 224 "WineCellarModel" "dishes" "I") (by decide +kernel)) (fun _ h9 => h9) rfl dX10_dish_79 ?_
      refine lv_iconst (v := 0) hx hb dX10_dish_82 (by decide) ?_
      obtain ⟨hi30, hF⟩ := hF
      refine tw_iast hx hb hK hP hS (by decide) (tw_lt ho29 (congrFun hN 134)) rfl 0 rfl hi30 dX10_dish_83 (fun H locs hP hS => ?_)
      obtain ⟨τ31, eτ31⟩ : ∃ y : tw_T, y = sI τ28 134 o29 (gI τ28 0 p0 29).toNatClampNeg ((0 : Int32)) := ⟨_, rfl⟩
      have hF := hF τ31 eτ31
      rw [← eτ31] at hP
      have hN : gN τ31 = gN τ0 := by rw [eτ31]; exact hN
      refine lv_aload_n hx hb dX10_dish_84 rfl (lv_at hl 0 rfl) ?_
      refine va_callv (va_runV (As := []) (rest := []) ⟨hx, hb, hml, hown, hts⟩ (mX10_readTerm l dC dI ac sa A ad τ31 p0 _ hF (tw_lt hp0 (congrFun hN 0))) (cwV 0 hts gX10_dish_X10_readTerm rfl rfl rfl (by decide +kernel) ⟨Nat.le_of_ble_eq_true rfl, Nat.le_of_ble_eq_true rfl⟩) ⟨BM.blind, tw_recv hK hP (by decide) (tw_lt hp0 (congrFun hN 0)) rfl rfl, fun U hU hW => ⟨rfl, BM.of hP hK hS hA hZ hU hW⟩⟩ rfl rfl hl.1 rfl (lv_room (Nat.le_of_ble_eq_true rfl)) dX10_dish_85 ⟨Nat.le_of_ble_eq_true rfl, Nat.le_of_ble_eq_true rfl⟩) hS (fun q _ h => h) (fun q h => h) (fun τ32 t H locs ht hvm hw hB hz hk hS => ?_)
      obtain ⟨hF, hN9⟩ := hw
      have hP : PM dC dI ac A ad τ32 H := tw_back hB ht
      have hN : gN τ32 = gN τ0 := hN9.trans hN
      obtain ⟨n33, hF⟩ := hF
      refine l88 p0 hp0 _ n33 τ32  _ _ _ hF hP hN hS (lv_sub hl [0] rfl) ?_
      intro τ34  H locs ls hF hP hN hS hl
      exact j146 τ34 p0 hp0 _ _ _ hF hP hN hS (lv_sub hl [0] rfl)
    · have hF := hF.2 c24
      refine lv_iconst (v := 0) hx hb dX10_dish_52 (by decide) ?_
      exact W.iret (v := (0 : Int32)) hx hb hr (fun t ht hW => ⟨⟨((0 : Int32)), τ22, rfl, ⟨hF, hN⟩, tw_at hP ht⟩, hS.F ht⟩) hS.2.2 dX10_dish_53
  have j23 : ∀ (τ : tw_T) (p0 : Nat) (hp0 : p0 < gN τ0 0) (u1 : Int32) (y0 : Int32) (q1 : Nat) (hq1 : q1 < gN τ0 0) (H : Heap) (locs : List Loc) (ls : Array Slot), J_X10_dish_23 τ p0 u1 y0 q1 Q → PM dC dI ac A ad τ H → gN τ = gN τ0 → va_S A s.heap H locs → lv_has ls 2 [(0, .ref (ad 0 p0)), (1, .int u1)] → W p l e rmX10_dish s m ([.ref (ad 0 k0), .int x1] : List Value).toArray below meth c H locs 0 0 (MQ below (va_Qi (fun r (u : tw_T) => Q r u ∧ gN u = gN τ0) (fun u t => PM dC dI ac A ad u t.heap) A) ([.ref (ad 0 k0), .int x1] : List Value).toArray s 0 0 A) (F0 m 23 ls [.int y0, .ref (ad 0 q1)]) := by
    intro τ p0 hp0 u1 y0 q1 hq1 H locs ls hF hP hN hS hl
    unfold J_X10_dish_23 at hF
    refine lv_iconst (v := 1) hx hb dX10_dish_23 (by decide) ?_
    refine va_calli (va_runV (As := [.int y0, .int ((1 : Int32))]) (rest := []) ⟨hx, hb, hml, hown, hts⟩ (mX10_may l dC dI ac sa A ad τ q1 y0 ((1 : Int32)) _ hF (tw_lt hq1 (congrFun hN 0))) (cwV 2 hts gX10_dish_X10_may rfl rfl rfl (by decide +kernel) ⟨Nat.le_of_ble_eq_true rfl, Nat.le_of_ble_eq_true rfl⟩) ⟨BM.blind, tw_recv hK hP (by decide) (tw_lt hq1 (congrFun hN 0)) rfl rfl, fun U hU hW => ⟨rfl, BM.of hP hK hS hA hZ hU hW⟩⟩ rfl rfl hl.1 rfl (lv_room (Nat.le_of_ble_eq_true rfl)) dX10_dish_24 ⟨Nat.le_of_ble_eq_true rfl, Nat.le_of_ble_eq_true rfl⟩) hS (fun q _ h => h) (fun q h => h) (fun r36 τ35 t H locs ht hvm hw hB hz hk hS => ?_)
    obtain ⟨hF, hN9⟩ := hw
    have hP : PM dC dI ac A ad τ35 H := tw_back hB ht
    have hN : gN τ35 = gN τ0 := hN9.trans hN
    refine lv_if_eq (tgt := 52) hx hb dX10_dish_27 (by decide) (fun c37 => ?_) (fun c37 => ?_)
    · have hF := hF.1 c37
      refine lv_iconst (v := 0) hx hb dX10_dish_52 (by decide) ?_
      exact W.iret (v := (0 : Int32)) hx hb hr (fun t ht hW => ⟨⟨((0 : Int32)), τ35, rfl, ⟨hF, hN⟩, tw_at hP ht⟩, hS.F ht⟩) hS.2.2 dX10_dish_53
    · have hF := hF.2 c37
      refine lv_aload_n hx hb dX10_dish_30 rfl (lv_at hl 0 rfl) ?_
      refine lv_aload_n hx hb dX10_dish_31 rfl (lv_at hl 0 rfl) ?_
      refine tw_get (v := .int (gI τ35 0 p0 29)) hx hb hts (by decide +kernel) hown hK hP (by decide) (tw_lt hp0 (congrFun hN 0)) rfl rfl 29 (by decide) (hts (.fieldLink RX10 224 "WineCellarModel" "dishes" "I") (by decide +kernel)) (fun _ h9 => h9) rfl dX10_dish_32 ?_
      refine lv_bipush (v := 20) hx hb dX10_dish_35 (by decide) ?_
      refine lv_icmp_ge (tgt := 44) hx hb dX10_dish_37 (by decide) (fun c38 => ?_) (fun c38 => ?_)
      · have hF := hF.1 c38
        refine lv_iconst (v := 0) hx hb dX10_dish_44 (by decide) ?_
        exact j45 τ35 p0 hp0 u1 ((0 : Int32)) p0 hp0 _ _ _ hF hP hN hS (lv_sub hl [0, 1] rfl)
      · have hF := hF.2 c38
        refine lv_iconst (v := 1) hx hb dX10_dish_40 (by decide) ?_
        refine lv_goto (tgt := 45) hx hb dX10_dish_41 (by decide) ?_
        exact j45 τ35 p0 hp0 u1 ((1 : Int32)) p0 hp0 _ _ _ hF hP hN hS (lv_sub hl [0, 1] rfl)
  have j22 : ∀ (τ : tw_T) (p0 : Nat) (hp0 : p0 < gN τ0 0) (u1 : Int32) (q0 : Nat) (hq0 : q0 < gN τ0 0) (H : Heap) (locs : List Loc) (ls : Array Slot), J_X10_dish_22 τ p0 u1 q0 Q → PM dC dI ac A ad τ H → gN τ = gN τ0 → va_S A s.heap H locs → lv_has ls 2 [(0, .ref (ad 0 p0)), (1, .int u1)] → W p l e rmX10_dish s m ([.ref (ad 0 k0), .int x1] : List Value).toArray below meth c H locs 0 0 (MQ below (va_Qi (fun r (u : tw_T) => Q r u ∧ gN u = gN τ0) (fun u t => PM dC dI ac A ad u t.heap) A) ([.ref (ad 0 k0), .int x1] : List Value).toArray s 0 0 A) (F0 m 22 ls [.ref (ad 0 q0)]) := by
    intro τ p0 hp0 u1 q0 hq0 H locs ls hF hP hN hS hl
    unfold J_X10_dish_22 at hF
    refine lv_iconst (v := 0) hx hb dX10_dish_22 (by decide) ?_
    exact j23 τ p0 hp0 u1 ((0 : Int32)) q0 hq0 _ _ _ hF hP hN hS (lv_sub hl [0, 1] rfl)
  refine lv_aload_n hx hb dX10_dish_0 rfl (lv_at hl 0 rfl) ?_
  refine lv_iconst (v := 0) hx hb dX10_dish_1 (by decide) ?_
  refine tw_put (τ' := sI τ0 0 k0 0 ((0 : Int32))) (ty := .int) hx hb hts (by decide +kernel) tyX10 tyX10_ok nmX10 hown hK hP hS (by decide) hk0 rfl rfl 0 (by decide) (hts (.fieldLink RX10 1 "WineCellarModel" "thrown" "I") (by decide +kernel)) (fun _ h9 => h9) rfl (by decide +kernel) rfl rfl (Nat.le_of_ble_eq_true rfl) dX10_dish_2 (fun H1 ha ho => tw_updI hP (by decide) hk0 ha ho) (fun H locs hP hS => ?_)
  obtain ⟨τ39, eτ39⟩ : ∃ y : tw_T, y = sI τ0 0 k0 0 ((0 : Int32)) := ⟨_, rfl⟩
  have hF := hF τ39 eτ39
  rw [← eτ39] at hP
  have hN : gN τ39 = gN τ0 := by rw [eτ39]; exact hN
  refine lv_aload_n hx hb dX10_dish_5 rfl (lv_at hl 0 rfl) ?_
  refine lv_iload_n hx hb dX10_dish_6 rfl (lv_at hl 1 rfl) ?_
  refine lv_if_lt (tgt := 22) hx hb dX10_dish_7 (by decide) (fun c40 => ?_) (fun c40 => ?_)
  · have hF := hF.1 c40
    exact j22 τ39 k0 hk0 x1 k0 hk0 _ _ _ hF hP hN hS (lv_sub hl [0, 1] rfl)
  · have hF := hF.2 c40
    refine lv_iload_n hx hb dX10_dish_10 rfl (lv_at hl 1 rfl) ?_
    refine lv_aload_n hx hb dX10_dish_11 rfl (lv_at hl 0 rfl) ?_
    refine tw_get (v := .int (gI τ39 0 k0 28)) hx hb hts (by decide +kernel) hown hK hP (by decide) (tw_lt hk0 (congrFun hN 0)) rfl rfl 28 (by decide) (hts (.fieldLink RX10 190 "WineCellarModel" "taped" "I") (by decide +kernel)) (fun _ h9 => h9) rfl dX10_dish_12 ?_
    refine lv_icmp_gt (tgt := 22) hx hb dX10_dish_15 (by decide) (fun c41 => ?_) (fun c41 => ?_)
    · have hF := hF.1 c41
      exact j22 τ39 k0 hk0 x1 k0 hk0 _ _ _ hF hP hN hS (lv_sub hl [0, 1] rfl)
    · have hF := hF.2 c41
      refine lv_iconst (v := 1) hx hb dX10_dish_18 (by decide) ?_
      refine lv_goto (tgt := 23) hx hb dX10_dish_19 (by decide) ?_
      exact j23 τ39 k0 hk0 x1 ((1 : Int32)) k0 hk0 _ _ _ hF hP hN hS (lv_sub hl [0, 1] rfl)
def J_X10_holds_143 (τ : tw_T) (p0 : Nat) (u1 : Int32) (y0 : Int32) (Q : Int32 → tw_T → Prop) : Prop := ∃ o1 : Nat, gR τ 0 p0 36 = some o1 ∧ (vp_in u1 252 ∧ (((¬ (gI τ 136 o1 u1.toNatClampNeg) = ((60 : Int32)) → (∃ o4 : Nat, gR τ 0 p0 36 = some o4 ∧ (vp_in u1 252 ∧ (((¬ (gI τ 136 o4 u1.toNatClampNeg) = ((62 : Int32)) → (∃ o7 : Nat, gR τ 0 p0 37 = some o7 ∧ (vp_in u1 252 ∧ (((¬ y0 = (gI τ 137 o7 u1.toNatClampNeg) → (Q ((0 : Int32)) τ)) ∧ (y0 = (gI τ 137 o7 u1.toNatClampNeg) → (Q ((1 : Int32)) τ))))))) ∧ ((gI τ 136 o4 u1.toNatClampNeg) = ((62 : Int32)) → (∃ o10 : Nat, gR τ 0 p0 37 = some o10 ∧ (vp_in u1 252 ∧ (((y0 ≤ (gI τ 137 o10 u1.toNatClampNeg) → (Q ((0 : Int32)) τ)) ∧ (¬ y0 ≤ (gI τ 137 o10 u1.toNatClampNeg) → (Q ((1 : Int32)) τ)))))))))))) ∧ ((gI τ 136 o1 u1.toNatClampNeg) = ((60 : Int32)) → (∃ o13 : Nat, gR τ 0 p0 37 = some o13 ∧ (vp_in u1 252 ∧ ((((gI τ 137 o13 u1.toNatClampNeg) ≤ y0 → (Q ((0 : Int32)) τ)) ∧ (¬ (gI τ 137 o13 u1.toNatClampNeg) ≤ y0 → (Q ((1 : Int32)) τ))))))))))
def F_X10_holds (τ0 : tw_T) (k0 : Nat) (x1 : Int32) (x2 : Int32) (Q : Int32 → tw_T → Prop) : Prop := ∃ o16 : Nat, gR τ0 0 k0 10 = some o16 ∧ (vp_in x2 60 ∧ (∀ z18 : Int32, z18 = gI τ0 110 o16 x2.toNatClampNeg → (∃ o19 : Nat, gR τ0 0 k0 35 = some o19 ∧ (vp_in x1 252 ∧ (((¬ (gI τ0 135 o19 x1.toNatClampNeg) = 0 → (∃ o22 : Nat, gR τ0 0 k0 35 = some o22 ∧ (vp_in x1 252 ∧ (((¬ (gI τ0 135 o22 x1.toNatClampNeg) = ((1 : Int32)) → (∃ o25 : Nat, gR τ0 0 k0 35 = some o25 ∧ (vp_in x1 252 ∧ (((((5 : Int32)) ≤ (gI τ0 135 o25 x1.toNatClampNeg) → (∃ o28 : Nat, gR τ0 0 k0 35 = some o28 ∧ (vp_in x1 252 ∧ (((¬ (gI τ0 135 o28 x1.toNatClampNeg) = ((5 : Int32)) → (∃ o31 : Nat, gR τ0 0 k0 35 = some o31 ∧ (vp_in x1 252 ∧ (((¬ (gI τ0 135 o31 x1.toNatClampNeg) = ((6 : Int32)) → (F_X10_year τ0 k0 (fun (r35 : Int32) (τ34 : tw_T) => (F_X10_worthOf τ34 k0 x2 r35 (fun (r37 : Int32) (τ36 : tw_T) => (J_X10_holds_143 τ36 k0 x1 r37 Q)))))) ∧ ((gI τ0 135 o31 x1.toNatClampNeg) = ((6 : Int32)) → (F_X10_year τ0 k0 (fun (r39 : Int32) (τ38 : tw_T) => (∃ o40 : Nat, gR τ38 0 k0 11 = some o40 ∧ (vp_in x2 60 ∧ (J_X10_holds_143 τ38 k0 x1 (r39 - (gI τ38 111 o40 x2.toNatClampNeg)) Q))))))))))) ∧ ((gI τ0 135 o28 x1.toNatClampNeg) = ((5 : Int32)) → (∃ o42 : Nat, gR τ0 0 k0 6 = some o42 ∧ (vp_in z18 20 ∧ (J_X10_holds_143 τ0 k0 x1 (gI τ0 106 o42 z18.toNatClampNeg) Q))))))))) ∧ (¬ ((5 : Int32)) ≤ (gI τ0 135 o25 x1.toNatClampNeg) → (∃ o44 : Nat, gR τ0 0 k0 5 = some o44 ∧ (vp_in z18 20 ∧ (∃ o46 : Nat, gR τ0 0 k0 35 = some o46 ∧ (vp_in x1 252 ∧ (((¬ (gI τ0 105 o44 z18.toNatClampNeg) = ((gI τ0 135 o46 x1.toNatClampNeg) - ((2 : Int32))) → (Q ((0 : Int32)) τ0)) ∧ ((gI τ0 105 o44 z18.toNatClampNeg) = ((gI τ0 135 o46 x1.toNatClampNeg) - ((2 : Int32))) → (Q ((1 : Int32)) τ0)))))))))))))) ∧ ((gI τ0 135 o22 x1.toNatClampNeg) = ((1 : Int32)) → (∃ o49 : Nat, gR τ0 0 k0 7 = some o49 ∧ (vp_in z18 20 ∧ (((¬ (gI τ0 107 o49 z18.toNatClampNeg) = 0 → (Q ((0 : Int32)) τ0)) ∧ ((gI τ0 107 o49 z18.toNatClampNeg) = 0 → (Q ((1 : Int32)) τ0)))))))))))) ∧ ((gI τ0 135 o19 x1.toNatClampNeg) = 0 → (∃ o52 : Nat, gR τ0 0 k0 7 = some o52 ∧ (vp_in z18 20 ∧ (((¬ (gI τ0 107 o52 z18.toNatClampNeg) = ((1 : Int32)) → (Q ((0 : Int32)) τ0)) ∧ ((gI τ0 107 o52 z18.toNatClampNeg) = ((1 : Int32)) → (Q ((1 : Int32)) τ0)))))))))))))
def rmX10_holds : Room := { frames := 1, cells := 0, slots := 0, locals := 25 }
set_option maxHeartbeats 4000000 in
set_option maxRecDepth 100000 in
theorem mX10_holds (l : Launch) (dC : Nat → ClassId) (dI : Nat → Nat → Nat) (ac : Nat → ClassId) (sa : Nat → Nat) (A : Nat → Prop) (ad : Nat → Nat → Nat) (τ0 : tw_T) (k0 : Nat) (x1 : Int32) (x2 : Int32) (Q : Int32 → tw_T → Prop) (hF : F_X10_holds τ0 k0 x1 x2 Q) (hk0 : k0 < gN τ0 0) : Met l yX10_holds wsX10_holds rmX10_holds (va_Pc [.ref (ad 0 k0), .int x1, .int x2] (BM dC dI ac sa A ad τ0)) (va_Qi (fun r (u : tw_T) => Q r u ∧ gN u = gN τ0) (fun u t => PM dC dI ac A ad u t.heap) A) 0 0 A := by
  refine Met.ofW (cc := cX10_holds) (maxL := 5) (ret := (some .boolean)) (by decide) rfl ?_
  intro p e s m args below meth c s₁ B hml hv
  obtain ⟨rfl, hP, hK, hA, hZ⟩ := hv
  have hx := B.exec
  have hb := B.bytes
  have hr := B.returns
  have hts := atoms_spec (ws := wsX10_holds) B.pre
  have hown : s.vm.findClass RX10 = some m.cls := findClass_of_methodNamed B.named
  have hlocks := B.notSynchronized
  have hS : va_S A s.heap s.heap [] := va_S.rf
  have hN : gN τ0 = gN τ0 := rfl
  have hl := lv_entry ([.ref (ad 0 k0), .int x1, .int x2]) (n := 5) (Nat.le_of_ble_eq_true rfl)
  rw [lg_entry_eq]
  generalize (lg_sl ([.ref (ad 0 k0), .int x1, .int x2]) ++ List.replicate (5 - (lg_sl ([.ref (ad 0 k0), .int x1, .int x2])).length) Slot.unset).toArray = ls at hl ⊢
  have hl : lv_has ls 5 [(0, .ref (ad 0 k0)), (1, .int x1), (2, .int x2)] := hl
  unfold F_X10_holds at hF
  have j143 : ∀ (τ : tw_T) (p0 : Nat) (hp0 : p0 < gN τ0 0) (u1 : Int32) (y0 : Int32) (H : Heap) (locs : List Loc) (ls : Array Slot), J_X10_holds_143 τ p0 u1 y0 Q → PM dC dI ac A ad τ H → gN τ = gN τ0 → va_S A s.heap H locs → lv_has ls 5 [(0, .ref (ad 0 p0)), (1, .int u1)] → W p l e rmX10_holds s m ([.ref (ad 0 k0), .int x1, .int x2] : List Value).toArray below meth c H locs 0 0 (MQ below (va_Qi (fun r (u : tw_T) => Q r u ∧ gN u = gN τ0) (fun u t => PM dC dI ac A ad u t.heap) A) ([.ref (ad 0 k0), .int x1, .int x2] : List Value).toArray s 0 0 A) (F0 m 143 ls [.int y0]) := by
    intro τ p0 hp0 u1 y0 H locs ls hF hP hN hS hl
    unfold J_X10_holds_143 at hF
    refine lv_istore (lv' := [(4, .int y0), (0, .ref (ad 0 p0)), (1, .int u1)]) hx hb dX10_holds_143 hl (by decide) rfl (fun ls hl => ?_)
    refine lv_aload_n hx hb dX10_holds_145 rfl (lv_at hl 1 rfl) ?_
    obtain ⟨o1, eo1, hF⟩ := hF
    have ho1 : o1 < gN τ0 136 := tw_lt (hP.2.2.2 0 p0 36 o1 (by decide) (tw_lt hp0 (congrFun hN 0)) eo1) (congrFun hN 136).symm
    refine tw_get (v := .ref (ad 136 o1)) hx hb hts (by decide +kernel) hown hK hP (by decide) (tw_lt hp0 (congrFun hN 0)) rfl rfl 36 (by decide) (hts (.fieldLink RX10 68 "WineCellarModel" "termSign" "[I") (by decide +kernel)) (fun _ h9 => h9) (show some (va_rf ((gR τ 0 p0 36).map (ad 136))) = some (.ref (ad 136 o1)) by rw [eo1]; rfl) dX10_holds_146 ?_
    refine lv_iload_n hx hb dX10_holds_149 rfl (lv_at hl 2 rfl) ?_
    obtain ⟨hi2, hF⟩ := hF
    refine tw_iald hx hb hK hP (by decide) (tw_lt ho1 (congrFun hN 136)) rfl 0 rfl hi2 dX10_holds_150 ?_
    refine lv_bipush (v := 60) hx hb dX10_holds_151 (by decide) ?_
    refine lv_icmp_ne (tgt := 175) hx hb dX10_holds_153 (by decide) (fun c3 => ?_) (fun c3 => ?_)
    · have hF := hF.1 c3
      refine lv_aload_n hx hb dX10_holds_175 rfl (lv_at hl 1 rfl) ?_
      obtain ⟨o4, eo4, hF⟩ := hF
      have ho4 : o4 < gN τ0 136 := tw_lt (hP.2.2.2 0 p0 36 o4 (by decide) (tw_lt hp0 (congrFun hN 0)) eo4) (congrFun hN 136).symm
      refine tw_get (v := .ref (ad 136 o4)) hx hb hts (by decide +kernel) hown hK hP (by decide) (tw_lt hp0 (congrFun hN 0)) rfl rfl 36 (by decide) (hts (.fieldLink RX10 68 "WineCellarModel" "termSign" "[I") (by decide +kernel)) (fun _ h9 => h9) (show some (va_rf ((gR τ 0 p0 36).map (ad 136))) = some (.ref (ad 136 o4)) by rw [eo4]; rfl) dX10_holds_176 ?_
      refine lv_iload_n hx hb dX10_holds_179 rfl (lv_at hl 2 rfl) ?_
      obtain ⟨hi5, hF⟩ := hF
      refine tw_iald hx hb hK hP (by decide) (tw_lt ho4 (congrFun hN 136)) rfl 0 rfl hi5 dX10_holds_180 ?_
      refine lv_bipush (v := 62) hx hb dX10_holds_181 (by decide) ?_
      refine lv_icmp_ne (tgt := 205) hx hb dX10_holds_183 (by decide) (fun c6 => ?_) (fun c6 => ?_)
      · have hF := hF.1 c6
        refine lv_iload hx hb dX10_holds_205 (lv_at hl 0 rfl) ?_
        refine lv_aload_n hx hb dX10_holds_207 rfl (lv_at hl 1 rfl) ?_
        obtain ⟨o7, eo7, hF⟩ := hF
        have ho7 : o7 < gN τ0 137 := tw_lt (hP.2.2.2 0 p0 37 o7 (by decide) (tw_lt hp0 (congrFun hN 0)) eo7) (congrFun hN 137).symm
        refine tw_get (v := .ref (ad 137 o7)) hx hb hts (by decide +kernel) hown hK hP (by decide) (tw_lt hp0 (congrFun hN 0)) rfl rfl 37 (by decide) (hts (.fieldLink RX10 71 "WineCellarModel" "termNumber" "[I") (by decide +kernel)) (fun _ h9 => h9) (show some (va_rf ((gR τ 0 p0 37).map (ad 137))) = some (.ref (ad 137 o7)) by rw [eo7]; rfl) dX10_holds_208 ?_
        refine lv_iload_n hx hb dX10_holds_211 rfl (lv_at hl 2 rfl) ?_
        obtain ⟨hi8, hF⟩ := hF
        refine tw_iald hx hb hK hP (by decide) (tw_lt ho7 (congrFun hN 137)) rfl 0 rfl hi8 dX10_holds_212 ?_
        refine lv_icmp_ne (tgt := 220) hx hb dX10_holds_213 (by decide) (fun c9 => ?_) (fun c9 => ?_)
        · have hF := hF.1 c9
          refine lv_iconst (v := 0) hx hb dX10_holds_220 (by decide) ?_
          exact W.zret (v := (0 : Int32)) (ty := .boolean) hx hb hr rfl (fun t ht hW => ⟨⟨((0 : Int32)), τ, rfl, ⟨hF, hN⟩, tw_at hP ht⟩, hS.F ht⟩) hS.2.2 dX10_holds_221
        · have hF := hF.2 c9
          refine lv_iconst (v := 1) hx hb dX10_holds_216 (by decide) ?_
          refine lv_goto (tgt := 221) hx hb dX10_holds_217 (by decide) ?_
          exact W.zret (v := (1 : Int32)) (ty := .boolean) hx hb hr rfl (fun t ht hW => ⟨⟨((1 : Int32)), τ, rfl, ⟨hF, hN⟩, tw_at hP ht⟩, hS.F ht⟩) hS.2.2 dX10_holds_221
      · have hF := hF.2 c6
        refine lv_iload hx hb dX10_holds_186 (lv_at hl 0 rfl) ?_
        refine lv_aload_n hx hb dX10_holds_188 rfl (lv_at hl 1 rfl) ?_
        obtain ⟨o10, eo10, hF⟩ := hF
        have ho10 : o10 < gN τ0 137 := tw_lt (hP.2.2.2 0 p0 37 o10 (by decide) (tw_lt hp0 (congrFun hN 0)) eo10) (congrFun hN 137).symm
        refine tw_get (v := .ref (ad 137 o10)) hx hb hts (by decide +kernel) hown hK hP (by decide) (tw_lt hp0 (congrFun hN 0)) rfl rfl 37 (by decide) (hts (.fieldLink RX10 71 "WineCellarModel" "termNumber" "[I") (by decide +kernel)) (fun _ h9 => h9) (show some (va_rf ((gR τ 0 p0 37).map (ad 137))) = some (.ref (ad 137 o10)) by rw [eo10]; rfl) dX10_holds_189 ?_
        refine lv_iload_n hx hb dX10_holds_192 rfl (lv_at hl 2 rfl) ?_
        obtain ⟨hi11, hF⟩ := hF
        refine tw_iald hx hb hK hP (by decide) (tw_lt ho10 (congrFun hN 137)) rfl 0 rfl hi11 dX10_holds_193 ?_
        refine lv_icmp_le (tgt := 201) hx hb dX10_holds_194 (by decide) (fun c12 => ?_) (fun c12 => ?_)
        · have hF := hF.1 c12
          refine lv_iconst (v := 0) hx hb dX10_holds_201 (by decide) ?_
          refine lv_goto (tgt := 221) hx hb dX10_holds_202 (by decide) ?_
          exact W.zret (v := (0 : Int32)) (ty := .boolean) hx hb hr rfl (fun t ht hW => ⟨⟨((0 : Int32)), τ, rfl, ⟨hF, hN⟩, tw_at hP ht⟩, hS.F ht⟩) hS.2.2 dX10_holds_221
        · have hF := hF.2 c12
          refine lv_iconst (v := 1) hx hb dX10_holds_197 (by decide) ?_
          refine lv_goto (tgt := 221) hx hb dX10_holds_198 (by decide) ?_
          exact W.zret (v := (1 : Int32)) (ty := .boolean) hx hb hr rfl (fun t ht hW => ⟨⟨((1 : Int32)), τ, rfl, ⟨hF, hN⟩, tw_at hP ht⟩, hS.F ht⟩) hS.2.2 dX10_holds_221
    · have hF := hF.2 c3
      refine lv_iload hx hb dX10_holds_156 (lv_at hl 0 rfl) ?_
      refine lv_aload_n hx hb dX10_holds_158 rfl (lv_at hl 1 rfl) ?_
      obtain ⟨o13, eo13, hF⟩ := hF
      have ho13 : o13 < gN τ0 137 := tw_lt (hP.2.2.2 0 p0 37 o13 (by decide) (tw_lt hp0 (congrFun hN 0)) eo13) (congrFun hN 137).symm
      refine tw_get (v := .ref (ad 137 o13)) hx hb hts (by decide +kernel) hown hK hP (by decide) (tw_lt hp0 (congrFun hN 0)) rfl rfl 37 (by decide) (hts (.fieldLink RX10 71 "WineCellarModel" "termNumber" "[I") (by decide +kernel)) (fun _ h9 => h9) (show some (va_rf ((gR τ 0 p0 37).map (ad 137))) = some (.ref (ad 137 o13)) by rw [eo13]; rfl) dX10_holds_159 ?_
      refine lv_iload_n hx hb dX10_holds_162 rfl (lv_at hl 2 rfl) ?_
      obtain ⟨hi14, hF⟩ := hF
      refine tw_iald hx hb hK hP (by decide) (tw_lt ho13 (congrFun hN 137)) rfl 0 rfl hi14 dX10_holds_163 ?_
      refine lv_icmp_ge (tgt := 171) hx hb dX10_holds_164 (by decide) (fun c15 => ?_) (fun c15 => ?_)
      · have hF := hF.1 c15
        refine lv_iconst (v := 0) hx hb dX10_holds_171 (by decide) ?_
        refine lv_goto (tgt := 221) hx hb dX10_holds_172 (by decide) ?_
        exact W.zret (v := (0 : Int32)) (ty := .boolean) hx hb hr rfl (fun t ht hW => ⟨⟨((0 : Int32)), τ, rfl, ⟨hF, hN⟩, tw_at hP ht⟩, hS.F ht⟩) hS.2.2 dX10_holds_221
      · have hF := hF.2 c15
        refine lv_iconst (v := 1) hx hb dX10_holds_167 (by decide) ?_
        refine lv_goto (tgt := 221) hx hb dX10_holds_168 (by decide) ?_
        exact W.zret (v := (1 : Int32)) (ty := .boolean) hx hb hr rfl (fun t ht hW => ⟨⟨((1 : Int32)), τ, rfl, ⟨hF, hN⟩, tw_at hP ht⟩, hS.F ht⟩) hS.2.2 dX10_holds_221
  refine lv_aload_n hx hb dX10_holds_0 rfl (lv_at hl 0 rfl) ?_
  obtain ⟨o16, eo16, hF⟩ := hF
  have ho16 : o16 < gN τ0 110 := tw_lt (hP.2.2.2 0 k0 10 o16 (by decide) hk0 eo16) (congrFun hN 110).symm
  refine tw_get (v := .ref (ad 110 o16)) hx hb hts (by decide +kernel) hown hK hP (by decide) hk0 rfl rfl 10 (by decide) (hts (.fieldLink RX10 29 "WineCellarModel" "kindOf" "[I") (by decide +kernel)) (fun _ h9 => h9) (show some (va_rf ((gR τ0 0 k0 10).map (ad 110))) = some (.ref (ad 110 o16)) by rw [eo16]; rfl) dX10_holds_1 ?_
  refine lv_iload_n hx hb dX10_holds_4 rfl (lv_at hl 2 rfl) ?_
  obtain ⟨hi17, hF⟩ := hF
  refine tw_iald hx hb hK hP (by decide) ho16 rfl 0 rfl hi17 dX10_holds_5 ?_
  refine lv_topi (fun z18 ez18 => ?_)
  have hF := hF z18 ez18
  refine lv_istore_n (lv' := [(3, .int z18), (0, .ref (ad 0 k0)), (1, .int x1), (2, .int x2)]) hx hb dX10_holds_6 rfl hl (by decide) rfl (fun ls hl => ?_)
  refine lv_aload_n hx hb dX10_holds_7 rfl (lv_at hl 1 rfl) ?_
  obtain ⟨o19, eo19, hF⟩ := hF
  have ho19 : o19 < gN τ0 135 := tw_lt (hP.2.2.2 0 k0 35 o19 (by decide) hk0 eo19) (congrFun hN 135).symm
  refine tw_get (v := .ref (ad 135 o19)) hx hb hts (by decide +kernel) hown hK hP (by decide) hk0 rfl rfl 35 (by decide) (hts (.fieldLink RX10 65 "WineCellarModel" "term" "[I") (by decide +kernel)) (fun _ h9 => h9) (show some (va_rf ((gR τ0 0 k0 35).map (ad 135))) = some (.ref (ad 135 o19)) by rw [eo19]; rfl) dX10_holds_8 ?_
  refine lv_iload_n hx hb dX10_holds_11 rfl (lv_at hl 2 rfl) ?_
  obtain ⟨hi20, hF⟩ := hF
  refine tw_iald hx hb hK hP (by decide) ho19 rfl 0 rfl hi20 dX10_holds_12 ?_
  refine lv_if_ne (tgt := 32) hx hb dX10_holds_13 (by decide) (fun c21 => ?_) (fun c21 => ?_)
  · have hF := hF.1 c21
    refine lv_aload_n hx hb dX10_holds_32 rfl (lv_at hl 1 rfl) ?_
    obtain ⟨o22, eo22, hF⟩ := hF
    have ho22 : o22 < gN τ0 135 := tw_lt (hP.2.2.2 0 k0 35 o22 (by decide) hk0 eo22) (congrFun hN 135).symm
    refine tw_get (v := .ref (ad 135 o22)) hx hb hts (by decide +kernel) hown hK hP (by decide) hk0 rfl rfl 35 (by decide) (hts (.fieldLink RX10 65 "WineCellarModel" "term" "[I") (by decide +kernel)) (fun _ h9 => h9) (show some (va_rf ((gR τ0 0 k0 35).map (ad 135))) = some (.ref (ad 135 o22)) by rw [eo22]; rfl) dX10_holds_33 ?_
    refine lv_iload_n hx hb dX10_holds_36 rfl (lv_at hl 2 rfl) ?_
    obtain ⟨hi23, hF⟩ := hF
    refine tw_iald hx hb hK hP (by decide) ho22 rfl 0 rfl hi23 dX10_holds_37 ?_
    refine lv_iconst (v := 1) hx hb dX10_holds_38 (by decide) ?_
    refine lv_icmp_ne (tgt := 57) hx hb dX10_holds_39 (by decide) (fun c24 => ?_) (fun c24 => ?_)
    · have hF := hF.1 c24
      refine lv_aload_n hx hb dX10_holds_57 rfl (lv_at hl 1 rfl) ?_
      obtain ⟨o25, eo25, hF⟩ := hF
      have ho25 : o25 < gN τ0 135 := tw_lt (hP.2.2.2 0 k0 35 o25 (by decide) hk0 eo25) (congrFun hN 135).symm
      refine tw_get (v := .ref (ad 135 o25)) hx hb hts (by decide +kernel) hown hK hP (by decide) hk0 rfl rfl 35 (by decide) (hts (.fieldLink RX10 65 "WineCellarModel" "term" "[I") (by decide +kernel)) (fun _ h9 => h9) (show some (va_rf ((gR τ0 0 k0 35).map (ad 135))) = some (.ref (ad 135 o25)) by rw [eo25]; rfl) dX10_holds_58 ?_
      refine lv_iload_n hx hb dX10_holds_61 rfl (lv_at hl 2 rfl) ?_
      obtain ⟨hi26, hF⟩ := hF
      refine tw_iald hx hb hK hP (by decide) ho25 rfl 0 rfl hi26 dX10_holds_62 ?_
      refine lv_iconst (v := 5) hx hb dX10_holds_63 (by decide) ?_
      refine lv_icmp_ge (tgt := 90) hx hb dX10_holds_64 (by decide) (fun c27 => ?_) (fun c27 => ?_)
      · have hF := hF.1 c27
        refine lv_aload_n hx hb dX10_holds_90 rfl (lv_at hl 1 rfl) ?_
        obtain ⟨o28, eo28, hF⟩ := hF
        have ho28 : o28 < gN τ0 135 := tw_lt (hP.2.2.2 0 k0 35 o28 (by decide) hk0 eo28) (congrFun hN 135).symm
        refine tw_get (v := .ref (ad 135 o28)) hx hb hts (by decide +kernel) hown hK hP (by decide) hk0 rfl rfl 35 (by decide) (hts (.fieldLink RX10 65 "WineCellarModel" "term" "[I") (by decide +kernel)) (fun _ h9 => h9) (show some (va_rf ((gR τ0 0 k0 35).map (ad 135))) = some (.ref (ad 135 o28)) by rw [eo28]; rfl) dX10_holds_91 ?_
        refine lv_iload_n hx hb dX10_holds_94 rfl (lv_at hl 2 rfl) ?_
        obtain ⟨hi29, hF⟩ := hF
        refine tw_iald hx hb hK hP (by decide) ho28 rfl 0 rfl hi29 dX10_holds_95 ?_
        refine lv_iconst (v := 5) hx hb dX10_holds_96 (by decide) ?_
        refine lv_icmp_ne (tgt := 109) hx hb dX10_holds_97 (by decide) (fun c30 => ?_) (fun c30 => ?_)
        · have hF := hF.1 c30
          refine lv_aload_n hx hb dX10_holds_109 rfl (lv_at hl 1 rfl) ?_
          obtain ⟨o31, eo31, hF⟩ := hF
          have ho31 : o31 < gN τ0 135 := tw_lt (hP.2.2.2 0 k0 35 o31 (by decide) hk0 eo31) (congrFun hN 135).symm
          refine tw_get (v := .ref (ad 135 o31)) hx hb hts (by decide +kernel) hown hK hP (by decide) hk0 rfl rfl 35 (by decide) (hts (.fieldLink RX10 65 "WineCellarModel" "term" "[I") (by decide +kernel)) (fun _ h9 => h9) (show some (va_rf ((gR τ0 0 k0 35).map (ad 135))) = some (.ref (ad 135 o31)) by rw [eo31]; rfl) dX10_holds_110 ?_
          refine lv_iload_n hx hb dX10_holds_113 rfl (lv_at hl 2 rfl) ?_
          obtain ⟨hi32, hF⟩ := hF
          refine tw_iald hx hb hK hP (by decide) ho31 rfl 0 rfl hi32 dX10_holds_114 ?_
          refine lv_bipush (v := 6) hx hb dX10_holds_115 (by decide) ?_
          refine lv_icmp_ne (tgt := 134) hx hb dX10_holds_117 (by decide) (fun c33 => ?_) (fun c33 => ?_)
          · have hF := hF.1 c33
            refine lv_aload_n hx hb dX10_holds_134 rfl (lv_at hl 1 rfl) ?_
            refine lv_iload_n hx hb dX10_holds_135 rfl (lv_at hl 3 rfl) ?_
            refine lv_aload_n hx hb dX10_holds_136 rfl (lv_at hl 1 rfl) ?_
            refine va_calli (va_runV (As := []) (rest := [.int x2, .ref (ad 0 k0)]) ⟨hx, hb, hml, hown, hts⟩ (mX10_year l dC dI ac sa A ad τ0 k0 _ hF hk0) (cwV 0 hts gX10_holds_X10_year rfl rfl rfl (by decide +kernel) ⟨Nat.le_of_ble_eq_true rfl, Nat.le_of_ble_eq_true rfl⟩) ⟨BM.blind, tw_recv hK hP (by decide) hk0 rfl rfl, fun U hU hW => ⟨rfl, BM.of hP hK hS hA hZ hU hW⟩⟩ rfl rfl hl.1 rfl (lv_room (Nat.le_of_ble_eq_true rfl)) dX10_holds_137 ⟨Nat.le_of_ble_eq_true rfl, Nat.le_of_ble_eq_true rfl⟩) hS (fun q _ h => h) (fun q h => h) (fun r35 τ34 t H locs ht hvm hw hB hz hk hS => ?_)
            obtain ⟨hF, hN9⟩ := hw
            have hP : PM dC dI ac A ad τ34 H := tw_back hB ht
            have hN : gN τ34 = gN τ0 := hN9.trans hN
            refine va_calli (va_runV (As := [.int x2, .int r35]) (rest := []) ⟨hx, hb, hml, hown, hts⟩ (mX10_worthOf l dC dI ac sa A ad τ34 k0 x2 r35 _ hF (tw_lt hk0 (congrFun hN 0))) (cwV 2 hts gX10_holds_X10_worthOf rfl rfl rfl (by decide +kernel) ⟨Nat.le_of_ble_eq_true rfl, Nat.le_of_ble_eq_true rfl⟩) ⟨BM.blind, tw_recv hK hP (by decide) (tw_lt hk0 (congrFun hN 0)) rfl rfl, fun U hU hW => ⟨rfl, BM.of hP hK hS hA hZ hU hW⟩⟩ rfl rfl hl.1 rfl (lv_room (Nat.le_of_ble_eq_true rfl)) dX10_holds_140 ⟨Nat.le_of_ble_eq_true rfl, Nat.le_of_ble_eq_true rfl⟩) hS (fun q _ h => h) (fun q h => h) (fun r37 τ36 t H locs ht hvm hw hB hz hk hS => ?_)
            obtain ⟨hF, hN9⟩ := hw
            have hP : PM dC dI ac A ad τ36 H := tw_back hB ht
            have hN : gN τ36 = gN τ0 := hN9.trans hN
            exact j143 τ36 k0 hk0 x1 r37 _ _ _ hF hP hN hS (lv_sub hl [1, 2] rfl)
          · have hF := hF.2 c33
            refine lv_aload_n hx hb dX10_holds_120 rfl (lv_at hl 1 rfl) ?_
            refine va_calli (va_runV (As := []) (rest := []) ⟨hx, hb, hml, hown, hts⟩ (mX10_year l dC dI ac sa A ad τ0 k0 _ hF hk0) (cwV 0 hts gX10_holds_X10_year rfl rfl rfl (by decide +kernel) ⟨Nat.le_of_ble_eq_true rfl, Nat.le_of_ble_eq_true rfl⟩) ⟨BM.blind, tw_recv hK hP (by decide) hk0 rfl rfl, fun U hU hW => ⟨rfl, BM.of hP hK hS hA hZ hU hW⟩⟩ rfl rfl hl.1 rfl (lv_room (Nat.le_of_ble_eq_true rfl)) dX10_holds_121 ⟨Nat.le_of_ble_eq_true rfl, Nat.le_of_ble_eq_true rfl⟩) hS (fun q _ h => h) (fun q h => h) (fun r39 τ38 t H locs ht hvm hw hB hz hk hS => ?_)
            obtain ⟨hF, hN9⟩ := hw
            have hP : PM dC dI ac A ad τ38 H := tw_back hB ht
            have hN : gN τ38 = gN τ0 := hN9.trans hN
            refine lv_aload_n hx hb dX10_holds_124 rfl (lv_at hl 1 rfl) ?_
            obtain ⟨o40, eo40, hF⟩ := hF
            have ho40 : o40 < gN τ0 111 := tw_lt (hP.2.2.2 0 k0 11 o40 (by decide) (tw_lt hk0 (congrFun hN 0)) eo40) (congrFun hN 111).symm
            refine tw_get (v := .ref (ad 111 o40)) hx hb hts (by decide +kernel) hown hK hP (by decide) (tw_lt hk0 (congrFun hN 0)) rfl rfl 11 (by decide) (hts (.fieldLink RX10 32 "WineCellarModel" "vintage" "[I") (by decide +kernel)) (fun _ h9 => h9) (show some (va_rf ((gR τ38 0 k0 11).map (ad 111))) = some (.ref (ad 111 o40)) by rw [eo40]; rfl) dX10_holds_125 ?_
            refine lv_iload_n hx hb dX10_holds_128 rfl (lv_at hl 3 rfl) ?_
            obtain ⟨hi41, hF⟩ := hF
            refine tw_iald hx hb hK hP (by decide) (tw_lt ho40 (congrFun hN 111)) rfl 0 rfl hi41 dX10_holds_129 ?_
            refine lv_isub hx hb dX10_holds_130 ?_
            refine lv_goto (tgt := 143) hx hb dX10_holds_131 (by decide) ?_
            exact j143 τ38 k0 hk0 x1 (r39 - (gI τ38 111 o40 x2.toNatClampNeg)) _ _ _ hF hP hN hS (lv_sub hl [1, 2] rfl)
        · have hF := hF.2 c30
          refine lv_aload_n hx hb dX10_holds_100 rfl (lv_at hl 1 rfl) ?_
          obtain ⟨o42, eo42, hF⟩ := hF
          have ho42 : o42 < gN τ0 106 := tw_lt (hP.2.2.2 0 k0 6 o42 (by decide) hk0 eo42) (congrFun hN 106).symm
          refine tw_get (v := .ref (ad 106 o42)) hx hb hts (by decide +kernel) hown hK hP (by decide) hk0 rfl rfl 6 (by decide) (hts (.fieldLink RX10 17 "WineCellarModel" "body" "[I") (by decide +kernel)) (fun _ h9 => h9) (show some (va_rf ((gR τ0 0 k0 6).map (ad 106))) = some (.ref (ad 106 o42)) by rw [eo42]; rfl) dX10_holds_101 ?_
          refine lv_iload_n hx hb dX10_holds_104 rfl (lv_at hl 0 rfl) ?_
          obtain ⟨hi43, hF⟩ := hF
          refine tw_iald hx hb hK hP (by decide) ho42 rfl 0 rfl hi43 dX10_holds_105 ?_
          refine lv_goto (tgt := 143) hx hb dX10_holds_106 (by decide) ?_
          exact j143 τ0 k0 hk0 x1 (gI τ0 106 o42 z18.toNatClampNeg) _ _ _ hF hP hN hS (lv_sub hl [1, 2] rfl)
      · have hF := hF.2 c27
        refine lv_aload_n hx hb dX10_holds_67 rfl (lv_at hl 1 rfl) ?_
        obtain ⟨o44, eo44, hF⟩ := hF
        have ho44 : o44 < gN τ0 105 := tw_lt (hP.2.2.2 0 k0 5 o44 (by decide) hk0 eo44) (congrFun hN 105).symm
        refine tw_get (v := .ref (ad 105 o44)) hx hb hts (by decide +kernel) hown hK hP (by decide) hk0 rfl rfl 5 (by decide) (hts (.fieldLink RX10 13 "WineCellarModel" "sort" "[I") (by decide +kernel)) (fun _ h9 => h9) (show some (va_rf ((gR τ0 0 k0 5).map (ad 105))) = some (.ref (ad 105 o44)) by rw [eo44]; rfl) dX10_holds_68 ?_
        refine lv_iload_n hx hb dX10_holds_71 rfl (lv_at hl 0 rfl) ?_
        obtain ⟨hi45, hF⟩ := hF
        refine tw_iald hx hb hK hP (by decide) ho44 rfl 0 rfl hi45 dX10_holds_72 ?_
        refine lv_aload_n hx hb dX10_holds_73 rfl (lv_at hl 1 rfl) ?_
        obtain ⟨o46, eo46, hF⟩ := hF
        have ho46 : o46 < gN τ0 135 := tw_lt (hP.2.2.2 0 k0 35 o46 (by decide) hk0 eo46) (congrFun hN 135).symm
        refine tw_get (v := .ref (ad 135 o46)) hx hb hts (by decide +kernel) hown hK hP (by decide) hk0 rfl rfl 35 (by decide) (hts (.fieldLink RX10 65 "WineCellarModel" "term" "[I") (by decide +kernel)) (fun _ h9 => h9) (show some (va_rf ((gR τ0 0 k0 35).map (ad 135))) = some (.ref (ad 135 o46)) by rw [eo46]; rfl) dX10_holds_74 ?_
        refine lv_iload_n hx hb dX10_holds_77 rfl (lv_at hl 2 rfl) ?_
        obtain ⟨hi47, hF⟩ := hF
        refine tw_iald hx hb hK hP (by decide) ho46 rfl 0 rfl hi47 dX10_holds_78 ?_
        refine lv_iconst (v := 2) hx hb dX10_holds_79 (by decide) ?_
        refine lv_isub hx hb dX10_holds_80 ?_
        refine lv_icmp_ne (tgt := 88) hx hb dX10_holds_81 (by decide) (fun c48 => ?_) (fun c48 => ?_)
        · have hF := hF.1 c48
          refine lv_iconst (v := 0) hx hb dX10_holds_88 (by decide) ?_
          exact W.zret (v := (0 : Int32)) (ty := .boolean) hx hb hr rfl (fun t ht hW => ⟨⟨((0 : Int32)), τ0, rfl, ⟨hF, hN⟩, tw_at hP ht⟩, hS.F ht⟩) hS.2.2 dX10_holds_89
        · have hF := hF.2 c48
          refine lv_iconst (v := 1) hx hb dX10_holds_84 (by decide) ?_
          refine lv_goto (tgt := 89) hx hb dX10_holds_85 (by decide) ?_
          exact W.zret (v := (1 : Int32)) (ty := .boolean) hx hb hr rfl (fun t ht hW => ⟨⟨((1 : Int32)), τ0, rfl, ⟨hF, hN⟩, tw_at hP ht⟩, hS.F ht⟩) hS.2.2 dX10_holds_89
    · have hF := hF.2 c24
      refine lv_aload_n hx hb dX10_holds_42 rfl (lv_at hl 1 rfl) ?_
      obtain ⟨o49, eo49, hF⟩ := hF
      have ho49 : o49 < gN τ0 107 := tw_lt (hP.2.2.2 0 k0 7 o49 (by decide) hk0 eo49) (congrFun hN 107).symm
      refine tw_get (v := .ref (ad 107 o49)) hx hb hts (by decide +kernel) hown hK hP (by decide) hk0 rfl rfl 7 (by decide) (hts (.fieldLink RX10 20 "WineCellarModel" "red" "[I") (by decide +kernel)) (fun _ h9 => h9) (show some (va_rf ((gR τ0 0 k0 7).map (ad 107))) = some (.ref (ad 107 o49)) by rw [eo49]; rfl) dX10_holds_43 ?_
      refine lv_iload_n hx hb dX10_holds_46 rfl (lv_at hl 0 rfl) ?_
      obtain ⟨hi50, hF⟩ := hF
      refine tw_iald hx hb hK hP (by decide) ho49 rfl 0 rfl hi50 dX10_holds_47 ?_
      refine lv_if_ne (tgt := 55) hx hb dX10_holds_48 (by decide) (fun c51 => ?_) (fun c51 => ?_)
      · have hF := hF.1 c51
        refine lv_iconst (v := 0) hx hb dX10_holds_55 (by decide) ?_
        exact W.zret (v := (0 : Int32)) (ty := .boolean) hx hb hr rfl (fun t ht hW => ⟨⟨((0 : Int32)), τ0, rfl, ⟨hF, hN⟩, tw_at hP ht⟩, hS.F ht⟩) hS.2.2 dX10_holds_56
      · have hF := hF.2 c51
        refine lv_iconst (v := 1) hx hb dX10_holds_51 (by decide) ?_
        refine lv_goto (tgt := 56) hx hb dX10_holds_52 (by decide) ?_
        exact W.zret (v := (1 : Int32)) (ty := .boolean) hx hb hr rfl (fun t ht hW => ⟨⟨((1 : Int32)), τ0, rfl, ⟨hF, hN⟩, tw_at hP ht⟩, hS.F ht⟩) hS.2.2 dX10_holds_56
  · have hF := hF.2 c21
    refine lv_aload_n hx hb dX10_holds_16 rfl (lv_at hl 1 rfl) ?_
    obtain ⟨o52, eo52, hF⟩ := hF
    have ho52 : o52 < gN τ0 107 := tw_lt (hP.2.2.2 0 k0 7 o52 (by decide) hk0 eo52) (congrFun hN 107).symm
    refine tw_get (v := .ref (ad 107 o52)) hx hb hts (by decide +kernel) hown hK hP (by decide) hk0 rfl rfl 7 (by decide) (hts (.fieldLink RX10 20 "WineCellarModel" "red" "[I") (by decide +kernel)) (fun _ h9 => h9) (show some (va_rf ((gR τ0 0 k0 7).map (ad 107))) = some (.ref (ad 107 o52)) by rw [eo52]; rfl) dX10_holds_17 ?_
    refine lv_iload_n hx hb dX10_holds_20 rfl (lv_at hl 0 rfl) ?_
    obtain ⟨hi53, hF⟩ := hF
    refine tw_iald hx hb hK hP (by decide) ho52 rfl 0 rfl hi53 dX10_holds_21 ?_
    refine lv_iconst (v := 1) hx hb dX10_holds_22 (by decide) ?_
    refine lv_icmp_ne (tgt := 30) hx hb dX10_holds_23 (by decide) (fun c54 => ?_) (fun c54 => ?_)
    · have hF := hF.1 c54
      refine lv_iconst (v := 0) hx hb dX10_holds_30 (by decide) ?_
      exact W.zret (v := (0 : Int32)) (ty := .boolean) hx hb hr rfl (fun t ht hW => ⟨⟨((0 : Int32)), τ0, rfl, ⟨hF, hN⟩, tw_at hP ht⟩, hS.F ht⟩) hS.2.2 dX10_holds_31
    · have hF := hF.2 c54
      refine lv_iconst (v := 1) hx hb dX10_holds_26 (by decide) ?_
      refine lv_goto (tgt := 31) hx hb dX10_holds_27 (by decide) ?_
      exact W.zret (v := (1 : Int32)) (ty := .boolean) hx hb hr rfl (fun t ht hW => ⟨⟨((1 : Int32)), τ0, rfl, ⟨hF, hN⟩, tw_at hP ht⟩, hS.F ht⟩) hS.2.2 dX10_holds_31
def J_X10_scoreOf_48 (τ : tw_T) (p0 : Nat) (u1 : Int32) (u2 : Int32) (u4 : Int32) (y0 : Int32) (y1 : Int32) (Q : Int32 → tw_T → Prop) (RC EX : tw_T → Int32 → Int32 → Prop) : Prop := ∀ z1 : Int32, z1 = y1 + y0 → (∀ z2 : Int32, z2 = u4 + (1 : Int32) → (RC τ z1 z2))
def L_X10_scoreOf_5 (p0 : Nat) (u1 : Int32) (u2 : Int32) (Q : Int32 → tw_T → Prop) (EX : tw_T → Int32 → Int32 → Prop) : Nat → tw_T → Int32 → Int32 → Prop
  | 0, _, _, _ => False
  | n + 1, τ, u3, u4 => ∃ o3 : Nat, gR τ 0 p0 34 = some o3 ∧ (vp_in u1 21 ∧ ((((gI τ 134 o3 u1.toNatClampNeg) ≤ u4 → (EX τ u3 u4)) ∧ (¬ (gI τ 134 o3 u1.toNatClampNeg) ≤ u4 → (F_X10_holds τ p0 ((((12 : Int32)) * u1) + u4) u2 (fun (r7 : Int32) (τ6 : tw_T) => (((r7 = 0 → (J_X10_scoreOf_48 τ6 p0 u1 u2 u4 ((0 : Int32)) u3 Q (fun t v3 v4 => L_X10_scoreOf_5 p0 u1 u2 Q EX n t v3 v4) EX)) ∧ (¬ r7 = 0 → (∃ o9 : Nat, gR τ6 0 p0 38 = some o9 ∧ (vp_in ((((12 : Int32)) * u1) + u4) 252 ∧ (J_X10_scoreOf_48 τ6 p0 u1 u2 u4 (gI τ6 138 o9 ((((12 : Int32)) * u1) + u4).toNatClampNeg) u3 Q (fun t v3 v4 => L_X10_scoreOf_5 p0 u1 u2 Q EX n t v3 v4) EX))))))))))))
def F_X10_scoreOf (τ0 : tw_T) (k0 : Nat) (x1 : Int32) (x2 : Int32) (Q : Int32 → tw_T → Prop) : Prop := ∃ n11 : Nat, L_X10_scoreOf_5 k0 x1 x2 Q (fun (τ12 : tw_T) (z13 : Int32) (z14 : Int32) => Q z13 τ12) n11 τ0 ((0 : Int32)) ((0 : Int32))
def rmX10_scoreOf : Room := { frames := 2, cells := 0, slots := 0, locals := 49 }
set_option maxHeartbeats 4000000 in
set_option maxRecDepth 100000 in
theorem mX10_scoreOf (l : Launch) (dC : Nat → ClassId) (dI : Nat → Nat → Nat) (ac : Nat → ClassId) (sa : Nat → Nat) (A : Nat → Prop) (ad : Nat → Nat → Nat) (τ0 : tw_T) (k0 : Nat) (x1 : Int32) (x2 : Int32) (Q : Int32 → tw_T → Prop) (hF : F_X10_scoreOf τ0 k0 x1 x2 Q) (hk0 : k0 < gN τ0 0) : Met l yX10_scoreOf wsX10_scoreOf rmX10_scoreOf (va_Pc [.ref (ad 0 k0), .int x1, .int x2] (BM dC dI ac sa A ad τ0)) (va_Qi (fun r (u : tw_T) => Q r u ∧ gN u = gN τ0) (fun u t => PM dC dI ac A ad u t.heap) A) 0 0 A := by
  refine Met.ofW (cc := cX10_scoreOf) (maxL := 5) (ret := (some .int)) (by decide) rfl ?_
  intro p e s m args below meth c s₁ B hml hv
  obtain ⟨rfl, hP, hK, hA, hZ⟩ := hv
  have hx := B.exec
  have hb := B.bytes
  have hr := B.returns
  have hts := atoms_spec (ws := wsX10_scoreOf) B.pre
  have hown : s.vm.findClass RX10 = some m.cls := findClass_of_methodNamed B.named
  have hlocks := B.notSynchronized
  have hS : va_S A s.heap s.heap [] := va_S.rf
  have hN : gN τ0 = gN τ0 := rfl
  have hl := lv_entry ([.ref (ad 0 k0), .int x1, .int x2]) (n := 5) (Nat.le_of_ble_eq_true rfl)
  rw [lg_entry_eq]
  generalize (lg_sl ([.ref (ad 0 k0), .int x1, .int x2]) ++ List.replicate (5 - (lg_sl ([.ref (ad 0 k0), .int x1, .int x2])).length) Slot.unset).toArray = ls at hl ⊢
  have hl : lv_has ls 5 [(0, .ref (ad 0 k0)), (1, .int x1), (2, .int x2)] := hl
  unfold F_X10_scoreOf at hF
  have l5 : ∀ (p0 : Nat) (hp0 : p0 < gN τ0 0) (u1 : Int32) (u2 : Int32) (EX : tw_T → Int32 → Int32 → Prop) (n : Nat) (τ : tw_T) (u3 : Int32) (u4 : Int32) (H : Heap) (locs : List Loc) (ls : Array Slot), L_X10_scoreOf_5 p0 u1 u2 Q EX n τ u3 u4 → PM dC dI ac A ad τ H → gN τ = gN τ0 → va_S A s.heap H locs → lv_has ls 5 [(0, .ref (ad 0 p0)), (1, .int u1), (2, .int u2), (3, .int u3), (4, .int u4)] → (∀ (τ : tw_T) (u3 : Int32) (u4 : Int32) (H : Heap) (locs : List Loc) (ls : Array Slot), EX τ u3 u4 → PM dC dI ac A ad τ H → gN τ = gN τ0 → va_S A s.heap H locs → lv_has ls 5 [(0, .ref (ad 0 p0)), (1, .int u1), (2, .int u2), (3, .int u3), (4, .int u4)] → W p l e rmX10_scoreOf s m ([.ref (ad 0 k0), .int x1, .int x2] : List Value).toArray below meth c H locs 0 0 (MQ below (va_Qi (fun r (u : tw_T) => Q r u ∧ gN u = gN τ0) (fun u t => PM dC dI ac A ad u t.heap) A) ([.ref (ad 0 k0), .int x1, .int x2] : List Value).toArray s 0 0 A) (F0 m 56 ls [])) → W p l e rmX10_scoreOf s m ([.ref (ad 0 k0), .int x1, .int x2] : List Value).toArray below meth c H locs 0 0 (MQ below (va_Qi (fun r (u : tw_T) => Q r u ∧ gN u = gN τ0) (fun u t => PM dC dI ac A ad u t.heap) A) ([.ref (ad 0 k0), .int x1, .int x2] : List Value).toArray s 0 0 A) (F0 m 5 ls []) := by
    intro p0 hp0 u1 u2 EX n
    induction n with
    | zero => intro τ u3 u4 H locs ls hF; exact hF.elim
    | succ n ih =>
      intro τ u3 u4 H locs ls hF hP hN hS hl hEX
      rw [L_X10_scoreOf_5] at hF
      have j48 : ∀ (τ : tw_T) (p0 : Nat) (hp0 : p0 < gN τ0 0) (u1 : Int32) (u2 : Int32) (u4 : Int32) (y0 : Int32) (y1 : Int32) (H : Heap) (locs : List Loc) (ls : Array Slot) (RC EX : tw_T → Int32 → Int32 → Prop), J_X10_scoreOf_48 τ p0 u1 u2 u4 y0 y1 Q RC EX → PM dC dI ac A ad τ H → gN τ = gN τ0 → va_S A s.heap H locs → lv_has ls 5 [(0, .ref (ad 0 p0)), (1, .int u1), (2, .int u2), (4, .int u4)] → (∀ (τ : tw_T) (u3 : Int32) (u4 : Int32) (H : Heap) (locs : List Loc) (ls : Array Slot), RC τ u3 u4 → PM dC dI ac A ad τ H → gN τ = gN τ0 → va_S A s.heap H locs → lv_has ls 5 [(0, .ref (ad 0 p0)), (1, .int u1), (2, .int u2), (3, .int u3), (4, .int u4)] → W p l e rmX10_scoreOf s m ([.ref (ad 0 k0), .int x1, .int x2] : List Value).toArray below meth c H locs 0 0 (MQ below (va_Qi (fun r (u : tw_T) => Q r u ∧ gN u = gN τ0) (fun u t => PM dC dI ac A ad u t.heap) A) ([.ref (ad 0 k0), .int x1, .int x2] : List Value).toArray s 0 0 A) (F0 m 5 ls [])) → (∀ (τ : tw_T) (u3 : Int32) (u4 : Int32) (H : Heap) (locs : List Loc) (ls : Array Slot), EX τ u3 u4 → PM dC dI ac A ad τ H → gN τ = gN τ0 → va_S A s.heap H locs → lv_has ls 5 [(0, .ref (ad 0 p0)), (1, .int u1), (2, .int u2), (3, .int u3), (4, .int u4)] → W p l e rmX10_scoreOf s m ([.ref (ad 0 k0), .int x1, .int x2] : List Value).toArray below meth c H locs 0 0 (MQ below (va_Qi (fun r (u : tw_T) => Q r u ∧ gN u = gN τ0) (fun u t => PM dC dI ac A ad u t.heap) A) ([.ref (ad 0 k0), .int x1, .int x2] : List Value).toArray s 0 0 A) (F0 m 56 ls [])) → W p l e rmX10_scoreOf s m ([.ref (ad 0 k0), .int x1, .int x2] : List Value).toArray below meth c H locs 0 0 (MQ below (va_Qi (fun r (u : tw_T) => Q r u ∧ gN u = gN τ0) (fun u t => PM dC dI ac A ad u t.heap) A) ([.ref (ad 0 k0), .int x1, .int x2] : List Value).toArray s 0 0 A) (F0 m 48 ls [.int y0, .int y1]) := by
        intro τ p0 hp0 u1 u2 u4 y0 y1 H locs ls RC EX hF hP hN hS hl hRC hEX
        unfold J_X10_scoreOf_48 at hF
        refine lv_iadd hx hb dX10_scoreOf_48 ?_
        refine lv_topi (fun z1 ez1 => ?_)
        have hF := hF z1 ez1
        refine lv_istore_n (lv' := [(3, .int z1), (0, .ref (ad 0 p0)), (1, .int u1), (2, .int u2), (4, .int u4)]) hx hb dX10_scoreOf_49 rfl hl (by decide) rfl (fun ls hl => ?_)
        obtain ⟨z2, ez2⟩ : ∃ y : Int32, y = u4 + (1 : Int32) := ⟨_, rfl⟩
        have hF := hF z2 ez2
        refine lv_iinc (v := z2) (lv' := [(4, .int z2), (3, .int z1), (0, .ref (ad 0 p0)), (1, .int u1), (2, .int u2)]) hx hb dX10_scoreOf_50 hl (k := 4) rfl (by rw [ez2]; rfl) (by decide) rfl (fun ls hl => ?_)
        refine lv_goto (tgt := 5) hx hb dX10_scoreOf_53 (by decide) ?_
        exact hRC τ z1 z2 _ _ _ hF hP hN hS (lv_sub hl [2, 3, 4, 1, 0] rfl)
      refine lv_iload hx hb dX10_scoreOf_5 (lv_at hl 4 rfl) ?_
      refine lv_aload_n hx hb dX10_scoreOf_7 rfl (lv_at hl 0 rfl) ?_
      obtain ⟨o3, eo3, hF⟩ := hF
      have ho3 : o3 < gN τ0 134 := tw_lt (hP.2.2.2 0 p0 34 o3 (by decide) (tw_lt hp0 (congrFun hN 0)) eo3) (congrFun hN 134).symm
      refine tw_get (v := .ref (ad 134 o3)) hx hb hts (by decide +kernel) hown hK hP (by decide) (tw_lt hp0 (congrFun hN 0)) rfl rfl 34 (by decide) (hts (.fieldLink RX10 62 "WineCellarModel" "termMany" "[I") (by decide +kernel)) (fun _ h9 => h9) (show some (va_rf ((gR τ 0 p0 34).map (ad 134))) = some (.ref (ad 134 o3)) by rw [eo3]; rfl) dX10_scoreOf_8 ?_
      refine lv_iload_n hx hb dX10_scoreOf_11 rfl (lv_at hl 1 rfl) ?_
      obtain ⟨hi4, hF⟩ := hF
      refine tw_iald hx hb hK hP (by decide) (tw_lt ho3 (congrFun hN 134)) rfl 0 rfl hi4 dX10_scoreOf_12 ?_
      refine lv_icmp_ge (tgt := 56) hx hb dX10_scoreOf_13 (by decide) (fun c5 => ?_) (fun c5 => ?_)
      · have hF := hF.1 c5
        exact hEX τ u3 u4 _ _ _ hF hP hN hS (lv_sub hl [0, 1, 2, 3, 4] rfl)
      · have hF := hF.2 c5
        refine lv_iload_n hx hb dX10_scoreOf_16 rfl (lv_at hl 3 rfl) ?_
        refine lv_aload_n hx hb dX10_scoreOf_17 rfl (lv_at hl 0 rfl) ?_
        refine lv_bipush (v := 12) hx hb dX10_scoreOf_18 (by decide) ?_
        refine lv_iload_n hx hb dX10_scoreOf_20 rfl (lv_at hl 1 rfl) ?_
        refine lv_imul hx hb dX10_scoreOf_21 ?_
        refine lv_iload hx hb dX10_scoreOf_22 (lv_at hl 4 rfl) ?_
        refine lv_iadd hx hb dX10_scoreOf_24 ?_
        refine lv_iload_n hx hb dX10_scoreOf_25 rfl (lv_at hl 2 rfl) ?_
        refine va_calli (va_runV (As := [.int ((((12 : Int32)) * u1) + u4), .int u2]) (rest := [.int u3]) ⟨hx, hb, hml, hown, hts⟩ (mX10_holds l dC dI ac sa A ad τ p0 ((((12 : Int32)) * u1) + u4) u2 _ hF (tw_lt hp0 (congrFun hN 0))) (cwV 2 hts gX10_scoreOf_X10_holds rfl rfl rfl (by decide +kernel) ⟨Nat.le_of_ble_eq_true rfl, Nat.le_of_ble_eq_true rfl⟩) ⟨BM.blind, tw_recv hK hP (by decide) (tw_lt hp0 (congrFun hN 0)) rfl rfl, fun U hU hW => ⟨rfl, BM.of hP hK hS hA hZ hU hW⟩⟩ rfl rfl hl.1 rfl (lv_room (Nat.le_of_ble_eq_true rfl)) dX10_scoreOf_26 ⟨Nat.le_of_ble_eq_true rfl, Nat.le_of_ble_eq_true rfl⟩) hS (fun q _ h => h) (fun q h => h) (fun r7 τ6 t H locs ht hvm hw hB hz hk hS => ?_)
        obtain ⟨hF, hN9⟩ := hw
        have hP : PM dC dI ac A ad τ6 H := tw_back hB ht
        have hN : gN τ6 = gN τ0 := hN9.trans hN
        refine lv_if_eq (tgt := 47) hx hb dX10_scoreOf_29 (by decide) (fun c8 => ?_) (fun c8 => ?_)
        · have hF := hF.1 c8
          refine lv_iconst (v := 0) hx hb dX10_scoreOf_47 (by decide) ?_
          exact j48 τ6 p0 hp0 u1 u2 u4 ((0 : Int32)) u3 _ _ _ _ _ hF hP hN hS (lv_sub hl [0, 1, 2, 4] rfl) (fun t v3 v4 H locs ls hF hP hN hS hl => ih t v3 v4 _ _ _ hF hP hN hS hl hEX) hEX
        · have hF := hF.2 c8
          refine lv_aload_n hx hb dX10_scoreOf_32 rfl (lv_at hl 0 rfl) ?_
          obtain ⟨o9, eo9, hF⟩ := hF
          have ho9 : o9 < gN τ0 138 := tw_lt (hP.2.2.2 0 p0 38 o9 (by decide) (tw_lt hp0 (congrFun hN 0)) eo9) (congrFun hN 138).symm
          refine tw_get (v := .ref (ad 138 o9)) hx hb hts (by decide +kernel) hown hK hP (by decide) (tw_lt hp0 (congrFun hN 0)) rfl rfl 38 (by decide) (hts (.fieldLink RX10 74 "WineCellarModel" "termScore" "[I") (by decide +kernel)) (fun _ h9 => h9) (show some (va_rf ((gR τ6 0 p0 38).map (ad 138))) = some (.ref (ad 138 o9)) by rw [eo9]; rfl) dX10_scoreOf_33 ?_
          refine lv_bipush (v := 12) hx hb dX10_scoreOf_36 (by decide) ?_
          refine lv_iload_n hx hb dX10_scoreOf_38 rfl (lv_at hl 1 rfl) ?_
          refine lv_imul hx hb dX10_scoreOf_39 ?_
          refine lv_iload hx hb dX10_scoreOf_40 (lv_at hl 4 rfl) ?_
          refine lv_iadd hx hb dX10_scoreOf_42 ?_
          obtain ⟨hi10, hF⟩ := hF
          refine tw_iald hx hb hK hP (by decide) (tw_lt ho9 (congrFun hN 138)) rfl 0 rfl hi10 dX10_scoreOf_43 ?_
          refine lv_goto (tgt := 48) hx hb dX10_scoreOf_44 (by decide) ?_
          exact j48 τ6 p0 hp0 u1 u2 u4 (gI τ6 138 o9 ((((12 : Int32)) * u1) + u4).toNatClampNeg) u3 _ _ _ _ _ hF hP hN hS (lv_sub hl [0, 1, 2, 4] rfl) (fun t v3 v4 H locs ls hF hP hN hS hl => ih t v3 v4 _ _ _ hF hP hN hS hl hEX) hEX
  refine lv_iconst (v := 0) hx hb dX10_scoreOf_0 (by decide) ?_
  refine lv_istore_n (lv' := [(3, .int ((0 : Int32))), (0, .ref (ad 0 k0)), (1, .int x1), (2, .int x2)]) hx hb dX10_scoreOf_1 rfl hl (by decide) rfl (fun ls hl => ?_)
  refine lv_iconst (v := 0) hx hb dX10_scoreOf_2 (by decide) ?_
  refine lv_istore (lv' := [(4, .int ((0 : Int32))), (3, .int ((0 : Int32))), (0, .ref (ad 0 k0)), (1, .int x1), (2, .int x2)]) hx hb dX10_scoreOf_3 hl (by decide) rfl (fun ls hl => ?_)
  obtain ⟨n11, hF⟩ := hF
  refine l5 k0 hk0 x1 x2 _ n11 τ0 ((0 : Int32)) ((0 : Int32)) _ _ _ hF hP hN hS (lv_sub hl [2, 3, 4, 1, 0] rfl) ?_
  intro τ12 z13 z14 H locs ls hF hP hN hS hl
  refine lv_iload_n hx hb dX10_scoreOf_56 rfl (lv_at hl 3 rfl) ?_
  exact W.iret (v := z13) hx hb hr (fun t ht hW => ⟨⟨z13, τ12, rfl, ⟨hF, hN⟩, tw_at hP ht⟩, hS.F ht⟩) hS.2.2 dX10_scoreOf_57
def F_X10_isDish (τ0 : tw_T) (k0 : Nat) (x1 : Int32) (Q : Int32 → tw_T → Prop) : Prop := F_X10_within τ0 x1 ((0 : Int32)) ((gI τ0 0 k0 29) - ((1 : Int32))) (fun (r2 : Int32) (τ1 : tw_T) => (F_X10_may τ1 k0 r2 ((1 : Int32)) (fun (r4 : Int32) (τ3 : tw_T) => (tw_b r4 ∧ (Q r4 τ3)))))
def rmX10_isDish : Room := { frames := 1, cells := 0, slots := 0, locals := 22 }
set_option maxHeartbeats 4000000 in
set_option maxRecDepth 100000 in
theorem mX10_isDish (l : Launch) (dC : Nat → ClassId) (dI : Nat → Nat → Nat) (ac : Nat → ClassId) (sa : Nat → Nat) (A : Nat → Prop) (ad : Nat → Nat → Nat) (τ0 : tw_T) (k0 : Nat) (x1 : Int32) (Q : Int32 → tw_T → Prop) (hF : F_X10_isDish τ0 k0 x1 Q) (hk0 : k0 < gN τ0 0) : Met l yX10_isDish wsX10_isDish rmX10_isDish (va_Pc [.ref (ad 0 k0), .int x1] (BM dC dI ac sa A ad τ0)) (va_Qi (fun r (u : tw_T) => Q r u ∧ gN u = gN τ0) (fun u t => PM dC dI ac A ad u t.heap) A) 0 0 A := by
  refine Met.ofW (cc := cX10_isDish) (maxL := 2) (ret := (some .boolean)) (by decide) rfl ?_
  intro p e s m args below meth c s₁ B hml hv
  obtain ⟨rfl, hP, hK, hA, hZ⟩ := hv
  have hx := B.exec
  have hb := B.bytes
  have hr := B.returns
  have hts := atoms_spec (ws := wsX10_isDish) B.pre
  have hown : s.vm.findClass RX10 = some m.cls := findClass_of_methodNamed B.named
  have hlocks := B.notSynchronized
  have hS : va_S A s.heap s.heap [] := va_S.rf
  have hN : gN τ0 = gN τ0 := rfl
  have hl := lv_entry ([.ref (ad 0 k0), .int x1]) (n := 2) (Nat.le_of_ble_eq_true rfl)
  rw [lg_entry_eq]
  generalize (lg_sl ([.ref (ad 0 k0), .int x1]) ++ List.replicate (2 - (lg_sl ([.ref (ad 0 k0), .int x1])).length) Slot.unset).toArray = ls at hl ⊢
  have hl : lv_has ls 2 [(0, .ref (ad 0 k0)), (1, .int x1)] := hl
  unfold F_X10_isDish at hF
  refine lv_aload_n hx hb dX10_isDish_0 rfl (lv_at hl 0 rfl) ?_
  refine lv_iload_n hx hb dX10_isDish_1 rfl (lv_at hl 1 rfl) ?_
  refine lv_iconst (v := 0) hx hb dX10_isDish_2 (by decide) ?_
  refine lv_aload_n hx hb dX10_isDish_3 rfl (lv_at hl 0 rfl) ?_
  refine tw_get (v := .int (gI τ0 0 k0 29)) hx hb hts (by decide +kernel) hown hK hP (by decide) hk0 rfl rfl 29 (by decide) (hts (.fieldLink RX10 224 "WineCellarModel" "dishes" "I") (by decide +kernel)) (fun _ h9 => h9) rfl dX10_isDish_4 ?_
  refine lv_iconst (v := 1) hx hb dX10_isDish_7 (by decide) ?_
  refine lv_isub hx hb dX10_isDish_8 ?_
  refine va_calli (va_runS (As := [.int x1, .int ((0 : Int32)), .int ((gI τ0 0 k0 29) - ((1 : Int32)))]) (rest := [.ref (ad 0 k0)]) ⟨hx, hb, hml, hown, hts⟩ (mX10_within l dC dI ac sa A ad τ0 x1 ((0 : Int32)) ((gI τ0 0 k0 29) - ((1 : Int32))) _ hF ) (va_cwS 3 hts gX10_isDish_X10_within rfl rfl rfl (by decide +kernel) ⟨Nat.le_of_ble_eq_true rfl, Nat.le_of_ble_eq_true rfl⟩) ⟨BM.blind, fun U hU hW => ⟨rfl, BM.of hP hK hS hA hZ hU hW⟩⟩ rfl rfl hl.1 rfl (lv_room (Nat.le_of_ble_eq_true rfl)) dX10_isDish_9 ⟨Nat.le_of_ble_eq_true rfl, Nat.le_of_ble_eq_true rfl⟩) hS (fun q _ h => h) (fun q h => h) (fun r2 τ1 t H locs ht hvm hw hB hz hk hS => ?_)
  obtain ⟨hF, hN9⟩ := hw
  have hP : PM dC dI ac A ad τ1 H := tw_back hB ht
  have hN : gN τ1 = gN τ0 := hN9.trans hN
  refine lv_iconst (v := 1) hx hb dX10_isDish_12 (by decide) ?_
  refine va_calli (va_runV (As := [.int r2, .int ((1 : Int32))]) (rest := []) ⟨hx, hb, hml, hown, hts⟩ (mX10_may l dC dI ac sa A ad τ1 k0 r2 ((1 : Int32)) _ hF (tw_lt hk0 (congrFun hN 0))) (cwV 2 hts gX10_isDish_X10_may rfl rfl rfl (by decide +kernel) ⟨Nat.le_of_ble_eq_true rfl, Nat.le_of_ble_eq_true rfl⟩) ⟨BM.blind, tw_recv hK hP (by decide) (tw_lt hk0 (congrFun hN 0)) rfl rfl, fun U hU hW => ⟨rfl, BM.of hP hK hS hA hZ hU hW⟩⟩ rfl rfl hl.1 rfl (lv_room (Nat.le_of_ble_eq_true rfl)) dX10_isDish_13 ⟨Nat.le_of_ble_eq_true rfl, Nat.le_of_ble_eq_true rfl⟩) hS (fun q _ h => h) (fun q h => h) (fun r4 τ3 t H locs ht hvm hw hB hz hk hS => ?_)
  obtain ⟨hF, hN9⟩ := hw
  have hP : PM dC dI ac A ad τ3 H := tw_back hB ht
  have hN : gN τ3 = gN τ0 := hN9.trans hN
  obtain ⟨hb9, hF⟩ := hF
  exact W.zret (v := r4) (ty := .boolean) hx hb hr (tw_bn hb9) (fun t ht hW => ⟨⟨r4, τ3, rfl, ⟨hF, hN⟩, tw_at hP ht⟩, hS.F ht⟩) hS.2.2 dX10_isDish_16
def F_X10_score (τ0 : tw_T) (k0 : Nat) (x1 : Int32) (x2 : Int32) (Q : Int32 → tw_T → Prop) : Prop := ∀ τ1 : tw_T, τ1 = sI τ0 0 k0 0 ((0 : Int32)) → (F_X10_isDish τ1 k0 x1 (fun (r3 : Int32) (τ2 : tw_T) => (((r3 = 0 → (Q ((0 : Int32)) τ2)) ∧ (¬ r3 = 0 → (F_X10_isLot τ2 k0 x2 ((2 : Int32)) (fun (r6 : Int32) (τ5 : tw_T) => (((r6 = 0 → (Q ((0 : Int32)) τ5)) ∧ (¬ r6 = 0 → (F_X10_scoreOf τ5 k0 x1 x2 (fun (r9 : Int32) (τ8 : tw_T) => (Q r9 τ8)))))))))))))
def rmX10_score : Room := { frames := 3, cells := 0, slots := 0, locals := 73 }
set_option maxHeartbeats 4000000 in
set_option maxRecDepth 100000 in
theorem mX10_score (l : Launch) (dC : Nat → ClassId) (dI : Nat → Nat → Nat) (ac : Nat → ClassId) (sa : Nat → Nat) (A : Nat → Prop) (ad : Nat → Nat → Nat) (τ0 : tw_T) (k0 : Nat) (x1 : Int32) (x2 : Int32) (Q : Int32 → tw_T → Prop) (hF : F_X10_score τ0 k0 x1 x2 Q) (hk0 : k0 < gN τ0 0) : Met l yX10_score wsX10_score rmX10_score (va_Pc [.ref (ad 0 k0), .int x1, .int x2] (BM dC dI ac sa A ad τ0)) (va_Qi (fun r (u : tw_T) => Q r u ∧ gN u = gN τ0) (fun u t => PM dC dI ac A ad u t.heap) A) 0 0 A := by
  refine Met.ofW (cc := cX10_score) (maxL := 3) (ret := (some .int)) (by decide) rfl ?_
  intro p e s m args below meth c s₁ B hml hv
  obtain ⟨rfl, hP, hK, hA, hZ⟩ := hv
  have hx := B.exec
  have hb := B.bytes
  have hr := B.returns
  have hts := atoms_spec (ws := wsX10_score) B.pre
  have hown : s.vm.findClass RX10 = some m.cls := findClass_of_methodNamed B.named
  have hlocks := B.notSynchronized
  have hS : va_S A s.heap s.heap [] := va_S.rf
  have hN : gN τ0 = gN τ0 := rfl
  have hl := lv_entry ([.ref (ad 0 k0), .int x1, .int x2]) (n := 3) (Nat.le_of_ble_eq_true rfl)
  rw [lg_entry_eq]
  generalize (lg_sl ([.ref (ad 0 k0), .int x1, .int x2]) ++ List.replicate (3 - (lg_sl ([.ref (ad 0 k0), .int x1, .int x2])).length) Slot.unset).toArray = ls at hl ⊢
  have hl : lv_has ls 3 [(0, .ref (ad 0 k0)), (1, .int x1), (2, .int x2)] := hl
  unfold F_X10_score at hF
  refine lv_aload_n hx hb dX10_score_0 rfl (lv_at hl 0 rfl) ?_
  refine lv_iconst (v := 0) hx hb dX10_score_1 (by decide) ?_
  refine tw_put (τ' := sI τ0 0 k0 0 ((0 : Int32))) (ty := .int) hx hb hts (by decide +kernel) tyX10 tyX10_ok nmX10 hown hK hP hS (by decide) hk0 rfl rfl 0 (by decide) (hts (.fieldLink RX10 1 "WineCellarModel" "thrown" "I") (by decide +kernel)) (fun _ h9 => h9) rfl (by decide +kernel) rfl rfl (Nat.le_of_ble_eq_true rfl) dX10_score_2 (fun H1 ha ho => tw_updI hP (by decide) hk0 ha ho) (fun H locs hP hS => ?_)
  obtain ⟨τ1, eτ1⟩ : ∃ y : tw_T, y = sI τ0 0 k0 0 ((0 : Int32)) := ⟨_, rfl⟩
  have hF := hF τ1 eτ1
  rw [← eτ1] at hP
  have hN : gN τ1 = gN τ0 := by rw [eτ1]; exact hN
  refine lv_aload_n hx hb dX10_score_5 rfl (lv_at hl 0 rfl) ?_
  refine lv_iload_n hx hb dX10_score_6 rfl (lv_at hl 1 rfl) ?_
  refine va_calli (va_runV (As := [.int x1]) (rest := []) ⟨hx, hb, hml, hown, hts⟩ (mX10_isDish l dC dI ac sa A ad τ1 k0 x1 _ hF (tw_lt hk0 (congrFun hN 0))) (cwV 1 hts gX10_score_X10_isDish rfl rfl rfl (by decide +kernel) ⟨Nat.le_of_ble_eq_true rfl, Nat.le_of_ble_eq_true rfl⟩) ⟨BM.blind, tw_recv hK hP (by decide) (tw_lt hk0 (congrFun hN 0)) rfl rfl, fun U hU hW => ⟨rfl, BM.of hP hK hS hA hZ hU hW⟩⟩ rfl rfl hl.1 rfl (lv_room (Nat.le_of_ble_eq_true rfl)) dX10_score_7 ⟨Nat.le_of_ble_eq_true rfl, Nat.le_of_ble_eq_true rfl⟩) hS (fun q _ h => h) (fun q h => h) (fun r3 τ2 t H locs ht hvm hw hB hz hk hS => ?_)
  obtain ⟨hF, hN9⟩ := hw
  have hP : PM dC dI ac A ad τ2 H := tw_back hB ht
  have hN : gN τ2 = gN τ0 := hN9.trans hN
  refine lv_if_eq (tgt := 31) hx hb dX10_score_10 (by decide) (fun c4 => ?_) (fun c4 => ?_)
  · have hF := hF.1 c4
    refine lv_iconst (v := 0) hx hb dX10_score_31 (by decide) ?_
    exact W.iret (v := (0 : Int32)) hx hb hr (fun t ht hW => ⟨⟨((0 : Int32)), τ2, rfl, ⟨hF, hN⟩, tw_at hP ht⟩, hS.F ht⟩) hS.2.2 dX10_score_32
  · have hF := hF.2 c4
    refine lv_aload_n hx hb dX10_score_13 rfl (lv_at hl 0 rfl) ?_
    refine lv_iload_n hx hb dX10_score_14 rfl (lv_at hl 2 rfl) ?_
    refine lv_iconst (v := 2) hx hb dX10_score_15 (by decide) ?_
    refine va_calli (va_runV (As := [.int x2, .int ((2 : Int32))]) (rest := []) ⟨hx, hb, hml, hown, hts⟩ (mX10_isLot l dC dI ac sa A ad τ2 k0 x2 ((2 : Int32)) _ hF (tw_lt hk0 (congrFun hN 0))) (cwV 2 hts gX10_score_X10_isLot rfl rfl rfl (by decide +kernel) ⟨Nat.le_of_ble_eq_true rfl, Nat.le_of_ble_eq_true rfl⟩) ⟨BM.blind, tw_recv hK hP (by decide) (tw_lt hk0 (congrFun hN 0)) rfl rfl, fun U hU hW => ⟨rfl, BM.of hP hK hS hA hZ hU hW⟩⟩ rfl rfl hl.1 rfl (lv_room (Nat.le_of_ble_eq_true rfl)) dX10_score_16 ⟨Nat.le_of_ble_eq_true rfl, Nat.le_of_ble_eq_true rfl⟩) hS (fun q _ h => h) (fun q h => h) (fun r6 τ5 t H locs ht hvm hw hB hz hk hS => ?_)
    obtain ⟨hF, hN9⟩ := hw
    have hP : PM dC dI ac A ad τ5 H := tw_back hB ht
    have hN : gN τ5 = gN τ0 := hN9.trans hN
    refine lv_if_eq (tgt := 31) hx hb dX10_score_19 (by decide) (fun c7 => ?_) (fun c7 => ?_)
    · have hF := hF.1 c7
      refine lv_iconst (v := 0) hx hb dX10_score_31 (by decide) ?_
      exact W.iret (v := (0 : Int32)) hx hb hr (fun t ht hW => ⟨⟨((0 : Int32)), τ5, rfl, ⟨hF, hN⟩, tw_at hP ht⟩, hS.F ht⟩) hS.2.2 dX10_score_32
    · have hF := hF.2 c7
      refine lv_aload_n hx hb dX10_score_22 rfl (lv_at hl 0 rfl) ?_
      refine lv_iload_n hx hb dX10_score_23 rfl (lv_at hl 1 rfl) ?_
      refine lv_iload_n hx hb dX10_score_24 rfl (lv_at hl 2 rfl) ?_
      refine va_calli (va_runV (As := [.int x1, .int x2]) (rest := []) ⟨hx, hb, hml, hown, hts⟩ (mX10_scoreOf l dC dI ac sa A ad τ5 k0 x1 x2 _ hF (tw_lt hk0 (congrFun hN 0))) (cwV 2 hts gX10_score_X10_scoreOf rfl rfl rfl (by decide +kernel) ⟨Nat.le_of_ble_eq_true rfl, Nat.le_of_ble_eq_true rfl⟩) ⟨BM.blind, tw_recv hK hP (by decide) (tw_lt hk0 (congrFun hN 0)) rfl rfl, fun U hU hW => ⟨rfl, BM.of hP hK hS hA hZ hU hW⟩⟩ rfl rfl hl.1 rfl (lv_room (Nat.le_of_ble_eq_true rfl)) dX10_score_25 ⟨Nat.le_of_ble_eq_true rfl, Nat.le_of_ble_eq_true rfl⟩) hS (fun q _ h => h) (fun q h => h) (fun r9 τ8 t H locs ht hvm hw hB hz hk hS => ?_)
      obtain ⟨hF, hN9⟩ := hw
      have hP : PM dC dI ac A ad τ8 H := tw_back hB ht
      have hN : gN τ8 = gN τ0 := hN9.trans hN
      refine lv_goto (tgt := 32) hx hb dX10_score_28 (by decide) ?_
      exact W.iret (v := r9) hx hb hr (fun t ht hW => ⟨⟨r9, τ8, rfl, ⟨hF, hN⟩, tw_at hP ht⟩, hS.F ht⟩) hS.2.2 dX10_score_32
def F_X10_matches (τ0 : tw_T) (k0 : Nat) (x1 : Int32) (Q : Int32 → tw_T → Prop) : Prop := F_X10_bottlesOf τ0 k0 x1 (fun (r2 : Int32) (τ1 : tw_T) => (((r2 ≤ 0 → (Q ((0 : Int32)) τ1)) ∧ (¬ r2 ≤ 0 → (F_X10_year τ1 k0 (fun (r5 : Int32) (τ4 : tw_T) => (∃ o6 : Nat, gR τ4 0 k0 13 = some o6 ∧ (vp_in x1 60 ∧ (((r5 < (gI τ4 113 o6 x1.toNatClampNeg) → (Q ((0 : Int32)) τ4)) ∧ (¬ r5 < (gI τ4 113 o6 x1.toNatClampNeg) → (F_X10_year τ4 k0 (fun (r10 : Int32) (τ9 : tw_T) => (∃ o11 : Nat, gR τ9 0 k0 14 = some o11 ∧ (vp_in x1 60 ∧ ((((gI τ9 114 o11 x1.toNatClampNeg) < r10 → (Q ((0 : Int32)) τ9)) ∧ (¬ (gI τ9 114 o11 x1.toNatClampNeg) < r10 → (Q ((1 : Int32)) τ9)))))))))))))))))))
def rmX10_matches : Room := { frames := 1, cells := 0, slots := 0, locals := 23 }
set_option maxHeartbeats 4000000 in
set_option maxRecDepth 100000 in
theorem mX10_matches (l : Launch) (dC : Nat → ClassId) (dI : Nat → Nat → Nat) (ac : Nat → ClassId) (sa : Nat → Nat) (A : Nat → Prop) (ad : Nat → Nat → Nat) (τ0 : tw_T) (k0 : Nat) (x1 : Int32) (Q : Int32 → tw_T → Prop) (hF : F_X10_matches τ0 k0 x1 Q) (hk0 : k0 < gN τ0 0) : Met l yX10_matches wsX10_matches rmX10_matches (va_Pc [.ref (ad 0 k0), .int x1] (BM dC dI ac sa A ad τ0)) (va_Qi (fun r (u : tw_T) => Q r u ∧ gN u = gN τ0) (fun u t => PM dC dI ac A ad u t.heap) A) 0 0 A := by
  refine Met.ofW (cc := cX10_matches) (maxL := 2) (ret := (some .boolean)) (by decide) rfl ?_
  intro p e s m args below meth c s₁ B hml hv
  obtain ⟨rfl, hP, hK, hA, hZ⟩ := hv
  have hx := B.exec
  have hb := B.bytes
  have hr := B.returns
  have hts := atoms_spec (ws := wsX10_matches) B.pre
  have hown : s.vm.findClass RX10 = some m.cls := findClass_of_methodNamed B.named
  have hlocks := B.notSynchronized
  have hS : va_S A s.heap s.heap [] := va_S.rf
  have hN : gN τ0 = gN τ0 := rfl
  have hl := lv_entry ([.ref (ad 0 k0), .int x1]) (n := 2) (Nat.le_of_ble_eq_true rfl)
  rw [lg_entry_eq]
  generalize (lg_sl ([.ref (ad 0 k0), .int x1]) ++ List.replicate (2 - (lg_sl ([.ref (ad 0 k0), .int x1])).length) Slot.unset).toArray = ls at hl ⊢
  have hl : lv_has ls 2 [(0, .ref (ad 0 k0)), (1, .int x1)] := hl
  unfold F_X10_matches at hF
  refine lv_aload_n hx hb dX10_matches_0 rfl (lv_at hl 0 rfl) ?_
  refine lv_iload_n hx hb dX10_matches_1 rfl (lv_at hl 1 rfl) ?_
  refine va_calli (va_runV (As := [.int x1]) (rest := []) ⟨hx, hb, hml, hown, hts⟩ (mX10_bottlesOf l dC dI ac sa A ad τ0 k0 x1 _ hF hk0) (cwV 1 hts gX10_matches_X10_bottlesOf rfl rfl rfl (by decide +kernel) ⟨Nat.le_of_ble_eq_true rfl, Nat.le_of_ble_eq_true rfl⟩) ⟨BM.blind, tw_recv hK hP (by decide) hk0 rfl rfl, fun U hU hW => ⟨rfl, BM.of hP hK hS hA hZ hU hW⟩⟩ rfl rfl hl.1 rfl (lv_room (Nat.le_of_ble_eq_true rfl)) dX10_matches_2 ⟨Nat.le_of_ble_eq_true rfl, Nat.le_of_ble_eq_true rfl⟩) hS (fun q _ h => h) (fun q h => h) (fun r2 τ1 t H locs ht hvm hw hB hz hk hS => ?_)
  obtain ⟨hF, hN9⟩ := hw
  have hP : PM dC dI ac A ad τ1 H := tw_back hB ht
  have hN : gN τ1 = gN τ0 := hN9.trans hN
  refine lv_if_le (tgt := 38) hx hb dX10_matches_5 (by decide) (fun c3 => ?_) (fun c3 => ?_)
  · have hF := hF.1 c3
    refine lv_iconst (v := 0) hx hb dX10_matches_38 (by decide) ?_
    exact W.zret (v := (0 : Int32)) (ty := .boolean) hx hb hr rfl (fun t ht hW => ⟨⟨((0 : Int32)), τ1, rfl, ⟨hF, hN⟩, tw_at hP ht⟩, hS.F ht⟩) hS.2.2 dX10_matches_39
  · have hF := hF.2 c3
    refine lv_aload_n hx hb dX10_matches_8 rfl (lv_at hl 0 rfl) ?_
    refine va_calli (va_runV (As := []) (rest := []) ⟨hx, hb, hml, hown, hts⟩ (mX10_year l dC dI ac sa A ad τ1 k0 _ hF (tw_lt hk0 (congrFun hN 0))) (cwV 0 hts gX10_matches_X10_year rfl rfl rfl (by decide +kernel) ⟨Nat.le_of_ble_eq_true rfl, Nat.le_of_ble_eq_true rfl⟩) ⟨BM.blind, tw_recv hK hP (by decide) (tw_lt hk0 (congrFun hN 0)) rfl rfl, fun U hU hW => ⟨rfl, BM.of hP hK hS hA hZ hU hW⟩⟩ rfl rfl hl.1 rfl (lv_room (Nat.le_of_ble_eq_true rfl)) dX10_matches_9 ⟨Nat.le_of_ble_eq_true rfl, Nat.le_of_ble_eq_true rfl⟩) hS (fun q _ h => h) (fun q h => h) (fun r5 τ4 t H locs ht hvm hw hB hz hk hS => ?_)
    obtain ⟨hF, hN9⟩ := hw
    have hP : PM dC dI ac A ad τ4 H := tw_back hB ht
    have hN : gN τ4 = gN τ0 := hN9.trans hN
    refine lv_aload_n hx hb dX10_matches_12 rfl (lv_at hl 0 rfl) ?_
    obtain ⟨o6, eo6, hF⟩ := hF
    have ho6 : o6 < gN τ0 113 := tw_lt (hP.2.2.2 0 k0 13 o6 (by decide) (tw_lt hk0 (congrFun hN 0)) eo6) (congrFun hN 113).symm
    refine tw_get (v := .ref (ad 113 o6)) hx hb hts (by decide +kernel) hown hK hP (by decide) (tw_lt hk0 (congrFun hN 0)) rfl rfl 13 (by decide) (hts (.fieldLink RX10 38 "WineCellarModel" "from" "[I") (by decide +kernel)) (fun _ h9 => h9) (show some (va_rf ((gR τ4 0 k0 13).map (ad 113))) = some (.ref (ad 113 o6)) by rw [eo6]; rfl) dX10_matches_13 ?_
    refine lv_iload_n hx hb dX10_matches_16 rfl (lv_at hl 1 rfl) ?_
    obtain ⟨hi7, hF⟩ := hF
    refine tw_iald hx hb hK hP (by decide) (tw_lt ho6 (congrFun hN 113)) rfl 0 rfl hi7 dX10_matches_17 ?_
    refine lv_icmp_lt (tgt := 38) hx hb dX10_matches_18 (by decide) (fun c8 => ?_) (fun c8 => ?_)
    · have hF := hF.1 c8
      refine lv_iconst (v := 0) hx hb dX10_matches_38 (by decide) ?_
      exact W.zret (v := (0 : Int32)) (ty := .boolean) hx hb hr rfl (fun t ht hW => ⟨⟨((0 : Int32)), τ4, rfl, ⟨hF, hN⟩, tw_at hP ht⟩, hS.F ht⟩) hS.2.2 dX10_matches_39
    · have hF := hF.2 c8
      refine lv_aload_n hx hb dX10_matches_21 rfl (lv_at hl 0 rfl) ?_
      refine va_calli (va_runV (As := []) (rest := []) ⟨hx, hb, hml, hown, hts⟩ (mX10_year l dC dI ac sa A ad τ4 k0 _ hF (tw_lt hk0 (congrFun hN 0))) (cwV 0 hts gX10_matches_X10_year rfl rfl rfl (by decide +kernel) ⟨Nat.le_of_ble_eq_true rfl, Nat.le_of_ble_eq_true rfl⟩) ⟨BM.blind, tw_recv hK hP (by decide) (tw_lt hk0 (congrFun hN 0)) rfl rfl, fun U hU hW => ⟨rfl, BM.of hP hK hS hA hZ hU hW⟩⟩ rfl rfl hl.1 rfl (lv_room (Nat.le_of_ble_eq_true rfl)) dX10_matches_22 ⟨Nat.le_of_ble_eq_true rfl, Nat.le_of_ble_eq_true rfl⟩) hS (fun q _ h => h) (fun q h => h) (fun r10 τ9 t H locs ht hvm hw hB hz hk hS => ?_)
      obtain ⟨hF, hN9⟩ := hw
      have hP : PM dC dI ac A ad τ9 H := tw_back hB ht
      have hN : gN τ9 = gN τ0 := hN9.trans hN
      refine lv_aload_n hx hb dX10_matches_25 rfl (lv_at hl 0 rfl) ?_
      obtain ⟨o11, eo11, hF⟩ := hF
      have ho11 : o11 < gN τ0 114 := tw_lt (hP.2.2.2 0 k0 14 o11 (by decide) (tw_lt hk0 (congrFun hN 0)) eo11) (congrFun hN 114).symm
      refine tw_get (v := .ref (ad 114 o11)) hx hb hts (by decide +kernel) hown hK hP (by decide) (tw_lt hk0 (congrFun hN 0)) rfl rfl 14 (by decide) (hts (.fieldLink RX10 41 "WineCellarModel" "until" "[I") (by decide +kernel)) (fun _ h9 => h9) (show some (va_rf ((gR τ9 0 k0 14).map (ad 114))) = some (.ref (ad 114 o11)) by rw [eo11]; rfl) dX10_matches_26 ?_
      refine lv_iload_n hx hb dX10_matches_29 rfl (lv_at hl 1 rfl) ?_
      obtain ⟨hi12, hF⟩ := hF
      refine tw_iald hx hb hK hP (by decide) (tw_lt ho11 (congrFun hN 114)) rfl 0 rfl hi12 dX10_matches_30 ?_
      refine lv_icmp_gt (tgt := 38) hx hb dX10_matches_31 (by decide) (fun c13 => ?_) (fun c13 => ?_)
      · have hF := hF.1 c13
        refine lv_iconst (v := 0) hx hb dX10_matches_38 (by decide) ?_
        exact W.zret (v := (0 : Int32)) (ty := .boolean) hx hb hr rfl (fun t ht hW => ⟨⟨((0 : Int32)), τ9, rfl, ⟨hF, hN⟩, tw_at hP ht⟩, hS.F ht⟩) hS.2.2 dX10_matches_39
      · have hF := hF.2 c13
        refine lv_iconst (v := 1) hx hb dX10_matches_34 (by decide) ?_
        refine lv_goto (tgt := 39) hx hb dX10_matches_35 (by decide) ?_
        exact W.zret (v := (1 : Int32)) (ty := .boolean) hx hb hr rfl (fun t ht hW => ⟨⟨((1 : Int32)), τ9, rfl, ⟨hF, hN⟩, tw_at hP ht⟩, hS.F ht⟩) hS.2.2 dX10_matches_39
def F_X10_isAhead (τ0 : tw_T) (k0 : Nat) (x1 : Int32) (x2 : Int32) (x3 : Int32) (Q : Int32 → tw_T → Prop) : Prop := F_X10_scoreOf τ0 k0 x1 x2 (fun (r2 : Int32) (τ1 : tw_T) => (F_X10_scoreOf τ1 k0 x1 x3 (fun (r4 : Int32) (τ3 : tw_T) => (∀ z5 : Int32, z5 = r2 - r4 → (((z5 = 0 → (F_X10_year τ3 k0 (fun (r8 : Int32) (τ7 : tw_T) => (F_X10_worthOf τ7 k0 x2 r8 (fun (r10 : Int32) (τ9 : tw_T) => (F_X10_year τ9 k0 (fun (r12 : Int32) (τ11 : tw_T) => (F_X10_worthOf τ11 k0 x3 r12 (fun (r14 : Int32) (τ13 : tw_T) => (∀ z15 : Int32, z15 = r10 - r14 → (((z15 = 0 → (((x3 ≤ x2 → (Q ((0 : Int32)) τ13)) ∧ (¬ x3 ≤ x2 → (Q ((1 : Int32)) τ13))))) ∧ (¬ z15 = 0 → (((0 ≤ z15 → (Q ((0 : Int32)) τ13)) ∧ (¬ 0 ≤ z15 → (Q ((1 : Int32)) τ13))))))))))))))))) ∧ (¬ z5 = 0 → (((z5 ≤ 0 → (Q ((0 : Int32)) τ3)) ∧ (¬ z5 ≤ 0 → (Q ((1 : Int32)) τ3)))))))))))
def rmX10_isAhead : Room := { frames := 3, cells := 0, slots := 0, locals := 73 }
set_option maxHeartbeats 4000000 in
set_option maxRecDepth 100000 in
theorem mX10_isAhead (l : Launch) (dC : Nat → ClassId) (dI : Nat → Nat → Nat) (ac : Nat → ClassId) (sa : Nat → Nat) (A : Nat → Prop) (ad : Nat → Nat → Nat) (τ0 : tw_T) (k0 : Nat) (x1 : Int32) (x2 : Int32) (x3 : Int32) (Q : Int32 → tw_T → Prop) (hF : F_X10_isAhead τ0 k0 x1 x2 x3 Q) (hk0 : k0 < gN τ0 0) : Met l yX10_isAhead wsX10_isAhead rmX10_isAhead (va_Pc [.ref (ad 0 k0), .int x1, .int x2, .int x3] (BM dC dI ac sa A ad τ0)) (va_Qi (fun r (u : tw_T) => Q r u ∧ gN u = gN τ0) (fun u t => PM dC dI ac A ad u t.heap) A) 0 0 A := by
  refine Met.ofW (cc := cX10_isAhead) (maxL := 5) (ret := (some .boolean)) (by decide) rfl ?_
  intro p e s m args below meth c s₁ B hml hv
  obtain ⟨rfl, hP, hK, hA, hZ⟩ := hv
  have hx := B.exec
  have hb := B.bytes
  have hr := B.returns
  have hts := atoms_spec (ws := wsX10_isAhead) B.pre
  have hown : s.vm.findClass RX10 = some m.cls := findClass_of_methodNamed B.named
  have hlocks := B.notSynchronized
  have hS : va_S A s.heap s.heap [] := va_S.rf
  have hN : gN τ0 = gN τ0 := rfl
  have hl := lv_entry ([.ref (ad 0 k0), .int x1, .int x2, .int x3]) (n := 5) (Nat.le_of_ble_eq_true rfl)
  rw [lg_entry_eq]
  generalize (lg_sl ([.ref (ad 0 k0), .int x1, .int x2, .int x3]) ++ List.replicate (5 - (lg_sl ([.ref (ad 0 k0), .int x1, .int x2, .int x3])).length) Slot.unset).toArray = ls at hl ⊢
  have hl : lv_has ls 5 [(0, .ref (ad 0 k0)), (1, .int x1), (2, .int x2), (3, .int x3)] := hl
  unfold F_X10_isAhead at hF
  refine lv_aload_n hx hb dX10_isAhead_0 rfl (lv_at hl 0 rfl) ?_
  refine lv_iload_n hx hb dX10_isAhead_1 rfl (lv_at hl 1 rfl) ?_
  refine lv_iload_n hx hb dX10_isAhead_2 rfl (lv_at hl 2 rfl) ?_
  refine va_calli (va_runV (As := [.int x1, .int x2]) (rest := []) ⟨hx, hb, hml, hown, hts⟩ (mX10_scoreOf l dC dI ac sa A ad τ0 k0 x1 x2 _ hF hk0) (cwV 2 hts gX10_isAhead_X10_scoreOf rfl rfl rfl (by decide +kernel) ⟨Nat.le_of_ble_eq_true rfl, Nat.le_of_ble_eq_true rfl⟩) ⟨BM.blind, tw_recv hK hP (by decide) hk0 rfl rfl, fun U hU hW => ⟨rfl, BM.of hP hK hS hA hZ hU hW⟩⟩ rfl rfl hl.1 rfl (lv_room (Nat.le_of_ble_eq_true rfl)) dX10_isAhead_3 ⟨Nat.le_of_ble_eq_true rfl, Nat.le_of_ble_eq_true rfl⟩) hS (fun q _ h => h) (fun q h => h) (fun r2 τ1 t H locs ht hvm hw hB hz hk hS => ?_)
  obtain ⟨hF, hN9⟩ := hw
  have hP : PM dC dI ac A ad τ1 H := tw_back hB ht
  have hN : gN τ1 = gN τ0 := hN9.trans hN
  refine lv_aload_n hx hb dX10_isAhead_6 rfl (lv_at hl 0 rfl) ?_
  refine lv_iload_n hx hb dX10_isAhead_7 rfl (lv_at hl 1 rfl) ?_
  refine lv_iload_n hx hb dX10_isAhead_8 rfl (lv_at hl 3 rfl) ?_
  refine va_calli (va_runV (As := [.int x1, .int x3]) (rest := [.int r2]) ⟨hx, hb, hml, hown, hts⟩ (mX10_scoreOf l dC dI ac sa A ad τ1 k0 x1 x3 _ hF (tw_lt hk0 (congrFun hN 0))) (cwV 2 hts gX10_isAhead_X10_scoreOf rfl rfl rfl (by decide +kernel) ⟨Nat.le_of_ble_eq_true rfl, Nat.le_of_ble_eq_true rfl⟩) ⟨BM.blind, tw_recv hK hP (by decide) (tw_lt hk0 (congrFun hN 0)) rfl rfl, fun U hU hW => ⟨rfl, BM.of hP hK hS hA hZ hU hW⟩⟩ rfl rfl hl.1 rfl (lv_room (Nat.le_of_ble_eq_true rfl)) dX10_isAhead_9 ⟨Nat.le_of_ble_eq_true rfl, Nat.le_of_ble_eq_true rfl⟩) hS (fun q _ h => h) (fun q h => h) (fun r4 τ3 t H locs ht hvm hw hB hz hk hS => ?_)
  obtain ⟨hF, hN9⟩ := hw
  have hP : PM dC dI ac A ad τ3 H := tw_back hB ht
  have hN : gN τ3 = gN τ0 := hN9.trans hN
  refine lv_isub hx hb dX10_isAhead_12 ?_
  refine lv_topi (fun z5 ez5 => ?_)
  have hF := hF z5 ez5
  refine lv_istore (lv' := [(4, .int z5), (0, .ref (ad 0 k0)), (1, .int x1), (2, .int x2), (3, .int x3)]) hx hb dX10_isAhead_13 hl (by decide) rfl (fun ls hl => ?_)
  refine lv_iload hx hb dX10_isAhead_15 (lv_at hl 0 rfl) ?_
  refine lv_if_eq (tgt := 31) hx hb dX10_isAhead_17 (by decide) (fun c6 => ?_) (fun c6 => ?_)
  · have hF := hF.1 c6
    refine lv_aload_n hx hb dX10_isAhead_31 rfl (lv_at hl 1 rfl) ?_
    refine lv_iload_n hx hb dX10_isAhead_32 rfl (lv_at hl 3 rfl) ?_
    refine lv_aload_n hx hb dX10_isAhead_33 rfl (lv_at hl 1 rfl) ?_
    refine va_calli (va_runV (As := []) (rest := [.int x2, .ref (ad 0 k0)]) ⟨hx, hb, hml, hown, hts⟩ (mX10_year l dC dI ac sa A ad τ3 k0 _ hF (tw_lt hk0 (congrFun hN 0))) (cwV 0 hts gX10_isAhead_X10_year rfl rfl rfl (by decide +kernel) ⟨Nat.le_of_ble_eq_true rfl, Nat.le_of_ble_eq_true rfl⟩) ⟨BM.blind, tw_recv hK hP (by decide) (tw_lt hk0 (congrFun hN 0)) rfl rfl, fun U hU hW => ⟨rfl, BM.of hP hK hS hA hZ hU hW⟩⟩ rfl rfl hl.1 rfl (lv_room (Nat.le_of_ble_eq_true rfl)) dX10_isAhead_34 ⟨Nat.le_of_ble_eq_true rfl, Nat.le_of_ble_eq_true rfl⟩) hS (fun q _ h => h) (fun q h => h) (fun r8 τ7 t H locs ht hvm hw hB hz hk hS => ?_)
    obtain ⟨hF, hN9⟩ := hw
    have hP : PM dC dI ac A ad τ7 H := tw_back hB ht
    have hN : gN τ7 = gN τ0 := hN9.trans hN
    refine va_calli (va_runV (As := [.int x2, .int r8]) (rest := []) ⟨hx, hb, hml, hown, hts⟩ (mX10_worthOf l dC dI ac sa A ad τ7 k0 x2 r8 _ hF (tw_lt hk0 (congrFun hN 0))) (cwV 2 hts gX10_isAhead_X10_worthOf rfl rfl rfl (by decide +kernel) ⟨Nat.le_of_ble_eq_true rfl, Nat.le_of_ble_eq_true rfl⟩) ⟨BM.blind, tw_recv hK hP (by decide) (tw_lt hk0 (congrFun hN 0)) rfl rfl, fun U hU hW => ⟨rfl, BM.of hP hK hS hA hZ hU hW⟩⟩ rfl rfl hl.1 rfl (lv_room (Nat.le_of_ble_eq_true rfl)) dX10_isAhead_37 ⟨Nat.le_of_ble_eq_true rfl, Nat.le_of_ble_eq_true rfl⟩) hS (fun q _ h => h) (fun q h => h) (fun r10 τ9 t H locs ht hvm hw hB hz hk hS => ?_)
    obtain ⟨hF, hN9⟩ := hw
    have hP : PM dC dI ac A ad τ9 H := tw_back hB ht
    have hN : gN τ9 = gN τ0 := hN9.trans hN
    refine lv_aload_n hx hb dX10_isAhead_40 rfl (lv_at hl 1 rfl) ?_
    refine lv_iload_n hx hb dX10_isAhead_41 rfl (lv_at hl 4 rfl) ?_
    refine lv_aload_n hx hb dX10_isAhead_42 rfl (lv_at hl 1 rfl) ?_
    refine va_calli (va_runV (As := []) (rest := [.int x3, .ref (ad 0 k0), .int r10]) ⟨hx, hb, hml, hown, hts⟩ (mX10_year l dC dI ac sa A ad τ9 k0 _ hF (tw_lt hk0 (congrFun hN 0))) (cwV 0 hts gX10_isAhead_X10_year rfl rfl rfl (by decide +kernel) ⟨Nat.le_of_ble_eq_true rfl, Nat.le_of_ble_eq_true rfl⟩) ⟨BM.blind, tw_recv hK hP (by decide) (tw_lt hk0 (congrFun hN 0)) rfl rfl, fun U hU hW => ⟨rfl, BM.of hP hK hS hA hZ hU hW⟩⟩ rfl rfl hl.1 rfl (lv_room (Nat.le_of_ble_eq_true rfl)) dX10_isAhead_43 ⟨Nat.le_of_ble_eq_true rfl, Nat.le_of_ble_eq_true rfl⟩) hS (fun q _ h => h) (fun q h => h) (fun r12 τ11 t H locs ht hvm hw hB hz hk hS => ?_)
    obtain ⟨hF, hN9⟩ := hw
    have hP : PM dC dI ac A ad τ11 H := tw_back hB ht
    have hN : gN τ11 = gN τ0 := hN9.trans hN
    refine va_calli (va_runV (As := [.int x3, .int r12]) (rest := [.int r10]) ⟨hx, hb, hml, hown, hts⟩ (mX10_worthOf l dC dI ac sa A ad τ11 k0 x3 r12 _ hF (tw_lt hk0 (congrFun hN 0))) (cwV 2 hts gX10_isAhead_X10_worthOf rfl rfl rfl (by decide +kernel) ⟨Nat.le_of_ble_eq_true rfl, Nat.le_of_ble_eq_true rfl⟩) ⟨BM.blind, tw_recv hK hP (by decide) (tw_lt hk0 (congrFun hN 0)) rfl rfl, fun U hU hW => ⟨rfl, BM.of hP hK hS hA hZ hU hW⟩⟩ rfl rfl hl.1 rfl (lv_room (Nat.le_of_ble_eq_true rfl)) dX10_isAhead_46 ⟨Nat.le_of_ble_eq_true rfl, Nat.le_of_ble_eq_true rfl⟩) hS (fun q _ h => h) (fun q h => h) (fun r14 τ13 t H locs ht hvm hw hB hz hk hS => ?_)
    obtain ⟨hF, hN9⟩ := hw
    have hP : PM dC dI ac A ad τ13 H := tw_back hB ht
    have hN : gN τ13 = gN τ0 := hN9.trans hN
    refine lv_isub hx hb dX10_isAhead_49 ?_
    refine lv_topi (fun z15 ez15 => ?_)
    have hF := hF z15 ez15
    refine lv_istore (lv' := [(4, .int z15), (0, .ref (ad 0 k0)), (1, .int x1), (2, .int x2), (3, .int x3)]) hx hb dX10_isAhead_50 hl (by decide) rfl (fun ls hl => ?_)
    refine lv_iload hx hb dX10_isAhead_52 (lv_at hl 0 rfl) ?_
    refine lv_if_eq (tgt := 70) hx hb dX10_isAhead_54 (by decide) (fun c16 => ?_) (fun c16 => ?_)
    · have hF := hF.1 c16
      refine lv_iload_n hx hb dX10_isAhead_70 rfl (lv_at hl 3 rfl) ?_
      refine lv_iload_n hx hb dX10_isAhead_71 rfl (lv_at hl 4 rfl) ?_
      refine lv_icmp_ge (tgt := 79) hx hb dX10_isAhead_72 (by decide) (fun c17 => ?_) (fun c17 => ?_)
      · have hF := hF.1 c17
        refine lv_iconst (v := 0) hx hb dX10_isAhead_79 (by decide) ?_
        exact W.zret (v := (0 : Int32)) (ty := .boolean) hx hb hr rfl (fun t ht hW => ⟨⟨((0 : Int32)), τ13, rfl, ⟨hF, hN⟩, tw_at hP ht⟩, hS.F ht⟩) hS.2.2 dX10_isAhead_80
      · have hF := hF.2 c17
        refine lv_iconst (v := 1) hx hb dX10_isAhead_75 (by decide) ?_
        refine lv_goto (tgt := 80) hx hb dX10_isAhead_76 (by decide) ?_
        exact W.zret (v := (1 : Int32)) (ty := .boolean) hx hb hr rfl (fun t ht hW => ⟨⟨((1 : Int32)), τ13, rfl, ⟨hF, hN⟩, tw_at hP ht⟩, hS.F ht⟩) hS.2.2 dX10_isAhead_80
    · have hF := hF.2 c16
      refine lv_iload hx hb dX10_isAhead_57 (lv_at hl 0 rfl) ?_
      refine lv_if_ge (tgt := 66) hx hb dX10_isAhead_59 (by decide) (fun c18 => ?_) (fun c18 => ?_)
      · have hF := hF.1 c18
        refine lv_iconst (v := 0) hx hb dX10_isAhead_66 (by decide) ?_
        refine lv_goto (tgt := 80) hx hb dX10_isAhead_67 (by decide) ?_
        exact W.zret (v := (0 : Int32)) (ty := .boolean) hx hb hr rfl (fun t ht hW => ⟨⟨((0 : Int32)), τ13, rfl, ⟨hF, hN⟩, tw_at hP ht⟩, hS.F ht⟩) hS.2.2 dX10_isAhead_80
      · have hF := hF.2 c18
        refine lv_iconst (v := 1) hx hb dX10_isAhead_62 (by decide) ?_
        refine lv_goto (tgt := 80) hx hb dX10_isAhead_63 (by decide) ?_
        exact W.zret (v := (1 : Int32)) (ty := .boolean) hx hb hr rfl (fun t ht hW => ⟨⟨((1 : Int32)), τ13, rfl, ⟨hF, hN⟩, tw_at hP ht⟩, hS.F ht⟩) hS.2.2 dX10_isAhead_80
  · have hF := hF.2 c6
    refine lv_iload hx hb dX10_isAhead_20 (lv_at hl 0 rfl) ?_
    refine lv_if_le (tgt := 29) hx hb dX10_isAhead_22 (by decide) (fun c19 => ?_) (fun c19 => ?_)
    · have hF := hF.1 c19
      refine lv_iconst (v := 0) hx hb dX10_isAhead_29 (by decide) ?_
      exact W.zret (v := (0 : Int32)) (ty := .boolean) hx hb hr rfl (fun t ht hW => ⟨⟨((0 : Int32)), τ3, rfl, ⟨hF, hN⟩, tw_at hP ht⟩, hS.F ht⟩) hS.2.2 dX10_isAhead_30
    · have hF := hF.2 c19
      refine lv_iconst (v := 1) hx hb dX10_isAhead_25 (by decide) ?_
      refine lv_goto (tgt := 30) hx hb dX10_isAhead_26 (by decide) ?_
      exact W.zret (v := (1 : Int32)) (ty := .boolean) hx hb hr rfl (fun t ht hW => ⟨⟨((1 : Int32)), τ3, rfl, ⟨hF, hN⟩, tw_at hP ht⟩, hS.F ht⟩) hS.2.2 dX10_isAhead_30
def J_X10_match_101 (τ : tw_T) (p0 : Nat) (u1 : Int32) (u2 : Int32) (u3 : Int32) (Q : Int32 → tw_T → Prop) (RC EX : tw_T → Int32 → Prop) : Prop := ∀ z1 : Int32, z1 = u3 + (1 : Int32) → (RC τ z1)
def J_X10_match_84 (τ : tw_T) (p0 : Nat) (u1 : Int32) (u2 : Int32) (u3 : Int32) (u5 : Int32) (y0 : Int32) (y1 : Int32) (Q : Int32 → tw_T → Prop) (RC EX : tw_T → Int32 → Int32 → Prop) : Prop := ∀ z2 : Int32, z2 = y1 + y0 → (∀ z3 : Int32, z3 = u5 + (1 : Int32) → (RC τ z2 z3))
def J_X10_match_83 (τ : tw_T) (p0 : Nat) (u1 : Int32) (u2 : Int32) (u3 : Int32) (u5 : Int32) (y0 : Int32) (Q : Int32 → tw_T → Prop) (RC EX : tw_T → Int32 → Int32 → Prop) : Prop := J_X10_match_84 τ p0 u1 u2 u3 u5 ((0 : Int32)) y0 Q RC EX
def L_X10_match_42 (p0 : Nat) (u1 : Int32) (u2 : Int32) (u3 : Int32) (Q : Int32 → tw_T → Prop) (EX : tw_T → Int32 → Int32 → Prop) : Nat → tw_T → Int32 → Int32 → Prop
  | 0, _, _, _ => False
  | n + 1, τ, u4, u5 => (((gI τ 0 p0 2) ≤ u5 → (EX τ u4 u5)) ∧ (¬ (gI τ 0 p0 2) ≤ u5 → (((u5 = u3 → (J_X10_match_83 τ p0 u1 u2 u3 u5 u4 Q (fun t v4 v5 => L_X10_match_42 p0 u1 u2 u3 Q EX n t v4 v5) EX)) ∧ (¬ u5 = u3 → (F_X10_matches τ p0 u5 (fun (r7 : Int32) (τ6 : tw_T) => (((r7 = 0 → (J_X10_match_83 τ6 p0 u1 u2 u3 u5 u4 Q (fun t v4 v5 => L_X10_match_42 p0 u1 u2 u3 Q EX n t v4 v5) EX)) ∧ (¬ r7 = 0 → (F_X10_isAhead τ6 p0 u1 u5 u3 (fun (r10 : Int32) (τ9 : tw_T) => (((r10 = 0 → (J_X10_match_83 τ9 p0 u1 u2 u3 u5 u4 Q (fun t v4 v5 => L_X10_match_42 p0 u1 u2 u3 Q EX n t v4 v5) EX)) ∧ (¬ r10 = 0 → (J_X10_match_84 τ9 p0 u1 u2 u3 u5 ((1 : Int32)) u4 Q (fun t v4 v5 => L_X10_match_42 p0 u1 u2 u3 Q EX n t v4 v5) EX))))))))))))))))
def L_X10_match_17 (p0 : Nat) (u1 : Int32) (u2 : Int32) (Q : Int32 → tw_T → Prop) (EX : tw_T → Int32 → Prop) : Nat → tw_T → Int32 → Prop
  | 0, _, _ => False
  | n + 1, τ, u3 => (((gI τ 0 p0 2) ≤ u3 → (EX τ u3)) ∧ (¬ (gI τ 0 p0 2) ≤ u3 → (F_X10_matches τ p0 u3 (fun (r14 : Int32) (τ13 : tw_T) => (((¬ r14 = 0 → (∃ n16 : Nat, L_X10_match_42 p0 u1 u2 u3 Q (fun (τ17 : tw_T) (z18 : Int32) (z19 : Int32) => ((¬ z18 = u2 → (J_X10_match_101 τ17 p0 u1 u2 u3 Q (fun t v3 => L_X10_match_17 p0 u1 u2 Q EX n t v3) EX)) ∧ (z18 = u2 → (Q u3 τ17)))) n16 τ13 ((0 : Int32)) ((0 : Int32)))) ∧ (r14 = 0 → (J_X10_match_101 τ13 p0 u1 u2 u3 Q (fun t v3 => L_X10_match_17 p0 u1 u2 Q EX n t v3) EX))))))))
def F_X10_match (τ0 : tw_T) (k0 : Nat) (x1 : Int32) (x2 : Int32) (Q : Int32 → tw_T → Prop) : Prop := ∀ τ21 : tw_T, τ21 = sI τ0 0 k0 0 ((0 : Int32)) → (F_X10_isDish τ21 k0 x1 (fun (r23 : Int32) (τ22 : tw_T) => (((¬ r23 = 0 → (∃ n25 : Nat, L_X10_match_17 k0 x1 x2 Q (fun (τ26 : tw_T) (z27 : Int32) => Q ((-1 : Int32)) τ26) n25 τ22 ((0 : Int32)))) ∧ (r23 = 0 → (Q ((0 : Int32)) τ22))))))
def rmX10_match : Room := { frames := 4, cells := 0, slots := 0, locals := 97 }
set_option maxHeartbeats 4000000 in
set_option maxRecDepth 100000 in
theorem mX10_match (l : Launch) (dC : Nat → ClassId) (dI : Nat → Nat → Nat) (ac : Nat → ClassId) (sa : Nat → Nat) (A : Nat → Prop) (ad : Nat → Nat → Nat) (τ0 : tw_T) (k0 : Nat) (x1 : Int32) (x2 : Int32) (Q : Int32 → tw_T → Prop) (hF : F_X10_match τ0 k0 x1 x2 Q) (hk0 : k0 < gN τ0 0) : Met l yX10_match wsX10_match rmX10_match (va_Pc [.ref (ad 0 k0), .int x1, .int x2] (BM dC dI ac sa A ad τ0)) (va_Qi (fun r (u : tw_T) => Q r u ∧ gN u = gN τ0) (fun u t => PM dC dI ac A ad u t.heap) A) 0 0 A := by
  refine Met.ofW (cc := cX10_match) (maxL := 6) (ret := (some .int)) (by decide) rfl ?_
  intro p e s m args below meth c s₁ B hml hv
  obtain ⟨rfl, hP, hK, hA, hZ⟩ := hv
  have hx := B.exec
  have hb := B.bytes
  have hr := B.returns
  have hts := atoms_spec (ws := wsX10_match) B.pre
  have hown : s.vm.findClass RX10 = some m.cls := findClass_of_methodNamed B.named
  have hlocks := B.notSynchronized
  have hS : va_S A s.heap s.heap [] := va_S.rf
  have hN : gN τ0 = gN τ0 := rfl
  have hl := lv_entry ([.ref (ad 0 k0), .int x1, .int x2]) (n := 6) (Nat.le_of_ble_eq_true rfl)
  rw [lg_entry_eq]
  generalize (lg_sl ([.ref (ad 0 k0), .int x1, .int x2]) ++ List.replicate (6 - (lg_sl ([.ref (ad 0 k0), .int x1, .int x2])).length) Slot.unset).toArray = ls at hl ⊢
  have hl : lv_has ls 6 [(0, .ref (ad 0 k0)), (1, .int x1), (2, .int x2)] := hl
  unfold F_X10_match at hF
  have l17 : ∀ (p0 : Nat) (hp0 : p0 < gN τ0 0) (u1 : Int32) (u2 : Int32) (EX : tw_T → Int32 → Prop) (n : Nat) (τ : tw_T) (u3 : Int32) (H : Heap) (locs : List Loc) (ls : Array Slot), L_X10_match_17 p0 u1 u2 Q EX n τ u3 → PM dC dI ac A ad τ H → gN τ = gN τ0 → va_S A s.heap H locs → lv_has ls 6 [(0, .ref (ad 0 p0)), (1, .int u1), (2, .int u2), (3, .int u3)] → (∀ (τ : tw_T) (u3 : Int32) (H : Heap) (locs : List Loc) (ls : Array Slot), EX τ u3 → PM dC dI ac A ad τ H → gN τ = gN τ0 → va_S A s.heap H locs → lv_has ls 6 [(0, .ref (ad 0 p0)), (1, .int u1), (2, .int u2), (3, .int u3)] → W p l e rmX10_match s m ([.ref (ad 0 k0), .int x1, .int x2] : List Value).toArray below meth c H locs 0 0 (MQ below (va_Qi (fun r (u : tw_T) => Q r u ∧ gN u = gN τ0) (fun u t => PM dC dI ac A ad u t.heap) A) ([.ref (ad 0 k0), .int x1, .int x2] : List Value).toArray s 0 0 A) (F0 m 107 ls [])) → W p l e rmX10_match s m ([.ref (ad 0 k0), .int x1, .int x2] : List Value).toArray below meth c H locs 0 0 (MQ below (va_Qi (fun r (u : tw_T) => Q r u ∧ gN u = gN τ0) (fun u t => PM dC dI ac A ad u t.heap) A) ([.ref (ad 0 k0), .int x1, .int x2] : List Value).toArray s 0 0 A) (F0 m 17 ls []) := by
    intro p0 hp0 u1 u2 EX n
    induction n with
    | zero => intro τ u3 H locs ls hF; exact hF.elim
    | succ n ih =>
      intro τ u3 H locs ls hF hP hN hS hl hEX
      rw [L_X10_match_17] at hF
      have j101 : ∀ (τ : tw_T) (p0 : Nat) (hp0 : p0 < gN τ0 0) (u1 : Int32) (u2 : Int32) (u3 : Int32) (H : Heap) (locs : List Loc) (ls : Array Slot) (RC EX : tw_T → Int32 → Prop), J_X10_match_101 τ p0 u1 u2 u3 Q RC EX → PM dC dI ac A ad τ H → gN τ = gN τ0 → va_S A s.heap H locs → lv_has ls 6 [(0, .ref (ad 0 p0)), (1, .int u1), (2, .int u2), (3, .int u3)] → (∀ (τ : tw_T) (u3 : Int32) (H : Heap) (locs : List Loc) (ls : Array Slot), RC τ u3 → PM dC dI ac A ad τ H → gN τ = gN τ0 → va_S A s.heap H locs → lv_has ls 6 [(0, .ref (ad 0 p0)), (1, .int u1), (2, .int u2), (3, .int u3)] → W p l e rmX10_match s m ([.ref (ad 0 k0), .int x1, .int x2] : List Value).toArray below meth c H locs 0 0 (MQ below (va_Qi (fun r (u : tw_T) => Q r u ∧ gN u = gN τ0) (fun u t => PM dC dI ac A ad u t.heap) A) ([.ref (ad 0 k0), .int x1, .int x2] : List Value).toArray s 0 0 A) (F0 m 17 ls [])) → (∀ (τ : tw_T) (u3 : Int32) (H : Heap) (locs : List Loc) (ls : Array Slot), EX τ u3 → PM dC dI ac A ad τ H → gN τ = gN τ0 → va_S A s.heap H locs → lv_has ls 6 [(0, .ref (ad 0 p0)), (1, .int u1), (2, .int u2), (3, .int u3)] → W p l e rmX10_match s m ([.ref (ad 0 k0), .int x1, .int x2] : List Value).toArray below meth c H locs 0 0 (MQ below (va_Qi (fun r (u : tw_T) => Q r u ∧ gN u = gN τ0) (fun u t => PM dC dI ac A ad u t.heap) A) ([.ref (ad 0 k0), .int x1, .int x2] : List Value).toArray s 0 0 A) (F0 m 107 ls [])) → W p l e rmX10_match s m ([.ref (ad 0 k0), .int x1, .int x2] : List Value).toArray below meth c H locs 0 0 (MQ below (va_Qi (fun r (u : tw_T) => Q r u ∧ gN u = gN τ0) (fun u t => PM dC dI ac A ad u t.heap) A) ([.ref (ad 0 k0), .int x1, .int x2] : List Value).toArray s 0 0 A) (F0 m 101 ls []) := by
        intro τ p0 hp0 u1 u2 u3 H locs ls RC EX hF hP hN hS hl hRC hEX
        unfold J_X10_match_101 at hF
        obtain ⟨z1, ez1⟩ : ∃ y : Int32, y = u3 + (1 : Int32) := ⟨_, rfl⟩
        have hF := hF z1 ez1
        refine lv_iinc (v := z1) (lv' := [(3, .int z1), (0, .ref (ad 0 p0)), (1, .int u1), (2, .int u2)]) hx hb dX10_match_101 hl (k := 3) rfl (by rw [ez1]; rfl) (by decide) rfl (fun ls hl => ?_)
        refine lv_goto (tgt := 17) hx hb dX10_match_104 (by decide) ?_
        exact hRC τ z1 _ _ _ hF hP hN hS (lv_sub hl [1, 2, 3, 0] rfl)
      have l42 : ∀ (p0 : Nat) (hp0 : p0 < gN τ0 0) (u1 : Int32) (u2 : Int32) (u3 : Int32) (EX : tw_T → Int32 → Int32 → Prop) (n : Nat) (τ : tw_T) (u4 : Int32) (u5 : Int32) (H : Heap) (locs : List Loc) (ls : Array Slot), L_X10_match_42 p0 u1 u2 u3 Q EX n τ u4 u5 → PM dC dI ac A ad τ H → gN τ = gN τ0 → va_S A s.heap H locs → lv_has ls 6 [(0, .ref (ad 0 p0)), (1, .int u1), (2, .int u2), (3, .int u3), (4, .int u4), (5, .int u5)] → (∀ (τ : tw_T) (u4 : Int32) (u5 : Int32) (H : Heap) (locs : List Loc) (ls : Array Slot), EX τ u4 u5 → PM dC dI ac A ad τ H → gN τ = gN τ0 → va_S A s.heap H locs → lv_has ls 6 [(0, .ref (ad 0 p0)), (1, .int u1), (2, .int u2), (3, .int u3), (4, .int u4), (5, .int u5)] → W p l e rmX10_match s m ([.ref (ad 0 k0), .int x1, .int x2] : List Value).toArray below meth c H locs 0 0 (MQ below (va_Qi (fun r (u : tw_T) => Q r u ∧ gN u = gN τ0) (fun u t => PM dC dI ac A ad u t.heap) A) ([.ref (ad 0 k0), .int x1, .int x2] : List Value).toArray s 0 0 A) (F0 m 93 ls [])) → W p l e rmX10_match s m ([.ref (ad 0 k0), .int x1, .int x2] : List Value).toArray below meth c H locs 0 0 (MQ below (va_Qi (fun r (u : tw_T) => Q r u ∧ gN u = gN τ0) (fun u t => PM dC dI ac A ad u t.heap) A) ([.ref (ad 0 k0), .int x1, .int x2] : List Value).toArray s 0 0 A) (F0 m 42 ls []) := by
        intro p0 hp0 u1 u2 u3 EX n
        induction n with
        | zero => intro τ u4 u5 H locs ls hF; exact hF.elim
        | succ n ih =>
          intro τ u4 u5 H locs ls hF hP hN hS hl hEX
          rw [L_X10_match_42] at hF
          have j84 : ∀ (τ : tw_T) (p0 : Nat) (hp0 : p0 < gN τ0 0) (u1 : Int32) (u2 : Int32) (u3 : Int32) (u5 : Int32) (y0 : Int32) (y1 : Int32) (H : Heap) (locs : List Loc) (ls : Array Slot) (RC EX : tw_T → Int32 → Int32 → Prop), J_X10_match_84 τ p0 u1 u2 u3 u5 y0 y1 Q RC EX → PM dC dI ac A ad τ H → gN τ = gN τ0 → va_S A s.heap H locs → lv_has ls 6 [(0, .ref (ad 0 p0)), (1, .int u1), (2, .int u2), (3, .int u3), (5, .int u5)] → (∀ (τ : tw_T) (u4 : Int32) (u5 : Int32) (H : Heap) (locs : List Loc) (ls : Array Slot), RC τ u4 u5 → PM dC dI ac A ad τ H → gN τ = gN τ0 → va_S A s.heap H locs → lv_has ls 6 [(0, .ref (ad 0 p0)), (1, .int u1), (2, .int u2), (3, .int u3), (4, .int u4), (5, .int u5)] → W p l e rmX10_match s m ([.ref (ad 0 k0), .int x1, .int x2] : List Value).toArray below meth c H locs 0 0 (MQ below (va_Qi (fun r (u : tw_T) => Q r u ∧ gN u = gN τ0) (fun u t => PM dC dI ac A ad u t.heap) A) ([.ref (ad 0 k0), .int x1, .int x2] : List Value).toArray s 0 0 A) (F0 m 42 ls [])) → (∀ (τ : tw_T) (u4 : Int32) (u5 : Int32) (H : Heap) (locs : List Loc) (ls : Array Slot), EX τ u4 u5 → PM dC dI ac A ad τ H → gN τ = gN τ0 → va_S A s.heap H locs → lv_has ls 6 [(0, .ref (ad 0 p0)), (1, .int u1), (2, .int u2), (3, .int u3), (4, .int u4), (5, .int u5)] → W p l e rmX10_match s m ([.ref (ad 0 k0), .int x1, .int x2] : List Value).toArray below meth c H locs 0 0 (MQ below (va_Qi (fun r (u : tw_T) => Q r u ∧ gN u = gN τ0) (fun u t => PM dC dI ac A ad u t.heap) A) ([.ref (ad 0 k0), .int x1, .int x2] : List Value).toArray s 0 0 A) (F0 m 93 ls [])) → W p l e rmX10_match s m ([.ref (ad 0 k0), .int x1, .int x2] : List Value).toArray below meth c H locs 0 0 (MQ below (va_Qi (fun r (u : tw_T) => Q r u ∧ gN u = gN τ0) (fun u t => PM dC dI ac A ad u t.heap) A) ([.ref (ad 0 k0), .int x1, .int x2] : List Value).toArray s 0 0 A) (F0 m 84 ls [.int y0, .int y1]) := by
            intro τ p0 hp0 u1 u2 u3 u5 y0 y1 H locs ls RC EX hF hP hN hS hl hRC hEX
            unfold J_X10_match_84 at hF
            refine lv_iadd hx hb dX10_match_84 ?_
            refine lv_topi (fun z2 ez2 => ?_)
            have hF := hF z2 ez2
            refine lv_istore (lv' := [(4, .int z2), (0, .ref (ad 0 p0)), (1, .int u1), (2, .int u2), (3, .int u3), (5, .int u5)]) hx hb dX10_match_85 hl (by decide) rfl (fun ls hl => ?_)
            obtain ⟨z3, ez3⟩ : ∃ y : Int32, y = u5 + (1 : Int32) := ⟨_, rfl⟩
            have hF := hF z3 ez3
            refine lv_iinc (v := z3) (lv' := [(5, .int z3), (4, .int z2), (0, .ref (ad 0 p0)), (1, .int u1), (2, .int u2), (3, .int u3)]) hx hb dX10_match_87 hl (k := 5) rfl (by rw [ez3]; rfl) (by decide) rfl (fun ls hl => ?_)
            refine lv_goto (tgt := 42) hx hb dX10_match_90 (by decide) ?_
            exact hRC τ z2 z3 _ _ _ hF hP hN hS (lv_sub hl [2, 3, 4, 5, 1, 0] rfl)
          have j83 : ∀ (τ : tw_T) (p0 : Nat) (hp0 : p0 < gN τ0 0) (u1 : Int32) (u2 : Int32) (u3 : Int32) (u5 : Int32) (y0 : Int32) (H : Heap) (locs : List Loc) (ls : Array Slot) (RC EX : tw_T → Int32 → Int32 → Prop), J_X10_match_83 τ p0 u1 u2 u3 u5 y0 Q RC EX → PM dC dI ac A ad τ H → gN τ = gN τ0 → va_S A s.heap H locs → lv_has ls 6 [(0, .ref (ad 0 p0)), (1, .int u1), (2, .int u2), (3, .int u3), (5, .int u5)] → (∀ (τ : tw_T) (u4 : Int32) (u5 : Int32) (H : Heap) (locs : List Loc) (ls : Array Slot), RC τ u4 u5 → PM dC dI ac A ad τ H → gN τ = gN τ0 → va_S A s.heap H locs → lv_has ls 6 [(0, .ref (ad 0 p0)), (1, .int u1), (2, .int u2), (3, .int u3), (4, .int u4), (5, .int u5)] → W p l e rmX10_match s m ([.ref (ad 0 k0), .int x1, .int x2] : List Value).toArray below meth c H locs 0 0 (MQ below (va_Qi (fun r (u : tw_T) => Q r u ∧ gN u = gN τ0) (fun u t => PM dC dI ac A ad u t.heap) A) ([.ref (ad 0 k0), .int x1, .int x2] : List Value).toArray s 0 0 A) (F0 m 42 ls [])) → (∀ (τ : tw_T) (u4 : Int32) (u5 : Int32) (H : Heap) (locs : List Loc) (ls : Array Slot), EX τ u4 u5 → PM dC dI ac A ad τ H → gN τ = gN τ0 → va_S A s.heap H locs → lv_has ls 6 [(0, .ref (ad 0 p0)), (1, .int u1), (2, .int u2), (3, .int u3), (4, .int u4), (5, .int u5)] → W p l e rmX10_match s m ([.ref (ad 0 k0), .int x1, .int x2] : List Value).toArray below meth c H locs 0 0 (MQ below (va_Qi (fun r (u : tw_T) => Q r u ∧ gN u = gN τ0) (fun u t => PM dC dI ac A ad u t.heap) A) ([.ref (ad 0 k0), .int x1, .int x2] : List Value).toArray s 0 0 A) (F0 m 93 ls [])) → W p l e rmX10_match s m ([.ref (ad 0 k0), .int x1, .int x2] : List Value).toArray below meth c H locs 0 0 (MQ below (va_Qi (fun r (u : tw_T) => Q r u ∧ gN u = gN τ0) (fun u t => PM dC dI ac A ad u t.heap) A) ([.ref (ad 0 k0), .int x1, .int x2] : List Value).toArray s 0 0 A) (F0 m 83 ls [.int y0]) := by
            intro τ p0 hp0 u1 u2 u3 u5 y0 H locs ls RC EX hF hP hN hS hl hRC hEX
            unfold J_X10_match_83 at hF
            refine lv_iconst (v := 0) hx hb dX10_match_83 (by decide) ?_
            exact j84 τ p0 hp0 u1 u2 u3 u5 ((0 : Int32)) y0 _ _ _ RC EX hF hP hN hS (lv_sub hl [0, 1, 2, 3, 4] rfl) hRC hEX
          refine lv_iload hx hb dX10_match_42 (lv_at hl 5 rfl) ?_
          refine lv_aload_n hx hb dX10_match_44 rfl (lv_at hl 0 rfl) ?_
          refine tw_get (v := .int (gI τ 0 p0 2)) hx hb hts (by decide +kernel) hown hK hP (by decide) (tw_lt hp0 (congrFun hN 0)) rfl rfl 2 (by decide) (hts (.fieldLink RX10 119 "WineCellarModel" "lots" "I") (by decide +kernel)) (fun _ h9 => h9) rfl dX10_match_45 ?_
          refine lv_icmp_ge (tgt := 93) hx hb dX10_match_48 (by decide) (fun c4 => ?_) (fun c4 => ?_)
          · have hF := hF.1 c4
            exact hEX τ u4 u5 _ _ _ hF hP hN hS (lv_sub hl [0, 1, 2, 3, 4, 5] rfl)
          · have hF := hF.2 c4
            refine lv_iload hx hb dX10_match_51 (lv_at hl 4 rfl) ?_
            refine lv_iload hx hb dX10_match_53 (lv_at hl 5 rfl) ?_
            refine lv_iload_n hx hb dX10_match_55 rfl (lv_at hl 3 rfl) ?_
            refine lv_icmp_eq (tgt := 83) hx hb dX10_match_56 (by decide) (fun c5 => ?_) (fun c5 => ?_)
            · have hF := hF.1 c5
              exact j83 τ p0 hp0 u1 u2 u3 u5 u4 _ _ _ _ _ hF hP hN hS (lv_sub hl [0, 1, 2, 3, 5] rfl) (fun t v4 v5 H locs ls hF hP hN hS hl => ih t v4 v5 _ _ _ hF hP hN hS hl hEX) hEX
            · have hF := hF.2 c5
              refine lv_aload_n hx hb dX10_match_59 rfl (lv_at hl 0 rfl) ?_
              refine lv_iload hx hb dX10_match_60 (lv_at hl 5 rfl) ?_
              refine va_calli (va_runV (As := [.int u5]) (rest := [.int u4]) ⟨hx, hb, hml, hown, hts⟩ (mX10_matches l dC dI ac sa A ad τ p0 u5 _ hF (tw_lt hp0 (congrFun hN 0))) (cwV 1 hts gX10_match_X10_matches rfl rfl rfl (by decide +kernel) ⟨Nat.le_of_ble_eq_true rfl, Nat.le_of_ble_eq_true rfl⟩) ⟨BM.blind, tw_recv hK hP (by decide) (tw_lt hp0 (congrFun hN 0)) rfl rfl, fun U hU hW => ⟨rfl, BM.of hP hK hS hA hZ hU hW⟩⟩ rfl rfl hl.1 rfl (lv_room (Nat.le_of_ble_eq_true rfl)) dX10_match_62 ⟨Nat.le_of_ble_eq_true rfl, Nat.le_of_ble_eq_true rfl⟩) hS (fun q _ h => h) (fun q h => h) (fun r7 τ6 t H locs ht hvm hw hB hz hk hS => ?_)
              obtain ⟨hF, hN9⟩ := hw
              have hP : PM dC dI ac A ad τ6 H := tw_back hB ht
              have hN : gN τ6 = gN τ0 := hN9.trans hN
              refine lv_if_eq (tgt := 83) hx hb dX10_match_65 (by decide) (fun c8 => ?_) (fun c8 => ?_)
              · have hF := hF.1 c8
                exact j83 τ6 p0 hp0 u1 u2 u3 u5 u4 _ _ _ _ _ hF hP hN hS (lv_sub hl [0, 1, 2, 3, 5] rfl) (fun t v4 v5 H locs ls hF hP hN hS hl => ih t v4 v5 _ _ _ hF hP hN hS hl hEX) hEX
              · have hF := hF.2 c8
                refine lv_aload_n hx hb dX10_match_68 rfl (lv_at hl 0 rfl) ?_
                refine lv_iload_n hx hb dX10_match_69 rfl (lv_at hl 1 rfl) ?_
                refine lv_iload hx hb dX10_match_70 (lv_at hl 5 rfl) ?_
                refine lv_iload_n hx hb dX10_match_72 rfl (lv_at hl 3 rfl) ?_
                refine va_calli (va_runV (As := [.int u1, .int u5, .int u3]) (rest := [.int u4]) ⟨hx, hb, hml, hown, hts⟩ (mX10_isAhead l dC dI ac sa A ad τ6 p0 u1 u5 u3 _ hF (tw_lt hp0 (congrFun hN 0))) (cwV 3 hts gX10_match_X10_isAhead rfl rfl rfl (by decide +kernel) ⟨Nat.le_of_ble_eq_true rfl, Nat.le_of_ble_eq_true rfl⟩) ⟨BM.blind, tw_recv hK hP (by decide) (tw_lt hp0 (congrFun hN 0)) rfl rfl, fun U hU hW => ⟨rfl, BM.of hP hK hS hA hZ hU hW⟩⟩ rfl rfl hl.1 rfl (lv_room (Nat.le_of_ble_eq_true rfl)) dX10_match_73 ⟨Nat.le_of_ble_eq_true rfl, Nat.le_of_ble_eq_true rfl⟩) hS (fun q _ h => h) (fun q h => h) (fun r10 τ9 t H locs ht hvm hw hB hz hk hS => ?_)
                obtain ⟨hF, hN9⟩ := hw
                have hP : PM dC dI ac A ad τ9 H := tw_back hB ht
                have hN : gN τ9 = gN τ0 := hN9.trans hN
                refine lv_if_eq (tgt := 83) hx hb dX10_match_76 (by decide) (fun c11 => ?_) (fun c11 => ?_)
                · have hF := hF.1 c11
                  exact j83 τ9 p0 hp0 u1 u2 u3 u5 u4 _ _ _ _ _ hF hP hN hS (lv_sub hl [0, 1, 2, 3, 5] rfl) (fun t v4 v5 H locs ls hF hP hN hS hl => ih t v4 v5 _ _ _ hF hP hN hS hl hEX) hEX
                · have hF := hF.2 c11
                  refine lv_iconst (v := 1) hx hb dX10_match_79 (by decide) ?_
                  refine lv_goto (tgt := 84) hx hb dX10_match_80 (by decide) ?_
                  exact j84 τ9 p0 hp0 u1 u2 u3 u5 ((1 : Int32)) u4 _ _ _ _ _ hF hP hN hS (lv_sub hl [0, 1, 2, 3, 5] rfl) (fun t v4 v5 H locs ls hF hP hN hS hl => ih t v4 v5 _ _ _ hF hP hN hS hl hEX) hEX
      refine lv_iload_n hx hb dX10_match_17 rfl (lv_at hl 3 rfl) ?_
      refine lv_aload_n hx hb dX10_match_18 rfl (lv_at hl 0 rfl) ?_
      refine tw_get (v := .int (gI τ 0 p0 2)) hx hb hts (by decide +kernel) hown hK hP (by decide) (tw_lt hp0 (congrFun hN 0)) rfl rfl 2 (by decide) (hts (.fieldLink RX10 119 "WineCellarModel" "lots" "I") (by decide +kernel)) (fun _ h9 => h9) rfl dX10_match_19 ?_
      refine lv_icmp_ge (tgt := 107) hx hb dX10_match_22 (by decide) (fun c12 => ?_) (fun c12 => ?_)
      · have hF := hF.1 c12
        exact hEX τ u3 _ _ _ hF hP hN hS (lv_sub hl [0, 1, 2, 3] rfl)
      · have hF := hF.2 c12
        refine lv_aload_n hx hb dX10_match_25 rfl (lv_at hl 0 rfl) ?_
        refine lv_iload_n hx hb dX10_match_26 rfl (lv_at hl 3 rfl) ?_
        refine va_calli (va_runV (As := [.int u3]) (rest := []) ⟨hx, hb, hml, hown, hts⟩ (mX10_matches l dC dI ac sa A ad τ p0 u3 _ hF (tw_lt hp0 (congrFun hN 0))) (cwV 1 hts gX10_match_X10_matches rfl rfl rfl (by decide +kernel) ⟨Nat.le_of_ble_eq_true rfl, Nat.le_of_ble_eq_true rfl⟩) ⟨BM.blind, tw_recv hK hP (by decide) (tw_lt hp0 (congrFun hN 0)) rfl rfl, fun U hU hW => ⟨rfl, BM.of hP hK hS hA hZ hU hW⟩⟩ rfl rfl hl.1 rfl (lv_room (Nat.le_of_ble_eq_true rfl)) dX10_match_27 ⟨Nat.le_of_ble_eq_true rfl, Nat.le_of_ble_eq_true rfl⟩) hS (fun q _ h => h) (fun q h => h) (fun r14 τ13 t H locs ht hvm hw hB hz hk hS => ?_)
        obtain ⟨hF, hN9⟩ := hw
        have hP : PM dC dI ac A ad τ13 H := tw_back hB ht
        have hN : gN τ13 = gN τ0 := hN9.trans hN
        refine lv_if_ne (tgt := 36) hx hb dX10_match_30 (by decide) (fun c15 => ?_) (fun c15 => ?_)
        · have hF := hF.1 c15
          refine lv_iconst (v := 0) hx hb dX10_match_36 (by decide) ?_
          refine lv_istore (lv' := [(4, .int ((0 : Int32))), (0, .ref (ad 0 p0)), (1, .int u1), (2, .int u2), (3, .int u3)]) hx hb dX10_match_37 hl (by decide) rfl (fun ls hl => ?_)
          refine lv_iconst (v := 0) hx hb dX10_match_39 (by decide) ?_
          refine lv_istore (lv' := [(5, .int ((0 : Int32))), (4, .int ((0 : Int32))), (0, .ref (ad 0 p0)), (1, .int u1), (2, .int u2), (3, .int u3)]) hx hb dX10_match_40 hl (by decide) rfl (fun ls hl => ?_)
          obtain ⟨n16, hF⟩ := hF
          refine l42 p0 hp0 u1 u2 u3 _ n16 τ13 ((0 : Int32)) ((0 : Int32)) _ _ _ hF hP hN hS (lv_sub hl [2, 3, 4, 5, 1, 0] rfl) ?_
          intro τ17 z18 z19 H locs ls hF hP hN hS hl
          refine lv_iload hx hb dX10_match_93 (lv_at hl 4 rfl) ?_
          refine lv_iload_n hx hb dX10_match_95 rfl (lv_at hl 2 rfl) ?_
          refine lv_icmp_ne (tgt := 101) hx hb dX10_match_96 (by decide) (fun c20 => ?_) (fun c20 => ?_)
          · have hF := hF.1 c20
            exact j101 τ17 p0 hp0 u1 u2 u3 _ _ _ _ _ hF hP hN hS (lv_sub hl [0, 1, 2, 3] rfl) (fun t v3 H locs ls hF hP hN hS hl => ih t v3 _ _ _ hF hP hN hS hl hEX) hEX
          · have hF := hF.2 c20
            refine lv_iload_n hx hb dX10_match_99 rfl (lv_at hl 3 rfl) ?_
            exact W.iret (v := u3) hx hb hr (fun t ht hW => ⟨⟨u3, τ17, rfl, ⟨hF, hN⟩, tw_at hP ht⟩, hS.F ht⟩) hS.2.2 dX10_match_100
        · have hF := hF.2 c15
          refine lv_goto (tgt := 101) hx hb dX10_match_33 (by decide) ?_
          exact j101 τ13 p0 hp0 u1 u2 u3 _ _ _ _ _ hF hP hN hS (lv_sub hl [0, 1, 2, 3] rfl) (fun t v3 H locs ls hF hP hN hS hl => ih t v3 _ _ _ hF hP hN hS hl hEX) hEX
  refine lv_aload_n hx hb dX10_match_0 rfl (lv_at hl 0 rfl) ?_
  refine lv_iconst (v := 0) hx hb dX10_match_1 (by decide) ?_
  refine tw_put (τ' := sI τ0 0 k0 0 ((0 : Int32))) (ty := .int) hx hb hts (by decide +kernel) tyX10 tyX10_ok nmX10 hown hK hP hS (by decide) hk0 rfl rfl 0 (by decide) (hts (.fieldLink RX10 1 "WineCellarModel" "thrown" "I") (by decide +kernel)) (fun _ h9 => h9) rfl (by decide +kernel) rfl rfl (Nat.le_of_ble_eq_true rfl) dX10_match_2 (fun H1 ha ho => tw_updI hP (by decide) hk0 ha ho) (fun H locs hP hS => ?_)
  obtain ⟨τ21, eτ21⟩ : ∃ y : tw_T, y = sI τ0 0 k0 0 ((0 : Int32)) := ⟨_, rfl⟩
  have hF := hF τ21 eτ21
  rw [← eτ21] at hP
  have hN : gN τ21 = gN τ0 := by rw [eτ21]; exact hN
  refine lv_aload_n hx hb dX10_match_5 rfl (lv_at hl 0 rfl) ?_
  refine lv_iload_n hx hb dX10_match_6 rfl (lv_at hl 1 rfl) ?_
  refine va_calli (va_runV (As := [.int x1]) (rest := []) ⟨hx, hb, hml, hown, hts⟩ (mX10_isDish l dC dI ac sa A ad τ21 k0 x1 _ hF (tw_lt hk0 (congrFun hN 0))) (cwV 1 hts gX10_match_X10_isDish rfl rfl rfl (by decide +kernel) ⟨Nat.le_of_ble_eq_true rfl, Nat.le_of_ble_eq_true rfl⟩) ⟨BM.blind, tw_recv hK hP (by decide) (tw_lt hk0 (congrFun hN 0)) rfl rfl, fun U hU hW => ⟨rfl, BM.of hP hK hS hA hZ hU hW⟩⟩ rfl rfl hl.1 rfl (lv_room (Nat.le_of_ble_eq_true rfl)) dX10_match_7 ⟨Nat.le_of_ble_eq_true rfl, Nat.le_of_ble_eq_true rfl⟩) hS (fun q _ h => h) (fun q h => h) (fun r23 τ22 t H locs ht hvm hw hB hz hk hS => ?_)
  obtain ⟨hF, hN9⟩ := hw
  have hP : PM dC dI ac A ad τ22 H := tw_back hB ht
  have hN : gN τ22 = gN τ0 := hN9.trans hN
  refine lv_if_ne (tgt := 15) hx hb dX10_match_10 (by decide) (fun c24 => ?_) (fun c24 => ?_)
  · have hF := hF.1 c24
    refine lv_iconst (v := 0) hx hb dX10_match_15 (by decide) ?_
    refine lv_istore_n (lv' := [(3, .int ((0 : Int32))), (0, .ref (ad 0 k0)), (1, .int x1), (2, .int x2)]) hx hb dX10_match_16 rfl hl (by decide) rfl (fun ls hl => ?_)
    obtain ⟨n25, hF⟩ := hF
    refine l17 k0 hk0 x1 x2 _ n25 τ22 ((0 : Int32)) _ _ _ hF hP hN hS (lv_sub hl [1, 2, 3, 0] rfl) ?_
    intro τ26 z27 H locs ls hF hP hN hS hl
    refine lv_iconst (v := (-1)) hx hb dX10_match_107 (by decide) ?_
    exact W.iret (v := (-1 : Int32)) hx hb hr (fun t ht hW => ⟨⟨((-1 : Int32)), τ26, rfl, ⟨hF, hN⟩, tw_at hP ht⟩, hS.F ht⟩) hS.2.2 dX10_match_108
  · have hF := hF.2 c24
    refine lv_iconst (v := 0) hx hb dX10_match_13 (by decide) ?_
    exact W.iret (v := (0 : Int32)) hx hb hr (fun t ht hW => ⟨⟨((0 : Int32)), τ22, rfl, ⟨hF, hN⟩, tw_at hP ht⟩, hS.F ht⟩) hS.2.2 dX10_match_14
