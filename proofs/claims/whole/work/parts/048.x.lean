def F_X3_isOverdue (τ0 : tw_T) (k0 : Nat) (x1 : Int32) (Q : Int32 → tw_T → Prop) : Prop := F_X3_isOpen τ0 k0 (fun (r2 : Int32) (τ1 : tw_T) => (((r2 = 0 → (Q ((0 : Int32)) τ1)) ∧ (¬ r2 = 0 → (∃ o4 : Nat, gR τ1 21 k0 1 = some o4 ∧ (vp_in (gI τ1 20 o4 0) 3 ∧ ((((x1 - (gI τ1 21 k0 6)) < (([48, 12, 240] : List Int32).getD (gI τ1 20 o4 0).toNatClampNeg 0) → (Q ((0 : Int32)) τ1)) ∧ (¬ (x1 - (gI τ1 21 k0 6)) < (([48, 12, 240] : List Int32).getD (gI τ1 20 o4 0).toNatClampNeg 0) → (Q ((1 : Int32)) τ1))))))))))
def rmX3_isOverdue : Room := { frames := 1, cells := 0, slots := 0, locals := 20 }
set_option maxHeartbeats 4000000 in
set_option maxRecDepth 100000 in
theorem mX3_isOverdue (l : Launch) (dC : Nat → ClassId) (dI : Nat → Nat → Nat) (ac : Nat → ClassId) (sa : Nat → Nat) (A : Nat → Prop) (ad : Nat → Nat → Nat) (τ0 : tw_T) (k0 : Nat) (x1 : Int32) (Q : Int32 → tw_T → Prop) (hF : F_X3_isOverdue τ0 k0 x1 Q) (hk0 : k0 < gN τ0 21) : Met l yX3_isOverdue wsX3_isOverdue rmX3_isOverdue (va_Pc [.ref (ad 21 k0), .int x1] (BX dC dI ac sa A ad τ0)) (va_Qi (fun r (u : tw_T) => Q r u ∧ gN u = gN τ0) (fun u t => PX dC dI ac A ad u t.heap) A) 0 0 A := by
  refine Met.ofW (cc := cX3_isOverdue) (maxL := 2) (ret := (some .boolean)) (by decide) rfl ?_
  intro p e s m args below meth c s₁ B hml hv
  obtain ⟨rfl, hP, hK, hA, hZ⟩ := hv
  have hx := B.exec
  have hb := B.bytes
  have hr := B.returns
  have hts := atoms_spec (ws := wsX3_isOverdue) B.pre
  have hown : s.vm.findClass RX3 = some m.cls := findClass_of_methodNamed B.named
  have hlocks := B.notSynchronized
  have hS : va_S A s.heap s.heap [] := va_S.rf
  have hN : gN τ0 = gN τ0 := rfl
  have hl := lv_entry ([.ref (ad 21 k0), .int x1]) (n := 2) (Nat.le_of_ble_eq_true rfl)
  rw [lg_entry_eq]
  generalize (lg_sl ([.ref (ad 21 k0), .int x1]) ++ List.replicate (2 - (lg_sl ([.ref (ad 21 k0), .int x1])).length) Slot.unset).toArray = ls at hl ⊢
  have hl : lv_has ls 2 [(0, .ref (ad 21 k0)), (1, .int x1)] := hl
  unfold F_X3_isOverdue at hF
  refine lv_aload_n hx hb dX3_isOverdue_0 rfl (lv_at hl 0 rfl) ?_
  refine va_calli (va_runV (As := []) (rest := []) ⟨hx, hb, hml, hown, hts⟩ (mX3_isOpen l dC dI ac sa A ad τ0 k0 _ hF hk0) (cwV 0 hts gX3_isOverdue_X3_isOpen rfl rfl rfl (by decide +kernel) ⟨Nat.le_of_ble_eq_true rfl, Nat.le_of_ble_eq_true rfl⟩) ⟨BX.blind, tw_recv hK hP (by decide) hk0 rfl rfl, fun U hU hW => ⟨rfl, BX.of hP hK hS hA hZ hU hW⟩⟩ rfl rfl hl.1 rfl (lv_room (Nat.le_of_ble_eq_true rfl)) dX3_isOverdue_1 ⟨Nat.le_of_ble_eq_true rfl, Nat.le_of_ble_eq_true rfl⟩) hS (fun q _ h => h) (fun q h => h) (fun r2 τ1 t H locs ht hvm hw hB hz hk hS => ?_)
  obtain ⟨hF, hN9⟩ := hw
  have hP : PX dC dI ac A ad τ1 H := tw_back hB ht
  have hN : gN τ1 = gN τ0 := hN9.trans hN
  refine lv_if_eq (tgt := 31) hx hb dX3_isOverdue_4 (by decide) (fun c3 => ?_) (fun c3 => ?_)
  · have hF := hF.1 c3
    refine lv_iconst (v := 0) hx hb dX3_isOverdue_31 (by decide) ?_
    exact W.zret (v := (0 : Int32)) (ty := .boolean) hx hb hr rfl (fun t ht hW => ⟨⟨((0 : Int32)), τ1, rfl, ⟨hF, hN⟩, tw_at hP ht⟩, hS.F ht⟩) hS.2.2 dX3_isOverdue_32
  · have hF := hF.2 c3
    refine lv_iload_n hx hb dX3_isOverdue_7 rfl (lv_at hl 1 rfl) ?_
    refine lv_aload_n hx hb dX3_isOverdue_8 rfl (lv_at hl 0 rfl) ?_
    refine tw_get (v := .int (gI τ1 21 k0 6)) hx hb hts (by decide +kernel) hown hK hP (by decide) (tw_lt hk0 (congrFun hN 21)) rfl rfl 6 (by decide) (hts (.fieldLink RX3 9 "WineCellar$Lot" "openedAt" "I") (by decide +kernel)) (fun _ h9 => h9) rfl dX3_isOverdue_9 ?_
    refine lv_isub hx hb dX3_isOverdue_12 ?_
    refine va_getsN (C := RX9) (n := "KEPT_HOURS") (d := "[I") (v := .ref (sa 24)) hx hb hZ.1.2.2.2.1 hS hown (va_Nw.use rfl hZ.2.2.2.2.1.2.2.2.2) (fun _ h9 => h9) dX3_isOverdue_13 ?_
    refine lv_aload_n hx hb dX3_isOverdue_16 rfl (lv_at hl 0 rfl) ?_
    obtain ⟨o4, eo4, hF⟩ := hF
    have ho4 : o4 < gN τ0 20 := tw_lt (hP.2.2.2 21 k0 1 o4 (by decide) (tw_lt hk0 (congrFun hN 21)) eo4) (congrFun hN 20).symm
    refine tw_get (v := .ref (ad 20 o4)) hx hb hts (by decide +kernel) hown hK hP (by decide) (tw_lt hk0 (congrFun hN 21)) rfl rfl 1 (by decide) (hts (.fieldLink RX3 21 "WineCellar$Lot" "kind" "LWineCellar$Kind;") (by decide +kernel)) (fun _ h9 => h9) (show some (va_rf ((gR τ1 21 k0 1).map (ad 20))) = some (.ref (ad 20 o4)) by rw [eo4]; rfl) dX3_isOverdue_17 ?_
    refine tw_get (v := .int (gI τ1 20 o4 0)) hx hb hts (by decide +kernel) hown hK hP (by decide) (tw_lt ho4 (congrFun hN 20)) rfl rfl 0 (by decide) (hts (.fieldLink RX3 51 "WineCellar$Kind" "sort" "I") (by decide +kernel)) (fun _ h9 => h9) rfl dX3_isOverdue_20 ?_
    obtain ⟨hi5, hF⟩ := hF
    refine va_ti (v := .int (([48, 12, 240] : List Int32).getD (gI τ1 20 o4 0).toNatClampNeg 0)) hx hb hZ.1.2.2.2.2.1 hS hi5 rfl dX3_isOverdue_23 ?_
    refine lv_icmp_lt (tgt := 31) hx hb dX3_isOverdue_24 (by decide) (fun c6 => ?_) (fun c6 => ?_)
    · have hF := hF.1 c6
      refine lv_iconst (v := 0) hx hb dX3_isOverdue_31 (by decide) ?_
      exact W.zret (v := (0 : Int32)) (ty := .boolean) hx hb hr rfl (fun t ht hW => ⟨⟨((0 : Int32)), τ1, rfl, ⟨hF, hN⟩, tw_at hP ht⟩, hS.F ht⟩) hS.2.2 dX3_isOverdue_32
    · have hF := hF.2 c6
      refine lv_iconst (v := 1) hx hb dX3_isOverdue_27 (by decide) ?_
      refine lv_goto (tgt := 32) hx hb dX3_isOverdue_28 (by decide) ?_
      exact W.zret (v := (1 : Int32)) (ty := .boolean) hx hb hr rfl (fun t ht hW => ⟨⟨((1 : Int32)), τ1, rfl, ⟨hF, hN⟩, tw_at hP ht⟩, hS.F ht⟩) hS.2.2 dX3_isOverdue_32
def J_X9_wait_126 (τ : tw_T) (p0 : Nat) (u2 : Int32) (Q : Int32 → tw_T → Prop) (X : Nat → tw_T → Prop) (RC EX : tw_T → Int32 → Prop) : Prop := ∀ z1 : Int32, z1 = u2 + (1 : Int32) → (RC τ z1)
def L_X9_wait_58 (p0 : Nat) (Q : Int32 → tw_T → Prop) (X : Nat → tw_T → Prop) (EX : tw_T → Int32 → Prop) : Nat → tw_T → Int32 → Prop
  | 0, _, _ => False
  | n + 1, τ, u2 => (((gI τ 0 p0 12) ≤ u2 → (EX τ u2)) ∧ (¬ (gI τ 0 p0 12) ≤ u2 → (∃ o3 : Nat, gR τ 0 p0 1 = some o3 ∧ (vp_in u2 60 ∧ (∃ o4 : Nat, gR τ 2 o3 u2.toNatClampNeg = some o4 ∧ (F_X3_isOverdue τ o4 (gI τ 0 p0 15) (fun (r7 : Int32) (τ6 : tw_T) => (((r7 = 0 → (J_X9_wait_126 τ6 p0 u2 Q X (fun t v2 => L_X9_wait_58 p0 Q X EX n t v2) EX)) ∧ (¬ r7 = 0 → (∃ o9 : Nat, gR τ6 0 p0 6 = some o9 ∧ (∃ o10 : Nat, gR τ6 0 p0 1 = some o10 ∧ (vp_in u2 60 ∧ (∃ o11 : Nat, gR τ6 2 o10 u2.toNatClampNeg = some o11 ∧ (∀ τ13 : tw_T, τ13 = sI τ6 7 o9 6 ((gI τ6 7 o9 6) + (gI τ6 21 o11 7)) → (∃ o14 : Nat, gR τ13 0 p0 6 = some o14 ∧ (∀ τ15 : tw_T, τ15 = sI τ13 7 o14 3 ((gI τ13 7 o14 3) + ((1 : Int32))) → (∃ o16 : Nat, gR τ15 0 p0 1 = some o16 ∧ (vp_in u2 60 ∧ (∃ o17 : Nat, gR τ15 2 o16 u2.toNatClampNeg = some o17 ∧ (∀ τ19 : tw_T, τ19 = sI τ15 21 o17 7 ((0 : Int32)) → (J_X9_wait_126 τ19 p0 u2 Q X (fun t v2 => L_X9_wait_58 p0 Q X EX n t v2) EX))))))))))))))))))))))
def F_X9_wait (τ0 : tw_T) (k0 : Nat) (x1 : Int32) (Q : Int32 → tw_T → Prop) (X : Nat → tw_T → Prop) : Prop := F_X9_isWithin τ0 x1.toInt64 ((0 : Int64)) ((100000 : Int64)) (fun (r21 : Int32) (τ20 : tw_T) => (((¬ r21 = 0 → (((((gI τ20 0 k0 15) + x1) ≤ ((1000000 : Int32)) → (∀ τ24 : tw_T, τ24 = sI τ20 0 k0 15 ((gI τ20 0 k0 15) + x1) → (∃ n25 : Nat, L_X9_wait_58 k0 Q X (fun (τ26 : tw_T) (z27 : Int32) => Q (gI τ26 0 k0 15) τ26) n25 τ24 ((0 : Int32))))) ∧ (¬ ((gI τ20 0 k0 15) + x1) ≤ ((1000000 : Int32)) → (X 2 τ20))))) ∧ (r21 = 0 → (X 0 τ20)))))
def rmX9_wait : Room := { frames := 6, cells := 1, slots := 6, locals := 82 }
set_option maxHeartbeats 4000000 in
set_option maxRecDepth 100000 in
theorem mX9_wait (l : Launch) (hlt : l.stackTraces = false) (dC : Nat → ClassId) (dI : Nat → Nat → Nat) (ac : Nat → ClassId) (sa : Nat → Nat) (A : Nat → Prop) (ad : Nat → Nat → Nat) (τ0 : tw_T) (k0 : Nat) (x1 : Int32) (Q : Int32 → tw_T → Prop) (X : Nat → tw_T → Prop) (hF : F_X9_wait τ0 k0 x1 Q X) (hk0 : k0 < gN τ0 0) : vx_Met l yX9_wait wsX9_wait rmX9_wait (va_Pc [.ref (ad 0 k0), .int x1] (BX dC dI ac sa A ad τ0)) (va_Qi (fun r (u : tw_T) => Q r u ∧ gN u = gN τ0) (fun u t => PX dC dI ac A ad u t.heap) A) (vx_X (fun (u : Nat × tw_T) => X u.1 u.2 ∧ gN u.2 = gN τ0) (fun E u t => E = exn u.1 ∧ PX dC dI ac A ad u.2 t.heap) A) 1 6 A := by
  refine vx_ofW (cc := cX9_wait) (maxL := 3) (ret := (some .int)) (by decide) rfl ?_
  intro p e s m args below meth c s₁ B hml htab hv
  obtain ⟨rfl, hP, hK, hA, hZ⟩ := hv
  have hx := B.exec
  have hb := B.bytes
  have hr := B.returns
  have hts := atoms_spec (ws := wsX9_wait) B.pre
  have hown : s.vm.findClass RX9 = some m.cls := findClass_of_methodNamed B.named
  have hlocks := B.notSynchronized
  have hS : va_S A s.heap s.heap [] := va_S.rf
  have hN : gN τ0 = gN τ0 := rfl
  have hl := lv_entry ([.ref (ad 0 k0), .int x1]) (n := 3) (Nat.le_of_ble_eq_true rfl)
  rw [lg_entry_eq]
  generalize (lg_sl ([.ref (ad 0 k0), .int x1]) ++ List.replicate (3 - (lg_sl ([.ref (ad 0 k0), .int x1])).length) Slot.unset).toArray = ls at hl ⊢
  have hl : lv_has ls 3 [(0, .ref (ad 0 k0)), (1, .int x1)] := hl
  unfold F_X9_wait at hF
  have l58 : ∀ (p0 : Nat) (hp0 : p0 < gN τ0 0) (EX : tw_T → Int32 → Prop) (n : Nat) (τ : tw_T) (u2 : Int32) (H : Heap) (locs : List Loc) (ls : Array Slot), L_X9_wait_58 p0 Q X EX n τ u2 → PX dC dI ac A ad τ H → gN τ = gN τ0 → va_S A s.heap H locs → lv_has ls 3 [(0, .ref (ad 0 p0)), (2, .int u2)] → (∀ (τ : tw_T) (u2 : Int32) (H : Heap) (locs : List Loc) (ls : Array Slot), EX τ u2 → PX dC dI ac A ad τ H → gN τ = gN τ0 → va_S A s.heap H locs → lv_has ls 3 [(0, .ref (ad 0 p0)), (2, .int u2)] → W p l e rmX9_wait s m ([.ref (ad 0 k0), .int x1] : List Value).toArray below meth c H locs 0 0 (vx_MQ below (va_Qi (fun r (u : tw_T) => Q r u ∧ gN u = gN τ0) (fun u t => PX dC dI ac A ad u t.heap) A) (vx_X (fun (u : Nat × tw_T) => X u.1 u.2 ∧ gN u.2 = gN τ0) (fun E u t => E = exn u.1 ∧ PX dC dI ac A ad u.2 t.heap) A) ([.ref (ad 0 k0), .int x1] : List Value).toArray s 1 6 A) (F0 m 132 ls [])) → W p l e rmX9_wait s m ([.ref (ad 0 k0), .int x1] : List Value).toArray below meth c H locs 0 0 (vx_MQ below (va_Qi (fun r (u : tw_T) => Q r u ∧ gN u = gN τ0) (fun u t => PX dC dI ac A ad u t.heap) A) (vx_X (fun (u : Nat × tw_T) => X u.1 u.2 ∧ gN u.2 = gN τ0) (fun E u t => E = exn u.1 ∧ PX dC dI ac A ad u.2 t.heap) A) ([.ref (ad 0 k0), .int x1] : List Value).toArray s 1 6 A) (F0 m 58 ls []) := by
    intro p0 hp0 EX n
    induction n with
    | zero => intro τ u2 H locs ls hF; exact hF.elim
    | succ n ih =>
      intro τ u2 H locs ls hF hP hN hS hl hEX
      rw [L_X9_wait_58] at hF
      have j126 : ∀ (τ : tw_T) (p0 : Nat) (hp0 : p0 < gN τ0 0) (u2 : Int32) (H : Heap) (locs : List Loc) (ls : Array Slot) (RC EX : tw_T → Int32 → Prop), J_X9_wait_126 τ p0 u2 Q X RC EX → PX dC dI ac A ad τ H → gN τ = gN τ0 → va_S A s.heap H locs → lv_has ls 3 [(0, .ref (ad 0 p0)), (2, .int u2)] → (∀ (τ : tw_T) (u2 : Int32) (H : Heap) (locs : List Loc) (ls : Array Slot), RC τ u2 → PX dC dI ac A ad τ H → gN τ = gN τ0 → va_S A s.heap H locs → lv_has ls 3 [(0, .ref (ad 0 p0)), (2, .int u2)] → W p l e rmX9_wait s m ([.ref (ad 0 k0), .int x1] : List Value).toArray below meth c H locs 0 0 (vx_MQ below (va_Qi (fun r (u : tw_T) => Q r u ∧ gN u = gN τ0) (fun u t => PX dC dI ac A ad u t.heap) A) (vx_X (fun (u : Nat × tw_T) => X u.1 u.2 ∧ gN u.2 = gN τ0) (fun E u t => E = exn u.1 ∧ PX dC dI ac A ad u.2 t.heap) A) ([.ref (ad 0 k0), .int x1] : List Value).toArray s 1 6 A) (F0 m 58 ls [])) → (∀ (τ : tw_T) (u2 : Int32) (H : Heap) (locs : List Loc) (ls : Array Slot), EX τ u2 → PX dC dI ac A ad τ H → gN τ = gN τ0 → va_S A s.heap H locs → lv_has ls 3 [(0, .ref (ad 0 p0)), (2, .int u2)] → W p l e rmX9_wait s m ([.ref (ad 0 k0), .int x1] : List Value).toArray below meth c H locs 0 0 (vx_MQ below (va_Qi (fun r (u : tw_T) => Q r u ∧ gN u = gN τ0) (fun u t => PX dC dI ac A ad u t.heap) A) (vx_X (fun (u : Nat × tw_T) => X u.1 u.2 ∧ gN u.2 = gN τ0) (fun E u t => E = exn u.1 ∧ PX dC dI ac A ad u.2 t.heap) A) ([.ref (ad 0 k0), .int x1] : List Value).toArray s 1 6 A) (F0 m 132 ls [])) → W p l e rmX9_wait s m ([.ref (ad 0 k0), .int x1] : List Value).toArray below meth c H locs 0 0 (vx_MQ below (va_Qi (fun r (u : tw_T) => Q r u ∧ gN u = gN τ0) (fun u t => PX dC dI ac A ad u t.heap) A) (vx_X (fun (u : Nat × tw_T) => X u.1 u.2 ∧ gN u.2 = gN τ0) (fun E u t => E = exn u.1 ∧ PX dC dI ac A ad u.2 t.heap) A) ([.ref (ad 0 k0), .int x1] : List Value).toArray s 1 6 A) (F0 m 126 ls []) := by
        intro τ p0 hp0 u2 H locs ls RC EX hF hP hN hS hl hRC hEX
        unfold J_X9_wait_126 at hF
        obtain ⟨z1, ez1⟩ : ∃ y : Int32, y = u2 + (1 : Int32) := ⟨_, rfl⟩
        have hF := hF z1 ez1
        refine lv_iinc (v := z1) (lv' := [(2, .int z1), (0, .ref (ad 0 p0))]) hx hb dX9_wait_126 hl (k := 1) rfl (by rw [ez1]; rfl) (by decide) rfl (fun ls hl => ?_)
        refine lv_goto (tgt := 58) hx hb dX9_wait_129 (by decide) ?_
        exact hRC τ z1 _ _ _ hF hP hN hS (lv_sub hl [1, 0] rfl)
      refine lv_iload_n hx hb dX9_wait_58 rfl (lv_at hl 1 rfl) ?_
      refine lv_aload_n hx hb dX9_wait_59 rfl (lv_at hl 0 rfl) ?_
      refine tw_get (v := .int (gI τ 0 p0 12)) hx hb hts (by decide +kernel) hown hK hP (by decide) (tw_lt hp0 (congrFun hN 0)) rfl rfl 12 (by decide) (hts (.fieldLink RX9 76 "WineCellar" "lotCount" "I") (by decide +kernel)) (fun _ h9 => h9) rfl dX9_wait_60 ?_
      refine lv_icmp_ge (tgt := 132) hx hb dX9_wait_63 (by decide) (fun c2 => ?_) (fun c2 => ?_)
      · have hF := hF.1 c2
        exact hEX τ u2 _ _ _ hF hP hN hS (lv_sub hl [0, 1] rfl)
      · have hF := hF.2 c2
        refine lv_aload_n hx hb dX9_wait_66 rfl (lv_at hl 0 rfl) ?_
        obtain ⟨o3, eo3, hF⟩ := hF
        have ho3 : o3 < gN τ0 2 := tw_lt (hP.2.2.2 0 p0 1 o3 (by decide) (tw_lt hp0 (congrFun hN 0)) eo3) (congrFun hN 2).symm
        refine tw_get (v := .ref (ad 2 o3)) hx hb hts (by decide +kernel) hown hK hP (by decide) (tw_lt hp0 (congrFun hN 0)) rfl rfl 1 (by decide) (hts (.fieldLink RX9 17 "WineCellar" "lots" "[LWineCellar$Lot;") (by decide +kernel)) (fun _ h9 => h9) (show some (va_rf ((gR τ 0 p0 1).map (ad 2))) = some (.ref (ad 2 o3)) by rw [eo3]; rfl) dX9_wait_67 ?_
        refine lv_iload_n hx hb dX9_wait_70 rfl (lv_at hl 1 rfl) ?_
        obtain ⟨hi5, o4, eo4, hF⟩ := hF
        have ho4 : o4 < gN τ0 21 := tw_lt (hP.2.2.2 2 o3 _ o4 (by decide) (tw_lt ho3 (congrFun hN 2)) eo4) (congrFun hN 21).symm
        refine tw_aald hx hb hK hP (by decide) (tw_lt ho3 (congrFun hN 2)) rfl 4 rfl rfl (fun _ => rfl) hi5 dX9_wait_71 ?_
        refine W.eq (g2 := F0 m 72 ls [.ref (ad 21 o4)]) (by rw [eo4]; rfl) ?_
        refine lv_aload_n hx hb dX9_wait_72 rfl (lv_at hl 0 rfl) ?_
        refine tw_get (v := .int (gI τ 0 p0 15)) hx hb hts (by decide +kernel) hown hK hP (by decide) (tw_lt hp0 (congrFun hN 0)) rfl rfl 15 (by decide) (hts (.fieldLink RX9 85 "WineCellar" "hour" "I") (by decide +kernel)) (fun _ h9 => h9) rfl dX9_wait_73 ?_
        refine va_calli (va_runV (As := [.int (gI τ 0 p0 15)]) (rest := []) ⟨hx, hb, hml, hown, hts⟩ (mX3_isOverdue l dC dI ac sa A ad τ o4 (gI τ 0 p0 15) _ hF (tw_lt ho4 (congrFun hN 21))) (cwV 1 hts gX9_wait_X3_isOverdue rfl rfl rfl (by decide +kernel) ⟨Nat.le_of_ble_eq_true rfl, Nat.le_of_ble_eq_true rfl⟩) ⟨BX.blind, tw_recv hK hP (by decide) (tw_lt ho4 (congrFun hN 21)) rfl rfl, fun U hU hW => ⟨rfl, BX.of hP hK hS hA hZ hU hW⟩⟩ rfl rfl hl.1 rfl (lv_room (Nat.le_of_ble_eq_true rfl)) dX9_wait_76 ⟨Nat.le_of_ble_eq_true rfl, Nat.le_of_ble_eq_true rfl⟩) hS (fun q _ h => h) (fun q h => h) (fun r7 τ6 t H locs ht hvm hw hB hz hk hS => ?_)
        obtain ⟨hF, hN9⟩ := hw
        have hP : PX dC dI ac A ad τ6 H := tw_back hB ht
        have hN : gN τ6 = gN τ0 := hN9.trans hN
        refine lv_if_eq (tgt := 126) hx hb dX9_wait_79 (by decide) (fun c8 => ?_) (fun c8 => ?_)
        · have hF := hF.1 c8
          exact j126 τ6 p0 hp0 u2 _ _ _ _ _ hF hP hN hS (lv_sub hl [0, 1] rfl) (fun t v2 H locs ls hF hP hN hS hl => ih t v2 _ _ _ hF hP hN hS hl hEX) hEX
        · have hF := hF.2 c8
          refine lv_aload_n hx hb dX9_wait_82 rfl (lv_at hl 0 rfl) ?_
          obtain ⟨o9, eo9, hF⟩ := hF
          have ho9 : o9 < gN τ0 7 := tw_lt (hP.2.2.2 0 p0 6 o9 (by decide) (tw_lt hp0 (congrFun hN 0)) eo9) (congrFun hN 7).symm
          refine tw_get (v := .ref (ad 7 o9)) hx hb hts (by decide +kernel) hown hK hP (by decide) (tw_lt hp0 (congrFun hN 0)) rfl rfl 6 (by decide) (hts (.fieldLink RX9 50 "WineCellar" "ledger" "LWineCellar$Ledger;") (by decide +kernel)) (fun _ h9 => h9) (show some (va_rf ((gR τ6 0 p0 6).map (ad 7))) = some (.ref (ad 7 o9)) by rw [eo9]; rfl) dX9_wait_83 ?_
          refine lv_dup hx hb dX9_wait_86 rfl ?_
          refine tw_get (v := .int (gI τ6 7 o9 6)) hx hb hts (by decide +kernel) hown hK hP (by decide) (tw_lt ho9 (congrFun hN 7)) rfl rfl 6 (by decide) (hts (.fieldLink RX9 267 "WineCellar$Ledger" "spilt" "I") (by decide +kernel)) (fun _ h9 => h9) rfl dX9_wait_87 ?_
          refine lv_aload_n hx hb dX9_wait_90 rfl (lv_at hl 0 rfl) ?_
          obtain ⟨o10, eo10, hF⟩ := hF
          have ho10 : o10 < gN τ0 2 := tw_lt (hP.2.2.2 0 p0 1 o10 (by decide) (tw_lt hp0 (congrFun hN 0)) eo10) (congrFun hN 2).symm
          refine tw_get (v := .ref (ad 2 o10)) hx hb hts (by decide +kernel) hown hK hP (by decide) (tw_lt hp0 (congrFun hN 0)) rfl rfl 1 (by decide) (hts (.fieldLink RX9 17 "WineCellar" "lots" "[LWineCellar$Lot;") (by decide +kernel)) (fun _ h9 => h9) (show some (va_rf ((gR τ6 0 p0 1).map (ad 2))) = some (.ref (ad 2 o10)) by rw [eo10]; rfl) dX9_wait_91 ?_
          refine lv_iload_n hx hb dX9_wait_94 rfl (lv_at hl 1 rfl) ?_
          obtain ⟨hi12, o11, eo11, hF⟩ := hF
          have ho11 : o11 < gN τ0 21 := tw_lt (hP.2.2.2 2 o10 _ o11 (by decide) (tw_lt ho10 (congrFun hN 2)) eo11) (congrFun hN 21).symm
          refine tw_aald hx hb hK hP (by decide) (tw_lt ho10 (congrFun hN 2)) rfl 4 rfl rfl (fun _ => rfl) hi12 dX9_wait_95 ?_
          refine W.eq (g2 := F0 m 96 ls [.ref (ad 21 o11), .int (gI τ6 7 o9 6), .ref (ad 7 o9)]) (by rw [eo11]; rfl) ?_
          refine tw_get (v := .int (gI τ6 21 o11 7)) hx hb hts (by decide +kernel) hown hK hP (by decide) (tw_lt ho11 (congrFun hN 21)) rfl rfl 7 (by decide) (hts (.fieldLink RX9 155 "WineCellar$Lot" "glassesLeft" "I") (by decide +kernel)) (fun _ h9 => h9) rfl dX9_wait_96 ?_
          refine lv_iadd hx hb dX9_wait_99 ?_
          refine tw_put (τ' := sI τ6 7 o9 6 ((gI τ6 7 o9 6) + (gI τ6 21 o11 7))) (ty := .int) hx hb hts (by decide +kernel) tyX2 tyX2_ok nmX2 hown hK hP hS (by decide) (tw_lt ho9 (congrFun hN 7)) rfl rfl 6 (by decide) (hts (.fieldLink RX9 267 "WineCellar$Ledger" "spilt" "I") (by decide +kernel)) (fun _ h9 => h9) rfl (by decide +kernel) rfl rfl (Nat.le_of_ble_eq_true rfl) dX9_wait_100 (fun H1 ha ho => tw_updI hP (by decide) (tw_lt ho9 (congrFun hN 7)) ha ho) (fun H locs hP hS => ?_)
          obtain ⟨τ13, eτ13⟩ : ∃ y : tw_T, y = sI τ6 7 o9 6 ((gI τ6 7 o9 6) + (gI τ6 21 o11 7)) := ⟨_, rfl⟩
          have hF := hF τ13 eτ13
          rw [← eτ13] at hP
          have hN : gN τ13 = gN τ0 := by rw [eτ13]; exact hN
          refine lv_aload_n hx hb dX9_wait_103 rfl (lv_at hl 0 rfl) ?_
          obtain ⟨o14, eo14, hF⟩ := hF
          have ho14 : o14 < gN τ0 7 := tw_lt (hP.2.2.2 0 p0 6 o14 (by decide) (tw_lt hp0 (congrFun hN 0)) eo14) (congrFun hN 7).symm
          refine tw_get (v := .ref (ad 7 o14)) hx hb hts (by decide +kernel) hown hK hP (by decide) (tw_lt hp0 (congrFun hN 0)) rfl rfl 6 (by decide) (hts (.fieldLink RX9 50 "WineCellar" "ledger" "LWineCellar$Ledger;") (by decide +kernel)) (fun _ h9 => h9) (show some (va_rf ((gR τ13 0 p0 6).map (ad 7))) = some (.ref (ad 7 o14)) by rw [eo14]; rfl) dX9_wait_104 ?_
          refine lv_dup hx hb dX9_wait_107 rfl ?_
          refine tw_get (v := .int (gI τ13 7 o14 3)) hx hb hts (by decide +kernel) hown hK hP (by decide) (tw_lt ho14 (congrFun hN 7)) rfl rfl 3 (by decide) (hts (.fieldLink RX9 270 "WineCellar$Ledger" "emptied" "I") (by decide +kernel)) (fun _ h9 => h9) rfl dX9_wait_108 ?_
          refine lv_iconst (v := 1) hx hb dX9_wait_111 (by decide) ?_
          refine lv_iadd hx hb dX9_wait_112 ?_
          refine tw_put (τ' := sI τ13 7 o14 3 ((gI τ13 7 o14 3) + ((1 : Int32)))) (ty := .int) hx hb hts (by decide +kernel) tyX2 tyX2_ok nmX2 hown hK hP hS (by decide) (tw_lt ho14 (congrFun hN 7)) rfl rfl 3 (by decide) (hts (.fieldLink RX9 270 "WineCellar$Ledger" "emptied" "I") (by decide +kernel)) (fun _ h9 => h9) rfl (by decide +kernel) rfl rfl (Nat.le_of_ble_eq_true rfl) dX9_wait_113 (fun H1 ha ho => tw_updI hP (by decide) (tw_lt ho14 (congrFun hN 7)) ha ho) (fun H locs hP hS => ?_)
          obtain ⟨τ15, eτ15⟩ : ∃ y : tw_T, y = sI τ13 7 o14 3 ((gI τ13 7 o14 3) + ((1 : Int32))) := ⟨_, rfl⟩
          have hF := hF τ15 eτ15
          rw [← eτ15] at hP
          have hN : gN τ15 = gN τ0 := by rw [eτ15]; exact hN
          refine lv_aload_n hx hb dX9_wait_116 rfl (lv_at hl 0 rfl) ?_
          obtain ⟨o16, eo16, hF⟩ := hF
          have ho16 : o16 < gN τ0 2 := tw_lt (hP.2.2.2 0 p0 1 o16 (by decide) (tw_lt hp0 (congrFun hN 0)) eo16) (congrFun hN 2).symm
          refine tw_get (v := .ref (ad 2 o16)) hx hb hts (by decide +kernel) hown hK hP (by decide) (tw_lt hp0 (congrFun hN 0)) rfl rfl 1 (by decide) (hts (.fieldLink RX9 17 "WineCellar" "lots" "[LWineCellar$Lot;") (by decide +kernel)) (fun _ h9 => h9) (show some (va_rf ((gR τ15 0 p0 1).map (ad 2))) = some (.ref (ad 2 o16)) by rw [eo16]; rfl) dX9_wait_117 ?_
          refine lv_iload_n hx hb dX9_wait_120 rfl (lv_at hl 1 rfl) ?_
          obtain ⟨hi18, o17, eo17, hF⟩ := hF
          have ho17 : o17 < gN τ0 21 := tw_lt (hP.2.2.2 2 o16 _ o17 (by decide) (tw_lt ho16 (congrFun hN 2)) eo17) (congrFun hN 21).symm
          refine tw_aald hx hb hK hP (by decide) (tw_lt ho16 (congrFun hN 2)) rfl 4 rfl rfl (fun _ => rfl) hi18 dX9_wait_121 ?_
          refine W.eq (g2 := F0 m 122 ls [.ref (ad 21 o17)]) (by rw [eo17]; rfl) ?_
          refine lv_iconst (v := 0) hx hb dX9_wait_122 (by decide) ?_
          refine tw_put (τ' := sI τ15 21 o17 7 ((0 : Int32))) (ty := .int) hx hb hts (by decide +kernel) tyX3 tyX3_ok nmX3 hown hK hP hS (by decide) (tw_lt ho17 (congrFun hN 21)) rfl rfl 7 (by decide) (hts (.fieldLink RX9 155 "WineCellar$Lot" "glassesLeft" "I") (by decide +kernel)) (fun _ h9 => h9) rfl (by decide +kernel) rfl rfl (Nat.le_of_ble_eq_true rfl) dX9_wait_123 (fun H1 ha ho => tw_updI hP (by decide) (tw_lt ho17 (congrFun hN 21)) ha ho) (fun H locs hP hS => ?_)
          obtain ⟨τ19, eτ19⟩ : ∃ y : tw_T, y = sI τ15 21 o17 7 ((0 : Int32)) := ⟨_, rfl⟩
          have hF := hF τ19 eτ19
          rw [← eτ19] at hP
          have hN : gN τ19 = gN τ0 := by rw [eτ19]; exact hN
          exact j126 τ19 p0 hp0 u2 _ _ _ _ _ hF hP hN hS (lv_sub hl [0, 1] rfl) (fun t v2 H locs ls hF hP hN hS hl => ih t v2 _ _ _ hF hP hN hS hl hEX) hEX
  refine lv_iload_n hx hb dX9_wait_0 rfl (lv_at hl 1 rfl) ?_
  refine lv_i2l (v := x1.toInt64) hx hb dX9_wait_1 rfl ?_
  refine lv_lconst (v := 0) hx hb dX9_wait_2 (by decide) ?_
  refine lv_ldc2 (v := 100000) hx hb hown (hts (.constantLong RX9 254 100000) (by decide +kernel)) dX9_wait_3 ?_
  refine va_calli (va_runS (As := [.long x1.toInt64, .long ((0 : Int64)), .long ((100000 : Int64))]) (rest := []) ⟨hx, hb, hml, hown, hts⟩ (mX9_isWithin l dC dI ac sa A ad τ0 x1.toInt64 ((0 : Int64)) ((100000 : Int64)) _ hF ) (va_cwS 3 hts gX9_wait_X9_isWithin rfl rfl rfl (by decide +kernel) ⟨Nat.le_of_ble_eq_true rfl, Nat.le_of_ble_eq_true rfl⟩) ⟨BX.blind, fun U hU hW => ⟨rfl, BX.of hP hK hS hA hZ hU hW⟩⟩ rfl rfl hl.1 rfl (lv_room (Nat.le_of_ble_eq_true rfl)) dX9_wait_6 ⟨Nat.le_of_ble_eq_true rfl, Nat.le_of_ble_eq_true rfl⟩) hS (fun q _ h => h) (fun q h => h) (fun r21 τ20 t H locs ht hvm hw hB hz hk hS => ?_)
  obtain ⟨hF, hN9⟩ := hw
  have hP : PX dC dI ac A ad τ20 H := tw_back hB ht
  have hN : gN τ20 = gN τ0 := hN9.trans hN
  refine lv_if_ne (tgt := 23) hx hb dX9_wait_9 (by decide) (fun c22 => ?_) (fun c22 => ?_)
  · have hF := hF.1 c22
    refine lv_aload_n hx hb dX9_wait_23 rfl (lv_at hl 0 rfl) ?_
    refine tw_get (v := .int (gI τ20 0 k0 15)) hx hb hts (by decide +kernel) hown hK hP (by decide) (tw_lt hk0 (congrFun hN 0)) rfl rfl 15 (by decide) (hts (.fieldLink RX9 85 "WineCellar" "hour" "I") (by decide +kernel)) (fun _ h9 => h9) rfl dX9_wait_24 ?_
    refine lv_iload_n hx hb dX9_wait_27 rfl (lv_at hl 1 rfl) ?_
    refine lv_iadd hx hb dX9_wait_28 ?_
    refine lv_ldcw (v := 1000000) hx hb hown (hts (.constant RX9 258 1000000) (by decide +kernel)) dX9_wait_29 ?_
    refine lv_icmp_le (tgt := 46) hx hb dX9_wait_32 (by decide) (fun c23 => ?_) (fun c23 => ?_)
    · have hF := hF.1 c23
      refine lv_aload_n hx hb dX9_wait_46 rfl (lv_at hl 0 rfl) ?_
      refine lv_dup hx hb dX9_wait_47 rfl ?_
      refine tw_get (v := .int (gI τ20 0 k0 15)) hx hb hts (by decide +kernel) hown hK hP (by decide) (tw_lt hk0 (congrFun hN 0)) rfl rfl 15 (by decide) (hts (.fieldLink RX9 85 "WineCellar" "hour" "I") (by decide +kernel)) (fun _ h9 => h9) rfl dX9_wait_48 ?_
      refine lv_iload_n hx hb dX9_wait_51 rfl (lv_at hl 1 rfl) ?_
      refine lv_iadd hx hb dX9_wait_52 ?_
      refine tw_put (τ' := sI τ20 0 k0 15 ((gI τ20 0 k0 15) + x1)) (ty := .int) hx hb hts (by decide +kernel) tyX9 tyX9_ok nmX9 hown hK hP hS (by decide) (tw_lt hk0 (congrFun hN 0)) rfl rfl 15 (by decide) (hts (.fieldLink RX9 85 "WineCellar" "hour" "I") (by decide +kernel)) (fun _ h9 => h9) rfl (by decide +kernel) rfl rfl (Nat.le_of_ble_eq_true rfl) dX9_wait_53 (fun H1 ha ho => tw_updI hP (by decide) (tw_lt hk0 (congrFun hN 0)) ha ho) (fun H locs hP hS => ?_)
      obtain ⟨τ24, eτ24⟩ : ∃ y : tw_T, y = sI τ20 0 k0 15 ((gI τ20 0 k0 15) + x1) := ⟨_, rfl⟩
      have hF := hF τ24 eτ24
      rw [← eτ24] at hP
      have hN : gN τ24 = gN τ0 := by rw [eτ24]; exact hN
      refine lv_iconst (v := 0) hx hb dX9_wait_56 (by decide) ?_
      refine lv_istore_n (lv' := [(2, .int ((0 : Int32))), (0, .ref (ad 0 k0)), (1, .int x1)]) hx hb dX9_wait_57 rfl hl (by decide) rfl (fun ls hl => ?_)
      obtain ⟨n25, hF⟩ := hF
      refine l58 k0 hk0 _ n25 τ24 ((0 : Int32)) _ _ _ hF hP hN hS (lv_sub hl [1, 0] rfl) ?_
      intro τ26 z27 H locs ls hF hP hN hS hl
      refine lv_aload_n hx hb dX9_wait_132 rfl (lv_at hl 0 rfl) ?_
      refine tw_get (v := .int (gI τ26 0 k0 15)) hx hb hts (by decide +kernel) hown hK hP (by decide) (tw_lt hk0 (congrFun hN 0)) rfl rfl 15 (by decide) (hts (.fieldLink RX9 85 "WineCellar" "hour" "I") (by decide +kernel)) (fun _ h9 => h9) rfl dX9_wait_133 ?_
      refine W.widen (k := 1) (n := 6) (by decide) (by decide) ?_
      exact vx_ret (W.iret (v := gI τ26 0 k0 15) hx hb hr (fun t ht hW => ⟨⟨(gI τ26 0 k0 15), τ26, rfl, ⟨hF, hN⟩, tw_at hP ht⟩, hS.F ht⟩) hS.2.2 dX9_wait_136)
    · have hF := hF.2 c23
      exact vx_throwSW (names := zx_names) hx hb hlt hown (by decide +kernel) (by decide +kernel) (hts (.classLink RX9 259 "java/lang/IllegalStateException") (by decide +kernel)) (hts (.initialized "java/lang/IllegalStateException") (by decide +kernel)) (hZ.2.2.1 (261, "too late an hour", 38) (by decide +kernel)) (zx_hat2 hts (by decide +kernel) hZ.2.2.2.2.2) zx_ot2 hZ.2.1.1 hZ.2.1.2 hS (hl.1.trans hml.symm) dX9_wait_35 dX9_wait_38 dX9_wait_39 dX9_wait_42 dX9_wait_45 (fun x9 hx9 => (htab x9 hx9).elim) (Nat.le_of_ble_eq_true rfl) (Nat.le_of_ble_eq_true rfl) (Nat.le_of_ble_eq_true rfl) (Nat.le_of_ble_eq_true rfl) hlocks (fun t hvm hz hk => ⟨(2, τ20), ⟨hF, hN⟩, ⟨rfl, (tw_thrown hP hS hz hk).1⟩, (tw_thrown hP hS hz hk).2⟩) hS.2.2 (by decide) (by decide)
  · have hF := hF.2 c22
    exact vx_throwSW (names := zx_names) hx hb hlt hown (by decide +kernel) (by decide +kernel) (hts (.classLink RX9 96 "java/lang/IllegalArgumentException") (by decide +kernel)) (hts (.initialized "java/lang/IllegalArgumentException") (by decide +kernel)) (hZ.2.2.1 (256, "no such number of hours", 37) (by decide +kernel)) (zx_hat0 hts (by decide +kernel) hZ.2.2.2.2.2) zx_ot0 hZ.2.1.1 hZ.2.1.2 hS (hl.1.trans hml.symm) dX9_wait_12 dX9_wait_15 dX9_wait_16 dX9_wait_19 dX9_wait_22 (fun x9 hx9 => (htab x9 hx9).elim) (Nat.le_of_ble_eq_true rfl) (Nat.le_of_ble_eq_true rfl) (Nat.le_of_ble_eq_true rfl) (Nat.le_of_ble_eq_true rfl) hlocks (fun t hvm hz hk => ⟨(0, τ20), ⟨hF, hN⟩, ⟨rfl, (tw_thrown hP hS hz hk).1⟩, (tw_thrown hP hS hz hk).2⟩) hS.2.2 (by decide) (by decide)
def F_J0_coder_7d493 (τ0 : tw_T) (q0 : Nat) (Q : Int32 → tw_T → Prop) : Prop := ((((1 : Int32)) = 0 → (narrow .byte (.int ((1 : Int32))) = .int ((1 : Int32)) ∧ (Q ((1 : Int32)) τ0))) ∧ (¬ ((1 : Int32)) = 0 → (narrow .byte (.int ((0 : Int32))) = .int ((0 : Int32)) ∧ (Q ((0 : Int32)) τ0))))
def rmJ0_coder_7d493 : Room := { frames := 0, cells := 0, slots := 0, locals := 0 }
set_option maxHeartbeats 4000000 in
set_option maxRecDepth 100000 in
theorem mJ0_coder_7d493 (l : Launch) (dC : Nat → ClassId) (dI : Nat → Nat → Nat) (ac : Nat → ClassId) (sa : Nat → Nat) (A : Nat → Prop) (ad : Nat → Nat → Nat) (τ0 : tw_T) (q0 : Nat) (Q : Int32 → tw_T → Prop) (hF : F_J0_coder_7d493 τ0 q0 Q) (hq0 : q0 < 8) : Met l yJ0_coder_7d493 wsJ0_coder_7d493 rmJ0_coder_7d493 (va_Pc [.ref (sa (8 + q0))] (BX dC dI ac sa A ad τ0)) (va_Qi (fun r (u : tw_T) => Q r u ∧ gN u = gN τ0) (fun u t => PX dC dI ac A ad u t.heap) A) 0 0 A := by
  refine Met.ofW (cc := cJ0_coder_7d493) (maxL := 1) (ret := (some .byte)) (by decide) rfl ?_
  intro p e s m args below meth c s₁ B hml hv
  obtain ⟨rfl, hP, hK, hA, hZ⟩ := hv
  have hx := B.exec
  have hb := B.bytes
  have hr := B.returns
  have hts := atoms_spec (ws := wsJ0_coder_7d493) B.pre
  have hown : s.vm.findClass RJ0 = some m.cls := findClass_of_methodNamed B.named
  have hlocks := B.notSynchronized
  have hS : va_S A s.heap s.heap [] := va_S.rf
  have hN : gN τ0 = gN τ0 := rfl
  have hl := lv_entry ([.ref (sa (8 + q0))]) (n := 1) (Nat.le_of_ble_eq_true rfl)
  rw [lg_entry_eq]
  generalize (lg_sl ([.ref (sa (8 + q0))]) ++ List.replicate (1 - (lg_sl ([.ref (sa (8 + q0))])).length) Slot.unset).toArray = ls at hl ⊢
  have hl : lv_has ls 1 [(0, .ref (sa (8 + q0)))] := hl
  unfold F_J0_coder_7d493 at hF
  refine va_gets (C := RJ0) (n := "COMPACT_STRINGS") (d := "Z") (v := .int 1) hx hb hZ.1.2.2.2.2.2.2.2.1 hS hown (hts (.fieldLink RJ0 38 "java/lang/String" "COMPACT_STRINGS" "Z") (by decide +kernel)) (fun _ h9 => h9) dJ0_coder_7d493_0 ?_
  refine lv_if_eq (tgt := 13) hx hb dJ0_coder_7d493_3 (by decide) (fun c1 => ?_) (fun c1 => ?_)
  · have hF := hF.1 c1
    refine lv_iconst (v := 1) hx hb dJ0_coder_7d493_13 (by decide) ?_
    obtain ⟨hb9, hF⟩ := hF
    exact W.zret (v := (1 : Int32)) (ty := .byte) hx hb hr hb9 (fun t ht hW => ⟨⟨((1 : Int32)), τ0, rfl, ⟨hF, hN⟩, tw_at hP ht⟩, hS.F ht⟩) hS.2.2 dJ0_coder_7d493_14
  · have hF := hF.2 c1
    refine lv_aload_n hx hb dJ0_coder_7d493_6 rfl (lv_at hl 0 rfl) ?_
    refine vk_getf hx hb (hZ.1.2.2.1.1 q0 hq0).2.1 hS hown (hts (.fieldLink RJ0 15 "java/lang/String" "coder" "B") (by decide +kernel)) (fun _ h9 => h9) dJ0_coder_7d493_7 ?_
    refine lv_goto (tgt := 14) hx hb dJ0_coder_7d493_10 (by decide) ?_
    obtain ⟨hb9, hF⟩ := hF
    exact W.zret (v := (0 : Int32)) (ty := .byte) hx hb hr hb9 (fun t ht hW => ⟨⟨((0 : Int32)), τ0, rfl, ⟨hF, hN⟩, tw_at hP ht⟩, hS.F ht⟩) hS.2.2 dJ0_coder_7d493_14
def F_J0_isLatin1_aae02 (τ0 : tw_T) (q0 : Nat) (Q : Int32 → tw_T → Prop) : Prop := ((((1 : Int32)) = 0 → (Q ((0 : Int32)) τ0)) ∧ (¬ ((1 : Int32)) = 0 → (((¬ ((0 : Int32)) = 0 → (Q ((0 : Int32)) τ0)) ∧ (((0 : Int32)) = 0 → (Q ((1 : Int32)) τ0))))))
def rmJ0_isLatin1_aae02 : Room := { frames := 0, cells := 0, slots := 0, locals := 0 }
set_option maxHeartbeats 4000000 in
set_option maxRecDepth 100000 in
theorem mJ0_isLatin1_aae02 (l : Launch) (dC : Nat → ClassId) (dI : Nat → Nat → Nat) (ac : Nat → ClassId) (sa : Nat → Nat) (A : Nat → Prop) (ad : Nat → Nat → Nat) (τ0 : tw_T) (q0 : Nat) (Q : Int32 → tw_T → Prop) (hF : F_J0_isLatin1_aae02 τ0 q0 Q) (hq0 : q0 < 8) : Met l yJ0_isLatin1_aae02 wsJ0_isLatin1_aae02 rmJ0_isLatin1_aae02 (va_Pc [.ref (sa (8 + q0))] (BX dC dI ac sa A ad τ0)) (va_Qi (fun r (u : tw_T) => Q r u ∧ gN u = gN τ0) (fun u t => PX dC dI ac A ad u t.heap) A) 0 0 A := by
  refine Met.ofW (cc := cJ0_isLatin1_aae02) (maxL := 1) (ret := (some .boolean)) (by decide) rfl ?_
  intro p e s m args below meth c s₁ B hml hv
  obtain ⟨rfl, hP, hK, hA, hZ⟩ := hv
  have hx := B.exec
  have hb := B.bytes
  have hr := B.returns
  have hts := atoms_spec (ws := wsJ0_isLatin1_aae02) B.pre
  have hown : s.vm.findClass RJ0 = some m.cls := findClass_of_methodNamed B.named
  have hlocks := B.notSynchronized
  have hS : va_S A s.heap s.heap [] := va_S.rf
  have hN : gN τ0 = gN τ0 := rfl
  have hl := lv_entry ([.ref (sa (8 + q0))]) (n := 1) (Nat.le_of_ble_eq_true rfl)
  rw [lg_entry_eq]
  generalize (lg_sl ([.ref (sa (8 + q0))]) ++ List.replicate (1 - (lg_sl ([.ref (sa (8 + q0))])).length) Slot.unset).toArray = ls at hl ⊢
  have hl : lv_has ls 1 [(0, .ref (sa (8 + q0)))] := hl
  unfold F_J0_isLatin1_aae02 at hF
  refine va_gets (C := RJ0) (n := "COMPACT_STRINGS") (d := "Z") (v := .int 1) hx hb hZ.1.2.2.2.2.2.2.2.1 hS hown (hts (.fieldLink RJ0 38 "java/lang/String" "COMPACT_STRINGS" "Z") (by decide +kernel)) (fun _ h9 => h9) dJ0_isLatin1_aae02_0 ?_
  refine lv_if_eq (tgt := 17) hx hb dJ0_isLatin1_aae02_3 (by decide) (fun c1 => ?_) (fun c1 => ?_)
  · have hF := hF.1 c1
    refine lv_iconst (v := 0) hx hb dJ0_isLatin1_aae02_17 (by decide) ?_
    exact W.zret (v := (0 : Int32)) (ty := .boolean) hx hb hr rfl (fun t ht hW => ⟨⟨((0 : Int32)), τ0, rfl, ⟨hF, hN⟩, tw_at hP ht⟩, hS.F ht⟩) hS.2.2 dJ0_isLatin1_aae02_18
  · have hF := hF.2 c1
    refine lv_aload_n hx hb dJ0_isLatin1_aae02_6 rfl (lv_at hl 0 rfl) ?_
    refine vk_getf hx hb (hZ.1.2.2.1.1 q0 hq0).2.1 hS hown (hts (.fieldLink RJ0 15 "java/lang/String" "coder" "B") (by decide +kernel)) (fun _ h9 => h9) dJ0_isLatin1_aae02_7 ?_
    refine lv_if_ne (tgt := 17) hx hb dJ0_isLatin1_aae02_10 (by decide) (fun c2 => ?_) (fun c2 => ?_)
    · have hF := hF.1 c2
      refine lv_iconst (v := 0) hx hb dJ0_isLatin1_aae02_17 (by decide) ?_
      exact W.zret (v := (0 : Int32)) (ty := .boolean) hx hb hr rfl (fun t ht hW => ⟨⟨((0 : Int32)), τ0, rfl, ⟨hF, hN⟩, tw_at hP ht⟩, hS.F ht⟩) hS.2.2 dJ0_isLatin1_aae02_18
    · have hF := hF.2 c2
      refine lv_iconst (v := 1) hx hb dJ0_isLatin1_aae02_13 (by decide) ?_
      refine lv_goto (tgt := 18) hx hb dJ0_isLatin1_aae02_14 (by decide) ?_
      exact W.zret (v := (1 : Int32)) (ty := .boolean) hx hb hr rfl (fun t ht hW => ⟨⟨((1 : Int32)), τ0, rfl, ⟨hF, hN⟩, tw_at hP ht⟩, hS.F ht⟩) hS.2.2 dJ0_isLatin1_aae02_18
def F_J0_length_8abf5 (τ0 : tw_T) (q0 : Nat) (Q : Int32 → tw_T → Prop) : Prop := F_J0_coder_7d493 τ0 q0 (fun (r2 : Int32) (τ1 : tw_T) => (Q ((Int32.ofNat (zx_len.getD q0 0)) >>> (r2 &&& 31)) τ1))
def rmJ0_length_8abf5 : Room := { frames := 1, cells := 0, slots := 0, locals := 20 }
set_option maxHeartbeats 4000000 in
set_option maxRecDepth 100000 in
theorem mJ0_length_8abf5 (l : Launch) (dC : Nat → ClassId) (dI : Nat → Nat → Nat) (ac : Nat → ClassId) (sa : Nat → Nat) (A : Nat → Prop) (ad : Nat → Nat → Nat) (τ0 : tw_T) (q0 : Nat) (Q : Int32 → tw_T → Prop) (hF : F_J0_length_8abf5 τ0 q0 Q) (hq0 : q0 < 8) : Met l yJ0_length_8abf5 wsJ0_length_8abf5 rmJ0_length_8abf5 (va_Pc [.ref (sa (8 + q0))] (BX dC dI ac sa A ad τ0)) (va_Qi (fun r (u : tw_T) => Q r u ∧ gN u = gN τ0) (fun u t => PX dC dI ac A ad u t.heap) A) 0 0 A := by
  refine Met.ofW (cc := cJ0_length_8abf5) (maxL := 1) (ret := (some .int)) (by decide) rfl ?_
  intro p e s m args below meth c s₁ B hml hv
  obtain ⟨rfl, hP, hK, hA, hZ⟩ := hv
  have hx := B.exec
  have hb := B.bytes
  have hr := B.returns
  have hts := atoms_spec (ws := wsJ0_length_8abf5) B.pre
  have hown : s.vm.findClass RJ0 = some m.cls := findClass_of_methodNamed B.named
  have hlocks := B.notSynchronized
  have hS : va_S A s.heap s.heap [] := va_S.rf
  have hN : gN τ0 = gN τ0 := rfl
  have hl := lv_entry ([.ref (sa (8 + q0))]) (n := 1) (Nat.le_of_ble_eq_true rfl)
  rw [lg_entry_eq]
  generalize (lg_sl ([.ref (sa (8 + q0))]) ++ List.replicate (1 - (lg_sl ([.ref (sa (8 + q0))])).length) Slot.unset).toArray = ls at hl ⊢
  have hl : lv_has ls 1 [(0, .ref (sa (8 + q0)))] := hl
  unfold F_J0_length_8abf5 at hF
  refine lv_aload_n hx hb dJ0_length_8abf5_0 rfl (lv_at hl 0 rfl) ?_
  refine vk_getf hx hb (hZ.1.2.2.1.1 q0 hq0).2.2.1 hS hown (hts (.fieldLink RJ0 9 "java/lang/String" "value" "[B") (by decide +kernel)) (fun _ h9 => h9) dJ0_length_8abf5_1 ?_
  refine va_tlen (v := Int32.ofNat (zx_len.getD q0 0)) hx hb (hZ.1.2.2.1.1 q0 hq0).2.2.2 hS rfl dJ0_length_8abf5_4 ?_
  refine lv_aload_n hx hb dJ0_length_8abf5_5 rfl (lv_at hl 0 rfl) ?_
  refine va_calli (va_runV (As := []) (rest := [.int (Int32.ofNat (zx_len.getD q0 0))]) ⟨hx, hb, hml, hown, hts⟩ (mJ0_coder_7d493 l dC dI ac sa A ad τ0 q0 _ hF hq0) (cwV 0 hts gJ0_length_8abf5_J0_coder_7d493 rfl rfl rfl (by decide +kernel) ⟨Nat.le_of_ble_eq_true rfl, Nat.le_of_ble_eq_true rfl⟩) ⟨BX.blind, vk_recv hZ.1.2.2.1 hq0 hS, fun U hU hW => ⟨rfl, BX.of hP hK hS hA hZ hU hW⟩⟩ rfl rfl hl.1 rfl (lv_room (Nat.le_of_ble_eq_true rfl)) dJ0_length_8abf5_6 ⟨Nat.le_of_ble_eq_true rfl, Nat.le_of_ble_eq_true rfl⟩) hS (fun q _ h => h) (fun q h => h) (fun r2 τ1 t H locs ht hvm hw hB hz hk hS => ?_)
  obtain ⟨hF, hN9⟩ := hw
  have hP : PX dC dI ac A ad τ1 H := tw_back hB ht
  have hN : gN τ1 = gN τ0 := hN9.trans hN
  refine lv_ishr hx hb dJ0_length_8abf5_9 ?_
  exact W.iret (v := (Int32.ofNat (zx_len.getD q0 0)) >>> (r2 &&& 31)) hx hb hr (fun t ht hW => ⟨⟨((Int32.ofNat (zx_len.getD q0 0)) >>> (r2 &&& 31)), τ1, rfl, ⟨hF, hN⟩, tw_at hP ht⟩, hS.F ht⟩) hS.2.2 dJ0_length_8abf5_10
def F_X0_addTerm (τ0 : tw_T) (k0 : Nat) (q1 : Nat) (x2 : Int32) (x3 : Int32) (x4 : Int32) (Q : tw_T → Prop) : Prop := F_X0_isFull τ0 k0 (fun (r2 : Int32) (τ1 : tw_T) => (((r2 = 0 → (∃ o4 : Nat, gR τ1 22 k0 0 = some o4 ∧ (vp_in (gI τ1 22 k0 4) 12 ∧ (∀ τ6 : tw_T, τ6 = sR τ1 30 o4 (gI τ1 22 k0 4).toNatClampNeg (some q1) → (∃ o7 : Nat, gR τ6 22 k0 1 = some o7 ∧ (vp_in (gI τ6 22 k0 4) 12 ∧ (∀ τ9 : tw_T, τ9 = sI τ6 31 o7 (gI τ6 22 k0 4).toNatClampNeg x2 → (∃ o10 : Nat, gR τ9 22 k0 2 = some o10 ∧ (vp_in (gI τ9 22 k0 4) 12 ∧ (∀ τ12 : tw_T, τ12 = sI τ9 32 o10 (gI τ9 22 k0 4).toNatClampNeg x3 → (∃ o13 : Nat, gR τ12 22 k0 3 = some o13 ∧ (vp_in (gI τ12 22 k0 4) 12 ∧ (∀ τ15 : tw_T, τ15 = sI τ12 33 o13 (gI τ12 22 k0 4).toNatClampNeg x4 → (∀ τ16 : tw_T, τ16 = sI τ15 22 k0 4 ((gI τ15 22 k0 4) + ((1 : Int32))) → (Q τ16))))))))))))))) ∧ (¬ r2 = 0 → (Q τ1)))))
def rmX0_addTerm : Room := { frames := 1, cells := 0, slots := 0, locals := 20 }
set_option maxHeartbeats 4000000 in
set_option maxRecDepth 100000 in
theorem mX0_addTerm (l : Launch) (dC : Nat → ClassId) (dI : Nat → Nat → Nat) (ac : Nat → ClassId) (sa : Nat → Nat) (A : Nat → Prop) (ad : Nat → Nat → Nat) (τ0 : tw_T) (k0 : Nat) (q1 : Nat) (x2 : Int32) (x3 : Int32) (x4 : Int32) (Q : tw_T → Prop) (hF : F_X0_addTerm τ0 k0 q1 x2 x3 x4 Q) (hk0 : k0 < gN τ0 22) (hq1 : q1 < 8) (hsa : ∀ i, i < 8 → ad 1000 i = sa i) (h8 : 8 ≤ gN τ0 1000) : Met l yX0_addTerm wsX0_addTerm rmX0_addTerm (va_Pc [.ref (ad 22 k0), .ref (sa q1), .int x2, .int x3, .int x4] (BX dC dI ac sa A ad τ0)) (va_Qv (fun (u : tw_T) => Q u ∧ gN u = gN τ0) (fun u t => PX dC dI ac A ad u t.heap) A) 0 0 A := by
  refine Met.ofW (cc := cX0_addTerm) (maxL := 5) (ret := none) (by decide) rfl ?_
  intro p e s m args below meth c s₁ B hml hv
  obtain ⟨rfl, hP, hK, hA, hZ⟩ := hv
  have hx := B.exec
  have hb := B.bytes
  have hr := B.returns
  have hts := atoms_spec (ws := wsX0_addTerm) B.pre
  have hown : s.vm.findClass RX0 = some m.cls := findClass_of_methodNamed B.named
  have hlocks := B.notSynchronized
  have hS : va_S A s.heap s.heap [] := va_S.rf
  have hN : gN τ0 = gN τ0 := rfl
  have hl := lv_entry ([.ref (ad 22 k0), .ref (sa q1), .int x2, .int x3, .int x4]) (n := 5) (Nat.le_of_ble_eq_true rfl)
  rw [lg_entry_eq]
  generalize (lg_sl ([.ref (ad 22 k0), .ref (sa q1), .int x2, .int x3, .int x4]) ++ List.replicate (5 - (lg_sl ([.ref (ad 22 k0), .ref (sa q1), .int x2, .int x3, .int x4])).length) Slot.unset).toArray = ls at hl ⊢
  have hl : lv_has ls 5 [(0, .ref (ad 22 k0)), (1, .ref (sa q1)), (2, .int x2), (3, .int x3), (4, .int x4)] := hl
  unfold F_X0_addTerm at hF
  refine lv_aload_n hx hb dX0_addTerm_0 rfl (lv_at hl 0 rfl) ?_
  refine va_calli (va_runV (As := []) (rest := []) ⟨hx, hb, hml, hown, hts⟩ (mX0_isFull l dC dI ac sa A ad τ0 k0 _ hF hk0) (cwV 0 hts gX0_addTerm_X0_isFull rfl rfl rfl (by decide +kernel) ⟨Nat.le_of_ble_eq_true rfl, Nat.le_of_ble_eq_true rfl⟩) ⟨BX.blind, tw_recv hK hP (by decide) hk0 rfl rfl, fun U hU hW => ⟨rfl, BX.of hP hK hS hA hZ hU hW⟩⟩ rfl rfl hl.1 rfl (lv_room (Nat.le_of_ble_eq_true rfl)) dX0_addTerm_1 ⟨Nat.le_of_ble_eq_true rfl, Nat.le_of_ble_eq_true rfl⟩) hS (fun q _ h => h) (fun q h => h) (fun r2 τ1 t H locs ht hvm hw hB hz hk hS => ?_)
  obtain ⟨hF, hN9⟩ := hw
  have hP : PX dC dI ac A ad τ1 H := tw_back hB ht
  have hN : gN τ1 = gN τ0 := hN9.trans hN
  refine lv_if_eq (tgt := 8) hx hb dX0_addTerm_4 (by decide) (fun c3 => ?_) (fun c3 => ?_)
  · have hF := hF.1 c3
    refine lv_aload_n hx hb dX0_addTerm_8 rfl (lv_at hl 0 rfl) ?_
    obtain ⟨o4, eo4, hF⟩ := hF
    have ho4 : o4 < gN τ0 30 := tw_lt (hP.2.2.2 22 k0 0 o4 (by decide) (tw_lt hk0 (congrFun hN 22)) eo4) (congrFun hN 30).symm
    refine tw_get (v := .ref (ad 30 o4)) hx hb hts (by decide +kernel) hown hK hP (by decide) (tw_lt hk0 (congrFun hN 22)) rfl rfl 0 (by decide) (hts (.fieldLink RX0 11 "WineCellar$Dish" "tests" "[LWineCellar$Test;") (by decide +kernel)) (fun _ h9 => h9) (show some (va_rf ((gR τ1 22 k0 0).map (ad 30))) = some (.ref (ad 30 o4)) by rw [eo4]; rfl) dX0_addTerm_9 ?_
    refine lv_aload_n hx hb dX0_addTerm_12 rfl (lv_at hl 0 rfl) ?_
    refine tw_get (v := .int (gI τ1 22 k0 4)) hx hb hts (by decide +kernel) hown hK hP (by decide) (tw_lt hk0 (congrFun hN 22)) rfl rfl 4 (by decide) (hts (.fieldLink RX0 27 "WineCellar$Dish" "terms" "I") (by decide +kernel)) (fun _ h9 => h9) rfl dX0_addTerm_13 ?_
    refine lv_aload_n hx hb dX0_addTerm_16 rfl (lv_at hl 1 rfl) ?_
    obtain ⟨hi5, hF⟩ := hF
    refine tw_aastS hx hb hK hP hS hZ.1.1 (by decide) (tw_lt ho4 (congrFun hN 30)) rfl 7 rfl (fun _ => rfl) hq1 (by rw [congrFun hN 1000]; exact h8) (hsa q1 hq1) hi5 dX0_addTerm_17 (fun H locs hP hS => ?_)
    obtain ⟨τ6, eτ6⟩ : ∃ y : tw_T, y = sR τ1 30 o4 (gI τ1 22 k0 4).toNatClampNeg (some q1) := ⟨_, rfl⟩
    have hF := hF τ6 eτ6
    rw [← eτ6] at hP
    have hN : gN τ6 = gN τ0 := by rw [eτ6]; exact hN
    refine lv_aload_n hx hb dX0_addTerm_18 rfl (lv_at hl 0 rfl) ?_
    obtain ⟨o7, eo7, hF⟩ := hF
    have ho7 : o7 < gN τ0 31 := tw_lt (hP.2.2.2 22 k0 1 o7 (by decide) (tw_lt hk0 (congrFun hN 22)) eo7) (congrFun hN 31).symm
    refine tw_get (v := .ref (ad 31 o7)) hx hb hts (by decide +kernel) hown hK hP (by decide) (tw_lt hk0 (congrFun hN 22)) rfl rfl 1 (by decide) (hts (.fieldLink RX0 17 "WineCellar$Dish" "signs" "[I") (by decide +kernel)) (fun _ h9 => h9) (show some (va_rf ((gR τ6 22 k0 1).map (ad 31))) = some (.ref (ad 31 o7)) by rw [eo7]; rfl) dX0_addTerm_19 ?_
    refine lv_aload_n hx hb dX0_addTerm_22 rfl (lv_at hl 0 rfl) ?_
    refine tw_get (v := .int (gI τ6 22 k0 4)) hx hb hts (by decide +kernel) hown hK hP (by decide) (tw_lt hk0 (congrFun hN 22)) rfl rfl 4 (by decide) (hts (.fieldLink RX0 27 "WineCellar$Dish" "terms" "I") (by decide +kernel)) (fun _ h9 => h9) rfl dX0_addTerm_23 ?_
    refine lv_iload_n hx hb dX0_addTerm_26 rfl (lv_at hl 2 rfl) ?_
    obtain ⟨hi8, hF⟩ := hF
    refine tw_iast hx hb hK hP hS (by decide) (tw_lt ho7 (congrFun hN 31)) rfl 0 rfl hi8 dX0_addTerm_27 (fun H locs hP hS => ?_)
    obtain ⟨τ9, eτ9⟩ : ∃ y : tw_T, y = sI τ6 31 o7 (gI τ6 22 k0 4).toNatClampNeg x2 := ⟨_, rfl⟩
    have hF := hF τ9 eτ9
    rw [← eτ9] at hP
    have hN : gN τ9 = gN τ0 := by rw [eτ9]; exact hN
    refine lv_aload_n hx hb dX0_addTerm_28 rfl (lv_at hl 0 rfl) ?_
    obtain ⟨o10, eo10, hF⟩ := hF
    have ho10 : o10 < gN τ0 32 := tw_lt (hP.2.2.2 22 k0 2 o10 (by decide) (tw_lt hk0 (congrFun hN 22)) eo10) (congrFun hN 32).symm
    refine tw_get (v := .ref (ad 32 o10)) hx hb hts (by decide +kernel) hown hK hP (by decide) (tw_lt hk0 (congrFun hN 22)) rfl rfl 2 (by decide) (hts (.fieldLink RX0 21 "WineCellar$Dish" "limits" "[I") (by decide +kernel)) (fun _ h9 => h9) (show some (va_rf ((gR τ9 22 k0 2).map (ad 32))) = some (.ref (ad 32 o10)) by rw [eo10]; rfl) dX0_addTerm_29 ?_
    refine lv_aload_n hx hb dX0_addTerm_32 rfl (lv_at hl 0 rfl) ?_
    refine tw_get (v := .int (gI τ9 22 k0 4)) hx hb hts (by decide +kernel) hown hK hP (by decide) (tw_lt hk0 (congrFun hN 22)) rfl rfl 4 (by decide) (hts (.fieldLink RX0 27 "WineCellar$Dish" "terms" "I") (by decide +kernel)) (fun _ h9 => h9) rfl dX0_addTerm_33 ?_
    refine lv_iload_n hx hb dX0_addTerm_36 rfl (lv_at hl 3 rfl) ?_
    obtain ⟨hi11, hF⟩ := hF
    refine tw_iast hx hb hK hP hS (by decide) (tw_lt ho10 (congrFun hN 32)) rfl 0 rfl hi11 dX0_addTerm_37 (fun H locs hP hS => ?_)
    obtain ⟨τ12, eτ12⟩ : ∃ y : tw_T, y = sI τ9 32 o10 (gI τ9 22 k0 4).toNatClampNeg x3 := ⟨_, rfl⟩
    have hF := hF τ12 eτ12
    rw [← eτ12] at hP
    have hN : gN τ12 = gN τ0 := by rw [eτ12]; exact hN
    refine lv_aload_n hx hb dX0_addTerm_38 rfl (lv_at hl 0 rfl) ?_
    obtain ⟨o13, eo13, hF⟩ := hF
    have ho13 : o13 < gN τ0 33 := tw_lt (hP.2.2.2 22 k0 3 o13 (by decide) (tw_lt hk0 (congrFun hN 22)) eo13) (congrFun hN 33).symm
    refine tw_get (v := .ref (ad 33 o13)) hx hb hts (by decide +kernel) hown hK hP (by decide) (tw_lt hk0 (congrFun hN 22)) rfl rfl 3 (by decide) (hts (.fieldLink RX0 24 "WineCellar$Dish" "points" "[I") (by decide +kernel)) (fun _ h9 => h9) (show some (va_rf ((gR τ12 22 k0 3).map (ad 33))) = some (.ref (ad 33 o13)) by rw [eo13]; rfl) dX0_addTerm_39 ?_
    refine lv_aload_n hx hb dX0_addTerm_42 rfl (lv_at hl 0 rfl) ?_
    refine tw_get (v := .int (gI τ12 22 k0 4)) hx hb hts (by decide +kernel) hown hK hP (by decide) (tw_lt hk0 (congrFun hN 22)) rfl rfl 4 (by decide) (hts (.fieldLink RX0 27 "WineCellar$Dish" "terms" "I") (by decide +kernel)) (fun _ h9 => h9) rfl dX0_addTerm_43 ?_
    refine lv_iload hx hb dX0_addTerm_46 (lv_at hl 4 rfl) ?_
    obtain ⟨hi14, hF⟩ := hF
    refine tw_iast hx hb hK hP hS (by decide) (tw_lt ho13 (congrFun hN 33)) rfl 0 rfl hi14 dX0_addTerm_48 (fun H locs hP hS => ?_)
    obtain ⟨τ15, eτ15⟩ : ∃ y : tw_T, y = sI τ12 33 o13 (gI τ12 22 k0 4).toNatClampNeg x4 := ⟨_, rfl⟩
    have hF := hF τ15 eτ15
    rw [← eτ15] at hP
    have hN : gN τ15 = gN τ0 := by rw [eτ15]; exact hN
    refine lv_aload_n hx hb dX0_addTerm_49 rfl (lv_at hl 0 rfl) ?_
    refine lv_dup hx hb dX0_addTerm_50 rfl ?_
    refine tw_get (v := .int (gI τ15 22 k0 4)) hx hb hts (by decide +kernel) hown hK hP (by decide) (tw_lt hk0 (congrFun hN 22)) rfl rfl 4 (by decide) (hts (.fieldLink RX0 27 "WineCellar$Dish" "terms" "I") (by decide +kernel)) (fun _ h9 => h9) rfl dX0_addTerm_51 ?_
    refine lv_iconst (v := 1) hx hb dX0_addTerm_54 (by decide) ?_
    refine lv_iadd hx hb dX0_addTerm_55 ?_
    refine tw_put (τ' := sI τ15 22 k0 4 ((gI τ15 22 k0 4) + ((1 : Int32)))) (ty := .int) hx hb hts (by decide +kernel) tyX0 tyX0_ok nmX0 hown hK hP hS (by decide) (tw_lt hk0 (congrFun hN 22)) rfl rfl 4 (by decide) (hts (.fieldLink RX0 27 "WineCellar$Dish" "terms" "I") (by decide +kernel)) (fun _ h9 => h9) rfl (by decide +kernel) rfl rfl (Nat.le_of_ble_eq_true rfl) dX0_addTerm_56 (fun H1 ha ho => tw_updI hP (by decide) (tw_lt hk0 (congrFun hN 22)) ha ho) (fun H locs hP hS => ?_)
    obtain ⟨τ16, eτ16⟩ : ∃ y : tw_T, y = sI τ15 22 k0 4 ((gI τ15 22 k0 4) + ((1 : Int32))) := ⟨_, rfl⟩
    have hF := hF τ16 eτ16
    rw [← eτ16] at hP
    have hN : gN τ16 = gN τ0 := by rw [eτ16]; exact hN
    exact W.vret hx hb hr (fun t ht hW => ⟨⟨τ16, rfl, ⟨hF, hN⟩, tw_at hP ht⟩, hS.F ht⟩) hS.2.2 dX0_addTerm_59
  · have hF := hF.2 c3
    exact W.vret hx hb hr (fun t ht hW => ⟨⟨τ1, rfl, ⟨hF, hN⟩, tw_at hP ht⟩, hS.F ht⟩) hS.2.2 dX0_addTerm_7
def F_X0_measured (τ0 : tw_T) (q0 : Nat) (k1 : Nat) (x2 : Int32) (Q : Int32 → tw_T → Prop) : Prop := ((¬ q0 = 5 → (((¬ q0 = 6 → (F_X3_worthIn τ0 k1 x2 (fun (r4 : Int32) (τ3 : tw_T) => (Q r4 τ3)))) ∧ (q0 = 6 → (Q (x2 - (gI τ0 21 k1 2)) τ0))))) ∧ (q0 = 5 → (∃ o5 : Nat, gR τ0 21 k1 1 = some o5 ∧ (Q (gI τ0 20 o5 1) τ0))))
def rmX0_measured : Room := { frames := 2, cells := 0, slots := 0, locals := 43 }
set_option maxHeartbeats 4000000 in
set_option maxRecDepth 100000 in
theorem mX0_measured (l : Launch) (dC : Nat → ClassId) (dI : Nat → Nat → Nat) (ac : Nat → ClassId) (sa : Nat → Nat) (A : Nat → Prop) (ad : Nat → Nat → Nat) (τ0 : tw_T) (q0 : Nat) (k1 : Nat) (x2 : Int32) (Q : Int32 → tw_T → Prop) (hF : F_X0_measured τ0 q0 k1 x2 Q) (hq0 : q0 < 8) (hk1 : k1 < gN τ0 21) : Met l yX0_measured wsX0_measured rmX0_measured (va_Pc [.ref (sa q0), .ref (ad 21 k1), .int x2] (BX dC dI ac sa A ad τ0)) (va_Qi (fun r (u : tw_T) => Q r u ∧ gN u = gN τ0) (fun u t => PX dC dI ac A ad u t.heap) A) 0 0 A := by
  refine Met.ofW (cc := cX0_measured) (maxL := 3) (ret := (some .int)) (by decide) rfl ?_
  intro p e s m args below meth c s₁ B hml hv
  obtain ⟨rfl, hP, hK, hA, hZ⟩ := hv
  have hx := B.exec
  have hb := B.bytes
  have hr := B.returns
  have hts := atoms_spec (ws := wsX0_measured) B.pre
  have hown : s.vm.findClass RX0 = some m.cls := findClass_of_methodNamed B.named
  have hlocks := B.notSynchronized
  have hS : va_S A s.heap s.heap [] := va_S.rf
  have hN : gN τ0 = gN τ0 := rfl
  have hl := lv_entry ([.ref (sa q0), .ref (ad 21 k1), .int x2]) (n := 3) (Nat.le_of_ble_eq_true rfl)
  rw [lg_entry_eq]
  generalize (lg_sl ([.ref (sa q0), .ref (ad 21 k1), .int x2]) ++ List.replicate (3 - (lg_sl ([.ref (sa q0), .ref (ad 21 k1), .int x2])).length) Slot.unset).toArray = ls at hl ⊢
  have hl : lv_has ls 3 [(0, .ref (sa q0)), (1, .ref (ad 21 k1)), (2, .int x2)] := hl
  unfold F_X0_measured at hF
  refine lv_aload_n hx hb dX0_measured_0 rfl (lv_at hl 0 rfl) ?_
  refine va_gets (C := RX8) (n := "BODY") (d := "LWineCellar$Test;") (v := .ref (sa 5)) hx hb (hZ.1.1.1 5 (by decide)).1 hS hown (hts (.fieldLink RX0 73 "WineCellar$Test" "BODY" "LWineCellar$Test;") (by decide +kernel)) (fun _ h9 => h9) dX0_measured_1 ?_
  refine lv_acmp_ne (rx := some (sa q0)) (ry := some (sa 5)) (tgt := 15) hx hb dX0_measured_4 (by decide) (fun c1 => ?_) (fun c1 => ?_)
  · have hF := hF.1 ((fun e9 => c1 (by rw [e9])))
    refine lv_aload_n hx hb dX0_measured_15 rfl (lv_at hl 0 rfl) ?_
    refine va_gets (C := RX8) (n := "AGE") (d := "LWineCellar$Test;") (v := .ref (sa 6)) hx hb (hZ.1.1.1 6 (by decide)).1 hS hown (hts (.fieldLink RX0 79 "WineCellar$Test" "AGE" "LWineCellar$Test;") (by decide +kernel)) (fun _ h9 => h9) dX0_measured_16 ?_
    refine lv_acmp_ne (rx := some (sa q0)) (ry := some (sa 6)) (tgt := 31) hx hb dX0_measured_19 (by decide) (fun c2 => ?_) (fun c2 => ?_)
    · have hF := hF.1 ((fun e9 => c2 (by rw [e9])))
      refine lv_aload_n hx hb dX0_measured_31 rfl (lv_at hl 1 rfl) ?_
      refine lv_iload_n hx hb dX0_measured_32 rfl (lv_at hl 2 rfl) ?_
      refine va_calli (va_runV (As := [.int x2]) (rest := []) ⟨hx, hb, hml, hown, hts⟩ (mX3_worthIn l dC dI ac sa A ad τ0 k1 x2 _ hF hk1) (cwV 1 hts gX0_measured_X3_worthIn rfl rfl rfl (by decide +kernel) ⟨Nat.le_of_ble_eq_true rfl, Nat.le_of_ble_eq_true rfl⟩) ⟨BX.blind, tw_recv hK hP (by decide) hk1 rfl rfl, fun U hU hW => ⟨rfl, BX.of hP hK hS hA hZ hU hW⟩⟩ rfl rfl hl.1 rfl (lv_room (Nat.le_of_ble_eq_true rfl)) dX0_measured_33 ⟨Nat.le_of_ble_eq_true rfl, Nat.le_of_ble_eq_true rfl⟩) hS (fun q _ h => h) (fun q h => h) (fun r4 τ3 t H locs ht hvm hw hB hz hk hS => ?_)
      obtain ⟨hF, hN9⟩ := hw
      have hP : PX dC dI ac A ad τ3 H := tw_back hB ht
      have hN : gN τ3 = gN τ0 := hN9.trans hN
      exact W.iret (v := r4) hx hb hr (fun t ht hW => ⟨⟨r4, τ3, rfl, ⟨hF, hN⟩, tw_at hP ht⟩, hS.F ht⟩) hS.2.2 dX0_measured_36
    · have hF := hF.2 (hZ.1.1.2 q0 6 hq0 (by decide) (Option.some.inj c2))
      refine lv_iload_n hx hb dX0_measured_22 rfl (lv_at hl 2 rfl) ?_
      refine lv_aload_n hx hb dX0_measured_23 rfl (lv_at hl 1 rfl) ?_
      refine tw_get (v := .int (gI τ0 21 k1 2)) hx hb hts (by decide +kernel) hown hK hP (by decide) hk1 rfl rfl 2 (by decide) (hts (.fieldLink RX0 82 "WineCellar$Lot" "vintage" "I") (by decide +kernel)) (fun _ h9 => h9) rfl dX0_measured_24 ?_
      refine lv_isub hx hb dX0_measured_27 ?_
      refine lv_goto (tgt := 36) hx hb dX0_measured_28 (by decide) ?_
      exact W.iret (v := x2 - (gI τ0 21 k1 2)) hx hb hr (fun t ht hW => ⟨⟨(x2 - (gI τ0 21 k1 2)), τ0, rfl, ⟨hF, hN⟩, tw_at hP ht⟩, hS.F ht⟩) hS.2.2 dX0_measured_36
  · have hF := hF.2 (hZ.1.1.2 q0 5 hq0 (by decide) (Option.some.inj c1))
    refine lv_aload_n hx hb dX0_measured_7 rfl (lv_at hl 1 rfl) ?_
    obtain ⟨o5, eo5, hF⟩ := hF
    have ho5 : o5 < gN τ0 20 := tw_lt (hP.2.2.2 21 k1 1 o5 (by decide) hk1 eo5) (congrFun hN 20).symm
    refine tw_get (v := .ref (ad 20 o5)) hx hb hts (by decide +kernel) hown hK hP (by decide) hk1 rfl rfl 1 (by decide) (hts (.fieldLink RX0 55 "WineCellar$Lot" "kind" "LWineCellar$Kind;") (by decide +kernel)) (fun _ h9 => h9) (show some (va_rf ((gR τ0 21 k1 1).map (ad 20))) = some (.ref (ad 20 o5)) by rw [eo5]; rfl) dX0_measured_8 ?_
    refine tw_get (v := .int (gI τ0 20 o5 1)) hx hb hts (by decide +kernel) hown hK hP (by decide) ho5 rfl rfl 1 (by decide) (hts (.fieldLink RX0 76 "WineCellar$Kind" "body" "I") (by decide +kernel)) (fun _ h9 => h9) rfl dX0_measured_11 ?_
    exact W.iret (v := gI τ0 20 o5 1) hx hb hr (fun t ht hW => ⟨⟨(gI τ0 20 o5 1), τ0, rfl, ⟨hF, hN⟩, tw_at hP ht⟩, hS.F ht⟩) hS.2.2 dX0_measured_14
def F_X0_holds (τ0 : tw_T) (k0 : Nat) (x1 : Int32) (k2 : Nat) (x3 : Int32) (Q : Int32 → tw_T → Prop) : Prop := ∃ o1 : Nat, gR τ0 22 k0 0 = some o1 ∧ (vp_in x1 12 ∧ (∃ o2 : Nat, gR τ0 30 o1 x1.toNatClampNeg = some o2 ∧ (o2 < 8 ∧ ((((zx_meas o2) = 0 → (((¬ o2 = 0 → (((¬ o2 = 1 → (∃ o7 : Nat, gR τ0 21 k2 1 = some o7 ∧ (((¬ (gI τ0 20 o7 0) = (zx_sort o2) → (Q ((0 : Int32)) τ0)) ∧ ((gI τ0 20 o7 0) = (zx_sort o2) → (Q ((1 : Int32)) τ0)))))) ∧ (o2 = 1 → (∃ o9 : Nat, gR τ0 21 k2 1 = some o9 ∧ (((¬ (gI τ0 20 o9 2) = 0 → (Q ((0 : Int32)) τ0)) ∧ ((gI τ0 20 o9 2) = 0 → (Q ((1 : Int32)) τ0))))))))) ∧ (o2 = 0 → (∃ o11 : Nat, gR τ0 21 k2 1 = some o11 ∧ (tw_b (gI τ0 20 o11 2) ∧ (Q (gI τ0 20 o11 2) τ0))))))) ∧ (¬ (zx_meas o2) = 0 → (F_X0_measured τ0 o2 k2 x3 (fun (r13 : Int32) (τ12 : tw_T) => (∃ o14 : Nat, gR τ12 22 k0 1 = some o14 ∧ (vp_in x1 12 ∧ (∃ o16 : Nat, gR τ12 22 k0 2 = some o16 ∧ (vp_in x1 12 ∧ (F_X0_compares τ12 r13 (gI τ12 31 o14 x1.toNatClampNeg) (gI τ12 32 o16 x1.toNatClampNeg) (fun (r19 : Int32) (τ18 : tw_T) => (tw_b r19 ∧ (Q r19 τ18))))))))))))))))
def rmX0_holds : Room := { frames := 3, cells := 0, slots := 0, locals := 65 }
set_option maxHeartbeats 4000000 in
set_option maxRecDepth 100000 in
theorem mX0_holds (l : Launch) (dC : Nat → ClassId) (dI : Nat → Nat → Nat) (ac : Nat → ClassId) (sa : Nat → Nat) (A : Nat → Prop) (ad : Nat → Nat → Nat) (τ0 : tw_T) (k0 : Nat) (x1 : Int32) (k2 : Nat) (x3 : Int32) (Q : Int32 → tw_T → Prop) (hF : F_X0_holds τ0 k0 x1 k2 x3 Q) (hk0 : k0 < gN τ0 22) (hk2 : k2 < gN τ0 21) (hsa : ∀ i, i < 8 → ad 1000 i = sa i) (h8 : 8 ≤ gN τ0 1000) : Met l yX0_holds wsX0_holds rmX0_holds (va_Pc [.ref (ad 22 k0), .int x1, .ref (ad 21 k2), .int x3] (BX dC dI ac sa A ad τ0)) (va_Qi (fun r (u : tw_T) => Q r u ∧ gN u = gN τ0) (fun u t => PX dC dI ac A ad u t.heap) A) 0 0 A := by
  refine Met.ofW (cc := cX0_holds) (maxL := 5) (ret := (some .boolean)) (by decide) rfl ?_
  intro p e s m args below meth c s₁ B hml hv
  obtain ⟨rfl, hP, hK, hA, hZ⟩ := hv
  have hx := B.exec
  have hb := B.bytes
  have hr := B.returns
  have hts := atoms_spec (ws := wsX0_holds) B.pre
  have hown : s.vm.findClass RX0 = some m.cls := findClass_of_methodNamed B.named
  have hlocks := B.notSynchronized
  have hS : va_S A s.heap s.heap [] := va_S.rf
  have hN : gN τ0 = gN τ0 := rfl
  have hl := lv_entry ([.ref (ad 22 k0), .int x1, .ref (ad 21 k2), .int x3]) (n := 5) (Nat.le_of_ble_eq_true rfl)
  rw [lg_entry_eq]
  generalize (lg_sl ([.ref (ad 22 k0), .int x1, .ref (ad 21 k2), .int x3]) ++ List.replicate (5 - (lg_sl ([.ref (ad 22 k0), .int x1, .ref (ad 21 k2), .int x3])).length) Slot.unset).toArray = ls at hl ⊢
  have hl : lv_has ls 5 [(0, .ref (ad 22 k0)), (1, .int x1), (2, .ref (ad 21 k2)), (3, .int x3)] := hl
  unfold F_X0_holds at hF
  refine lv_aload_n hx hb dX0_holds_0 rfl (lv_at hl 0 rfl) ?_
  obtain ⟨o1, eo1, hF⟩ := hF
  have ho1 : o1 < gN τ0 30 := tw_lt (hP.2.2.2 22 k0 0 o1 (by decide) hk0 eo1) (congrFun hN 30).symm
  refine tw_get (v := .ref (ad 30 o1)) hx hb hts (by decide +kernel) hown hK hP (by decide) hk0 rfl rfl 0 (by decide) (hts (.fieldLink RX0 11 "WineCellar$Dish" "tests" "[LWineCellar$Test;") (by decide +kernel)) (fun _ h9 => h9) (show some (va_rf ((gR τ0 22 k0 0).map (ad 30))) = some (.ref (ad 30 o1)) by rw [eo1]; rfl) dX0_holds_1 ?_
  refine lv_iload_n hx hb dX0_holds_4 rfl (lv_at hl 1 rfl) ?_
  obtain ⟨hi3, o2, eo2, ho2, hF⟩ := hF
  refine tw_aald hx hb hK hP (by decide) ho1 rfl 7 rfl rfl (fun _ => rfl) hi3 dX0_holds_5 ?_
  refine W.eq (g2 := F0 m 6 ls [.ref (sa o2)]) (by rw [eo2]; show F0 m _ ls (.ref (ad 1000 o2) :: _) = _; rw [hsa o2 ho2]) ?_
  refine lv_astore (lv' := [(4, .ref (sa o2)), (0, .ref (ad 22 k0)), (1, .int x1), (2, .ref (ad 21 k2)), (3, .int x3)]) hx hb dX0_holds_6 hl (by decide) rfl (fun ls hl => ?_)
  refine lv_aload hx hb dX0_holds_8 (lv_at hl 0 rfl) ?_
  refine va_getE (q := (RX8, "measures", "Z", [0, 0, 0, 0, 0, 1, 1, 1])) hx hb hZ.1.1 (show o2 < zx_nm.length from ho2) hS hown (List.mem_cons_of_mem _ List.mem_cons_self) (hts (.fieldLink RX0 39 "WineCellar$Test" "measures" "Z") (by decide +kernel)) (fun _ h9 => h9) dX0_holds_10 ?_
  refine W.eq (g2 := F0 m 13 ls [.int (zx_meas o2)]) rfl ?_
  refine lv_if_eq (tgt := 39) hx hb dX0_holds_13 (by decide) (fun c4 => ?_) (fun c4 => ?_)
  · have hF := hF.1 c4
    refine lv_aload hx hb dX0_holds_39 (lv_at hl 0 rfl) ?_
    refine va_gets (C := RX8) (n := "RED") (d := "LWineCellar$Test;") (v := .ref (sa 0)) hx hb (hZ.1.1.1 0 (by decide)).1 hS hown (hts (.fieldLink RX0 51 "WineCellar$Test" "RED" "LWineCellar$Test;") (by decide +kernel)) (fun _ h9 => h9) dX0_holds_41 ?_
    refine lv_acmp_ne (rx := some (sa o2)) (ry := some (sa 0)) (tgt := 55) hx hb dX0_holds_44 (by decide) (fun c5 => ?_) (fun c5 => ?_)
    · have hF := hF.1 ((fun e9 => c5 (by rw [e9])))
      refine lv_aload hx hb dX0_holds_55 (lv_at hl 0 rfl) ?_
      refine va_gets (C := RX8) (n := "WHITE") (d := "LWineCellar$Test;") (v := .ref (sa 1)) hx hb (hZ.1.1.1 1 (by decide)).1 hS hown (hts (.fieldLink RX0 66 "WineCellar$Test" "WHITE" "LWineCellar$Test;") (by decide +kernel)) (fun _ h9 => h9) dX0_holds_57 ?_
      refine lv_acmp_ne (rx := some (sa o2)) (ry := some (sa 1)) (tgt := 79) hx hb dX0_holds_60 (by decide) (fun c6 => ?_) (fun c6 => ?_)
      · have hF := hF.1 ((fun e9 => c6 (by rw [e9])))
        refine lv_aload_n hx hb dX0_holds_79 rfl (lv_at hl 3 rfl) ?_
        obtain ⟨o7, eo7, hF⟩ := hF
        have ho7 : o7 < gN τ0 20 := tw_lt (hP.2.2.2 21 k2 1 o7 (by decide) hk2 eo7) (congrFun hN 20).symm
        refine tw_get (v := .ref (ad 20 o7)) hx hb hts (by decide +kernel) hown hK hP (by decide) hk2 rfl rfl 1 (by decide) (hts (.fieldLink RX0 55 "WineCellar$Lot" "kind" "LWineCellar$Kind;") (by decide +kernel)) (fun _ h9 => h9) (show some (va_rf ((gR τ0 21 k2 1).map (ad 20))) = some (.ref (ad 20 o7)) by rw [eo7]; rfl) dX0_holds_80 ?_
        refine tw_get (v := .int (gI τ0 20 o7 0)) hx hb hts (by decide +kernel) hown hK hP (by decide) ho7 rfl rfl 0 (by decide) (hts (.fieldLink RX0 69 "WineCellar$Kind" "sort" "I") (by decide +kernel)) (fun _ h9 => h9) rfl dX0_holds_83 ?_
        refine lv_aload hx hb dX0_holds_86 (lv_at hl 0 rfl) ?_
        refine va_getE (q := (RX8, "sort", "I", [-1, -1, 0, 1, 2, -1, -1, -1])) hx hb hZ.1.1 (show o2 < zx_nm.length from ho2) hS hown List.mem_cons_self (hts (.fieldLink RX0 72 "WineCellar$Test" "sort" "I") (by decide +kernel)) (fun _ h9 => h9) dX0_holds_88 ?_
        refine W.eq (g2 := F0 m 91 ls [.int (zx_sort o2), .int (gI τ0 20 o7 0)]) rfl ?_
        refine lv_icmp_ne (tgt := 98) hx hb dX0_holds_91 (by decide) (fun c8 => ?_) (fun c8 => ?_)
        · have hF := hF.1 c8
          refine lv_iconst (v := 0) hx hb dX0_holds_98 (by decide) ?_
          exact W.zret (v := (0 : Int32)) (ty := .boolean) hx hb hr rfl (fun t ht hW => ⟨⟨((0 : Int32)), τ0, rfl, ⟨hF, hN⟩, tw_at hP ht⟩, hS.F ht⟩) hS.2.2 dX0_holds_99
        · have hF := hF.2 c8
          refine lv_iconst (v := 1) hx hb dX0_holds_94 (by decide) ?_
          refine lv_goto (tgt := 99) hx hb dX0_holds_95 (by decide) ?_
          exact W.zret (v := (1 : Int32)) (ty := .boolean) hx hb hr rfl (fun t ht hW => ⟨⟨((1 : Int32)), τ0, rfl, ⟨hF, hN⟩, tw_at hP ht⟩, hS.F ht⟩) hS.2.2 dX0_holds_99
      · have hF := hF.2 (hZ.1.1.2 o2 1 ho2 (by decide) (Option.some.inj c6))
        refine lv_aload_n hx hb dX0_holds_63 rfl (lv_at hl 3 rfl) ?_
        obtain ⟨o9, eo9, hF⟩ := hF
        have ho9 : o9 < gN τ0 20 := tw_lt (hP.2.2.2 21 k2 1 o9 (by decide) hk2 eo9) (congrFun hN 20).symm
        refine tw_get (v := .ref (ad 20 o9)) hx hb hts (by decide +kernel) hown hK hP (by decide) hk2 rfl rfl 1 (by decide) (hts (.fieldLink RX0 55 "WineCellar$Lot" "kind" "LWineCellar$Kind;") (by decide +kernel)) (fun _ h9 => h9) (show some (va_rf ((gR τ0 21 k2 1).map (ad 20))) = some (.ref (ad 20 o9)) by rw [eo9]; rfl) dX0_holds_64 ?_
        refine tw_get (v := .int (gI τ0 20 o9 2)) hx hb hts (by decide +kernel) hown hK hP (by decide) ho9 rfl rfl 2 (by decide) (hts (.fieldLink RX0 61 "WineCellar$Kind" "red" "Z") (by decide +kernel)) (fun _ h9 => h9) rfl dX0_holds_67 ?_
        refine lv_if_ne (tgt := 77) hx hb dX0_holds_70 (by decide) (fun c10 => ?_) (fun c10 => ?_)
        · have hF := hF.1 c10
          refine lv_iconst (v := 0) hx hb dX0_holds_77 (by decide) ?_
          exact W.zret (v := (0 : Int32)) (ty := .boolean) hx hb hr rfl (fun t ht hW => ⟨⟨((0 : Int32)), τ0, rfl, ⟨hF, hN⟩, tw_at hP ht⟩, hS.F ht⟩) hS.2.2 dX0_holds_78
        · have hF := hF.2 c10
          refine lv_iconst (v := 1) hx hb dX0_holds_73 (by decide) ?_
          refine lv_goto (tgt := 78) hx hb dX0_holds_74 (by decide) ?_
          exact W.zret (v := (1 : Int32)) (ty := .boolean) hx hb hr rfl (fun t ht hW => ⟨⟨((1 : Int32)), τ0, rfl, ⟨hF, hN⟩, tw_at hP ht⟩, hS.F ht⟩) hS.2.2 dX0_holds_78
    · have hF := hF.2 (hZ.1.1.2 o2 0 ho2 (by decide) (Option.some.inj c5))
      refine lv_aload_n hx hb dX0_holds_47 rfl (lv_at hl 3 rfl) ?_
      obtain ⟨o11, eo11, hF⟩ := hF
      have ho11 : o11 < gN τ0 20 := tw_lt (hP.2.2.2 21 k2 1 o11 (by decide) hk2 eo11) (congrFun hN 20).symm
      refine tw_get (v := .ref (ad 20 o11)) hx hb hts (by decide +kernel) hown hK hP (by decide) hk2 rfl rfl 1 (by decide) (hts (.fieldLink RX0 55 "WineCellar$Lot" "kind" "LWineCellar$Kind;") (by decide +kernel)) (fun _ h9 => h9) (show some (va_rf ((gR τ0 21 k2 1).map (ad 20))) = some (.ref (ad 20 o11)) by rw [eo11]; rfl) dX0_holds_48 ?_
      refine tw_get (v := .int (gI τ0 20 o11 2)) hx hb hts (by decide +kernel) hown hK hP (by decide) ho11 rfl rfl 2 (by decide) (hts (.fieldLink RX0 61 "WineCellar$Kind" "red" "Z") (by decide +kernel)) (fun _ h9 => h9) rfl dX0_holds_51 ?_
      obtain ⟨hb9, hF⟩ := hF
      exact W.zret (v := gI τ0 20 o11 2) (ty := .boolean) hx hb hr (tw_bn hb9) (fun t ht hW => ⟨⟨(gI τ0 20 o11 2), τ0, rfl, ⟨hF, hN⟩, tw_at hP ht⟩, hS.F ht⟩) hS.2.2 dX0_holds_54
  · have hF := hF.2 c4
    refine lv_aload hx hb dX0_holds_16 (lv_at hl 0 rfl) ?_
    refine lv_aload_n hx hb dX0_holds_18 rfl (lv_at hl 3 rfl) ?_
    refine lv_iload_n hx hb dX0_holds_19 rfl (lv_at hl 4 rfl) ?_
    refine va_calli (va_runS (As := [.ref (sa o2), .ref (ad 21 k2), .int x3]) (rest := []) ⟨hx, hb, hml, hown, hts⟩ (mX0_measured l dC dI ac sa A ad τ0 o2 k2 x3 _ hF ho2 hk2) (va_cwS 3 hts gX0_holds_X0_measured rfl rfl rfl (by decide +kernel) ⟨Nat.le_of_ble_eq_true rfl, Nat.le_of_ble_eq_true rfl⟩) ⟨BX.blind, fun U hU hW => ⟨rfl, BX.of hP hK hS hA hZ hU hW⟩⟩ rfl rfl hl.1 rfl (lv_room (Nat.le_of_ble_eq_true rfl)) dX0_holds_20 ⟨Nat.le_of_ble_eq_true rfl, Nat.le_of_ble_eq_true rfl⟩) hS (fun q _ h => h) (fun q h => h) (fun r13 τ12 t H locs ht hvm hw hB hz hk hS => ?_)
    obtain ⟨hF, hN9⟩ := hw
    have hP : PX dC dI ac A ad τ12 H := tw_back hB ht
    have hN : gN τ12 = gN τ0 := hN9.trans hN
    refine lv_aload_n hx hb dX0_holds_23 rfl (lv_at hl 1 rfl) ?_
    obtain ⟨o14, eo14, hF⟩ := hF
    have ho14 : o14 < gN τ0 31 := tw_lt (hP.2.2.2 22 k0 1 o14 (by decide) (tw_lt hk0 (congrFun hN 22)) eo14) (congrFun hN 31).symm
    refine tw_get (v := .ref (ad 31 o14)) hx hb hts (by decide +kernel) hown hK hP (by decide) (tw_lt hk0 (congrFun hN 22)) rfl rfl 1 (by decide) (hts (.fieldLink RX0 17 "WineCellar$Dish" "signs" "[I") (by decide +kernel)) (fun _ h9 => h9) (show some (va_rf ((gR τ12 22 k0 1).map (ad 31))) = some (.ref (ad 31 o14)) by rw [eo14]; rfl) dX0_holds_24 ?_
    refine lv_iload_n hx hb dX0_holds_27 rfl (lv_at hl 2 rfl) ?_
    obtain ⟨hi15, hF⟩ := hF
    refine tw_iald hx hb hK hP (by decide) (tw_lt ho14 (congrFun hN 31)) rfl 0 rfl hi15 dX0_holds_28 ?_
    refine lv_aload_n hx hb dX0_holds_29 rfl (lv_at hl 1 rfl) ?_
    obtain ⟨o16, eo16, hF⟩ := hF
    have ho16 : o16 < gN τ0 32 := tw_lt (hP.2.2.2 22 k0 2 o16 (by decide) (tw_lt hk0 (congrFun hN 22)) eo16) (congrFun hN 32).symm
    refine tw_get (v := .ref (ad 32 o16)) hx hb hts (by decide +kernel) hown hK hP (by decide) (tw_lt hk0 (congrFun hN 22)) rfl rfl 2 (by decide) (hts (.fieldLink RX0 21 "WineCellar$Dish" "limits" "[I") (by decide +kernel)) (fun _ h9 => h9) (show some (va_rf ((gR τ12 22 k0 2).map (ad 32))) = some (.ref (ad 32 o16)) by rw [eo16]; rfl) dX0_holds_30 ?_
    refine lv_iload_n hx hb dX0_holds_33 rfl (lv_at hl 2 rfl) ?_
    obtain ⟨hi17, hF⟩ := hF
    refine tw_iald hx hb hK hP (by decide) (tw_lt ho16 (congrFun hN 32)) rfl 0 rfl hi17 dX0_holds_34 ?_
    refine va_calli (va_runS (As := [.int r13, .int (gI τ12 31 o14 x1.toNatClampNeg), .int (gI τ12 32 o16 x1.toNatClampNeg)]) (rest := []) ⟨hx, hb, hml, hown, hts⟩ (mX0_compares l dC dI ac sa A ad τ12 r13 (gI τ12 31 o14 x1.toNatClampNeg) (gI τ12 32 o16 x1.toNatClampNeg) _ hF ) (va_cwS 3 hts gX0_holds_X0_compares rfl rfl rfl (by decide +kernel) ⟨Nat.le_of_ble_eq_true rfl, Nat.le_of_ble_eq_true rfl⟩) ⟨BX.blind, fun U hU hW => ⟨rfl, BX.of hP hK hS hA hZ hU hW⟩⟩ rfl rfl hl.1 rfl (lv_room (Nat.le_of_ble_eq_true rfl)) dX0_holds_35 ⟨Nat.le_of_ble_eq_true rfl, Nat.le_of_ble_eq_true rfl⟩) hS (fun q _ h => h) (fun q h => h) (fun r19 τ18 t H locs ht hvm hw hB hz hk hS => ?_)
    obtain ⟨hF, hN9⟩ := hw
    have hP : PX dC dI ac A ad τ18 H := tw_back hB ht
    have hN : gN τ18 = gN τ0 := hN9.trans hN
    obtain ⟨hb9, hF⟩ := hF
    exact W.zret (v := r19) (ty := .boolean) hx hb hr (tw_bn hb9) (fun t ht hW => ⟨⟨r19, τ18, rfl, ⟨hF, hN⟩, tw_at hP ht⟩, hS.F ht⟩) hS.2.2 dX0_holds_38
def J_X0_scoreOf_35 (τ : tw_T) (p0 : Nat) (p1 : Nat) (u2 : Int32) (u3 : Int32) (u4 : Int32) (Q : Int32 → tw_T → Prop) (RC EX : tw_T → Int32 → Int32 → Prop) : Prop := ∀ z1 : Int32, z1 = u4 + (1 : Int32) → (RC τ u3 z1)
def L_X0_scoreOf_5 (p0 : Nat) (p1 : Nat) (u2 : Int32) (Q : Int32 → tw_T → Prop) (EX : tw_T → Int32 → Int32 → Prop) : Nat → tw_T → Int32 → Int32 → Prop
  | 0, _, _, _ => False
  | n + 1, τ, u3, u4 => (((gI τ 22 p0 4) ≤ u4 → (EX τ u3 u4)) ∧ (¬ (gI τ 22 p0 4) ≤ u4 → (F_X0_holds τ p0 u4 p1 u2 (fun (r4 : Int32) (τ3 : tw_T) => (((r4 = 0 → (J_X0_scoreOf_35 τ3 p0 p1 u2 u3 u4 Q (fun t v3 v4 => L_X0_scoreOf_5 p0 p1 u2 Q EX n t v3 v4) EX)) ∧ (¬ r4 = 0 → (∃ o6 : Nat, gR τ3 22 p0 3 = some o6 ∧ (vp_in u4 12 ∧ (∀ z8 : Int32, z8 = u3 + (gI τ3 33 o6 u4.toNatClampNeg) → (J_X0_scoreOf_35 τ3 p0 p1 u2 z8 u4 Q (fun t v3 v4 => L_X0_scoreOf_5 p0 p1 u2 Q EX n t v3 v4) EX)))))))))))
def F_X0_scoreOf (τ0 : tw_T) (k0 : Nat) (k1 : Nat) (x2 : Int32) (Q : Int32 → tw_T → Prop) : Prop := ∃ n9 : Nat, L_X0_scoreOf_5 k0 k1 x2 Q (fun (τ10 : tw_T) (z11 : Int32) (z12 : Int32) => Q z11 τ10) n9 τ0 ((0 : Int32)) ((0 : Int32))
def rmX0_scoreOf : Room := { frames := 4, cells := 0, slots := 0, locals := 89 }
set_option maxHeartbeats 4000000 in
set_option maxRecDepth 100000 in
theorem mX0_scoreOf (l : Launch) (dC : Nat → ClassId) (dI : Nat → Nat → Nat) (ac : Nat → ClassId) (sa : Nat → Nat) (A : Nat → Prop) (ad : Nat → Nat → Nat) (τ0 : tw_T) (k0 : Nat) (k1 : Nat) (x2 : Int32) (Q : Int32 → tw_T → Prop) (hF : F_X0_scoreOf τ0 k0 k1 x2 Q) (hk0 : k0 < gN τ0 22) (hk1 : k1 < gN τ0 21) (hsa : ∀ i, i < 8 → ad 1000 i = sa i) (h8 : 8 ≤ gN τ0 1000) : Met l yX0_scoreOf wsX0_scoreOf rmX0_scoreOf (va_Pc [.ref (ad 22 k0), .ref (ad 21 k1), .int x2] (BX dC dI ac sa A ad τ0)) (va_Qi (fun r (u : tw_T) => Q r u ∧ gN u = gN τ0) (fun u t => PX dC dI ac A ad u t.heap) A) 0 0 A := by
  refine Met.ofW (cc := cX0_scoreOf) (maxL := 5) (ret := (some .int)) (by decide) rfl ?_
  intro p e s m args below meth c s₁ B hml hv
  obtain ⟨rfl, hP, hK, hA, hZ⟩ := hv
  have hx := B.exec
  have hb := B.bytes
  have hr := B.returns
  have hts := atoms_spec (ws := wsX0_scoreOf) B.pre
  have hown : s.vm.findClass RX0 = some m.cls := findClass_of_methodNamed B.named
  have hlocks := B.notSynchronized
  have hS : va_S A s.heap s.heap [] := va_S.rf
  have hN : gN τ0 = gN τ0 := rfl
  have hl := lv_entry ([.ref (ad 22 k0), .ref (ad 21 k1), .int x2]) (n := 5) (Nat.le_of_ble_eq_true rfl)
  rw [lg_entry_eq]
  generalize (lg_sl ([.ref (ad 22 k0), .ref (ad 21 k1), .int x2]) ++ List.replicate (5 - (lg_sl ([.ref (ad 22 k0), .ref (ad 21 k1), .int x2])).length) Slot.unset).toArray = ls at hl ⊢
  have hl : lv_has ls 5 [(0, .ref (ad 22 k0)), (1, .ref (ad 21 k1)), (2, .int x2)] := hl
  unfold F_X0_scoreOf at hF
  have l5 : ∀ (p0 : Nat) (hp0 : p0 < gN τ0 22) (p1 : Nat) (hp1 : p1 < gN τ0 21) (u2 : Int32) (EX : tw_T → Int32 → Int32 → Prop) (n : Nat) (τ : tw_T) (u3 : Int32) (u4 : Int32) (H : Heap) (locs : List Loc) (ls : Array Slot), L_X0_scoreOf_5 p0 p1 u2 Q EX n τ u3 u4 → PX dC dI ac A ad τ H → gN τ = gN τ0 → va_S A s.heap H locs → lv_has ls 5 [(0, .ref (ad 22 p0)), (1, .ref (ad 21 p1)), (2, .int u2), (3, .int u3), (4, .int u4)] → (∀ (τ : tw_T) (u3 : Int32) (u4 : Int32) (H : Heap) (locs : List Loc) (ls : Array Slot), EX τ u3 u4 → PX dC dI ac A ad τ H → gN τ = gN τ0 → va_S A s.heap H locs → lv_has ls 5 [(0, .ref (ad 22 p0)), (1, .ref (ad 21 p1)), (2, .int u2), (3, .int u3), (4, .int u4)] → W p l e rmX0_scoreOf s m ([.ref (ad 22 k0), .ref (ad 21 k1), .int x2] : List Value).toArray below meth c H locs 0 0 (MQ below (va_Qi (fun r (u : tw_T) => Q r u ∧ gN u = gN τ0) (fun u t => PX dC dI ac A ad u t.heap) A) ([.ref (ad 22 k0), .ref (ad 21 k1), .int x2] : List Value).toArray s 0 0 A) (F0 m 41 ls [])) → W p l e rmX0_scoreOf s m ([.ref (ad 22 k0), .ref (ad 21 k1), .int x2] : List Value).toArray below meth c H locs 0 0 (MQ below (va_Qi (fun r (u : tw_T) => Q r u ∧ gN u = gN τ0) (fun u t => PX dC dI ac A ad u t.heap) A) ([.ref (ad 22 k0), .ref (ad 21 k1), .int x2] : List Value).toArray s 0 0 A) (F0 m 5 ls []) := by
    intro p0 hp0 p1 hp1 u2 EX n
    induction n with
    | zero => intro τ u3 u4 H locs ls hF; exact hF.elim
    | succ n ih =>
      intro τ u3 u4 H locs ls hF hP hN hS hl hEX
      rw [L_X0_scoreOf_5] at hF
      have j35 : ∀ (τ : tw_T) (p0 : Nat) (hp0 : p0 < gN τ0 22) (p1 : Nat) (hp1 : p1 < gN τ0 21) (u2 : Int32) (u3 : Int32) (u4 : Int32) (H : Heap) (locs : List Loc) (ls : Array Slot) (RC EX : tw_T → Int32 → Int32 → Prop), J_X0_scoreOf_35 τ p0 p1 u2 u3 u4 Q RC EX → PX dC dI ac A ad τ H → gN τ = gN τ0 → va_S A s.heap H locs → lv_has ls 5 [(0, .ref (ad 22 p0)), (1, .ref (ad 21 p1)), (2, .int u2), (3, .int u3), (4, .int u4)] → (∀ (τ : tw_T) (u3 : Int32) (u4 : Int32) (H : Heap) (locs : List Loc) (ls : Array Slot), RC τ u3 u4 → PX dC dI ac A ad τ H → gN τ = gN τ0 → va_S A s.heap H locs → lv_has ls 5 [(0, .ref (ad 22 p0)), (1, .ref (ad 21 p1)), (2, .int u2), (3, .int u3), (4, .int u4)] → W p l e rmX0_scoreOf s m ([.ref (ad 22 k0), .ref (ad 21 k1), .int x2] : List Value).toArray below meth c H locs 0 0 (MQ below (va_Qi (fun r (u : tw_T) => Q r u ∧ gN u = gN τ0) (fun u t => PX dC dI ac A ad u t.heap) A) ([.ref (ad 22 k0), .ref (ad 21 k1), .int x2] : List Value).toArray s 0 0 A) (F0 m 5 ls [])) → (∀ (τ : tw_T) (u3 : Int32) (u4 : Int32) (H : Heap) (locs : List Loc) (ls : Array Slot), EX τ u3 u4 → PX dC dI ac A ad τ H → gN τ = gN τ0 → va_S A s.heap H locs → lv_has ls 5 [(0, .ref (ad 22 p0)), (1, .ref (ad 21 p1)), (2, .int u2), (3, .int u3), (4, .int u4)] → W p l e rmX0_scoreOf s m ([.ref (ad 22 k0), .ref (ad 21 k1), .int x2] : List Value).toArray below meth c H locs 0 0 (MQ below (va_Qi (fun r (u : tw_T) => Q r u ∧ gN u = gN τ0) (fun u t => PX dC dI ac A ad u t.heap) A) ([.ref (ad 22 k0), .ref (ad 21 k1), .int x2] : List Value).toArray s 0 0 A) (F0 m 41 ls [])) → W p l e rmX0_scoreOf s m ([.ref (ad 22 k0), .ref (ad 21 k1), .int x2] : List Value).toArray below meth c H locs 0 0 (MQ below (va_Qi (fun r (u : tw_T) => Q r u ∧ gN u = gN τ0) (fun u t => PX dC dI ac A ad u t.heap) A) ([.ref (ad 22 k0), .ref (ad 21 k1), .int x2] : List Value).toArray s 0 0 A) (F0 m 35 ls []) := by
        intro τ p0 hp0 p1 hp1 u2 u3 u4 H locs ls RC EX hF hP hN hS hl hRC hEX
        unfold J_X0_scoreOf_35 at hF
        obtain ⟨z1, ez1⟩ : ∃ y : Int32, y = u4 + (1 : Int32) := ⟨_, rfl⟩
        have hF := hF z1 ez1
        refine lv_iinc (v := z1) (lv' := [(4, .int z1), (0, .ref (ad 22 p0)), (1, .ref (ad 21 p1)), (2, .int u2), (3, .int u3)]) hx hb dX0_scoreOf_35 hl (k := 4) rfl (by rw [ez1]; rfl) (by decide) rfl (fun ls hl => ?_)
        refine lv_goto (tgt := 5) hx hb dX0_scoreOf_38 (by decide) ?_
        exact hRC τ u3 z1 _ _ _ hF hP hN hS (lv_sub hl [1, 2, 3, 4, 0] rfl)
      refine lv_iload hx hb dX0_scoreOf_5 (lv_at hl 4 rfl) ?_
      refine lv_aload_n hx hb dX0_scoreOf_7 rfl (lv_at hl 0 rfl) ?_
      refine tw_get (v := .int (gI τ 22 p0 4)) hx hb hts (by decide +kernel) hown hK hP (by decide) (tw_lt hp0 (congrFun hN 22)) rfl rfl 4 (by decide) (hts (.fieldLink RX0 27 "WineCellar$Dish" "terms" "I") (by decide +kernel)) (fun _ h9 => h9) rfl dX0_scoreOf_8 ?_
      refine lv_icmp_ge (tgt := 41) hx hb dX0_scoreOf_11 (by decide) (fun c2 => ?_) (fun c2 => ?_)
      · have hF := hF.1 c2
        exact hEX τ u3 u4 _ _ _ hF hP hN hS (lv_sub hl [0, 1, 2, 3, 4] rfl)
      · have hF := hF.2 c2
        refine lv_aload_n hx hb dX0_scoreOf_14 rfl (lv_at hl 0 rfl) ?_
        refine lv_iload hx hb dX0_scoreOf_15 (lv_at hl 4 rfl) ?_
        refine lv_aload_n hx hb dX0_scoreOf_17 rfl (lv_at hl 1 rfl) ?_
        refine lv_iload_n hx hb dX0_scoreOf_18 rfl (lv_at hl 2 rfl) ?_
        refine va_calli (va_runV (As := [.int u4, .ref (ad 21 p1), .int u2]) (rest := []) ⟨hx, hb, hml, hown, hts⟩ (mX0_holds l dC dI ac sa A ad τ p0 u4 p1 u2 _ hF (tw_lt hp0 (congrFun hN 22)) (tw_lt hp1 (congrFun hN 21)) hsa (by rw [congrFun hN 1000]; exact h8)) (cwV 3 hts gX0_scoreOf_X0_holds rfl rfl rfl (by decide +kernel) ⟨Nat.le_of_ble_eq_true rfl, Nat.le_of_ble_eq_true rfl⟩) ⟨BX.blind, tw_recv hK hP (by decide) (tw_lt hp0 (congrFun hN 22)) rfl rfl, fun U hU hW => ⟨rfl, BX.of hP hK hS hA hZ hU hW⟩⟩ rfl rfl hl.1 rfl (lv_room (Nat.le_of_ble_eq_true rfl)) dX0_scoreOf_19 ⟨Nat.le_of_ble_eq_true rfl, Nat.le_of_ble_eq_true rfl⟩) hS (fun q _ h => h) (fun q h => h) (fun r4 τ3 t H locs ht hvm hw hB hz hk hS => ?_)
        obtain ⟨hF, hN9⟩ := hw
        have hP : PX dC dI ac A ad τ3 H := tw_back hB ht
        have hN : gN τ3 = gN τ0 := hN9.trans hN
        refine lv_if_eq (tgt := 35) hx hb dX0_scoreOf_22 (by decide) (fun c5 => ?_) (fun c5 => ?_)
        · have hF := hF.1 c5
          exact j35 τ3 p0 hp0 p1 hp1 u2 u3 u4 _ _ _ _ _ hF hP hN hS (lv_sub hl [0, 1, 2, 3, 4] rfl) (fun t v3 v4 H locs ls hF hP hN hS hl => ih t v3 v4 _ _ _ hF hP hN hS hl hEX) hEX
        · have hF := hF.2 c5
          refine lv_iload_n hx hb dX0_scoreOf_25 rfl (lv_at hl 3 rfl) ?_
          refine lv_aload_n hx hb dX0_scoreOf_26 rfl (lv_at hl 0 rfl) ?_
          obtain ⟨o6, eo6, hF⟩ := hF
          have ho6 : o6 < gN τ0 33 := tw_lt (hP.2.2.2 22 p0 3 o6 (by decide) (tw_lt hp0 (congrFun hN 22)) eo6) (congrFun hN 33).symm
          refine tw_get (v := .ref (ad 33 o6)) hx hb hts (by decide +kernel) hown hK hP (by decide) (tw_lt hp0 (congrFun hN 22)) rfl rfl 3 (by decide) (hts (.fieldLink RX0 24 "WineCellar$Dish" "points" "[I") (by decide +kernel)) (fun _ h9 => h9) (show some (va_rf ((gR τ3 22 p0 3).map (ad 33))) = some (.ref (ad 33 o6)) by rw [eo6]; rfl) dX0_scoreOf_27 ?_
          refine lv_iload hx hb dX0_scoreOf_30 (lv_at hl 4 rfl) ?_
          obtain ⟨hi7, hF⟩ := hF
          refine tw_iald hx hb hK hP (by decide) (tw_lt ho6 (congrFun hN 33)) rfl 0 rfl hi7 dX0_scoreOf_32 ?_
          refine lv_iadd hx hb dX0_scoreOf_33 ?_
          refine lv_topi (fun z8 ez8 => ?_)
          have hF := hF z8 ez8
          refine lv_istore_n (lv' := [(3, .int z8), (0, .ref (ad 22 p0)), (1, .ref (ad 21 p1)), (2, .int u2), (4, .int u4)]) hx hb dX0_scoreOf_34 rfl hl (by decide) rfl (fun ls hl => ?_)
          exact j35 τ3 p0 hp0 p1 hp1 u2 z8 u4 _ _ _ _ _ hF hP hN hS (lv_sub hl [1, 2, 3, 0, 4] rfl) (fun t v3 v4 H locs ls hF hP hN hS hl => ih t v3 v4 _ _ _ hF hP hN hS hl hEX) hEX
  refine lv_iconst (v := 0) hx hb dX0_scoreOf_0 (by decide) ?_
  refine lv_istore_n (lv' := [(3, .int ((0 : Int32))), (0, .ref (ad 22 k0)), (1, .ref (ad 21 k1)), (2, .int x2)]) hx hb dX0_scoreOf_1 rfl hl (by decide) rfl (fun ls hl => ?_)
  refine lv_iconst (v := 0) hx hb dX0_scoreOf_2 (by decide) ?_
  refine lv_istore (lv' := [(4, .int ((0 : Int32))), (3, .int ((0 : Int32))), (0, .ref (ad 22 k0)), (1, .ref (ad 21 k1)), (2, .int x2)]) hx hb dX0_scoreOf_3 hl (by decide) rfl (fun ls hl => ?_)
  obtain ⟨n9, hF⟩ := hF
  refine l5 k0 hk0 k1 hk1 x2 _ n9 τ0 ((0 : Int32)) ((0 : Int32)) _ _ _ hF hP hN hS (lv_sub hl [2, 3, 4, 1, 0] rfl) ?_
  intro τ10 z11 z12 H locs ls hF hP hN hS hl
  refine lv_iload_n hx hb dX0_scoreOf_41 rfl (lv_at hl 3 rfl) ?_
  exact W.iret (v := z11) hx hb hr (fun t ht hW => ⟨⟨z11, τ10, rfl, ⟨hF, hN⟩, tw_at hP ht⟩, hS.F ht⟩) hS.2.2 dX0_scoreOf_42
def F_X9_dishAt (τ0 : tw_T) (k0 : Nat) (x1 : Int32) (Q : Nat → tw_T → Prop) (X : Nat → tw_T → Prop) : Prop := ((x1 < 0 → (X 3 τ0)) ∧ (¬ x1 < 0 → (((x1 < (gI τ0 0 k0 13) → (∃ o3 : Nat, gR τ0 0 k0 2 = some o3 ∧ (vp_in x1 20 ∧ (∃ o4 : Nat, gR τ0 3 o3 x1.toNatClampNeg = some o4 ∧ (Q o4 τ0))))) ∧ (¬ x1 < (gI τ0 0 k0 13) → (X 3 τ0))))))
def rmX9_dishAt : Room := { frames := 6, cells := 1, slots := 6, locals := 82 }
set_option maxHeartbeats 4000000 in
set_option maxRecDepth 100000 in
theorem mX9_dishAt (l : Launch) (hlt : l.stackTraces = false) (dC : Nat → ClassId) (dI : Nat → Nat → Nat) (ac : Nat → ClassId) (sa : Nat → Nat) (A : Nat → Prop) (ad : Nat → Nat → Nat) (τ0 : tw_T) (k0 : Nat) (x1 : Int32) (Q : Nat → tw_T → Prop) (X : Nat → tw_T → Prop) (hF : F_X9_dishAt τ0 k0 x1 Q X) (hk0 : k0 < gN τ0 0) : vx_Met l yX9_dishAt wsX9_dishAt rmX9_dishAt (va_Pc [.ref (ad 0 k0), .int x1] (BX dC dI ac sa A ad τ0)) (va_Qr (fun (u : tw_T × Nat) => Q u.2 u.1 ∧ u.2 < gN τ0 22 ∧ gN u.1 = gN τ0) (fun u a t => a = ad 22 u.2 ∧ PX dC dI ac A ad u.1 t.heap) A) (vx_X (fun (u : Nat × tw_T) => X u.1 u.2 ∧ gN u.2 = gN τ0) (fun E u t => E = exn u.1 ∧ PX dC dI ac A ad u.2 t.heap) A) 1 6 A := by
  refine vx_ofW (cc := cX9_dishAt) (maxL := 2) (ret := (some (.object "WineCellar$Dish"))) (by decide) rfl ?_
  intro p e s m args below meth c s₁ B hml htab hv
  obtain ⟨rfl, hP, hK, hA, hZ⟩ := hv
  have hx := B.exec
  have hb := B.bytes
  have hr := B.returns
  have hts := atoms_spec (ws := wsX9_dishAt) B.pre
  have hown : s.vm.findClass RX9 = some m.cls := findClass_of_methodNamed B.named
  have hlocks := B.notSynchronized
  have hS : va_S A s.heap s.heap [] := va_S.rf
  have hN : gN τ0 = gN τ0 := rfl
  have hl := lv_entry ([.ref (ad 0 k0), .int x1]) (n := 2) (Nat.le_of_ble_eq_true rfl)
  rw [lg_entry_eq]
  generalize (lg_sl ([.ref (ad 0 k0), .int x1]) ++ List.replicate (2 - (lg_sl ([.ref (ad 0 k0), .int x1])).length) Slot.unset).toArray = ls at hl ⊢
  have hl : lv_has ls 2 [(0, .ref (ad 0 k0)), (1, .int x1)] := hl
  unfold F_X9_dishAt at hF
  refine lv_iload_n hx hb dX9_dishAt_0 rfl (lv_at hl 1 rfl) ?_
  refine lv_if_lt (tgt := 12) hx hb dX9_dishAt_1 (by decide) (fun c1 => ?_) (fun c1 => ?_)
  · have hF := hF.1 c1
    exact vx_throwXW (names := zx_names) hx hb hlt (by decide +kernel) (by decide +kernel) (by decide +kernel) (by decide +kernel) hown (by decide +kernel) (by decide +kernel) (hts (.classLink RX9 355 "java/util/NoSuchElementException") (by decide +kernel)) (hts (.initialized "java/util/NoSuchElementException") (by decide +kernel)) (hZ.2.2.1 (362, "no such dish", 41) (by decide +kernel)) (zx_hat3 hts (by decide +kernel) hZ.2.2.2.2.2) zx_ot3 hZ.2.1.1 hZ.2.1.2 hS (hl.1.trans hml.symm) dX9_dishAt_12 dX9_dishAt_15 dX9_dishAt_16 dX9_dishAt_19 dX9_dishAt_22 (fun x9 hx9 => (htab x9 hx9).elim) (Nat.le_of_ble_eq_true rfl) (Nat.le_of_ble_eq_true rfl) (Nat.le_of_ble_eq_true rfl) (Nat.le_of_ble_eq_true rfl) hlocks (fun t hvm hz hk => ⟨(3, τ0), ⟨hF, hN⟩, ⟨rfl, (tw_thrown hP hS hz hk).1⟩, (tw_thrown hP hS hz hk).2⟩) hS.2.2 (by decide) (by decide)
  · have hF := hF.2 c1
    refine lv_iload_n hx hb dX9_dishAt_4 rfl (lv_at hl 1 rfl) ?_
    refine lv_aload_n hx hb dX9_dishAt_5 rfl (lv_at hl 0 rfl) ?_
    refine tw_get (v := .int (gI τ0 0 k0 13)) hx hb hts (by decide +kernel) hown hK hP (by decide) hk0 rfl rfl 13 (by decide) (hts (.fieldLink RX9 79 "WineCellar" "dishCount" "I") (by decide +kernel)) (fun _ h9 => h9) rfl dX9_dishAt_6 ?_
    refine lv_icmp_lt (tgt := 23) hx hb dX9_dishAt_9 (by decide) (fun c2 => ?_) (fun c2 => ?_)
    · have hF := hF.1 c2
      refine lv_aload_n hx hb dX9_dishAt_23 rfl (lv_at hl 0 rfl) ?_
      obtain ⟨o3, eo3, hF⟩ := hF
      have ho3 : o3 < gN τ0 3 := tw_lt (hP.2.2.2 0 k0 2 o3 (by decide) hk0 eo3) (congrFun hN 3).symm
      refine tw_get (v := .ref (ad 3 o3)) hx hb hts (by decide +kernel) hown hK hP (by decide) hk0 rfl rfl 2 (by decide) (hts (.fieldLink RX9 23 "WineCellar" "dishes" "[LWineCellar$Dish;") (by decide +kernel)) (fun _ h9 => h9) (show some (va_rf ((gR τ0 0 k0 2).map (ad 3))) = some (.ref (ad 3 o3)) by rw [eo3]; rfl) dX9_dishAt_24 ?_
      refine lv_iload_n hx hb dX9_dishAt_27 rfl (lv_at hl 1 rfl) ?_
      obtain ⟨hi5, o4, eo4, hF⟩ := hF
      have ho4 : o4 < gN τ0 22 := tw_lt (hP.2.2.2 3 o3 _ o4 (by decide) ho3 eo4) (congrFun hN 22).symm
      refine tw_aald hx hb hK hP (by decide) ho3 rfl 5 rfl rfl (fun _ => rfl) hi5 dX9_dishAt_28 ?_
      refine W.eq (g2 := F0 m 29 ls [.ref (ad 22 o4)]) (by rw [eo4]; rfl) ?_
      refine W.widen (k := 1) (n := 6) (by decide) (by decide) ?_
      exact vx_ret (W.aret (v := .ref (ad 22 o4)) hx hb hr (Or.inl ⟨_, rfl⟩) (Or.inr ⟨_, rfl⟩) (fun t ht hW => ⟨⟨(τ0, o4), _, rfl, ⟨hF, ho4, hN⟩, rfl, tw_at hP ht⟩, hS.F ht⟩) hS.2.2 dX9_dishAt_29)
    · have hF := hF.2 c2
      exact vx_throwXW (names := zx_names) hx hb hlt (by decide +kernel) (by decide +kernel) (by decide +kernel) (by decide +kernel) hown (by decide +kernel) (by decide +kernel) (hts (.classLink RX9 355 "java/util/NoSuchElementException") (by decide +kernel)) (hts (.initialized "java/util/NoSuchElementException") (by decide +kernel)) (hZ.2.2.1 (362, "no such dish", 41) (by decide +kernel)) (zx_hat3 hts (by decide +kernel) hZ.2.2.2.2.2) zx_ot3 hZ.2.1.1 hZ.2.1.2 hS (hl.1.trans hml.symm) dX9_dishAt_12 dX9_dishAt_15 dX9_dishAt_16 dX9_dishAt_19 dX9_dishAt_22 (fun x9 hx9 => (htab x9 hx9).elim) (Nat.le_of_ble_eq_true rfl) (Nat.le_of_ble_eq_true rfl) (Nat.le_of_ble_eq_true rfl) (Nat.le_of_ble_eq_true rfl) hlocks (fun t hvm hz hk => ⟨(3, τ0), ⟨hF, hN⟩, ⟨rfl, (tw_thrown hP hS hz hk).1⟩, (tw_thrown hP hS hz hk).2⟩) hS.2.2 (by decide) (by decide)
def F_X9_score (τ0 : tw_T) (k0 : Nat) (x1 : Int32) (x2 : Int32) (Q : Int32 → tw_T → Prop) (X : Nat → tw_T → Prop) : Prop := F_X9_dishAt τ0 k0 x1 (fun (o2 : Nat) (τ1 : tw_T) => (F_X9_lotAt τ1 k0 x2 (fun (o4 : Nat) (τ3 : tw_T) => (F_X9_yearNow τ3 k0 (fun (r6 : Int32) (τ5 : tw_T) => (F_X0_scoreOf τ5 o2 o4 r6 (fun (r8 : Int32) (τ7 : tw_T) => (Q r8 τ7)))))) X)) X
def rmX9_score : Room := { frames := 7, cells := 2, slots := 12, locals := 113 }
set_option maxHeartbeats 4000000 in
set_option maxRecDepth 100000 in
theorem mX9_score (l : Launch) (hlt : l.stackTraces = false) (dC : Nat → ClassId) (dI : Nat → Nat → Nat) (ac : Nat → ClassId) (sa : Nat → Nat) (A : Nat → Prop) (ad : Nat → Nat → Nat) (τ0 : tw_T) (k0 : Nat) (x1 : Int32) (x2 : Int32) (Q : Int32 → tw_T → Prop) (X : Nat → tw_T → Prop) (hF : F_X9_score τ0 k0 x1 x2 Q X) (hk0 : k0 < gN τ0 0) (hsa : ∀ i, i < 8 → ad 1000 i = sa i) (h8 : 8 ≤ gN τ0 1000) : vx_Met l yX9_score wsX9_score rmX9_score (va_Pc [.ref (ad 0 k0), .int x1, .int x2] (BX dC dI ac sa A ad τ0)) (va_Qi (fun r (u : tw_T) => Q r u ∧ gN u = gN τ0) (fun u t => PX dC dI ac A ad u t.heap) A) (vx_X (fun (u : Nat × tw_T) => X u.1 u.2 ∧ gN u.2 = gN τ0) (fun E u t => E = exn u.1 ∧ PX dC dI ac A ad u.2 t.heap) A) 2 12 A := by
  refine vx_ofW (cc := cX9_score) (maxL := 4) (ret := (some .int)) (by decide) rfl ?_
  intro p e s m args below meth c s₁ B hml htab hv
  obtain ⟨rfl, hP, hK, hA, hZ⟩ := hv
  have hx := B.exec
  have hb := B.bytes
  have hr := B.returns
  have hts := atoms_spec (ws := wsX9_score) B.pre
  have hown : s.vm.findClass RX9 = some m.cls := findClass_of_methodNamed B.named
  have hlocks := B.notSynchronized
  have hS : va_S A s.heap s.heap [] := va_S.rf
  have hN : gN τ0 = gN τ0 := rfl
  have hl := lv_entry ([.ref (ad 0 k0), .int x1, .int x2]) (n := 4) (Nat.le_of_ble_eq_true rfl)
  rw [lg_entry_eq]
  generalize (lg_sl ([.ref (ad 0 k0), .int x1, .int x2]) ++ List.replicate (4 - (lg_sl ([.ref (ad 0 k0), .int x1, .int x2])).length) Slot.unset).toArray = ls at hl ⊢
  have hl : lv_has ls 4 [(0, .ref (ad 0 k0)), (1, .int x1), (2, .int x2)] := hl
  unfold F_X9_score at hF
  refine lv_aload_n hx hb dX9_score_0 rfl (lv_at hl 0 rfl) ?_
  refine lv_iload_n hx hb dX9_score_1 rfl (lv_at hl 1 rfl) ?_
  refine vx_callr (vx_runV (As := [.int x1]) (rest := []) ⟨hx, hb, hml, hown, hts⟩ (mX9_dishAt l hlt dC dI ac sa A ad τ0 k0 x1 _ _ hF hk0) (cwV 1 hts gX9_score_X9_dishAt rfl rfl rfl (by decide +kernel) ⟨Nat.le_of_ble_eq_true rfl, Nat.le_of_ble_eq_true rfl⟩) ⟨BX.blind, tw_recv hK hP (by decide) hk0 rfl rfl, fun U hU hW => ⟨rfl, BX.of hP hK hS hA hZ hU hW⟩⟩ rfl rfl hl.1 rfl (lv_room (Nat.le_of_ble_eq_true rfl)) dX9_score_2 ⟨Nat.le_of_ble_eq_true rfl, Nat.le_of_ble_eq_true rfl⟩) hS (fun q _ h => h) (fun q h => h) (fun q _ h => h) (fun E9 ce9 q9 u9 t9 H locs ht hvm hpx hBX hz9 hk9 hS hce hcv hcl => ?_) (fun u9 ra9 t H locs ht hvm hw hB hz hk hS => ?_)
  · obtain ⟨ec9, τ9⟩ := u9
    obtain ⟨hF9, hN9⟩ := hpx
    obtain ⟨rfl, hP9⟩ := hBX
    exact vx_out (fun x9 hx9 => (htab x9 hx9).elim) hlocks hce hcv hcl (fun t2 ht2 hvm2 => ⟨(ec9, τ9), ⟨hF9, hN9.trans hN⟩, ⟨rfl, tw_at (tw_back hP9 ht) ht2⟩, hS.F ht2⟩) hS.2.2 (by decide) (by decide)
  obtain ⟨τ1, o2⟩ := u9
  obtain ⟨hF, ho2, hN9⟩ := hw
  obtain ⟨rfl, hB⟩ := hB
  try dsimp only at hF ho2 hN9 hB ⊢
  have ho2 : o2 < gN τ0 22 := tw_lt ho2 (congrFun hN 22).symm
  have hP : PX dC dI ac A ad τ1 H := tw_back hB ht
  have hN : gN τ1 = gN τ0 := hN9.trans hN
  refine lv_astore_n (lv' := [(3, .ref (ad 22 o2)), (0, .ref (ad 0 k0)), (1, .int x1), (2, .int x2)]) hx hb dX9_score_5 rfl hl (by decide) rfl (fun ls hl => ?_)
  refine lv_aload_n hx hb dX9_score_6 rfl (lv_at hl 0 rfl) ?_
  refine lv_aload_n hx hb dX9_score_7 rfl (lv_at hl 1 rfl) ?_
  refine lv_iload_n hx hb dX9_score_8 rfl (lv_at hl 3 rfl) ?_
  refine vx_callr (vx_runV (As := [.int x2]) (rest := [.ref (ad 22 o2)]) ⟨hx, hb, hml, hown, hts⟩ (mX9_lotAt l hlt dC dI ac sa A ad τ1 k0 x2 _ _ hF (tw_lt hk0 (congrFun hN 0))) (cwV 1 hts gX9_score_X9_lotAt rfl rfl rfl (by decide +kernel) ⟨Nat.le_of_ble_eq_true rfl, Nat.le_of_ble_eq_true rfl⟩) ⟨BX.blind, tw_recv hK hP (by decide) (tw_lt hk0 (congrFun hN 0)) rfl rfl, fun U hU hW => ⟨rfl, BX.of hP hK hS hA hZ hU hW⟩⟩ rfl rfl hl.1 rfl (lv_room (Nat.le_of_ble_eq_true rfl)) dX9_score_9 ⟨Nat.le_of_ble_eq_true rfl, Nat.le_of_ble_eq_true rfl⟩) hS (fun q _ h => h) (fun q h => h) (fun q _ h => h) (fun E9 ce9 q9 u9 t9 H locs ht hvm hpx hBX hz9 hk9 hS hce hcv hcl => ?_) (fun u9 ra9 t H locs ht hvm hw hB hz hk hS => ?_)
  · obtain ⟨ec9, τ9⟩ := u9
    obtain ⟨hF9, hN9⟩ := hpx
    obtain ⟨rfl, hP9⟩ := hBX
    exact vx_out (fun x9 hx9 => (htab x9 hx9).elim) hlocks hce hcv hcl (fun t2 ht2 hvm2 => ⟨(ec9, τ9), ⟨hF9, hN9.trans hN⟩, ⟨rfl, tw_at (tw_back hP9 ht) ht2⟩, hS.F ht2⟩) hS.2.2 (by decide) (by decide)
  obtain ⟨τ3, o4⟩ := u9
  obtain ⟨hF, ho4, hN9⟩ := hw
  obtain ⟨rfl, hB⟩ := hB
  try dsimp only at hF ho4 hN9 hB ⊢
  have ho4 : o4 < gN τ0 21 := tw_lt ho4 (congrFun hN 21).symm
  have hP : PX dC dI ac A ad τ3 H := tw_back hB ht
  have hN : gN τ3 = gN τ0 := hN9.trans hN
  refine lv_aload_n hx hb dX9_score_12 rfl (lv_at hl 1 rfl) ?_
  refine va_calli (va_runV (As := []) (rest := [.ref (ad 21 o4), .ref (ad 22 o2)]) ⟨hx, hb, hml, hown, hts⟩ (mX9_yearNow l dC dI ac sa A ad τ3 k0 _ hF (tw_lt hk0 (congrFun hN 0))) (cwV 0 hts gX9_score_X9_yearNow rfl rfl rfl (by decide +kernel) ⟨Nat.le_of_ble_eq_true rfl, Nat.le_of_ble_eq_true rfl⟩) ⟨BX.blind, tw_recv hK hP (by decide) (tw_lt hk0 (congrFun hN 0)) rfl rfl, fun U hU hW => ⟨rfl, BX.of hP hK hS hA hZ hU hW⟩⟩ rfl rfl hl.1 rfl (lv_room (Nat.le_of_ble_eq_true rfl)) dX9_score_13 ⟨Nat.le_of_ble_eq_true rfl, Nat.le_of_ble_eq_true rfl⟩) hS (fun q _ h => h) (fun q h => h) (fun r6 τ5 t H locs ht hvm hw hB hz hk hS => ?_)
  obtain ⟨hF, hN9⟩ := hw
  have hP : PX dC dI ac A ad τ5 H := tw_back hB ht
  have hN : gN τ5 = gN τ0 := hN9.trans hN
  refine va_calli (va_runV (As := [.ref (ad 21 o4), .int r6]) (rest := []) ⟨hx, hb, hml, hown, hts⟩ (mX0_scoreOf l dC dI ac sa A ad τ5 o2 o4 r6 _ hF (tw_lt ho2 (congrFun hN 22)) (tw_lt ho4 (congrFun hN 21)) hsa (by rw [congrFun hN 1000]; exact h8)) (cwV 2 hts gX9_score_X0_scoreOf rfl rfl rfl (by decide +kernel) ⟨Nat.le_of_ble_eq_true rfl, Nat.le_of_ble_eq_true rfl⟩) ⟨BX.blind, tw_recv hK hP (by decide) (tw_lt ho2 (congrFun hN 22)) rfl rfl, fun U hU hW => ⟨rfl, BX.of hP hK hS hA hZ hU hW⟩⟩ rfl rfl hl.1 rfl (lv_room (Nat.le_of_ble_eq_true rfl)) dX9_score_16 ⟨Nat.le_of_ble_eq_true rfl, Nat.le_of_ble_eq_true rfl⟩) hS (fun q _ h => h) (fun q h => h) (fun r8 τ7 t H locs ht hvm hw hB hz hk hS => ?_)
  obtain ⟨hF, hN9⟩ := hw
  have hP : PX dC dI ac A ad τ7 H := tw_back hB ht
  have hN : gN τ7 = gN τ0 := hN9.trans hN
  exact vx_ret (W.iret (v := r8) hx hb hr (fun t ht hW => ⟨⟨r8, τ7, rfl, ⟨hF, hN⟩, tw_at hP ht⟩, hS.F ht⟩) hS.2.2 dX9_score_19)
def J_X9_match_145 (τ : tw_T) (p0 : Nat) (u2 : Int32) (u5 : Int32) (Q : Int32 → tw_T → Prop) (X : Nat → tw_T → Prop) (RC EX : tw_T → Int32 → Prop) : Prop := ∀ z1 : Int32, z1 = u5 + (1 : Int32) → (RC τ z1)
def L_X9_match_113 (p0 : Nat) (u2 : Int32) (Q : Int32 → tw_T → Prop) (X : Nat → tw_T → Prop) (EX : tw_T → Int32 → Prop) : Nat → tw_T → Int32 → Prop
  | 0, _, _ => False
  | n + 1, τ, u5 => (((gI τ 0 p0 12) ≤ u5 → (EX τ u5)) ∧ (¬ (gI τ 0 p0 12) ≤ u5 → (∃ o3 : Nat, gR τ 0 p0 10 = some o3 ∧ (vp_in u5 60 ∧ ((((gI τ 11 o3 u5.toNatClampNeg) = 0 → (J_X9_match_145 τ p0 u2 u5 Q X (fun t v5 => L_X9_match_113 p0 u2 Q X EX n t v5) EX)) ∧ (¬ (gI τ 11 o3 u5.toNatClampNeg) = 0 → (F_X9_matchedAhead τ p0 u5 (fun (r7 : Int32) (τ6 : tw_T) => (((¬ r7 = u2 → (J_X9_match_145 τ6 p0 u2 u5 Q X (fun t v5 => L_X9_match_113 p0 u2 Q X EX n t v5) EX)) ∧ (r7 = u2 → (Q u5 τ6)))))))))))))
def J_X9_match_64 (τ : tw_T) (p0 : Nat) (u2 : Int32) (p3 : Nat) (u4 : Int32) (u5 : Int32) (y0 : Int32) (y1 : Int32) (q2 : Nat) (Q : Int32 → tw_T → Prop) (X : Nat → tw_T → Prop) (RC EX : tw_T → Int32 → Prop) : Prop := vp_in y1 60 ∧ (∀ τ10 : tw_T, τ10 = sI τ 11 q2 y1.toNatClampNeg (vp_nar .boolean y0) → (∃ o11 : Nat, gR τ10 0 p0 8 = some o11 ∧ (∃ o12 : Nat, gR τ10 0 p0 1 = some o12 ∧ (vp_in u5 60 ∧ (∃ o13 : Nat, gR τ10 2 o12 u5.toNatClampNeg = some o13 ∧ (F_X0_scoreOf τ10 p3 o13 u4 (fun (r16 : Int32) (τ15 : tw_T) => (vp_in u5 60 ∧ (∀ τ18 : tw_T, τ18 = sI τ15 9 o11 u5.toNatClampNeg r16 → (∃ o19 : Nat, gR τ18 0 p0 9 = some o19 ∧ (∃ o20 : Nat, gR τ18 0 p0 1 = some o20 ∧ (vp_in u5 60 ∧ (∃ o21 : Nat, gR τ18 2 o20 u5.toNatClampNeg = some o21 ∧ (F_X3_worthIn τ18 o21 u4 (fun (r24 : Int32) (τ23 : tw_T) => (vp_in u5 60 ∧ (∀ τ26 : tw_T, τ26 = sI τ23 10 o19 u5.toNatClampNeg r24 → (∀ z27 : Int32, z27 = u5 + (1 : Int32) → (RC τ26 z27)))))))))))))))))))
def J_X9_match_63 (τ : tw_T) (p0 : Nat) (u2 : Int32) (p3 : Nat) (u4 : Int32) (u5 : Int32) (y0 : Int32) (q1 : Nat) (Q : Int32 → tw_T → Prop) (X : Nat → tw_T → Prop) (RC EX : tw_T → Int32 → Prop) : Prop := J_X9_match_64 τ p0 u2 p3 u4 u5 ((0 : Int32)) y0 q1 Q X RC EX
def L_X9_match_15 (p0 : Nat) (u2 : Int32) (p3 : Nat) (u4 : Int32) (Q : Int32 → tw_T → Prop) (X : Nat → tw_T → Prop) (EX : tw_T → Int32 → Prop) : Nat → tw_T → Int32 → Prop
  | 0, _, _ => False
  | n + 1, τ, u5 => (((gI τ 0 p0 12) ≤ u5 → (EX τ u5)) ∧ (¬ (gI τ 0 p0 12) ≤ u5 → (∃ o29 : Nat, gR τ 0 p0 10 = some o29 ∧ (∃ o30 : Nat, gR τ 0 p0 1 = some o30 ∧ (vp_in u5 60 ∧ (∃ o31 : Nat, gR τ 2 o30 u5.toNatClampNeg = some o31 ∧ (F_X3_isGoodIn τ o31 u4 (fun (r34 : Int32) (τ33 : tw_T) => (((r34 = 0 → (J_X9_match_63 τ33 p0 u2 p3 u4 u5 u5 o29 Q X (fun t v5 => L_X9_match_15 p0 u2 p3 u4 Q X EX n t v5) EX)) ∧ (¬ r34 = 0 → (∃ o36 : Nat, gR τ33 0 p0 4 = some o36 ∧ (F_X5_cellOf τ33 o36 u5 ((0 : Int32)) (fun (r38 : Int32) (τ37 : tw_T) => (((r38 = ((-1 : Int32)) → (J_X9_match_63 τ37 p0 u2 p3 u4 u5 u5 o29 Q X (fun t v5 => L_X9_match_15 p0 u2 p3 u4 Q X EX n t v5) EX)) ∧ (¬ r38 = ((-1 : Int32)) → (J_X9_match_64 τ37 p0 u2 p3 u4 u5 ((1 : Int32)) u5 o29 Q X (fun t v5 => L_X9_match_15 p0 u2 p3 u4 Q X EX n t v5) EX))))))))))))))))))
def F_X9_match (τ0 : tw_T) (k0 : Nat) (x1 : Int32) (x2 : Int32) (Q : Int32 → tw_T → Prop) (X : Nat → tw_T → Prop) : Prop := F_X9_dishAt τ0 k0 x1 (fun (o41 : Nat) (τ40 : tw_T) => (F_X9_yearNow τ40 k0 (fun (r43 : Int32) (τ42 : tw_T) => (∃ n44 : Nat, L_X9_match_15 k0 x2 o41 r43 Q X (fun (τ45 : tw_T) (z46 : Int32) => ∃ n47 : Nat, L_X9_match_113 k0 x2 Q X (fun (τ48 : tw_T) (z49 : Int32) => Q ((-1 : Int32)) τ48) n47 τ45 ((0 : Int32))) n44 τ42 ((0 : Int32)))))) X
def rmX9_match : Room := { frames := 7, cells := 1, slots := 6, locals := 113 }
set_option maxHeartbeats 4000000 in
set_option maxRecDepth 100000 in
theorem mX9_match (l : Launch) (hlt : l.stackTraces = false) (dC : Nat → ClassId) (dI : Nat → Nat → Nat) (ac : Nat → ClassId) (sa : Nat → Nat) (A : Nat → Prop) (ad : Nat → Nat → Nat) (τ0 : tw_T) (k0 : Nat) (x1 : Int32) (x2 : Int32) (Q : Int32 → tw_T → Prop) (X : Nat → tw_T → Prop) (hF : F_X9_match τ0 k0 x1 x2 Q X) (hk0 : k0 < gN τ0 0) (hsa : ∀ i, i < 8 → ad 1000 i = sa i) (h8 : 8 ≤ gN τ0 1000) : vx_Met l yX9_match wsX9_match rmX9_match (va_Pc [.ref (ad 0 k0), .int x1, .int x2] (BX dC dI ac sa A ad τ0)) (va_Qi (fun r (u : tw_T) => Q r u ∧ gN u = gN τ0) (fun u t => PX dC dI ac A ad u t.heap) A) (vx_X (fun (u : Nat × tw_T) => X u.1 u.2 ∧ gN u.2 = gN τ0) (fun E u t => E = exn u.1 ∧ PX dC dI ac A ad u.2 t.heap) A) 1 6 A := by
  refine vx_ofW (cc := cX9_match) (maxL := 6) (ret := (some .int)) (by decide) rfl ?_
  intro p e s m args below meth c s₁ B hml htab hv
  obtain ⟨rfl, hP, hK, hA, hZ⟩ := hv
  have hx := B.exec
  have hb := B.bytes
  have hr := B.returns
  have hts := atoms_spec (ws := wsX9_match) B.pre
  have hown : s.vm.findClass RX9 = some m.cls := findClass_of_methodNamed B.named
  have hlocks := B.notSynchronized
  have hS : va_S A s.heap s.heap [] := va_S.rf
  have hN : gN τ0 = gN τ0 := rfl
  have hl := lv_entry ([.ref (ad 0 k0), .int x1, .int x2]) (n := 6) (Nat.le_of_ble_eq_true rfl)
  rw [lg_entry_eq]
  generalize (lg_sl ([.ref (ad 0 k0), .int x1, .int x2]) ++ List.replicate (6 - (lg_sl ([.ref (ad 0 k0), .int x1, .int x2])).length) Slot.unset).toArray = ls at hl ⊢
  have hl : lv_has ls 6 [(0, .ref (ad 0 k0)), (1, .int x1), (2, .int x2)] := hl
  unfold F_X9_match at hF
  have l113 : ∀ (p0 : Nat) (hp0 : p0 < gN τ0 0) (u2 : Int32) (EX : tw_T → Int32 → Prop) (n : Nat) (τ : tw_T) (u5 : Int32) (H : Heap) (locs : List Loc) (ls : Array Slot), L_X9_match_113 p0 u2 Q X EX n τ u5 → PX dC dI ac A ad τ H → gN τ = gN τ0 → va_S A s.heap H locs → lv_has ls 6 [(0, .ref (ad 0 p0)), (2, .int u2), (5, .int u5)] → (∀ (τ : tw_T) (u5 : Int32) (H : Heap) (locs : List Loc) (ls : Array Slot), EX τ u5 → PX dC dI ac A ad τ H → gN τ = gN τ0 → va_S A s.heap H locs → lv_has ls 6 [(0, .ref (ad 0 p0)), (2, .int u2), (5, .int u5)] → W p l e rmX9_match s m ([.ref (ad 0 k0), .int x1, .int x2] : List Value).toArray below meth c H locs 1 6 (vx_MQ below (va_Qi (fun r (u : tw_T) => Q r u ∧ gN u = gN τ0) (fun u t => PX dC dI ac A ad u t.heap) A) (vx_X (fun (u : Nat × tw_T) => X u.1 u.2 ∧ gN u.2 = gN τ0) (fun E u t => E = exn u.1 ∧ PX dC dI ac A ad u.2 t.heap) A) ([.ref (ad 0 k0), .int x1, .int x2] : List Value).toArray s 1 6 A) (F0 m 151 ls [])) → W p l e rmX9_match s m ([.ref (ad 0 k0), .int x1, .int x2] : List Value).toArray below meth c H locs 1 6 (vx_MQ below (va_Qi (fun r (u : tw_T) => Q r u ∧ gN u = gN τ0) (fun u t => PX dC dI ac A ad u t.heap) A) (vx_X (fun (u : Nat × tw_T) => X u.1 u.2 ∧ gN u.2 = gN τ0) (fun E u t => E = exn u.1 ∧ PX dC dI ac A ad u.2 t.heap) A) ([.ref (ad 0 k0), .int x1, .int x2] : List Value).toArray s 1 6 A) (F0 m 113 ls []) := by
    intro p0 hp0 u2 EX n
    induction n with
    | zero => intro τ u5 H locs ls hF; exact hF.elim
    | succ n ih =>
      intro τ u5 H locs ls hF hP hN hS hl hEX
      rw [L_X9_match_113] at hF
      have j145 : ∀ (τ : tw_T) (p0 : Nat) (hp0 : p0 < gN τ0 0) (u2 : Int32) (u5 : Int32) (H : Heap) (locs : List Loc) (ls : Array Slot) (RC EX : tw_T → Int32 → Prop), J_X9_match_145 τ p0 u2 u5 Q X RC EX → PX dC dI ac A ad τ H → gN τ = gN τ0 → va_S A s.heap H locs → lv_has ls 6 [(0, .ref (ad 0 p0)), (2, .int u2), (5, .int u5)] → (∀ (τ : tw_T) (u5 : Int32) (H : Heap) (locs : List Loc) (ls : Array Slot), RC τ u5 → PX dC dI ac A ad τ H → gN τ = gN τ0 → va_S A s.heap H locs → lv_has ls 6 [(0, .ref (ad 0 p0)), (2, .int u2), (5, .int u5)] → W p l e rmX9_match s m ([.ref (ad 0 k0), .int x1, .int x2] : List Value).toArray below meth c H locs 1 6 (vx_MQ below (va_Qi (fun r (u : tw_T) => Q r u ∧ gN u = gN τ0) (fun u t => PX dC dI ac A ad u t.heap) A) (vx_X (fun (u : Nat × tw_T) => X u.1 u.2 ∧ gN u.2 = gN τ0) (fun E u t => E = exn u.1 ∧ PX dC dI ac A ad u.2 t.heap) A) ([.ref (ad 0 k0), .int x1, .int x2] : List Value).toArray s 1 6 A) (F0 m 113 ls [])) → (∀ (τ : tw_T) (u5 : Int32) (H : Heap) (locs : List Loc) (ls : Array Slot), EX τ u5 → PX dC dI ac A ad τ H → gN τ = gN τ0 → va_S A s.heap H locs → lv_has ls 6 [(0, .ref (ad 0 p0)), (2, .int u2), (5, .int u5)] → W p l e rmX9_match s m ([.ref (ad 0 k0), .int x1, .int x2] : List Value).toArray below meth c H locs 1 6 (vx_MQ below (va_Qi (fun r (u : tw_T) => Q r u ∧ gN u = gN τ0) (fun u t => PX dC dI ac A ad u t.heap) A) (vx_X (fun (u : Nat × tw_T) => X u.1 u.2 ∧ gN u.2 = gN τ0) (fun E u t => E = exn u.1 ∧ PX dC dI ac A ad u.2 t.heap) A) ([.ref (ad 0 k0), .int x1, .int x2] : List Value).toArray s 1 6 A) (F0 m 151 ls [])) → W p l e rmX9_match s m ([.ref (ad 0 k0), .int x1, .int x2] : List Value).toArray below meth c H locs 1 6 (vx_MQ below (va_Qi (fun r (u : tw_T) => Q r u ∧ gN u = gN τ0) (fun u t => PX dC dI ac A ad u t.heap) A) (vx_X (fun (u : Nat × tw_T) => X u.1 u.2 ∧ gN u.2 = gN τ0) (fun E u t => E = exn u.1 ∧ PX dC dI ac A ad u.2 t.heap) A) ([.ref (ad 0 k0), .int x1, .int x2] : List Value).toArray s 1 6 A) (F0 m 145 ls []) := by
        intro τ p0 hp0 u2 u5 H locs ls RC EX hF hP hN hS hl hRC hEX
        unfold J_X9_match_145 at hF
        obtain ⟨z1, ez1⟩ : ∃ y : Int32, y = u5 + (1 : Int32) := ⟨_, rfl⟩
        have hF := hF z1 ez1
        refine lv_iinc (v := z1) (lv' := [(5, .int z1), (0, .ref (ad 0 p0)), (2, .int u2)]) hx hb dX9_match_145 hl (k := 2) rfl (by rw [ez1]; rfl) (by decide) rfl (fun ls hl => ?_)
        refine lv_goto (tgt := 113) hx hb dX9_match_148 (by decide) ?_
        exact hRC τ z1 _ _ _ hF hP hN hS (lv_sub hl [1, 2, 0] rfl)
      refine lv_iload hx hb dX9_match_113 (lv_at hl 2 rfl) ?_
      refine lv_aload_n hx hb dX9_match_115 rfl (lv_at hl 0 rfl) ?_
      refine tw_get (v := .int (gI τ 0 p0 12)) hx hb hts (by decide +kernel) hown hK hP (by decide) (tw_lt hp0 (congrFun hN 0)) rfl rfl 12 (by decide) (hts (.fieldLink RX9 76 "WineCellar" "lotCount" "I") (by decide +kernel)) (fun _ h9 => h9) rfl dX9_match_116 ?_
      refine lv_icmp_ge (tgt := 151) hx hb dX9_match_119 (by decide) (fun c2 => ?_) (fun c2 => ?_)
      · have hF := hF.1 c2
        exact hEX τ u5 _ _ _ hF hP hN hS (lv_sub hl [0, 1, 2] rfl)
      · have hF := hF.2 c2
        refine lv_aload_n hx hb dX9_match_122 rfl (lv_at hl 0 rfl) ?_
        obtain ⟨o3, eo3, hF⟩ := hF
        have ho3 : o3 < gN τ0 11 := tw_lt (hP.2.2.2 0 p0 10 o3 (by decide) (tw_lt hp0 (congrFun hN 0)) eo3) (congrFun hN 11).symm
        refine tw_get (v := .ref (ad 11 o3)) hx hb hts (by decide +kernel) hown hK hP (by decide) (tw_lt hp0 (congrFun hN 0)) rfl rfl 10 (by decide) (hts (.fieldLink RX9 68 "WineCellar" "matched" "[Z") (by decide +kernel)) (fun _ h9 => h9) (show some (va_rf ((gR τ 0 p0 10).map (ad 11))) = some (.ref (ad 11 o3)) by rw [eo3]; rfl) dX9_match_123 ?_
        refine lv_iload hx hb dX9_match_126 (lv_at hl 2 rfl) ?_
        obtain ⟨hi4, hF⟩ := hF
        refine tw_zald hx hb hK hP (by decide) (tw_lt ho3 (congrFun hN 11)) rfl 2 rfl hi4 dX9_match_128 ?_
        refine lv_if_eq (tgt := 145) hx hb dX9_match_129 (by decide) (fun c5 => ?_) (fun c5 => ?_)
        · have hF := hF.1 c5
          exact j145 τ p0 hp0 u2 u5 _ _ _ _ _ hF hP hN hS (lv_sub hl [0, 1, 2] rfl) (fun t v5 H locs ls hF hP hN hS hl => ih t v5 _ _ _ hF hP hN hS hl hEX) hEX
        · have hF := hF.2 c5
          refine lv_aload_n hx hb dX9_match_132 rfl (lv_at hl 0 rfl) ?_
          refine lv_iload hx hb dX9_match_133 (lv_at hl 2 rfl) ?_
          refine va_calli (va_runV (As := [.int u5]) (rest := []) ⟨hx, hb, hml, hown, hts⟩ (mX9_matchedAhead l dC dI ac sa A ad τ p0 u5 _ hF (tw_lt hp0 (congrFun hN 0))) (cwV 1 hts gX9_match_X9_matchedAhead rfl rfl rfl (by decide +kernel) ⟨Nat.le_of_ble_eq_true rfl, Nat.le_of_ble_eq_true rfl⟩) ⟨BX.blind, tw_recv hK hP (by decide) (tw_lt hp0 (congrFun hN 0)) rfl rfl, fun U hU hW => ⟨rfl, BX.of hP hK hS hA hZ hU hW⟩⟩ rfl rfl hl.1 rfl (lv_room (Nat.le_of_ble_eq_true rfl)) dX9_match_135 ⟨Nat.le_of_ble_eq_true rfl, Nat.le_of_ble_eq_true rfl⟩) hS (fun q _ h => h) (fun q h => h) (fun r7 τ6 t H locs ht hvm hw hB hz hk hS => ?_)
          obtain ⟨hF, hN9⟩ := hw
          have hP : PX dC dI ac A ad τ6 H := tw_back hB ht
          have hN : gN τ6 = gN τ0 := hN9.trans hN
          refine lv_iload_n hx hb dX9_match_138 rfl (lv_at hl 1 rfl) ?_
          refine lv_icmp_ne (tgt := 145) hx hb dX9_match_139 (by decide) (fun c8 => ?_) (fun c8 => ?_)
          · have hF := hF.1 c8
            exact j145 τ6 p0 hp0 u2 u5 _ _ _ _ _ hF hP hN hS (lv_sub hl [0, 1, 2] rfl) (fun t v5 H locs ls hF hP hN hS hl => ih t v5 _ _ _ hF hP hN hS hl hEX) hEX
          · have hF := hF.2 c8
            refine lv_iload hx hb dX9_match_142 (lv_at hl 2 rfl) ?_
            exact vx_ret (W.iret (v := u5) hx hb hr (fun t ht hW => ⟨⟨u5, τ6, rfl, ⟨hF, hN⟩, tw_at hP ht⟩, hS.F ht⟩) hS.2.2 dX9_match_144)
  have l15 : ∀ (p0 : Nat) (hp0 : p0 < gN τ0 0) (u2 : Int32) (p3 : Nat) (hp3 : p3 < gN τ0 22) (u4 : Int32) (EX : tw_T → Int32 → Prop) (n : Nat) (τ : tw_T) (u5 : Int32) (H : Heap) (locs : List Loc) (ls : Array Slot), L_X9_match_15 p0 u2 p3 u4 Q X EX n τ u5 → PX dC dI ac A ad τ H → gN τ = gN τ0 → va_S A s.heap H locs → lv_has ls 6 [(0, .ref (ad 0 p0)), (2, .int u2), (3, .ref (ad 22 p3)), (4, .int u4), (5, .int u5)] → (∀ (τ : tw_T) (u5 : Int32) (H : Heap) (locs : List Loc) (ls : Array Slot), EX τ u5 → PX dC dI ac A ad τ H → gN τ = gN τ0 → va_S A s.heap H locs → lv_has ls 6 [(0, .ref (ad 0 p0)), (2, .int u2), (3, .ref (ad 22 p3)), (4, .int u4), (5, .int u5)] → W p l e rmX9_match s m ([.ref (ad 0 k0), .int x1, .int x2] : List Value).toArray below meth c H locs 1 6 (vx_MQ below (va_Qi (fun r (u : tw_T) => Q r u ∧ gN u = gN τ0) (fun u t => PX dC dI ac A ad u t.heap) A) (vx_X (fun (u : Nat × tw_T) => X u.1 u.2 ∧ gN u.2 = gN τ0) (fun E u t => E = exn u.1 ∧ PX dC dI ac A ad u.2 t.heap) A) ([.ref (ad 0 k0), .int x1, .int x2] : List Value).toArray s 1 6 A) (F0 m 110 ls [])) → W p l e rmX9_match s m ([.ref (ad 0 k0), .int x1, .int x2] : List Value).toArray below meth c H locs 1 6 (vx_MQ below (va_Qi (fun r (u : tw_T) => Q r u ∧ gN u = gN τ0) (fun u t => PX dC dI ac A ad u t.heap) A) (vx_X (fun (u : Nat × tw_T) => X u.1 u.2 ∧ gN u.2 = gN τ0) (fun E u t => E = exn u.1 ∧ PX dC dI ac A ad u.2 t.heap) A) ([.ref (ad 0 k0), .int x1, .int x2] : List Value).toArray s 1 6 A) (F0 m 15 ls []) := by
    intro p0 hp0 u2 p3 hp3 u4 EX n
    induction n with
    | zero => intro τ u5 H locs ls hF; exact hF.elim
    | succ n ih =>
      intro τ u5 H locs ls hF hP hN hS hl hEX
      rw [L_X9_match_15] at hF
      have j64 : ∀ (τ : tw_T) (p0 : Nat) (hp0 : p0 < gN τ0 0) (u2 : Int32) (p3 : Nat) (hp3 : p3 < gN τ0 22) (u4 : Int32) (u5 : Int32) (y0 : Int32) (y1 : Int32) (q2 : Nat) (hq2 : q2 < gN τ0 11) (H : Heap) (locs : List Loc) (ls : Array Slot) (RC EX : tw_T → Int32 → Prop), J_X9_match_64 τ p0 u2 p3 u4 u5 y0 y1 q2 Q X RC EX → PX dC dI ac A ad τ H → gN τ = gN τ0 → va_S A s.heap H locs → lv_has ls 6 [(0, .ref (ad 0 p0)), (2, .int u2), (3, .ref (ad 22 p3)), (4, .int u4), (5, .int u5)] → (∀ (τ : tw_T) (u5 : Int32) (H : Heap) (locs : List Loc) (ls : Array Slot), RC τ u5 → PX dC dI ac A ad τ H → gN τ = gN τ0 → va_S A s.heap H locs → lv_has ls 6 [(0, .ref (ad 0 p0)), (2, .int u2), (3, .ref (ad 22 p3)), (4, .int u4), (5, .int u5)] → W p l e rmX9_match s m ([.ref (ad 0 k0), .int x1, .int x2] : List Value).toArray below meth c H locs 1 6 (vx_MQ below (va_Qi (fun r (u : tw_T) => Q r u ∧ gN u = gN τ0) (fun u t => PX dC dI ac A ad u t.heap) A) (vx_X (fun (u : Nat × tw_T) => X u.1 u.2 ∧ gN u.2 = gN τ0) (fun E u t => E = exn u.1 ∧ PX dC dI ac A ad u.2 t.heap) A) ([.ref (ad 0 k0), .int x1, .int x2] : List Value).toArray s 1 6 A) (F0 m 15 ls [])) → (∀ (τ : tw_T) (u5 : Int32) (H : Heap) (locs : List Loc) (ls : Array Slot), EX τ u5 → PX dC dI ac A ad τ H → gN τ = gN τ0 → va_S A s.heap H locs → lv_has ls 6 [(0, .ref (ad 0 p0)), (2, .int u2), (3, .ref (ad 22 p3)), (4, .int u4), (5, .int u5)] → W p l e rmX9_match s m ([.ref (ad 0 k0), .int x1, .int x2] : List Value).toArray below meth c H locs 1 6 (vx_MQ below (va_Qi (fun r (u : tw_T) => Q r u ∧ gN u = gN τ0) (fun u t => PX dC dI ac A ad u t.heap) A) (vx_X (fun (u : Nat × tw_T) => X u.1 u.2 ∧ gN u.2 = gN τ0) (fun E u t => E = exn u.1 ∧ PX dC dI ac A ad u.2 t.heap) A) ([.ref (ad 0 k0), .int x1, .int x2] : List Value).toArray s 1 6 A) (F0 m 110 ls [])) → W p l e rmX9_match s m ([.ref (ad 0 k0), .int x1, .int x2] : List Value).toArray below meth c H locs 1 6 (vx_MQ below (va_Qi (fun r (u : tw_T) => Q r u ∧ gN u = gN τ0) (fun u t => PX dC dI ac A ad u t.heap) A) (vx_X (fun (u : Nat × tw_T) => X u.1 u.2 ∧ gN u.2 = gN τ0) (fun E u t => E = exn u.1 ∧ PX dC dI ac A ad u.2 t.heap) A) ([.ref (ad 0 k0), .int x1, .int x2] : List Value).toArray s 1 6 A) (F0 m 64 ls [.int y0, .int y1, .ref (ad 11 q2)]) := by
        intro τ p0 hp0 u2 p3 hp3 u4 u5 y0 y1 q2 hq2 H locs ls RC EX hF hP hN hS hl hRC hEX
        unfold J_X9_match_64 at hF
        obtain ⟨hi9, hF⟩ := hF
        refine tw_zast hx hb hK hP hS (by decide) (tw_lt hq2 (congrFun hN 11)) rfl 2 rfl hi9 dX9_match_64 (fun H locs hP hS => ?_)
        obtain ⟨τ10, eτ10⟩ : ∃ y : tw_T, y = sI τ 11 q2 y1.toNatClampNeg (vp_nar .boolean y0) := ⟨_, rfl⟩
        have hF := hF τ10 eτ10
        rw [← eτ10] at hP
        have hN : gN τ10 = gN τ0 := by rw [eτ10]; exact hN
        refine lv_aload_n hx hb dX9_match_65 rfl (lv_at hl 0 rfl) ?_
        obtain ⟨o11, eo11, hF⟩ := hF
        have ho11 : o11 < gN τ0 9 := tw_lt (hP.2.2.2 0 p0 8 o11 (by decide) (tw_lt hp0 (congrFun hN 0)) eo11) (congrFun hN 9).symm
        refine tw_get (v := .ref (ad 9 o11)) hx hb hts (by decide +kernel) hown hK hP (by decide) (tw_lt hp0 (congrFun hN 0)) rfl rfl 8 (by decide) (hts (.fieldLink RX9 61 "WineCellar" "scores" "[I") (by decide +kernel)) (fun _ h9 => h9) (show some (va_rf ((gR τ10 0 p0 8).map (ad 9))) = some (.ref (ad 9 o11)) by rw [eo11]; rfl) dX9_match_66 ?_
        refine lv_iload hx hb dX9_match_69 (lv_at hl 4 rfl) ?_
        refine lv_aload_n hx hb dX9_match_71 rfl (lv_at hl 2 rfl) ?_
        refine lv_aload_n hx hb dX9_match_72 rfl (lv_at hl 0 rfl) ?_
        obtain ⟨o12, eo12, hF⟩ := hF
        have ho12 : o12 < gN τ0 2 := tw_lt (hP.2.2.2 0 p0 1 o12 (by decide) (tw_lt hp0 (congrFun hN 0)) eo12) (congrFun hN 2).symm
        refine tw_get (v := .ref (ad 2 o12)) hx hb hts (by decide +kernel) hown hK hP (by decide) (tw_lt hp0 (congrFun hN 0)) rfl rfl 1 (by decide) (hts (.fieldLink RX9 17 "WineCellar" "lots" "[LWineCellar$Lot;") (by decide +kernel)) (fun _ h9 => h9) (show some (va_rf ((gR τ10 0 p0 1).map (ad 2))) = some (.ref (ad 2 o12)) by rw [eo12]; rfl) dX9_match_73 ?_
        refine lv_iload hx hb dX9_match_76 (lv_at hl 4 rfl) ?_
        obtain ⟨hi14, o13, eo13, hF⟩ := hF
        have ho13 : o13 < gN τ0 21 := tw_lt (hP.2.2.2 2 o12 _ o13 (by decide) (tw_lt ho12 (congrFun hN 2)) eo13) (congrFun hN 21).symm
        refine tw_aald hx hb hK hP (by decide) (tw_lt ho12 (congrFun hN 2)) rfl 4 rfl rfl (fun _ => rfl) hi14 dX9_match_78 ?_
        refine W.eq (g2 := F0 m 79 ls [.ref (ad 21 o13), .ref (ad 22 p3), .int u5, .ref (ad 9 o11)]) (by rw [eo13]; rfl) ?_
        refine lv_iload hx hb dX9_match_79 (lv_at hl 3 rfl) ?_
        refine va_calli (va_runV (As := [.ref (ad 21 o13), .int u4]) (rest := [.int u5, .ref (ad 9 o11)]) ⟨hx, hb, hml, hown, hts⟩ (mX0_scoreOf l dC dI ac sa A ad τ10 p3 o13 u4 _ hF (tw_lt hp3 (congrFun hN 22)) (tw_lt ho13 (congrFun hN 21)) hsa (by rw [congrFun hN 1000]; exact h8)) (cwV 2 hts gX9_match_X0_scoreOf rfl rfl rfl (by decide +kernel) ⟨Nat.le_of_ble_eq_true rfl, Nat.le_of_ble_eq_true rfl⟩) ⟨BX.blind, tw_recv hK hP (by decide) (tw_lt hp3 (congrFun hN 22)) rfl rfl, fun U hU hW => ⟨rfl, BX.of hP hK hS hA hZ hU hW⟩⟩ rfl rfl hl.1 rfl (lv_room (Nat.le_of_ble_eq_true rfl)) dX9_match_81 ⟨Nat.le_of_ble_eq_true rfl, Nat.le_of_ble_eq_true rfl⟩) hS (fun q _ h => h) (fun q h => h) (fun r16 τ15 t H locs ht hvm hw hB hz hk hS => ?_)
        obtain ⟨hF, hN9⟩ := hw
        have hP : PX dC dI ac A ad τ15 H := tw_back hB ht
        have hN : gN τ15 = gN τ0 := hN9.trans hN
        obtain ⟨hi17, hF⟩ := hF
        refine tw_iast hx hb hK hP hS (by decide) (tw_lt ho11 (congrFun hN 9)) rfl 0 rfl hi17 dX9_match_84 (fun H locs hP hS => ?_)
        obtain ⟨τ18, eτ18⟩ : ∃ y : tw_T, y = sI τ15 9 o11 u5.toNatClampNeg r16 := ⟨_, rfl⟩
        have hF := hF τ18 eτ18
        rw [← eτ18] at hP
        have hN : gN τ18 = gN τ0 := by rw [eτ18]; exact hN
        refine lv_aload_n hx hb dX9_match_85 rfl (lv_at hl 0 rfl) ?_
        obtain ⟨o19, eo19, hF⟩ := hF
        have ho19 : o19 < gN τ0 10 := tw_lt (hP.2.2.2 0 p0 9 o19 (by decide) (tw_lt hp0 (congrFun hN 0)) eo19) (congrFun hN 10).symm
        refine tw_get (v := .ref (ad 10 o19)) hx hb hts (by decide +kernel) hown hK hP (by decide) (tw_lt hp0 (congrFun hN 0)) rfl rfl 9 (by decide) (hts (.fieldLink RX9 65 "WineCellar" "worths" "[I") (by decide +kernel)) (fun _ h9 => h9) (show some (va_rf ((gR τ18 0 p0 9).map (ad 10))) = some (.ref (ad 10 o19)) by rw [eo19]; rfl) dX9_match_86 ?_
        refine lv_iload hx hb dX9_match_89 (lv_at hl 4 rfl) ?_
        refine lv_aload_n hx hb dX9_match_91 rfl (lv_at hl 0 rfl) ?_
        obtain ⟨o20, eo20, hF⟩ := hF
        have ho20 : o20 < gN τ0 2 := tw_lt (hP.2.2.2 0 p0 1 o20 (by decide) (tw_lt hp0 (congrFun hN 0)) eo20) (congrFun hN 2).symm
        refine tw_get (v := .ref (ad 2 o20)) hx hb hts (by decide +kernel) hown hK hP (by decide) (tw_lt hp0 (congrFun hN 0)) rfl rfl 1 (by decide) (hts (.fieldLink RX9 17 "WineCellar" "lots" "[LWineCellar$Lot;") (by decide +kernel)) (fun _ h9 => h9) (show some (va_rf ((gR τ18 0 p0 1).map (ad 2))) = some (.ref (ad 2 o20)) by rw [eo20]; rfl) dX9_match_92 ?_
        refine lv_iload hx hb dX9_match_95 (lv_at hl 4 rfl) ?_
        obtain ⟨hi22, o21, eo21, hF⟩ := hF
        have ho21 : o21 < gN τ0 21 := tw_lt (hP.2.2.2 2 o20 _ o21 (by decide) (tw_lt ho20 (congrFun hN 2)) eo21) (congrFun hN 21).symm
        refine tw_aald hx hb hK hP (by decide) (tw_lt ho20 (congrFun hN 2)) rfl 4 rfl rfl (fun _ => rfl) hi22 dX9_match_97 ?_
        refine W.eq (g2 := F0 m 98 ls [.ref (ad 21 o21), .int u5, .ref (ad 10 o19)]) (by rw [eo21]; rfl) ?_
        refine lv_iload hx hb dX9_match_98 (lv_at hl 3 rfl) ?_
        refine va_calli (va_runV (As := [.int u4]) (rest := [.int u5, .ref (ad 10 o19)]) ⟨hx, hb, hml, hown, hts⟩ (mX3_worthIn l dC dI ac sa A ad τ18 o21 u4 _ hF (tw_lt ho21 (congrFun hN 21))) (cwV 1 hts gX9_match_X3_worthIn rfl rfl rfl (by decide +kernel) ⟨Nat.le_of_ble_eq_true rfl, Nat.le_of_ble_eq_true rfl⟩) ⟨BX.blind, tw_recv hK hP (by decide) (tw_lt ho21 (congrFun hN 21)) rfl rfl, fun U hU hW => ⟨rfl, BX.of hP hK hS hA hZ hU hW⟩⟩ rfl rfl hl.1 rfl (lv_room (Nat.le_of_ble_eq_true rfl)) dX9_match_100 ⟨Nat.le_of_ble_eq_true rfl, Nat.le_of_ble_eq_true rfl⟩) hS (fun q _ h => h) (fun q h => h) (fun r24 τ23 t H locs ht hvm hw hB hz hk hS => ?_)
        obtain ⟨hF, hN9⟩ := hw
        have hP : PX dC dI ac A ad τ23 H := tw_back hB ht
        have hN : gN τ23 = gN τ0 := hN9.trans hN
        obtain ⟨hi25, hF⟩ := hF
        refine tw_iast hx hb hK hP hS (by decide) (tw_lt ho19 (congrFun hN 10)) rfl 0 rfl hi25 dX9_match_103 (fun H locs hP hS => ?_)
        obtain ⟨τ26, eτ26⟩ : ∃ y : tw_T, y = sI τ23 10 o19 u5.toNatClampNeg r24 := ⟨_, rfl⟩
        have hF := hF τ26 eτ26
        rw [← eτ26] at hP
        have hN : gN τ26 = gN τ0 := by rw [eτ26]; exact hN
        obtain ⟨z27, ez27⟩ : ∃ y : Int32, y = u5 + (1 : Int32) := ⟨_, rfl⟩
        have hF := hF z27 ez27
        refine lv_iinc (v := z27) (lv' := [(5, .int z27), (0, .ref (ad 0 p0)), (2, .int u2), (3, .ref (ad 22 p3)), (4, .int u4)]) hx hb dX9_match_104 hl (k := 4) rfl (by rw [ez27]; rfl) (by decide) rfl (fun ls hl => ?_)
        refine lv_goto (tgt := 15) hx hb dX9_match_107 (by decide) ?_
        exact hRC τ26 z27 _ _ _ hF hP hN hS (lv_sub hl [1, 2, 3, 4, 0] rfl)
      have j63 : ∀ (τ : tw_T) (p0 : Nat) (hp0 : p0 < gN τ0 0) (u2 : Int32) (p3 : Nat) (hp3 : p3 < gN τ0 22) (u4 : Int32) (u5 : Int32) (y0 : Int32) (q1 : Nat) (hq1 : q1 < gN τ0 11) (H : Heap) (locs : List Loc) (ls : Array Slot) (RC EX : tw_T → Int32 → Prop), J_X9_match_63 τ p0 u2 p3 u4 u5 y0 q1 Q X RC EX → PX dC dI ac A ad τ H → gN τ = gN τ0 → va_S A s.heap H locs → lv_has ls 6 [(0, .ref (ad 0 p0)), (2, .int u2), (3, .ref (ad 22 p3)), (4, .int u4), (5, .int u5)] → (∀ (τ : tw_T) (u5 : Int32) (H : Heap) (locs : List Loc) (ls : Array Slot), RC τ u5 → PX dC dI ac A ad τ H → gN τ = gN τ0 → va_S A s.heap H locs → lv_has ls 6 [(0, .ref (ad 0 p0)), (2, .int u2), (3, .ref (ad 22 p3)), (4, .int u4), (5, .int u5)] → W p l e rmX9_match s m ([.ref (ad 0 k0), .int x1, .int x2] : List Value).toArray below meth c H locs 1 6 (vx_MQ below (va_Qi (fun r (u : tw_T) => Q r u ∧ gN u = gN τ0) (fun u t => PX dC dI ac A ad u t.heap) A) (vx_X (fun (u : Nat × tw_T) => X u.1 u.2 ∧ gN u.2 = gN τ0) (fun E u t => E = exn u.1 ∧ PX dC dI ac A ad u.2 t.heap) A) ([.ref (ad 0 k0), .int x1, .int x2] : List Value).toArray s 1 6 A) (F0 m 15 ls [])) → (∀ (τ : tw_T) (u5 : Int32) (H : Heap) (locs : List Loc) (ls : Array Slot), EX τ u5 → PX dC dI ac A ad τ H → gN τ = gN τ0 → va_S A s.heap H locs → lv_has ls 6 [(0, .ref (ad 0 p0)), (2, .int u2), (3, .ref (ad 22 p3)), (4, .int u4), (5, .int u5)] → W p l e rmX9_match s m ([.ref (ad 0 k0), .int x1, .int x2] : List Value).toArray below meth c H locs 1 6 (vx_MQ below (va_Qi (fun r (u : tw_T) => Q r u ∧ gN u = gN τ0) (fun u t => PX dC dI ac A ad u t.heap) A) (vx_X (fun (u : Nat × tw_T) => X u.1 u.2 ∧ gN u.2 = gN τ0) (fun E u t => E = exn u.1 ∧ PX dC dI ac A ad u.2 t.heap) A) ([.ref (ad 0 k0), .int x1, .int x2] : List Value).toArray s 1 6 A) (F0 m 110 ls [])) → W p l e rmX9_match s m ([.ref (ad 0 k0), .int x1, .int x2] : List Value).toArray below meth c H locs 1 6 (vx_MQ below (va_Qi (fun r (u : tw_T) => Q r u ∧ gN u = gN τ0) (fun u t => PX dC dI ac A ad u t.heap) A) (vx_X (fun (u : Nat × tw_T) => X u.1 u.2 ∧ gN u.2 = gN τ0) (fun E u t => E = exn u.1 ∧ PX dC dI ac A ad u.2 t.heap) A) ([.ref (ad 0 k0), .int x1, .int x2] : List Value).toArray s 1 6 A) (F0 m 63 ls [.int y0, .ref (ad 11 q1)]) := by
        intro τ p0 hp0 u2 p3 hp3 u4 u5 y0 q1 hq1 H locs ls RC EX hF hP hN hS hl hRC hEX
        unfold J_X9_match_63 at hF
        refine lv_iconst (v := 0) hx hb dX9_match_63 (by decide) ?_
        exact j64 τ p0 hp0 u2 p3 hp3 u4 u5 ((0 : Int32)) y0 q1 hq1 _ _ _ RC EX hF hP hN hS (lv_sub hl [0, 1, 2, 3, 4] rfl) hRC hEX
      refine lv_iload hx hb dX9_match_15 (lv_at hl 4 rfl) ?_
      refine lv_aload_n hx hb dX9_match_17 rfl (lv_at hl 0 rfl) ?_
      refine tw_get (v := .int (gI τ 0 p0 12)) hx hb hts (by decide +kernel) hown hK hP (by decide) (tw_lt hp0 (congrFun hN 0)) rfl rfl 12 (by decide) (hts (.fieldLink RX9 76 "WineCellar" "lotCount" "I") (by decide +kernel)) (fun _ h9 => h9) rfl dX9_match_18 ?_
      refine lv_icmp_ge (tgt := 110) hx hb dX9_match_21 (by decide) (fun c28 => ?_) (fun c28 => ?_)
      · have hF := hF.1 c28
        exact hEX τ u5 _ _ _ hF hP hN hS (lv_sub hl [0, 1, 2, 3, 4] rfl)
      · have hF := hF.2 c28
        refine lv_aload_n hx hb dX9_match_24 rfl (lv_at hl 0 rfl) ?_
        obtain ⟨o29, eo29, hF⟩ := hF
        have ho29 : o29 < gN τ0 11 := tw_lt (hP.2.2.2 0 p0 10 o29 (by decide) (tw_lt hp0 (congrFun hN 0)) eo29) (congrFun hN 11).symm
        refine tw_get (v := .ref (ad 11 o29)) hx hb hts (by decide +kernel) hown hK hP (by decide) (tw_lt hp0 (congrFun hN 0)) rfl rfl 10 (by decide) (hts (.fieldLink RX9 68 "WineCellar" "matched" "[Z") (by decide +kernel)) (fun _ h9 => h9) (show some (va_rf ((gR τ 0 p0 10).map (ad 11))) = some (.ref (ad 11 o29)) by rw [eo29]; rfl) dX9_match_25 ?_
        refine lv_iload hx hb dX9_match_28 (lv_at hl 4 rfl) ?_
        refine lv_aload_n hx hb dX9_match_30 rfl (lv_at hl 0 rfl) ?_
        obtain ⟨o30, eo30, hF⟩ := hF
        have ho30 : o30 < gN τ0 2 := tw_lt (hP.2.2.2 0 p0 1 o30 (by decide) (tw_lt hp0 (congrFun hN 0)) eo30) (congrFun hN 2).symm
        refine tw_get (v := .ref (ad 2 o30)) hx hb hts (by decide +kernel) hown hK hP (by decide) (tw_lt hp0 (congrFun hN 0)) rfl rfl 1 (by decide) (hts (.fieldLink RX9 17 "WineCellar" "lots" "[LWineCellar$Lot;") (by decide +kernel)) (fun _ h9 => h9) (show some (va_rf ((gR τ 0 p0 1).map (ad 2))) = some (.ref (ad 2 o30)) by rw [eo30]; rfl) dX9_match_31 ?_
        refine lv_iload hx hb dX9_match_34 (lv_at hl 4 rfl) ?_
        obtain ⟨hi32, o31, eo31, hF⟩ := hF
        have ho31 : o31 < gN τ0 21 := tw_lt (hP.2.2.2 2 o30 _ o31 (by decide) (tw_lt ho30 (congrFun hN 2)) eo31) (congrFun hN 21).symm
        refine tw_aald hx hb hK hP (by decide) (tw_lt ho30 (congrFun hN 2)) rfl 4 rfl rfl (fun _ => rfl) hi32 dX9_match_36 ?_
        refine W.eq (g2 := F0 m 37 ls [.ref (ad 21 o31), .int u5, .ref (ad 11 o29)]) (by rw [eo31]; rfl) ?_
        refine lv_iload hx hb dX9_match_37 (lv_at hl 3 rfl) ?_
        refine va_calli (va_runV (As := [.int u4]) (rest := [.int u5, .ref (ad 11 o29)]) ⟨hx, hb, hml, hown, hts⟩ (mX3_isGoodIn l dC dI ac sa A ad τ o31 u4 _ hF (tw_lt ho31 (congrFun hN 21))) (cwV 1 hts gX9_match_X3_isGoodIn rfl rfl rfl (by decide +kernel) ⟨Nat.le_of_ble_eq_true rfl, Nat.le_of_ble_eq_true rfl⟩) ⟨BX.blind, tw_recv hK hP (by decide) (tw_lt ho31 (congrFun hN 21)) rfl rfl, fun U hU hW => ⟨rfl, BX.of hP hK hS hA hZ hU hW⟩⟩ rfl rfl hl.1 rfl (lv_room (Nat.le_of_ble_eq_true rfl)) dX9_match_39 ⟨Nat.le_of_ble_eq_true rfl, Nat.le_of_ble_eq_true rfl⟩) hS (fun q _ h => h) (fun q h => h) (fun r34 τ33 t H locs ht hvm hw hB hz hk hS => ?_)
        obtain ⟨hF, hN9⟩ := hw
        have hP : PX dC dI ac A ad τ33 H := tw_back hB ht
        have hN : gN τ33 = gN τ0 := hN9.trans hN
        refine lv_if_eq (tgt := 63) hx hb dX9_match_42 (by decide) (fun c35 => ?_) (fun c35 => ?_)
        · have hF := hF.1 c35
          exact j63 τ33 p0 hp0 u2 p3 hp3 u4 u5 u5 o29 ho29 _ _ _ _ _ hF hP hN hS (lv_sub hl [0, 1, 2, 3, 4] rfl) (fun t v5 H locs ls hF hP hN hS hl => ih t v5 _ _ _ hF hP hN hS hl hEX) hEX
        · have hF := hF.2 c35
          refine lv_aload_n hx hb dX9_match_45 rfl (lv_at hl 0 rfl) ?_
          obtain ⟨o36, eo36, hF⟩ := hF
          have ho36 : o36 < gN τ0 5 := tw_lt (hP.2.2.2 0 p0 4 o36 (by decide) (tw_lt hp0 (congrFun hN 0)) eo36) (congrFun hN 5).symm
          refine tw_get (v := .ref (ad 5 o36)) hx hb hts (by decide +kernel) hown hK hP (by decide) (tw_lt hp0 (congrFun hN 0)) rfl rfl 4 (by decide) (hts (.fieldLink RX9 36 "WineCellar" "rack" "LWineCellar$Rack;") (by decide +kernel)) (fun _ h9 => h9) (show some (va_rf ((gR τ33 0 p0 4).map (ad 5))) = some (.ref (ad 5 o36)) by rw [eo36]; rfl) dX9_match_46 ?_
          refine lv_iload hx hb dX9_match_49 (lv_at hl 4 rfl) ?_
          refine lv_iconst (v := 0) hx hb dX9_match_51 (by decide) ?_
          refine va_calli (va_runV (As := [.int u5, .int ((0 : Int32))]) (rest := [.int u5, .ref (ad 11 o29)]) ⟨hx, hb, hml, hown, hts⟩ (mX5_cellOf l dC dI ac sa A ad τ33 o36 u5 ((0 : Int32)) _ hF (tw_lt ho36 (congrFun hN 5))) (cwV 2 hts gX9_match_X5_cellOf rfl rfl rfl (by decide +kernel) ⟨Nat.le_of_ble_eq_true rfl, Nat.le_of_ble_eq_true rfl⟩) ⟨BX.blind, tw_recv hK hP (by decide) (tw_lt ho36 (congrFun hN 5)) rfl rfl, fun U hU hW => ⟨rfl, BX.of hP hK hS hA hZ hU hW⟩⟩ rfl rfl hl.1 rfl (lv_room (Nat.le_of_ble_eq_true rfl)) dX9_match_52 ⟨Nat.le_of_ble_eq_true rfl, Nat.le_of_ble_eq_true rfl⟩) hS (fun q _ h => h) (fun q h => h) (fun r38 τ37 t H locs ht hvm hw hB hz hk hS => ?_)
          obtain ⟨hF, hN9⟩ := hw
          have hP : PX dC dI ac A ad τ37 H := tw_back hB ht
          have hN : gN τ37 = gN τ0 := hN9.trans hN
          refine lv_iconst (v := (-1)) hx hb dX9_match_55 (by decide) ?_
          refine lv_icmp_eq (tgt := 63) hx hb dX9_match_56 (by decide) (fun c39 => ?_) (fun c39 => ?_)
          · have hF := hF.1 c39
            exact j63 τ37 p0 hp0 u2 p3 hp3 u4 u5 u5 o29 ho29 _ _ _ _ _ hF hP hN hS (lv_sub hl [0, 1, 2, 3, 4] rfl) (fun t v5 H locs ls hF hP hN hS hl => ih t v5 _ _ _ hF hP hN hS hl hEX) hEX
          · have hF := hF.2 c39
            refine lv_iconst (v := 1) hx hb dX9_match_59 (by decide) ?_
            refine lv_goto (tgt := 64) hx hb dX9_match_60 (by decide) ?_
            exact j64 τ37 p0 hp0 u2 p3 hp3 u4 u5 ((1 : Int32)) u5 o29 ho29 _ _ _ _ _ hF hP hN hS (lv_sub hl [0, 1, 2, 3, 4] rfl) (fun t v5 H locs ls hF hP hN hS hl => ih t v5 _ _ _ hF hP hN hS hl hEX) hEX
  refine lv_aload_n hx hb dX9_match_0 rfl (lv_at hl 0 rfl) ?_
  refine lv_iload_n hx hb dX9_match_1 rfl (lv_at hl 1 rfl) ?_
  refine vx_callr (vx_runV (As := [.int x1]) (rest := []) ⟨hx, hb, hml, hown, hts⟩ (mX9_dishAt l hlt dC dI ac sa A ad τ0 k0 x1 _ _ hF hk0) (cwV 1 hts gX9_match_X9_dishAt rfl rfl rfl (by decide +kernel) ⟨Nat.le_of_ble_eq_true rfl, Nat.le_of_ble_eq_true rfl⟩) ⟨BX.blind, tw_recv hK hP (by decide) hk0 rfl rfl, fun U hU hW => ⟨rfl, BX.of hP hK hS hA hZ hU hW⟩⟩ rfl rfl hl.1 rfl (lv_room (Nat.le_of_ble_eq_true rfl)) dX9_match_2 ⟨Nat.le_of_ble_eq_true rfl, Nat.le_of_ble_eq_true rfl⟩) hS (fun q _ h => h) (fun q h => h) (fun q _ h => h) (fun E9 ce9 q9 u9 t9 H locs ht hvm hpx hBX hz9 hk9 hS hce hcv hcl => ?_) (fun u9 ra9 t H locs ht hvm hw hB hz hk hS => ?_)
  · obtain ⟨ec9, τ9⟩ := u9
    obtain ⟨hF9, hN9⟩ := hpx
    obtain ⟨rfl, hP9⟩ := hBX
    exact vx_out (fun x9 hx9 => (htab x9 hx9).elim) hlocks hce hcv hcl (fun t2 ht2 hvm2 => ⟨(ec9, τ9), ⟨hF9, hN9.trans hN⟩, ⟨rfl, tw_at (tw_back hP9 ht) ht2⟩, hS.F ht2⟩) hS.2.2 (by decide) (by decide)
  obtain ⟨τ40, o41⟩ := u9
  obtain ⟨hF, ho41, hN9⟩ := hw
  obtain ⟨rfl, hB⟩ := hB
  try dsimp only at hF ho41 hN9 hB ⊢
  have ho41 : o41 < gN τ0 22 := tw_lt ho41 (congrFun hN 22).symm
  have hP : PX dC dI ac A ad τ40 H := tw_back hB ht
  have hN : gN τ40 = gN τ0 := hN9.trans hN
  refine lv_astore_n (lv' := [(3, .ref (ad 22 o41)), (0, .ref (ad 0 k0)), (1, .int x1), (2, .int x2)]) hx hb dX9_match_5 rfl hl (by decide) rfl (fun ls hl => ?_)
  refine lv_aload_n hx hb dX9_match_6 rfl (lv_at hl 1 rfl) ?_
  refine va_calli (va_runV (As := []) (rest := []) ⟨hx, hb, hml, hown, hts⟩ (mX9_yearNow l dC dI ac sa A ad τ40 k0 _ hF (tw_lt hk0 (congrFun hN 0))) (cwV 0 hts gX9_match_X9_yearNow rfl rfl rfl (by decide +kernel) ⟨Nat.le_of_ble_eq_true rfl, Nat.le_of_ble_eq_true rfl⟩) ⟨BX.blind, tw_recv hK hP (by decide) (tw_lt hk0 (congrFun hN 0)) rfl rfl, fun U hU hW => ⟨rfl, BX.of hP hK hS hA hZ hU hW⟩⟩ rfl rfl hl.1 rfl (lv_room (Nat.le_of_ble_eq_true rfl)) dX9_match_7 ⟨Nat.le_of_ble_eq_true rfl, Nat.le_of_ble_eq_true rfl⟩) hS (fun q _ h => h) (fun q h => h) (fun r43 τ42 t H locs ht hvm hw hB hz hk hS => ?_)
  obtain ⟨hF, hN9⟩ := hw
  have hP : PX dC dI ac A ad τ42 H := tw_back hB ht
  have hN : gN τ42 = gN τ0 := hN9.trans hN
  refine lv_istore (lv' := [(4, .int r43), (3, .ref (ad 22 o41)), (0, .ref (ad 0 k0)), (1, .int x1), (2, .int x2)]) hx hb dX9_match_10 hl (by decide) rfl (fun ls hl => ?_)
  refine lv_iconst (v := 0) hx hb dX9_match_12 (by decide) ?_
  refine lv_istore (lv' := [(5, .int ((0 : Int32))), (4, .int r43), (3, .ref (ad 22 o41)), (0, .ref (ad 0 k0)), (1, .int x1), (2, .int x2)]) hx hb dX9_match_13 hl (by decide) rfl (fun ls hl => ?_)
  obtain ⟨n44, hF⟩ := hF
  refine l15 k0 hk0 x2 o41 ho41 r43 _ n44 τ42 ((0 : Int32)) _ _ _ hF hP hN hS (lv_sub hl [3, 5, 2, 1, 0] rfl) ?_
  intro τ45 z46 H locs ls hF hP hN hS hl
  refine lv_iconst (v := 0) hx hb dX9_match_110 (by decide) ?_
  refine lv_istore (lv' := [(5, .int ((0 : Int32))), (0, .ref (ad 0 k0)), (2, .int x2), (3, .ref (ad 22 o41)), (4, .int r43)]) hx hb dX9_match_111 hl (by decide) rfl (fun ls hl => ?_)
  obtain ⟨n47, hF⟩ := hF
  refine l113 k0 hk0 x2 _ n47 τ45 ((0 : Int32)) _ _ _ hF hP hN hS (lv_sub hl [1, 2, 0] rfl) ?_
  intro τ48 z49 H locs ls hF hP hN hS hl
  refine lv_iconst (v := (-1)) hx hb dX9_match_151 (by decide) ?_
  exact vx_ret (W.iret (v := (-1 : Int32)) hx hb hr (fun t ht hW => ⟨⟨((-1 : Int32)), τ48, rfl, ⟨hF, hN⟩, tw_at hP ht⟩, hS.F ht⟩) hS.2.2 dX9_match_152)
