def L_X10_empties_37 (p0 : Nat) (Q : tw_T → Prop) (EX : tw_T → Int32 → Prop) : Nat → tw_T → Int32 → Prop
  | 0, _, _ => False
  | n + 1, τ, u2 => (((gI τ 0 p0 22) ≤ u2 → (EX τ u2)) ∧ (¬ (gI τ 0 p0 22) ≤ u2 → (∃ o2 : Nat, gR τ 0 p0 25 = some o2 ∧ (∃ o3 : Nat, gR τ 0 p0 25 = some o3 ∧ (vp_in (u2 + ((1 : Int32))) 60 ∧ (vp_in u2 60 ∧ (∀ τ6 : tw_T, τ6 = sI τ 125 o2 u2.toNatClampNeg (gI τ 125 o3 (u2 + ((1 : Int32))).toNatClampNeg) → (∃ o7 : Nat, gR τ6 0 p0 26 = some o7 ∧ (∃ o8 : Nat, gR τ6 0 p0 26 = some o8 ∧ (vp_in (u2 + ((1 : Int32))) 60 ∧ (vp_in u2 60 ∧ (∀ τ11 : tw_T, τ11 = sI τ6 126 o7 u2.toNatClampNeg (gI τ6 126 o8 (u2 + ((1 : Int32))).toNatClampNeg) → (∃ o12 : Nat, gR τ11 0 p0 27 = some o12 ∧ (∃ o13 : Nat, gR τ11 0 p0 27 = some o13 ∧ (vp_in (u2 + ((1 : Int32))) 60 ∧ (vp_in u2 60 ∧ (∀ τ16 : tw_T, τ16 = sI τ11 127 o12 u2.toNatClampNeg (gI τ11 127 o13 (u2 + ((1 : Int32))).toNatClampNeg) → (∀ z17 : Int32, z17 = u2 + (1 : Int32) → (L_X10_empties_37 p0 Q EX n τ16 z17)))))))))))))))))))
def F_X10_empties (τ0 : tw_T) (k0 : Nat) (x1 : Int32) (Q : tw_T → Prop) : Prop := ∀ τ18 : tw_T, τ18 = sI τ0 0 k0 18 ((gI τ0 0 k0 18) + ((1 : Int32))) → (∃ o19 : Nat, gR τ18 0 k0 27 = some o19 ∧ (vp_in x1 60 ∧ (∀ τ21 : tw_T, τ21 = sI τ18 0 k0 21 ((gI τ18 0 k0 21) + (gI τ18 127 o19 x1.toNatClampNeg)) → (∀ τ22 : tw_T, τ22 = sI τ21 0 k0 22 ((gI τ21 0 k0 22) - ((1 : Int32))) → (∃ n23 : Nat, L_X10_empties_37 k0 Q (fun (τ24 : tw_T) (z25 : Int32) => Q τ24) n23 τ22 x1)))))
def rmX10_empties : Room := { frames := 0, cells := 0, slots := 0, locals := 0 }
set_option maxHeartbeats 4000000 in
set_option maxRecDepth 100000 in
theorem mX10_empties (l : Launch) (dC : Nat → ClassId) (dI : Nat → Nat → Nat) (ac : Nat → ClassId) (sa : Nat → Nat) (A : Nat → Prop) (ad : Nat → Nat → Nat) (τ0 : tw_T) (k0 : Nat) (x1 : Int32) (Q : tw_T → Prop) (hF : F_X10_empties τ0 k0 x1 Q) (hk0 : k0 < gN τ0 0) : Met l yX10_empties wsX10_empties rmX10_empties (va_Pc [.ref (ad 0 k0), .int x1] (BM dC dI ac sa A ad τ0)) (va_Qv (fun (u : tw_T) => Q u ∧ gN u = gN τ0) (fun u t => PM dC dI ac A ad u t.heap) A) 0 0 A := by
  refine Met.ofW (cc := cX10_empties) (maxL := 3) (ret := none) (by decide) rfl ?_
  intro p e s m args below meth c s₁ B hml hv
  obtain ⟨rfl, hP, hK, hA, hZ⟩ := hv
  have hx := B.exec
  have hb := B.bytes
  have hr := B.returns
  have hts := atoms_spec (ws := wsX10_empties) B.pre
  have hown : s.vm.findClass RX10 = some m.cls := findClass_of_methodNamed B.named
  have hlocks := B.notSynchronized
  have hS : va_S A s.heap s.heap [] := va_S.rf
  have hN : gN τ0 = gN τ0 := rfl
  have hl := lv_entry ([.ref (ad 0 k0), .int x1]) (n := 3) (Nat.le_of_ble_eq_true rfl)
  rw [lg_entry_eq]
  generalize (lg_sl ([.ref (ad 0 k0), .int x1]) ++ List.replicate (3 - (lg_sl ([.ref (ad 0 k0), .int x1])).length) Slot.unset).toArray = ls at hl ⊢
  have hl : lv_has ls 3 [(0, .ref (ad 0 k0)), (1, .int x1)] := hl
  unfold F_X10_empties at hF
  have l37 : ∀ (p0 : Nat) (hp0 : p0 < gN τ0 0) (EX : tw_T → Int32 → Prop) (n : Nat) (τ : tw_T) (u2 : Int32) (H : Heap) (locs : List Loc) (ls : Array Slot), L_X10_empties_37 p0 Q EX n τ u2 → PM dC dI ac A ad τ H → gN τ = gN τ0 → va_S A s.heap H locs → lv_has ls 3 [(0, .ref (ad 0 p0)), (2, .int u2)] → (∀ (τ : tw_T) (u2 : Int32) (H : Heap) (locs : List Loc) (ls : Array Slot), EX τ u2 → PM dC dI ac A ad τ H → gN τ = gN τ0 → va_S A s.heap H locs → lv_has ls 3 [(0, .ref (ad 0 p0)), (2, .int u2)] → W p l e rmX10_empties s m ([.ref (ad 0 k0), .int x1] : List Value).toArray below meth c H locs 0 0 (MQ below (va_Qv (fun (u : tw_T) => Q u ∧ gN u = gN τ0) (fun u t => PM dC dI ac A ad u t.heap) A) ([.ref (ad 0 k0), .int x1] : List Value).toArray s 0 0 A) (F0 m 93 ls [])) → W p l e rmX10_empties s m ([.ref (ad 0 k0), .int x1] : List Value).toArray below meth c H locs 0 0 (MQ below (va_Qv (fun (u : tw_T) => Q u ∧ gN u = gN τ0) (fun u t => PM dC dI ac A ad u t.heap) A) ([.ref (ad 0 k0), .int x1] : List Value).toArray s 0 0 A) (F0 m 37 ls []) := by
    intro p0 hp0 EX n
    induction n with
    | zero => intro τ u2 H locs ls hF; exact hF.elim
    | succ n ih =>
      intro τ u2 H locs ls hF hP hN hS hl hEX
      rw [L_X10_empties_37] at hF
      refine lv_iload_n hx hb dX10_empties_37 rfl (lv_at hl 1 rfl) ?_
      refine lv_aload_n hx hb dX10_empties_38 rfl (lv_at hl 0 rfl) ?_
      refine tw_get (v := .int (gI τ 0 p0 22)) hx hb hts (by decide +kernel) hown hK hP (by decide) (tw_lt hp0 (congrFun hN 0)) rfl rfl 22 (by decide) (hts (.fieldLink RX10 149 "WineCellarModel" "open" "I") (by decide +kernel)) (fun _ h9 => h9) rfl dX10_empties_39 ?_
      refine lv_icmp_ge (tgt := 93) hx hb dX10_empties_42 (by decide) (fun c1 => ?_) (fun c1 => ?_)
      · have hF := hF.1 c1
        exact hEX τ u2 _ _ _ hF hP hN hS (lv_sub hl [0, 1] rfl)
      · have hF := hF.2 c1
        refine lv_aload_n hx hb dX10_empties_45 rfl (lv_at hl 0 rfl) ?_
        obtain ⟨o2, eo2, hF⟩ := hF
        have ho2 : o2 < gN τ0 125 := tw_lt (hP.2.2.2 0 p0 25 o2 (by decide) (tw_lt hp0 (congrFun hN 0)) eo2) (congrFun hN 125).symm
        refine tw_get (v := .ref (ad 125 o2)) hx hb hts (by decide +kernel) hown hK hP (by decide) (tw_lt hp0 (congrFun hN 0)) rfl rfl 25 (by decide) (hts (.fieldLink RX10 50 "WineCellarModel" "openLot" "[I") (by decide +kernel)) (fun _ h9 => h9) (show some (va_rf ((gR τ 0 p0 25).map (ad 125))) = some (.ref (ad 125 o2)) by rw [eo2]; rfl) dX10_empties_46 ?_
        refine lv_iload_n hx hb dX10_empties_49 rfl (lv_at hl 1 rfl) ?_
        refine lv_aload_n hx hb dX10_empties_50 rfl (lv_at hl 0 rfl) ?_
        obtain ⟨o3, eo3, hF⟩ := hF
        have ho3 : o3 < gN τ0 125 := tw_lt (hP.2.2.2 0 p0 25 o3 (by decide) (tw_lt hp0 (congrFun hN 0)) eo3) (congrFun hN 125).symm
        refine tw_get (v := .ref (ad 125 o3)) hx hb hts (by decide +kernel) hown hK hP (by decide) (tw_lt hp0 (congrFun hN 0)) rfl rfl 25 (by decide) (hts (.fieldLink RX10 50 "WineCellarModel" "openLot" "[I") (by decide +kernel)) (fun _ h9 => h9) (show some (va_rf ((gR τ 0 p0 25).map (ad 125))) = some (.ref (ad 125 o3)) by rw [eo3]; rfl) dX10_empties_51 ?_
        refine lv_iload_n hx hb dX10_empties_54 rfl (lv_at hl 1 rfl) ?_
        refine lv_iconst (v := 1) hx hb dX10_empties_55 (by decide) ?_
        refine lv_iadd hx hb dX10_empties_56 ?_
        obtain ⟨hi4, hF⟩ := hF
        refine tw_iald hx hb hK hP (by decide) (tw_lt ho3 (congrFun hN 125)) rfl 0 rfl hi4 dX10_empties_57 ?_
        obtain ⟨hi5, hF⟩ := hF
        refine tw_iast hx hb hK hP hS (by decide) (tw_lt ho2 (congrFun hN 125)) rfl 0 rfl hi5 dX10_empties_58 (fun H locs hP hS => ?_)
        obtain ⟨τ6, eτ6⟩ : ∃ y : tw_T, y = sI τ 125 o2 u2.toNatClampNeg (gI τ 125 o3 (u2 + ((1 : Int32))).toNatClampNeg) := ⟨_, rfl⟩
        have hF := hF τ6 eτ6
        rw [← eτ6] at hP
        have hN : gN τ6 = gN τ0 := by rw [eτ6]; exact hN
        refine lv_aload_n hx hb dX10_empties_59 rfl (lv_at hl 0 rfl) ?_
        obtain ⟨o7, eo7, hF⟩ := hF
        have ho7 : o7 < gN τ0 126 := tw_lt (hP.2.2.2 0 p0 26 o7 (by decide) (tw_lt hp0 (congrFun hN 0)) eo7) (congrFun hN 126).symm
        refine tw_get (v := .ref (ad 126 o7)) hx hb hts (by decide +kernel) hown hK hP (by decide) (tw_lt hp0 (congrFun hN 0)) rfl rfl 26 (by decide) (hts (.fieldLink RX10 53 "WineCellarModel" "openHour" "[I") (by decide +kernel)) (fun _ h9 => h9) (show some (va_rf ((gR τ6 0 p0 26).map (ad 126))) = some (.ref (ad 126 o7)) by rw [eo7]; rfl) dX10_empties_60 ?_
        refine lv_iload_n hx hb dX10_empties_63 rfl (lv_at hl 1 rfl) ?_
        refine lv_aload_n hx hb dX10_empties_64 rfl (lv_at hl 0 rfl) ?_
        obtain ⟨o8, eo8, hF⟩ := hF
        have ho8 : o8 < gN τ0 126 := tw_lt (hP.2.2.2 0 p0 26 o8 (by decide) (tw_lt hp0 (congrFun hN 0)) eo8) (congrFun hN 126).symm
        refine tw_get (v := .ref (ad 126 o8)) hx hb hts (by decide +kernel) hown hK hP (by decide) (tw_lt hp0 (congrFun hN 0)) rfl rfl 26 (by decide) (hts (.fieldLink RX10 53 "WineCellarModel" "openHour" "[I") (by decide +kernel)) (fun _ h9 => h9) (show some (va_rf ((gR τ6 0 p0 26).map (ad 126))) = some (.ref (ad 126 o8)) by rw [eo8]; rfl) dX10_empties_65 ?_
        refine lv_iload_n hx hb dX10_empties_68 rfl (lv_at hl 1 rfl) ?_
        refine lv_iconst (v := 1) hx hb dX10_empties_69 (by decide) ?_
        refine lv_iadd hx hb dX10_empties_70 ?_
        obtain ⟨hi9, hF⟩ := hF
        refine tw_iald hx hb hK hP (by decide) (tw_lt ho8 (congrFun hN 126)) rfl 0 rfl hi9 dX10_empties_71 ?_
        obtain ⟨hi10, hF⟩ := hF
        refine tw_iast hx hb hK hP hS (by decide) (tw_lt ho7 (congrFun hN 126)) rfl 0 rfl hi10 dX10_empties_72 (fun H locs hP hS => ?_)
        obtain ⟨τ11, eτ11⟩ : ∃ y : tw_T, y = sI τ6 126 o7 u2.toNatClampNeg (gI τ6 126 o8 (u2 + ((1 : Int32))).toNatClampNeg) := ⟨_, rfl⟩
        have hF := hF τ11 eτ11
        rw [← eτ11] at hP
        have hN : gN τ11 = gN τ0 := by rw [eτ11]; exact hN
        refine lv_aload_n hx hb dX10_empties_73 rfl (lv_at hl 0 rfl) ?_
        obtain ⟨o12, eo12, hF⟩ := hF
        have ho12 : o12 < gN τ0 127 := tw_lt (hP.2.2.2 0 p0 27 o12 (by decide) (tw_lt hp0 (congrFun hN 0)) eo12) (congrFun hN 127).symm
        refine tw_get (v := .ref (ad 127 o12)) hx hb hts (by decide +kernel) hown hK hP (by decide) (tw_lt hp0 (congrFun hN 0)) rfl rfl 27 (by decide) (hts (.fieldLink RX10 56 "WineCellarModel" "openLeft" "[I") (by decide +kernel)) (fun _ h9 => h9) (show some (va_rf ((gR τ11 0 p0 27).map (ad 127))) = some (.ref (ad 127 o12)) by rw [eo12]; rfl) dX10_empties_74 ?_
        refine lv_iload_n hx hb dX10_empties_77 rfl (lv_at hl 1 rfl) ?_
        refine lv_aload_n hx hb dX10_empties_78 rfl (lv_at hl 0 rfl) ?_
        obtain ⟨o13, eo13, hF⟩ := hF
        have ho13 : o13 < gN τ0 127 := tw_lt (hP.2.2.2 0 p0 27 o13 (by decide) (tw_lt hp0 (congrFun hN 0)) eo13) (congrFun hN 127).symm
        refine tw_get (v := .ref (ad 127 o13)) hx hb hts (by decide +kernel) hown hK hP (by decide) (tw_lt hp0 (congrFun hN 0)) rfl rfl 27 (by decide) (hts (.fieldLink RX10 56 "WineCellarModel" "openLeft" "[I") (by decide +kernel)) (fun _ h9 => h9) (show some (va_rf ((gR τ11 0 p0 27).map (ad 127))) = some (.ref (ad 127 o13)) by rw [eo13]; rfl) dX10_empties_79 ?_
        refine lv_iload_n hx hb dX10_empties_82 rfl (lv_at hl 1 rfl) ?_
        refine lv_iconst (v := 1) hx hb dX10_empties_83 (by decide) ?_
        refine lv_iadd hx hb dX10_empties_84 ?_
        obtain ⟨hi14, hF⟩ := hF
        refine tw_iald hx hb hK hP (by decide) (tw_lt ho13 (congrFun hN 127)) rfl 0 rfl hi14 dX10_empties_85 ?_
        obtain ⟨hi15, hF⟩ := hF
        refine tw_iast hx hb hK hP hS (by decide) (tw_lt ho12 (congrFun hN 127)) rfl 0 rfl hi15 dX10_empties_86 (fun H locs hP hS => ?_)
        obtain ⟨τ16, eτ16⟩ : ∃ y : tw_T, y = sI τ11 127 o12 u2.toNatClampNeg (gI τ11 127 o13 (u2 + ((1 : Int32))).toNatClampNeg) := ⟨_, rfl⟩
        have hF := hF τ16 eτ16
        rw [← eτ16] at hP
        have hN : gN τ16 = gN τ0 := by rw [eτ16]; exact hN
        obtain ⟨z17, ez17⟩ : ∃ y : Int32, y = u2 + (1 : Int32) := ⟨_, rfl⟩
        have hF := hF z17 ez17
        refine lv_iinc (v := z17) (lv' := [(2, .int z17), (0, .ref (ad 0 p0))]) hx hb dX10_empties_87 hl (k := 1) rfl (by rw [ez17]; rfl) (by decide) rfl (fun ls hl => ?_)
        refine lv_goto (tgt := 37) hx hb dX10_empties_90 (by decide) ?_
        exact ih τ16 z17 _ _ _ hF hP hN hS (lv_sub hl [1, 0] rfl) hEX
  refine lv_aload_n hx hb dX10_empties_0 rfl (lv_at hl 0 rfl) ?_
  refine lv_dup hx hb dX10_empties_1 rfl ?_
  refine tw_get (v := .int (gI τ0 0 k0 18)) hx hb hts (by decide +kernel) hown hK hP (by decide) hk0 rfl rfl 18 (by decide) (hts (.fieldLink RX10 172 "WineCellarModel" "emptied" "I") (by decide +kernel)) (fun _ h9 => h9) rfl dX10_empties_2 ?_
  refine lv_iconst (v := 1) hx hb dX10_empties_5 (by decide) ?_
  refine lv_iadd hx hb dX10_empties_6 ?_
  refine tw_put (τ' := sI τ0 0 k0 18 ((gI τ0 0 k0 18) + ((1 : Int32)))) (ty := .int) hx hb hts (by decide +kernel) tyX10 tyX10_ok nmX10 hown hK hP hS (by decide) hk0 rfl rfl 18 (by decide) (hts (.fieldLink RX10 172 "WineCellarModel" "emptied" "I") (by decide +kernel)) (fun _ h9 => h9) rfl (by decide +kernel) rfl rfl (Nat.le_of_ble_eq_true rfl) dX10_empties_7 (fun H1 ha ho => tw_updI hP (by decide) hk0 ha ho) (fun H locs hP hS => ?_)
  obtain ⟨τ18, eτ18⟩ : ∃ y : tw_T, y = sI τ0 0 k0 18 ((gI τ0 0 k0 18) + ((1 : Int32))) := ⟨_, rfl⟩
  have hF := hF τ18 eτ18
  rw [← eτ18] at hP
  have hN : gN τ18 = gN τ0 := by rw [eτ18]; exact hN
  refine lv_aload_n hx hb dX10_empties_10 rfl (lv_at hl 0 rfl) ?_
  refine lv_dup hx hb dX10_empties_11 rfl ?_
  refine tw_get (v := .int (gI τ18 0 k0 21)) hx hb hts (by decide +kernel) hown hK hP (by decide) (tw_lt hk0 (congrFun hN 0)) rfl rfl 21 (by decide) (hts (.fieldLink RX10 175 "WineCellarModel" "spilt" "I") (by decide +kernel)) (fun _ h9 => h9) rfl dX10_empties_12 ?_
  refine lv_aload_n hx hb dX10_empties_15 rfl (lv_at hl 0 rfl) ?_
  obtain ⟨o19, eo19, hF⟩ := hF
  have ho19 : o19 < gN τ0 127 := tw_lt (hP.2.2.2 0 k0 27 o19 (by decide) (tw_lt hk0 (congrFun hN 0)) eo19) (congrFun hN 127).symm
  refine tw_get (v := .ref (ad 127 o19)) hx hb hts (by decide +kernel) hown hK hP (by decide) (tw_lt hk0 (congrFun hN 0)) rfl rfl 27 (by decide) (hts (.fieldLink RX10 56 "WineCellarModel" "openLeft" "[I") (by decide +kernel)) (fun _ h9 => h9) (show some (va_rf ((gR τ18 0 k0 27).map (ad 127))) = some (.ref (ad 127 o19)) by rw [eo19]; rfl) dX10_empties_16 ?_
  refine lv_iload_n hx hb dX10_empties_19 rfl (lv_at hl 1 rfl) ?_
  obtain ⟨hi20, hF⟩ := hF
  refine tw_iald hx hb hK hP (by decide) (tw_lt ho19 (congrFun hN 127)) rfl 0 rfl hi20 dX10_empties_20 ?_
  refine lv_iadd hx hb dX10_empties_21 ?_
  refine tw_put (τ' := sI τ18 0 k0 21 ((gI τ18 0 k0 21) + (gI τ18 127 o19 x1.toNatClampNeg))) (ty := .int) hx hb hts (by decide +kernel) tyX10 tyX10_ok nmX10 hown hK hP hS (by decide) (tw_lt hk0 (congrFun hN 0)) rfl rfl 21 (by decide) (hts (.fieldLink RX10 175 "WineCellarModel" "spilt" "I") (by decide +kernel)) (fun _ h9 => h9) rfl (by decide +kernel) rfl rfl (Nat.le_of_ble_eq_true rfl) dX10_empties_22 (fun H1 ha ho => tw_updI hP (by decide) (tw_lt hk0 (congrFun hN 0)) ha ho) (fun H locs hP hS => ?_)
  obtain ⟨τ21, eτ21⟩ : ∃ y : tw_T, y = sI τ18 0 k0 21 ((gI τ18 0 k0 21) + (gI τ18 127 o19 x1.toNatClampNeg)) := ⟨_, rfl⟩
  have hF := hF τ21 eτ21
  rw [← eτ21] at hP
  have hN : gN τ21 = gN τ0 := by rw [eτ21]; exact hN
  refine lv_aload_n hx hb dX10_empties_25 rfl (lv_at hl 0 rfl) ?_
  refine lv_dup hx hb dX10_empties_26 rfl ?_
  refine tw_get (v := .int (gI τ21 0 k0 22)) hx hb hts (by decide +kernel) hown hK hP (by decide) (tw_lt hk0 (congrFun hN 0)) rfl rfl 22 (by decide) (hts (.fieldLink RX10 149 "WineCellarModel" "open" "I") (by decide +kernel)) (fun _ h9 => h9) rfl dX10_empties_27 ?_
  refine lv_iconst (v := 1) hx hb dX10_empties_30 (by decide) ?_
  refine lv_isub hx hb dX10_empties_31 ?_
  refine tw_put (τ' := sI τ21 0 k0 22 ((gI τ21 0 k0 22) - ((1 : Int32)))) (ty := .int) hx hb hts (by decide +kernel) tyX10 tyX10_ok nmX10 hown hK hP hS (by decide) (tw_lt hk0 (congrFun hN 0)) rfl rfl 22 (by decide) (hts (.fieldLink RX10 149 "WineCellarModel" "open" "I") (by decide +kernel)) (fun _ h9 => h9) rfl (by decide +kernel) rfl rfl (Nat.le_of_ble_eq_true rfl) dX10_empties_32 (fun H1 ha ho => tw_updI hP (by decide) (tw_lt hk0 (congrFun hN 0)) ha ho) (fun H locs hP hS => ?_)
  obtain ⟨τ22, eτ22⟩ : ∃ y : tw_T, y = sI τ21 0 k0 22 ((gI τ21 0 k0 22) - ((1 : Int32))) := ⟨_, rfl⟩
  have hF := hF τ22 eτ22
  rw [← eτ22] at hP
  have hN : gN τ22 = gN τ0 := by rw [eτ22]; exact hN
  refine lv_iload_n hx hb dX10_empties_35 rfl (lv_at hl 1 rfl) ?_
  refine lv_istore_n (lv' := [(2, .int x1), (0, .ref (ad 0 k0)), (1, .int x1)]) hx hb dX10_empties_36 rfl hl (by decide) rfl (fun ls hl => ?_)
  obtain ⟨n23, hF⟩ := hF
  refine l37 k0 hk0 _ n23 τ22 x1 _ _ _ hF hP hN hS (lv_sub hl [1, 0] rfl) ?_
  intro τ24 z25 H locs ls hF hP hN hS hl
  exact W.vret hx hb hr (fun t ht hW => ⟨⟨τ24, rfl, ⟨hF, hN⟩, tw_at hP ht⟩, hS.F ht⟩) hS.2.2 dX10_empties_93
def J_X10_glass_147 (τ : tw_T) (p0 : Nat) (u1 : Int32) (u2 : Int32) (Q : Int32 → tw_T → Prop) : Prop := F_X10_year τ p0 (fun (r2 : Int32) (τ1 : tw_T) => (F_X10_worthOf τ1 p0 u1 r2 (fun (r4 : Int32) (τ3 : tw_T) => (∀ z5 : Int32, z5 = (r4 + ((4 : Int32))) / ((5 : Int32)) → (∀ τ6 : tw_T, τ6 = sJ τ3 0 p0 4 ((gJ τ3 0 p0 4) + z5.toInt64) → (∀ τ7 : tw_T, τ7 = sI τ6 0 p0 20 ((gI τ6 0 p0 20) + ((1 : Int32))) → (∃ o8 : Nat, gR τ7 0 p0 27 = some o8 ∧ (vp_in u2 60 ∧ (vp_in u2 60 ∧ (∀ τ11 : tw_T, τ11 = sI τ7 127 o8 u2.toNatClampNeg ((gI τ7 127 o8 u2.toNatClampNeg) - ((1 : Int32))) → (∃ o12 : Nat, gR τ11 0 p0 27 = some o12 ∧ (vp_in u2 60 ∧ (((¬ (gI τ11 127 o12 u2.toNatClampNeg) = 0 → (Q z5 τ11)) ∧ ((gI τ11 127 o12 u2.toNatClampNeg) = 0 → (F_X10_empties τ11 p0 u2 (fun (τ15 : tw_T) => (Q z5 τ15))))))))))))))))))
def J_X10_glass_84 (τ : tw_T) (p0 : Nat) (u1 : Int32) (u2 : Int32) (u3 : Int32) (Q : Int32 → tw_T → Prop) : Prop := ((¬ u3 = ((30 : Int32)) → (((¬ (gI τ 0 p0 22) = ((60 : Int32)) → (F_X10_adds τ p0 u3 u1 ((-1 : Int32)) (fun (τ18 : tw_T) => (∃ o19 : Nat, gR τ18 0 p0 25 = some o19 ∧ (vp_in u2 60 ∧ (∀ τ21 : tw_T, τ21 = sI τ18 125 o19 u2.toNatClampNeg u1 → (∃ o22 : Nat, gR τ21 0 p0 26 = some o22 ∧ (vp_in u2 60 ∧ (∀ τ24 : tw_T, τ24 = sI τ21 126 o22 u2.toNatClampNeg (gI τ21 0 p0 3) → (∃ o25 : Nat, gR τ24 0 p0 27 = some o25 ∧ (vp_in u2 60 ∧ (∀ τ27 : tw_T, τ27 = sI τ24 127 o25 u2.toNatClampNeg ((6 : Int32)) → (∀ τ28 : tw_T, τ28 = sI τ27 0 p0 22 ((gI τ27 0 p0 22) + ((1 : Int32))) → (J_X10_glass_147 τ28 p0 u1 u2 Q)))))))))))))) ∧ ((gI τ 0 p0 22) = ((60 : Int32)) → (Q ((-3 : Int32)) τ))))) ∧ (u3 = ((30 : Int32)) → (Q ((-2 : Int32)) τ)))
def L_X10_glass_62 (p0 : Nat) (u1 : Int32) (u2 : Int32) (Q : Int32 → tw_T → Prop) (EX : tw_T → Int32 → Prop) : Nat → tw_T → Int32 → Prop
  | 0, _, _ => False
  | n + 1, τ, u3 => ((((30 : Int32)) ≤ u3 → (EX τ u3)) ∧ (¬ ((30 : Int32)) ≤ u3 → (∃ o30 : Nat, gR τ 0 p0 23 = some o30 ∧ (vp_in u3 30 ∧ ((((gI τ 123 o30 u3.toNatClampNeg) = u1 → (EX τ u3)) ∧ (¬ (gI τ 123 o30 u3.toNatClampNeg) = u1 → (∀ z33 : Int32, z33 = u3 + (1 : Int32) → (L_X10_glass_62 p0 u1 u2 Q EX n τ z33)))))))))
def J_X10_glass_52 (τ : tw_T) (p0 : Nat) (u1 : Int32) (u2 : Int32) (Q : Int32 → tw_T → Prop) : Prop := ((¬ u2 = (gI τ 0 p0 22) → (J_X10_glass_147 τ p0 u1 u2 Q)) ∧ (u2 = (gI τ 0 p0 22) → (∃ n35 : Nat, L_X10_glass_62 p0 u1 u2 Q (fun (τ36 : tw_T) (z37 : Int32) => J_X10_glass_84 τ36 p0 u1 u2 z37 Q) n35 τ ((0 : Int32)))))
def L_X10_glass_28 (p0 : Nat) (u1 : Int32) (Q : Int32 → tw_T → Prop) (EX : tw_T → Int32 → Prop) : Nat → tw_T → Int32 → Prop
  | 0, _, _ => False
  | n + 1, τ, u2 => (((gI τ 0 p0 22) ≤ u2 → (EX τ u2)) ∧ (¬ (gI τ 0 p0 22) ≤ u2 → (∃ o39 : Nat, gR τ 0 p0 25 = some o39 ∧ (vp_in u2 60 ∧ ((((gI τ 125 o39 u2.toNatClampNeg) = u1 → (EX τ u2)) ∧ (¬ (gI τ 125 o39 u2.toNatClampNeg) = u1 → (∀ z42 : Int32, z42 = u2 + (1 : Int32) → (L_X10_glass_28 p0 u1 Q EX n τ z42)))))))))
def F_X10_glass (τ0 : tw_T) (k0 : Nat) (x1 : Int32) (Q : Int32 → tw_T → Prop) : Prop := ∀ τ43 : tw_T, τ43 = sI τ0 0 k0 0 ((0 : Int32)) → (F_X10_isLot τ43 k0 x1 ((1 : Int32)) (fun (r45 : Int32) (τ44 : tw_T) => (((¬ r45 = 0 → (F_X10_isForSale τ44 k0 x1 (fun (r48 : Int32) (τ47 : tw_T) => (((¬ r48 = 0 → (∃ n50 : Nat, L_X10_glass_28 k0 x1 Q (fun (τ51 : tw_T) (z52 : Int32) => J_X10_glass_52 τ51 k0 x1 z52 Q) n50 τ47 ((0 : Int32)))) ∧ (r48 = 0 → (Q ((-1 : Int32)) τ47))))))) ∧ (r45 = 0 → (Q ((0 : Int32)) τ44))))))
def rmX10_glass : Room := { frames := 2, cells := 0, slots := 0, locals := 44 }
set_option maxHeartbeats 4000000 in
set_option maxRecDepth 100000 in
theorem mX10_glass (l : Launch) (dC : Nat → ClassId) (dI : Nat → Nat → Nat) (ac : Nat → ClassId) (sa : Nat → Nat) (A : Nat → Prop) (ad : Nat → Nat → Nat) (τ0 : tw_T) (k0 : Nat) (x1 : Int32) (Q : Int32 → tw_T → Prop) (hF : F_X10_glass τ0 k0 x1 Q) (hk0 : k0 < gN τ0 0) : Met l yX10_glass wsX10_glass rmX10_glass (va_Pc [.ref (ad 0 k0), .int x1] (BM dC dI ac sa A ad τ0)) (va_Qi (fun r (u : tw_T) => Q r u ∧ gN u = gN τ0) (fun u t => PM dC dI ac A ad u t.heap) A) 0 0 A := by
  refine Met.ofW (cc := cX10_glass) (maxL := 4) (ret := (some .int)) (by decide) rfl ?_
  intro p e s m args below meth c s₁ B hml hv
  obtain ⟨rfl, hP, hK, hA, hZ⟩ := hv
  have hx := B.exec
  have hb := B.bytes
  have hr := B.returns
  have hts := atoms_spec (ws := wsX10_glass) B.pre
  have hown : s.vm.findClass RX10 = some m.cls := findClass_of_methodNamed B.named
  have hlocks := B.notSynchronized
  have hS : va_S A s.heap s.heap [] := va_S.rf
  have hN : gN τ0 = gN τ0 := rfl
  have hl := lv_entry ([.ref (ad 0 k0), .int x1]) (n := 4) (Nat.le_of_ble_eq_true rfl)
  rw [lg_entry_eq]
  generalize (lg_sl ([.ref (ad 0 k0), .int x1]) ++ List.replicate (4 - (lg_sl ([.ref (ad 0 k0), .int x1])).length) Slot.unset).toArray = ls at hl ⊢
  have hl : lv_has ls 4 [(0, .ref (ad 0 k0)), (1, .int x1)] := hl
  unfold F_X10_glass at hF
  have j147 : ∀ (τ : tw_T) (p0 : Nat) (hp0 : p0 < gN τ0 0) (u1 : Int32) (u2 : Int32) (H : Heap) (locs : List Loc) (ls : Array Slot), J_X10_glass_147 τ p0 u1 u2 Q → PM dC dI ac A ad τ H → gN τ = gN τ0 → va_S A s.heap H locs → lv_has ls 4 [(0, .ref (ad 0 p0)), (1, .int u1), (2, .int u2)] → W p l e rmX10_glass s m ([.ref (ad 0 k0), .int x1] : List Value).toArray below meth c H locs 0 0 (MQ below (va_Qi (fun r (u : tw_T) => Q r u ∧ gN u = gN τ0) (fun u t => PM dC dI ac A ad u t.heap) A) ([.ref (ad 0 k0), .int x1] : List Value).toArray s 0 0 A) (F0 m 147 ls []) := by
    intro τ p0 hp0 u1 u2 H locs ls hF hP hN hS hl
    unfold J_X10_glass_147 at hF
    refine lv_aload_n hx hb dX10_glass_147 rfl (lv_at hl 0 rfl) ?_
    refine lv_iload_n hx hb dX10_glass_148 rfl (lv_at hl 1 rfl) ?_
    refine lv_aload_n hx hb dX10_glass_149 rfl (lv_at hl 0 rfl) ?_
    refine va_calli (va_runV (As := []) (rest := [.int u1, .ref (ad 0 p0)]) ⟨hx, hb, hml, hown, hts⟩ (mX10_year l dC dI ac sa A ad τ p0 _ hF (tw_lt hp0 (congrFun hN 0))) (cwV 0 hts gX10_glass_X10_year rfl rfl rfl (by decide +kernel) ⟨Nat.le_of_ble_eq_true rfl, Nat.le_of_ble_eq_true rfl⟩) ⟨BM.blind, tw_recv hK hP (by decide) (tw_lt hp0 (congrFun hN 0)) rfl rfl, fun U hU hW => ⟨rfl, BM.of hP hK hS hA hZ hU hW⟩⟩ rfl rfl hl.1 rfl (lv_room (Nat.le_of_ble_eq_true rfl)) dX10_glass_150 ⟨Nat.le_of_ble_eq_true rfl, Nat.le_of_ble_eq_true rfl⟩) hS (fun q _ h => h) (fun q h => h) (fun r2 τ1 t H locs ht hvm hw hB hz hk hS => ?_)
    obtain ⟨hF, hN9⟩ := hw
    have hP : PM dC dI ac A ad τ1 H := tw_back hB ht
    have hN : gN τ1 = gN τ0 := hN9.trans hN
    refine va_calli (va_runV (As := [.int u1, .int r2]) (rest := []) ⟨hx, hb, hml, hown, hts⟩ (mX10_worthOf l dC dI ac sa A ad τ1 p0 u1 r2 _ hF (tw_lt hp0 (congrFun hN 0))) (cwV 2 hts gX10_glass_X10_worthOf rfl rfl rfl (by decide +kernel) ⟨Nat.le_of_ble_eq_true rfl, Nat.le_of_ble_eq_true rfl⟩) ⟨BM.blind, tw_recv hK hP (by decide) (tw_lt hp0 (congrFun hN 0)) rfl rfl, fun U hU hW => ⟨rfl, BM.of hP hK hS hA hZ hU hW⟩⟩ rfl rfl hl.1 rfl (lv_room (Nat.le_of_ble_eq_true rfl)) dX10_glass_153 ⟨Nat.le_of_ble_eq_true rfl, Nat.le_of_ble_eq_true rfl⟩) hS (fun q _ h => h) (fun q h => h) (fun r4 τ3 t H locs ht hvm hw hB hz hk hS => ?_)
    obtain ⟨hF, hN9⟩ := hw
    have hP : PM dC dI ac A ad τ3 H := tw_back hB ht
    have hN : gN τ3 = gN τ0 := hN9.trans hN
    refine lv_iconst (v := 4) hx hb dX10_glass_156 (by decide) ?_
    refine lv_iadd hx hb dX10_glass_157 ?_
    refine lv_iconst (v := 5) hx hb dX10_glass_158 (by decide) ?_
    refine lv_idiv hx hb dX10_glass_159 (by decide) ?_
    refine lv_topi (fun z5 ez5 => ?_)
    have hF := hF z5 ez5
    refine lv_istore_n (lv' := [(3, .int z5), (0, .ref (ad 0 p0)), (1, .int u1), (2, .int u2)]) hx hb dX10_glass_160 rfl hl (by decide) rfl (fun ls hl => ?_)
    refine lv_aload_n hx hb dX10_glass_161 rfl (lv_at hl 1 rfl) ?_
    refine lv_dup hx hb dX10_glass_162 rfl ?_
    refine tw_get (v := .long (gJ τ3 0 p0 4)) hx hb hts (by decide +kernel) hown hK hP (by decide) (tw_lt hp0 (congrFun hN 0)) rfl rfl 4 (by decide) (hts (.fieldLink RX10 162 "WineCellarModel" "till" "J") (by decide +kernel)) (fun _ h9 => h9) rfl dX10_glass_163 ?_
    refine lv_iload_n hx hb dX10_glass_166 rfl (lv_at hl 0 rfl) ?_
    refine lv_i2l (v := z5.toInt64) hx hb dX10_glass_167 rfl ?_
    refine lv_ladd hx hb dX10_glass_168 ?_
    refine tw_put (τ' := sJ τ3 0 p0 4 ((gJ τ3 0 p0 4) + z5.toInt64)) (ty := .long) hx hb hts (by decide +kernel) tyX10 tyX10_ok nmX10 hown hK hP hS (by decide) (tw_lt hp0 (congrFun hN 0)) rfl rfl 4 (by decide) (hts (.fieldLink RX10 162 "WineCellarModel" "till" "J") (by decide +kernel)) (fun _ h9 => h9) rfl (by decide +kernel) rfl rfl (Nat.le_of_ble_eq_true rfl) dX10_glass_169 (fun H1 ha ho => tw_updJ hP (by decide) (tw_lt hp0 (congrFun hN 0)) ha ho) (fun H locs hP hS => ?_)
    obtain ⟨τ6, eτ6⟩ : ∃ y : tw_T, y = sJ τ3 0 p0 4 ((gJ τ3 0 p0 4) + z5.toInt64) := ⟨_, rfl⟩
    have hF := hF τ6 eτ6
    rw [← eτ6] at hP
    have hN : gN τ6 = gN τ0 := by rw [eτ6]; exact hN
    refine lv_aload_n hx hb dX10_glass_172 rfl (lv_at hl 1 rfl) ?_
    refine lv_dup hx hb dX10_glass_173 rfl ?_
    refine tw_get (v := .int (gI τ6 0 p0 20)) hx hb hts (by decide +kernel) hown hK hP (by decide) (tw_lt hp0 (congrFun hN 0)) rfl rfl 20 (by decide) (hts (.fieldLink RX10 178 "WineCellarModel" "poured" "I") (by decide +kernel)) (fun _ h9 => h9) rfl dX10_glass_174 ?_
    refine lv_iconst (v := 1) hx hb dX10_glass_177 (by decide) ?_
    refine lv_iadd hx hb dX10_glass_178 ?_
    refine tw_put (τ' := sI τ6 0 p0 20 ((gI τ6 0 p0 20) + ((1 : Int32)))) (ty := .int) hx hb hts (by decide +kernel) tyX10 tyX10_ok nmX10 hown hK hP hS (by decide) (tw_lt hp0 (congrFun hN 0)) rfl rfl 20 (by decide) (hts (.fieldLink RX10 178 "WineCellarModel" "poured" "I") (by decide +kernel)) (fun _ h9 => h9) rfl (by decide +kernel) rfl rfl (Nat.le_of_ble_eq_true rfl) dX10_glass_179 (fun H1 ha ho => tw_updI hP (by decide) (tw_lt hp0 (congrFun hN 0)) ha ho) (fun H locs hP hS => ?_)
    obtain ⟨τ7, eτ7⟩ : ∃ y : tw_T, y = sI τ6 0 p0 20 ((gI τ6 0 p0 20) + ((1 : Int32))) := ⟨_, rfl⟩
    have hF := hF τ7 eτ7
    rw [← eτ7] at hP
    have hN : gN τ7 = gN τ0 := by rw [eτ7]; exact hN
    refine lv_aload_n hx hb dX10_glass_182 rfl (lv_at hl 1 rfl) ?_
    obtain ⟨o8, eo8, hF⟩ := hF
    have ho8 : o8 < gN τ0 127 := tw_lt (hP.2.2.2 0 p0 27 o8 (by decide) (tw_lt hp0 (congrFun hN 0)) eo8) (congrFun hN 127).symm
    refine tw_get (v := .ref (ad 127 o8)) hx hb hts (by decide +kernel) hown hK hP (by decide) (tw_lt hp0 (congrFun hN 0)) rfl rfl 27 (by decide) (hts (.fieldLink RX10 56 "WineCellarModel" "openLeft" "[I") (by decide +kernel)) (fun _ h9 => h9) (show some (va_rf ((gR τ7 0 p0 27).map (ad 127))) = some (.ref (ad 127 o8)) by rw [eo8]; rfl) dX10_glass_183 ?_
    refine lv_iload_n hx hb dX10_glass_186 rfl (lv_at hl 3 rfl) ?_
    refine lv_dup2_11 hx hb dX10_glass_187 rfl rfl ?_
    obtain ⟨hi9, hF⟩ := hF
    refine tw_iald hx hb hK hP (by decide) (tw_lt ho8 (congrFun hN 127)) rfl 0 rfl hi9 dX10_glass_188 ?_
    refine lv_iconst (v := 1) hx hb dX10_glass_189 (by decide) ?_
    refine lv_isub hx hb dX10_glass_190 ?_
    obtain ⟨hi10, hF⟩ := hF
    refine tw_iast hx hb hK hP hS (by decide) (tw_lt ho8 (congrFun hN 127)) rfl 0 rfl hi10 dX10_glass_191 (fun H locs hP hS => ?_)
    obtain ⟨τ11, eτ11⟩ : ∃ y : tw_T, y = sI τ7 127 o8 u2.toNatClampNeg ((gI τ7 127 o8 u2.toNatClampNeg) - ((1 : Int32))) := ⟨_, rfl⟩
    have hF := hF τ11 eτ11
    rw [← eτ11] at hP
    have hN : gN τ11 = gN τ0 := by rw [eτ11]; exact hN
    refine lv_aload_n hx hb dX10_glass_192 rfl (lv_at hl 1 rfl) ?_
    obtain ⟨o12, eo12, hF⟩ := hF
    have ho12 : o12 < gN τ0 127 := tw_lt (hP.2.2.2 0 p0 27 o12 (by decide) (tw_lt hp0 (congrFun hN 0)) eo12) (congrFun hN 127).symm
    refine tw_get (v := .ref (ad 127 o12)) hx hb hts (by decide +kernel) hown hK hP (by decide) (tw_lt hp0 (congrFun hN 0)) rfl rfl 27 (by decide) (hts (.fieldLink RX10 56 "WineCellarModel" "openLeft" "[I") (by decide +kernel)) (fun _ h9 => h9) (show some (va_rf ((gR τ11 0 p0 27).map (ad 127))) = some (.ref (ad 127 o12)) by rw [eo12]; rfl) dX10_glass_193 ?_
    refine lv_iload_n hx hb dX10_glass_196 rfl (lv_at hl 3 rfl) ?_
    obtain ⟨hi13, hF⟩ := hF
    refine tw_iald hx hb hK hP (by decide) (tw_lt ho12 (congrFun hN 127)) rfl 0 rfl hi13 dX10_glass_197 ?_
    refine lv_if_ne (tgt := 206) hx hb dX10_glass_198 (by decide) (fun c14 => ?_) (fun c14 => ?_)
    · have hF := hF.1 c14
      refine lv_iload_n hx hb dX10_glass_206 rfl (lv_at hl 0 rfl) ?_
      exact W.iret (v := z5) hx hb hr (fun t ht hW => ⟨⟨z5, τ11, rfl, ⟨hF, hN⟩, tw_at hP ht⟩, hS.F ht⟩) hS.2.2 dX10_glass_207
    · have hF := hF.2 c14
      refine lv_aload_n hx hb dX10_glass_201 rfl (lv_at hl 1 rfl) ?_
      refine lv_iload_n hx hb dX10_glass_202 rfl (lv_at hl 3 rfl) ?_
      refine va_callv (va_runV (As := [.int u2]) (rest := []) ⟨hx, hb, hml, hown, hts⟩ (mX10_empties l dC dI ac sa A ad τ11 p0 u2 _ hF (tw_lt hp0 (congrFun hN 0))) (cwV 1 hts gX10_glass_X10_empties rfl rfl rfl (by decide +kernel) ⟨Nat.le_of_ble_eq_true rfl, Nat.le_of_ble_eq_true rfl⟩) ⟨BM.blind, tw_recv hK hP (by decide) (tw_lt hp0 (congrFun hN 0)) rfl rfl, fun U hU hW => ⟨rfl, BM.of hP hK hS hA hZ hU hW⟩⟩ rfl rfl hl.1 rfl (lv_room (Nat.le_of_ble_eq_true rfl)) dX10_glass_203 ⟨Nat.le_of_ble_eq_true rfl, Nat.le_of_ble_eq_true rfl⟩) hS (fun q _ h => h) (fun q h => h) (fun τ15 t H locs ht hvm hw hB hz hk hS => ?_)
      obtain ⟨hF, hN9⟩ := hw
      have hP : PM dC dI ac A ad τ15 H := tw_back hB ht
      have hN : gN τ15 = gN τ0 := hN9.trans hN
      refine lv_iload_n hx hb dX10_glass_206 rfl (lv_at hl 0 rfl) ?_
      exact W.iret (v := z5) hx hb hr (fun t ht hW => ⟨⟨z5, τ15, rfl, ⟨hF, hN⟩, tw_at hP ht⟩, hS.F ht⟩) hS.2.2 dX10_glass_207
  have j84 : ∀ (τ : tw_T) (p0 : Nat) (hp0 : p0 < gN τ0 0) (u1 : Int32) (u2 : Int32) (u3 : Int32) (H : Heap) (locs : List Loc) (ls : Array Slot), J_X10_glass_84 τ p0 u1 u2 u3 Q → PM dC dI ac A ad τ H → gN τ = gN τ0 → va_S A s.heap H locs → lv_has ls 4 [(0, .ref (ad 0 p0)), (1, .int u1), (2, .int u2), (3, .int u3)] → W p l e rmX10_glass s m ([.ref (ad 0 k0), .int x1] : List Value).toArray below meth c H locs 0 0 (MQ below (va_Qi (fun r (u : tw_T) => Q r u ∧ gN u = gN τ0) (fun u t => PM dC dI ac A ad u t.heap) A) ([.ref (ad 0 k0), .int x1] : List Value).toArray s 0 0 A) (F0 m 84 ls []) := by
    intro τ p0 hp0 u1 u2 u3 H locs ls hF hP hN hS hl
    unfold J_X10_glass_84 at hF
    refine lv_iload_n hx hb dX10_glass_84 rfl (lv_at hl 3 rfl) ?_
    refine lv_bipush (v := 30) hx hb dX10_glass_85 (by decide) ?_
    refine lv_icmp_ne (tgt := 93) hx hb dX10_glass_87 (by decide) (fun c16 => ?_) (fun c16 => ?_)
    · have hF := hF.1 c16
      refine lv_aload_n hx hb dX10_glass_93 rfl (lv_at hl 0 rfl) ?_
      refine tw_get (v := .int (gI τ 0 p0 22)) hx hb hts (by decide +kernel) hown hK hP (by decide) (tw_lt hp0 (congrFun hN 0)) rfl rfl 22 (by decide) (hts (.fieldLink RX10 149 "WineCellarModel" "open" "I") (by decide +kernel)) (fun _ h9 => h9) rfl dX10_glass_94 ?_
      refine lv_bipush (v := 60) hx hb dX10_glass_97 (by decide) ?_
      refine lv_icmp_ne (tgt := 105) hx hb dX10_glass_99 (by decide) (fun c17 => ?_) (fun c17 => ?_)
      · have hF := hF.1 c17
        refine lv_aload_n hx hb dX10_glass_105 rfl (lv_at hl 0 rfl) ?_
        refine lv_iload_n hx hb dX10_glass_106 rfl (lv_at hl 3 rfl) ?_
        refine lv_iload_n hx hb dX10_glass_107 rfl (lv_at hl 1 rfl) ?_
        refine lv_iconst (v := (-1)) hx hb dX10_glass_108 (by decide) ?_
        refine va_callv (va_runV (As := [.int u3, .int u1, .int ((-1 : Int32))]) (rest := []) ⟨hx, hb, hml, hown, hts⟩ (mX10_adds l dC dI ac sa A ad τ p0 u3 u1 ((-1 : Int32)) _ hF (tw_lt hp0 (congrFun hN 0))) (cwV 3 hts gX10_glass_X10_adds rfl rfl rfl (by decide +kernel) ⟨Nat.le_of_ble_eq_true rfl, Nat.le_of_ble_eq_true rfl⟩) ⟨BM.blind, tw_recv hK hP (by decide) (tw_lt hp0 (congrFun hN 0)) rfl rfl, fun U hU hW => ⟨rfl, BM.of hP hK hS hA hZ hU hW⟩⟩ rfl rfl hl.1 rfl (lv_room (Nat.le_of_ble_eq_true rfl)) dX10_glass_109 ⟨Nat.le_of_ble_eq_true rfl, Nat.le_of_ble_eq_true rfl⟩) hS (fun q _ h => h) (fun q h => h) (fun τ18 t H locs ht hvm hw hB hz hk hS => ?_)
        obtain ⟨hF, hN9⟩ := hw
        have hP : PM dC dI ac A ad τ18 H := tw_back hB ht
        have hN : gN τ18 = gN τ0 := hN9.trans hN
        refine lv_aload_n hx hb dX10_glass_112 rfl (lv_at hl 0 rfl) ?_
        obtain ⟨o19, eo19, hF⟩ := hF
        have ho19 : o19 < gN τ0 125 := tw_lt (hP.2.2.2 0 p0 25 o19 (by decide) (tw_lt hp0 (congrFun hN 0)) eo19) (congrFun hN 125).symm
        refine tw_get (v := .ref (ad 125 o19)) hx hb hts (by decide +kernel) hown hK hP (by decide) (tw_lt hp0 (congrFun hN 0)) rfl rfl 25 (by decide) (hts (.fieldLink RX10 50 "WineCellarModel" "openLot" "[I") (by decide +kernel)) (fun _ h9 => h9) (show some (va_rf ((gR τ18 0 p0 25).map (ad 125))) = some (.ref (ad 125 o19)) by rw [eo19]; rfl) dX10_glass_113 ?_
        refine lv_iload_n hx hb dX10_glass_116 rfl (lv_at hl 2 rfl) ?_
        refine lv_iload_n hx hb dX10_glass_117 rfl (lv_at hl 1 rfl) ?_
        obtain ⟨hi20, hF⟩ := hF
        refine tw_iast hx hb hK hP hS (by decide) (tw_lt ho19 (congrFun hN 125)) rfl 0 rfl hi20 dX10_glass_118 (fun H locs hP hS => ?_)
        obtain ⟨τ21, eτ21⟩ : ∃ y : tw_T, y = sI τ18 125 o19 u2.toNatClampNeg u1 := ⟨_, rfl⟩
        have hF := hF τ21 eτ21
        rw [← eτ21] at hP
        have hN : gN τ21 = gN τ0 := by rw [eτ21]; exact hN
        refine lv_aload_n hx hb dX10_glass_119 rfl (lv_at hl 0 rfl) ?_
        obtain ⟨o22, eo22, hF⟩ := hF
        have ho22 : o22 < gN τ0 126 := tw_lt (hP.2.2.2 0 p0 26 o22 (by decide) (tw_lt hp0 (congrFun hN 0)) eo22) (congrFun hN 126).symm
        refine tw_get (v := .ref (ad 126 o22)) hx hb hts (by decide +kernel) hown hK hP (by decide) (tw_lt hp0 (congrFun hN 0)) rfl rfl 26 (by decide) (hts (.fieldLink RX10 53 "WineCellarModel" "openHour" "[I") (by decide +kernel)) (fun _ h9 => h9) (show some (va_rf ((gR τ21 0 p0 26).map (ad 126))) = some (.ref (ad 126 o22)) by rw [eo22]; rfl) dX10_glass_120 ?_
        refine lv_iload_n hx hb dX10_glass_123 rfl (lv_at hl 2 rfl) ?_
        refine lv_aload_n hx hb dX10_glass_124 rfl (lv_at hl 0 rfl) ?_
        refine tw_get (v := .int (gI τ21 0 p0 3)) hx hb hts (by decide +kernel) hown hK hP (by decide) (tw_lt hp0 (congrFun hN 0)) rfl rfl 3 (by decide) (hts (.fieldLink RX10 105 "WineCellarModel" "hour" "I") (by decide +kernel)) (fun _ h9 => h9) rfl dX10_glass_125 ?_
        obtain ⟨hi23, hF⟩ := hF
        refine tw_iast hx hb hK hP hS (by decide) (tw_lt ho22 (congrFun hN 126)) rfl 0 rfl hi23 dX10_glass_128 (fun H locs hP hS => ?_)
        obtain ⟨τ24, eτ24⟩ : ∃ y : tw_T, y = sI τ21 126 o22 u2.toNatClampNeg (gI τ21 0 p0 3) := ⟨_, rfl⟩
        have hF := hF τ24 eτ24
        rw [← eτ24] at hP
        have hN : gN τ24 = gN τ0 := by rw [eτ24]; exact hN
        refine lv_aload_n hx hb dX10_glass_129 rfl (lv_at hl 0 rfl) ?_
        obtain ⟨o25, eo25, hF⟩ := hF
        have ho25 : o25 < gN τ0 127 := tw_lt (hP.2.2.2 0 p0 27 o25 (by decide) (tw_lt hp0 (congrFun hN 0)) eo25) (congrFun hN 127).symm
        refine tw_get (v := .ref (ad 127 o25)) hx hb hts (by decide +kernel) hown hK hP (by decide) (tw_lt hp0 (congrFun hN 0)) rfl rfl 27 (by decide) (hts (.fieldLink RX10 56 "WineCellarModel" "openLeft" "[I") (by decide +kernel)) (fun _ h9 => h9) (show some (va_rf ((gR τ24 0 p0 27).map (ad 127))) = some (.ref (ad 127 o25)) by rw [eo25]; rfl) dX10_glass_130 ?_
        refine lv_iload_n hx hb dX10_glass_133 rfl (lv_at hl 2 rfl) ?_
        refine lv_bipush (v := 6) hx hb dX10_glass_134 (by decide) ?_
        obtain ⟨hi26, hF⟩ := hF
        refine tw_iast hx hb hK hP hS (by decide) (tw_lt ho25 (congrFun hN 127)) rfl 0 rfl hi26 dX10_glass_136 (fun H locs hP hS => ?_)
        obtain ⟨τ27, eτ27⟩ : ∃ y : tw_T, y = sI τ24 127 o25 u2.toNatClampNeg ((6 : Int32)) := ⟨_, rfl⟩
        have hF := hF τ27 eτ27
        rw [← eτ27] at hP
        have hN : gN τ27 = gN τ0 := by rw [eτ27]; exact hN
        refine lv_aload_n hx hb dX10_glass_137 rfl (lv_at hl 0 rfl) ?_
        refine lv_dup hx hb dX10_glass_138 rfl ?_
        refine tw_get (v := .int (gI τ27 0 p0 22)) hx hb hts (by decide +kernel) hown hK hP (by decide) (tw_lt hp0 (congrFun hN 0)) rfl rfl 22 (by decide) (hts (.fieldLink RX10 149 "WineCellarModel" "open" "I") (by decide +kernel)) (fun _ h9 => h9) rfl dX10_glass_139 ?_
        refine lv_iconst (v := 1) hx hb dX10_glass_142 (by decide) ?_
        refine lv_iadd hx hb dX10_glass_143 ?_
        refine tw_put (τ' := sI τ27 0 p0 22 ((gI τ27 0 p0 22) + ((1 : Int32)))) (ty := .int) hx hb hts (by decide +kernel) tyX10 tyX10_ok nmX10 hown hK hP hS (by decide) (tw_lt hp0 (congrFun hN 0)) rfl rfl 22 (by decide) (hts (.fieldLink RX10 149 "WineCellarModel" "open" "I") (by decide +kernel)) (fun _ h9 => h9) rfl (by decide +kernel) rfl rfl (Nat.le_of_ble_eq_true rfl) dX10_glass_144 (fun H1 ha ho => tw_updI hP (by decide) (tw_lt hp0 (congrFun hN 0)) ha ho) (fun H locs hP hS => ?_)
        obtain ⟨τ28, eτ28⟩ : ∃ y : tw_T, y = sI τ27 0 p0 22 ((gI τ27 0 p0 22) + ((1 : Int32))) := ⟨_, rfl⟩
        have hF := hF τ28 eτ28
        rw [← eτ28] at hP
        have hN : gN τ28 = gN τ0 := by rw [eτ28]; exact hN
        exact j147 τ28 p0 hp0 u1 u2 _ _ _ hF hP hN hS (lv_sub hl [0, 1, 2] rfl)
      · have hF := hF.2 c17
        refine lv_bipush (v := (-3)) hx hb dX10_glass_102 (by decide) ?_
        exact W.iret (v := (-3 : Int32)) hx hb hr (fun t ht hW => ⟨⟨((-3 : Int32)), τ, rfl, ⟨hF, hN⟩, tw_at hP ht⟩, hS.F ht⟩) hS.2.2 dX10_glass_104
    · have hF := hF.2 c16
      refine lv_bipush (v := (-2)) hx hb dX10_glass_90 (by decide) ?_
      exact W.iret (v := (-2 : Int32)) hx hb hr (fun t ht hW => ⟨⟨((-2 : Int32)), τ, rfl, ⟨hF, hN⟩, tw_at hP ht⟩, hS.F ht⟩) hS.2.2 dX10_glass_92
  have l62 : ∀ (p0 : Nat) (hp0 : p0 < gN τ0 0) (u1 : Int32) (u2 : Int32) (EX : tw_T → Int32 → Prop) (n : Nat) (τ : tw_T) (u3 : Int32) (H : Heap) (locs : List Loc) (ls : Array Slot), L_X10_glass_62 p0 u1 u2 Q EX n τ u3 → PM dC dI ac A ad τ H → gN τ = gN τ0 → va_S A s.heap H locs → lv_has ls 4 [(0, .ref (ad 0 p0)), (1, .int u1), (2, .int u2), (3, .int u3)] → (∀ (τ : tw_T) (u3 : Int32) (H : Heap) (locs : List Loc) (ls : Array Slot), EX τ u3 → PM dC dI ac A ad τ H → gN τ = gN τ0 → va_S A s.heap H locs → lv_has ls 4 [(0, .ref (ad 0 p0)), (1, .int u1), (2, .int u2), (3, .int u3)] → W p l e rmX10_glass s m ([.ref (ad 0 k0), .int x1] : List Value).toArray below meth c H locs 0 0 (MQ below (va_Qi (fun r (u : tw_T) => Q r u ∧ gN u = gN τ0) (fun u t => PM dC dI ac A ad u t.heap) A) ([.ref (ad 0 k0), .int x1] : List Value).toArray s 0 0 A) (F0 m 84 ls [])) → W p l e rmX10_glass s m ([.ref (ad 0 k0), .int x1] : List Value).toArray below meth c H locs 0 0 (MQ below (va_Qi (fun r (u : tw_T) => Q r u ∧ gN u = gN τ0) (fun u t => PM dC dI ac A ad u t.heap) A) ([.ref (ad 0 k0), .int x1] : List Value).toArray s 0 0 A) (F0 m 62 ls []) := by
    intro p0 hp0 u1 u2 EX n
    induction n with
    | zero => intro τ u3 H locs ls hF; exact hF.elim
    | succ n ih =>
      intro τ u3 H locs ls hF hP hN hS hl hEX
      rw [L_X10_glass_62] at hF
      refine lv_iload_n hx hb dX10_glass_62 rfl (lv_at hl 3 rfl) ?_
      refine lv_bipush (v := 30) hx hb dX10_glass_63 (by decide) ?_
      refine lv_icmp_ge (tgt := 84) hx hb dX10_glass_65 (by decide) (fun c29 => ?_) (fun c29 => ?_)
      · have hF := hF.1 c29
        exact hEX τ u3 _ _ _ hF hP hN hS (lv_sub hl [0, 1, 2, 3] rfl)
      · have hF := hF.2 c29
        refine lv_aload_n hx hb dX10_glass_68 rfl (lv_at hl 0 rfl) ?_
        obtain ⟨o30, eo30, hF⟩ := hF
        have ho30 : o30 < gN τ0 123 := tw_lt (hP.2.2.2 0 p0 23 o30 (by decide) (tw_lt hp0 (congrFun hN 0)) eo30) (congrFun hN 123).symm
        refine tw_get (v := .ref (ad 123 o30)) hx hb hts (by decide +kernel) hown hK hP (by decide) (tw_lt hp0 (congrFun hN 0)) rfl rfl 23 (by decide) (hts (.fieldLink RX10 44 "WineCellarModel" "cellLot" "[I") (by decide +kernel)) (fun _ h9 => h9) (show some (va_rf ((gR τ 0 p0 23).map (ad 123))) = some (.ref (ad 123 o30)) by rw [eo30]; rfl) dX10_glass_69 ?_
        refine lv_iload_n hx hb dX10_glass_72 rfl (lv_at hl 3 rfl) ?_
        obtain ⟨hi31, hF⟩ := hF
        refine tw_iald hx hb hK hP (by decide) (tw_lt ho30 (congrFun hN 123)) rfl 0 rfl hi31 dX10_glass_73 ?_
        refine lv_iload_n hx hb dX10_glass_74 rfl (lv_at hl 1 rfl) ?_
        refine lv_icmp_eq (tgt := 84) hx hb dX10_glass_75 (by decide) (fun c32 => ?_) (fun c32 => ?_)
        · have hF := hF.1 c32
          exact hEX τ u3 _ _ _ hF hP hN hS (lv_sub hl [0, 1, 2, 3] rfl)
        · have hF := hF.2 c32
          obtain ⟨z33, ez33⟩ : ∃ y : Int32, y = u3 + (1 : Int32) := ⟨_, rfl⟩
          have hF := hF z33 ez33
          refine lv_iinc (v := z33) (lv' := [(3, .int z33), (0, .ref (ad 0 p0)), (1, .int u1), (2, .int u2)]) hx hb dX10_glass_78 hl (k := 3) rfl (by rw [ez33]; rfl) (by decide) rfl (fun ls hl => ?_)
          refine lv_goto (tgt := 62) hx hb dX10_glass_81 (by decide) ?_
          exact ih τ z33 _ _ _ hF hP hN hS (lv_sub hl [1, 2, 3, 0] rfl) hEX
  have j52 : ∀ (τ : tw_T) (p0 : Nat) (hp0 : p0 < gN τ0 0) (u1 : Int32) (u2 : Int32) (H : Heap) (locs : List Loc) (ls : Array Slot), J_X10_glass_52 τ p0 u1 u2 Q → PM dC dI ac A ad τ H → gN τ = gN τ0 → va_S A s.heap H locs → lv_has ls 4 [(0, .ref (ad 0 p0)), (1, .int u1), (2, .int u2)] → W p l e rmX10_glass s m ([.ref (ad 0 k0), .int x1] : List Value).toArray below meth c H locs 0 0 (MQ below (va_Qi (fun r (u : tw_T) => Q r u ∧ gN u = gN τ0) (fun u t => PM dC dI ac A ad u t.heap) A) ([.ref (ad 0 k0), .int x1] : List Value).toArray s 0 0 A) (F0 m 52 ls []) := by
    intro τ p0 hp0 u1 u2 H locs ls hF hP hN hS hl
    unfold J_X10_glass_52 at hF
    refine lv_iload_n hx hb dX10_glass_52 rfl (lv_at hl 2 rfl) ?_
    refine lv_aload_n hx hb dX10_glass_53 rfl (lv_at hl 0 rfl) ?_
    refine tw_get (v := .int (gI τ 0 p0 22)) hx hb hts (by decide +kernel) hown hK hP (by decide) (tw_lt hp0 (congrFun hN 0)) rfl rfl 22 (by decide) (hts (.fieldLink RX10 149 "WineCellarModel" "open" "I") (by decide +kernel)) (fun _ h9 => h9) rfl dX10_glass_54 ?_
    refine lv_icmp_ne (tgt := 147) hx hb dX10_glass_57 (by decide) (fun c34 => ?_) (fun c34 => ?_)
    · have hF := hF.1 c34
      exact j147 τ p0 hp0 u1 u2 _ _ _ hF hP hN hS (lv_sub hl [0, 1, 2] rfl)
    · have hF := hF.2 c34
      refine lv_iconst (v := 0) hx hb dX10_glass_60 (by decide) ?_
      refine lv_istore_n (lv' := [(3, .int ((0 : Int32))), (0, .ref (ad 0 p0)), (1, .int u1), (2, .int u2)]) hx hb dX10_glass_61 rfl hl (by decide) rfl (fun ls hl => ?_)
      obtain ⟨n35, hF⟩ := hF
      refine l62 p0 hp0 u1 u2 _ n35 τ ((0 : Int32)) _ _ _ hF hP hN hS (lv_sub hl [1, 2, 3, 0] rfl) ?_
      intro τ36 z37 H locs ls hF hP hN hS hl
      exact j84 τ36 p0 hp0 u1 u2 z37 _ _ _ hF hP hN hS (lv_sub hl [0, 1, 2, 3] rfl)
  have l28 : ∀ (p0 : Nat) (hp0 : p0 < gN τ0 0) (u1 : Int32) (EX : tw_T → Int32 → Prop) (n : Nat) (τ : tw_T) (u2 : Int32) (H : Heap) (locs : List Loc) (ls : Array Slot), L_X10_glass_28 p0 u1 Q EX n τ u2 → PM dC dI ac A ad τ H → gN τ = gN τ0 → va_S A s.heap H locs → lv_has ls 4 [(0, .ref (ad 0 p0)), (1, .int u1), (2, .int u2)] → (∀ (τ : tw_T) (u2 : Int32) (H : Heap) (locs : List Loc) (ls : Array Slot), EX τ u2 → PM dC dI ac A ad τ H → gN τ = gN τ0 → va_S A s.heap H locs → lv_has ls 4 [(0, .ref (ad 0 p0)), (1, .int u1), (2, .int u2)] → W p l e rmX10_glass s m ([.ref (ad 0 k0), .int x1] : List Value).toArray below meth c H locs 0 0 (MQ below (va_Qi (fun r (u : tw_T) => Q r u ∧ gN u = gN τ0) (fun u t => PM dC dI ac A ad u t.heap) A) ([.ref (ad 0 k0), .int x1] : List Value).toArray s 0 0 A) (F0 m 52 ls [])) → W p l e rmX10_glass s m ([.ref (ad 0 k0), .int x1] : List Value).toArray below meth c H locs 0 0 (MQ below (va_Qi (fun r (u : tw_T) => Q r u ∧ gN u = gN τ0) (fun u t => PM dC dI ac A ad u t.heap) A) ([.ref (ad 0 k0), .int x1] : List Value).toArray s 0 0 A) (F0 m 28 ls []) := by
    intro p0 hp0 u1 EX n
    induction n with
    | zero => intro τ u2 H locs ls hF; exact hF.elim
    | succ n ih =>
      intro τ u2 H locs ls hF hP hN hS hl hEX
      rw [L_X10_glass_28] at hF
      refine lv_iload_n hx hb dX10_glass_28 rfl (lv_at hl 2 rfl) ?_
      refine lv_aload_n hx hb dX10_glass_29 rfl (lv_at hl 0 rfl) ?_
      refine tw_get (v := .int (gI τ 0 p0 22)) hx hb hts (by decide +kernel) hown hK hP (by decide) (tw_lt hp0 (congrFun hN 0)) rfl rfl 22 (by decide) (hts (.fieldLink RX10 149 "WineCellarModel" "open" "I") (by decide +kernel)) (fun _ h9 => h9) rfl dX10_glass_30 ?_
      refine lv_icmp_ge (tgt := 52) hx hb dX10_glass_33 (by decide) (fun c38 => ?_) (fun c38 => ?_)
      · have hF := hF.1 c38
        exact hEX τ u2 _ _ _ hF hP hN hS (lv_sub hl [0, 1, 2] rfl)
      · have hF := hF.2 c38
        refine lv_aload_n hx hb dX10_glass_36 rfl (lv_at hl 0 rfl) ?_
        obtain ⟨o39, eo39, hF⟩ := hF
        have ho39 : o39 < gN τ0 125 := tw_lt (hP.2.2.2 0 p0 25 o39 (by decide) (tw_lt hp0 (congrFun hN 0)) eo39) (congrFun hN 125).symm
        refine tw_get (v := .ref (ad 125 o39)) hx hb hts (by decide +kernel) hown hK hP (by decide) (tw_lt hp0 (congrFun hN 0)) rfl rfl 25 (by decide) (hts (.fieldLink RX10 50 "WineCellarModel" "openLot" "[I") (by decide +kernel)) (fun _ h9 => h9) (show some (va_rf ((gR τ 0 p0 25).map (ad 125))) = some (.ref (ad 125 o39)) by rw [eo39]; rfl) dX10_glass_37 ?_
        refine lv_iload_n hx hb dX10_glass_40 rfl (lv_at hl 2 rfl) ?_
        obtain ⟨hi40, hF⟩ := hF
        refine tw_iald hx hb hK hP (by decide) (tw_lt ho39 (congrFun hN 125)) rfl 0 rfl hi40 dX10_glass_41 ?_
        refine lv_iload_n hx hb dX10_glass_42 rfl (lv_at hl 1 rfl) ?_
        refine lv_icmp_eq (tgt := 52) hx hb dX10_glass_43 (by decide) (fun c41 => ?_) (fun c41 => ?_)
        · have hF := hF.1 c41
          exact hEX τ u2 _ _ _ hF hP hN hS (lv_sub hl [0, 1, 2] rfl)
        · have hF := hF.2 c41
          obtain ⟨z42, ez42⟩ : ∃ y : Int32, y = u2 + (1 : Int32) := ⟨_, rfl⟩
          have hF := hF z42 ez42
          refine lv_iinc (v := z42) (lv' := [(2, .int z42), (0, .ref (ad 0 p0)), (1, .int u1)]) hx hb dX10_glass_46 hl (k := 2) rfl (by rw [ez42]; rfl) (by decide) rfl (fun ls hl => ?_)
          refine lv_goto (tgt := 28) hx hb dX10_glass_49 (by decide) ?_
          exact ih τ z42 _ _ _ hF hP hN hS (lv_sub hl [1, 2, 0] rfl) hEX
  refine lv_aload_n hx hb dX10_glass_0 rfl (lv_at hl 0 rfl) ?_
  refine lv_iconst (v := 0) hx hb dX10_glass_1 (by decide) ?_
  refine tw_put (τ' := sI τ0 0 k0 0 ((0 : Int32))) (ty := .int) hx hb hts (by decide +kernel) tyX10 tyX10_ok nmX10 hown hK hP hS (by decide) hk0 rfl rfl 0 (by decide) (hts (.fieldLink RX10 1 "WineCellarModel" "thrown" "I") (by decide +kernel)) (fun _ h9 => h9) rfl (by decide +kernel) rfl rfl (Nat.le_of_ble_eq_true rfl) dX10_glass_2 (fun H1 ha ho => tw_updI hP (by decide) hk0 ha ho) (fun H locs hP hS => ?_)
  obtain ⟨τ43, eτ43⟩ : ∃ y : tw_T, y = sI τ0 0 k0 0 ((0 : Int32)) := ⟨_, rfl⟩
  have hF := hF τ43 eτ43
  rw [← eτ43] at hP
  have hN : gN τ43 = gN τ0 := by rw [eτ43]; exact hN
  refine lv_aload_n hx hb dX10_glass_5 rfl (lv_at hl 0 rfl) ?_
  refine lv_iload_n hx hb dX10_glass_6 rfl (lv_at hl 1 rfl) ?_
  refine lv_iconst (v := 1) hx hb dX10_glass_7 (by decide) ?_
  refine va_calli (va_runV (As := [.int x1, .int ((1 : Int32))]) (rest := []) ⟨hx, hb, hml, hown, hts⟩ (mX10_isLot l dC dI ac sa A ad τ43 k0 x1 ((1 : Int32)) _ hF (tw_lt hk0 (congrFun hN 0))) (cwV 2 hts gX10_glass_X10_isLot rfl rfl rfl (by decide +kernel) ⟨Nat.le_of_ble_eq_true rfl, Nat.le_of_ble_eq_true rfl⟩) ⟨BM.blind, tw_recv hK hP (by decide) (tw_lt hk0 (congrFun hN 0)) rfl rfl, fun U hU hW => ⟨rfl, BM.of hP hK hS hA hZ hU hW⟩⟩ rfl rfl hl.1 rfl (lv_room (Nat.le_of_ble_eq_true rfl)) dX10_glass_8 ⟨Nat.le_of_ble_eq_true rfl, Nat.le_of_ble_eq_true rfl⟩) hS (fun q _ h => h) (fun q h => h) (fun r45 τ44 t H locs ht hvm hw hB hz hk hS => ?_)
  obtain ⟨hF, hN9⟩ := hw
  have hP : PM dC dI ac A ad τ44 H := tw_back hB ht
  have hN : gN τ44 = gN τ0 := hN9.trans hN
  refine lv_if_ne (tgt := 16) hx hb dX10_glass_11 (by decide) (fun c46 => ?_) (fun c46 => ?_)
  · have hF := hF.1 c46
    refine lv_aload_n hx hb dX10_glass_16 rfl (lv_at hl 0 rfl) ?_
    refine lv_iload_n hx hb dX10_glass_17 rfl (lv_at hl 1 rfl) ?_
    refine va_calli (va_runV (As := [.int x1]) (rest := []) ⟨hx, hb, hml, hown, hts⟩ (mX10_isForSale l dC dI ac sa A ad τ44 k0 x1 _ hF (tw_lt hk0 (congrFun hN 0))) (cwV 1 hts gX10_glass_X10_isForSale rfl rfl rfl (by decide +kernel) ⟨Nat.le_of_ble_eq_true rfl, Nat.le_of_ble_eq_true rfl⟩) ⟨BM.blind, tw_recv hK hP (by decide) (tw_lt hk0 (congrFun hN 0)) rfl rfl, fun U hU hW => ⟨rfl, BM.of hP hK hS hA hZ hU hW⟩⟩ rfl rfl hl.1 rfl (lv_room (Nat.le_of_ble_eq_true rfl)) dX10_glass_18 ⟨Nat.le_of_ble_eq_true rfl, Nat.le_of_ble_eq_true rfl⟩) hS (fun q _ h => h) (fun q h => h) (fun r48 τ47 t H locs ht hvm hw hB hz hk hS => ?_)
    obtain ⟨hF, hN9⟩ := hw
    have hP : PM dC dI ac A ad τ47 H := tw_back hB ht
    have hN : gN τ47 = gN τ0 := hN9.trans hN
    refine lv_if_ne (tgt := 26) hx hb dX10_glass_21 (by decide) (fun c49 => ?_) (fun c49 => ?_)
    · have hF := hF.1 c49
      refine lv_iconst (v := 0) hx hb dX10_glass_26 (by decide) ?_
      refine lv_istore_n (lv' := [(2, .int ((0 : Int32))), (0, .ref (ad 0 k0)), (1, .int x1)]) hx hb dX10_glass_27 rfl hl (by decide) rfl (fun ls hl => ?_)
      obtain ⟨n50, hF⟩ := hF
      refine l28 k0 hk0 x1 _ n50 τ47 ((0 : Int32)) _ _ _ hF hP hN hS (lv_sub hl [1, 2, 0] rfl) ?_
      intro τ51 z52 H locs ls hF hP hN hS hl
      exact j52 τ51 k0 hk0 x1 z52 _ _ _ hF hP hN hS (lv_sub hl [0, 1, 2] rfl)
    · have hF := hF.2 c49
      refine lv_iconst (v := (-1)) hx hb dX10_glass_24 (by decide) ?_
      exact W.iret (v := (-1 : Int32)) hx hb hr (fun t ht hW => ⟨⟨((-1 : Int32)), τ47, rfl, ⟨hF, hN⟩, tw_at hP ht⟩, hS.F ht⟩) hS.2.2 dX10_glass_25
  · have hF := hF.2 c46
    refine lv_iconst (v := 0) hx hb dX10_glass_14 (by decide) ?_
    exact W.iret (v := (0 : Int32)) hx hb hr (fun t ht hW => ⟨⟨((0 : Int32)), τ44, rfl, ⟨hF, hN⟩, tw_at hP ht⟩, hS.F ht⟩) hS.2.2 dX10_glass_15
def F_X10_keeps (τ0 : tw_T) (k0 : Nat) (x1 : Int32) (Q : Int32 → tw_T → Prop) : Prop := ∃ o1 : Nat, gR τ0 0 k0 5 = some o1 ∧ (∃ o2 : Nat, gR τ0 0 k0 10 = some o2 ∧ (vp_in x1 60 ∧ (vp_in (gI τ0 110 o2 x1.toNatClampNeg) 20 ∧ (((¬ (gI τ0 105 o1 (gI τ0 110 o2 x1.toNatClampNeg).toNatClampNeg) = 0 → (∃ o6 : Nat, gR τ0 0 k0 5 = some o6 ∧ (∃ o7 : Nat, gR τ0 0 k0 10 = some o7 ∧ (vp_in x1 60 ∧ (vp_in (gI τ0 110 o7 x1.toNatClampNeg) 20 ∧ (((¬ (gI τ0 105 o6 (gI τ0 110 o7 x1.toNatClampNeg).toNatClampNeg) = ((1 : Int32)) → (Q ((240 : Int32)) τ0)) ∧ ((gI τ0 105 o6 (gI τ0 110 o7 x1.toNatClampNeg).toNatClampNeg) = ((1 : Int32)) → (Q ((12 : Int32)) τ0))))))))) ∧ ((gI τ0 105 o1 (gI τ0 110 o2 x1.toNatClampNeg).toNatClampNeg) = 0 → (Q ((48 : Int32)) τ0)))))))
def rmX10_keeps : Room := { frames := 0, cells := 0, slots := 0, locals := 0 }
set_option maxHeartbeats 4000000 in
set_option maxRecDepth 100000 in
theorem mX10_keeps (l : Launch) (dC : Nat → ClassId) (dI : Nat → Nat → Nat) (ac : Nat → ClassId) (sa : Nat → Nat) (A : Nat → Prop) (ad : Nat → Nat → Nat) (τ0 : tw_T) (k0 : Nat) (x1 : Int32) (Q : Int32 → tw_T → Prop) (hF : F_X10_keeps τ0 k0 x1 Q) (hk0 : k0 < gN τ0 0) : Met l yX10_keeps wsX10_keeps rmX10_keeps (va_Pc [.ref (ad 0 k0), .int x1] (BM dC dI ac sa A ad τ0)) (va_Qi (fun r (u : tw_T) => Q r u ∧ gN u = gN τ0) (fun u t => PM dC dI ac A ad u t.heap) A) 0 0 A := by
  refine Met.ofW (cc := cX10_keeps) (maxL := 2) (ret := (some .int)) (by decide) rfl ?_
  intro p e s m args below meth c s₁ B hml hv
  obtain ⟨rfl, hP, hK, hA, hZ⟩ := hv
  have hx := B.exec
  have hb := B.bytes
  have hr := B.returns
  have hts := atoms_spec (ws := wsX10_keeps) B.pre
  have hown : s.vm.findClass RX10 = some m.cls := findClass_of_methodNamed B.named
  have hlocks := B.notSynchronized
  have hS : va_S A s.heap s.heap [] := va_S.rf
  have hN : gN τ0 = gN τ0 := rfl
  have hl := lv_entry ([.ref (ad 0 k0), .int x1]) (n := 2) (Nat.le_of_ble_eq_true rfl)
  rw [lg_entry_eq]
  generalize (lg_sl ([.ref (ad 0 k0), .int x1]) ++ List.replicate (2 - (lg_sl ([.ref (ad 0 k0), .int x1])).length) Slot.unset).toArray = ls at hl ⊢
  have hl : lv_has ls 2 [(0, .ref (ad 0 k0)), (1, .int x1)] := hl
  unfold F_X10_keeps at hF
  refine lv_aload_n hx hb dX10_keeps_0 rfl (lv_at hl 0 rfl) ?_
  obtain ⟨o1, eo1, hF⟩ := hF
  have ho1 : o1 < gN τ0 105 := tw_lt (hP.2.2.2 0 k0 5 o1 (by decide) hk0 eo1) (congrFun hN 105).symm
  refine tw_get (v := .ref (ad 105 o1)) hx hb hts (by decide +kernel) hown hK hP (by decide) hk0 rfl rfl 5 (by decide) (hts (.fieldLink RX10 13 "WineCellarModel" "sort" "[I") (by decide +kernel)) (fun _ h9 => h9) (show some (va_rf ((gR τ0 0 k0 5).map (ad 105))) = some (.ref (ad 105 o1)) by rw [eo1]; rfl) dX10_keeps_1 ?_
  refine lv_aload_n hx hb dX10_keeps_4 rfl (lv_at hl 0 rfl) ?_
  obtain ⟨o2, eo2, hF⟩ := hF
  have ho2 : o2 < gN τ0 110 := tw_lt (hP.2.2.2 0 k0 10 o2 (by decide) hk0 eo2) (congrFun hN 110).symm
  refine tw_get (v := .ref (ad 110 o2)) hx hb hts (by decide +kernel) hown hK hP (by decide) hk0 rfl rfl 10 (by decide) (hts (.fieldLink RX10 29 "WineCellarModel" "kindOf" "[I") (by decide +kernel)) (fun _ h9 => h9) (show some (va_rf ((gR τ0 0 k0 10).map (ad 110))) = some (.ref (ad 110 o2)) by rw [eo2]; rfl) dX10_keeps_5 ?_
  refine lv_iload_n hx hb dX10_keeps_8 rfl (lv_at hl 1 rfl) ?_
  obtain ⟨hi3, hF⟩ := hF
  refine tw_iald hx hb hK hP (by decide) ho2 rfl 0 rfl hi3 dX10_keeps_9 ?_
  obtain ⟨hi4, hF⟩ := hF
  refine tw_iald hx hb hK hP (by decide) ho1 rfl 0 rfl hi4 dX10_keeps_10 ?_
  refine lv_if_ne (tgt := 19) hx hb dX10_keeps_11 (by decide) (fun c5 => ?_) (fun c5 => ?_)
  · have hF := hF.1 c5
    refine lv_aload_n hx hb dX10_keeps_19 rfl (lv_at hl 0 rfl) ?_
    obtain ⟨o6, eo6, hF⟩ := hF
    have ho6 : o6 < gN τ0 105 := tw_lt (hP.2.2.2 0 k0 5 o6 (by decide) hk0 eo6) (congrFun hN 105).symm
    refine tw_get (v := .ref (ad 105 o6)) hx hb hts (by decide +kernel) hown hK hP (by decide) hk0 rfl rfl 5 (by decide) (hts (.fieldLink RX10 13 "WineCellarModel" "sort" "[I") (by decide +kernel)) (fun _ h9 => h9) (show some (va_rf ((gR τ0 0 k0 5).map (ad 105))) = some (.ref (ad 105 o6)) by rw [eo6]; rfl) dX10_keeps_20 ?_
    refine lv_aload_n hx hb dX10_keeps_23 rfl (lv_at hl 0 rfl) ?_
    obtain ⟨o7, eo7, hF⟩ := hF
    have ho7 : o7 < gN τ0 110 := tw_lt (hP.2.2.2 0 k0 10 o7 (by decide) hk0 eo7) (congrFun hN 110).symm
    refine tw_get (v := .ref (ad 110 o7)) hx hb hts (by decide +kernel) hown hK hP (by decide) hk0 rfl rfl 10 (by decide) (hts (.fieldLink RX10 29 "WineCellarModel" "kindOf" "[I") (by decide +kernel)) (fun _ h9 => h9) (show some (va_rf ((gR τ0 0 k0 10).map (ad 110))) = some (.ref (ad 110 o7)) by rw [eo7]; rfl) dX10_keeps_24 ?_
    refine lv_iload_n hx hb dX10_keeps_27 rfl (lv_at hl 1 rfl) ?_
    obtain ⟨hi8, hF⟩ := hF
    refine tw_iald hx hb hK hP (by decide) ho7 rfl 0 rfl hi8 dX10_keeps_28 ?_
    obtain ⟨hi9, hF⟩ := hF
    refine tw_iald hx hb hK hP (by decide) ho6 rfl 0 rfl hi9 dX10_keeps_29 ?_
    refine lv_iconst (v := 1) hx hb dX10_keeps_30 (by decide) ?_
    refine lv_icmp_ne (tgt := 39) hx hb dX10_keeps_31 (by decide) (fun c10 => ?_) (fun c10 => ?_)
    · have hF := hF.1 c10
      refine lv_sipush (v := 240) hx hb dX10_keeps_39 (by decide) ?_
      exact W.iret (v := (240 : Int32)) hx hb hr (fun t ht hW => ⟨⟨((240 : Int32)), τ0, rfl, ⟨hF, hN⟩, tw_at hP ht⟩, hS.F ht⟩) hS.2.2 dX10_keeps_42
    · have hF := hF.2 c10
      refine lv_bipush (v := 12) hx hb dX10_keeps_34 (by decide) ?_
      refine lv_goto (tgt := 42) hx hb dX10_keeps_36 (by decide) ?_
      exact W.iret (v := (12 : Int32)) hx hb hr (fun t ht hW => ⟨⟨((12 : Int32)), τ0, rfl, ⟨hF, hN⟩, tw_at hP ht⟩, hS.F ht⟩) hS.2.2 dX10_keeps_42
  · have hF := hF.2 c5
    refine lv_bipush (v := 48) hx hb dX10_keeps_14 (by decide) ?_
    refine lv_goto (tgt := 42) hx hb dX10_keeps_16 (by decide) ?_
    exact W.iret (v := (48 : Int32)) hx hb hr (fun t ht hW => ⟨⟨((48 : Int32)), τ0, rfl, ⟨hF, hN⟩, tw_at hP ht⟩, hS.F ht⟩) hS.2.2 dX10_keeps_42
def J_X10_wait_96 (τ : tw_T) (p0 : Nat) (u2 : Int32) (Q : Int32 → tw_T → Prop) (RC EX : tw_T → Int32 → Prop) : Prop := ∀ z1 : Int32, z1 = u2 + (-1 : Int32) → (RC τ z1)
def L_X10_wait_63 (p0 : Nat) (Q : Int32 → tw_T → Prop) (EX : tw_T → Int32 → Prop) : Nat → tw_T → Int32 → Prop
  | 0, _, _ => False
  | n + 1, τ, u2 => ((u2 < 0 → (EX τ u2)) ∧ (¬ u2 < 0 → (∃ o3 : Nat, gR τ 0 p0 26 = some o3 ∧ (vp_in u2 60 ∧ (∃ o5 : Nat, gR τ 0 p0 25 = some o5 ∧ (vp_in u2 60 ∧ (F_X10_keeps τ p0 (gI τ 125 o5 u2.toNatClampNeg) (fun (r8 : Int32) (τ7 : tw_T) => (((((gI τ 0 p0 3) - (gI τ 126 o3 u2.toNatClampNeg)) < r8 → (J_X10_wait_96 τ7 p0 u2 Q (fun t v2 => L_X10_wait_63 p0 Q EX n t v2) EX)) ∧ (¬ ((gI τ 0 p0 3) - (gI τ 126 o3 u2.toNatClampNeg)) < r8 → (F_X10_empties τ7 p0 u2 (fun (τ10 : tw_T) => (J_X10_wait_96 τ10 p0 u2 Q (fun t v2 => L_X10_wait_63 p0 Q EX n t v2) EX))))))))))))))
def J_X10_wait_37 (τ : tw_T) (p0 : Nat) (u1 : Int32) (y0 : Int32) (q1 : Nat) (Q : Int32 → tw_T → Prop) : Prop := F_X10_may τ q1 y0 ((2 : Int32)) (fun (r12 : Int32) (τ11 : tw_T) => (((¬ r12 = 0 → (∀ τ14 : tw_T, τ14 = sI τ11 0 p0 3 ((gI τ11 0 p0 3) + u1) → (∀ z15 : Int32, z15 = (gI τ14 0 p0 22) - ((1 : Int32)) → (∃ n16 : Nat, L_X10_wait_63 p0 Q (fun (τ17 : tw_T) (z18 : Int32) => Q (gI τ17 0 p0 3) τ17) n16 τ14 z15)))) ∧ (r12 = 0 → (Q ((0 : Int32)) τ11)))))
def F_X10_wait (τ0 : tw_T) (k0 : Nat) (x1 : Int32) (Q : Int32 → tw_T → Prop) : Prop := ∀ τ19 : tw_T, τ19 = sI τ0 0 k0 0 ((0 : Int32)) → (F_X10_within τ19 x1 ((0 : Int32)) ((100000 : Int32)) (fun (r21 : Int32) (τ20 : tw_T) => (F_X10_may τ20 k0 r21 ((1 : Int32)) (fun (r23 : Int32) (τ22 : tw_T) => (((r23 = 0 → (Q ((0 : Int32)) τ22)) ∧ (¬ r23 = 0 → (((((1000000 : Int32)) < ((gI τ22 0 k0 3) + x1) → (J_X10_wait_37 τ22 k0 x1 ((0 : Int32)) k0 Q)) ∧ (¬ ((1000000 : Int32)) < ((gI τ22 0 k0 3) + x1) → (J_X10_wait_37 τ22 k0 x1 ((1 : Int32)) k0 Q)))))))))))
def rmX10_wait : Room := { frames := 1, cells := 0, slots := 0, locals := 22 }
set_option maxHeartbeats 4000000 in
set_option maxRecDepth 100000 in
theorem mX10_wait (l : Launch) (dC : Nat → ClassId) (dI : Nat → Nat → Nat) (ac : Nat → ClassId) (sa : Nat → Nat) (A : Nat → Prop) (ad : Nat → Nat → Nat) (τ0 : tw_T) (k0 : Nat) (x1 : Int32) (Q : Int32 → tw_T → Prop) (hF : F_X10_wait τ0 k0 x1 Q) (hk0 : k0 < gN τ0 0) : Met l yX10_wait wsX10_wait rmX10_wait (va_Pc [.ref (ad 0 k0), .int x1] (BM dC dI ac sa A ad τ0)) (va_Qi (fun r (u : tw_T) => Q r u ∧ gN u = gN τ0) (fun u t => PM dC dI ac A ad u t.heap) A) 0 0 A := by
  refine Met.ofW (cc := cX10_wait) (maxL := 3) (ret := (some .int)) (by decide) rfl ?_
  intro p e s m args below meth c s₁ B hml hv
  obtain ⟨rfl, hP, hK, hA, hZ⟩ := hv
  have hx := B.exec
  have hb := B.bytes
  have hr := B.returns
  have hts := atoms_spec (ws := wsX10_wait) B.pre
  have hown : s.vm.findClass RX10 = some m.cls := findClass_of_methodNamed B.named
  have hlocks := B.notSynchronized
  have hS : va_S A s.heap s.heap [] := va_S.rf
  have hN : gN τ0 = gN τ0 := rfl
  have hl := lv_entry ([.ref (ad 0 k0), .int x1]) (n := 3) (Nat.le_of_ble_eq_true rfl)
  rw [lg_entry_eq]
  generalize (lg_sl ([.ref (ad 0 k0), .int x1]) ++ List.replicate (3 - (lg_sl ([.ref (ad 0 k0), .int x1])).length) Slot.unset).toArray = ls at hl ⊢
  have hl : lv_has ls 3 [(0, .ref (ad 0 k0)), (1, .int x1)] := hl
  unfold F_X10_wait at hF
  have l63 : ∀ (p0 : Nat) (hp0 : p0 < gN τ0 0) (EX : tw_T → Int32 → Prop) (n : Nat) (τ : tw_T) (u2 : Int32) (H : Heap) (locs : List Loc) (ls : Array Slot), L_X10_wait_63 p0 Q EX n τ u2 → PM dC dI ac A ad τ H → gN τ = gN τ0 → va_S A s.heap H locs → lv_has ls 3 [(0, .ref (ad 0 p0)), (2, .int u2)] → (∀ (τ : tw_T) (u2 : Int32) (H : Heap) (locs : List Loc) (ls : Array Slot), EX τ u2 → PM dC dI ac A ad τ H → gN τ = gN τ0 → va_S A s.heap H locs → lv_has ls 3 [(0, .ref (ad 0 p0)), (2, .int u2)] → W p l e rmX10_wait s m ([.ref (ad 0 k0), .int x1] : List Value).toArray below meth c H locs 0 0 (MQ below (va_Qi (fun r (u : tw_T) => Q r u ∧ gN u = gN τ0) (fun u t => PM dC dI ac A ad u t.heap) A) ([.ref (ad 0 k0), .int x1] : List Value).toArray s 0 0 A) (F0 m 102 ls [])) → W p l e rmX10_wait s m ([.ref (ad 0 k0), .int x1] : List Value).toArray below meth c H locs 0 0 (MQ below (va_Qi (fun r (u : tw_T) => Q r u ∧ gN u = gN τ0) (fun u t => PM dC dI ac A ad u t.heap) A) ([.ref (ad 0 k0), .int x1] : List Value).toArray s 0 0 A) (F0 m 63 ls []) := by
    intro p0 hp0 EX n
    induction n with
    | zero => intro τ u2 H locs ls hF; exact hF.elim
    | succ n ih =>
      intro τ u2 H locs ls hF hP hN hS hl hEX
      rw [L_X10_wait_63] at hF
      have j96 : ∀ (τ : tw_T) (p0 : Nat) (hp0 : p0 < gN τ0 0) (u2 : Int32) (H : Heap) (locs : List Loc) (ls : Array Slot) (RC EX : tw_T → Int32 → Prop), J_X10_wait_96 τ p0 u2 Q RC EX → PM dC dI ac A ad τ H → gN τ = gN τ0 → va_S A s.heap H locs → lv_has ls 3 [(0, .ref (ad 0 p0)), (2, .int u2)] → (∀ (τ : tw_T) (u2 : Int32) (H : Heap) (locs : List Loc) (ls : Array Slot), RC τ u2 → PM dC dI ac A ad τ H → gN τ = gN τ0 → va_S A s.heap H locs → lv_has ls 3 [(0, .ref (ad 0 p0)), (2, .int u2)] → W p l e rmX10_wait s m ([.ref (ad 0 k0), .int x1] : List Value).toArray below meth c H locs 0 0 (MQ below (va_Qi (fun r (u : tw_T) => Q r u ∧ gN u = gN τ0) (fun u t => PM dC dI ac A ad u t.heap) A) ([.ref (ad 0 k0), .int x1] : List Value).toArray s 0 0 A) (F0 m 63 ls [])) → (∀ (τ : tw_T) (u2 : Int32) (H : Heap) (locs : List Loc) (ls : Array Slot), EX τ u2 → PM dC dI ac A ad τ H → gN τ = gN τ0 → va_S A s.heap H locs → lv_has ls 3 [(0, .ref (ad 0 p0)), (2, .int u2)] → W p l e rmX10_wait s m ([.ref (ad 0 k0), .int x1] : List Value).toArray below meth c H locs 0 0 (MQ below (va_Qi (fun r (u : tw_T) => Q r u ∧ gN u = gN τ0) (fun u t => PM dC dI ac A ad u t.heap) A) ([.ref (ad 0 k0), .int x1] : List Value).toArray s 0 0 A) (F0 m 102 ls [])) → W p l e rmX10_wait s m ([.ref (ad 0 k0), .int x1] : List Value).toArray below meth c H locs 0 0 (MQ below (va_Qi (fun r (u : tw_T) => Q r u ∧ gN u = gN τ0) (fun u t => PM dC dI ac A ad u t.heap) A) ([.ref (ad 0 k0), .int x1] : List Value).toArray s 0 0 A) (F0 m 96 ls []) := by
        intro τ p0 hp0 u2 H locs ls RC EX hF hP hN hS hl hRC hEX
        unfold J_X10_wait_96 at hF
        obtain ⟨z1, ez1⟩ : ∃ y : Int32, y = u2 + (-1 : Int32) := ⟨_, rfl⟩
        have hF := hF z1 ez1
        refine lv_iinc (v := z1) (lv' := [(2, .int z1), (0, .ref (ad 0 p0))]) hx hb dX10_wait_96 hl (k := 1) rfl (by rw [ez1]; rfl) (by decide) rfl (fun ls hl => ?_)
        refine lv_goto (tgt := 63) hx hb dX10_wait_99 (by decide) ?_
        exact hRC τ z1 _ _ _ hF hP hN hS (lv_sub hl [1, 0] rfl)
      refine lv_iload_n hx hb dX10_wait_63 rfl (lv_at hl 1 rfl) ?_
      refine lv_if_lt (tgt := 102) hx hb dX10_wait_64 (by decide) (fun c2 => ?_) (fun c2 => ?_)
      · have hF := hF.1 c2
        exact hEX τ u2 _ _ _ hF hP hN hS (lv_sub hl [0, 1] rfl)
      · have hF := hF.2 c2
        refine lv_aload_n hx hb dX10_wait_67 rfl (lv_at hl 0 rfl) ?_
        refine tw_get (v := .int (gI τ 0 p0 3)) hx hb hts (by decide +kernel) hown hK hP (by decide) (tw_lt hp0 (congrFun hN 0)) rfl rfl 3 (by decide) (hts (.fieldLink RX10 105 "WineCellarModel" "hour" "I") (by decide +kernel)) (fun _ h9 => h9) rfl dX10_wait_68 ?_
        refine lv_aload_n hx hb dX10_wait_71 rfl (lv_at hl 0 rfl) ?_
        obtain ⟨o3, eo3, hF⟩ := hF
        have ho3 : o3 < gN τ0 126 := tw_lt (hP.2.2.2 0 p0 26 o3 (by decide) (tw_lt hp0 (congrFun hN 0)) eo3) (congrFun hN 126).symm
        refine tw_get (v := .ref (ad 126 o3)) hx hb hts (by decide +kernel) hown hK hP (by decide) (tw_lt hp0 (congrFun hN 0)) rfl rfl 26 (by decide) (hts (.fieldLink RX10 53 "WineCellarModel" "openHour" "[I") (by decide +kernel)) (fun _ h9 => h9) (show some (va_rf ((gR τ 0 p0 26).map (ad 126))) = some (.ref (ad 126 o3)) by rw [eo3]; rfl) dX10_wait_72 ?_
        refine lv_iload_n hx hb dX10_wait_75 rfl (lv_at hl 1 rfl) ?_
        obtain ⟨hi4, hF⟩ := hF
        refine tw_iald hx hb hK hP (by decide) (tw_lt ho3 (congrFun hN 126)) rfl 0 rfl hi4 dX10_wait_76 ?_
        refine lv_isub hx hb dX10_wait_77 ?_
        refine lv_aload_n hx hb dX10_wait_78 rfl (lv_at hl 0 rfl) ?_
        refine lv_aload_n hx hb dX10_wait_79 rfl (lv_at hl 0 rfl) ?_
        obtain ⟨o5, eo5, hF⟩ := hF
        have ho5 : o5 < gN τ0 125 := tw_lt (hP.2.2.2 0 p0 25 o5 (by decide) (tw_lt hp0 (congrFun hN 0)) eo5) (congrFun hN 125).symm
        refine tw_get (v := .ref (ad 125 o5)) hx hb hts (by decide +kernel) hown hK hP (by decide) (tw_lt hp0 (congrFun hN 0)) rfl rfl 25 (by decide) (hts (.fieldLink RX10 50 "WineCellarModel" "openLot" "[I") (by decide +kernel)) (fun _ h9 => h9) (show some (va_rf ((gR τ 0 p0 25).map (ad 125))) = some (.ref (ad 125 o5)) by rw [eo5]; rfl) dX10_wait_80 ?_
        refine lv_iload_n hx hb dX10_wait_83 rfl (lv_at hl 1 rfl) ?_
        obtain ⟨hi6, hF⟩ := hF
        refine tw_iald hx hb hK hP (by decide) (tw_lt ho5 (congrFun hN 125)) rfl 0 rfl hi6 dX10_wait_84 ?_
        refine va_calli (va_runV (As := [.int (gI τ 125 o5 u2.toNatClampNeg)]) (rest := [.int ((gI τ 0 p0 3) - (gI τ 126 o3 u2.toNatClampNeg))]) ⟨hx, hb, hml, hown, hts⟩ (mX10_keeps l dC dI ac sa A ad τ p0 (gI τ 125 o5 u2.toNatClampNeg) _ hF (tw_lt hp0 (congrFun hN 0))) (cwV 1 hts gX10_wait_X10_keeps rfl rfl rfl (by decide +kernel) ⟨Nat.le_of_ble_eq_true rfl, Nat.le_of_ble_eq_true rfl⟩) ⟨BM.blind, tw_recv hK hP (by decide) (tw_lt hp0 (congrFun hN 0)) rfl rfl, fun U hU hW => ⟨rfl, BM.of hP hK hS hA hZ hU hW⟩⟩ rfl rfl hl.1 rfl (lv_room (Nat.le_of_ble_eq_true rfl)) dX10_wait_85 ⟨Nat.le_of_ble_eq_true rfl, Nat.le_of_ble_eq_true rfl⟩) hS (fun q _ h => h) (fun q h => h) (fun r8 τ7 t H locs ht hvm hw hB hz hk hS => ?_)
        obtain ⟨hF, hN9⟩ := hw
        have hP : PM dC dI ac A ad τ7 H := tw_back hB ht
        have hN : gN τ7 = gN τ0 := hN9.trans hN
        refine lv_icmp_lt (tgt := 96) hx hb dX10_wait_88 (by decide) (fun c9 => ?_) (fun c9 => ?_)
        · have hF := hF.1 c9
          exact j96 τ7 p0 hp0 u2 _ _ _ _ _ hF hP hN hS (lv_sub hl [0, 1] rfl) (fun t v2 H locs ls hF hP hN hS hl => ih t v2 _ _ _ hF hP hN hS hl hEX) hEX
        · have hF := hF.2 c9
          refine lv_aload_n hx hb dX10_wait_91 rfl (lv_at hl 0 rfl) ?_
          refine lv_iload_n hx hb dX10_wait_92 rfl (lv_at hl 1 rfl) ?_
          refine va_callv (va_runV (As := [.int u2]) (rest := []) ⟨hx, hb, hml, hown, hts⟩ (mX10_empties l dC dI ac sa A ad τ7 p0 u2 _ hF (tw_lt hp0 (congrFun hN 0))) (cwV 1 hts gX10_wait_X10_empties rfl rfl rfl (by decide +kernel) ⟨Nat.le_of_ble_eq_true rfl, Nat.le_of_ble_eq_true rfl⟩) ⟨BM.blind, tw_recv hK hP (by decide) (tw_lt hp0 (congrFun hN 0)) rfl rfl, fun U hU hW => ⟨rfl, BM.of hP hK hS hA hZ hU hW⟩⟩ rfl rfl hl.1 rfl (lv_room (Nat.le_of_ble_eq_true rfl)) dX10_wait_93 ⟨Nat.le_of_ble_eq_true rfl, Nat.le_of_ble_eq_true rfl⟩) hS (fun q _ h => h) (fun q h => h) (fun τ10 t H locs ht hvm hw hB hz hk hS => ?_)
          obtain ⟨hF, hN9⟩ := hw
          have hP : PM dC dI ac A ad τ10 H := tw_back hB ht
          have hN : gN τ10 = gN τ0 := hN9.trans hN
          exact j96 τ10 p0 hp0 u2 _ _ _ _ _ hF hP hN hS (lv_sub hl [0, 1] rfl) (fun t v2 H locs ls hF hP hN hS hl => ih t v2 _ _ _ hF hP hN hS hl hEX) hEX
  have j37 : ∀ (τ : tw_T) (p0 : Nat) (hp0 : p0 < gN τ0 0) (u1 : Int32) (y0 : Int32) (q1 : Nat) (hq1 : q1 < gN τ0 0) (H : Heap) (locs : List Loc) (ls : Array Slot), J_X10_wait_37 τ p0 u1 y0 q1 Q → PM dC dI ac A ad τ H → gN τ = gN τ0 → va_S A s.heap H locs → lv_has ls 3 [(0, .ref (ad 0 p0)), (1, .int u1)] → W p l e rmX10_wait s m ([.ref (ad 0 k0), .int x1] : List Value).toArray below meth c H locs 0 0 (MQ below (va_Qi (fun r (u : tw_T) => Q r u ∧ gN u = gN τ0) (fun u t => PM dC dI ac A ad u t.heap) A) ([.ref (ad 0 k0), .int x1] : List Value).toArray s 0 0 A) (F0 m 37 ls [.int y0, .ref (ad 0 q1)]) := by
    intro τ p0 hp0 u1 y0 q1 hq1 H locs ls hF hP hN hS hl
    unfold J_X10_wait_37 at hF
    refine lv_iconst (v := 2) hx hb dX10_wait_37 (by decide) ?_
    refine va_calli (va_runV (As := [.int y0, .int ((2 : Int32))]) (rest := []) ⟨hx, hb, hml, hown, hts⟩ (mX10_may l dC dI ac sa A ad τ q1 y0 ((2 : Int32)) _ hF (tw_lt hq1 (congrFun hN 0))) (cwV 2 hts gX10_wait_X10_may rfl rfl rfl (by decide +kernel) ⟨Nat.le_of_ble_eq_true rfl, Nat.le_of_ble_eq_true rfl⟩) ⟨BM.blind, tw_recv hK hP (by decide) (tw_lt hq1 (congrFun hN 0)) rfl rfl, fun U hU hW => ⟨rfl, BM.of hP hK hS hA hZ hU hW⟩⟩ rfl rfl hl.1 rfl (lv_room (Nat.le_of_ble_eq_true rfl)) dX10_wait_38 ⟨Nat.le_of_ble_eq_true rfl, Nat.le_of_ble_eq_true rfl⟩) hS (fun q _ h => h) (fun q h => h) (fun r12 τ11 t H locs ht hvm hw hB hz hk hS => ?_)
    obtain ⟨hF, hN9⟩ := hw
    have hP : PM dC dI ac A ad τ11 H := tw_back hB ht
    have hN : gN τ11 = gN τ0 := hN9.trans hN
    refine lv_if_ne (tgt := 46) hx hb dX10_wait_41 (by decide) (fun c13 => ?_) (fun c13 => ?_)
    · have hF := hF.1 c13
      refine lv_aload_n hx hb dX10_wait_46 rfl (lv_at hl 0 rfl) ?_
      refine lv_dup hx hb dX10_wait_47 rfl ?_
      refine tw_get (v := .int (gI τ11 0 p0 3)) hx hb hts (by decide +kernel) hown hK hP (by decide) (tw_lt hp0 (congrFun hN 0)) rfl rfl 3 (by decide) (hts (.fieldLink RX10 105 "WineCellarModel" "hour" "I") (by decide +kernel)) (fun _ h9 => h9) rfl dX10_wait_48 ?_
      refine lv_iload_n hx hb dX10_wait_51 rfl (lv_at hl 1 rfl) ?_
      refine lv_iadd hx hb dX10_wait_52 ?_
      refine tw_put (τ' := sI τ11 0 p0 3 ((gI τ11 0 p0 3) + u1)) (ty := .int) hx hb hts (by decide +kernel) tyX10 tyX10_ok nmX10 hown hK hP hS (by decide) (tw_lt hp0 (congrFun hN 0)) rfl rfl 3 (by decide) (hts (.fieldLink RX10 105 "WineCellarModel" "hour" "I") (by decide +kernel)) (fun _ h9 => h9) rfl (by decide +kernel) rfl rfl (Nat.le_of_ble_eq_true rfl) dX10_wait_53 (fun H1 ha ho => tw_updI hP (by decide) (tw_lt hp0 (congrFun hN 0)) ha ho) (fun H locs hP hS => ?_)
      obtain ⟨τ14, eτ14⟩ : ∃ y : tw_T, y = sI τ11 0 p0 3 ((gI τ11 0 p0 3) + u1) := ⟨_, rfl⟩
      have hF := hF τ14 eτ14
      rw [← eτ14] at hP
      have hN : gN τ14 = gN τ0 := by rw [eτ14]; exact hN
      refine lv_aload_n hx hb dX10_wait_56 rfl (lv_at hl 0 rfl) ?_
      refine tw_get (v := .int (gI τ14 0 p0 22)) hx hb hts (by decide +kernel) hown hK hP (by decide) (tw_lt hp0 (congrFun hN 0)) rfl rfl 22 (by decide) (hts (.fieldLink RX10 149 "WineCellarModel" "open" "I") (by decide +kernel)) (fun _ h9 => h9) rfl dX10_wait_57 ?_
      refine lv_iconst (v := 1) hx hb dX10_wait_60 (by decide) ?_
      refine lv_isub hx hb dX10_wait_61 ?_
      refine lv_topi (fun z15 ez15 => ?_)
      have hF := hF z15 ez15
      refine lv_istore_n (lv' := [(2, .int z15), (0, .ref (ad 0 p0)), (1, .int u1)]) hx hb dX10_wait_62 rfl hl (by decide) rfl (fun ls hl => ?_)
      obtain ⟨n16, hF⟩ := hF
      refine l63 p0 hp0 _ n16 τ14 z15 _ _ _ hF hP hN hS (lv_sub hl [1, 0] rfl) ?_
      intro τ17 z18 H locs ls hF hP hN hS hl
      refine lv_aload_n hx hb dX10_wait_102 rfl (lv_at hl 0 rfl) ?_
      refine tw_get (v := .int (gI τ17 0 p0 3)) hx hb hts (by decide +kernel) hown hK hP (by decide) (tw_lt hp0 (congrFun hN 0)) rfl rfl 3 (by decide) (hts (.fieldLink RX10 105 "WineCellarModel" "hour" "I") (by decide +kernel)) (fun _ h9 => h9) rfl dX10_wait_103 ?_
      exact W.iret (v := gI τ17 0 p0 3) hx hb hr (fun t ht hW => ⟨⟨(gI τ17 0 p0 3), τ17, rfl, ⟨hF, hN⟩, tw_at hP ht⟩, hS.F ht⟩) hS.2.2 dX10_wait_106
    · have hF := hF.2 c13
      refine lv_iconst (v := 0) hx hb dX10_wait_44 (by decide) ?_
      exact W.iret (v := (0 : Int32)) hx hb hr (fun t ht hW => ⟨⟨((0 : Int32)), τ11, rfl, ⟨hF, hN⟩, tw_at hP ht⟩, hS.F ht⟩) hS.2.2 dX10_wait_45
  refine lv_aload_n hx hb dX10_wait_0 rfl (lv_at hl 0 rfl) ?_
  refine lv_iconst (v := 0) hx hb dX10_wait_1 (by decide) ?_
  refine tw_put (τ' := sI τ0 0 k0 0 ((0 : Int32))) (ty := .int) hx hb hts (by decide +kernel) tyX10 tyX10_ok nmX10 hown hK hP hS (by decide) hk0 rfl rfl 0 (by decide) (hts (.fieldLink RX10 1 "WineCellarModel" "thrown" "I") (by decide +kernel)) (fun _ h9 => h9) rfl (by decide +kernel) rfl rfl (Nat.le_of_ble_eq_true rfl) dX10_wait_2 (fun H1 ha ho => tw_updI hP (by decide) hk0 ha ho) (fun H locs hP hS => ?_)
  obtain ⟨τ19, eτ19⟩ : ∃ y : tw_T, y = sI τ0 0 k0 0 ((0 : Int32)) := ⟨_, rfl⟩
  have hF := hF τ19 eτ19
  rw [← eτ19] at hP
  have hN : gN τ19 = gN τ0 := by rw [eτ19]; exact hN
  refine lv_aload_n hx hb dX10_wait_5 rfl (lv_at hl 0 rfl) ?_
  refine lv_iload_n hx hb dX10_wait_6 rfl (lv_at hl 1 rfl) ?_
  refine lv_iconst (v := 0) hx hb dX10_wait_7 (by decide) ?_
  refine lv_ldc (v := 100000) hx hb hown (hts (.constant RX10 185 100000) (by decide +kernel)) dX10_wait_8 ?_
  refine va_calli (va_runS (As := [.int x1, .int ((0 : Int32)), .int ((100000 : Int32))]) (rest := [.ref (ad 0 k0)]) ⟨hx, hb, hml, hown, hts⟩ (mX10_within l dC dI ac sa A ad τ19 x1 ((0 : Int32)) ((100000 : Int32)) _ hF ) (va_cwS 3 hts gX10_wait_X10_within rfl rfl rfl (by decide +kernel) ⟨Nat.le_of_ble_eq_true rfl, Nat.le_of_ble_eq_true rfl⟩) ⟨BM.blind, fun U hU hW => ⟨rfl, BM.of hP hK hS hA hZ hU hW⟩⟩ rfl rfl hl.1 rfl (lv_room (Nat.le_of_ble_eq_true rfl)) dX10_wait_10 ⟨Nat.le_of_ble_eq_true rfl, Nat.le_of_ble_eq_true rfl⟩) hS (fun q _ h => h) (fun q h => h) (fun r21 τ20 t H locs ht hvm hw hB hz hk hS => ?_)
  obtain ⟨hF, hN9⟩ := hw
  have hP : PM dC dI ac A ad τ20 H := tw_back hB ht
  have hN : gN τ20 = gN τ0 := hN9.trans hN
  refine lv_iconst (v := 1) hx hb dX10_wait_13 (by decide) ?_
  refine va_calli (va_runV (As := [.int r21, .int ((1 : Int32))]) (rest := []) ⟨hx, hb, hml, hown, hts⟩ (mX10_may l dC dI ac sa A ad τ20 k0 r21 ((1 : Int32)) _ hF (tw_lt hk0 (congrFun hN 0))) (cwV 2 hts gX10_wait_X10_may rfl rfl rfl (by decide +kernel) ⟨Nat.le_of_ble_eq_true rfl, Nat.le_of_ble_eq_true rfl⟩) ⟨BM.blind, tw_recv hK hP (by decide) (tw_lt hk0 (congrFun hN 0)) rfl rfl, fun U hU hW => ⟨rfl, BM.of hP hK hS hA hZ hU hW⟩⟩ rfl rfl hl.1 rfl (lv_room (Nat.le_of_ble_eq_true rfl)) dX10_wait_14 ⟨Nat.le_of_ble_eq_true rfl, Nat.le_of_ble_eq_true rfl⟩) hS (fun q _ h => h) (fun q h => h) (fun r23 τ22 t H locs ht hvm hw hB hz hk hS => ?_)
  obtain ⟨hF, hN9⟩ := hw
  have hP : PM dC dI ac A ad τ22 H := tw_back hB ht
  have hN : gN τ22 = gN τ0 := hN9.trans hN
  refine lv_if_eq (tgt := 44) hx hb dX10_wait_17 (by decide) (fun c24 => ?_) (fun c24 => ?_)
  · have hF := hF.1 c24
    refine lv_iconst (v := 0) hx hb dX10_wait_44 (by decide) ?_
    exact W.iret (v := (0 : Int32)) hx hb hr (fun t ht hW => ⟨⟨((0 : Int32)), τ22, rfl, ⟨hF, hN⟩, tw_at hP ht⟩, hS.F ht⟩) hS.2.2 dX10_wait_45
  · have hF := hF.2 c24
    refine lv_aload_n hx hb dX10_wait_20 rfl (lv_at hl 0 rfl) ?_
    refine lv_aload_n hx hb dX10_wait_21 rfl (lv_at hl 0 rfl) ?_
    refine tw_get (v := .int (gI τ22 0 k0 3)) hx hb hts (by decide +kernel) hown hK hP (by decide) (tw_lt hk0 (congrFun hN 0)) rfl rfl 3 (by decide) (hts (.fieldLink RX10 105 "WineCellarModel" "hour" "I") (by decide +kernel)) (fun _ h9 => h9) rfl dX10_wait_22 ?_
    refine lv_iload_n hx hb dX10_wait_25 rfl (lv_at hl 1 rfl) ?_
    refine lv_iadd hx hb dX10_wait_26 ?_
    refine lv_ldc (v := 1000000) hx hb hown (hts (.constant RX10 186 1000000) (by decide +kernel)) dX10_wait_27 ?_
    refine lv_icmp_gt (tgt := 36) hx hb dX10_wait_29 (by decide) (fun c25 => ?_) (fun c25 => ?_)
    · have hF := hF.1 c25
      refine lv_iconst (v := 0) hx hb dX10_wait_36 (by decide) ?_
      exact j37 τ22 k0 hk0 x1 ((0 : Int32)) k0 hk0 _ _ _ hF hP hN hS (lv_sub hl [0, 1] rfl)
    · have hF := hF.2 c25
      refine lv_iconst (v := 1) hx hb dX10_wait_32 (by decide) ?_
      refine lv_goto (tgt := 37) hx hb dX10_wait_33 (by decide) ?_
      exact j37 τ22 k0 hk0 x1 ((1 : Int32)) k0 hk0 _ _ _ hF hP hN hS (lv_sub hl [0, 1] rfl)
def J_X10_feed_76 (τ : tw_T) (p0 : Nat) (u1 : Int32) (u2 : Int32) (u3 : Int32) (u4 : Int32) (u5 : Int32) (u6 : Int32) (y0 : Int32) (Q : Int32 → tw_T → Prop) (RC EX : tw_T → Int32 → Prop) : Prop := ∃ o1 : Nat, gR τ 0 p0 33 = some o1 ∧ (vp_in (gI τ 0 p0 28) 200 ∧ (∀ τ3 : tw_T, τ3 = sI τ 133 o1 (gI τ 0 p0 28).toNatClampNeg ((y0 >>> ((((24 : Int32)) - (((8 : Int32)) * (u6 - u6 / ((4 : Int32)) * ((4 : Int32))))) &&& 31)) &&& ((255 : Int32))) → (∀ τ4 : tw_T, τ4 = sI τ3 0 p0 28 ((gI τ3 0 p0 28) + ((1 : Int32))) → (∀ z5 : Int32, z5 = u6 + (1 : Int32) → (RC τ4 z5)))))
def L_X10_feed_23 (p0 : Nat) (u1 : Int32) (u2 : Int32) (u3 : Int32) (u4 : Int32) (u5 : Int32) (Q : Int32 → tw_T → Prop) (EX : tw_T → Int32 → Prop) : Nat → tw_T → Int32 → Prop
  | 0, _, _ => False
  | n + 1, τ, u6 => ((((20 : Int32)) ≤ u6 → (EX τ u6)) ∧ (¬ ((20 : Int32)) ≤ u6 → (((((4 : Int32)) ≤ u6 → (((((8 : Int32)) ≤ u6 → (((((12 : Int32)) ≤ u6 → (((((16 : Int32)) ≤ u6 → (J_X10_feed_76 τ p0 u1 u2 u3 u4 u5 u6 u5 Q (fun t v6 => L_X10_feed_23 p0 u1 u2 u3 u4 u5 Q EX n t v6) EX)) ∧ (¬ ((16 : Int32)) ≤ u6 → (J_X10_feed_76 τ p0 u1 u2 u3 u4 u5 u6 u4 Q (fun t v6 => L_X10_feed_23 p0 u1 u2 u3 u4 u5 Q EX n t v6) EX))))) ∧ (¬ ((12 : Int32)) ≤ u6 → (J_X10_feed_76 τ p0 u1 u2 u3 u4 u5 u6 u3 Q (fun t v6 => L_X10_feed_23 p0 u1 u2 u3 u4 u5 Q EX n t v6) EX))))) ∧ (¬ ((8 : Int32)) ≤ u6 → (J_X10_feed_76 τ p0 u1 u2 u3 u4 u5 u6 u2 Q (fun t v6 => L_X10_feed_23 p0 u1 u2 u3 u4 u5 Q EX n t v6) EX))))) ∧ (¬ ((4 : Int32)) ≤ u6 → (J_X10_feed_76 τ p0 u1 u2 u3 u4 u5 u6 u1 Q (fun t v6 => L_X10_feed_23 p0 u1 u2 u3 u4 u5 Q EX n t v6) EX))))))
def F_X10_feed (τ0 : tw_T) (k0 : Nat) (x1 : Int32) (x2 : Int32) (x3 : Int32) (x4 : Int32) (x5 : Int32) (Q : Int32 → tw_T → Prop) : Prop := ∀ τ11 : tw_T, τ11 = sI τ0 0 k0 0 ((0 : Int32)) → (((((gI τ11 0 k0 28) + ((20 : Int32))) ≤ ((200 : Int32)) → (∃ n13 : Nat, L_X10_feed_23 k0 x1 x2 x3 x4 x5 Q (fun (τ14 : tw_T) (z15 : Int32) => Q (gI τ14 0 k0 28) τ14) n13 τ11 ((0 : Int32)))) ∧ (¬ ((gI τ11 0 k0 28) + ((20 : Int32))) ≤ ((200 : Int32)) → (Q ((-1 : Int32)) τ11))))
def rmX10_feed : Room := { frames := 0, cells := 0, slots := 0, locals := 0 }
set_option maxHeartbeats 4000000 in
set_option maxRecDepth 100000 in
theorem mX10_feed (l : Launch) (dC : Nat → ClassId) (dI : Nat → Nat → Nat) (ac : Nat → ClassId) (sa : Nat → Nat) (A : Nat → Prop) (ad : Nat → Nat → Nat) (τ0 : tw_T) (k0 : Nat) (x1 : Int32) (x2 : Int32) (x3 : Int32) (x4 : Int32) (x5 : Int32) (Q : Int32 → tw_T → Prop) (hF : F_X10_feed τ0 k0 x1 x2 x3 x4 x5 Q) (hk0 : k0 < gN τ0 0) : Met l yX10_feed wsX10_feed rmX10_feed (va_Pc [.ref (ad 0 k0), .int x1, .int x2, .int x3, .int x4, .int x5] (BM dC dI ac sa A ad τ0)) (va_Qi (fun r (u : tw_T) => Q r u ∧ gN u = gN τ0) (fun u t => PM dC dI ac A ad u t.heap) A) 0 0 A := by
  refine Met.ofW (cc := cX10_feed) (maxL := 8) (ret := (some .int)) (by decide) rfl ?_
  intro p e s m args below meth c s₁ B hml hv
  obtain ⟨rfl, hP, hK, hA, hZ⟩ := hv
  have hx := B.exec
  have hb := B.bytes
  have hr := B.returns
  have hts := atoms_spec (ws := wsX10_feed) B.pre
  have hown : s.vm.findClass RX10 = some m.cls := findClass_of_methodNamed B.named
  have hlocks := B.notSynchronized
  have hS : va_S A s.heap s.heap [] := va_S.rf
  have hN : gN τ0 = gN τ0 := rfl
  have hl := lv_entry ([.ref (ad 0 k0), .int x1, .int x2, .int x3, .int x4, .int x5]) (n := 8) (Nat.le_of_ble_eq_true rfl)
  rw [lg_entry_eq]
  generalize (lg_sl ([.ref (ad 0 k0), .int x1, .int x2, .int x3, .int x4, .int x5]) ++ List.replicate (8 - (lg_sl ([.ref (ad 0 k0), .int x1, .int x2, .int x3, .int x4, .int x5])).length) Slot.unset).toArray = ls at hl ⊢
  have hl : lv_has ls 8 [(0, .ref (ad 0 k0)), (1, .int x1), (2, .int x2), (3, .int x3), (4, .int x4), (5, .int x5)] := hl
  unfold F_X10_feed at hF
  have l23 : ∀ (p0 : Nat) (hp0 : p0 < gN τ0 0) (u1 : Int32) (u2 : Int32) (u3 : Int32) (u4 : Int32) (u5 : Int32) (EX : tw_T → Int32 → Prop) (n : Nat) (τ : tw_T) (u6 : Int32) (H : Heap) (locs : List Loc) (ls : Array Slot), L_X10_feed_23 p0 u1 u2 u3 u4 u5 Q EX n τ u6 → PM dC dI ac A ad τ H → gN τ = gN τ0 → va_S A s.heap H locs → lv_has ls 8 [(0, .ref (ad 0 p0)), (1, .int u1), (2, .int u2), (3, .int u3), (4, .int u4), (5, .int u5), (6, .int u6)] → (∀ (τ : tw_T) (u6 : Int32) (H : Heap) (locs : List Loc) (ls : Array Slot), EX τ u6 → PM dC dI ac A ad τ H → gN τ = gN τ0 → va_S A s.heap H locs → lv_has ls 8 [(0, .ref (ad 0 p0)), (1, .int u1), (2, .int u2), (3, .int u3), (4, .int u4), (5, .int u5), (6, .int u6)] → W p l e rmX10_feed s m ([.ref (ad 0 k0), .int x1, .int x2, .int x3, .int x4, .int x5] : List Value).toArray below meth c H locs 0 0 (MQ below (va_Qi (fun r (u : tw_T) => Q r u ∧ gN u = gN τ0) (fun u t => PM dC dI ac A ad u t.heap) A) ([.ref (ad 0 k0), .int x1, .int x2, .int x3, .int x4, .int x5] : List Value).toArray s 0 0 A) (F0 m 120 ls [])) → W p l e rmX10_feed s m ([.ref (ad 0 k0), .int x1, .int x2, .int x3, .int x4, .int x5] : List Value).toArray below meth c H locs 0 0 (MQ below (va_Qi (fun r (u : tw_T) => Q r u ∧ gN u = gN τ0) (fun u t => PM dC dI ac A ad u t.heap) A) ([.ref (ad 0 k0), .int x1, .int x2, .int x3, .int x4, .int x5] : List Value).toArray s 0 0 A) (F0 m 23 ls []) := by
    intro p0 hp0 u1 u2 u3 u4 u5 EX n
    induction n with
    | zero => intro τ u6 H locs ls hF; exact hF.elim
    | succ n ih =>
      intro τ u6 H locs ls hF hP hN hS hl hEX
      rw [L_X10_feed_23] at hF
      have j76 : ∀ (τ : tw_T) (p0 : Nat) (hp0 : p0 < gN τ0 0) (u1 : Int32) (u2 : Int32) (u3 : Int32) (u4 : Int32) (u5 : Int32) (u6 : Int32) (y0 : Int32) (H : Heap) (locs : List Loc) (ls : Array Slot) (RC EX : tw_T → Int32 → Prop), J_X10_feed_76 τ p0 u1 u2 u3 u4 u5 u6 y0 Q RC EX → PM dC dI ac A ad τ H → gN τ = gN τ0 → va_S A s.heap H locs → lv_has ls 8 [(0, .ref (ad 0 p0)), (1, .int u1), (2, .int u2), (3, .int u3), (4, .int u4), (5, .int u5), (6, .int u6)] → (∀ (τ : tw_T) (u6 : Int32) (H : Heap) (locs : List Loc) (ls : Array Slot), RC τ u6 → PM dC dI ac A ad τ H → gN τ = gN τ0 → va_S A s.heap H locs → lv_has ls 8 [(0, .ref (ad 0 p0)), (1, .int u1), (2, .int u2), (3, .int u3), (4, .int u4), (5, .int u5), (6, .int u6)] → W p l e rmX10_feed s m ([.ref (ad 0 k0), .int x1, .int x2, .int x3, .int x4, .int x5] : List Value).toArray below meth c H locs 0 0 (MQ below (va_Qi (fun r (u : tw_T) => Q r u ∧ gN u = gN τ0) (fun u t => PM dC dI ac A ad u t.heap) A) ([.ref (ad 0 k0), .int x1, .int x2, .int x3, .int x4, .int x5] : List Value).toArray s 0 0 A) (F0 m 23 ls [])) → (∀ (τ : tw_T) (u6 : Int32) (H : Heap) (locs : List Loc) (ls : Array Slot), EX τ u6 → PM dC dI ac A ad τ H → gN τ = gN τ0 → va_S A s.heap H locs → lv_has ls 8 [(0, .ref (ad 0 p0)), (1, .int u1), (2, .int u2), (3, .int u3), (4, .int u4), (5, .int u5), (6, .int u6)] → W p l e rmX10_feed s m ([.ref (ad 0 k0), .int x1, .int x2, .int x3, .int x4, .int x5] : List Value).toArray below meth c H locs 0 0 (MQ below (va_Qi (fun r (u : tw_T) => Q r u ∧ gN u = gN τ0) (fun u t => PM dC dI ac A ad u t.heap) A) ([.ref (ad 0 k0), .int x1, .int x2, .int x3, .int x4, .int x5] : List Value).toArray s 0 0 A) (F0 m 120 ls [])) → W p l e rmX10_feed s m ([.ref (ad 0 k0), .int x1, .int x2, .int x3, .int x4, .int x5] : List Value).toArray below meth c H locs 0 0 (MQ below (va_Qi (fun r (u : tw_T) => Q r u ∧ gN u = gN τ0) (fun u t => PM dC dI ac A ad u t.heap) A) ([.ref (ad 0 k0), .int x1, .int x2, .int x3, .int x4, .int x5] : List Value).toArray s 0 0 A) (F0 m 76 ls [.int y0]) := by
        intro τ p0 hp0 u1 u2 u3 u4 u5 u6 y0 H locs ls RC EX hF hP hN hS hl hRC hEX
        unfold J_X10_feed_76 at hF
        refine lv_istore (lv' := [(7, .int y0), (0, .ref (ad 0 p0)), (1, .int u1), (2, .int u2), (3, .int u3), (4, .int u4), (5, .int u5), (6, .int u6)]) hx hb dX10_feed_76 hl (by decide) rfl (fun ls hl => ?_)
        refine lv_aload_n hx hb dX10_feed_78 rfl (lv_at hl 1 rfl) ?_
        obtain ⟨o1, eo1, hF⟩ := hF
        have ho1 : o1 < gN τ0 133 := tw_lt (hP.2.2.2 0 p0 33 o1 (by decide) (tw_lt hp0 (congrFun hN 0)) eo1) (congrFun hN 133).symm
        refine tw_get (v := .ref (ad 133 o1)) hx hb hts (by decide +kernel) hown hK hP (by decide) (tw_lt hp0 (congrFun hN 0)) rfl rfl 33 (by decide) (hts (.fieldLink RX10 59 "WineCellarModel" "tape" "[I") (by decide +kernel)) (fun _ h9 => h9) (show some (va_rf ((gR τ 0 p0 33).map (ad 133))) = some (.ref (ad 133 o1)) by rw [eo1]; rfl) dX10_feed_79 ?_
        refine lv_aload_n hx hb dX10_feed_82 rfl (lv_at hl 1 rfl) ?_
        refine tw_get (v := .int (gI τ 0 p0 28)) hx hb hts (by decide +kernel) hown hK hP (by decide) (tw_lt hp0 (congrFun hN 0)) rfl rfl 28 (by decide) (hts (.fieldLink RX10 190 "WineCellarModel" "taped" "I") (by decide +kernel)) (fun _ h9 => h9) rfl dX10_feed_83 ?_
        refine lv_iload hx hb dX10_feed_86 (lv_at hl 0 rfl) ?_
        refine lv_bipush (v := 24) hx hb dX10_feed_88 (by decide) ?_
        refine lv_bipush (v := 8) hx hb dX10_feed_90 (by decide) ?_
        refine lv_iload hx hb dX10_feed_92 (lv_at hl 7 rfl) ?_
        refine lv_iconst (v := 4) hx hb dX10_feed_94 (by decide) ?_
        refine lv_irem hx hb dX10_feed_95 (by decide) ?_
        refine lv_imul hx hb dX10_feed_96 ?_
        refine lv_isub hx hb dX10_feed_97 ?_
        refine lv_ishr hx hb dX10_feed_98 ?_
        refine lv_sipush (v := 255) hx hb dX10_feed_99 (by decide) ?_
        refine lv_iand hx hb dX10_feed_102 ?_
        obtain ⟨hi2, hF⟩ := hF
        refine tw_iast hx hb hK hP hS (by decide) (tw_lt ho1 (congrFun hN 133)) rfl 0 rfl hi2 dX10_feed_103 (fun H locs hP hS => ?_)
        obtain ⟨τ3, eτ3⟩ : ∃ y : tw_T, y = sI τ 133 o1 (gI τ 0 p0 28).toNatClampNeg ((y0 >>> ((((24 : Int32)) - (((8 : Int32)) * (u6 - u6 / ((4 : Int32)) * ((4 : Int32))))) &&& 31)) &&& ((255 : Int32))) := ⟨_, rfl⟩
        have hF := hF τ3 eτ3
        rw [← eτ3] at hP
        have hN : gN τ3 = gN τ0 := by rw [eτ3]; exact hN
        refine lv_aload_n hx hb dX10_feed_104 rfl (lv_at hl 1 rfl) ?_
        refine lv_dup hx hb dX10_feed_105 rfl ?_
        refine tw_get (v := .int (gI τ3 0 p0 28)) hx hb hts (by decide +kernel) hown hK hP (by decide) (tw_lt hp0 (congrFun hN 0)) rfl rfl 28 (by decide) (hts (.fieldLink RX10 190 "WineCellarModel" "taped" "I") (by decide +kernel)) (fun _ h9 => h9) rfl dX10_feed_106 ?_
        refine lv_iconst (v := 1) hx hb dX10_feed_109 (by decide) ?_
        refine lv_iadd hx hb dX10_feed_110 ?_
        refine tw_put (τ' := sI τ3 0 p0 28 ((gI τ3 0 p0 28) + ((1 : Int32)))) (ty := .int) hx hb hts (by decide +kernel) tyX10 tyX10_ok nmX10 hown hK hP hS (by decide) (tw_lt hp0 (congrFun hN 0)) rfl rfl 28 (by decide) (hts (.fieldLink RX10 190 "WineCellarModel" "taped" "I") (by decide +kernel)) (fun _ h9 => h9) rfl (by decide +kernel) rfl rfl (Nat.le_of_ble_eq_true rfl) dX10_feed_111 (fun H1 ha ho => tw_updI hP (by decide) (tw_lt hp0 (congrFun hN 0)) ha ho) (fun H locs hP hS => ?_)
        obtain ⟨τ4, eτ4⟩ : ∃ y : tw_T, y = sI τ3 0 p0 28 ((gI τ3 0 p0 28) + ((1 : Int32))) := ⟨_, rfl⟩
        have hF := hF τ4 eτ4
        rw [← eτ4] at hP
        have hN : gN τ4 = gN τ0 := by rw [eτ4]; exact hN
        obtain ⟨z5, ez5⟩ : ∃ y : Int32, y = u6 + (1 : Int32) := ⟨_, rfl⟩
        have hF := hF z5 ez5
        refine lv_iinc (v := z5) (lv' := [(6, .int z5), (7, .int y0), (0, .ref (ad 0 p0)), (1, .int u1), (2, .int u2), (3, .int u3), (4, .int u4), (5, .int u5)]) hx hb dX10_feed_114 hl (k := 7) rfl (by rw [ez5]; rfl) (by decide) rfl (fun ls hl => ?_)
        refine lv_goto (tgt := 23) hx hb dX10_feed_117 (by decide) ?_
        exact hRC τ4 z5 _ _ _ hF hP hN hS (lv_sub hl [2, 3, 4, 5, 6, 7, 0] rfl)
      refine lv_iload hx hb dX10_feed_23 (lv_at hl 6 rfl) ?_
      refine lv_bipush (v := 20) hx hb dX10_feed_25 (by decide) ?_
      refine lv_icmp_ge (tgt := 120) hx hb dX10_feed_27 (by decide) (fun c6 => ?_) (fun c6 => ?_)
      · have hF := hF.1 c6
        exact hEX τ u6 _ _ _ hF hP hN hS (lv_sub hl [0, 1, 2, 3, 4, 5, 6] rfl)
      · have hF := hF.2 c6
        refine lv_iload hx hb dX10_feed_30 (lv_at hl 6 rfl) ?_
        refine lv_iconst (v := 4) hx hb dX10_feed_32 (by decide) ?_
        refine lv_icmp_ge (tgt := 40) hx hb dX10_feed_33 (by decide) (fun c7 => ?_) (fun c7 => ?_)
        · have hF := hF.1 c7
          refine lv_iload hx hb dX10_feed_40 (lv_at hl 6 rfl) ?_
          refine lv_bipush (v := 8) hx hb dX10_feed_42 (by decide) ?_
          refine lv_icmp_ge (tgt := 51) hx hb dX10_feed_44 (by decide) (fun c8 => ?_) (fun c8 => ?_)
          · have hF := hF.1 c8
            refine lv_iload hx hb dX10_feed_51 (lv_at hl 6 rfl) ?_
            refine lv_bipush (v := 12) hx hb dX10_feed_53 (by decide) ?_
            refine lv_icmp_ge (tgt := 62) hx hb dX10_feed_55 (by decide) (fun c9 => ?_) (fun c9 => ?_)
            · have hF := hF.1 c9
              refine lv_iload hx hb dX10_feed_62 (lv_at hl 6 rfl) ?_
              refine lv_bipush (v := 16) hx hb dX10_feed_64 (by decide) ?_
              refine lv_icmp_ge (tgt := 74) hx hb dX10_feed_66 (by decide) (fun c10 => ?_) (fun c10 => ?_)
              · have hF := hF.1 c10
                refine lv_iload hx hb dX10_feed_74 (lv_at hl 5 rfl) ?_
                exact j76 τ p0 hp0 u1 u2 u3 u4 u5 u6 u5 _ _ _ _ _ hF hP hN hS (lv_sub hl [0, 1, 2, 3, 4, 5, 6] rfl) (fun t v6 H locs ls hF hP hN hS hl => ih t v6 _ _ _ hF hP hN hS hl hEX) hEX
              · have hF := hF.2 c10
                refine lv_iload hx hb dX10_feed_69 (lv_at hl 4 rfl) ?_
                refine lv_goto (tgt := 76) hx hb dX10_feed_71 (by decide) ?_
                exact j76 τ p0 hp0 u1 u2 u3 u4 u5 u6 u4 _ _ _ _ _ hF hP hN hS (lv_sub hl [0, 1, 2, 3, 4, 5, 6] rfl) (fun t v6 H locs ls hF hP hN hS hl => ih t v6 _ _ _ hF hP hN hS hl hEX) hEX
            · have hF := hF.2 c9
              refine lv_iload_n hx hb dX10_feed_58 rfl (lv_at hl 3 rfl) ?_
              refine lv_goto (tgt := 76) hx hb dX10_feed_59 (by decide) ?_
              exact j76 τ p0 hp0 u1 u2 u3 u4 u5 u6 u3 _ _ _ _ _ hF hP hN hS (lv_sub hl [0, 1, 2, 3, 4, 5, 6] rfl) (fun t v6 H locs ls hF hP hN hS hl => ih t v6 _ _ _ hF hP hN hS hl hEX) hEX
          · have hF := hF.2 c8
            refine lv_iload_n hx hb dX10_feed_47 rfl (lv_at hl 2 rfl) ?_
            refine lv_goto (tgt := 76) hx hb dX10_feed_48 (by decide) ?_
            exact j76 τ p0 hp0 u1 u2 u3 u4 u5 u6 u2 _ _ _ _ _ hF hP hN hS (lv_sub hl [0, 1, 2, 3, 4, 5, 6] rfl) (fun t v6 H locs ls hF hP hN hS hl => ih t v6 _ _ _ hF hP hN hS hl hEX) hEX
        · have hF := hF.2 c7
          refine lv_iload_n hx hb dX10_feed_36 rfl (lv_at hl 1 rfl) ?_
          refine lv_goto (tgt := 76) hx hb dX10_feed_37 (by decide) ?_
          exact j76 τ p0 hp0 u1 u2 u3 u4 u5 u6 u1 _ _ _ _ _ hF hP hN hS (lv_sub hl [0, 1, 2, 3, 4, 5, 6] rfl) (fun t v6 H locs ls hF hP hN hS hl => ih t v6 _ _ _ hF hP hN hS hl hEX) hEX
  refine lv_aload_n hx hb dX10_feed_0 rfl (lv_at hl 0 rfl) ?_
  refine lv_iconst (v := 0) hx hb dX10_feed_1 (by decide) ?_
  refine tw_put (τ' := sI τ0 0 k0 0 ((0 : Int32))) (ty := .int) hx hb hts (by decide +kernel) tyX10 tyX10_ok nmX10 hown hK hP hS (by decide) hk0 rfl rfl 0 (by decide) (hts (.fieldLink RX10 1 "WineCellarModel" "thrown" "I") (by decide +kernel)) (fun _ h9 => h9) rfl (by decide +kernel) rfl rfl (Nat.le_of_ble_eq_true rfl) dX10_feed_2 (fun H1 ha ho => tw_updI hP (by decide) hk0 ha ho) (fun H locs hP hS => ?_)
  obtain ⟨τ11, eτ11⟩ : ∃ y : tw_T, y = sI τ0 0 k0 0 ((0 : Int32)) := ⟨_, rfl⟩
  have hF := hF τ11 eτ11
  rw [← eτ11] at hP
  have hN : gN τ11 = gN τ0 := by rw [eτ11]; exact hN
  refine lv_aload_n hx hb dX10_feed_5 rfl (lv_at hl 0 rfl) ?_
  refine tw_get (v := .int (gI τ11 0 k0 28)) hx hb hts (by decide +kernel) hown hK hP (by decide) (tw_lt hk0 (congrFun hN 0)) rfl rfl 28 (by decide) (hts (.fieldLink RX10 190 "WineCellarModel" "taped" "I") (by decide +kernel)) (fun _ h9 => h9) rfl dX10_feed_6 ?_
  refine lv_bipush (v := 20) hx hb dX10_feed_9 (by decide) ?_
  refine lv_iadd hx hb dX10_feed_11 ?_
  refine lv_sipush (v := 200) hx hb dX10_feed_12 (by decide) ?_
  refine lv_icmp_le (tgt := 20) hx hb dX10_feed_15 (by decide) (fun c12 => ?_) (fun c12 => ?_)
  · have hF := hF.1 c12
    refine lv_iconst (v := 0) hx hb dX10_feed_20 (by decide) ?_
    refine lv_istore (lv' := [(6, .int ((0 : Int32))), (0, .ref (ad 0 k0)), (1, .int x1), (2, .int x2), (3, .int x3), (4, .int x4), (5, .int x5)]) hx hb dX10_feed_21 hl (by decide) rfl (fun ls hl => ?_)
    obtain ⟨n13, hF⟩ := hF
    refine l23 k0 hk0 x1 x2 x3 x4 x5 _ n13 τ11 ((0 : Int32)) _ _ _ hF hP hN hS (lv_sub hl [1, 2, 3, 4, 5, 6, 0] rfl) ?_
    intro τ14 z15 H locs ls hF hP hN hS hl
    refine lv_aload_n hx hb dX10_feed_120 rfl (lv_at hl 0 rfl) ?_
    refine tw_get (v := .int (gI τ14 0 k0 28)) hx hb hts (by decide +kernel) hown hK hP (by decide) (tw_lt hk0 (congrFun hN 0)) rfl rfl 28 (by decide) (hts (.fieldLink RX10 190 "WineCellarModel" "taped" "I") (by decide +kernel)) (fun _ h9 => h9) rfl dX10_feed_121 ?_
    exact W.iret (v := gI τ14 0 k0 28) hx hb hr (fun t ht hW => ⟨⟨(gI τ14 0 k0 28), τ14, rfl, ⟨hF, hN⟩, tw_at hP ht⟩, hS.F ht⟩) hS.2.2 dX10_feed_124
  · have hF := hF.2 c12
    refine lv_iconst (v := (-1)) hx hb dX10_feed_18 (by decide) ?_
    exact W.iret (v := (-1 : Int32)) hx hb hr (fun t ht hW => ⟨⟨((-1 : Int32)), τ11, rfl, ⟨hF, hN⟩, tw_at hP ht⟩, hS.F ht⟩) hS.2.2 dX10_feed_19
def F_X10_fine (τ0 : tw_T) (k0 : Nat) (Q : Int32 → tw_T → Prop) : Prop := ((¬ (gI τ0 0 k0 32) = ((-1 : Int32)) → (Q ((0 : Int32)) τ0)) ∧ ((gI τ0 0 k0 32) = ((-1 : Int32)) → (Q ((1 : Int32)) τ0)))
def rmX10_fine : Room := { frames := 0, cells := 0, slots := 0, locals := 0 }
set_option maxHeartbeats 4000000 in
set_option maxRecDepth 100000 in
theorem mX10_fine (l : Launch) (dC : Nat → ClassId) (dI : Nat → Nat → Nat) (ac : Nat → ClassId) (sa : Nat → Nat) (A : Nat → Prop) (ad : Nat → Nat → Nat) (τ0 : tw_T) (k0 : Nat) (Q : Int32 → tw_T → Prop) (hF : F_X10_fine τ0 k0 Q) (hk0 : k0 < gN τ0 0) : Met l yX10_fine wsX10_fine rmX10_fine (va_Pc [.ref (ad 0 k0)] (BM dC dI ac sa A ad τ0)) (va_Qi (fun r (u : tw_T) => Q r u ∧ gN u = gN τ0) (fun u t => PM dC dI ac A ad u t.heap) A) 0 0 A := by
  refine Met.ofW (cc := cX10_fine) (maxL := 1) (ret := (some .boolean)) (by decide) rfl ?_
  intro p e s m args below meth c s₁ B hml hv
  obtain ⟨rfl, hP, hK, hA, hZ⟩ := hv
  have hx := B.exec
  have hb := B.bytes
  have hr := B.returns
  have hts := atoms_spec (ws := wsX10_fine) B.pre
  have hown : s.vm.findClass RX10 = some m.cls := findClass_of_methodNamed B.named
  have hlocks := B.notSynchronized
  have hS : va_S A s.heap s.heap [] := va_S.rf
  have hN : gN τ0 = gN τ0 := rfl
  have hl := lv_entry ([.ref (ad 0 k0)]) (n := 1) (Nat.le_of_ble_eq_true rfl)
  rw [lg_entry_eq]
  generalize (lg_sl ([.ref (ad 0 k0)]) ++ List.replicate (1 - (lg_sl ([.ref (ad 0 k0)])).length) Slot.unset).toArray = ls at hl ⊢
  have hl : lv_has ls 1 [(0, .ref (ad 0 k0))] := hl
  unfold F_X10_fine at hF
  refine lv_aload_n hx hb dX10_fine_0 rfl (lv_at hl 0 rfl) ?_
  refine tw_get (v := .int (gI τ0 0 k0 32)) hx hb hts (by decide +kernel) hown hK hP (by decide) hk0 rfl rfl 32 (by decide) (hts (.fieldLink RX10 193 "WineCellarModel" "bad" "I") (by decide +kernel)) (fun _ h9 => h9) rfl dX10_fine_1 ?_
  refine lv_iconst (v := (-1)) hx hb dX10_fine_4 (by decide) ?_
  refine lv_icmp_ne (tgt := 12) hx hb dX10_fine_5 (by decide) (fun c1 => ?_) (fun c1 => ?_)
  · have hF := hF.1 c1
    refine lv_iconst (v := 0) hx hb dX10_fine_12 (by decide) ?_
    exact W.zret (v := (0 : Int32)) (ty := .boolean) hx hb hr rfl (fun t ht hW => ⟨⟨((0 : Int32)), τ0, rfl, ⟨hF, hN⟩, tw_at hP ht⟩, hS.F ht⟩) hS.2.2 dX10_fine_13
  · have hF := hF.2 c1
    refine lv_iconst (v := 1) hx hb dX10_fine_8 (by decide) ?_
    refine lv_goto (tgt := 13) hx hb dX10_fine_9 (by decide) ?_
    exact W.zret (v := (1 : Int32)) (ty := .boolean) hx hb hr rfl (fun t ht hW => ⟨⟨((1 : Int32)), τ0, rfl, ⟨hF, hN⟩, tw_at hP ht⟩, hS.F ht⟩) hS.2.2 dX10_fine_13
def F_X10_wrong (τ0 : tw_T) (k0 : Nat) (x1 : Int32) (Q : tw_T → Prop) : Prop := ((¬ (gI τ0 0 k0 32) = ((-1 : Int32)) → (Q τ0)) ∧ ((gI τ0 0 k0 32) = ((-1 : Int32)) → (∀ τ2 : tw_T, τ2 = sI τ0 0 k0 32 x1 → (Q τ2))))
def rmX10_wrong : Room := { frames := 0, cells := 0, slots := 0, locals := 0 }
set_option maxHeartbeats 4000000 in
set_option maxRecDepth 100000 in
theorem mX10_wrong (l : Launch) (dC : Nat → ClassId) (dI : Nat → Nat → Nat) (ac : Nat → ClassId) (sa : Nat → Nat) (A : Nat → Prop) (ad : Nat → Nat → Nat) (τ0 : tw_T) (k0 : Nat) (x1 : Int32) (Q : tw_T → Prop) (hF : F_X10_wrong τ0 k0 x1 Q) (hk0 : k0 < gN τ0 0) : Met l yX10_wrong wsX10_wrong rmX10_wrong (va_Pc [.ref (ad 0 k0), .int x1] (BM dC dI ac sa A ad τ0)) (va_Qv (fun (u : tw_T) => Q u ∧ gN u = gN τ0) (fun u t => PM dC dI ac A ad u t.heap) A) 0 0 A := by
  refine Met.ofW (cc := cX10_wrong) (maxL := 2) (ret := none) (by decide) rfl ?_
  intro p e s m args below meth c s₁ B hml hv
  obtain ⟨rfl, hP, hK, hA, hZ⟩ := hv
  have hx := B.exec
  have hb := B.bytes
  have hr := B.returns
  have hts := atoms_spec (ws := wsX10_wrong) B.pre
  have hown : s.vm.findClass RX10 = some m.cls := findClass_of_methodNamed B.named
  have hlocks := B.notSynchronized
  have hS : va_S A s.heap s.heap [] := va_S.rf
  have hN : gN τ0 = gN τ0 := rfl
  have hl := lv_entry ([.ref (ad 0 k0), .int x1]) (n := 2) (Nat.le_of_ble_eq_true rfl)
  rw [lg_entry_eq]
  generalize (lg_sl ([.ref (ad 0 k0), .int x1]) ++ List.replicate (2 - (lg_sl ([.ref (ad 0 k0), .int x1])).length) Slot.unset).toArray = ls at hl ⊢
  have hl : lv_has ls 2 [(0, .ref (ad 0 k0)), (1, .int x1)] := hl
  unfold F_X10_wrong at hF
  refine lv_aload_n hx hb dX10_wrong_0 rfl (lv_at hl 0 rfl) ?_
  refine tw_get (v := .int (gI τ0 0 k0 32)) hx hb hts (by decide +kernel) hown hK hP (by decide) hk0 rfl rfl 32 (by decide) (hts (.fieldLink RX10 193 "WineCellarModel" "bad" "I") (by decide +kernel)) (fun _ h9 => h9) rfl dX10_wrong_1 ?_
  refine lv_iconst (v := (-1)) hx hb dX10_wrong_4 (by decide) ?_
  refine lv_icmp_ne (tgt := 13) hx hb dX10_wrong_5 (by decide) (fun c1 => ?_) (fun c1 => ?_)
  · have hF := hF.1 c1
    exact W.vret hx hb hr (fun t ht hW => ⟨⟨τ0, rfl, ⟨hF, hN⟩, tw_at hP ht⟩, hS.F ht⟩) hS.2.2 dX10_wrong_13
  · have hF := hF.2 c1
    refine lv_aload_n hx hb dX10_wrong_8 rfl (lv_at hl 0 rfl) ?_
    refine lv_iload_n hx hb dX10_wrong_9 rfl (lv_at hl 1 rfl) ?_
    refine tw_put (τ' := sI τ0 0 k0 32 x1) (ty := .int) hx hb hts (by decide +kernel) tyX10 tyX10_ok nmX10 hown hK hP hS (by decide) hk0 rfl rfl 32 (by decide) (hts (.fieldLink RX10 193 "WineCellarModel" "bad" "I") (by decide +kernel)) (fun _ h9 => h9) rfl (by decide +kernel) rfl rfl (Nat.le_of_ble_eq_true rfl) dX10_wrong_10 (fun H1 ha ho => tw_updI hP (by decide) hk0 ha ho) (fun H locs hP hS => ?_)
    obtain ⟨τ2, eτ2⟩ : ∃ y : tw_T, y = sI τ0 0 k0 32 x1 := ⟨_, rfl⟩
    have hF := hF τ2 eτ2
    rw [← eτ2] at hP
    have hN : gN τ2 = gN τ0 := by rw [eτ2]; exact hN
    exact W.vret hx hb hr (fun t ht hW => ⟨⟨τ2, rfl, ⟨hF, hN⟩, tw_at hP ht⟩, hS.F ht⟩) hS.2.2 dX10_wrong_13
def J_X10_here_38 (τ : tw_T) (p0 : Nat) (Q : Int32 → tw_T → Prop) : Prop := (((gI τ 0 p0 30) ≤ (gI τ 0 p0 31) → (Q ((0 : Int32)) τ)) ∧ (¬ (gI τ 0 p0 30) ≤ (gI τ 0 p0 31) → (∃ o2 : Nat, gR τ 0 p0 33 = some o2 ∧ (vp_in (gI τ 0 p0 31) 200 ∧ (Q (gI τ 133 o2 (gI τ 0 p0 31).toNatClampNeg) τ)))))
def L_X10_here_0 (p0 : Nat) (Q : Int32 → tw_T → Prop) (EX : tw_T → Prop) : Nat → tw_T → Prop
  | 0, _ => False
  | n + 1, τ => (((gI τ 0 p0 30) ≤ (gI τ 0 p0 31) → (EX τ )) ∧ (¬ (gI τ 0 p0 30) ≤ (gI τ 0 p0 31) → (∃ o5 : Nat, gR τ 0 p0 33 = some o5 ∧ (vp_in (gI τ 0 p0 31) 200 ∧ (((¬ (gI τ 133 o5 (gI τ 0 p0 31).toNatClampNeg) = ((32 : Int32)) → (EX τ )) ∧ ((gI τ 133 o5 (gI τ 0 p0 31).toNatClampNeg) = ((32 : Int32)) → (∀ τ8 : tw_T, τ8 = sI τ 0 p0 31 ((gI τ 0 p0 31) + ((1 : Int32))) → (L_X10_here_0 p0 Q EX n τ8 )))))))))
def F_X10_here (τ0 : tw_T) (k0 : Nat) (Q : Int32 → tw_T → Prop) : Prop := (((gI τ0 0 k0 30) ≤ (gI τ0 0 k0 31) → (J_X10_here_38 τ0 k0 Q)) ∧ (¬ (gI τ0 0 k0 30) ≤ (gI τ0 0 k0 31) → (∃ o10 : Nat, gR τ0 0 k0 33 = some o10 ∧ (vp_in (gI τ0 0 k0 31) 200 ∧ (((¬ (gI τ0 133 o10 (gI τ0 0 k0 31).toNatClampNeg) = ((32 : Int32)) → (J_X10_here_38 τ0 k0 Q)) ∧ ((gI τ0 133 o10 (gI τ0 0 k0 31).toNatClampNeg) = ((32 : Int32)) → (∀ τ13 : tw_T, τ13 = sI τ0 0 k0 31 ((gI τ0 0 k0 31) + ((1 : Int32))) → (∃ n14 : Nat, L_X10_here_0 k0 Q (fun (τ15 : tw_T)  => J_X10_here_38 τ15 k0 Q) n14 τ13 )))))))))
def rmX10_here : Room := { frames := 0, cells := 0, slots := 0, locals := 0 }
set_option maxHeartbeats 4000000 in
set_option maxRecDepth 100000 in
theorem mX10_here (l : Launch) (dC : Nat → ClassId) (dI : Nat → Nat → Nat) (ac : Nat → ClassId) (sa : Nat → Nat) (A : Nat → Prop) (ad : Nat → Nat → Nat) (τ0 : tw_T) (k0 : Nat) (Q : Int32 → tw_T → Prop) (hF : F_X10_here τ0 k0 Q) (hk0 : k0 < gN τ0 0) : Met l yX10_here wsX10_here rmX10_here (va_Pc [.ref (ad 0 k0)] (BM dC dI ac sa A ad τ0)) (va_Qi (fun r (u : tw_T) => Q r u ∧ gN u = gN τ0) (fun u t => PM dC dI ac A ad u t.heap) A) 0 0 A := by
  refine Met.ofW (cc := cX10_here) (maxL := 1) (ret := (some .int)) (by decide) rfl ?_
  intro p e s m args below meth c s₁ B hml hv
  obtain ⟨rfl, hP, hK, hA, hZ⟩ := hv
  have hx := B.exec
  have hb := B.bytes
  have hr := B.returns
  have hts := atoms_spec (ws := wsX10_here) B.pre
  have hown : s.vm.findClass RX10 = some m.cls := findClass_of_methodNamed B.named
  have hlocks := B.notSynchronized
  have hS : va_S A s.heap s.heap [] := va_S.rf
  have hN : gN τ0 = gN τ0 := rfl
  have hl := lv_entry ([.ref (ad 0 k0)]) (n := 1) (Nat.le_of_ble_eq_true rfl)
  rw [lg_entry_eq]
  generalize (lg_sl ([.ref (ad 0 k0)]) ++ List.replicate (1 - (lg_sl ([.ref (ad 0 k0)])).length) Slot.unset).toArray = ls at hl ⊢
  have hl : lv_has ls 1 [(0, .ref (ad 0 k0))] := hl
  unfold F_X10_here at hF
  have j38 : ∀ (τ : tw_T) (p0 : Nat) (hp0 : p0 < gN τ0 0) (H : Heap) (locs : List Loc) (ls : Array Slot), J_X10_here_38 τ p0 Q → PM dC dI ac A ad τ H → gN τ = gN τ0 → va_S A s.heap H locs → lv_has ls 1 [(0, .ref (ad 0 p0))] → W p l e rmX10_here s m ([.ref (ad 0 k0)] : List Value).toArray below meth c H locs 0 0 (MQ below (va_Qi (fun r (u : tw_T) => Q r u ∧ gN u = gN τ0) (fun u t => PM dC dI ac A ad u t.heap) A) ([.ref (ad 0 k0)] : List Value).toArray s 0 0 A) (F0 m 38 ls []) := by
    intro τ p0 hp0 H locs ls hF hP hN hS hl
    unfold J_X10_here_38 at hF
    refine lv_aload_n hx hb dX10_here_38 rfl (lv_at hl 0 rfl) ?_
    refine tw_get (v := .int (gI τ 0 p0 31)) hx hb hts (by decide +kernel) hown hK hP (by decide) (tw_lt hp0 (congrFun hN 0)) rfl rfl 31 (by decide) (hts (.fieldLink RX10 196 "WineCellarModel" "at" "I") (by decide +kernel)) (fun _ h9 => h9) rfl dX10_here_39 ?_
    refine lv_aload_n hx hb dX10_here_42 rfl (lv_at hl 0 rfl) ?_
    refine tw_get (v := .int (gI τ 0 p0 30)) hx hb hts (by decide +kernel) hown hK hP (by decide) (tw_lt hp0 (congrFun hN 0)) rfl rfl 30 (by decide) (hts (.fieldLink RX10 199 "WineCellarModel" "size" "I") (by decide +kernel)) (fun _ h9 => h9) rfl dX10_here_43 ?_
    refine lv_icmp_ge (tgt := 61) hx hb dX10_here_46 (by decide) (fun c1 => ?_) (fun c1 => ?_)
    · have hF := hF.1 c1
      refine lv_iconst (v := 0) hx hb dX10_here_61 (by decide) ?_
      exact W.iret (v := (0 : Int32)) hx hb hr (fun t ht hW => ⟨⟨((0 : Int32)), τ, rfl, ⟨hF, hN⟩, tw_at hP ht⟩, hS.F ht⟩) hS.2.2 dX10_here_62
    · have hF := hF.2 c1
      refine lv_aload_n hx hb dX10_here_49 rfl (lv_at hl 0 rfl) ?_
      obtain ⟨o2, eo2, hF⟩ := hF
      have ho2 : o2 < gN τ0 133 := tw_lt (hP.2.2.2 0 p0 33 o2 (by decide) (tw_lt hp0 (congrFun hN 0)) eo2) (congrFun hN 133).symm
      refine tw_get (v := .ref (ad 133 o2)) hx hb hts (by decide +kernel) hown hK hP (by decide) (tw_lt hp0 (congrFun hN 0)) rfl rfl 33 (by decide) (hts (.fieldLink RX10 59 "WineCellarModel" "tape" "[I") (by decide +kernel)) (fun _ h9 => h9) (show some (va_rf ((gR τ 0 p0 33).map (ad 133))) = some (.ref (ad 133 o2)) by rw [eo2]; rfl) dX10_here_50 ?_
      refine lv_aload_n hx hb dX10_here_53 rfl (lv_at hl 0 rfl) ?_
      refine tw_get (v := .int (gI τ 0 p0 31)) hx hb hts (by decide +kernel) hown hK hP (by decide) (tw_lt hp0 (congrFun hN 0)) rfl rfl 31 (by decide) (hts (.fieldLink RX10 196 "WineCellarModel" "at" "I") (by decide +kernel)) (fun _ h9 => h9) rfl dX10_here_54 ?_
      obtain ⟨hi3, hF⟩ := hF
      refine tw_iald hx hb hK hP (by decide) (tw_lt ho2 (congrFun hN 133)) rfl 0 rfl hi3 dX10_here_57 ?_
      refine lv_goto (tgt := 62) hx hb dX10_here_58 (by decide) ?_
      exact W.iret (v := gI τ 133 o2 (gI τ 0 p0 31).toNatClampNeg) hx hb hr (fun t ht hW => ⟨⟨(gI τ 133 o2 (gI τ 0 p0 31).toNatClampNeg), τ, rfl, ⟨hF, hN⟩, tw_at hP ht⟩, hS.F ht⟩) hS.2.2 dX10_here_62
  have l0 : ∀ (p0 : Nat) (hp0 : p0 < gN τ0 0) (EX : tw_T → Prop) (n : Nat) (τ : tw_T)  (H : Heap) (locs : List Loc) (ls : Array Slot), L_X10_here_0 p0 Q EX n τ  → PM dC dI ac A ad τ H → gN τ = gN τ0 → va_S A s.heap H locs → lv_has ls 1 [(0, .ref (ad 0 p0))] → (∀ (τ : tw_T)  (H : Heap) (locs : List Loc) (ls : Array Slot), EX τ  → PM dC dI ac A ad τ H → gN τ = gN τ0 → va_S A s.heap H locs → lv_has ls 1 [(0, .ref (ad 0 p0))] → W p l e rmX10_here s m ([.ref (ad 0 k0)] : List Value).toArray below meth c H locs 0 0 (MQ below (va_Qi (fun r (u : tw_T) => Q r u ∧ gN u = gN τ0) (fun u t => PM dC dI ac A ad u t.heap) A) ([.ref (ad 0 k0)] : List Value).toArray s 0 0 A) (F0 m 38 ls [])) → W p l e rmX10_here s m ([.ref (ad 0 k0)] : List Value).toArray below meth c H locs 0 0 (MQ below (va_Qi (fun r (u : tw_T) => Q r u ∧ gN u = gN τ0) (fun u t => PM dC dI ac A ad u t.heap) A) ([.ref (ad 0 k0)] : List Value).toArray s 0 0 A) (F0 m 0 ls []) := by
    intro p0 hp0 EX n
    induction n with
    | zero => intro τ  H locs ls hF; exact hF.elim
    | succ n ih =>
      intro τ  H locs ls hF hP hN hS hl hEX
      rw [L_X10_here_0] at hF
      refine lv_aload_n hx hb dX10_here_0 rfl (lv_at hl 0 rfl) ?_
      refine tw_get (v := .int (gI τ 0 p0 31)) hx hb hts (by decide +kernel) hown hK hP (by decide) (tw_lt hp0 (congrFun hN 0)) rfl rfl 31 (by decide) (hts (.fieldLink RX10 196 "WineCellarModel" "at" "I") (by decide +kernel)) (fun _ h9 => h9) rfl dX10_here_1 ?_
      refine lv_aload_n hx hb dX10_here_4 rfl (lv_at hl 0 rfl) ?_
      refine tw_get (v := .int (gI τ 0 p0 30)) hx hb hts (by decide +kernel) hown hK hP (by decide) (tw_lt hp0 (congrFun hN 0)) rfl rfl 30 (by decide) (hts (.fieldLink RX10 199 "WineCellarModel" "size" "I") (by decide +kernel)) (fun _ h9 => h9) rfl dX10_here_5 ?_
      refine lv_icmp_ge (tgt := 38) hx hb dX10_here_8 (by decide) (fun c4 => ?_) (fun c4 => ?_)
      · have hF := hF.1 c4
        exact hEX τ  _ _ _ hF hP hN hS (lv_sub hl [0] rfl)
      · have hF := hF.2 c4
        refine lv_aload_n hx hb dX10_here_11 rfl (lv_at hl 0 rfl) ?_
        obtain ⟨o5, eo5, hF⟩ := hF
        have ho5 : o5 < gN τ0 133 := tw_lt (hP.2.2.2 0 p0 33 o5 (by decide) (tw_lt hp0 (congrFun hN 0)) eo5) (congrFun hN 133).symm
        refine tw_get (v := .ref (ad 133 o5)) hx hb hts (by decide +kernel) hown hK hP (by decide) (tw_lt hp0 (congrFun hN 0)) rfl rfl 33 (by decide) (hts (.fieldLink RX10 59 "WineCellarModel" "tape" "[I") (by decide +kernel)) (fun _ h9 => h9) (show some (va_rf ((gR τ 0 p0 33).map (ad 133))) = some (.ref (ad 133 o5)) by rw [eo5]; rfl) dX10_here_12 ?_
        refine lv_aload_n hx hb dX10_here_15 rfl (lv_at hl 0 rfl) ?_
        refine tw_get (v := .int (gI τ 0 p0 31)) hx hb hts (by decide +kernel) hown hK hP (by decide) (tw_lt hp0 (congrFun hN 0)) rfl rfl 31 (by decide) (hts (.fieldLink RX10 196 "WineCellarModel" "at" "I") (by decide +kernel)) (fun _ h9 => h9) rfl dX10_here_16 ?_
        obtain ⟨hi6, hF⟩ := hF
        refine tw_iald hx hb hK hP (by decide) (tw_lt ho5 (congrFun hN 133)) rfl 0 rfl hi6 dX10_here_19 ?_
        refine lv_bipush (v := 32) hx hb dX10_here_20 (by decide) ?_
        refine lv_icmp_ne (tgt := 38) hx hb dX10_here_22 (by decide) (fun c7 => ?_) (fun c7 => ?_)
        · have hF := hF.1 c7
          exact hEX τ  _ _ _ hF hP hN hS (lv_sub hl [0] rfl)
        · have hF := hF.2 c7
          refine lv_aload_n hx hb dX10_here_25 rfl (lv_at hl 0 rfl) ?_
          refine lv_dup hx hb dX10_here_26 rfl ?_
          refine tw_get (v := .int (gI τ 0 p0 31)) hx hb hts (by decide +kernel) hown hK hP (by decide) (tw_lt hp0 (congrFun hN 0)) rfl rfl 31 (by decide) (hts (.fieldLink RX10 196 "WineCellarModel" "at" "I") (by decide +kernel)) (fun _ h9 => h9) rfl dX10_here_27 ?_
          refine lv_iconst (v := 1) hx hb dX10_here_30 (by decide) ?_
          refine lv_iadd hx hb dX10_here_31 ?_
          refine tw_put (τ' := sI τ 0 p0 31 ((gI τ 0 p0 31) + ((1 : Int32)))) (ty := .int) hx hb hts (by decide +kernel) tyX10 tyX10_ok nmX10 hown hK hP hS (by decide) (tw_lt hp0 (congrFun hN 0)) rfl rfl 31 (by decide) (hts (.fieldLink RX10 196 "WineCellarModel" "at" "I") (by decide +kernel)) (fun _ h9 => h9) rfl (by decide +kernel) rfl rfl (Nat.le_of_ble_eq_true rfl) dX10_here_32 (fun H1 ha ho => tw_updI hP (by decide) (tw_lt hp0 (congrFun hN 0)) ha ho) (fun H locs hP hS => ?_)
          obtain ⟨τ8, eτ8⟩ : ∃ y : tw_T, y = sI τ 0 p0 31 ((gI τ 0 p0 31) + ((1 : Int32))) := ⟨_, rfl⟩
          have hF := hF τ8 eτ8
          rw [← eτ8] at hP
          have hN : gN τ8 = gN τ0 := by rw [eτ8]; exact hN
          refine lv_goto (tgt := 0) hx hb dX10_here_35 (by decide) ?_
          exact ih τ8  _ _ _ hF hP hN hS (lv_sub hl [0] rfl) hEX
  refine lv_aload_n hx hb dX10_here_0 rfl (lv_at hl 0 rfl) ?_
  refine tw_get (v := .int (gI τ0 0 k0 31)) hx hb hts (by decide +kernel) hown hK hP (by decide) hk0 rfl rfl 31 (by decide) (hts (.fieldLink RX10 196 "WineCellarModel" "at" "I") (by decide +kernel)) (fun _ h9 => h9) rfl dX10_here_1 ?_
  refine lv_aload_n hx hb dX10_here_4 rfl (lv_at hl 0 rfl) ?_
  refine tw_get (v := .int (gI τ0 0 k0 30)) hx hb hts (by decide +kernel) hown hK hP (by decide) hk0 rfl rfl 30 (by decide) (hts (.fieldLink RX10 199 "WineCellarModel" "size" "I") (by decide +kernel)) (fun _ h9 => h9) rfl dX10_here_5 ?_
  refine lv_icmp_ge (tgt := 38) hx hb dX10_here_8 (by decide) (fun c9 => ?_) (fun c9 => ?_)
  · have hF := hF.1 c9
    exact j38 τ0 k0 hk0 _ _ _ hF hP hN hS (lv_sub hl [0] rfl)
  · have hF := hF.2 c9
    refine lv_aload_n hx hb dX10_here_11 rfl (lv_at hl 0 rfl) ?_
    obtain ⟨o10, eo10, hF⟩ := hF
    have ho10 : o10 < gN τ0 133 := tw_lt (hP.2.2.2 0 k0 33 o10 (by decide) hk0 eo10) (congrFun hN 133).symm
    refine tw_get (v := .ref (ad 133 o10)) hx hb hts (by decide +kernel) hown hK hP (by decide) hk0 rfl rfl 33 (by decide) (hts (.fieldLink RX10 59 "WineCellarModel" "tape" "[I") (by decide +kernel)) (fun _ h9 => h9) (show some (va_rf ((gR τ0 0 k0 33).map (ad 133))) = some (.ref (ad 133 o10)) by rw [eo10]; rfl) dX10_here_12 ?_
    refine lv_aload_n hx hb dX10_here_15 rfl (lv_at hl 0 rfl) ?_
    refine tw_get (v := .int (gI τ0 0 k0 31)) hx hb hts (by decide +kernel) hown hK hP (by decide) hk0 rfl rfl 31 (by decide) (hts (.fieldLink RX10 196 "WineCellarModel" "at" "I") (by decide +kernel)) (fun _ h9 => h9) rfl dX10_here_16 ?_
    obtain ⟨hi11, hF⟩ := hF
    refine tw_iald hx hb hK hP (by decide) ho10 rfl 0 rfl hi11 dX10_here_19 ?_
    refine lv_bipush (v := 32) hx hb dX10_here_20 (by decide) ?_
    refine lv_icmp_ne (tgt := 38) hx hb dX10_here_22 (by decide) (fun c12 => ?_) (fun c12 => ?_)
    · have hF := hF.1 c12
      exact j38 τ0 k0 hk0 _ _ _ hF hP hN hS (lv_sub hl [0] rfl)
    · have hF := hF.2 c12
      refine lv_aload_n hx hb dX10_here_25 rfl (lv_at hl 0 rfl) ?_
      refine lv_dup hx hb dX10_here_26 rfl ?_
      refine tw_get (v := .int (gI τ0 0 k0 31)) hx hb hts (by decide +kernel) hown hK hP (by decide) hk0 rfl rfl 31 (by decide) (hts (.fieldLink RX10 196 "WineCellarModel" "at" "I") (by decide +kernel)) (fun _ h9 => h9) rfl dX10_here_27 ?_
      refine lv_iconst (v := 1) hx hb dX10_here_30 (by decide) ?_
      refine lv_iadd hx hb dX10_here_31 ?_
      refine tw_put (τ' := sI τ0 0 k0 31 ((gI τ0 0 k0 31) + ((1 : Int32)))) (ty := .int) hx hb hts (by decide +kernel) tyX10 tyX10_ok nmX10 hown hK hP hS (by decide) hk0 rfl rfl 31 (by decide) (hts (.fieldLink RX10 196 "WineCellarModel" "at" "I") (by decide +kernel)) (fun _ h9 => h9) rfl (by decide +kernel) rfl rfl (Nat.le_of_ble_eq_true rfl) dX10_here_32 (fun H1 ha ho => tw_updI hP (by decide) hk0 ha ho) (fun H locs hP hS => ?_)
      obtain ⟨τ13, eτ13⟩ : ∃ y : tw_T, y = sI τ0 0 k0 31 ((gI τ0 0 k0 31) + ((1 : Int32))) := ⟨_, rfl⟩
      have hF := hF τ13 eτ13
      rw [← eτ13] at hP
      have hN : gN τ13 = gN τ0 := by rw [eτ13]; exact hN
      refine lv_goto (tgt := 0) hx hb dX10_here_35 (by decide) ?_
      obtain ⟨n14, hF⟩ := hF
      refine l0 k0 hk0 _ n14 τ13  _ _ _ hF hP hN hS (lv_sub hl [0] rfl) ?_
      intro τ15  H locs ls hF hP hN hS hl
      exact j38 τ15 k0 hk0 _ _ _ hF hP hN hS (lv_sub hl [0] rfl)
def F_X10_isSmall (τ0 : tw_T) (x0 : Int32) (Q : Int32 → tw_T → Prop) : Prop := ((x0 < ((97 : Int32)) → (Q ((0 : Int32)) τ0)) ∧ (¬ x0 < ((97 : Int32)) → (((((122 : Int32)) < x0 → (Q ((0 : Int32)) τ0)) ∧ (¬ ((122 : Int32)) < x0 → (Q ((1 : Int32)) τ0))))))
def rmX10_isSmall : Room := { frames := 0, cells := 0, slots := 0, locals := 0 }
set_option maxHeartbeats 4000000 in
set_option maxRecDepth 100000 in
theorem mX10_isSmall (l : Launch) (dC : Nat → ClassId) (dI : Nat → Nat → Nat) (ac : Nat → ClassId) (sa : Nat → Nat) (A : Nat → Prop) (ad : Nat → Nat → Nat) (τ0 : tw_T) (x0 : Int32) (Q : Int32 → tw_T → Prop) (hF : F_X10_isSmall τ0 x0 Q)  : Met l yX10_isSmall wsX10_isSmall rmX10_isSmall (va_Pc [.int x0] (BM dC dI ac sa A ad τ0)) (va_Qi (fun r (u : tw_T) => Q r u ∧ gN u = gN τ0) (fun u t => PM dC dI ac A ad u t.heap) A) 0 0 A := by
  refine Met.ofW (cc := cX10_isSmall) (maxL := 1) (ret := (some .boolean)) (by decide) rfl ?_
  intro p e s m args below meth c s₁ B hml hv
  obtain ⟨rfl, hP, hK, hA, hZ⟩ := hv
  have hx := B.exec
  have hb := B.bytes
  have hr := B.returns
  have hts := atoms_spec (ws := wsX10_isSmall) B.pre
  have hown : s.vm.findClass RX10 = some m.cls := findClass_of_methodNamed B.named
  have hlocks := B.notSynchronized
  have hS : va_S A s.heap s.heap [] := va_S.rf
  have hN : gN τ0 = gN τ0 := rfl
  have hl := lv_entry ([.int x0]) (n := 1) (Nat.le_of_ble_eq_true rfl)
  rw [lg_entry_eq]
  generalize (lg_sl ([.int x0]) ++ List.replicate (1 - (lg_sl ([.int x0])).length) Slot.unset).toArray = ls at hl ⊢
  have hl : lv_has ls 1 [(0, .int x0)] := hl
  unfold F_X10_isSmall at hF
  refine lv_iload_n hx hb dX10_isSmall_0 rfl (lv_at hl 0 rfl) ?_
  refine lv_bipush (v := 97) hx hb dX10_isSmall_1 (by decide) ?_
  refine lv_icmp_lt (tgt := 16) hx hb dX10_isSmall_3 (by decide) (fun c1 => ?_) (fun c1 => ?_)
  · have hF := hF.1 c1
    refine lv_iconst (v := 0) hx hb dX10_isSmall_16 (by decide) ?_
    exact W.zret (v := (0 : Int32)) (ty := .boolean) hx hb hr rfl (fun t ht hW => ⟨⟨((0 : Int32)), τ0, rfl, ⟨hF, hN⟩, tw_at hP ht⟩, hS.F ht⟩) hS.2.2 dX10_isSmall_17
  · have hF := hF.2 c1
    refine lv_iload_n hx hb dX10_isSmall_6 rfl (lv_at hl 0 rfl) ?_
    refine lv_bipush (v := 122) hx hb dX10_isSmall_7 (by decide) ?_
    refine lv_icmp_gt (tgt := 16) hx hb dX10_isSmall_9 (by decide) (fun c2 => ?_) (fun c2 => ?_)
    · have hF := hF.1 c2
      refine lv_iconst (v := 0) hx hb dX10_isSmall_16 (by decide) ?_
      exact W.zret (v := (0 : Int32)) (ty := .boolean) hx hb hr rfl (fun t ht hW => ⟨⟨((0 : Int32)), τ0, rfl, ⟨hF, hN⟩, tw_at hP ht⟩, hS.F ht⟩) hS.2.2 dX10_isSmall_17
    · have hF := hF.2 c2
      refine lv_iconst (v := 1) hx hb dX10_isSmall_12 (by decide) ?_
      refine lv_goto (tgt := 17) hx hb dX10_isSmall_13 (by decide) ?_
      exact W.zret (v := (1 : Int32)) (ty := .boolean) hx hb hr rfl (fun t ht hW => ⟨⟨((1 : Int32)), τ0, rfl, ⟨hF, hN⟩, tw_at hP ht⟩, hS.F ht⟩) hS.2.2 dX10_isSmall_17
def F_X10_isDigit (τ0 : tw_T) (x0 : Int32) (Q : Int32 → tw_T → Prop) : Prop := ((x0 < ((48 : Int32)) → (Q ((0 : Int32)) τ0)) ∧ (¬ x0 < ((48 : Int32)) → (((((57 : Int32)) < x0 → (Q ((0 : Int32)) τ0)) ∧ (¬ ((57 : Int32)) < x0 → (Q ((1 : Int32)) τ0))))))
def rmX10_isDigit : Room := { frames := 0, cells := 0, slots := 0, locals := 0 }
set_option maxHeartbeats 4000000 in
set_option maxRecDepth 100000 in
theorem mX10_isDigit (l : Launch) (dC : Nat → ClassId) (dI : Nat → Nat → Nat) (ac : Nat → ClassId) (sa : Nat → Nat) (A : Nat → Prop) (ad : Nat → Nat → Nat) (τ0 : tw_T) (x0 : Int32) (Q : Int32 → tw_T → Prop) (hF : F_X10_isDigit τ0 x0 Q)  : Met l yX10_isDigit wsX10_isDigit rmX10_isDigit (va_Pc [.int x0] (BM dC dI ac sa A ad τ0)) (va_Qi (fun r (u : tw_T) => Q r u ∧ gN u = gN τ0) (fun u t => PM dC dI ac A ad u t.heap) A) 0 0 A := by
  refine Met.ofW (cc := cX10_isDigit) (maxL := 1) (ret := (some .boolean)) (by decide) rfl ?_
  intro p e s m args below meth c s₁ B hml hv
  obtain ⟨rfl, hP, hK, hA, hZ⟩ := hv
  have hx := B.exec
  have hb := B.bytes
  have hr := B.returns
  have hts := atoms_spec (ws := wsX10_isDigit) B.pre
  have hown : s.vm.findClass RX10 = some m.cls := findClass_of_methodNamed B.named
  have hlocks := B.notSynchronized
  have hS : va_S A s.heap s.heap [] := va_S.rf
  have hN : gN τ0 = gN τ0 := rfl
  have hl := lv_entry ([.int x0]) (n := 1) (Nat.le_of_ble_eq_true rfl)
  rw [lg_entry_eq]
  generalize (lg_sl ([.int x0]) ++ List.replicate (1 - (lg_sl ([.int x0])).length) Slot.unset).toArray = ls at hl ⊢
  have hl : lv_has ls 1 [(0, .int x0)] := hl
  unfold F_X10_isDigit at hF
  refine lv_iload_n hx hb dX10_isDigit_0 rfl (lv_at hl 0 rfl) ?_
  refine lv_bipush (v := 48) hx hb dX10_isDigit_1 (by decide) ?_
  refine lv_icmp_lt (tgt := 16) hx hb dX10_isDigit_3 (by decide) (fun c1 => ?_) (fun c1 => ?_)
  · have hF := hF.1 c1
    refine lv_iconst (v := 0) hx hb dX10_isDigit_16 (by decide) ?_
    exact W.zret (v := (0 : Int32)) (ty := .boolean) hx hb hr rfl (fun t ht hW => ⟨⟨((0 : Int32)), τ0, rfl, ⟨hF, hN⟩, tw_at hP ht⟩, hS.F ht⟩) hS.2.2 dX10_isDigit_17
  · have hF := hF.2 c1
    refine lv_iload_n hx hb dX10_isDigit_6 rfl (lv_at hl 0 rfl) ?_
    refine lv_bipush (v := 57) hx hb dX10_isDigit_7 (by decide) ?_
    refine lv_icmp_gt (tgt := 16) hx hb dX10_isDigit_9 (by decide) (fun c2 => ?_) (fun c2 => ?_)
    · have hF := hF.1 c2
      refine lv_iconst (v := 0) hx hb dX10_isDigit_16 (by decide) ?_
      exact W.zret (v := (0 : Int32)) (ty := .boolean) hx hb hr rfl (fun t ht hW => ⟨⟨((0 : Int32)), τ0, rfl, ⟨hF, hN⟩, tw_at hP ht⟩, hS.F ht⟩) hS.2.2 dX10_isDigit_17
    · have hF := hF.2 c2
      refine lv_iconst (v := 1) hx hb dX10_isDigit_12 (by decide) ?_
      refine lv_goto (tgt := 17) hx hb dX10_isDigit_13 (by decide) ?_
      exact W.zret (v := (1 : Int32)) (ty := .boolean) hx hb hr rfl (fun t ht hW => ⟨⟨((1 : Int32)), τ0, rfl, ⟨hF, hN⟩, tw_at hP ht⟩, hS.F ht⟩) hS.2.2 dX10_isDigit_17
def J_X10_word_66 (τ : tw_T) (u1 : Int32) (u2 : Int32) (Q : Int32 → tw_T → Prop) : Prop := ((u2 ≤ ((5 : Int32)) → (Q u1 τ)) ∧ (¬ u2 ≤ ((5 : Int32)) → (Q ((0 : Int32)) τ)))
def J_X10_word_56 (τ : tw_T) (p0 : Nat) (u2 : Int32) (u3 : Int32) (y0 : Int32) (Q : Int32 → tw_T → Prop) (RC EX : tw_T → Int32 → Int32 → Int32 → Prop) : Prop := ∀ z2 : Int32, z2 = u2 + (1 : Int32) → (∀ z3 : Int32, z3 = u3 + (1 : Int32) → (RC τ y0 z2 z3))
def L_X10_word_14 (p0 : Nat) (Q : Int32 → tw_T → Prop) (EX : tw_T → Int32 → Int32 → Int32 → Prop) : Nat → tw_T → Int32 → Int32 → Int32 → Prop
  | 0, _, _, _, _ => False
  | n + 1, τ, u1, u2, u3 => (((gI τ 0 p0 30) ≤ u3 → (EX τ u1 u2 u3)) ∧ (¬ (gI τ 0 p0 30) ≤ u3 → (∃ o5 : Nat, gR τ 0 p0 33 = some o5 ∧ (vp_in u3 200 ∧ (F_X10_isSmall τ (gI τ 133 o5 u3.toNatClampNeg) (fun (r8 : Int32) (τ7 : tw_T) => (((r8 = 0 → (EX τ7 u1 u2 u3)) ∧ (¬ r8 = 0 → (((((5 : Int32)) ≤ u2 → (J_X10_word_56 τ7 p0 u2 u3 ((0 : Int32)) Q (fun t v1 v2 v3 => L_X10_word_14 p0 Q EX n t v1 v2 v3) EX)) ∧ (¬ ((5 : Int32)) ≤ u2 → (∃ o11 : Nat, gR τ7 0 p0 33 = some o11 ∧ (vp_in u3 200 ∧ (J_X10_word_56 τ7 p0 u2 u3 ((u1 <<< (((5 : Int32)) &&& 31)) ||| ((gI τ7 133 o11 u3.toNatClampNeg) - ((96 : Int32)))) Q (fun t v1 v2 v3 => L_X10_word_14 p0 Q EX n t v1 v2 v3) EX)))))))))))))))
def F_X10_word (τ0 : tw_T) (k0 : Nat) (Q : Int32 → tw_T → Prop) : Prop := F_X10_here τ0 k0 (fun (r14 : Int32) (τ13 : tw_T) => (∀ z15 : Int32, z15 = gI τ13 0 k0 31 → (∃ n16 : Nat, L_X10_word_14 k0 Q (fun (τ17 : tw_T) (z18 : Int32) (z19 : Int32) (z20 : Int32) => J_X10_word_66 τ17 z18 z19 Q) n16 τ13 ((0 : Int32)) ((0 : Int32)) z15)))
def rmX10_word : Room := { frames := 1, cells := 0, slots := 0, locals := 20 }
set_option maxHeartbeats 4000000 in
set_option maxRecDepth 100000 in
theorem mX10_word (l : Launch) (dC : Nat → ClassId) (dI : Nat → Nat → Nat) (ac : Nat → ClassId) (sa : Nat → Nat) (A : Nat → Prop) (ad : Nat → Nat → Nat) (τ0 : tw_T) (k0 : Nat) (Q : Int32 → tw_T → Prop) (hF : F_X10_word τ0 k0 Q) (hk0 : k0 < gN τ0 0) : Met l yX10_word wsX10_word rmX10_word (va_Pc [.ref (ad 0 k0)] (BM dC dI ac sa A ad τ0)) (va_Qi (fun r (u : tw_T) => Q r u ∧ gN u = gN τ0) (fun u t => PM dC dI ac A ad u t.heap) A) 0 0 A := by
  refine Met.ofW (cc := cX10_word) (maxL := 4) (ret := (some .int)) (by decide) rfl ?_
  intro p e s m args below meth c s₁ B hml hv
  obtain ⟨rfl, hP, hK, hA, hZ⟩ := hv
  have hx := B.exec
  have hb := B.bytes
  have hr := B.returns
  have hts := atoms_spec (ws := wsX10_word) B.pre
  have hown : s.vm.findClass RX10 = some m.cls := findClass_of_methodNamed B.named
  have hlocks := B.notSynchronized
  have hS : va_S A s.heap s.heap [] := va_S.rf
  have hN : gN τ0 = gN τ0 := rfl
  have hl := lv_entry ([.ref (ad 0 k0)]) (n := 4) (Nat.le_of_ble_eq_true rfl)
  rw [lg_entry_eq]
  generalize (lg_sl ([.ref (ad 0 k0)]) ++ List.replicate (4 - (lg_sl ([.ref (ad 0 k0)])).length) Slot.unset).toArray = ls at hl ⊢
  have hl : lv_has ls 4 [(0, .ref (ad 0 k0))] := hl
  unfold F_X10_word at hF
  have j66 : ∀ (τ : tw_T) (u1 : Int32) (u2 : Int32) (H : Heap) (locs : List Loc) (ls : Array Slot), J_X10_word_66 τ u1 u2 Q → PM dC dI ac A ad τ H → gN τ = gN τ0 → va_S A s.heap H locs → lv_has ls 4 [(1, .int u1), (2, .int u2)] → W p l e rmX10_word s m ([.ref (ad 0 k0)] : List Value).toArray below meth c H locs 0 0 (MQ below (va_Qi (fun r (u : tw_T) => Q r u ∧ gN u = gN τ0) (fun u t => PM dC dI ac A ad u t.heap) A) ([.ref (ad 0 k0)] : List Value).toArray s 0 0 A) (F0 m 66 ls []) := by
    intro τ u1 u2 H locs ls hF hP hN hS hl
    unfold J_X10_word_66 at hF
    refine lv_iload_n hx hb dX10_word_66 rfl (lv_at hl 1 rfl) ?_
    refine lv_iconst (v := 5) hx hb dX10_word_67 (by decide) ?_
    refine lv_icmp_le (tgt := 75) hx hb dX10_word_68 (by decide) (fun c1 => ?_) (fun c1 => ?_)
    · have hF := hF.1 c1
      refine lv_iload_n hx hb dX10_word_75 rfl (lv_at hl 0 rfl) ?_
      exact W.iret (v := u1) hx hb hr (fun t ht hW => ⟨⟨u1, τ, rfl, ⟨hF, hN⟩, tw_at hP ht⟩, hS.F ht⟩) hS.2.2 dX10_word_76
    · have hF := hF.2 c1
      refine lv_iconst (v := 0) hx hb dX10_word_71 (by decide) ?_
      refine lv_goto (tgt := 76) hx hb dX10_word_72 (by decide) ?_
      exact W.iret (v := (0 : Int32)) hx hb hr (fun t ht hW => ⟨⟨((0 : Int32)), τ, rfl, ⟨hF, hN⟩, tw_at hP ht⟩, hS.F ht⟩) hS.2.2 dX10_word_76
  have l14 : ∀ (p0 : Nat) (hp0 : p0 < gN τ0 0) (EX : tw_T → Int32 → Int32 → Int32 → Prop) (n : Nat) (τ : tw_T) (u1 : Int32) (u2 : Int32) (u3 : Int32) (H : Heap) (locs : List Loc) (ls : Array Slot), L_X10_word_14 p0 Q EX n τ u1 u2 u3 → PM dC dI ac A ad τ H → gN τ = gN τ0 → va_S A s.heap H locs → lv_has ls 4 [(0, .ref (ad 0 p0)), (1, .int u1), (2, .int u2), (3, .int u3)] → (∀ (τ : tw_T) (u1 : Int32) (u2 : Int32) (u3 : Int32) (H : Heap) (locs : List Loc) (ls : Array Slot), EX τ u1 u2 u3 → PM dC dI ac A ad τ H → gN τ = gN τ0 → va_S A s.heap H locs → lv_has ls 4 [(0, .ref (ad 0 p0)), (1, .int u1), (2, .int u2), (3, .int u3)] → W p l e rmX10_word s m ([.ref (ad 0 k0)] : List Value).toArray below meth c H locs 0 0 (MQ below (va_Qi (fun r (u : tw_T) => Q r u ∧ gN u = gN τ0) (fun u t => PM dC dI ac A ad u t.heap) A) ([.ref (ad 0 k0)] : List Value).toArray s 0 0 A) (F0 m 66 ls [])) → W p l e rmX10_word s m ([.ref (ad 0 k0)] : List Value).toArray below meth c H locs 0 0 (MQ below (va_Qi (fun r (u : tw_T) => Q r u ∧ gN u = gN τ0) (fun u t => PM dC dI ac A ad u t.heap) A) ([.ref (ad 0 k0)] : List Value).toArray s 0 0 A) (F0 m 14 ls []) := by
    intro p0 hp0 EX n
    induction n with
    | zero => intro τ u1 u2 u3 H locs ls hF; exact hF.elim
    | succ n ih =>
      intro τ u1 u2 u3 H locs ls hF hP hN hS hl hEX
      rw [L_X10_word_14] at hF
      have j56 : ∀ (τ : tw_T) (p0 : Nat) (hp0 : p0 < gN τ0 0) (u2 : Int32) (u3 : Int32) (y0 : Int32) (H : Heap) (locs : List Loc) (ls : Array Slot) (RC EX : tw_T → Int32 → Int32 → Int32 → Prop), J_X10_word_56 τ p0 u2 u3 y0 Q RC EX → PM dC dI ac A ad τ H → gN τ = gN τ0 → va_S A s.heap H locs → lv_has ls 4 [(0, .ref (ad 0 p0)), (2, .int u2), (3, .int u3)] → (∀ (τ : tw_T) (u1 : Int32) (u2 : Int32) (u3 : Int32) (H : Heap) (locs : List Loc) (ls : Array Slot), RC τ u1 u2 u3 → PM dC dI ac A ad τ H → gN τ = gN τ0 → va_S A s.heap H locs → lv_has ls 4 [(0, .ref (ad 0 p0)), (1, .int u1), (2, .int u2), (3, .int u3)] → W p l e rmX10_word s m ([.ref (ad 0 k0)] : List Value).toArray below meth c H locs 0 0 (MQ below (va_Qi (fun r (u : tw_T) => Q r u ∧ gN u = gN τ0) (fun u t => PM dC dI ac A ad u t.heap) A) ([.ref (ad 0 k0)] : List Value).toArray s 0 0 A) (F0 m 14 ls [])) → (∀ (τ : tw_T) (u1 : Int32) (u2 : Int32) (u3 : Int32) (H : Heap) (locs : List Loc) (ls : Array Slot), EX τ u1 u2 u3 → PM dC dI ac A ad τ H → gN τ = gN τ0 → va_S A s.heap H locs → lv_has ls 4 [(0, .ref (ad 0 p0)), (1, .int u1), (2, .int u2), (3, .int u3)] → W p l e rmX10_word s m ([.ref (ad 0 k0)] : List Value).toArray below meth c H locs 0 0 (MQ below (va_Qi (fun r (u : tw_T) => Q r u ∧ gN u = gN τ0) (fun u t => PM dC dI ac A ad u t.heap) A) ([.ref (ad 0 k0)] : List Value).toArray s 0 0 A) (F0 m 66 ls [])) → W p l e rmX10_word s m ([.ref (ad 0 k0)] : List Value).toArray below meth c H locs 0 0 (MQ below (va_Qi (fun r (u : tw_T) => Q r u ∧ gN u = gN τ0) (fun u t => PM dC dI ac A ad u t.heap) A) ([.ref (ad 0 k0)] : List Value).toArray s 0 0 A) (F0 m 56 ls [.int y0]) := by
        intro τ p0 hp0 u2 u3 y0 H locs ls RC EX hF hP hN hS hl hRC hEX
        unfold J_X10_word_56 at hF
        refine lv_istore_n (lv' := [(1, .int y0), (0, .ref (ad 0 p0)), (2, .int u2), (3, .int u3)]) hx hb dX10_word_56 rfl hl (by decide) rfl (fun ls hl => ?_)
        obtain ⟨z2, ez2⟩ : ∃ y : Int32, y = u2 + (1 : Int32) := ⟨_, rfl⟩
        have hF := hF z2 ez2
        refine lv_iinc (v := z2) (lv' := [(2, .int z2), (1, .int y0), (0, .ref (ad 0 p0)), (3, .int u3)]) hx hb dX10_word_57 hl (k := 2) rfl (by rw [ez2]; rfl) (by decide) rfl (fun ls hl => ?_)
        obtain ⟨z3, ez3⟩ : ∃ y : Int32, y = u3 + (1 : Int32) := ⟨_, rfl⟩
        have hF := hF z3 ez3
        refine lv_iinc (v := z3) (lv' := [(3, .int z3), (2, .int z2), (1, .int y0), (0, .ref (ad 0 p0))]) hx hb dX10_word_60 hl (k := 3) rfl (by rw [ez3]; rfl) (by decide) rfl (fun ls hl => ?_)
        refine lv_goto (tgt := 14) hx hb dX10_word_63 (by decide) ?_
        exact hRC τ y0 z2 z3 _ _ _ hF hP hN hS (lv_sub hl [3, 2, 1, 0] rfl)
      refine lv_iload_n hx hb dX10_word_14 rfl (lv_at hl 3 rfl) ?_
      refine lv_aload_n hx hb dX10_word_15 rfl (lv_at hl 0 rfl) ?_
      refine tw_get (v := .int (gI τ 0 p0 30)) hx hb hts (by decide +kernel) hown hK hP (by decide) (tw_lt hp0 (congrFun hN 0)) rfl rfl 30 (by decide) (hts (.fieldLink RX10 199 "WineCellarModel" "size" "I") (by decide +kernel)) (fun _ h9 => h9) rfl dX10_word_16 ?_
      refine lv_icmp_ge (tgt := 66) hx hb dX10_word_19 (by decide) (fun c4 => ?_) (fun c4 => ?_)
      · have hF := hF.1 c4
        exact hEX τ u1 u2 u3 _ _ _ hF hP hN hS (lv_sub hl [0, 1, 2, 3] rfl)
      · have hF := hF.2 c4
        refine lv_aload_n hx hb dX10_word_22 rfl (lv_at hl 0 rfl) ?_
        obtain ⟨o5, eo5, hF⟩ := hF
        have ho5 : o5 < gN τ0 133 := tw_lt (hP.2.2.2 0 p0 33 o5 (by decide) (tw_lt hp0 (congrFun hN 0)) eo5) (congrFun hN 133).symm
        refine tw_get (v := .ref (ad 133 o5)) hx hb hts (by decide +kernel) hown hK hP (by decide) (tw_lt hp0 (congrFun hN 0)) rfl rfl 33 (by decide) (hts (.fieldLink RX10 59 "WineCellarModel" "tape" "[I") (by decide +kernel)) (fun _ h9 => h9) (show some (va_rf ((gR τ 0 p0 33).map (ad 133))) = some (.ref (ad 133 o5)) by rw [eo5]; rfl) dX10_word_23 ?_
        refine lv_iload_n hx hb dX10_word_26 rfl (lv_at hl 3 rfl) ?_
        obtain ⟨hi6, hF⟩ := hF
        refine tw_iald hx hb hK hP (by decide) (tw_lt ho5 (congrFun hN 133)) rfl 0 rfl hi6 dX10_word_27 ?_
        refine va_calli (va_runS (As := [.int (gI τ 133 o5 u3.toNatClampNeg)]) (rest := []) ⟨hx, hb, hml, hown, hts⟩ (mX10_isSmall l dC dI ac sa A ad τ (gI τ 133 o5 u3.toNatClampNeg) _ hF ) (va_cwS 1 hts gX10_word_X10_isSmall rfl rfl rfl (by decide +kernel) ⟨Nat.le_of_ble_eq_true rfl, Nat.le_of_ble_eq_true rfl⟩) ⟨BM.blind, fun U hU hW => ⟨rfl, BM.of hP hK hS hA hZ hU hW⟩⟩ rfl rfl hl.1 rfl (lv_room (Nat.le_of_ble_eq_true rfl)) dX10_word_28 ⟨Nat.le_of_ble_eq_true rfl, Nat.le_of_ble_eq_true rfl⟩) hS (fun q _ h => h) (fun q h => h) (fun r8 τ7 t H locs ht hvm hw hB hz hk hS => ?_)
        obtain ⟨hF, hN9⟩ := hw
        have hP : PM dC dI ac A ad τ7 H := tw_back hB ht
        have hN : gN τ7 = gN τ0 := hN9.trans hN
        refine lv_if_eq (tgt := 66) hx hb dX10_word_31 (by decide) (fun c9 => ?_) (fun c9 => ?_)
        · have hF := hF.1 c9
          exact hEX τ7 u1 u2 u3 _ _ _ hF hP hN hS (lv_sub hl [0, 1, 2, 3] rfl)
        · have hF := hF.2 c9
          refine lv_iload_n hx hb dX10_word_34 rfl (lv_at hl 2 rfl) ?_
          refine lv_iconst (v := 5) hx hb dX10_word_35 (by decide) ?_
          refine lv_icmp_ge (tgt := 55) hx hb dX10_word_36 (by decide) (fun c10 => ?_) (fun c10 => ?_)
          · have hF := hF.1 c10
            refine lv_iconst (v := 0) hx hb dX10_word_55 (by decide) ?_
            exact j56 τ7 p0 hp0 u2 u3 ((0 : Int32)) _ _ _ _ _ hF hP hN hS (lv_sub hl [0, 2, 3] rfl) (fun t v1 v2 v3 H locs ls hF hP hN hS hl => ih t v1 v2 v3 _ _ _ hF hP hN hS hl hEX) hEX
          · have hF := hF.2 c10
            refine lv_iload_n hx hb dX10_word_39 rfl (lv_at hl 1 rfl) ?_
            refine lv_iconst (v := 5) hx hb dX10_word_40 (by decide) ?_
            refine lv_ishl hx hb dX10_word_41 ?_
            refine lv_aload_n hx hb dX10_word_42 rfl (lv_at hl 0 rfl) ?_
            obtain ⟨o11, eo11, hF⟩ := hF
            have ho11 : o11 < gN τ0 133 := tw_lt (hP.2.2.2 0 p0 33 o11 (by decide) (tw_lt hp0 (congrFun hN 0)) eo11) (congrFun hN 133).symm
            refine tw_get (v := .ref (ad 133 o11)) hx hb hts (by decide +kernel) hown hK hP (by decide) (tw_lt hp0 (congrFun hN 0)) rfl rfl 33 (by decide) (hts (.fieldLink RX10 59 "WineCellarModel" "tape" "[I") (by decide +kernel)) (fun _ h9 => h9) (show some (va_rf ((gR τ7 0 p0 33).map (ad 133))) = some (.ref (ad 133 o11)) by rw [eo11]; rfl) dX10_word_43 ?_
            refine lv_iload_n hx hb dX10_word_46 rfl (lv_at hl 3 rfl) ?_
            obtain ⟨hi12, hF⟩ := hF
            refine tw_iald hx hb hK hP (by decide) (tw_lt ho11 (congrFun hN 133)) rfl 0 rfl hi12 dX10_word_47 ?_
            refine lv_bipush (v := 96) hx hb dX10_word_48 (by decide) ?_
            refine lv_isub hx hb dX10_word_50 ?_
            refine lv_ior hx hb dX10_word_51 ?_
            refine lv_goto (tgt := 56) hx hb dX10_word_52 (by decide) ?_
            exact j56 τ7 p0 hp0 u2 u3 ((u1 <<< (((5 : Int32)) &&& 31)) ||| ((gI τ7 133 o11 u3.toNatClampNeg) - ((96 : Int32)))) _ _ _ _ _ hF hP hN hS (lv_sub hl [0, 2, 3] rfl) (fun t v1 v2 v3 H locs ls hF hP hN hS hl => ih t v1 v2 v3 _ _ _ hF hP hN hS hl hEX) hEX
  refine lv_aload_n hx hb dX10_word_0 rfl (lv_at hl 0 rfl) ?_
  refine va_calli (va_runV (As := []) (rest := []) ⟨hx, hb, hml, hown, hts⟩ (mX10_here l dC dI ac sa A ad τ0 k0 _ hF hk0) (cwV 0 hts gX10_word_X10_here rfl rfl rfl (by decide +kernel) ⟨Nat.le_of_ble_eq_true rfl, Nat.le_of_ble_eq_true rfl⟩) ⟨BM.blind, tw_recv hK hP (by decide) hk0 rfl rfl, fun U hU hW => ⟨rfl, BM.of hP hK hS hA hZ hU hW⟩⟩ rfl rfl hl.1 rfl (lv_room (Nat.le_of_ble_eq_true rfl)) dX10_word_1 ⟨Nat.le_of_ble_eq_true rfl, Nat.le_of_ble_eq_true rfl⟩) hS (fun q _ h => h) (fun q h => h) (fun r14 τ13 t H locs ht hvm hw hB hz hk hS => ?_)
  obtain ⟨hF, hN9⟩ := hw
  have hP : PM dC dI ac A ad τ13 H := tw_back hB ht
  have hN : gN τ13 = gN τ0 := hN9.trans hN
  refine lv_pop hx hb dX10_word_4 rfl ?_
  refine lv_iconst (v := 0) hx hb dX10_word_5 (by decide) ?_
  refine lv_istore_n (lv' := [(1, .int ((0 : Int32))), (0, .ref (ad 0 k0))]) hx hb dX10_word_6 rfl hl (by decide) rfl (fun ls hl => ?_)
  refine lv_iconst (v := 0) hx hb dX10_word_7 (by decide) ?_
  refine lv_istore_n (lv' := [(2, .int ((0 : Int32))), (1, .int ((0 : Int32))), (0, .ref (ad 0 k0))]) hx hb dX10_word_8 rfl hl (by decide) rfl (fun ls hl => ?_)
  refine lv_aload_n hx hb dX10_word_9 rfl (lv_at hl 2 rfl) ?_
  refine tw_get (v := .int (gI τ13 0 k0 31)) hx hb hts (by decide +kernel) hown hK hP (by decide) (tw_lt hk0 (congrFun hN 0)) rfl rfl 31 (by decide) (hts (.fieldLink RX10 196 "WineCellarModel" "at" "I") (by decide +kernel)) (fun _ h9 => h9) rfl dX10_word_10 ?_
  refine lv_topi (fun z15 ez15 => ?_)
  have hF := hF z15 ez15
  refine lv_istore_n (lv' := [(3, .int z15), (2, .int ((0 : Int32))), (1, .int ((0 : Int32))), (0, .ref (ad 0 k0))]) hx hb dX10_word_13 rfl hl (by decide) rfl (fun ls hl => ?_)
  obtain ⟨n16, hF⟩ := hF
  refine l14 k0 hk0 _ n16 τ13 ((0 : Int32)) ((0 : Int32)) z15 _ _ _ hF hP hN hS (lv_sub hl [3, 2, 1, 0] rfl) ?_
  intro τ17 z18 z19 z20 H locs ls hF hP hN hS hl
  exact j66 τ17 z18 z19 _ _ _ hF hP hN hS (lv_sub hl [1, 2] rfl)
def F_X10_testOf (τ0 : tw_T) (x0 : Int32) (Q : Int32 → tw_T → Prop) : Prop := ((¬ x0 = ((18596 : Int32)) → (((¬ x0 = ((24389253 : Int32)) → (((¬ x0 = ((20587916 : Int32)) → (((¬ x0 = ((206682 : Int32)) → (((¬ x0 = ((20681908 : Int32)) → (((¬ x0 = ((81049 : Int32)) → (((¬ x0 = ((1253 : Int32)) → (((¬ x0 = ((24627848 : Int32)) → (Q ((-1 : Int32)) τ0)) ∧ (x0 = ((24627848 : Int32)) → (Q ((7 : Int32)) τ0))))) ∧ (x0 = ((1253 : Int32)) → (Q ((6 : Int32)) τ0))))) ∧ (x0 = ((81049 : Int32)) → (Q ((5 : Int32)) τ0))))) ∧ (x0 = ((20681908 : Int32)) → (Q ((4 : Int32)) τ0))))) ∧ (x0 = ((206682 : Int32)) → (Q ((3 : Int32)) τ0))))) ∧ (x0 = ((20587916 : Int32)) → (Q ((2 : Int32)) τ0))))) ∧ (x0 = ((24389253 : Int32)) → (Q ((1 : Int32)) τ0))))) ∧ (x0 = ((18596 : Int32)) → (Q ((0 : Int32)) τ0)))
def rmX10_testOf : Room := { frames := 0, cells := 0, slots := 0, locals := 0 }
set_option maxHeartbeats 4000000 in
set_option maxRecDepth 100000 in
theorem mX10_testOf (l : Launch) (dC : Nat → ClassId) (dI : Nat → Nat → Nat) (ac : Nat → ClassId) (sa : Nat → Nat) (A : Nat → Prop) (ad : Nat → Nat → Nat) (τ0 : tw_T) (x0 : Int32) (Q : Int32 → tw_T → Prop) (hF : F_X10_testOf τ0 x0 Q)  : Met l yX10_testOf wsX10_testOf rmX10_testOf (va_Pc [.int x0] (BM dC dI ac sa A ad τ0)) (va_Qi (fun r (u : tw_T) => Q r u ∧ gN u = gN τ0) (fun u t => PM dC dI ac A ad u t.heap) A) 0 0 A := by
  refine Met.ofW (cc := cX10_testOf) (maxL := 1) (ret := (some .int)) (by decide) rfl ?_
  intro p e s m args below meth c s₁ B hml hv
  obtain ⟨rfl, hP, hK, hA, hZ⟩ := hv
  have hx := B.exec
  have hb := B.bytes
  have hr := B.returns
  have hts := atoms_spec (ws := wsX10_testOf) B.pre
  have hown : s.vm.findClass RX10 = some m.cls := findClass_of_methodNamed B.named
  have hlocks := B.notSynchronized
  have hS : va_S A s.heap s.heap [] := va_S.rf
  have hN : gN τ0 = gN τ0 := rfl
  have hl := lv_entry ([.int x0]) (n := 1) (Nat.le_of_ble_eq_true rfl)
  rw [lg_entry_eq]
  generalize (lg_sl ([.int x0]) ++ List.replicate (1 - (lg_sl ([.int x0])).length) Slot.unset).toArray = ls at hl ⊢
  have hl : lv_has ls 1 [(0, .int x0)] := hl
  unfold F_X10_testOf at hF
  refine lv_iload_n hx hb dX10_testOf_0 rfl (lv_at hl 0 rfl) ?_
  refine lv_sipush (v := 18596) hx hb dX10_testOf_1 (by decide) ?_
  refine lv_icmp_ne (tgt := 9) hx hb dX10_testOf_4 (by decide) (fun c1 => ?_) (fun c1 => ?_)
  · have hF := hF.1 c1
    refine lv_iload_n hx hb dX10_testOf_9 rfl (lv_at hl 0 rfl) ?_
    refine lv_ldc (v := 24389253) hx hb hown (hts (.constant RX10 208 24389253) (by decide +kernel)) dX10_testOf_10 ?_
    refine lv_icmp_ne (tgt := 17) hx hb dX10_testOf_12 (by decide) (fun c2 => ?_) (fun c2 => ?_)
    · have hF := hF.1 c2
      refine lv_iload_n hx hb dX10_testOf_17 rfl (lv_at hl 0 rfl) ?_
      refine lv_ldc (v := 20587916) hx hb hown (hts (.constant RX10 209 20587916) (by decide +kernel)) dX10_testOf_18 ?_
      refine lv_icmp_ne (tgt := 25) hx hb dX10_testOf_20 (by decide) (fun c3 => ?_) (fun c3 => ?_)
      · have hF := hF.1 c3
        refine lv_iload_n hx hb dX10_testOf_25 rfl (lv_at hl 0 rfl) ?_
        refine lv_ldc (v := 206682) hx hb hown (hts (.constant RX10 210 206682) (by decide +kernel)) dX10_testOf_26 ?_
        refine lv_icmp_ne (tgt := 33) hx hb dX10_testOf_28 (by decide) (fun c4 => ?_) (fun c4 => ?_)
        · have hF := hF.1 c4
          refine lv_iload_n hx hb dX10_testOf_33 rfl (lv_at hl 0 rfl) ?_
          refine lv_ldc (v := 20681908) hx hb hown (hts (.constant RX10 211 20681908) (by decide +kernel)) dX10_testOf_34 ?_
          refine lv_icmp_ne (tgt := 41) hx hb dX10_testOf_36 (by decide) (fun c5 => ?_) (fun c5 => ?_)
          · have hF := hF.1 c5
            refine lv_iload_n hx hb dX10_testOf_41 rfl (lv_at hl 0 rfl) ?_
            refine lv_ldc (v := 81049) hx hb hown (hts (.constant RX10 212 81049) (by decide +kernel)) dX10_testOf_42 ?_
            refine lv_icmp_ne (tgt := 49) hx hb dX10_testOf_44 (by decide) (fun c6 => ?_) (fun c6 => ?_)
            · have hF := hF.1 c6
              refine lv_iload_n hx hb dX10_testOf_49 rfl (lv_at hl 0 rfl) ?_
              refine lv_sipush (v := 1253) hx hb dX10_testOf_50 (by decide) ?_
              refine lv_icmp_ne (tgt := 59) hx hb dX10_testOf_53 (by decide) (fun c7 => ?_) (fun c7 => ?_)
              · have hF := hF.1 c7
                refine lv_iload_n hx hb dX10_testOf_59 rfl (lv_at hl 0 rfl) ?_
                refine lv_ldc (v := 24627848) hx hb hown (hts (.constant RX10 213 24627848) (by decide +kernel)) dX10_testOf_60 ?_
                refine lv_icmp_ne (tgt := 70) hx hb dX10_testOf_62 (by decide) (fun c8 => ?_) (fun c8 => ?_)
                · have hF := hF.1 c8
                  refine lv_iconst (v := (-1)) hx hb dX10_testOf_70 (by decide) ?_
                  exact W.iret (v := (-1 : Int32)) hx hb hr (fun t ht hW => ⟨⟨((-1 : Int32)), τ0, rfl, ⟨hF, hN⟩, tw_at hP ht⟩, hS.F ht⟩) hS.2.2 dX10_testOf_71
                · have hF := hF.2 c8
                  refine lv_bipush (v := 7) hx hb dX10_testOf_65 (by decide) ?_
                  refine lv_goto (tgt := 71) hx hb dX10_testOf_67 (by decide) ?_
                  exact W.iret (v := (7 : Int32)) hx hb hr (fun t ht hW => ⟨⟨((7 : Int32)), τ0, rfl, ⟨hF, hN⟩, tw_at hP ht⟩, hS.F ht⟩) hS.2.2 dX10_testOf_71
              · have hF := hF.2 c7
                refine lv_bipush (v := 6) hx hb dX10_testOf_56 (by decide) ?_
                exact W.iret (v := (6 : Int32)) hx hb hr (fun t ht hW => ⟨⟨((6 : Int32)), τ0, rfl, ⟨hF, hN⟩, tw_at hP ht⟩, hS.F ht⟩) hS.2.2 dX10_testOf_58
            · have hF := hF.2 c6
              refine lv_iconst (v := 5) hx hb dX10_testOf_47 (by decide) ?_
              exact W.iret (v := (5 : Int32)) hx hb hr (fun t ht hW => ⟨⟨((5 : Int32)), τ0, rfl, ⟨hF, hN⟩, tw_at hP ht⟩, hS.F ht⟩) hS.2.2 dX10_testOf_48
          · have hF := hF.2 c5
            refine lv_iconst (v := 4) hx hb dX10_testOf_39 (by decide) ?_
            exact W.iret (v := (4 : Int32)) hx hb hr (fun t ht hW => ⟨⟨((4 : Int32)), τ0, rfl, ⟨hF, hN⟩, tw_at hP ht⟩, hS.F ht⟩) hS.2.2 dX10_testOf_40
        · have hF := hF.2 c4
          refine lv_iconst (v := 3) hx hb dX10_testOf_31 (by decide) ?_
          exact W.iret (v := (3 : Int32)) hx hb hr (fun t ht hW => ⟨⟨((3 : Int32)), τ0, rfl, ⟨hF, hN⟩, tw_at hP ht⟩, hS.F ht⟩) hS.2.2 dX10_testOf_32
      · have hF := hF.2 c3
        refine lv_iconst (v := 2) hx hb dX10_testOf_23 (by decide) ?_
        exact W.iret (v := (2 : Int32)) hx hb hr (fun t ht hW => ⟨⟨((2 : Int32)), τ0, rfl, ⟨hF, hN⟩, tw_at hP ht⟩, hS.F ht⟩) hS.2.2 dX10_testOf_24
    · have hF := hF.2 c2
      refine lv_iconst (v := 1) hx hb dX10_testOf_15 (by decide) ?_
      exact W.iret (v := (1 : Int32)) hx hb hr (fun t ht hW => ⟨⟨((1 : Int32)), τ0, rfl, ⟨hF, hN⟩, tw_at hP ht⟩, hS.F ht⟩) hS.2.2 dX10_testOf_16
  · have hF := hF.2 c1
    refine lv_iconst (v := 0) hx hb dX10_testOf_7 (by decide) ?_
    exact W.iret (v := (0 : Int32)) hx hb hr (fun t ht hW => ⟨⟨((0 : Int32)), τ0, rfl, ⟨hF, hN⟩, tw_at hP ht⟩, hS.F ht⟩) hS.2.2 dX10_testOf_8
def L_X10_digits_22 (p0 : Nat) (Q : Int32 → tw_T → Prop) (EX : tw_T → Int32 → Int32 → Prop) : Nat → tw_T → Int32 → Int32 → Prop
  | 0, _, _, _ => False
  | n + 1, τ, u1, u2 => F_X10_fine τ p0 (fun (r2 : Int32) (τ1 : tw_T) => (((r2 = 0 → (EX τ1 u1 u2)) ∧ (¬ r2 = 0 → ((((gI τ1 0 p0 30) ≤ (gI τ1 0 p0 31) → (EX τ1 u1 u2)) ∧ (¬ (gI τ1 0 p0 30) ≤ (gI τ1 0 p0 31) → (∃ o5 : Nat, gR τ1 0 p0 33 = some o5 ∧ (vp_in (gI τ1 0 p0 31) 200 ∧ (F_X10_isDigit τ1 (gI τ1 133 o5 (gI τ1 0 p0 31).toNatClampNeg) (fun (r8 : Int32) (τ7 : tw_T) => (((r8 = 0 → (EX τ7 u1 u2)) ∧ (¬ r8 = 0 → (((¬ u2 = ((5 : Int32)) → (∃ o11 : Nat, gR τ7 0 p0 33 = some o11 ∧ (vp_in (gI τ7 0 p0 31) 200 ∧ (∀ z13 : Int32, z13 = ((((10 : Int32)) * u1) + (gI τ7 133 o11 (gI τ7 0 p0 31).toNatClampNeg)) - ((48 : Int32)) → (∀ z14 : Int32, z14 = u2 + (1 : Int32) → (∀ τ15 : tw_T, τ15 = sI τ7 0 p0 31 ((gI τ7 0 p0 31) + ((1 : Int32))) → (L_X10_digits_22 p0 Q EX n τ15 z13 z14))))))) ∧ (u2 = ((5 : Int32)) → (F_X10_wrong τ7 p0 (gI τ7 0 p0 31) (fun (τ16 : tw_T) => (L_X10_digits_22 p0 Q EX n τ16 u1 u2))))))))))))))))))))
def F_X10_digits (τ0 : tw_T) (k0 : Nat) (Q : Int32 → tw_T → Prop) : Prop := F_X10_here τ0 k0 (fun (r18 : Int32) (τ17 : tw_T) => (F_X10_isDigit τ17 r18 (fun (r20 : Int32) (τ19 : tw_T) => (((¬ r20 = 0 → (∃ n22 : Nat, L_X10_digits_22 k0 Q (fun (τ23 : tw_T) (z24 : Int32) (z25 : Int32) => Q z24 τ23) n22 τ19 ((0 : Int32)) ((0 : Int32)))) ∧ (r20 = 0 → (F_X10_wrong τ19 k0 (gI τ19 0 k0 31) (fun (τ26 : tw_T) => (∃ n27 : Nat, L_X10_digits_22 k0 Q (fun (τ28 : tw_T) (z29 : Int32) (z30 : Int32) => Q z29 τ28) n27 τ26 ((0 : Int32)) ((0 : Int32)))))))))))
def rmX10_digits : Room := { frames := 1, cells := 0, slots := 0, locals := 21 }
set_option maxHeartbeats 4000000 in
set_option maxRecDepth 100000 in
theorem mX10_digits (l : Launch) (dC : Nat → ClassId) (dI : Nat → Nat → Nat) (ac : Nat → ClassId) (sa : Nat → Nat) (A : Nat → Prop) (ad : Nat → Nat → Nat) (τ0 : tw_T) (k0 : Nat) (Q : Int32 → tw_T → Prop) (hF : F_X10_digits τ0 k0 Q) (hk0 : k0 < gN τ0 0) : Met l yX10_digits wsX10_digits rmX10_digits (va_Pc [.ref (ad 0 k0)] (BM dC dI ac sa A ad τ0)) (va_Qi (fun r (u : tw_T) => Q r u ∧ gN u = gN τ0) (fun u t => PM dC dI ac A ad u t.heap) A) 0 0 A := by
  refine Met.ofW (cc := cX10_digits) (maxL := 3) (ret := (some .int)) (by decide) rfl ?_
  intro p e s m args below meth c s₁ B hml hv
  obtain ⟨rfl, hP, hK, hA, hZ⟩ := hv
  have hx := B.exec
  have hb := B.bytes
  have hr := B.returns
  have hts := atoms_spec (ws := wsX10_digits) B.pre
  have hown : s.vm.findClass RX10 = some m.cls := findClass_of_methodNamed B.named
  have hlocks := B.notSynchronized
  have hS : va_S A s.heap s.heap [] := va_S.rf
  have hN : gN τ0 = gN τ0 := rfl
  have hl := lv_entry ([.ref (ad 0 k0)]) (n := 3) (Nat.le_of_ble_eq_true rfl)
  rw [lg_entry_eq]
  generalize (lg_sl ([.ref (ad 0 k0)]) ++ List.replicate (3 - (lg_sl ([.ref (ad 0 k0)])).length) Slot.unset).toArray = ls at hl ⊢
  have hl : lv_has ls 3 [(0, .ref (ad 0 k0))] := hl
  unfold F_X10_digits at hF
  have l22 : ∀ (p0 : Nat) (hp0 : p0 < gN τ0 0) (EX : tw_T → Int32 → Int32 → Prop) (n : Nat) (τ : tw_T) (u1 : Int32) (u2 : Int32) (H : Heap) (locs : List Loc) (ls : Array Slot), L_X10_digits_22 p0 Q EX n τ u1 u2 → PM dC dI ac A ad τ H → gN τ = gN τ0 → va_S A s.heap H locs → lv_has ls 3 [(0, .ref (ad 0 p0)), (1, .int u1), (2, .int u2)] → (∀ (τ : tw_T) (u1 : Int32) (u2 : Int32) (H : Heap) (locs : List Loc) (ls : Array Slot), EX τ u1 u2 → PM dC dI ac A ad τ H → gN τ = gN τ0 → va_S A s.heap H locs → lv_has ls 3 [(0, .ref (ad 0 p0)), (1, .int u1), (2, .int u2)] → W p l e rmX10_digits s m ([.ref (ad 0 k0)] : List Value).toArray below meth c H locs 0 0 (MQ below (va_Qi (fun r (u : tw_T) => Q r u ∧ gN u = gN τ0) (fun u t => PM dC dI ac A ad u t.heap) A) ([.ref (ad 0 k0)] : List Value).toArray s 0 0 A) (F0 m 105 ls [])) → W p l e rmX10_digits s m ([.ref (ad 0 k0)] : List Value).toArray below meth c H locs 0 0 (MQ below (va_Qi (fun r (u : tw_T) => Q r u ∧ gN u = gN τ0) (fun u t => PM dC dI ac A ad u t.heap) A) ([.ref (ad 0 k0)] : List Value).toArray s 0 0 A) (F0 m 22 ls []) := by
    intro p0 hp0 EX n
    induction n with
    | zero => intro τ u1 u2 H locs ls hF; exact hF.elim
    | succ n ih =>
      intro τ u1 u2 H locs ls hF hP hN hS hl hEX
      rw [L_X10_digits_22] at hF
      refine lv_aload_n hx hb dX10_digits_22 rfl (lv_at hl 0 rfl) ?_
      refine va_calli (va_runV (As := []) (rest := []) ⟨hx, hb, hml, hown, hts⟩ (mX10_fine l dC dI ac sa A ad τ p0 _ hF (tw_lt hp0 (congrFun hN 0))) (cwV 0 hts gX10_digits_X10_fine rfl rfl rfl (by decide +kernel) ⟨Nat.le_of_ble_eq_true rfl, Nat.le_of_ble_eq_true rfl⟩) ⟨BM.blind, tw_recv hK hP (by decide) (tw_lt hp0 (congrFun hN 0)) rfl rfl, fun U hU hW => ⟨rfl, BM.of hP hK hS hA hZ hU hW⟩⟩ rfl rfl hl.1 rfl (lv_room (Nat.le_of_ble_eq_true rfl)) dX10_digits_23 ⟨Nat.le_of_ble_eq_true rfl, Nat.le_of_ble_eq_true rfl⟩) hS (fun q _ h => h) (fun q h => h) (fun r2 τ1 t H locs ht hvm hw hB hz hk hS => ?_)
      obtain ⟨hF, hN9⟩ := hw
      have hP : PM dC dI ac A ad τ1 H := tw_back hB ht
      have hN : gN τ1 = gN τ0 := hN9.trans hN
      refine lv_if_eq (tgt := 105) hx hb dX10_digits_26 (by decide) (fun c3 => ?_) (fun c3 => ?_)
      · have hF := hF.1 c3
        exact hEX τ1 u1 u2 _ _ _ hF hP hN hS (lv_sub hl [0, 1, 2] rfl)
      · have hF := hF.2 c3
        refine lv_aload_n hx hb dX10_digits_29 rfl (lv_at hl 0 rfl) ?_
        refine tw_get (v := .int (gI τ1 0 p0 31)) hx hb hts (by decide +kernel) hown hK hP (by decide) (tw_lt hp0 (congrFun hN 0)) rfl rfl 31 (by decide) (hts (.fieldLink RX10 196 "WineCellarModel" "at" "I") (by decide +kernel)) (fun _ h9 => h9) rfl dX10_digits_30 ?_
        refine lv_aload_n hx hb dX10_digits_33 rfl (lv_at hl 0 rfl) ?_
        refine tw_get (v := .int (gI τ1 0 p0 30)) hx hb hts (by decide +kernel) hown hK hP (by decide) (tw_lt hp0 (congrFun hN 0)) rfl rfl 30 (by decide) (hts (.fieldLink RX10 199 "WineCellarModel" "size" "I") (by decide +kernel)) (fun _ h9 => h9) rfl dX10_digits_34 ?_
        refine lv_icmp_ge (tgt := 105) hx hb dX10_digits_37 (by decide) (fun c4 => ?_) (fun c4 => ?_)
        · have hF := hF.1 c4
          exact hEX τ1 u1 u2 _ _ _ hF hP hN hS (lv_sub hl [0, 1, 2] rfl)
        · have hF := hF.2 c4
          refine lv_aload_n hx hb dX10_digits_40 rfl (lv_at hl 0 rfl) ?_
          obtain ⟨o5, eo5, hF⟩ := hF
          have ho5 : o5 < gN τ0 133 := tw_lt (hP.2.2.2 0 p0 33 o5 (by decide) (tw_lt hp0 (congrFun hN 0)) eo5) (congrFun hN 133).symm
          refine tw_get (v := .ref (ad 133 o5)) hx hb hts (by decide +kernel) hown hK hP (by decide) (tw_lt hp0 (congrFun hN 0)) rfl rfl 33 (by decide) (hts (.fieldLink RX10 59 "WineCellarModel" "tape" "[I") (by decide +kernel)) (fun _ h9 => h9) (show some (va_rf ((gR τ1 0 p0 33).map (ad 133))) = some (.ref (ad 133 o5)) by rw [eo5]; rfl) dX10_digits_41 ?_
          refine lv_aload_n hx hb dX10_digits_44 rfl (lv_at hl 0 rfl) ?_
          refine tw_get (v := .int (gI τ1 0 p0 31)) hx hb hts (by decide +kernel) hown hK hP (by decide) (tw_lt hp0 (congrFun hN 0)) rfl rfl 31 (by decide) (hts (.fieldLink RX10 196 "WineCellarModel" "at" "I") (by decide +kernel)) (fun _ h9 => h9) rfl dX10_digits_45 ?_
          obtain ⟨hi6, hF⟩ := hF
          refine tw_iald hx hb hK hP (by decide) (tw_lt ho5 (congrFun hN 133)) rfl 0 rfl hi6 dX10_digits_48 ?_
          refine va_calli (va_runS (As := [.int (gI τ1 133 o5 (gI τ1 0 p0 31).toNatClampNeg)]) (rest := []) ⟨hx, hb, hml, hown, hts⟩ (mX10_isDigit l dC dI ac sa A ad τ1 (gI τ1 133 o5 (gI τ1 0 p0 31).toNatClampNeg) _ hF ) (va_cwS 1 hts gX10_digits_X10_isDigit rfl rfl rfl (by decide +kernel) ⟨Nat.le_of_ble_eq_true rfl, Nat.le_of_ble_eq_true rfl⟩) ⟨BM.blind, fun U hU hW => ⟨rfl, BM.of hP hK hS hA hZ hU hW⟩⟩ rfl rfl hl.1 rfl (lv_room (Nat.le_of_ble_eq_true rfl)) dX10_digits_49 ⟨Nat.le_of_ble_eq_true rfl, Nat.le_of_ble_eq_true rfl⟩) hS (fun q _ h => h) (fun q h => h) (fun r8 τ7 t H locs ht hvm hw hB hz hk hS => ?_)
          obtain ⟨hF, hN9⟩ := hw
          have hP : PM dC dI ac A ad τ7 H := tw_back hB ht
          have hN : gN τ7 = gN τ0 := hN9.trans hN
          refine lv_if_eq (tgt := 105) hx hb dX10_digits_52 (by decide) (fun c9 => ?_) (fun c9 => ?_)
          · have hF := hF.1 c9
            exact hEX τ7 u1 u2 _ _ _ hF hP hN hS (lv_sub hl [0, 1, 2] rfl)
          · have hF := hF.2 c9
            refine lv_iload_n hx hb dX10_digits_55 rfl (lv_at hl 2 rfl) ?_
            refine lv_iconst (v := 5) hx hb dX10_digits_56 (by decide) ?_
            refine lv_icmp_ne (tgt := 71) hx hb dX10_digits_57 (by decide) (fun c10 => ?_) (fun c10 => ?_)
            · have hF := hF.1 c10
              refine lv_bipush (v := 10) hx hb dX10_digits_71 (by decide) ?_
              refine lv_iload_n hx hb dX10_digits_73 rfl (lv_at hl 1 rfl) ?_
              refine lv_imul hx hb dX10_digits_74 ?_
              refine lv_aload_n hx hb dX10_digits_75 rfl (lv_at hl 0 rfl) ?_
              obtain ⟨o11, eo11, hF⟩ := hF
              have ho11 : o11 < gN τ0 133 := tw_lt (hP.2.2.2 0 p0 33 o11 (by decide) (tw_lt hp0 (congrFun hN 0)) eo11) (congrFun hN 133).symm
              refine tw_get (v := .ref (ad 133 o11)) hx hb hts (by decide +kernel) hown hK hP (by decide) (tw_lt hp0 (congrFun hN 0)) rfl rfl 33 (by decide) (hts (.fieldLink RX10 59 "WineCellarModel" "tape" "[I") (by decide +kernel)) (fun _ h9 => h9) (show some (va_rf ((gR τ7 0 p0 33).map (ad 133))) = some (.ref (ad 133 o11)) by rw [eo11]; rfl) dX10_digits_76 ?_
              refine lv_aload_n hx hb dX10_digits_79 rfl (lv_at hl 0 rfl) ?_
              refine tw_get (v := .int (gI τ7 0 p0 31)) hx hb hts (by decide +kernel) hown hK hP (by decide) (tw_lt hp0 (congrFun hN 0)) rfl rfl 31 (by decide) (hts (.fieldLink RX10 196 "WineCellarModel" "at" "I") (by decide +kernel)) (fun _ h9 => h9) rfl dX10_digits_80 ?_
              obtain ⟨hi12, hF⟩ := hF
              refine tw_iald hx hb hK hP (by decide) (tw_lt ho11 (congrFun hN 133)) rfl 0 rfl hi12 dX10_digits_83 ?_
              refine lv_iadd hx hb dX10_digits_84 ?_
              refine lv_bipush (v := 48) hx hb dX10_digits_85 (by decide) ?_
              refine lv_isub hx hb dX10_digits_87 ?_
              refine lv_topi (fun z13 ez13 => ?_)
              have hF := hF z13 ez13
              refine lv_istore_n (lv' := [(1, .int z13), (0, .ref (ad 0 p0)), (2, .int u2)]) hx hb dX10_digits_88 rfl hl (by decide) rfl (fun ls hl => ?_)
              obtain ⟨z14, ez14⟩ : ∃ y : Int32, y = u2 + (1 : Int32) := ⟨_, rfl⟩
              have hF := hF z14 ez14
              refine lv_iinc (v := z14) (lv' := [(2, .int z14), (1, .int z13), (0, .ref (ad 0 p0))]) hx hb dX10_digits_89 hl (k := 2) rfl (by rw [ez14]; rfl) (by decide) rfl (fun ls hl => ?_)
              refine lv_aload_n hx hb dX10_digits_92 rfl (lv_at hl 2 rfl) ?_
              refine lv_dup hx hb dX10_digits_93 rfl ?_
              refine tw_get (v := .int (gI τ7 0 p0 31)) hx hb hts (by decide +kernel) hown hK hP (by decide) (tw_lt hp0 (congrFun hN 0)) rfl rfl 31 (by decide) (hts (.fieldLink RX10 196 "WineCellarModel" "at" "I") (by decide +kernel)) (fun _ h9 => h9) rfl dX10_digits_94 ?_
              refine lv_iconst (v := 1) hx hb dX10_digits_97 (by decide) ?_
              refine lv_iadd hx hb dX10_digits_98 ?_
              refine tw_put (τ' := sI τ7 0 p0 31 ((gI τ7 0 p0 31) + ((1 : Int32)))) (ty := .int) hx hb hts (by decide +kernel) tyX10 tyX10_ok nmX10 hown hK hP hS (by decide) (tw_lt hp0 (congrFun hN 0)) rfl rfl 31 (by decide) (hts (.fieldLink RX10 196 "WineCellarModel" "at" "I") (by decide +kernel)) (fun _ h9 => h9) rfl (by decide +kernel) rfl rfl (Nat.le_of_ble_eq_true rfl) dX10_digits_99 (fun H1 ha ho => tw_updI hP (by decide) (tw_lt hp0 (congrFun hN 0)) ha ho) (fun H locs hP hS => ?_)
              obtain ⟨τ15, eτ15⟩ : ∃ y : tw_T, y = sI τ7 0 p0 31 ((gI τ7 0 p0 31) + ((1 : Int32))) := ⟨_, rfl⟩
              have hF := hF τ15 eτ15
              rw [← eτ15] at hP
              have hN : gN τ15 = gN τ0 := by rw [eτ15]; exact hN
              refine lv_goto (tgt := 22) hx hb dX10_digits_102 (by decide) ?_
              exact ih τ15 z13 z14 _ _ _ hF hP hN hS (lv_sub hl [2, 1, 0] rfl) hEX
            · have hF := hF.2 c10
              refine lv_aload_n hx hb dX10_digits_60 rfl (lv_at hl 0 rfl) ?_
              refine lv_aload_n hx hb dX10_digits_61 rfl (lv_at hl 0 rfl) ?_
              refine tw_get (v := .int (gI τ7 0 p0 31)) hx hb hts (by decide +kernel) hown hK hP (by decide) (tw_lt hp0 (congrFun hN 0)) rfl rfl 31 (by decide) (hts (.fieldLink RX10 196 "WineCellarModel" "at" "I") (by decide +kernel)) (fun _ h9 => h9) rfl dX10_digits_62 ?_
              refine va_callv (va_runV (As := [.int (gI τ7 0 p0 31)]) (rest := []) ⟨hx, hb, hml, hown, hts⟩ (mX10_wrong l dC dI ac sa A ad τ7 p0 (gI τ7 0 p0 31) _ hF (tw_lt hp0 (congrFun hN 0))) (cwV 1 hts gX10_digits_X10_wrong rfl rfl rfl (by decide +kernel) ⟨Nat.le_of_ble_eq_true rfl, Nat.le_of_ble_eq_true rfl⟩) ⟨BM.blind, tw_recv hK hP (by decide) (tw_lt hp0 (congrFun hN 0)) rfl rfl, fun U hU hW => ⟨rfl, BM.of hP hK hS hA hZ hU hW⟩⟩ rfl rfl hl.1 rfl (lv_room (Nat.le_of_ble_eq_true rfl)) dX10_digits_65 ⟨Nat.le_of_ble_eq_true rfl, Nat.le_of_ble_eq_true rfl⟩) hS (fun q _ h => h) (fun q h => h) (fun τ16 t H locs ht hvm hw hB hz hk hS => ?_)
              obtain ⟨hF, hN9⟩ := hw
              have hP : PM dC dI ac A ad τ16 H := tw_back hB ht
              have hN : gN τ16 = gN τ0 := hN9.trans hN
              refine lv_goto (tgt := 22) hx hb dX10_digits_68 (by decide) ?_
              exact ih τ16 u1 u2 _ _ _ hF hP hN hS (lv_sub hl [0, 1, 2] rfl) hEX
  refine lv_iconst (v := 0) hx hb dX10_digits_0 (by decide) ?_
  refine lv_istore_n (lv' := [(1, .int ((0 : Int32))), (0, .ref (ad 0 k0))]) hx hb dX10_digits_1 rfl hl (by decide) rfl (fun ls hl => ?_)
  refine lv_iconst (v := 0) hx hb dX10_digits_2 (by decide) ?_
  refine lv_istore_n (lv' := [(2, .int ((0 : Int32))), (1, .int ((0 : Int32))), (0, .ref (ad 0 k0))]) hx hb dX10_digits_3 rfl hl (by decide) rfl (fun ls hl => ?_)
  refine lv_aload_n hx hb dX10_digits_4 rfl (lv_at hl 2 rfl) ?_
  refine va_calli (va_runV (As := []) (rest := []) ⟨hx, hb, hml, hown, hts⟩ (mX10_here l dC dI ac sa A ad τ0 k0 _ hF hk0) (cwV 0 hts gX10_digits_X10_here rfl rfl rfl (by decide +kernel) ⟨Nat.le_of_ble_eq_true rfl, Nat.le_of_ble_eq_true rfl⟩) ⟨BM.blind, tw_recv hK hP (by decide) hk0 rfl rfl, fun U hU hW => ⟨rfl, BM.of hP hK hS hA hZ hU hW⟩⟩ rfl rfl hl.1 rfl (lv_room (Nat.le_of_ble_eq_true rfl)) dX10_digits_5 ⟨Nat.le_of_ble_eq_true rfl, Nat.le_of_ble_eq_true rfl⟩) hS (fun q _ h => h) (fun q h => h) (fun r18 τ17 t H locs ht hvm hw hB hz hk hS => ?_)
  obtain ⟨hF, hN9⟩ := hw
  have hP : PM dC dI ac A ad τ17 H := tw_back hB ht
  have hN : gN τ17 = gN τ0 := hN9.trans hN
  refine va_calli (va_runS (As := [.int r18]) (rest := []) ⟨hx, hb, hml, hown, hts⟩ (mX10_isDigit l dC dI ac sa A ad τ17 r18 _ hF ) (va_cwS 1 hts gX10_digits_X10_isDigit rfl rfl rfl (by decide +kernel) ⟨Nat.le_of_ble_eq_true rfl, Nat.le_of_ble_eq_true rfl⟩) ⟨BM.blind, fun U hU hW => ⟨rfl, BM.of hP hK hS hA hZ hU hW⟩⟩ rfl rfl hl.1 rfl (lv_room (Nat.le_of_ble_eq_true rfl)) dX10_digits_8 ⟨Nat.le_of_ble_eq_true rfl, Nat.le_of_ble_eq_true rfl⟩) hS (fun q _ h => h) (fun q h => h) (fun r20 τ19 t H locs ht hvm hw hB hz hk hS => ?_)
  obtain ⟨hF, hN9⟩ := hw
  have hP : PM dC dI ac A ad τ19 H := tw_back hB ht
  have hN : gN τ19 = gN τ0 := hN9.trans hN
  refine lv_if_ne (tgt := 22) hx hb dX10_digits_11 (by decide) (fun c21 => ?_) (fun c21 => ?_)
  · have hF := hF.1 c21
    obtain ⟨n22, hF⟩ := hF
    refine l22 k0 hk0 _ n22 τ19 ((0 : Int32)) ((0 : Int32)) _ _ _ hF hP hN hS (lv_sub hl [2, 1, 0] rfl) ?_
    intro τ23 z24 z25 H locs ls hF hP hN hS hl
    refine lv_iload_n hx hb dX10_digits_105 rfl (lv_at hl 1 rfl) ?_
    exact W.iret (v := z24) hx hb hr (fun t ht hW => ⟨⟨z24, τ23, rfl, ⟨hF, hN⟩, tw_at hP ht⟩, hS.F ht⟩) hS.2.2 dX10_digits_106
  · have hF := hF.2 c21
    refine lv_aload_n hx hb dX10_digits_14 rfl (lv_at hl 2 rfl) ?_
    refine lv_aload_n hx hb dX10_digits_15 rfl (lv_at hl 2 rfl) ?_
    refine tw_get (v := .int (gI τ19 0 k0 31)) hx hb hts (by decide +kernel) hown hK hP (by decide) (tw_lt hk0 (congrFun hN 0)) rfl rfl 31 (by decide) (hts (.fieldLink RX10 196 "WineCellarModel" "at" "I") (by decide +kernel)) (fun _ h9 => h9) rfl dX10_digits_16 ?_
    refine va_callv (va_runV (As := [.int (gI τ19 0 k0 31)]) (rest := []) ⟨hx, hb, hml, hown, hts⟩ (mX10_wrong l dC dI ac sa A ad τ19 k0 (gI τ19 0 k0 31) _ hF (tw_lt hk0 (congrFun hN 0))) (cwV 1 hts gX10_digits_X10_wrong rfl rfl rfl (by decide +kernel) ⟨Nat.le_of_ble_eq_true rfl, Nat.le_of_ble_eq_true rfl⟩) ⟨BM.blind, tw_recv hK hP (by decide) (tw_lt hk0 (congrFun hN 0)) rfl rfl, fun U hU hW => ⟨rfl, BM.of hP hK hS hA hZ hU hW⟩⟩ rfl rfl hl.1 rfl (lv_room (Nat.le_of_ble_eq_true rfl)) dX10_digits_19 ⟨Nat.le_of_ble_eq_true rfl, Nat.le_of_ble_eq_true rfl⟩) hS (fun q _ h => h) (fun q h => h) (fun τ26 t H locs ht hvm hw hB hz hk hS => ?_)
    obtain ⟨hF, hN9⟩ := hw
    have hP : PM dC dI ac A ad τ26 H := tw_back hB ht
    have hN : gN τ26 = gN τ0 := hN9.trans hN
    obtain ⟨n27, hF⟩ := hF
    refine l22 k0 hk0 _ n27 τ26 ((0 : Int32)) ((0 : Int32)) _ _ _ hF hP hN hS (lv_sub hl [2, 1, 0] rfl) ?_
    intro τ28 z29 z30 H locs ls hF hP hN hS hl
    refine lv_iload_n hx hb dX10_digits_105 rfl (lv_at hl 1 rfl) ?_
    exact W.iret (v := z29) hx hb hr (fun t ht hW => ⟨⟨z29, τ28, rfl, ⟨hF, hN⟩, tw_at hP ht⟩, hS.F ht⟩) hS.2.2 dX10_digits_106
