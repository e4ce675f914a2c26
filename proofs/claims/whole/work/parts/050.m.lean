def L_X10_init_273 (p0 : Nat) (Q : tw_T → Prop) (EX : tw_T → Int32 → Prop) : Nat → tw_T → Int32 → Prop
  | 0, _, _ => False
  | n + 1, τ, u1 => ((((40 : Int32)) ≤ u1 → (EX τ u1)) ∧ (¬ ((40 : Int32)) ≤ u1 → (∃ o2 : Nat, gR τ 0 p0 41 = some o2 ∧ (vp_in u1 40 ∧ (∀ τ4 : tw_T, τ4 = sI τ 141 o2 u1.toNatClampNeg ((-1 : Int32)) → (∀ z5 : Int32, z5 = u1 + (1 : Int32) → (L_X10_init_273 p0 Q EX n τ4 z5)))))))
def L_X10_init_252 (p0 : Nat) (Q : tw_T → Prop) (EX : tw_T → Int32 → Prop) : Nat → tw_T → Int32 → Prop
  | 0, _, _ => False
  | n + 1, τ, u1 => ((((30 : Int32)) ≤ u1 → (EX τ u1)) ∧ (¬ ((30 : Int32)) ≤ u1 → (∃ o7 : Nat, gR τ 0 p0 23 = some o7 ∧ (vp_in u1 30 ∧ (∀ τ9 : tw_T, τ9 = sI τ 123 o7 u1.toNatClampNeg ((-1 : Int32)) → (∀ z10 : Int32, z10 = u1 + (1 : Int32) → (L_X10_init_252 p0 Q EX n τ9 z10)))))))
def F_X10_init (τ0 : tw_T) (k0 : Nat) (Q : tw_T → Prop) : Prop := ∀ τ12 : tw_T, τ12 = nW τ0 105 1 → (∀ τ14 : tw_T, τ14 = sR τ12 0 k0 5 (some (gN τ0 105)) → (∀ τ16 : tw_T, τ16 = nW τ14 106 1 → (∀ τ18 : tw_T, τ18 = sR τ16 0 k0 6 (some (gN τ14 106)) → (∀ τ20 : tw_T, τ20 = nW τ18 107 1 → (∀ τ22 : tw_T, τ22 = sR τ20 0 k0 7 (some (gN τ18 107)) → (∀ τ24 : tw_T, τ24 = nW τ22 108 1 → (∀ τ26 : tw_T, τ26 = sR τ24 0 k0 8 (some (gN τ22 108)) → (∀ τ28 : tw_T, τ28 = nW τ26 109 1 → (∀ τ30 : tw_T, τ30 = sR τ28 0 k0 9 (some (gN τ26 109)) → (∀ τ32 : tw_T, τ32 = nW τ30 110 1 → (∀ τ34 : tw_T, τ34 = sR τ32 0 k0 10 (some (gN τ30 110)) → (∀ τ36 : tw_T, τ36 = nW τ34 111 1 → (∀ τ38 : tw_T, τ38 = sR τ36 0 k0 11 (some (gN τ34 111)) → (∀ τ40 : tw_T, τ40 = nW τ38 112 1 → (∀ τ42 : tw_T, τ42 = sR τ40 0 k0 12 (some (gN τ38 112)) → (∀ τ44 : tw_T, τ44 = nW τ42 113 1 → (∀ τ46 : tw_T, τ46 = sR τ44 0 k0 13 (some (gN τ42 113)) → (∀ τ48 : tw_T, τ48 = nW τ46 114 1 → (∀ τ50 : tw_T, τ50 = sR τ48 0 k0 14 (some (gN τ46 114)) → (∀ τ52 : tw_T, τ52 = nW τ50 123 1 → (∀ τ54 : tw_T, τ54 = sR τ52 0 k0 23 (some (gN τ50 123)) → (∀ τ56 : tw_T, τ56 = nW τ54 124 1 → (∀ τ58 : tw_T, τ58 = sR τ56 0 k0 24 (some (gN τ54 124)) → (∀ τ60 : tw_T, τ60 = nW τ58 125 1 → (∀ τ62 : tw_T, τ62 = sR τ60 0 k0 25 (some (gN τ58 125)) → (∀ τ64 : tw_T, τ64 = nW τ62 126 1 → (∀ τ66 : tw_T, τ66 = sR τ64 0 k0 26 (some (gN τ62 126)) → (∀ τ68 : tw_T, τ68 = nW τ66 127 1 → (∀ τ70 : tw_T, τ70 = sR τ68 0 k0 27 (some (gN τ66 127)) → (∀ τ72 : tw_T, τ72 = nW τ70 133 1 → (∀ τ74 : tw_T, τ74 = sR τ72 0 k0 33 (some (gN τ70 133)) → (∀ τ76 : tw_T, τ76 = nW τ74 134 1 → (∀ τ78 : tw_T, τ78 = sR τ76 0 k0 34 (some (gN τ74 134)) → (∀ τ80 : tw_T, τ80 = nW τ78 135 1 → (∀ τ82 : tw_T, τ82 = sR τ80 0 k0 35 (some (gN τ78 135)) → (∀ τ84 : tw_T, τ84 = nW τ82 136 1 → (∀ τ86 : tw_T, τ86 = sR τ84 0 k0 36 (some (gN τ82 136)) → (∀ τ88 : tw_T, τ88 = nW τ86 137 1 → (∀ τ90 : tw_T, τ90 = sR τ88 0 k0 37 (some (gN τ86 137)) → (∀ τ92 : tw_T, τ92 = nW τ90 138 1 → (∀ τ94 : tw_T, τ94 = sR τ92 0 k0 38 (some (gN τ90 138)) → (∀ τ96 : tw_T, τ96 = nW τ94 140 1 → (∀ τ98 : tw_T, τ98 = sR τ96 0 k0 40 (some (gN τ94 140)) → (∀ τ100 : tw_T, τ100 = nW τ98 141 1 → (∀ τ102 : tw_T, τ102 = sR τ100 0 k0 41 (some (gN τ98 141)) → (∀ τ104 : tw_T, τ104 = nW τ102 142 1 → (∀ τ106 : tw_T, τ106 = sR τ104 0 k0 42 (some (gN τ102 142)) → (∀ τ108 : tw_T, τ108 = nW τ106 143 1 → (∀ τ110 : tw_T, τ110 = sR τ108 0 k0 43 (some (gN τ106 143)) → (∀ τ112 : tw_T, τ112 = nW τ110 144 1 → (∀ τ114 : tw_T, τ114 = sR τ112 0 k0 44 (some (gN τ110 144)) → (∀ τ116 : tw_T, τ116 = nW τ114 145 1 → (∀ τ118 : tw_T, τ118 = sR τ116 0 k0 45 (some (gN τ114 145)) → (∀ τ120 : tw_T, τ120 = nW τ118 146 1 → (∀ τ122 : tw_T, τ122 = sR τ120 0 k0 46 (some (gN τ118 146)) → (∀ τ124 : tw_T, τ124 = nW τ122 147 1 → (∀ τ126 : tw_T, τ126 = sR τ124 0 k0 47 (some (gN τ122 147)) → (∀ τ128 : tw_T, τ128 = nW τ126 148 1 → (∀ τ130 : tw_T, τ130 = sR τ128 0 k0 48 (some (gN τ126 148)) → (∃ n131 : Nat, L_X10_init_252 k0 Q (fun (τ132 : tw_T) (z133 : Int32) => ∃ n134 : Nat, L_X10_init_273 k0 Q (fun (τ135 : tw_T) (z136 : Int32) => Q τ135) n134 τ132 ((0 : Int32))) n131 τ130 ((0 : Int32))))))))))))))))))))))))))))))))))))))))))))))))))))))))))))))
def rmX10_init : Room := { frames := 1, cells := 30, slots := 3957, locals := 12 }
set_option maxHeartbeats 4000000 in
set_option maxRecDepth 100000 in
theorem mX10_init (l : Launch) (dC : Nat → ClassId) (dI : Nat → Nat → Nat) (ac : Nat → ClassId) (sa : Nat → Nat) (A : Nat → Prop) (ad : Nat → Nat → Nat) (τ0 : tw_T) (k0 : Nat) (Q : tw_T → Prop) (hF : F_X10_init τ0 k0 Q) (hk0 : k0 < gN τ0 0) : Met l yX10_init wsX10_init rmX10_init (va_Pc [.ref (ad 0 k0)] (BM dC dI ac sa A ad τ0)) (va_Qv (fun (u : tw_T × (Nat → Nat → Nat)) => Q u.1 ∧ tw_le τ0 ad u.1 u.2) (fun (u : tw_T × (Nat → Nat → Nat)) t => PM dC dI ac A u.2 u.1 t.heap) A) 30 3957 A := by
  refine Met.ofW (cc := cX10_init) (maxL := 2) (ret := none) (by decide) rfl ?_
  intro p e s m args below meth c s₁ B hml hv
  obtain ⟨rfl, hP, hK, hA, hZ⟩ := hv
  have hx := B.exec
  have hb := B.bytes
  have hr := B.returns
  have hts := atoms_spec (ws := wsX10_init) B.pre
  have hown : s.vm.findClass RX10 = some m.cls := findClass_of_methodNamed B.named
  have hlocks := B.notSynchronized
  have hin : meth.name = "<init>" := (name_of_methodNamed B.named B.method).1
  have hS : va_S A s.heap s.heap [] := va_S.rf
  have hk00 := hk0
  have hN : tw_le τ0 ad τ0 ad := tw_le.rf
  have hl := lv_entry ([.ref (ad 0 k0)]) (n := 2) (Nat.le_of_ble_eq_true rfl)
  rw [lg_entry_eq]
  generalize (lg_sl ([.ref (ad 0 k0)]) ++ List.replicate (2 - (lg_sl ([.ref (ad 0 k0)])).length) Slot.unset).toArray = ls at hl ⊢
  have hl : lv_has ls 2 [(0, .ref (ad 0 k0))] := hl
  unfold F_X10_init at hF
  have l273 : ∀ (p0 : Nat) (EX : tw_T → Int32 → Prop) (n : Nat) (bd : Nat → Nat → Nat) (τ : tw_T) (u1 : Int32) (hp0 : p0 < gN τ 0) (H : Heap) (locs : List Loc) (ls : Array Slot), L_X10_init_273 p0 Q EX n τ u1 → PM dC dI ac A bd τ H → tw_le τ0 ad τ bd → va_S A s.heap H locs → lv_has ls 2 [(0, .ref (bd 0 p0)), (1, .int u1)] → (∀ (bd : Nat → Nat → Nat) (τ : tw_T) (u1 : Int32) (H : Heap) (locs : List Loc) (ls : Array Slot), EX τ u1 → PM dC dI ac A bd τ H → tw_le τ0 ad τ bd → va_S A s.heap H locs → lv_has ls 2 [(0, .ref (bd 0 p0)), (1, .int u1)] → W p l e rmX10_init s m ([.ref (ad 0 k0)] : List Value).toArray below meth c H locs 30 3957 (MQ below (va_Qv (fun (u : tw_T × (Nat → Nat → Nat)) => Q u.1 ∧ tw_le τ0 ad u.1 u.2) (fun (u : tw_T × (Nat → Nat → Nat)) t => PM dC dI ac A u.2 u.1 t.heap) A) ([.ref (ad 0 k0)] : List Value).toArray s 30 3957 A) (F0 m 292 ls [])) → W p l e rmX10_init s m ([.ref (ad 0 k0)] : List Value).toArray below meth c H locs 30 3957 (MQ below (va_Qv (fun (u : tw_T × (Nat → Nat → Nat)) => Q u.1 ∧ tw_le τ0 ad u.1 u.2) (fun (u : tw_T × (Nat → Nat → Nat)) t => PM dC dI ac A u.2 u.1 t.heap) A) ([.ref (ad 0 k0)] : List Value).toArray s 30 3957 A) (F0 m 273 ls []) := by
    intro p0 EX n
    induction n with
    | zero => intro bd τ u1 hp0 H locs ls hF; exact hF.elim
    | succ n ih =>
      intro bd τ u1 hp0 H locs ls hF hP hN hS hl hEX
      rw [L_X10_init_273] at hF
      refine lv_iload_n hx hb dX10_init_273 rfl (lv_at hl 1 rfl) ?_
      refine lv_bipush (v := 40) hx hb dX10_init_274 (by decide) ?_
      refine lv_icmp_ge (tgt := 292) hx hb dX10_init_276 (by decide) (fun c1 => ?_) (fun c1 => ?_)
      · have hF := hF.1 c1
        exact hEX bd τ u1 _ _ _ hF hP hN hS (lv_sub hl [0, 1] rfl)
      · have hF := hF.2 c1
        refine lv_aload_n hx hb dX10_init_279 rfl (lv_at hl 0 rfl) ?_
        obtain ⟨o2, eo2, hF⟩ := hF
        have ho2 : o2 < gN τ 141 := hP.2.2.2 0 p0 41 o2 (by decide) hp0 eo2
        refine tw_get (v := .ref (bd 141 o2)) hx hb hts (by decide +kernel) hown hK hP (by decide) hp0 rfl rfl 41 (by decide) (hts (.fieldLink RX10 80 "WineCellarModel" "rowSize" "[I") (by decide +kernel)) (fun _ h9 => h9) (show some (va_rf ((gR τ 0 p0 41).map (bd 141))) = some (.ref (bd 141 o2)) by rw [eo2]; rfl) dX10_init_280 ?_
        refine lv_iload_n hx hb dX10_init_283 rfl (lv_at hl 1 rfl) ?_
        refine lv_iconst (v := (-1)) hx hb dX10_init_284 (by decide) ?_
        obtain ⟨hi3, hF⟩ := hF
        refine tw_iast hx hb hK hP hS (by decide) ho2 rfl 0 rfl hi3 dX10_init_285 (fun H locs hP hS => ?_)
        obtain ⟨τ4, eτ4⟩ : ∃ y : tw_T, y = sI τ 141 o2 u1.toNatClampNeg ((-1 : Int32)) := ⟨_, rfl⟩
        have hF := hF τ4 eτ4
        rw [← eτ4] at hP
        have hN : tw_le τ0 ad τ4 bd := hN.same (by rw [eτ4]; rfl)
        have hp0 : p0 < gN τ4 0 := by rw [eτ4]; exact hp0
        obtain ⟨z5, ez5⟩ : ∃ y : Int32, y = u1 + (1 : Int32) := ⟨_, rfl⟩
        have hF := hF z5 ez5
        refine lv_iinc (v := z5) (lv' := [(1, .int z5), (0, .ref (bd 0 p0))]) hx hb dX10_init_286 hl (k := 1) rfl (by rw [ez5]; rfl) (by decide) rfl (fun ls hl => ?_)
        refine lv_goto (tgt := 273) hx hb dX10_init_289 (by decide) ?_
        exact ih bd τ4 z5 hp0 _ _ _ hF hP hN hS (lv_sub hl [1, 0] rfl) hEX
  have l252 : ∀ (p0 : Nat) (EX : tw_T → Int32 → Prop) (n : Nat) (bd : Nat → Nat → Nat) (τ : tw_T) (u1 : Int32) (hp0 : p0 < gN τ 0) (H : Heap) (locs : List Loc) (ls : Array Slot), L_X10_init_252 p0 Q EX n τ u1 → PM dC dI ac A bd τ H → tw_le τ0 ad τ bd → va_S A s.heap H locs → lv_has ls 2 [(0, .ref (bd 0 p0)), (1, .int u1)] → (∀ (bd : Nat → Nat → Nat) (τ : tw_T) (u1 : Int32) (H : Heap) (locs : List Loc) (ls : Array Slot), EX τ u1 → PM dC dI ac A bd τ H → tw_le τ0 ad τ bd → va_S A s.heap H locs → lv_has ls 2 [(0, .ref (bd 0 p0)), (1, .int u1)] → W p l e rmX10_init s m ([.ref (ad 0 k0)] : List Value).toArray below meth c H locs 30 3957 (MQ below (va_Qv (fun (u : tw_T × (Nat → Nat → Nat)) => Q u.1 ∧ tw_le τ0 ad u.1 u.2) (fun (u : tw_T × (Nat → Nat → Nat)) t => PM dC dI ac A u.2 u.1 t.heap) A) ([.ref (ad 0 k0)] : List Value).toArray s 30 3957 A) (F0 m 271 ls [])) → W p l e rmX10_init s m ([.ref (ad 0 k0)] : List Value).toArray below meth c H locs 30 3957 (MQ below (va_Qv (fun (u : tw_T × (Nat → Nat → Nat)) => Q u.1 ∧ tw_le τ0 ad u.1 u.2) (fun (u : tw_T × (Nat → Nat → Nat)) t => PM dC dI ac A u.2 u.1 t.heap) A) ([.ref (ad 0 k0)] : List Value).toArray s 30 3957 A) (F0 m 252 ls []) := by
    intro p0 EX n
    induction n with
    | zero => intro bd τ u1 hp0 H locs ls hF; exact hF.elim
    | succ n ih =>
      intro bd τ u1 hp0 H locs ls hF hP hN hS hl hEX
      rw [L_X10_init_252] at hF
      refine lv_iload_n hx hb dX10_init_252 rfl (lv_at hl 1 rfl) ?_
      refine lv_bipush (v := 30) hx hb dX10_init_253 (by decide) ?_
      refine lv_icmp_ge (tgt := 271) hx hb dX10_init_255 (by decide) (fun c6 => ?_) (fun c6 => ?_)
      · have hF := hF.1 c6
        exact hEX bd τ u1 _ _ _ hF hP hN hS (lv_sub hl [0, 1] rfl)
      · have hF := hF.2 c6
        refine lv_aload_n hx hb dX10_init_258 rfl (lv_at hl 0 rfl) ?_
        obtain ⟨o7, eo7, hF⟩ := hF
        have ho7 : o7 < gN τ 123 := hP.2.2.2 0 p0 23 o7 (by decide) hp0 eo7
        refine tw_get (v := .ref (bd 123 o7)) hx hb hts (by decide +kernel) hown hK hP (by decide) hp0 rfl rfl 23 (by decide) (hts (.fieldLink RX10 44 "WineCellarModel" "cellLot" "[I") (by decide +kernel)) (fun _ h9 => h9) (show some (va_rf ((gR τ 0 p0 23).map (bd 123))) = some (.ref (bd 123 o7)) by rw [eo7]; rfl) dX10_init_259 ?_
        refine lv_iload_n hx hb dX10_init_262 rfl (lv_at hl 1 rfl) ?_
        refine lv_iconst (v := (-1)) hx hb dX10_init_263 (by decide) ?_
        obtain ⟨hi8, hF⟩ := hF
        refine tw_iast hx hb hK hP hS (by decide) ho7 rfl 0 rfl hi8 dX10_init_264 (fun H locs hP hS => ?_)
        obtain ⟨τ9, eτ9⟩ : ∃ y : tw_T, y = sI τ 123 o7 u1.toNatClampNeg ((-1 : Int32)) := ⟨_, rfl⟩
        have hF := hF τ9 eτ9
        rw [← eτ9] at hP
        have hN : tw_le τ0 ad τ9 bd := hN.same (by rw [eτ9]; rfl)
        have hp0 : p0 < gN τ9 0 := by rw [eτ9]; exact hp0
        obtain ⟨z10, ez10⟩ : ∃ y : Int32, y = u1 + (1 : Int32) := ⟨_, rfl⟩
        have hF := hF z10 ez10
        refine lv_iinc (v := z10) (lv' := [(1, .int z10), (0, .ref (bd 0 p0))]) hx hb dX10_init_265 hl (k := 1) rfl (by rw [ez10]; rfl) (by decide) rfl (fun ls hl => ?_)
        refine lv_goto (tgt := 252) hx hb dX10_init_268 (by decide) ?_
        exact ih bd τ9 z10 hp0 _ _ _ hF hP hN hS (lv_sub hl [1, 0] rfl) hEX
  refine lv_aload_n hx hb dX10_init_0 rfl (lv_at hl 0 rfl) ?_
  refine W.objInit hx hb hown (hts (.methodLink RX10 7 objectInit) (by decide +kernel)) (hts (.instanceMethod objectInit) (by decide +kernel)) (hts (.code objectInit ⟨#[0xb1]⟩ 1 none) (by decide +kernel)) rfl (by rw [hml]; exact hl.1) rfl dX10_init_1 (Nat.le_of_ble_eq_true rfl) (Nat.le_of_ble_eq_true rfl) ?_
  refine W.eq (g2 := F0 m 4 ls []) rfl ?_
  refine lv_aload_n hx hb dX10_init_4 rfl (lv_at hl 0 rfl) ?_
  refine lv_bipush (v := 20) hx hb dX10_init_5 (by decide) ?_
  refine tw_newa (atype := .int) (f := 105) (t0 := 0) (n9 := 20) (kd := 0) hx hb (hts (.arrayClass .int) (by decide +kernel)) hK hP hS hA (by decide) rfl (hK.2 0 _ rfl).2 (fun cA => vp_cell_i cA 20 (fun _ => 0)) (by decide) (by decide) (by decide) (Nat.le_of_ble_eq_true rfl) (Nat.le_of_ble_eq_true rfl) dX10_init_7 (fun ad11 H hP hle hS => ?_)
  obtain ⟨τ12, eτ12⟩ : ∃ y : tw_T, y = nW τ0 105 1 := ⟨_, rfl⟩
  have hF := hF τ12 eτ12
  rw [← eτ12] at hP hle
  have hl : lv_has ls 2 [(0, .ref (ad11 0 k0))] := by rw [hle.2 0 k0 hk0]; exact hl
  refine W.eq (g2 := F0 m 9 ls [.ref (ad11 105 (gN τ0 105)), .ref (ad11 0 k0)]) (by rw [hle.2 0 k0 hk0]) ?_
  have hk0 : k0 < gN τ12 0 := Nat.lt_of_lt_of_le hk0 (hle.1 0)
  have hN : tw_le τ0 ad τ12 ad11 := hN.tr hle
  have hq13 : gN τ0 105 < gN τ12 105 := by rw [eτ12, gN_nW, if_pos rfl]; exact Nat.lt_succ_self _
  refine tw_putF (τ' := sR τ12 0 k0 5 (some (gN τ0 105))) (ty := .array .int) hx hb hts (by decide +kernel) tyX10 tyX10_ok nmX10 hown hK hP hS (by decide) hk0 rfl rfl 5 (by decide) (hts (.fieldLink RX10 13 "WineCellarModel" "sort" "[I") (by decide +kernel)) (fun _ h9 => h9) rfl hin rfl (by decide +kernel) rfl rfl (Nat.le_of_ble_eq_true rfl) dX10_init_9 (fun H1 ha ho => tw_updR hP (by decide) hk0 (fun r9 h9 => by cases h9; exact hq13) ha ho) (fun H locs hP hS => ?_)
  obtain ⟨τ14, eτ14⟩ : ∃ y : tw_T, y = sR τ12 0 k0 5 (some (gN τ0 105)) := ⟨_, rfl⟩
  have hF := hF τ14 eτ14
  rw [← eτ14] at hP
  have hN : tw_le τ0 ad τ14 ad11 := hN.same (by rw [eτ14]; rfl)
  have hk0 : k0 < gN τ14 0 := by rw [eτ14]; exact hk0
  refine lv_aload_n hx hb dX10_init_12 rfl (lv_at hl 0 rfl) ?_
  refine lv_bipush (v := 20) hx hb dX10_init_13 (by decide) ?_
  refine tw_newa (atype := .int) (f := 106) (t0 := 0) (n9 := 20) (kd := 0) hx hb (hts (.arrayClass .int) (by decide +kernel)) hK hP hS hA (by decide) rfl (hK.2 0 _ rfl).2 (fun cA => vp_cell_i cA 20 (fun _ => 0)) (by decide) (by decide) (by decide) (Nat.le_of_ble_eq_true rfl) (Nat.le_of_ble_eq_true rfl) dX10_init_15 (fun ad15 H hP hle hS => ?_)
  obtain ⟨τ16, eτ16⟩ : ∃ y : tw_T, y = nW τ14 106 1 := ⟨_, rfl⟩
  have hF := hF τ16 eτ16
  rw [← eτ16] at hP hle
  have hl : lv_has ls 2 [(0, .ref (ad15 0 k0))] := by rw [hle.2 0 k0 hk0]; exact hl
  refine W.eq (g2 := F0 m 17 ls [.ref (ad15 106 (gN τ14 106)), .ref (ad15 0 k0)]) (by rw [hle.2 0 k0 hk0]) ?_
  have hk0 : k0 < gN τ16 0 := Nat.lt_of_lt_of_le hk0 (hle.1 0)
  have hN : tw_le τ0 ad τ16 ad15 := hN.tr hle
  have hq17 : gN τ14 106 < gN τ16 106 := by rw [eτ16, gN_nW, if_pos rfl]; exact Nat.lt_succ_self _
  refine tw_putF (τ' := sR τ16 0 k0 6 (some (gN τ14 106))) (ty := .array .int) hx hb hts (by decide +kernel) tyX10 tyX10_ok nmX10 hown hK hP hS (by decide) hk0 rfl rfl 6 (by decide) (hts (.fieldLink RX10 17 "WineCellarModel" "body" "[I") (by decide +kernel)) (fun _ h9 => h9) rfl hin rfl (by decide +kernel) rfl rfl (Nat.le_of_ble_eq_true rfl) dX10_init_17 (fun H1 ha ho => tw_updR hP (by decide) hk0 (fun r9 h9 => by cases h9; exact hq17) ha ho) (fun H locs hP hS => ?_)
  obtain ⟨τ18, eτ18⟩ : ∃ y : tw_T, y = sR τ16 0 k0 6 (some (gN τ14 106)) := ⟨_, rfl⟩
  have hF := hF τ18 eτ18
  rw [← eτ18] at hP
  have hN : tw_le τ0 ad τ18 ad15 := hN.same (by rw [eτ18]; rfl)
  have hk0 : k0 < gN τ18 0 := by rw [eτ18]; exact hk0
  refine lv_aload_n hx hb dX10_init_20 rfl (lv_at hl 0 rfl) ?_
  refine lv_bipush (v := 20) hx hb dX10_init_21 (by decide) ?_
  refine tw_newa (atype := .int) (f := 107) (t0 := 0) (n9 := 20) (kd := 0) hx hb (hts (.arrayClass .int) (by decide +kernel)) hK hP hS hA (by decide) rfl (hK.2 0 _ rfl).2 (fun cA => vp_cell_i cA 20 (fun _ => 0)) (by decide) (by decide) (by decide) (Nat.le_of_ble_eq_true rfl) (Nat.le_of_ble_eq_true rfl) dX10_init_23 (fun ad19 H hP hle hS => ?_)
  obtain ⟨τ20, eτ20⟩ : ∃ y : tw_T, y = nW τ18 107 1 := ⟨_, rfl⟩
  have hF := hF τ20 eτ20
  rw [← eτ20] at hP hle
  have hl : lv_has ls 2 [(0, .ref (ad19 0 k0))] := by rw [hle.2 0 k0 hk0]; exact hl
  refine W.eq (g2 := F0 m 25 ls [.ref (ad19 107 (gN τ18 107)), .ref (ad19 0 k0)]) (by rw [hle.2 0 k0 hk0]) ?_
  have hk0 : k0 < gN τ20 0 := Nat.lt_of_lt_of_le hk0 (hle.1 0)
  have hN : tw_le τ0 ad τ20 ad19 := hN.tr hle
  have hq21 : gN τ18 107 < gN τ20 107 := by rw [eτ20, gN_nW, if_pos rfl]; exact Nat.lt_succ_self _
  refine tw_putF (τ' := sR τ20 0 k0 7 (some (gN τ18 107))) (ty := .array .int) hx hb hts (by decide +kernel) tyX10 tyX10_ok nmX10 hown hK hP hS (by decide) hk0 rfl rfl 7 (by decide) (hts (.fieldLink RX10 20 "WineCellarModel" "red" "[I") (by decide +kernel)) (fun _ h9 => h9) rfl hin rfl (by decide +kernel) rfl rfl (Nat.le_of_ble_eq_true rfl) dX10_init_25 (fun H1 ha ho => tw_updR hP (by decide) hk0 (fun r9 h9 => by cases h9; exact hq21) ha ho) (fun H locs hP hS => ?_)
  obtain ⟨τ22, eτ22⟩ : ∃ y : tw_T, y = sR τ20 0 k0 7 (some (gN τ18 107)) := ⟨_, rfl⟩
  have hF := hF τ22 eτ22
  rw [← eτ22] at hP
  have hN : tw_le τ0 ad τ22 ad19 := hN.same (by rw [eτ22]; rfl)
  have hk0 : k0 < gN τ22 0 := by rw [eτ22]; exact hk0
  refine lv_aload_n hx hb dX10_init_28 rfl (lv_at hl 0 rfl) ?_
  refine lv_bipush (v := 20) hx hb dX10_init_29 (by decide) ?_
  refine tw_newa (atype := .int) (f := 108) (t0 := 0) (n9 := 20) (kd := 0) hx hb (hts (.arrayClass .int) (by decide +kernel)) hK hP hS hA (by decide) rfl (hK.2 0 _ rfl).2 (fun cA => vp_cell_i cA 20 (fun _ => 0)) (by decide) (by decide) (by decide) (Nat.le_of_ble_eq_true rfl) (Nat.le_of_ble_eq_true rfl) dX10_init_31 (fun ad23 H hP hle hS => ?_)
  obtain ⟨τ24, eτ24⟩ : ∃ y : tw_T, y = nW τ22 108 1 := ⟨_, rfl⟩
  have hF := hF τ24 eτ24
  rw [← eτ24] at hP hle
  have hl : lv_has ls 2 [(0, .ref (ad23 0 k0))] := by rw [hle.2 0 k0 hk0]; exact hl
  refine W.eq (g2 := F0 m 33 ls [.ref (ad23 108 (gN τ22 108)), .ref (ad23 0 k0)]) (by rw [hle.2 0 k0 hk0]) ?_
  have hk0 : k0 < gN τ24 0 := Nat.lt_of_lt_of_le hk0 (hle.1 0)
  have hN : tw_le τ0 ad τ24 ad23 := hN.tr hle
  have hq25 : gN τ22 108 < gN τ24 108 := by rw [eτ24, gN_nW, if_pos rfl]; exact Nat.lt_succ_self _
  refine tw_putF (τ' := sR τ24 0 k0 8 (some (gN τ22 108))) (ty := .array .int) hx hb hts (by decide +kernel) tyX10 tyX10_ok nmX10 hown hK hP hS (by decide) hk0 rfl rfl 8 (by decide) (hts (.fieldLink RX10 23 "WineCellarModel" "young" "[I") (by decide +kernel)) (fun _ h9 => h9) rfl hin rfl (by decide +kernel) rfl rfl (Nat.le_of_ble_eq_true rfl) dX10_init_33 (fun H1 ha ho => tw_updR hP (by decide) hk0 (fun r9 h9 => by cases h9; exact hq25) ha ho) (fun H locs hP hS => ?_)
  obtain ⟨τ26, eτ26⟩ : ∃ y : tw_T, y = sR τ24 0 k0 8 (some (gN τ22 108)) := ⟨_, rfl⟩
  have hF := hF τ26 eτ26
  rw [← eτ26] at hP
  have hN : tw_le τ0 ad τ26 ad23 := hN.same (by rw [eτ26]; rfl)
  have hk0 : k0 < gN τ26 0 := by rw [eτ26]; exact hk0
  refine lv_aload_n hx hb dX10_init_36 rfl (lv_at hl 0 rfl) ?_
  refine lv_bipush (v := 20) hx hb dX10_init_37 (by decide) ?_
  refine tw_newa (atype := .int) (f := 109) (t0 := 0) (n9 := 20) (kd := 0) hx hb (hts (.arrayClass .int) (by decide +kernel)) hK hP hS hA (by decide) rfl (hK.2 0 _ rfl).2 (fun cA => vp_cell_i cA 20 (fun _ => 0)) (by decide) (by decide) (by decide) (Nat.le_of_ble_eq_true rfl) (Nat.le_of_ble_eq_true rfl) dX10_init_39 (fun ad27 H hP hle hS => ?_)
  obtain ⟨τ28, eτ28⟩ : ∃ y : tw_T, y = nW τ26 109 1 := ⟨_, rfl⟩
  have hF := hF τ28 eτ28
  rw [← eτ28] at hP hle
  have hl : lv_has ls 2 [(0, .ref (ad27 0 k0))] := by rw [hle.2 0 k0 hk0]; exact hl
  refine W.eq (g2 := F0 m 41 ls [.ref (ad27 109 (gN τ26 109)), .ref (ad27 0 k0)]) (by rw [hle.2 0 k0 hk0]) ?_
  have hk0 : k0 < gN τ28 0 := Nat.lt_of_lt_of_le hk0 (hle.1 0)
  have hN : tw_le τ0 ad τ28 ad27 := hN.tr hle
  have hq29 : gN τ26 109 < gN τ28 109 := by rw [eτ28, gN_nW, if_pos rfl]; exact Nat.lt_succ_self _
  refine tw_putF (τ' := sR τ28 0 k0 9 (some (gN τ26 109))) (ty := .array .int) hx hb hts (by decide +kernel) tyX10 tyX10_ok nmX10 hown hK hP hS (by decide) hk0 rfl rfl 9 (by decide) (hts (.fieldLink RX10 26 "WineCellarModel" "old" "[I") (by decide +kernel)) (fun _ h9 => h9) rfl hin rfl (by decide +kernel) rfl rfl (Nat.le_of_ble_eq_true rfl) dX10_init_41 (fun H1 ha ho => tw_updR hP (by decide) hk0 (fun r9 h9 => by cases h9; exact hq29) ha ho) (fun H locs hP hS => ?_)
  obtain ⟨τ30, eτ30⟩ : ∃ y : tw_T, y = sR τ28 0 k0 9 (some (gN τ26 109)) := ⟨_, rfl⟩
  have hF := hF τ30 eτ30
  rw [← eτ30] at hP
  have hN : tw_le τ0 ad τ30 ad27 := hN.same (by rw [eτ30]; rfl)
  have hk0 : k0 < gN τ30 0 := by rw [eτ30]; exact hk0
  refine lv_aload_n hx hb dX10_init_44 rfl (lv_at hl 0 rfl) ?_
  refine lv_bipush (v := 60) hx hb dX10_init_45 (by decide) ?_
  refine tw_newa (atype := .int) (f := 110) (t0 := 0) (n9 := 60) (kd := 0) hx hb (hts (.arrayClass .int) (by decide +kernel)) hK hP hS hA (by decide) rfl (hK.2 0 _ rfl).2 (fun cA => vp_cell_i cA 60 (fun _ => 0)) (by decide) (by decide) (by decide) (Nat.le_of_ble_eq_true rfl) (Nat.le_of_ble_eq_true rfl) dX10_init_47 (fun ad31 H hP hle hS => ?_)
  obtain ⟨τ32, eτ32⟩ : ∃ y : tw_T, y = nW τ30 110 1 := ⟨_, rfl⟩
  have hF := hF τ32 eτ32
  rw [← eτ32] at hP hle
  have hl : lv_has ls 2 [(0, .ref (ad31 0 k0))] := by rw [hle.2 0 k0 hk0]; exact hl
  refine W.eq (g2 := F0 m 49 ls [.ref (ad31 110 (gN τ30 110)), .ref (ad31 0 k0)]) (by rw [hle.2 0 k0 hk0]) ?_
  have hk0 : k0 < gN τ32 0 := Nat.lt_of_lt_of_le hk0 (hle.1 0)
  have hN : tw_le τ0 ad τ32 ad31 := hN.tr hle
  have hq33 : gN τ30 110 < gN τ32 110 := by rw [eτ32, gN_nW, if_pos rfl]; exact Nat.lt_succ_self _
  refine tw_putF (τ' := sR τ32 0 k0 10 (some (gN τ30 110))) (ty := .array .int) hx hb hts (by decide +kernel) tyX10 tyX10_ok nmX10 hown hK hP hS (by decide) hk0 rfl rfl 10 (by decide) (hts (.fieldLink RX10 29 "WineCellarModel" "kindOf" "[I") (by decide +kernel)) (fun _ h9 => h9) rfl hin rfl (by decide +kernel) rfl rfl (Nat.le_of_ble_eq_true rfl) dX10_init_49 (fun H1 ha ho => tw_updR hP (by decide) hk0 (fun r9 h9 => by cases h9; exact hq33) ha ho) (fun H locs hP hS => ?_)
  obtain ⟨τ34, eτ34⟩ : ∃ y : tw_T, y = sR τ32 0 k0 10 (some (gN τ30 110)) := ⟨_, rfl⟩
  have hF := hF τ34 eτ34
  rw [← eτ34] at hP
  have hN : tw_le τ0 ad τ34 ad31 := hN.same (by rw [eτ34]; rfl)
  have hk0 : k0 < gN τ34 0 := by rw [eτ34]; exact hk0
  refine lv_aload_n hx hb dX10_init_52 rfl (lv_at hl 0 rfl) ?_
  refine lv_bipush (v := 60) hx hb dX10_init_53 (by decide) ?_
  refine tw_newa (atype := .int) (f := 111) (t0 := 0) (n9 := 60) (kd := 0) hx hb (hts (.arrayClass .int) (by decide +kernel)) hK hP hS hA (by decide) rfl (hK.2 0 _ rfl).2 (fun cA => vp_cell_i cA 60 (fun _ => 0)) (by decide) (by decide) (by decide) (Nat.le_of_ble_eq_true rfl) (Nat.le_of_ble_eq_true rfl) dX10_init_55 (fun ad35 H hP hle hS => ?_)
  obtain ⟨τ36, eτ36⟩ : ∃ y : tw_T, y = nW τ34 111 1 := ⟨_, rfl⟩
  have hF := hF τ36 eτ36
  rw [← eτ36] at hP hle
  have hl : lv_has ls 2 [(0, .ref (ad35 0 k0))] := by rw [hle.2 0 k0 hk0]; exact hl
  refine W.eq (g2 := F0 m 57 ls [.ref (ad35 111 (gN τ34 111)), .ref (ad35 0 k0)]) (by rw [hle.2 0 k0 hk0]) ?_
  have hk0 : k0 < gN τ36 0 := Nat.lt_of_lt_of_le hk0 (hle.1 0)
  have hN : tw_le τ0 ad τ36 ad35 := hN.tr hle
  have hq37 : gN τ34 111 < gN τ36 111 := by rw [eτ36, gN_nW, if_pos rfl]; exact Nat.lt_succ_self _
  refine tw_putF (τ' := sR τ36 0 k0 11 (some (gN τ34 111))) (ty := .array .int) hx hb hts (by decide +kernel) tyX10 tyX10_ok nmX10 hown hK hP hS (by decide) hk0 rfl rfl 11 (by decide) (hts (.fieldLink RX10 32 "WineCellarModel" "vintage" "[I") (by decide +kernel)) (fun _ h9 => h9) rfl hin rfl (by decide +kernel) rfl rfl (Nat.le_of_ble_eq_true rfl) dX10_init_57 (fun H1 ha ho => tw_updR hP (by decide) hk0 (fun r9 h9 => by cases h9; exact hq37) ha ho) (fun H locs hP hS => ?_)
  obtain ⟨τ38, eτ38⟩ : ∃ y : tw_T, y = sR τ36 0 k0 11 (some (gN τ34 111)) := ⟨_, rfl⟩
  have hF := hF τ38 eτ38
  rw [← eτ38] at hP
  have hN : tw_le τ0 ad τ38 ad35 := hN.same (by rw [eτ38]; rfl)
  have hk0 : k0 < gN τ38 0 := by rw [eτ38]; exact hk0
  refine lv_aload_n hx hb dX10_init_60 rfl (lv_at hl 0 rfl) ?_
  refine lv_bipush (v := 60) hx hb dX10_init_61 (by decide) ?_
  refine tw_newa (atype := .int) (f := 112) (t0 := 0) (n9 := 60) (kd := 0) hx hb (hts (.arrayClass .int) (by decide +kernel)) hK hP hS hA (by decide) rfl (hK.2 0 _ rfl).2 (fun cA => vp_cell_i cA 60 (fun _ => 0)) (by decide) (by decide) (by decide) (Nat.le_of_ble_eq_true rfl) (Nat.le_of_ble_eq_true rfl) dX10_init_63 (fun ad39 H hP hle hS => ?_)
  obtain ⟨τ40, eτ40⟩ : ∃ y : tw_T, y = nW τ38 112 1 := ⟨_, rfl⟩
  have hF := hF τ40 eτ40
  rw [← eτ40] at hP hle
  have hl : lv_has ls 2 [(0, .ref (ad39 0 k0))] := by rw [hle.2 0 k0 hk0]; exact hl
  refine W.eq (g2 := F0 m 65 ls [.ref (ad39 112 (gN τ38 112)), .ref (ad39 0 k0)]) (by rw [hle.2 0 k0 hk0]) ?_
  have hk0 : k0 < gN τ40 0 := Nat.lt_of_lt_of_le hk0 (hle.1 0)
  have hN : tw_le τ0 ad τ40 ad39 := hN.tr hle
  have hq41 : gN τ38 112 < gN τ40 112 := by rw [eτ40, gN_nW, if_pos rfl]; exact Nat.lt_succ_self _
  refine tw_putF (τ' := sR τ40 0 k0 12 (some (gN τ38 112))) (ty := .array .int) hx hb hts (by decide +kernel) tyX10 tyX10_ok nmX10 hown hK hP hS (by decide) hk0 rfl rfl 12 (by decide) (hts (.fieldLink RX10 35 "WineCellarModel" "price" "[I") (by decide +kernel)) (fun _ h9 => h9) rfl hin rfl (by decide +kernel) rfl rfl (Nat.le_of_ble_eq_true rfl) dX10_init_65 (fun H1 ha ho => tw_updR hP (by decide) hk0 (fun r9 h9 => by cases h9; exact hq41) ha ho) (fun H locs hP hS => ?_)
  obtain ⟨τ42, eτ42⟩ : ∃ y : tw_T, y = sR τ40 0 k0 12 (some (gN τ38 112)) := ⟨_, rfl⟩
  have hF := hF τ42 eτ42
  rw [← eτ42] at hP
  have hN : tw_le τ0 ad τ42 ad39 := hN.same (by rw [eτ42]; rfl)
  have hk0 : k0 < gN τ42 0 := by rw [eτ42]; exact hk0
  refine lv_aload_n hx hb dX10_init_68 rfl (lv_at hl 0 rfl) ?_
  refine lv_bipush (v := 60) hx hb dX10_init_69 (by decide) ?_
  refine tw_newa (atype := .int) (f := 113) (t0 := 0) (n9 := 60) (kd := 0) hx hb (hts (.arrayClass .int) (by decide +kernel)) hK hP hS hA (by decide) rfl (hK.2 0 _ rfl).2 (fun cA => vp_cell_i cA 60 (fun _ => 0)) (by decide) (by decide) (by decide) (Nat.le_of_ble_eq_true rfl) (Nat.le_of_ble_eq_true rfl) dX10_init_71 (fun ad43 H hP hle hS => ?_)
  obtain ⟨τ44, eτ44⟩ : ∃ y : tw_T, y = nW τ42 113 1 := ⟨_, rfl⟩
  have hF := hF τ44 eτ44
  rw [← eτ44] at hP hle
  have hl : lv_has ls 2 [(0, .ref (ad43 0 k0))] := by rw [hle.2 0 k0 hk0]; exact hl
  refine W.eq (g2 := F0 m 73 ls [.ref (ad43 113 (gN τ42 113)), .ref (ad43 0 k0)]) (by rw [hle.2 0 k0 hk0]) ?_
  have hk0 : k0 < gN τ44 0 := Nat.lt_of_lt_of_le hk0 (hle.1 0)
  have hN : tw_le τ0 ad τ44 ad43 := hN.tr hle
  have hq45 : gN τ42 113 < gN τ44 113 := by rw [eτ44, gN_nW, if_pos rfl]; exact Nat.lt_succ_self _
  refine tw_putF (τ' := sR τ44 0 k0 13 (some (gN τ42 113))) (ty := .array .int) hx hb hts (by decide +kernel) tyX10 tyX10_ok nmX10 hown hK hP hS (by decide) hk0 rfl rfl 13 (by decide) (hts (.fieldLink RX10 38 "WineCellarModel" "from" "[I") (by decide +kernel)) (fun _ h9 => h9) rfl hin rfl (by decide +kernel) rfl rfl (Nat.le_of_ble_eq_true rfl) dX10_init_73 (fun H1 ha ho => tw_updR hP (by decide) hk0 (fun r9 h9 => by cases h9; exact hq45) ha ho) (fun H locs hP hS => ?_)
  obtain ⟨τ46, eτ46⟩ : ∃ y : tw_T, y = sR τ44 0 k0 13 (some (gN τ42 113)) := ⟨_, rfl⟩
  have hF := hF τ46 eτ46
  rw [← eτ46] at hP
  have hN : tw_le τ0 ad τ46 ad43 := hN.same (by rw [eτ46]; rfl)
  have hk0 : k0 < gN τ46 0 := by rw [eτ46]; exact hk0
  refine lv_aload_n hx hb dX10_init_76 rfl (lv_at hl 0 rfl) ?_
  refine lv_bipush (v := 60) hx hb dX10_init_77 (by decide) ?_
  refine tw_newa (atype := .int) (f := 114) (t0 := 0) (n9 := 60) (kd := 0) hx hb (hts (.arrayClass .int) (by decide +kernel)) hK hP hS hA (by decide) rfl (hK.2 0 _ rfl).2 (fun cA => vp_cell_i cA 60 (fun _ => 0)) (by decide) (by decide) (by decide) (Nat.le_of_ble_eq_true rfl) (Nat.le_of_ble_eq_true rfl) dX10_init_79 (fun ad47 H hP hle hS => ?_)
  obtain ⟨τ48, eτ48⟩ : ∃ y : tw_T, y = nW τ46 114 1 := ⟨_, rfl⟩
  have hF := hF τ48 eτ48
  rw [← eτ48] at hP hle
  have hl : lv_has ls 2 [(0, .ref (ad47 0 k0))] := by rw [hle.2 0 k0 hk0]; exact hl
  refine W.eq (g2 := F0 m 81 ls [.ref (ad47 114 (gN τ46 114)), .ref (ad47 0 k0)]) (by rw [hle.2 0 k0 hk0]) ?_
  have hk0 : k0 < gN τ48 0 := Nat.lt_of_lt_of_le hk0 (hle.1 0)
  have hN : tw_le τ0 ad τ48 ad47 := hN.tr hle
  have hq49 : gN τ46 114 < gN τ48 114 := by rw [eτ48, gN_nW, if_pos rfl]; exact Nat.lt_succ_self _
  refine tw_putF (τ' := sR τ48 0 k0 14 (some (gN τ46 114))) (ty := .array .int) hx hb hts (by decide +kernel) tyX10 tyX10_ok nmX10 hown hK hP hS (by decide) hk0 rfl rfl 14 (by decide) (hts (.fieldLink RX10 41 "WineCellarModel" "until" "[I") (by decide +kernel)) (fun _ h9 => h9) rfl hin rfl (by decide +kernel) rfl rfl (Nat.le_of_ble_eq_true rfl) dX10_init_81 (fun H1 ha ho => tw_updR hP (by decide) hk0 (fun r9 h9 => by cases h9; exact hq49) ha ho) (fun H locs hP hS => ?_)
  obtain ⟨τ50, eτ50⟩ : ∃ y : tw_T, y = sR τ48 0 k0 14 (some (gN τ46 114)) := ⟨_, rfl⟩
  have hF := hF τ50 eτ50
  rw [← eτ50] at hP
  have hN : tw_le τ0 ad τ50 ad47 := hN.same (by rw [eτ50]; rfl)
  have hk0 : k0 < gN τ50 0 := by rw [eτ50]; exact hk0
  refine lv_aload_n hx hb dX10_init_84 rfl (lv_at hl 0 rfl) ?_
  refine lv_bipush (v := 30) hx hb dX10_init_85 (by decide) ?_
  refine tw_newa (atype := .int) (f := 123) (t0 := 0) (n9 := 30) (kd := 0) hx hb (hts (.arrayClass .int) (by decide +kernel)) hK hP hS hA (by decide) rfl (hK.2 0 _ rfl).2 (fun cA => vp_cell_i cA 30 (fun _ => 0)) (by decide) (by decide) (by decide) (Nat.le_of_ble_eq_true rfl) (Nat.le_of_ble_eq_true rfl) dX10_init_87 (fun ad51 H hP hle hS => ?_)
  obtain ⟨τ52, eτ52⟩ : ∃ y : tw_T, y = nW τ50 123 1 := ⟨_, rfl⟩
  have hF := hF τ52 eτ52
  rw [← eτ52] at hP hle
  have hl : lv_has ls 2 [(0, .ref (ad51 0 k0))] := by rw [hle.2 0 k0 hk0]; exact hl
  refine W.eq (g2 := F0 m 89 ls [.ref (ad51 123 (gN τ50 123)), .ref (ad51 0 k0)]) (by rw [hle.2 0 k0 hk0]) ?_
  have hk0 : k0 < gN τ52 0 := Nat.lt_of_lt_of_le hk0 (hle.1 0)
  have hN : tw_le τ0 ad τ52 ad51 := hN.tr hle
  have hq53 : gN τ50 123 < gN τ52 123 := by rw [eτ52, gN_nW, if_pos rfl]; exact Nat.lt_succ_self _
  refine tw_putF (τ' := sR τ52 0 k0 23 (some (gN τ50 123))) (ty := .array .int) hx hb hts (by decide +kernel) tyX10 tyX10_ok nmX10 hown hK hP hS (by decide) hk0 rfl rfl 23 (by decide) (hts (.fieldLink RX10 44 "WineCellarModel" "cellLot" "[I") (by decide +kernel)) (fun _ h9 => h9) rfl hin rfl (by decide +kernel) rfl rfl (Nat.le_of_ble_eq_true rfl) dX10_init_89 (fun H1 ha ho => tw_updR hP (by decide) hk0 (fun r9 h9 => by cases h9; exact hq53) ha ho) (fun H locs hP hS => ?_)
  obtain ⟨τ54, eτ54⟩ : ∃ y : tw_T, y = sR τ52 0 k0 23 (some (gN τ50 123)) := ⟨_, rfl⟩
  have hF := hF τ54 eτ54
  rw [← eτ54] at hP
  have hN : tw_le τ0 ad τ54 ad51 := hN.same (by rw [eτ54]; rfl)
  have hk0 : k0 < gN τ54 0 := by rw [eτ54]; exact hk0
  refine lv_aload_n hx hb dX10_init_92 rfl (lv_at hl 0 rfl) ?_
  refine lv_bipush (v := 30) hx hb dX10_init_93 (by decide) ?_
  refine tw_newa (atype := .int) (f := 124) (t0 := 0) (n9 := 30) (kd := 0) hx hb (hts (.arrayClass .int) (by decide +kernel)) hK hP hS hA (by decide) rfl (hK.2 0 _ rfl).2 (fun cA => vp_cell_i cA 30 (fun _ => 0)) (by decide) (by decide) (by decide) (Nat.le_of_ble_eq_true rfl) (Nat.le_of_ble_eq_true rfl) dX10_init_95 (fun ad55 H hP hle hS => ?_)
  obtain ⟨τ56, eτ56⟩ : ∃ y : tw_T, y = nW τ54 124 1 := ⟨_, rfl⟩
  have hF := hF τ56 eτ56
  rw [← eτ56] at hP hle
  have hl : lv_has ls 2 [(0, .ref (ad55 0 k0))] := by rw [hle.2 0 k0 hk0]; exact hl
  refine W.eq (g2 := F0 m 97 ls [.ref (ad55 124 (gN τ54 124)), .ref (ad55 0 k0)]) (by rw [hle.2 0 k0 hk0]) ?_
  have hk0 : k0 < gN τ56 0 := Nat.lt_of_lt_of_le hk0 (hle.1 0)
  have hN : tw_le τ0 ad τ56 ad55 := hN.tr hle
  have hq57 : gN τ54 124 < gN τ56 124 := by rw [eτ56, gN_nW, if_pos rfl]; exact Nat.lt_succ_self _
  refine tw_putF (τ' := sR τ56 0 k0 24 (some (gN τ54 124))) (ty := .array .int) hx hb hts (by decide +kernel) tyX10 tyX10_ok nmX10 hown hK hP hS (by decide) hk0 rfl rfl 24 (by decide) (hts (.fieldLink RX10 47 "WineCellarModel" "cellMany" "[I") (by decide +kernel)) (fun _ h9 => h9) rfl hin rfl (by decide +kernel) rfl rfl (Nat.le_of_ble_eq_true rfl) dX10_init_97 (fun H1 ha ho => tw_updR hP (by decide) hk0 (fun r9 h9 => by cases h9; exact hq57) ha ho) (fun H locs hP hS => ?_)
  obtain ⟨τ58, eτ58⟩ : ∃ y : tw_T, y = sR τ56 0 k0 24 (some (gN τ54 124)) := ⟨_, rfl⟩
  have hF := hF τ58 eτ58
  rw [← eτ58] at hP
  have hN : tw_le τ0 ad τ58 ad55 := hN.same (by rw [eτ58]; rfl)
  have hk0 : k0 < gN τ58 0 := by rw [eτ58]; exact hk0
  refine lv_aload_n hx hb dX10_init_100 rfl (lv_at hl 0 rfl) ?_
  refine lv_bipush (v := 60) hx hb dX10_init_101 (by decide) ?_
  refine tw_newa (atype := .int) (f := 125) (t0 := 0) (n9 := 60) (kd := 0) hx hb (hts (.arrayClass .int) (by decide +kernel)) hK hP hS hA (by decide) rfl (hK.2 0 _ rfl).2 (fun cA => vp_cell_i cA 60 (fun _ => 0)) (by decide) (by decide) (by decide) (Nat.le_of_ble_eq_true rfl) (Nat.le_of_ble_eq_true rfl) dX10_init_103 (fun ad59 H hP hle hS => ?_)
  obtain ⟨τ60, eτ60⟩ : ∃ y : tw_T, y = nW τ58 125 1 := ⟨_, rfl⟩
  have hF := hF τ60 eτ60
  rw [← eτ60] at hP hle
  have hl : lv_has ls 2 [(0, .ref (ad59 0 k0))] := by rw [hle.2 0 k0 hk0]; exact hl
  refine W.eq (g2 := F0 m 105 ls [.ref (ad59 125 (gN τ58 125)), .ref (ad59 0 k0)]) (by rw [hle.2 0 k0 hk0]) ?_
  have hk0 : k0 < gN τ60 0 := Nat.lt_of_lt_of_le hk0 (hle.1 0)
  have hN : tw_le τ0 ad τ60 ad59 := hN.tr hle
  have hq61 : gN τ58 125 < gN τ60 125 := by rw [eτ60, gN_nW, if_pos rfl]; exact Nat.lt_succ_self _
  refine tw_putF (τ' := sR τ60 0 k0 25 (some (gN τ58 125))) (ty := .array .int) hx hb hts (by decide +kernel) tyX10 tyX10_ok nmX10 hown hK hP hS (by decide) hk0 rfl rfl 25 (by decide) (hts (.fieldLink RX10 50 "WineCellarModel" "openLot" "[I") (by decide +kernel)) (fun _ h9 => h9) rfl hin rfl (by decide +kernel) rfl rfl (Nat.le_of_ble_eq_true rfl) dX10_init_105 (fun H1 ha ho => tw_updR hP (by decide) hk0 (fun r9 h9 => by cases h9; exact hq61) ha ho) (fun H locs hP hS => ?_)
  obtain ⟨τ62, eτ62⟩ : ∃ y : tw_T, y = sR τ60 0 k0 25 (some (gN τ58 125)) := ⟨_, rfl⟩
  have hF := hF τ62 eτ62
  rw [← eτ62] at hP
  have hN : tw_le τ0 ad τ62 ad59 := hN.same (by rw [eτ62]; rfl)
  have hk0 : k0 < gN τ62 0 := by rw [eτ62]; exact hk0
  refine lv_aload_n hx hb dX10_init_108 rfl (lv_at hl 0 rfl) ?_
  refine lv_bipush (v := 60) hx hb dX10_init_109 (by decide) ?_
  refine tw_newa (atype := .int) (f := 126) (t0 := 0) (n9 := 60) (kd := 0) hx hb (hts (.arrayClass .int) (by decide +kernel)) hK hP hS hA (by decide) rfl (hK.2 0 _ rfl).2 (fun cA => vp_cell_i cA 60 (fun _ => 0)) (by decide) (by decide) (by decide) (Nat.le_of_ble_eq_true rfl) (Nat.le_of_ble_eq_true rfl) dX10_init_111 (fun ad63 H hP hle hS => ?_)
  obtain ⟨τ64, eτ64⟩ : ∃ y : tw_T, y = nW τ62 126 1 := ⟨_, rfl⟩
  have hF := hF τ64 eτ64
  rw [← eτ64] at hP hle
  have hl : lv_has ls 2 [(0, .ref (ad63 0 k0))] := by rw [hle.2 0 k0 hk0]; exact hl
  refine W.eq (g2 := F0 m 113 ls [.ref (ad63 126 (gN τ62 126)), .ref (ad63 0 k0)]) (by rw [hle.2 0 k0 hk0]) ?_
  have hk0 : k0 < gN τ64 0 := Nat.lt_of_lt_of_le hk0 (hle.1 0)
  have hN : tw_le τ0 ad τ64 ad63 := hN.tr hle
  have hq65 : gN τ62 126 < gN τ64 126 := by rw [eτ64, gN_nW, if_pos rfl]; exact Nat.lt_succ_self _
  refine tw_putF (τ' := sR τ64 0 k0 26 (some (gN τ62 126))) (ty := .array .int) hx hb hts (by decide +kernel) tyX10 tyX10_ok nmX10 hown hK hP hS (by decide) hk0 rfl rfl 26 (by decide) (hts (.fieldLink RX10 53 "WineCellarModel" "openHour" "[I") (by decide +kernel)) (fun _ h9 => h9) rfl hin rfl (by decide +kernel) rfl rfl (Nat.le_of_ble_eq_true rfl) dX10_init_113 (fun H1 ha ho => tw_updR hP (by decide) hk0 (fun r9 h9 => by cases h9; exact hq65) ha ho) (fun H locs hP hS => ?_)
  obtain ⟨τ66, eτ66⟩ : ∃ y : tw_T, y = sR τ64 0 k0 26 (some (gN τ62 126)) := ⟨_, rfl⟩
  have hF := hF τ66 eτ66
  rw [← eτ66] at hP
  have hN : tw_le τ0 ad τ66 ad63 := hN.same (by rw [eτ66]; rfl)
  have hk0 : k0 < gN τ66 0 := by rw [eτ66]; exact hk0
  refine lv_aload_n hx hb dX10_init_116 rfl (lv_at hl 0 rfl) ?_
  refine lv_bipush (v := 60) hx hb dX10_init_117 (by decide) ?_
  refine tw_newa (atype := .int) (f := 127) (t0 := 0) (n9 := 60) (kd := 0) hx hb (hts (.arrayClass .int) (by decide +kernel)) hK hP hS hA (by decide) rfl (hK.2 0 _ rfl).2 (fun cA => vp_cell_i cA 60 (fun _ => 0)) (by decide) (by decide) (by decide) (Nat.le_of_ble_eq_true rfl) (Nat.le_of_ble_eq_true rfl) dX10_init_119 (fun ad67 H hP hle hS => ?_)
  obtain ⟨τ68, eτ68⟩ : ∃ y : tw_T, y = nW τ66 127 1 := ⟨_, rfl⟩
  have hF := hF τ68 eτ68
  rw [← eτ68] at hP hle
  have hl : lv_has ls 2 [(0, .ref (ad67 0 k0))] := by rw [hle.2 0 k0 hk0]; exact hl
  refine W.eq (g2 := F0 m 121 ls [.ref (ad67 127 (gN τ66 127)), .ref (ad67 0 k0)]) (by rw [hle.2 0 k0 hk0]) ?_
  have hk0 : k0 < gN τ68 0 := Nat.lt_of_lt_of_le hk0 (hle.1 0)
  have hN : tw_le τ0 ad τ68 ad67 := hN.tr hle
  have hq69 : gN τ66 127 < gN τ68 127 := by rw [eτ68, gN_nW, if_pos rfl]; exact Nat.lt_succ_self _
  refine tw_putF (τ' := sR τ68 0 k0 27 (some (gN τ66 127))) (ty := .array .int) hx hb hts (by decide +kernel) tyX10 tyX10_ok nmX10 hown hK hP hS (by decide) hk0 rfl rfl 27 (by decide) (hts (.fieldLink RX10 56 "WineCellarModel" "openLeft" "[I") (by decide +kernel)) (fun _ h9 => h9) rfl hin rfl (by decide +kernel) rfl rfl (Nat.le_of_ble_eq_true rfl) dX10_init_121 (fun H1 ha ho => tw_updR hP (by decide) hk0 (fun r9 h9 => by cases h9; exact hq69) ha ho) (fun H locs hP hS => ?_)
  obtain ⟨τ70, eτ70⟩ : ∃ y : tw_T, y = sR τ68 0 k0 27 (some (gN τ66 127)) := ⟨_, rfl⟩
  have hF := hF τ70 eτ70
  rw [← eτ70] at hP
  have hN : tw_le τ0 ad τ70 ad67 := hN.same (by rw [eτ70]; rfl)
  have hk0 : k0 < gN τ70 0 := by rw [eτ70]; exact hk0
  refine lv_aload_n hx hb dX10_init_124 rfl (lv_at hl 0 rfl) ?_
  refine lv_sipush (v := 200) hx hb dX10_init_125 (by decide) ?_
  refine tw_newa (atype := .int) (f := 133) (t0 := 0) (n9 := 200) (kd := 0) hx hb (hts (.arrayClass .int) (by decide +kernel)) hK hP hS hA (by decide) rfl (hK.2 0 _ rfl).2 (fun cA => vp_cell_i cA 200 (fun _ => 0)) (by decide) (by decide) (by decide) (Nat.le_of_ble_eq_true rfl) (Nat.le_of_ble_eq_true rfl) dX10_init_128 (fun ad71 H hP hle hS => ?_)
  obtain ⟨τ72, eτ72⟩ : ∃ y : tw_T, y = nW τ70 133 1 := ⟨_, rfl⟩
  have hF := hF τ72 eτ72
  rw [← eτ72] at hP hle
  have hl : lv_has ls 2 [(0, .ref (ad71 0 k0))] := by rw [hle.2 0 k0 hk0]; exact hl
  refine W.eq (g2 := F0 m 130 ls [.ref (ad71 133 (gN τ70 133)), .ref (ad71 0 k0)]) (by rw [hle.2 0 k0 hk0]) ?_
  have hk0 : k0 < gN τ72 0 := Nat.lt_of_lt_of_le hk0 (hle.1 0)
  have hN : tw_le τ0 ad τ72 ad71 := hN.tr hle
  have hq73 : gN τ70 133 < gN τ72 133 := by rw [eτ72, gN_nW, if_pos rfl]; exact Nat.lt_succ_self _
  refine tw_putF (τ' := sR τ72 0 k0 33 (some (gN τ70 133))) (ty := .array .int) hx hb hts (by decide +kernel) tyX10 tyX10_ok nmX10 hown hK hP hS (by decide) hk0 rfl rfl 33 (by decide) (hts (.fieldLink RX10 59 "WineCellarModel" "tape" "[I") (by decide +kernel)) (fun _ h9 => h9) rfl hin rfl (by decide +kernel) rfl rfl (Nat.le_of_ble_eq_true rfl) dX10_init_130 (fun H1 ha ho => tw_updR hP (by decide) hk0 (fun r9 h9 => by cases h9; exact hq73) ha ho) (fun H locs hP hS => ?_)
  obtain ⟨τ74, eτ74⟩ : ∃ y : tw_T, y = sR τ72 0 k0 33 (some (gN τ70 133)) := ⟨_, rfl⟩
  have hF := hF τ74 eτ74
  rw [← eτ74] at hP
  have hN : tw_le τ0 ad τ74 ad71 := hN.same (by rw [eτ74]; rfl)
  have hk0 : k0 < gN τ74 0 := by rw [eτ74]; exact hk0
  refine lv_aload_n hx hb dX10_init_133 rfl (lv_at hl 0 rfl) ?_
  refine lv_bipush (v := 21) hx hb dX10_init_134 (by decide) ?_
  refine tw_newa (atype := .int) (f := 134) (t0 := 0) (n9 := 21) (kd := 0) hx hb (hts (.arrayClass .int) (by decide +kernel)) hK hP hS hA (by decide) rfl (hK.2 0 _ rfl).2 (fun cA => vp_cell_i cA 21 (fun _ => 0)) (by decide) (by decide) (by decide) (Nat.le_of_ble_eq_true rfl) (Nat.le_of_ble_eq_true rfl) dX10_init_136 (fun ad75 H hP hle hS => ?_)
  obtain ⟨τ76, eτ76⟩ : ∃ y : tw_T, y = nW τ74 134 1 := ⟨_, rfl⟩
  have hF := hF τ76 eτ76
  rw [← eτ76] at hP hle
  have hl : lv_has ls 2 [(0, .ref (ad75 0 k0))] := by rw [hle.2 0 k0 hk0]; exact hl
  refine W.eq (g2 := F0 m 138 ls [.ref (ad75 134 (gN τ74 134)), .ref (ad75 0 k0)]) (by rw [hle.2 0 k0 hk0]) ?_
  have hk0 : k0 < gN τ76 0 := Nat.lt_of_lt_of_le hk0 (hle.1 0)
  have hN : tw_le τ0 ad τ76 ad75 := hN.tr hle
  have hq77 : gN τ74 134 < gN τ76 134 := by rw [eτ76, gN_nW, if_pos rfl]; exact Nat.lt_succ_self _
  refine tw_putF (τ' := sR τ76 0 k0 34 (some (gN τ74 134))) (ty := .array .int) hx hb hts (by decide +kernel) tyX10 tyX10_ok nmX10 hown hK hP hS (by decide) hk0 rfl rfl 34 (by decide) (hts (.fieldLink RX10 62 "WineCellarModel" "termMany" "[I") (by decide +kernel)) (fun _ h9 => h9) rfl hin rfl (by decide +kernel) rfl rfl (Nat.le_of_ble_eq_true rfl) dX10_init_138 (fun H1 ha ho => tw_updR hP (by decide) hk0 (fun r9 h9 => by cases h9; exact hq77) ha ho) (fun H locs hP hS => ?_)
  obtain ⟨τ78, eτ78⟩ : ∃ y : tw_T, y = sR τ76 0 k0 34 (some (gN τ74 134)) := ⟨_, rfl⟩
  have hF := hF τ78 eτ78
  rw [← eτ78] at hP
  have hN : tw_le τ0 ad τ78 ad75 := hN.same (by rw [eτ78]; rfl)
  have hk0 : k0 < gN τ78 0 := by rw [eτ78]; exact hk0
  refine lv_aload_n hx hb dX10_init_141 rfl (lv_at hl 0 rfl) ?_
  refine lv_sipush (v := 252) hx hb dX10_init_142 (by decide) ?_
  refine tw_newa (atype := .int) (f := 135) (t0 := 0) (n9 := 252) (kd := 0) hx hb (hts (.arrayClass .int) (by decide +kernel)) hK hP hS hA (by decide) rfl (hK.2 0 _ rfl).2 (fun cA => vp_cell_i cA 252 (fun _ => 0)) (by decide) (by decide) (by decide) (Nat.le_of_ble_eq_true rfl) (Nat.le_of_ble_eq_true rfl) dX10_init_145 (fun ad79 H hP hle hS => ?_)
  obtain ⟨τ80, eτ80⟩ : ∃ y : tw_T, y = nW τ78 135 1 := ⟨_, rfl⟩
  have hF := hF τ80 eτ80
  rw [← eτ80] at hP hle
  have hl : lv_has ls 2 [(0, .ref (ad79 0 k0))] := by rw [hle.2 0 k0 hk0]; exact hl
  refine W.eq (g2 := F0 m 147 ls [.ref (ad79 135 (gN τ78 135)), .ref (ad79 0 k0)]) (by rw [hle.2 0 k0 hk0]) ?_
  have hk0 : k0 < gN τ80 0 := Nat.lt_of_lt_of_le hk0 (hle.1 0)
  have hN : tw_le τ0 ad τ80 ad79 := hN.tr hle
  have hq81 : gN τ78 135 < gN τ80 135 := by rw [eτ80, gN_nW, if_pos rfl]; exact Nat.lt_succ_self _
  refine tw_putF (τ' := sR τ80 0 k0 35 (some (gN τ78 135))) (ty := .array .int) hx hb hts (by decide +kernel) tyX10 tyX10_ok nmX10 hown hK hP hS (by decide) hk0 rfl rfl 35 (by decide) (hts (.fieldLink RX10 65 "WineCellarModel" "term" "[I") (by decide +kernel)) (fun _ h9 => h9) rfl hin rfl (by decide +kernel) rfl rfl (Nat.le_of_ble_eq_true rfl) dX10_init_147 (fun H1 ha ho => tw_updR hP (by decide) hk0 (fun r9 h9 => by cases h9; exact hq81) ha ho) (fun H locs hP hS => ?_)
  obtain ⟨τ82, eτ82⟩ : ∃ y : tw_T, y = sR τ80 0 k0 35 (some (gN τ78 135)) := ⟨_, rfl⟩
  have hF := hF τ82 eτ82
  rw [← eτ82] at hP
  have hN : tw_le τ0 ad τ82 ad79 := hN.same (by rw [eτ82]; rfl)
  have hk0 : k0 < gN τ82 0 := by rw [eτ82]; exact hk0
  refine lv_aload_n hx hb dX10_init_150 rfl (lv_at hl 0 rfl) ?_
  refine lv_sipush (v := 252) hx hb dX10_init_151 (by decide) ?_
  refine tw_newa (atype := .int) (f := 136) (t0 := 0) (n9 := 252) (kd := 0) hx hb (hts (.arrayClass .int) (by decide +kernel)) hK hP hS hA (by decide) rfl (hK.2 0 _ rfl).2 (fun cA => vp_cell_i cA 252 (fun _ => 0)) (by decide) (by decide) (by decide) (Nat.le_of_ble_eq_true rfl) (Nat.le_of_ble_eq_true rfl) dX10_init_154 (fun ad83 H hP hle hS => ?_)
  obtain ⟨τ84, eτ84⟩ : ∃ y : tw_T, y = nW τ82 136 1 := ⟨_, rfl⟩
  have hF := hF τ84 eτ84
  rw [← eτ84] at hP hle
  have hl : lv_has ls 2 [(0, .ref (ad83 0 k0))] := by rw [hle.2 0 k0 hk0]; exact hl
  refine W.eq (g2 := F0 m 156 ls [.ref (ad83 136 (gN τ82 136)), .ref (ad83 0 k0)]) (by rw [hle.2 0 k0 hk0]) ?_
  have hk0 : k0 < gN τ84 0 := Nat.lt_of_lt_of_le hk0 (hle.1 0)
  have hN : tw_le τ0 ad τ84 ad83 := hN.tr hle
  have hq85 : gN τ82 136 < gN τ84 136 := by rw [eτ84, gN_nW, if_pos rfl]; exact Nat.lt_succ_self _
  refine tw_putF (τ' := sR τ84 0 k0 36 (some (gN τ82 136))) (ty := .array .int) hx hb hts (by decide +kernel) tyX10 tyX10_ok nmX10 hown hK hP hS (by decide) hk0 rfl rfl 36 (by decide) (hts (.fieldLink RX10 68 "WineCellarModel" "termSign" "[I") (by decide +kernel)) (fun _ h9 => h9) rfl hin rfl (by decide +kernel) rfl rfl (Nat.le_of_ble_eq_true rfl) dX10_init_156 (fun H1 ha ho => tw_updR hP (by decide) hk0 (fun r9 h9 => by cases h9; exact hq85) ha ho) (fun H locs hP hS => ?_)
  obtain ⟨τ86, eτ86⟩ : ∃ y : tw_T, y = sR τ84 0 k0 36 (some (gN τ82 136)) := ⟨_, rfl⟩
  have hF := hF τ86 eτ86
  rw [← eτ86] at hP
  have hN : tw_le τ0 ad τ86 ad83 := hN.same (by rw [eτ86]; rfl)
  have hk0 : k0 < gN τ86 0 := by rw [eτ86]; exact hk0
  refine lv_aload_n hx hb dX10_init_159 rfl (lv_at hl 0 rfl) ?_
  refine lv_sipush (v := 252) hx hb dX10_init_160 (by decide) ?_
  refine tw_newa (atype := .int) (f := 137) (t0 := 0) (n9 := 252) (kd := 0) hx hb (hts (.arrayClass .int) (by decide +kernel)) hK hP hS hA (by decide) rfl (hK.2 0 _ rfl).2 (fun cA => vp_cell_i cA 252 (fun _ => 0)) (by decide) (by decide) (by decide) (Nat.le_of_ble_eq_true rfl) (Nat.le_of_ble_eq_true rfl) dX10_init_163 (fun ad87 H hP hle hS => ?_)
  obtain ⟨τ88, eτ88⟩ : ∃ y : tw_T, y = nW τ86 137 1 := ⟨_, rfl⟩
  have hF := hF τ88 eτ88
  rw [← eτ88] at hP hle
  have hl : lv_has ls 2 [(0, .ref (ad87 0 k0))] := by rw [hle.2 0 k0 hk0]; exact hl
  refine W.eq (g2 := F0 m 165 ls [.ref (ad87 137 (gN τ86 137)), .ref (ad87 0 k0)]) (by rw [hle.2 0 k0 hk0]) ?_
  have hk0 : k0 < gN τ88 0 := Nat.lt_of_lt_of_le hk0 (hle.1 0)
  have hN : tw_le τ0 ad τ88 ad87 := hN.tr hle
  have hq89 : gN τ86 137 < gN τ88 137 := by rw [eτ88, gN_nW, if_pos rfl]; exact Nat.lt_succ_self _
  refine tw_putF (τ' := sR τ88 0 k0 37 (some (gN τ86 137))) (ty := .array .int) hx hb hts (by decide +kernel) tyX10 tyX10_ok nmX10 hown hK hP hS (by decide) hk0 rfl rfl 37 (by decide) (hts (.fieldLink RX10 71 "WineCellarModel" "termNumber" "[I") (by decide +kernel)) (fun _ h9 => h9) rfl hin rfl (by decide +kernel) rfl rfl (Nat.le_of_ble_eq_true rfl) dX10_init_165 (fun H1 ha ho => tw_updR hP (by decide) hk0 (fun r9 h9 => by cases h9; exact hq89) ha ho) (fun H locs hP hS => ?_)
  obtain ⟨τ90, eτ90⟩ : ∃ y : tw_T, y = sR τ88 0 k0 37 (some (gN τ86 137)) := ⟨_, rfl⟩
  have hF := hF τ90 eτ90
  rw [← eτ90] at hP
  have hN : tw_le τ0 ad τ90 ad87 := hN.same (by rw [eτ90]; rfl)
  have hk0 : k0 < gN τ90 0 := by rw [eτ90]; exact hk0
  refine lv_aload_n hx hb dX10_init_168 rfl (lv_at hl 0 rfl) ?_
  refine lv_sipush (v := 252) hx hb dX10_init_169 (by decide) ?_
  refine tw_newa (atype := .int) (f := 138) (t0 := 0) (n9 := 252) (kd := 0) hx hb (hts (.arrayClass .int) (by decide +kernel)) hK hP hS hA (by decide) rfl (hK.2 0 _ rfl).2 (fun cA => vp_cell_i cA 252 (fun _ => 0)) (by decide) (by decide) (by decide) (Nat.le_of_ble_eq_true rfl) (Nat.le_of_ble_eq_true rfl) dX10_init_172 (fun ad91 H hP hle hS => ?_)
  obtain ⟨τ92, eτ92⟩ : ∃ y : tw_T, y = nW τ90 138 1 := ⟨_, rfl⟩
  have hF := hF τ92 eτ92
  rw [← eτ92] at hP hle
  have hl : lv_has ls 2 [(0, .ref (ad91 0 k0))] := by rw [hle.2 0 k0 hk0]; exact hl
  refine W.eq (g2 := F0 m 174 ls [.ref (ad91 138 (gN τ90 138)), .ref (ad91 0 k0)]) (by rw [hle.2 0 k0 hk0]) ?_
  have hk0 : k0 < gN τ92 0 := Nat.lt_of_lt_of_le hk0 (hle.1 0)
  have hN : tw_le τ0 ad τ92 ad91 := hN.tr hle
  have hq93 : gN τ90 138 < gN τ92 138 := by rw [eτ92, gN_nW, if_pos rfl]; exact Nat.lt_succ_self _
  refine tw_putF (τ' := sR τ92 0 k0 38 (some (gN τ90 138))) (ty := .array .int) hx hb hts (by decide +kernel) tyX10 tyX10_ok nmX10 hown hK hP hS (by decide) hk0 rfl rfl 38 (by decide) (hts (.fieldLink RX10 74 "WineCellarModel" "termScore" "[I") (by decide +kernel)) (fun _ h9 => h9) rfl hin rfl (by decide +kernel) rfl rfl (Nat.le_of_ble_eq_true rfl) dX10_init_174 (fun H1 ha ho => tw_updR hP (by decide) hk0 (fun r9 h9 => by cases h9; exact hq93) ha ho) (fun H locs hP hS => ?_)
  obtain ⟨τ94, eτ94⟩ : ∃ y : tw_T, y = sR τ92 0 k0 38 (some (gN τ90 138)) := ⟨_, rfl⟩
  have hF := hF τ94 eτ94
  rw [← eτ94] at hP
  have hN : tw_le τ0 ad τ94 ad91 := hN.same (by rw [eτ94]; rfl)
  have hk0 : k0 < gN τ94 0 := by rw [eτ94]; exact hk0
  refine lv_aload_n hx hb dX10_init_177 rfl (lv_at hl 0 rfl) ?_
  refine lv_iconst (v := 4) hx hb dX10_init_178 (by decide) ?_
  refine tw_newa (atype := .int) (f := 140) (t0 := 0) (n9 := 4) (kd := 0) hx hb (hts (.arrayClass .int) (by decide +kernel)) hK hP hS hA (by decide) rfl (hK.2 0 _ rfl).2 (fun cA => vp_cell_i cA 4 (fun _ => 0)) (by decide) (by decide) (by decide) (Nat.le_of_ble_eq_true rfl) (Nat.le_of_ble_eq_true rfl) dX10_init_179 (fun ad95 H hP hle hS => ?_)
  obtain ⟨τ96, eτ96⟩ : ∃ y : tw_T, y = nW τ94 140 1 := ⟨_, rfl⟩
  have hF := hF τ96 eτ96
  rw [← eτ96] at hP hle
  have hl : lv_has ls 2 [(0, .ref (ad95 0 k0))] := by rw [hle.2 0 k0 hk0]; exact hl
  refine W.eq (g2 := F0 m 181 ls [.ref (ad95 140 (gN τ94 140)), .ref (ad95 0 k0)]) (by rw [hle.2 0 k0 hk0]) ?_
  have hk0 : k0 < gN τ96 0 := Nat.lt_of_lt_of_le hk0 (hle.1 0)
  have hN : tw_le τ0 ad τ96 ad95 := hN.tr hle
  have hq97 : gN τ94 140 < gN τ96 140 := by rw [eτ96, gN_nW, if_pos rfl]; exact Nat.lt_succ_self _
  refine tw_putF (τ' := sR τ96 0 k0 40 (some (gN τ94 140))) (ty := .array .int) hx hb hts (by decide +kernel) tyX10 tyX10_ok nmX10 hown hK hP hS (by decide) hk0 rfl rfl 40 (by decide) (hts (.fieldLink RX10 77 "WineCellarModel" "width" "[I") (by decide +kernel)) (fun _ h9 => h9) rfl hin rfl (by decide +kernel) rfl rfl (Nat.le_of_ble_eq_true rfl) dX10_init_181 (fun H1 ha ho => tw_updR hP (by decide) hk0 (fun r9 h9 => by cases h9; exact hq97) ha ho) (fun H locs hP hS => ?_)
  obtain ⟨τ98, eτ98⟩ : ∃ y : tw_T, y = sR τ96 0 k0 40 (some (gN τ94 140)) := ⟨_, rfl⟩
  have hF := hF τ98 eτ98
  rw [← eτ98] at hP
  have hN : tw_le τ0 ad τ98 ad95 := hN.same (by rw [eτ98]; rfl)
  have hk0 : k0 < gN τ98 0 := by rw [eτ98]; exact hk0
  refine lv_aload_n hx hb dX10_init_184 rfl (lv_at hl 0 rfl) ?_
  refine lv_bipush (v := 40) hx hb dX10_init_185 (by decide) ?_
  refine tw_newa (atype := .int) (f := 141) (t0 := 0) (n9 := 40) (kd := 0) hx hb (hts (.arrayClass .int) (by decide +kernel)) hK hP hS hA (by decide) rfl (hK.2 0 _ rfl).2 (fun cA => vp_cell_i cA 40 (fun _ => 0)) (by decide) (by decide) (by decide) (Nat.le_of_ble_eq_true rfl) (Nat.le_of_ble_eq_true rfl) dX10_init_187 (fun ad99 H hP hle hS => ?_)
  obtain ⟨τ100, eτ100⟩ : ∃ y : tw_T, y = nW τ98 141 1 := ⟨_, rfl⟩
  have hF := hF τ100 eτ100
  rw [← eτ100] at hP hle
  have hl : lv_has ls 2 [(0, .ref (ad99 0 k0))] := by rw [hle.2 0 k0 hk0]; exact hl
  refine W.eq (g2 := F0 m 189 ls [.ref (ad99 141 (gN τ98 141)), .ref (ad99 0 k0)]) (by rw [hle.2 0 k0 hk0]) ?_
  have hk0 : k0 < gN τ100 0 := Nat.lt_of_lt_of_le hk0 (hle.1 0)
  have hN : tw_le τ0 ad τ100 ad99 := hN.tr hle
  have hq101 : gN τ98 141 < gN τ100 141 := by rw [eτ100, gN_nW, if_pos rfl]; exact Nat.lt_succ_self _
  refine tw_putF (τ' := sR τ100 0 k0 41 (some (gN τ98 141))) (ty := .array .int) hx hb hts (by decide +kernel) tyX10 tyX10_ok nmX10 hown hK hP hS (by decide) hk0 rfl rfl 41 (by decide) (hts (.fieldLink RX10 80 "WineCellarModel" "rowSize" "[I") (by decide +kernel)) (fun _ h9 => h9) rfl hin rfl (by decide +kernel) rfl rfl (Nat.le_of_ble_eq_true rfl) dX10_init_189 (fun H1 ha ho => tw_updR hP (by decide) hk0 (fun r9 h9 => by cases h9; exact hq101) ha ho) (fun H locs hP hS => ?_)
  obtain ⟨τ102, eτ102⟩ : ∃ y : tw_T, y = sR τ100 0 k0 41 (some (gN τ98 141)) := ⟨_, rfl⟩
  have hF := hF τ102 eτ102
  rw [← eτ102] at hP
  have hN : tw_le τ0 ad τ102 ad99 := hN.same (by rw [eτ102]; rfl)
  have hk0 : k0 < gN τ102 0 := by rw [eτ102]; exact hk0
  refine lv_aload_n hx hb dX10_init_192 rfl (lv_at hl 0 rfl) ?_
  refine lv_sipush (v := 1600) hx hb dX10_init_193 (by decide) ?_
  refine tw_newa (atype := .long) (f := 142) (t0 := 1) (n9 := 1600) (kd := 1) hx hb (hts (.arrayClass .long) (by decide +kernel)) hK hP hS hA (by decide) rfl (hK.2 1 _ rfl).2 (fun cA => vp_cell_l cA 1600 (fun _ => 0)) (by decide) (by decide) (by decide) (Nat.le_of_ble_eq_true rfl) (Nat.le_of_ble_eq_true rfl) dX10_init_196 (fun ad103 H hP hle hS => ?_)
  obtain ⟨τ104, eτ104⟩ : ∃ y : tw_T, y = nW τ102 142 1 := ⟨_, rfl⟩
  have hF := hF τ104 eτ104
  rw [← eτ104] at hP hle
  have hl : lv_has ls 2 [(0, .ref (ad103 0 k0))] := by rw [hle.2 0 k0 hk0]; exact hl
  refine W.eq (g2 := F0 m 198 ls [.ref (ad103 142 (gN τ102 142)), .ref (ad103 0 k0)]) (by rw [hle.2 0 k0 hk0]) ?_
  have hk0 : k0 < gN τ104 0 := Nat.lt_of_lt_of_le hk0 (hle.1 0)
  have hN : tw_le τ0 ad τ104 ad103 := hN.tr hle
  have hq105 : gN τ102 142 < gN τ104 142 := by rw [eτ104, gN_nW, if_pos rfl]; exact Nat.lt_succ_self _
  refine tw_putF (τ' := sR τ104 0 k0 42 (some (gN τ102 142))) (ty := .array .long) hx hb hts (by decide +kernel) tyX10 tyX10_ok nmX10 hown hK hP hS (by decide) hk0 rfl rfl 42 (by decide) (hts (.fieldLink RX10 83 "WineCellarModel" "number" "[J") (by decide +kernel)) (fun _ h9 => h9) rfl hin rfl (by decide +kernel) rfl rfl (Nat.le_of_ble_eq_true rfl) dX10_init_198 (fun H1 ha ho => tw_updR hP (by decide) hk0 (fun r9 h9 => by cases h9; exact hq105) ha ho) (fun H locs hP hS => ?_)
  obtain ⟨τ106, eτ106⟩ : ∃ y : tw_T, y = sR τ104 0 k0 42 (some (gN τ102 142)) := ⟨_, rfl⟩
  have hF := hF τ106 eτ106
  rw [← eτ106] at hP
  have hN : tw_le τ0 ad τ106 ad103 := hN.same (by rw [eτ106]; rfl)
  have hk0 : k0 < gN τ106 0 := by rw [eτ106]; exact hk0
  refine lv_aload_n hx hb dX10_init_201 rfl (lv_at hl 0 rfl) ?_
  refine lv_sipush (v := 360) hx hb dX10_init_202 (by decide) ?_
  refine tw_newa (atype := .int) (f := 143) (t0 := 0) (n9 := 360) (kd := 0) hx hb (hts (.arrayClass .int) (by decide +kernel)) hK hP hS hA (by decide) rfl (hK.2 0 _ rfl).2 (fun cA => vp_cell_i cA 360 (fun _ => 0)) (by decide) (by decide) (by decide) (Nat.le_of_ble_eq_true rfl) (Nat.le_of_ble_eq_true rfl) dX10_init_205 (fun ad107 H hP hle hS => ?_)
  obtain ⟨τ108, eτ108⟩ : ∃ y : tw_T, y = nW τ106 143 1 := ⟨_, rfl⟩
  have hF := hF τ108 eτ108
  rw [← eτ108] at hP hle
  have hl : lv_has ls 2 [(0, .ref (ad107 0 k0))] := by rw [hle.2 0 k0 hk0]; exact hl
  refine W.eq (g2 := F0 m 207 ls [.ref (ad107 143 (gN τ106 143)), .ref (ad107 0 k0)]) (by rw [hle.2 0 k0 hk0]) ?_
  have hk0 : k0 < gN τ108 0 := Nat.lt_of_lt_of_le hk0 (hle.1 0)
  have hN : tw_le τ0 ad τ108 ad107 := hN.tr hle
  have hq109 : gN τ106 143 < gN τ108 143 := by rw [eτ108, gN_nW, if_pos rfl]; exact Nat.lt_succ_self _
  refine tw_putF (τ' := sR τ108 0 k0 43 (some (gN τ106 143))) (ty := .array .int) hx hb hts (by decide +kernel) tyX10 tyX10_ok nmX10 hown hK hP hS (by decide) hk0 rfl rfl 43 (by decide) (hts (.fieldLink RX10 87 "WineCellarModel" "flow" "[I") (by decide +kernel)) (fun _ h9 => h9) rfl hin rfl (by decide +kernel) rfl rfl (Nat.le_of_ble_eq_true rfl) dX10_init_207 (fun H1 ha ho => tw_updR hP (by decide) hk0 (fun r9 h9 => by cases h9; exact hq109) ha ho) (fun H locs hP hS => ?_)
  obtain ⟨τ110, eτ110⟩ : ∃ y : tw_T, y = sR τ108 0 k0 43 (some (gN τ106 143)) := ⟨_, rfl⟩
  have hF := hF τ110 eτ110
  rw [← eτ110] at hP
  have hN : tw_le τ0 ad τ110 ad107 := hN.same (by rw [eτ110]; rfl)
  have hk0 : k0 < gN τ110 0 := by rw [eτ110]; exact hk0
  refine lv_aload_n hx hb dX10_init_210 rfl (lv_at hl 0 rfl) ?_
  refine lv_bipush (v := 60) hx hb dX10_init_211 (by decide) ?_
  refine tw_newa (atype := .int) (f := 144) (t0 := 0) (n9 := 60) (kd := 0) hx hb (hts (.arrayClass .int) (by decide +kernel)) hK hP hS hA (by decide) rfl (hK.2 0 _ rfl).2 (fun cA => vp_cell_i cA 60 (fun _ => 0)) (by decide) (by decide) (by decide) (Nat.le_of_ble_eq_true rfl) (Nat.le_of_ble_eq_true rfl) dX10_init_213 (fun ad111 H hP hle hS => ?_)
  obtain ⟨τ112, eτ112⟩ : ∃ y : tw_T, y = nW τ110 144 1 := ⟨_, rfl⟩
  have hF := hF τ112 eτ112
  rw [← eτ112] at hP hle
  have hl : lv_has ls 2 [(0, .ref (ad111 0 k0))] := by rw [hle.2 0 k0 hk0]; exact hl
  refine W.eq (g2 := F0 m 215 ls [.ref (ad111 144 (gN τ110 144)), .ref (ad111 0 k0)]) (by rw [hle.2 0 k0 hk0]) ?_
  have hk0 : k0 < gN τ112 0 := Nat.lt_of_lt_of_le hk0 (hle.1 0)
  have hN : tw_le τ0 ad τ112 ad111 := hN.tr hle
  have hq113 : gN τ110 144 < gN τ112 144 := by rw [eτ112, gN_nW, if_pos rfl]; exact Nat.lt_succ_self _
  refine tw_putF (τ' := sR τ112 0 k0 44 (some (gN τ110 144))) (ty := .array .int) hx hb hts (by decide +kernel) tyX10 tyX10_ok nmX10 hown hK hP hS (by decide) hk0 rfl rfl 44 (by decide) (hts (.fieldLink RX10 90 "WineCellarModel" "left" "[I") (by decide +kernel)) (fun _ h9 => h9) rfl hin rfl (by decide +kernel) rfl rfl (Nat.le_of_ble_eq_true rfl) dX10_init_215 (fun H1 ha ho => tw_updR hP (by decide) hk0 (fun r9 h9 => by cases h9; exact hq113) ha ho) (fun H locs hP hS => ?_)
  obtain ⟨τ114, eτ114⟩ : ∃ y : tw_T, y = sR τ112 0 k0 44 (some (gN τ110 144)) := ⟨_, rfl⟩
  have hF := hF τ114 eτ114
  rw [← eτ114] at hP
  have hN : tw_le τ0 ad τ114 ad111 := hN.same (by rw [eτ114]; rfl)
  have hk0 : k0 < gN τ114 0 := by rw [eτ114]; exact hk0
  refine lv_aload_n hx hb dX10_init_218 rfl (lv_at hl 0 rfl) ?_
  refine lv_bipush (v := 6) hx hb dX10_init_219 (by decide) ?_
  refine tw_newa (atype := .int) (f := 145) (t0 := 0) (n9 := 6) (kd := 0) hx hb (hts (.arrayClass .int) (by decide +kernel)) hK hP hS hA (by decide) rfl (hK.2 0 _ rfl).2 (fun cA => vp_cell_i cA 6 (fun _ => 0)) (by decide) (by decide) (by decide) (Nat.le_of_ble_eq_true rfl) (Nat.le_of_ble_eq_true rfl) dX10_init_221 (fun ad115 H hP hle hS => ?_)
  obtain ⟨τ116, eτ116⟩ : ∃ y : tw_T, y = nW τ114 145 1 := ⟨_, rfl⟩
  have hF := hF τ116 eτ116
  rw [← eτ116] at hP hle
  have hl : lv_has ls 2 [(0, .ref (ad115 0 k0))] := by rw [hle.2 0 k0 hk0]; exact hl
  refine W.eq (g2 := F0 m 223 ls [.ref (ad115 145 (gN τ114 145)), .ref (ad115 0 k0)]) (by rw [hle.2 0 k0 hk0]) ?_
  have hk0 : k0 < gN τ116 0 := Nat.lt_of_lt_of_le hk0 (hle.1 0)
  have hN : tw_le τ0 ad τ116 ad115 := hN.tr hle
  have hq117 : gN τ114 145 < gN τ116 145 := by rw [eτ116, gN_nW, if_pos rfl]; exact Nat.lt_succ_self _
  refine tw_putF (τ' := sR τ116 0 k0 45 (some (gN τ114 145))) (ty := .array .int) hx hb hts (by decide +kernel) tyX10 tyX10_ok nmX10 hown hK hP hS (by decide) hk0 rfl rfl 45 (by decide) (hts (.fieldLink RX10 93 "WineCellarModel" "room" "[I") (by decide +kernel)) (fun _ h9 => h9) rfl hin rfl (by decide +kernel) rfl rfl (Nat.le_of_ble_eq_true rfl) dX10_init_223 (fun H1 ha ho => tw_updR hP (by decide) hk0 (fun r9 h9 => by cases h9; exact hq117) ha ho) (fun H locs hP hS => ?_)
  obtain ⟨τ118, eτ118⟩ : ∃ y : tw_T, y = sR τ116 0 k0 45 (some (gN τ114 145)) := ⟨_, rfl⟩
  have hF := hF τ118 eτ118
  rw [← eτ118] at hP
  have hN : tw_le τ0 ad τ118 ad115 := hN.same (by rw [eτ118]; rfl)
  have hk0 : k0 < gN τ118 0 := by rw [eτ118]; exact hk0
  refine lv_aload_n hx hb dX10_init_226 rfl (lv_at hl 0 rfl) ?_
  refine lv_bipush (v := 6) hx hb dX10_init_227 (by decide) ?_
  refine tw_newa (atype := .int) (f := 146) (t0 := 0) (n9 := 6) (kd := 0) hx hb (hts (.arrayClass .int) (by decide +kernel)) hK hP hS hA (by decide) rfl (hK.2 0 _ rfl).2 (fun cA => vp_cell_i cA 6 (fun _ => 0)) (by decide) (by decide) (by decide) (Nat.le_of_ble_eq_true rfl) (Nat.le_of_ble_eq_true rfl) dX10_init_229 (fun ad119 H hP hle hS => ?_)
  obtain ⟨τ120, eτ120⟩ : ∃ y : tw_T, y = nW τ118 146 1 := ⟨_, rfl⟩
  have hF := hF τ120 eτ120
  rw [← eτ120] at hP hle
  have hl : lv_has ls 2 [(0, .ref (ad119 0 k0))] := by rw [hle.2 0 k0 hk0]; exact hl
  refine W.eq (g2 := F0 m 231 ls [.ref (ad119 146 (gN τ118 146)), .ref (ad119 0 k0)]) (by rw [hle.2 0 k0 hk0]) ?_
  have hk0 : k0 < gN τ120 0 := Nat.lt_of_lt_of_le hk0 (hle.1 0)
  have hN : tw_le τ0 ad τ120 ad119 := hN.tr hle
  have hq121 : gN τ118 146 < gN τ120 146 := by rw [eτ120, gN_nW, if_pos rfl]; exact Nat.lt_succ_self _
  refine tw_putF (τ' := sR τ120 0 k0 46 (some (gN τ118 146))) (ty := .array .int) hx hb hts (by decide +kernel) tyX10 tyX10_ok nmX10 hown hK hP hS (by decide) hk0 rfl rfl 46 (by decide) (hts (.fieldLink RX10 96 "WineCellarModel" "gain" "[I") (by decide +kernel)) (fun _ h9 => h9) rfl hin rfl (by decide +kernel) rfl rfl (Nat.le_of_ble_eq_true rfl) dX10_init_231 (fun H1 ha ho => tw_updR hP (by decide) hk0 (fun r9 h9 => by cases h9; exact hq121) ha ho) (fun H locs hP hS => ?_)
  obtain ⟨τ122, eτ122⟩ : ∃ y : tw_T, y = sR τ120 0 k0 46 (some (gN τ118 146)) := ⟨_, rfl⟩
  have hF := hF τ122 eτ122
  rw [← eτ122] at hP
  have hN : tw_le τ0 ad τ122 ad119 := hN.same (by rw [eτ122]; rfl)
  have hk0 : k0 < gN τ122 0 := by rw [eτ122]; exact hk0
  refine lv_aload_n hx hb dX10_init_234 rfl (lv_at hl 0 rfl) ?_
  refine lv_bipush (v := 6) hx hb dX10_init_235 (by decide) ?_
  refine tw_newa (atype := .int) (f := 147) (t0 := 0) (n9 := 6) (kd := 0) hx hb (hts (.arrayClass .int) (by decide +kernel)) hK hP hS hA (by decide) rfl (hK.2 0 _ rfl).2 (fun cA => vp_cell_i cA 6 (fun _ => 0)) (by decide) (by decide) (by decide) (Nat.le_of_ble_eq_true rfl) (Nat.le_of_ble_eq_true rfl) dX10_init_237 (fun ad123 H hP hle hS => ?_)
  obtain ⟨τ124, eτ124⟩ : ∃ y : tw_T, y = nW τ122 147 1 := ⟨_, rfl⟩
  have hF := hF τ124 eτ124
  rw [← eτ124] at hP hle
  have hl : lv_has ls 2 [(0, .ref (ad123 0 k0))] := by rw [hle.2 0 k0 hk0]; exact hl
  refine W.eq (g2 := F0 m 239 ls [.ref (ad123 147 (gN τ122 147)), .ref (ad123 0 k0)]) (by rw [hle.2 0 k0 hk0]) ?_
  have hk0 : k0 < gN τ124 0 := Nat.lt_of_lt_of_le hk0 (hle.1 0)
  have hN : tw_le τ0 ad τ124 ad123 := hN.tr hle
  have hq125 : gN τ122 147 < gN τ124 147 := by rw [eτ124, gN_nW, if_pos rfl]; exact Nat.lt_succ_self _
  refine tw_putF (τ' := sR τ124 0 k0 47 (some (gN τ122 147))) (ty := .array .int) hx hb hts (by decide +kernel) tyX10 tyX10_ok nmX10 hown hK hP hS (by decide) hk0 rfl rfl 47 (by decide) (hts (.fieldLink RX10 99 "WineCellarModel" "before" "[I") (by decide +kernel)) (fun _ h9 => h9) rfl hin rfl (by decide +kernel) rfl rfl (Nat.le_of_ble_eq_true rfl) dX10_init_239 (fun H1 ha ho => tw_updR hP (by decide) hk0 (fun r9 h9 => by cases h9; exact hq125) ha ho) (fun H locs hP hS => ?_)
  obtain ⟨τ126, eτ126⟩ : ∃ y : tw_T, y = sR τ124 0 k0 47 (some (gN τ122 147)) := ⟨_, rfl⟩
  have hF := hF τ126 eτ126
  rw [← eτ126] at hP
  have hN : tw_le τ0 ad τ126 ad123 := hN.same (by rw [eτ126]; rfl)
  have hk0 : k0 < gN τ126 0 := by rw [eτ126]; exact hk0
  refine lv_aload_n hx hb dX10_init_242 rfl (lv_at hl 0 rfl) ?_
  refine lv_bipush (v := 6) hx hb dX10_init_243 (by decide) ?_
  refine tw_newa (atype := .int) (f := 148) (t0 := 0) (n9 := 6) (kd := 0) hx hb (hts (.arrayClass .int) (by decide +kernel)) hK hP hS hA (by decide) rfl (hK.2 0 _ rfl).2 (fun cA => vp_cell_i cA 6 (fun _ => 0)) (by decide) (by decide) (by decide) (Nat.le_of_ble_eq_true rfl) (Nat.le_of_ble_eq_true rfl) dX10_init_245 (fun ad127 H hP hle hS => ?_)
  obtain ⟨τ128, eτ128⟩ : ∃ y : tw_T, y = nW τ126 148 1 := ⟨_, rfl⟩
  have hF := hF τ128 eτ128
  rw [← eτ128] at hP hle
  have hl : lv_has ls 2 [(0, .ref (ad127 0 k0))] := by rw [hle.2 0 k0 hk0]; exact hl
  refine W.eq (g2 := F0 m 247 ls [.ref (ad127 148 (gN τ126 148)), .ref (ad127 0 k0)]) (by rw [hle.2 0 k0 hk0]) ?_
  have hk0 : k0 < gN τ128 0 := Nat.lt_of_lt_of_le hk0 (hle.1 0)
  have hN : tw_le τ0 ad τ128 ad127 := hN.tr hle
  have hq129 : gN τ126 148 < gN τ128 148 := by rw [eτ128, gN_nW, if_pos rfl]; exact Nat.lt_succ_self _
  refine tw_putF (τ' := sR τ128 0 k0 48 (some (gN τ126 148))) (ty := .array .int) hx hb hts (by decide +kernel) tyX10 tyX10_ok nmX10 hown hK hP hS (by decide) hk0 rfl rfl 48 (by decide) (hts (.fieldLink RX10 102 "WineCellarModel" "byLot" "[I") (by decide +kernel)) (fun _ h9 => h9) rfl hin rfl (by decide +kernel) rfl rfl (Nat.le_of_ble_eq_true rfl) dX10_init_247 (fun H1 ha ho => tw_updR hP (by decide) hk0 (fun r9 h9 => by cases h9; exact hq129) ha ho) (fun H locs hP hS => ?_)
  obtain ⟨τ130, eτ130⟩ : ∃ y : tw_T, y = sR τ128 0 k0 48 (some (gN τ126 148)) := ⟨_, rfl⟩
  have hF := hF τ130 eτ130
  rw [← eτ130] at hP
  have hN : tw_le τ0 ad τ130 ad127 := hN.same (by rw [eτ130]; rfl)
  have hk0 : k0 < gN τ130 0 := by rw [eτ130]; exact hk0
  refine lv_iconst (v := 0) hx hb dX10_init_250 (by decide) ?_
  refine lv_istore_n (lv' := [(1, .int ((0 : Int32))), (0, .ref (ad127 0 k0))]) hx hb dX10_init_251 rfl hl (by decide) rfl (fun ls hl => ?_)
  obtain ⟨n131, hF⟩ := hF
  refine l252 k0 _ n131 ad127 τ130 ((0 : Int32)) hk0 _ _ _ hF hP hN hS (lv_sub hl [1, 0] rfl) ?_
  intro bd τ132 z133 H locs ls hF hP hN hS hl
  have hk0 : k0 < gN τ132 0 := Nat.lt_of_lt_of_le hk00 (hN.1 _)
  refine lv_iconst (v := 0) hx hb dX10_init_271 (by decide) ?_
  refine lv_istore_n (lv' := [(1, .int ((0 : Int32))), (0, .ref (bd 0 k0))]) hx hb dX10_init_272 rfl hl (by decide) rfl (fun ls hl => ?_)
  obtain ⟨n134, hF⟩ := hF
  refine l273 k0 _ n134 bd τ132 ((0 : Int32)) hk0 _ _ _ hF hP hN hS (lv_sub hl [1, 0] rfl) ?_
  intro bd τ135 z136 H locs ls hF hP hN hS hl
  have hk0 : k0 < gN τ135 0 := Nat.lt_of_lt_of_le hk00 (hN.1 _)
  exact W.vret hx hb hr (fun t ht hW => ⟨⟨(τ135, bd), rfl, ⟨hF, hN⟩, tw_at hP ht⟩, hS.F ht⟩) hS.2.2 dX10_init_292
