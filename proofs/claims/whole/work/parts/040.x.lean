def L_J7_fill_53178_5 (f0 n0 : Nat) (p0 : Nat) (u1 : Int32) (u3 : Int32) (Q : tw_T → Prop) (EX : tw_T → Int32 → Prop) : Nat → tw_T → Int32 → Prop
  | 0, _, _ => False
  | n + 1, τ, u2 => ((u3 ≤ u2 → (EX τ u2)) ∧ (¬ u3 ≤ u2 → (vp_in u2 n0 ∧ (∀ τ3 : tw_T, τ3 = sI τ f0 p0 u2.toNatClampNeg u1 → (∀ z4 : Int32, z4 = u2 + (1 : Int32) → (L_J7_fill_53178_5 f0 n0 p0 u1 u3 Q EX n τ3 z4))))))
def F_J7_fill_53178 (τ0 : tw_T) (f0 : Nat) (n0 : Nat) (k0 : Nat) (x1 : Int32) (Q : tw_T → Prop) : Prop := ∀ z5 : Int32, z5 = Int32.ofNat n0 → (∃ n6 : Nat, L_J7_fill_53178_5 f0 n0 k0 x1 z5 Q (fun (τ7 : tw_T) (z8 : Int32) => Q τ7) n6 τ0 ((0 : Int32)))
def rmJ7_fill_53178 : Room := { frames := 0, cells := 0, slots := 0, locals := 0 }
set_option maxHeartbeats 4000000 in
set_option maxRecDepth 100000 in
theorem mJ7_fill_53178 (l : Launch) (dC : Nat → ClassId) (dI : Nat → Nat → Nat) (ac : Nat → ClassId) (sa : Nat → Nat) (A : Nat → Prop) (ad : Nat → Nat → Nat) (τ0 : tw_T) (f0 : Nat) (n0 : Nat) (k0 : Nat) (x1 : Int32) (Q : tw_T → Prop) (hF : F_J7_fill_53178 τ0 f0 n0 k0 x1 Q) (hf0 : f0 < 1000) (ht0 : tbX f0 = .inr (0, n0, 0)) (hk0 : k0 < gN τ0 f0) : Met l yJ7_fill_53178 wsJ7_fill_53178 rmJ7_fill_53178 (va_Pc [.ref (ad f0 k0), .int x1] (BX dC dI ac sa A ad τ0)) (va_Qv (fun (u : tw_T) => Q u ∧ gN u = gN τ0) (fun u t => PX dC dI ac A ad u t.heap) A) 0 0 A := by
  refine Met.ofW (cc := cJ7_fill_53178) (maxL := 4) (ret := none) (by decide) rfl ?_
  intro p e s m args below meth c s₁ B hml hv
  obtain ⟨rfl, hP, hK, hA, hZ⟩ := hv
  have hx := B.exec
  have hb := B.bytes
  have hr := B.returns
  have hts := atoms_spec (ws := wsJ7_fill_53178) B.pre
  have hown : s.vm.findClass RJ7 = some m.cls := findClass_of_methodNamed B.named
  have hlocks := B.notSynchronized
  have hS : va_S A s.heap s.heap [] := va_S.rf
  have hN : gN τ0 = gN τ0 := rfl
  have hl := lv_entry ([.ref (ad f0 k0), .int x1]) (n := 4) (Nat.le_of_ble_eq_true rfl)
  rw [lg_entry_eq]
  generalize (lg_sl ([.ref (ad f0 k0), .int x1]) ++ List.replicate (4 - (lg_sl ([.ref (ad f0 k0), .int x1])).length) Slot.unset).toArray = ls at hl ⊢
  have hl : lv_has ls 4 [(0, .ref (ad f0 k0)), (1, .int x1)] := hl
  unfold F_J7_fill_53178 at hF
  have l5 : ∀ (p0 : Nat) (hp0 : p0 < gN τ0 f0) (u1 : Int32) (u3 : Int32) (EX : tw_T → Int32 → Prop) (n : Nat) (τ : tw_T) (u2 : Int32) (H : Heap) (locs : List Loc) (ls : Array Slot), L_J7_fill_53178_5 f0 n0 p0 u1 u3 Q EX n τ u2 → PX dC dI ac A ad τ H → gN τ = gN τ0 → va_S A s.heap H locs → lv_has ls 4 [(0, .ref (ad f0 p0)), (1, .int u1), (2, .int u2), (3, .int u3)] → (∀ (τ : tw_T) (u2 : Int32) (H : Heap) (locs : List Loc) (ls : Array Slot), EX τ u2 → PX dC dI ac A ad τ H → gN τ = gN τ0 → va_S A s.heap H locs → lv_has ls 4 [(0, .ref (ad f0 p0)), (1, .int u1), (2, .int u2), (3, .int u3)] → W p l e rmJ7_fill_53178 s m ([.ref (ad f0 k0), .int x1] : List Value).toArray below meth c H locs 0 0 (MQ below (va_Qv (fun (u : tw_T) => Q u ∧ gN u = gN τ0) (fun u t => PX dC dI ac A ad u t.heap) A) ([.ref (ad f0 k0), .int x1] : List Value).toArray s 0 0 A) (F0 m 20 ls [])) → W p l e rmJ7_fill_53178 s m ([.ref (ad f0 k0), .int x1] : List Value).toArray below meth c H locs 0 0 (MQ below (va_Qv (fun (u : tw_T) => Q u ∧ gN u = gN τ0) (fun u t => PX dC dI ac A ad u t.heap) A) ([.ref (ad f0 k0), .int x1] : List Value).toArray s 0 0 A) (F0 m 5 ls []) := by
    intro p0 hp0 u1 u3 EX n
    induction n with
    | zero => intro τ u2 H locs ls hF; exact hF.elim
    | succ n ih =>
      intro τ u2 H locs ls hF hP hN hS hl hEX
      rw [L_J7_fill_53178_5] at hF
      refine lv_iload_n hx hb dJ7_fill_53178_5 rfl (lv_at hl 2 rfl) ?_
      refine lv_iload_n hx hb dJ7_fill_53178_6 rfl (lv_at hl 3 rfl) ?_
      refine lv_icmp_ge (tgt := 20) hx hb dJ7_fill_53178_7 (by decide) (fun c1 => ?_) (fun c1 => ?_)
      · have hF := hF.1 c1
        exact hEX τ u2 _ _ _ hF hP hN hS (lv_sub hl [0, 1, 2, 3] rfl)
      · have hF := hF.2 c1
        refine lv_aload_n hx hb dJ7_fill_53178_10 rfl (lv_at hl 0 rfl) ?_
        refine lv_iload_n hx hb dJ7_fill_53178_11 rfl (lv_at hl 2 rfl) ?_
        refine lv_iload_n hx hb dJ7_fill_53178_12 rfl (lv_at hl 1 rfl) ?_
        obtain ⟨hi2, hF⟩ := hF
        refine tw_iast hx hb hK hP hS hf0 (tw_lt hp0 (congrFun hN f0)) ht0 0 rfl hi2 dJ7_fill_53178_13 (fun H locs hP hS => ?_)
        obtain ⟨τ3, eτ3⟩ : ∃ y : tw_T, y = sI τ f0 p0 u2.toNatClampNeg u1 := ⟨_, rfl⟩
        have hF := hF τ3 eτ3
        rw [← eτ3] at hP
        have hN : gN τ3 = gN τ0 := by rw [eτ3]; exact hN
        obtain ⟨z4, ez4⟩ : ∃ y : Int32, y = u2 + (1 : Int32) := ⟨_, rfl⟩
        have hF := hF z4 ez4
        refine lv_iinc (v := z4) (lv' := [(2, .int z4), (0, .ref (ad f0 p0)), (1, .int u1), (3, .int u3)]) hx hb dJ7_fill_53178_14 hl (k := 2) rfl (by rw [ez4]; rfl) (by decide) rfl (fun ls hl => ?_)
        refine lv_goto (tgt := 5) hx hb dJ7_fill_53178_17 (by decide) ?_
        exact ih τ3 z4 _ _ _ hF hP hN hS (lv_sub hl [1, 2, 0, 3] rfl) hEX
  refine lv_iconst (v := 0) hx hb dJ7_fill_53178_0 (by decide) ?_
  refine lv_istore_n (lv' := [(2, .int ((0 : Int32))), (0, .ref (ad f0 k0)), (1, .int x1)]) hx hb dJ7_fill_53178_1 rfl hl (by decide) rfl (fun ls hl => ?_)
  refine lv_aload_n hx hb dJ7_fill_53178_2 rfl (lv_at hl 1 rfl) ?_
  refine tw_alen (v := Int32.ofNat n0) hx hb hK hP hf0 hk0 ht0 0 rfl rfl dJ7_fill_53178_3 ?_
  refine lv_topi (fun z5 ez5 => ?_)
  have hF := hF z5 ez5
  refine lv_istore_n (lv' := [(3, .int z5), (2, .int ((0 : Int32))), (0, .ref (ad f0 k0)), (1, .int x1)]) hx hb dJ7_fill_53178_4 rfl hl (by decide) rfl (fun ls hl => ?_)
  obtain ⟨n6, hF⟩ := hF
  refine l5 k0 hk0 x1 z5 _ n6 τ0 ((0 : Int32)) _ _ _ hF hP hN hS (lv_sub hl [2, 3, 1, 0] rfl) ?_
  intro τ7 z8 H locs ls hF hP hN hS hl
  exact W.vret hx hb hr (fun t ht hW => ⟨⟨τ7, rfl, ⟨hF, hN⟩, tw_at hP ht⟩, hS.F ht⟩) hS.2.2 dJ7_fill_53178_20
def L_J7_fill_d0a16_6 (f0 n0 : Nat) (p0 : Nat) (u1 : Int64) (u4 : Int32) (Q : tw_T → Prop) (EX : tw_T → Int32 → Prop) : Nat → tw_T → Int32 → Prop
  | 0, _, _ => False
  | n + 1, τ, u3 => ((u4 ≤ u3 → (EX τ u3)) ∧ (¬ u4 ≤ u3 → (vp_in u3 n0 ∧ (∀ τ3 : tw_T, τ3 = sJ τ f0 p0 u3.toNatClampNeg u1 → (∀ z4 : Int32, z4 = u3 + (1 : Int32) → (L_J7_fill_d0a16_6 f0 n0 p0 u1 u4 Q EX n τ3 z4))))))
def F_J7_fill_d0a16 (τ0 : tw_T) (f0 : Nat) (n0 : Nat) (k0 : Nat) (x1 : Int64) (Q : tw_T → Prop) : Prop := ∀ z5 : Int32, z5 = Int32.ofNat n0 → (∃ n6 : Nat, L_J7_fill_d0a16_6 f0 n0 k0 x1 z5 Q (fun (τ7 : tw_T) (z8 : Int32) => Q τ7) n6 τ0 ((0 : Int32)))
def rmJ7_fill_d0a16 : Room := { frames := 0, cells := 0, slots := 0, locals := 0 }
set_option maxHeartbeats 4000000 in
set_option maxRecDepth 100000 in
theorem mJ7_fill_d0a16 (l : Launch) (dC : Nat → ClassId) (dI : Nat → Nat → Nat) (ac : Nat → ClassId) (sa : Nat → Nat) (A : Nat → Prop) (ad : Nat → Nat → Nat) (τ0 : tw_T) (f0 : Nat) (n0 : Nat) (k0 : Nat) (x1 : Int64) (Q : tw_T → Prop) (hF : F_J7_fill_d0a16 τ0 f0 n0 k0 x1 Q) (hf0 : f0 < 1000) (ht0 : tbX f0 = .inr (1, n0, 1)) (hk0 : k0 < gN τ0 f0) : Met l yJ7_fill_d0a16 wsJ7_fill_d0a16 rmJ7_fill_d0a16 (va_Pc [.ref (ad f0 k0), .long x1] (BX dC dI ac sa A ad τ0)) (va_Qv (fun (u : tw_T) => Q u ∧ gN u = gN τ0) (fun u t => PX dC dI ac A ad u t.heap) A) 0 0 A := by
  refine Met.ofW (cc := cJ7_fill_d0a16) (maxL := 5) (ret := none) (by decide) rfl ?_
  intro p e s m args below meth c s₁ B hml hv
  obtain ⟨rfl, hP, hK, hA, hZ⟩ := hv
  have hx := B.exec
  have hb := B.bytes
  have hr := B.returns
  have hts := atoms_spec (ws := wsJ7_fill_d0a16) B.pre
  have hown : s.vm.findClass RJ7 = some m.cls := findClass_of_methodNamed B.named
  have hlocks := B.notSynchronized
  have hS : va_S A s.heap s.heap [] := va_S.rf
  have hN : gN τ0 = gN τ0 := rfl
  have hl := lv_entry ([.ref (ad f0 k0), .long x1]) (n := 5) (Nat.le_of_ble_eq_true rfl)
  rw [lg_entry_eq]
  generalize (lg_sl ([.ref (ad f0 k0), .long x1]) ++ List.replicate (5 - (lg_sl ([.ref (ad f0 k0), .long x1])).length) Slot.unset).toArray = ls at hl ⊢
  have hl : lv_has ls 5 [(0, .ref (ad f0 k0)), (1, .long x1)] := hl
  unfold F_J7_fill_d0a16 at hF
  have l6 : ∀ (p0 : Nat) (hp0 : p0 < gN τ0 f0) (u1 : Int64) (u4 : Int32) (EX : tw_T → Int32 → Prop) (n : Nat) (τ : tw_T) (u3 : Int32) (H : Heap) (locs : List Loc) (ls : Array Slot), L_J7_fill_d0a16_6 f0 n0 p0 u1 u4 Q EX n τ u3 → PX dC dI ac A ad τ H → gN τ = gN τ0 → va_S A s.heap H locs → lv_has ls 5 [(0, .ref (ad f0 p0)), (1, .long u1), (3, .int u3), (4, .int u4)] → (∀ (τ : tw_T) (u3 : Int32) (H : Heap) (locs : List Loc) (ls : Array Slot), EX τ u3 → PX dC dI ac A ad τ H → gN τ = gN τ0 → va_S A s.heap H locs → lv_has ls 5 [(0, .ref (ad f0 p0)), (1, .long u1), (3, .int u3), (4, .int u4)] → W p l e rmJ7_fill_d0a16 s m ([.ref (ad f0 k0), .long x1] : List Value).toArray below meth c H locs 0 0 (MQ below (va_Qv (fun (u : tw_T) => Q u ∧ gN u = gN τ0) (fun u t => PX dC dI ac A ad u t.heap) A) ([.ref (ad f0 k0), .long x1] : List Value).toArray s 0 0 A) (F0 m 22 ls [])) → W p l e rmJ7_fill_d0a16 s m ([.ref (ad f0 k0), .long x1] : List Value).toArray below meth c H locs 0 0 (MQ below (va_Qv (fun (u : tw_T) => Q u ∧ gN u = gN τ0) (fun u t => PX dC dI ac A ad u t.heap) A) ([.ref (ad f0 k0), .long x1] : List Value).toArray s 0 0 A) (F0 m 6 ls []) := by
    intro p0 hp0 u1 u4 EX n
    induction n with
    | zero => intro τ u3 H locs ls hF; exact hF.elim
    | succ n ih =>
      intro τ u3 H locs ls hF hP hN hS hl hEX
      rw [L_J7_fill_d0a16_6] at hF
      refine lv_iload_n hx hb dJ7_fill_d0a16_6 rfl (lv_at hl 2 rfl) ?_
      refine lv_iload hx hb dJ7_fill_d0a16_7 (lv_at hl 3 rfl) ?_
      refine lv_icmp_ge (tgt := 22) hx hb dJ7_fill_d0a16_9 (by decide) (fun c1 => ?_) (fun c1 => ?_)
      · have hF := hF.1 c1
        exact hEX τ u3 _ _ _ hF hP hN hS (lv_sub hl [0, 1, 2, 3] rfl)
      · have hF := hF.2 c1
        refine lv_aload_n hx hb dJ7_fill_d0a16_12 rfl (lv_at hl 0 rfl) ?_
        refine lv_iload_n hx hb dJ7_fill_d0a16_13 rfl (lv_at hl 2 rfl) ?_
        refine lv_lload_n hx hb dJ7_fill_d0a16_14 rfl (lv_at hl 1 rfl) ?_
        obtain ⟨hi2, hF⟩ := hF
        refine tw_last hx hb hK hP hS hf0 (tw_lt hp0 (congrFun hN f0)) ht0 1 rfl hi2 dJ7_fill_d0a16_15 (fun H locs hP hS => ?_)
        obtain ⟨τ3, eτ3⟩ : ∃ y : tw_T, y = sJ τ f0 p0 u3.toNatClampNeg u1 := ⟨_, rfl⟩
        have hF := hF τ3 eτ3
        rw [← eτ3] at hP
        have hN : gN τ3 = gN τ0 := by rw [eτ3]; exact hN
        obtain ⟨z4, ez4⟩ : ∃ y : Int32, y = u3 + (1 : Int32) := ⟨_, rfl⟩
        have hF := hF z4 ez4
        refine lv_iinc (v := z4) (lv' := [(3, .int z4), (0, .ref (ad f0 p0)), (1, .long u1), (4, .int u4)]) hx hb dJ7_fill_d0a16_16 hl (k := 2) rfl (by rw [ez4]; rfl) (by decide) rfl (fun ls hl => ?_)
        refine lv_goto (tgt := 6) hx hb dJ7_fill_d0a16_19 (by decide) ?_
        exact ih τ3 z4 _ _ _ hF hP hN hS (lv_sub hl [1, 2, 0, 3] rfl) hEX
  refine lv_iconst (v := 0) hx hb dJ7_fill_d0a16_0 (by decide) ?_
  refine lv_istore_n (lv' := [(3, .int ((0 : Int32))), (0, .ref (ad f0 k0)), (1, .long x1)]) hx hb dJ7_fill_d0a16_1 rfl hl (by decide) rfl (fun ls hl => ?_)
  refine lv_aload_n hx hb dJ7_fill_d0a16_2 rfl (lv_at hl 1 rfl) ?_
  refine tw_alen (v := Int32.ofNat n0) hx hb hK hP hf0 hk0 ht0 1 rfl rfl dJ7_fill_d0a16_3 ?_
  refine lv_topi (fun z5 ez5 => ?_)
  have hF := hF z5 ez5
  refine lv_istore (lv' := [(4, .int z5), (3, .int ((0 : Int32))), (0, .ref (ad f0 k0)), (1, .long x1)]) hx hb dJ7_fill_d0a16_4 hl (by decide) rfl (fun ls hl => ?_)
  obtain ⟨n6, hF⟩ := hF
  refine l6 k0 hk0 x1 z5 _ n6 τ0 ((0 : Int32)) _ _ _ hF hP hN hS (lv_sub hl [2, 3, 1, 0] rfl) ?_
  intro τ7 z8 H locs ls hF hP hN hS hl
  exact W.vret hx hb hr (fun t ht hW => ⟨⟨τ7, rfl, ⟨hF, hN⟩, tw_at hP ht⟩, hS.F ht⟩) hS.2.2 dJ7_fill_d0a16_22
def F_X5_isEmpty (τ0 : tw_T) (k0 : Nat) (x1 : Int32) (Q : Int32 → tw_T → Prop) : Prop := ∃ o1 : Nat, gR τ0 5 k0 1 = some o1 ∧ (vp_in x1 30 ∧ (((¬ (gI τ0 13 o1 x1.toNatClampNeg) = 0 → (Q ((0 : Int32)) τ0)) ∧ ((gI τ0 13 o1 x1.toNatClampNeg) = 0 → (Q ((1 : Int32)) τ0)))))
def rmX5_isEmpty : Room := { frames := 0, cells := 0, slots := 0, locals := 0 }
set_option maxHeartbeats 4000000 in
set_option maxRecDepth 100000 in
theorem mX5_isEmpty (l : Launch) (dC : Nat → ClassId) (dI : Nat → Nat → Nat) (ac : Nat → ClassId) (sa : Nat → Nat) (A : Nat → Prop) (ad : Nat → Nat → Nat) (τ0 : tw_T) (k0 : Nat) (x1 : Int32) (Q : Int32 → tw_T → Prop) (hF : F_X5_isEmpty τ0 k0 x1 Q) (hk0 : k0 < gN τ0 5) : Met l yX5_isEmpty wsX5_isEmpty rmX5_isEmpty (va_Pc [.ref (ad 5 k0), .int x1] (BX dC dI ac sa A ad τ0)) (va_Qi (fun r (u : tw_T) => Q r u ∧ gN u = gN τ0) (fun u t => PX dC dI ac A ad u t.heap) A) 0 0 A := by
  refine Met.ofW (cc := cX5_isEmpty) (maxL := 2) (ret := (some .boolean)) (by decide) rfl ?_
  intro p e s m args below meth c s₁ B hml hv
  obtain ⟨rfl, hP, hK, hA, hZ⟩ := hv
  have hx := B.exec
  have hb := B.bytes
  have hr := B.returns
  have hts := atoms_spec (ws := wsX5_isEmpty) B.pre
  have hown : s.vm.findClass RX5 = some m.cls := findClass_of_methodNamed B.named
  have hlocks := B.notSynchronized
  have hS : va_S A s.heap s.heap [] := va_S.rf
  have hN : gN τ0 = gN τ0 := rfl
  have hl := lv_entry ([.ref (ad 5 k0), .int x1]) (n := 2) (Nat.le_of_ble_eq_true rfl)
  rw [lg_entry_eq]
  generalize (lg_sl ([.ref (ad 5 k0), .int x1]) ++ List.replicate (2 - (lg_sl ([.ref (ad 5 k0), .int x1])).length) Slot.unset).toArray = ls at hl ⊢
  have hl : lv_has ls 2 [(0, .ref (ad 5 k0)), (1, .int x1)] := hl
  unfold F_X5_isEmpty at hF
  refine lv_aload_n hx hb dX5_isEmpty_0 rfl (lv_at hl 0 rfl) ?_
  obtain ⟨o1, eo1, hF⟩ := hF
  have ho1 : o1 < gN τ0 13 := tw_lt (hP.2.2.2 5 k0 1 o1 (by decide) hk0 eo1) (congrFun hN 13).symm
  refine tw_get (v := .ref (ad 13 o1)) hx hb hts (by decide +kernel) hown hK hP (by decide) hk0 rfl rfl 1 (by decide) (hts (.fieldLink RX5 15 "WineCellar$Rack" "bottles" "[I") (by decide +kernel)) (fun _ h9 => h9) (show some (va_rf ((gR τ0 5 k0 1).map (ad 13))) = some (.ref (ad 13 o1)) by rw [eo1]; rfl) dX5_isEmpty_1 ?_
  refine lv_iload_n hx hb dX5_isEmpty_4 rfl (lv_at hl 1 rfl) ?_
  obtain ⟨hi2, hF⟩ := hF
  refine tw_iald hx hb hK hP (by decide) ho1 rfl 0 rfl hi2 dX5_isEmpty_5 ?_
  refine lv_if_ne (tgt := 13) hx hb dX5_isEmpty_6 (by decide) (fun c3 => ?_) (fun c3 => ?_)
  · have hF := hF.1 c3
    refine lv_iconst (v := 0) hx hb dX5_isEmpty_13 (by decide) ?_
    exact W.zret (v := (0 : Int32)) (ty := .boolean) hx hb hr rfl (fun t ht hW => ⟨⟨((0 : Int32)), τ0, rfl, ⟨hF, hN⟩, tw_at hP ht⟩, hS.F ht⟩) hS.2.2 dX5_isEmpty_14
  · have hF := hF.2 c3
    refine lv_iconst (v := 1) hx hb dX5_isEmpty_9 (by decide) ?_
    refine lv_goto (tgt := 14) hx hb dX5_isEmpty_10 (by decide) ?_
    exact W.zret (v := (1 : Int32)) (ty := .boolean) hx hb hr rfl (fun t ht hW => ⟨⟨((1 : Int32)), τ0, rfl, ⟨hF, hN⟩, tw_at hP ht⟩, hS.F ht⟩) hS.2.2 dX5_isEmpty_14
def F_X5_takesLot (τ0 : tw_T) (k0 : Nat) (x1 : Int32) (x2 : Int32) (Q : Int32 → tw_T → Prop) : Prop := F_X5_isEmpty τ0 k0 x1 (fun (r2 : Int32) (τ1 : tw_T) => (((¬ r2 = 0 → (Q ((1 : Int32)) τ1)) ∧ (r2 = 0 → (∃ o4 : Nat, gR τ1 5 k0 0 = some o4 ∧ (vp_in x1 30 ∧ (((¬ (gI τ1 12 o4 x1.toNatClampNeg) = x2 → (Q ((0 : Int32)) τ1)) ∧ ((gI τ1 12 o4 x1.toNatClampNeg) = x2 → (Q ((1 : Int32)) τ1))))))))))
def rmX5_takesLot : Room := { frames := 1, cells := 0, slots := 0, locals := 21 }
set_option maxHeartbeats 4000000 in
set_option maxRecDepth 100000 in
theorem mX5_takesLot (l : Launch) (dC : Nat → ClassId) (dI : Nat → Nat → Nat) (ac : Nat → ClassId) (sa : Nat → Nat) (A : Nat → Prop) (ad : Nat → Nat → Nat) (τ0 : tw_T) (k0 : Nat) (x1 : Int32) (x2 : Int32) (Q : Int32 → tw_T → Prop) (hF : F_X5_takesLot τ0 k0 x1 x2 Q) (hk0 : k0 < gN τ0 5) : Met l yX5_takesLot wsX5_takesLot rmX5_takesLot (va_Pc [.ref (ad 5 k0), .int x1, .int x2] (BX dC dI ac sa A ad τ0)) (va_Qi (fun r (u : tw_T) => Q r u ∧ gN u = gN τ0) (fun u t => PX dC dI ac A ad u t.heap) A) 0 0 A := by
  refine Met.ofW (cc := cX5_takesLot) (maxL := 3) (ret := (some .boolean)) (by decide) rfl ?_
  intro p e s m args below meth c s₁ B hml hv
  obtain ⟨rfl, hP, hK, hA, hZ⟩ := hv
  have hx := B.exec
  have hb := B.bytes
  have hr := B.returns
  have hts := atoms_spec (ws := wsX5_takesLot) B.pre
  have hown : s.vm.findClass RX5 = some m.cls := findClass_of_methodNamed B.named
  have hlocks := B.notSynchronized
  have hS : va_S A s.heap s.heap [] := va_S.rf
  have hN : gN τ0 = gN τ0 := rfl
  have hl := lv_entry ([.ref (ad 5 k0), .int x1, .int x2]) (n := 3) (Nat.le_of_ble_eq_true rfl)
  rw [lg_entry_eq]
  generalize (lg_sl ([.ref (ad 5 k0), .int x1, .int x2]) ++ List.replicate (3 - (lg_sl ([.ref (ad 5 k0), .int x1, .int x2])).length) Slot.unset).toArray = ls at hl ⊢
  have hl : lv_has ls 3 [(0, .ref (ad 5 k0)), (1, .int x1), (2, .int x2)] := hl
  unfold F_X5_takesLot at hF
  refine lv_aload_n hx hb dX5_takesLot_0 rfl (lv_at hl 0 rfl) ?_
  refine lv_iload_n hx hb dX5_takesLot_1 rfl (lv_at hl 1 rfl) ?_
  refine va_calli (va_runV (As := [.int x1]) (rest := []) ⟨hx, hb, hml, hown, hts⟩ (mX5_isEmpty l dC dI ac sa A ad τ0 k0 x1 _ hF hk0) (cwV 1 hts gX5_takesLot_X5_isEmpty rfl rfl rfl (by decide +kernel) ⟨Nat.le_of_ble_eq_true rfl, Nat.le_of_ble_eq_true rfl⟩) ⟨BX.blind, tw_recv hK hP (by decide) hk0 rfl rfl, fun U hU hW => ⟨rfl, BX.of hP hK hS hA hZ hU hW⟩⟩ rfl rfl hl.1 rfl (lv_room (Nat.le_of_ble_eq_true rfl)) dX5_takesLot_2 ⟨Nat.le_of_ble_eq_true rfl, Nat.le_of_ble_eq_true rfl⟩) hS (fun q _ h => h) (fun q h => h) (fun r2 τ1 t H locs ht hvm hw hB hz hk hS => ?_)
  obtain ⟨hF, hN9⟩ := hw
  have hP : PX dC dI ac A ad τ1 H := tw_back hB ht
  have hN : gN τ1 = gN τ0 := hN9.trans hN
  refine lv_if_ne (tgt := 18) hx hb dX5_takesLot_5 (by decide) (fun c3 => ?_) (fun c3 => ?_)
  · have hF := hF.1 c3
    refine lv_iconst (v := 1) hx hb dX5_takesLot_18 (by decide) ?_
    refine lv_goto (tgt := 23) hx hb dX5_takesLot_19 (by decide) ?_
    exact W.zret (v := (1 : Int32)) (ty := .boolean) hx hb hr rfl (fun t ht hW => ⟨⟨((1 : Int32)), τ1, rfl, ⟨hF, hN⟩, tw_at hP ht⟩, hS.F ht⟩) hS.2.2 dX5_takesLot_23
  · have hF := hF.2 c3
    refine lv_aload_n hx hb dX5_takesLot_8 rfl (lv_at hl 0 rfl) ?_
    obtain ⟨o4, eo4, hF⟩ := hF
    have ho4 : o4 < gN τ0 12 := tw_lt (hP.2.2.2 5 k0 0 o4 (by decide) (tw_lt hk0 (congrFun hN 5)) eo4) (congrFun hN 12).symm
    refine tw_get (v := .ref (ad 12 o4)) hx hb hts (by decide +kernel) hown hK hP (by decide) (tw_lt hk0 (congrFun hN 5)) rfl rfl 0 (by decide) (hts (.fieldLink RX5 9 "WineCellar$Rack" "lots" "[I") (by decide +kernel)) (fun _ h9 => h9) (show some (va_rf ((gR τ1 5 k0 0).map (ad 12))) = some (.ref (ad 12 o4)) by rw [eo4]; rfl) dX5_takesLot_9 ?_
    refine lv_iload_n hx hb dX5_takesLot_12 rfl (lv_at hl 1 rfl) ?_
    obtain ⟨hi5, hF⟩ := hF
    refine tw_iald hx hb hK hP (by decide) (tw_lt ho4 (congrFun hN 12)) rfl 0 rfl hi5 dX5_takesLot_13 ?_
    refine lv_iload_n hx hb dX5_takesLot_14 rfl (lv_at hl 2 rfl) ?_
    refine lv_icmp_ne (tgt := 22) hx hb dX5_takesLot_15 (by decide) (fun c6 => ?_) (fun c6 => ?_)
    · have hF := hF.1 c6
      refine lv_iconst (v := 0) hx hb dX5_takesLot_22 (by decide) ?_
      exact W.zret (v := (0 : Int32)) (ty := .boolean) hx hb hr rfl (fun t ht hW => ⟨⟨((0 : Int32)), τ1, rfl, ⟨hF, hN⟩, tw_at hP ht⟩, hS.F ht⟩) hS.2.2 dX5_takesLot_23
    · have hF := hF.2 c6
      refine lv_iconst (v := 1) hx hb dX5_takesLot_18 (by decide) ?_
      refine lv_goto (tgt := 23) hx hb dX5_takesLot_19 (by decide) ?_
      exact W.zret (v := (1 : Int32)) (ty := .boolean) hx hb hr rfl (fun t ht hW => ⟨⟨((1 : Int32)), τ1, rfl, ⟨hF, hN⟩, tw_at hP ht⟩, hS.F ht⟩) hS.2.2 dX5_takesLot_23
def F_X5_hasRoom (τ0 : tw_T) (k0 : Nat) (x1 : Int32) (x2 : Int32) (Q : Int32 → tw_T → Prop) : Prop := ∃ o1 : Nat, gR τ0 5 k0 1 = some o1 ∧ (vp_in x1 30 ∧ (((((12 : Int32)) < ((gI τ0 13 o1 x1.toNatClampNeg) + x2) → (Q ((0 : Int32)) τ0)) ∧ (¬ ((12 : Int32)) < ((gI τ0 13 o1 x1.toNatClampNeg) + x2) → (Q ((1 : Int32)) τ0)))))
def rmX5_hasRoom : Room := { frames := 0, cells := 0, slots := 0, locals := 0 }
set_option maxHeartbeats 4000000 in
set_option maxRecDepth 100000 in
theorem mX5_hasRoom (l : Launch) (dC : Nat → ClassId) (dI : Nat → Nat → Nat) (ac : Nat → ClassId) (sa : Nat → Nat) (A : Nat → Prop) (ad : Nat → Nat → Nat) (τ0 : tw_T) (k0 : Nat) (x1 : Int32) (x2 : Int32) (Q : Int32 → tw_T → Prop) (hF : F_X5_hasRoom τ0 k0 x1 x2 Q) (hk0 : k0 < gN τ0 5) : Met l yX5_hasRoom wsX5_hasRoom rmX5_hasRoom (va_Pc [.ref (ad 5 k0), .int x1, .int x2] (BX dC dI ac sa A ad τ0)) (va_Qi (fun r (u : tw_T) => Q r u ∧ gN u = gN τ0) (fun u t => PX dC dI ac A ad u t.heap) A) 0 0 A := by
  refine Met.ofW (cc := cX5_hasRoom) (maxL := 3) (ret := (some .boolean)) (by decide) rfl ?_
  intro p e s m args below meth c s₁ B hml hv
  obtain ⟨rfl, hP, hK, hA, hZ⟩ := hv
  have hx := B.exec
  have hb := B.bytes
  have hr := B.returns
  have hts := atoms_spec (ws := wsX5_hasRoom) B.pre
  have hown : s.vm.findClass RX5 = some m.cls := findClass_of_methodNamed B.named
  have hlocks := B.notSynchronized
  have hS : va_S A s.heap s.heap [] := va_S.rf
  have hN : gN τ0 = gN τ0 := rfl
  have hl := lv_entry ([.ref (ad 5 k0), .int x1, .int x2]) (n := 3) (Nat.le_of_ble_eq_true rfl)
  rw [lg_entry_eq]
  generalize (lg_sl ([.ref (ad 5 k0), .int x1, .int x2]) ++ List.replicate (3 - (lg_sl ([.ref (ad 5 k0), .int x1, .int x2])).length) Slot.unset).toArray = ls at hl ⊢
  have hl : lv_has ls 3 [(0, .ref (ad 5 k0)), (1, .int x1), (2, .int x2)] := hl
  unfold F_X5_hasRoom at hF
  refine lv_aload_n hx hb dX5_hasRoom_0 rfl (lv_at hl 0 rfl) ?_
  obtain ⟨o1, eo1, hF⟩ := hF
  have ho1 : o1 < gN τ0 13 := tw_lt (hP.2.2.2 5 k0 1 o1 (by decide) hk0 eo1) (congrFun hN 13).symm
  refine tw_get (v := .ref (ad 13 o1)) hx hb hts (by decide +kernel) hown hK hP (by decide) hk0 rfl rfl 1 (by decide) (hts (.fieldLink RX5 15 "WineCellar$Rack" "bottles" "[I") (by decide +kernel)) (fun _ h9 => h9) (show some (va_rf ((gR τ0 5 k0 1).map (ad 13))) = some (.ref (ad 13 o1)) by rw [eo1]; rfl) dX5_hasRoom_1 ?_
  refine lv_iload_n hx hb dX5_hasRoom_4 rfl (lv_at hl 1 rfl) ?_
  obtain ⟨hi2, hF⟩ := hF
  refine tw_iald hx hb hK hP (by decide) ho1 rfl 0 rfl hi2 dX5_hasRoom_5 ?_
  refine lv_iload_n hx hb dX5_hasRoom_6 rfl (lv_at hl 2 rfl) ?_
  refine lv_iadd hx hb dX5_hasRoom_7 ?_
  refine lv_bipush (v := 12) hx hb dX5_hasRoom_8 (by decide) ?_
  refine lv_icmp_gt (tgt := 17) hx hb dX5_hasRoom_10 (by decide) (fun c3 => ?_) (fun c3 => ?_)
  · have hF := hF.1 c3
    refine lv_iconst (v := 0) hx hb dX5_hasRoom_17 (by decide) ?_
    exact W.zret (v := (0 : Int32)) (ty := .boolean) hx hb hr rfl (fun t ht hW => ⟨⟨((0 : Int32)), τ0, rfl, ⟨hF, hN⟩, tw_at hP ht⟩, hS.F ht⟩) hS.2.2 dX5_hasRoom_18
  · have hF := hF.2 c3
    refine lv_iconst (v := 1) hx hb dX5_hasRoom_13 (by decide) ?_
    refine lv_goto (tgt := 18) hx hb dX5_hasRoom_14 (by decide) ?_
    exact W.zret (v := (1 : Int32)) (ty := .boolean) hx hb hr rfl (fun t ht hW => ⟨⟨((1 : Int32)), τ0, rfl, ⟨hF, hN⟩, tw_at hP ht⟩, hS.F ht⟩) hS.2.2 dX5_hasRoom_18
def F_X5_add (τ0 : tw_T) (k0 : Nat) (x1 : Int32) (x2 : Int32) (x3 : Int32) (Q : tw_T → Prop) : Prop := ∃ o1 : Nat, gR τ0 5 k0 0 = some o1 ∧ (vp_in x1 30 ∧ (∀ τ3 : tw_T, τ3 = sI τ0 12 o1 x1.toNatClampNeg x2 → (∃ o4 : Nat, gR τ3 5 k0 1 = some o4 ∧ (vp_in x1 30 ∧ (vp_in x1 30 ∧ (∀ τ7 : tw_T, τ7 = sI τ3 13 o4 x1.toNatClampNeg ((gI τ3 13 o4 x1.toNatClampNeg) + x3) → (Q τ7)))))))
def rmX5_add : Room := { frames := 0, cells := 0, slots := 0, locals := 0 }
set_option maxHeartbeats 4000000 in
set_option maxRecDepth 100000 in
theorem mX5_add (l : Launch) (dC : Nat → ClassId) (dI : Nat → Nat → Nat) (ac : Nat → ClassId) (sa : Nat → Nat) (A : Nat → Prop) (ad : Nat → Nat → Nat) (τ0 : tw_T) (k0 : Nat) (x1 : Int32) (x2 : Int32) (x3 : Int32) (Q : tw_T → Prop) (hF : F_X5_add τ0 k0 x1 x2 x3 Q) (hk0 : k0 < gN τ0 5) : Met l yX5_add wsX5_add rmX5_add (va_Pc [.ref (ad 5 k0), .int x1, .int x2, .int x3] (BX dC dI ac sa A ad τ0)) (va_Qv (fun (u : tw_T) => Q u ∧ gN u = gN τ0) (fun u t => PX dC dI ac A ad u t.heap) A) 0 0 A := by
  refine Met.ofW (cc := cX5_add) (maxL := 4) (ret := none) (by decide) rfl ?_
  intro p e s m args below meth c s₁ B hml hv
  obtain ⟨rfl, hP, hK, hA, hZ⟩ := hv
  have hx := B.exec
  have hb := B.bytes
  have hr := B.returns
  have hts := atoms_spec (ws := wsX5_add) B.pre
  have hown : s.vm.findClass RX5 = some m.cls := findClass_of_methodNamed B.named
  have hlocks := B.notSynchronized
  have hS : va_S A s.heap s.heap [] := va_S.rf
  have hN : gN τ0 = gN τ0 := rfl
  have hl := lv_entry ([.ref (ad 5 k0), .int x1, .int x2, .int x3]) (n := 4) (Nat.le_of_ble_eq_true rfl)
  rw [lg_entry_eq]
  generalize (lg_sl ([.ref (ad 5 k0), .int x1, .int x2, .int x3]) ++ List.replicate (4 - (lg_sl ([.ref (ad 5 k0), .int x1, .int x2, .int x3])).length) Slot.unset).toArray = ls at hl ⊢
  have hl : lv_has ls 4 [(0, .ref (ad 5 k0)), (1, .int x1), (2, .int x2), (3, .int x3)] := hl
  unfold F_X5_add at hF
  refine lv_aload_n hx hb dX5_add_0 rfl (lv_at hl 0 rfl) ?_
  obtain ⟨o1, eo1, hF⟩ := hF
  have ho1 : o1 < gN τ0 12 := tw_lt (hP.2.2.2 5 k0 0 o1 (by decide) hk0 eo1) (congrFun hN 12).symm
  refine tw_get (v := .ref (ad 12 o1)) hx hb hts (by decide +kernel) hown hK hP (by decide) hk0 rfl rfl 0 (by decide) (hts (.fieldLink RX5 9 "WineCellar$Rack" "lots" "[I") (by decide +kernel)) (fun _ h9 => h9) (show some (va_rf ((gR τ0 5 k0 0).map (ad 12))) = some (.ref (ad 12 o1)) by rw [eo1]; rfl) dX5_add_1 ?_
  refine lv_iload_n hx hb dX5_add_4 rfl (lv_at hl 1 rfl) ?_
  refine lv_iload_n hx hb dX5_add_5 rfl (lv_at hl 2 rfl) ?_
  obtain ⟨hi2, hF⟩ := hF
  refine tw_iast hx hb hK hP hS (by decide) ho1 rfl 0 rfl hi2 dX5_add_6 (fun H locs hP hS => ?_)
  obtain ⟨τ3, eτ3⟩ : ∃ y : tw_T, y = sI τ0 12 o1 x1.toNatClampNeg x2 := ⟨_, rfl⟩
  have hF := hF τ3 eτ3
  rw [← eτ3] at hP
  have hN : gN τ3 = gN τ0 := by rw [eτ3]; exact hN
  refine lv_aload_n hx hb dX5_add_7 rfl (lv_at hl 0 rfl) ?_
  obtain ⟨o4, eo4, hF⟩ := hF
  have ho4 : o4 < gN τ0 13 := tw_lt (hP.2.2.2 5 k0 1 o4 (by decide) (tw_lt hk0 (congrFun hN 5)) eo4) (congrFun hN 13).symm
  refine tw_get (v := .ref (ad 13 o4)) hx hb hts (by decide +kernel) hown hK hP (by decide) (tw_lt hk0 (congrFun hN 5)) rfl rfl 1 (by decide) (hts (.fieldLink RX5 15 "WineCellar$Rack" "bottles" "[I") (by decide +kernel)) (fun _ h9 => h9) (show some (va_rf ((gR τ3 5 k0 1).map (ad 13))) = some (.ref (ad 13 o4)) by rw [eo4]; rfl) dX5_add_8 ?_
  refine lv_iload_n hx hb dX5_add_11 rfl (lv_at hl 1 rfl) ?_
  refine lv_dup2_11 hx hb dX5_add_12 rfl rfl ?_
  obtain ⟨hi5, hF⟩ := hF
  refine tw_iald hx hb hK hP (by decide) (tw_lt ho4 (congrFun hN 13)) rfl 0 rfl hi5 dX5_add_13 ?_
  refine lv_iload_n hx hb dX5_add_14 rfl (lv_at hl 3 rfl) ?_
  refine lv_iadd hx hb dX5_add_15 ?_
  obtain ⟨hi6, hF⟩ := hF
  refine tw_iast hx hb hK hP hS (by decide) (tw_lt ho4 (congrFun hN 13)) rfl 0 rfl hi6 dX5_add_16 (fun H locs hP hS => ?_)
  obtain ⟨τ7, eτ7⟩ : ∃ y : tw_T, y = sI τ3 13 o4 x1.toNatClampNeg ((gI τ3 13 o4 x1.toNatClampNeg) + x3) := ⟨_, rfl⟩
  have hF := hF τ7 eτ7
  rw [← eτ7] at hP
  have hN : gN τ7 = gN τ0 := by rw [eτ7]; exact hN
  exact W.vret hx hb hr (fun t ht hW => ⟨⟨τ7, rfl, ⟨hF, hN⟩, tw_at hP ht⟩, hS.F ht⟩) hS.2.2 dX5_add_17
def F_X5_remove (τ0 : tw_T) (k0 : Nat) (x1 : Int32) (x2 : Int32) (Q : tw_T → Prop) : Prop := ∃ o1 : Nat, gR τ0 5 k0 1 = some o1 ∧ (vp_in x1 30 ∧ (vp_in x1 30 ∧ (∀ τ4 : tw_T, τ4 = sI τ0 13 o1 x1.toNatClampNeg ((gI τ0 13 o1 x1.toNatClampNeg) - x2) → (∃ o5 : Nat, gR τ4 5 k0 1 = some o5 ∧ (vp_in x1 30 ∧ (((¬ (gI τ4 13 o5 x1.toNatClampNeg) = 0 → (Q τ4)) ∧ ((gI τ4 13 o5 x1.toNatClampNeg) = 0 → (∃ o8 : Nat, gR τ4 5 k0 0 = some o8 ∧ (vp_in x1 30 ∧ (∀ τ10 : tw_T, τ10 = sI τ4 12 o8 x1.toNatClampNeg ((-1 : Int32)) → (Q τ10))))))))))))
def rmX5_remove : Room := { frames := 0, cells := 0, slots := 0, locals := 0 }
set_option maxHeartbeats 4000000 in
set_option maxRecDepth 100000 in
theorem mX5_remove (l : Launch) (dC : Nat → ClassId) (dI : Nat → Nat → Nat) (ac : Nat → ClassId) (sa : Nat → Nat) (A : Nat → Prop) (ad : Nat → Nat → Nat) (τ0 : tw_T) (k0 : Nat) (x1 : Int32) (x2 : Int32) (Q : tw_T → Prop) (hF : F_X5_remove τ0 k0 x1 x2 Q) (hk0 : k0 < gN τ0 5) : Met l yX5_remove wsX5_remove rmX5_remove (va_Pc [.ref (ad 5 k0), .int x1, .int x2] (BX dC dI ac sa A ad τ0)) (va_Qv (fun (u : tw_T) => Q u ∧ gN u = gN τ0) (fun u t => PX dC dI ac A ad u t.heap) A) 0 0 A := by
  refine Met.ofW (cc := cX5_remove) (maxL := 3) (ret := none) (by decide) rfl ?_
  intro p e s m args below meth c s₁ B hml hv
  obtain ⟨rfl, hP, hK, hA, hZ⟩ := hv
  have hx := B.exec
  have hb := B.bytes
  have hr := B.returns
  have hts := atoms_spec (ws := wsX5_remove) B.pre
  have hown : s.vm.findClass RX5 = some m.cls := findClass_of_methodNamed B.named
  have hlocks := B.notSynchronized
  have hS : va_S A s.heap s.heap [] := va_S.rf
  have hN : gN τ0 = gN τ0 := rfl
  have hl := lv_entry ([.ref (ad 5 k0), .int x1, .int x2]) (n := 3) (Nat.le_of_ble_eq_true rfl)
  rw [lg_entry_eq]
  generalize (lg_sl ([.ref (ad 5 k0), .int x1, .int x2]) ++ List.replicate (3 - (lg_sl ([.ref (ad 5 k0), .int x1, .int x2])).length) Slot.unset).toArray = ls at hl ⊢
  have hl : lv_has ls 3 [(0, .ref (ad 5 k0)), (1, .int x1), (2, .int x2)] := hl
  unfold F_X5_remove at hF
  refine lv_aload_n hx hb dX5_remove_0 rfl (lv_at hl 0 rfl) ?_
  obtain ⟨o1, eo1, hF⟩ := hF
  have ho1 : o1 < gN τ0 13 := tw_lt (hP.2.2.2 5 k0 1 o1 (by decide) hk0 eo1) (congrFun hN 13).symm
  refine tw_get (v := .ref (ad 13 o1)) hx hb hts (by decide +kernel) hown hK hP (by decide) hk0 rfl rfl 1 (by decide) (hts (.fieldLink RX5 15 "WineCellar$Rack" "bottles" "[I") (by decide +kernel)) (fun _ h9 => h9) (show some (va_rf ((gR τ0 5 k0 1).map (ad 13))) = some (.ref (ad 13 o1)) by rw [eo1]; rfl) dX5_remove_1 ?_
  refine lv_iload_n hx hb dX5_remove_4 rfl (lv_at hl 1 rfl) ?_
  refine lv_dup2_11 hx hb dX5_remove_5 rfl rfl ?_
  obtain ⟨hi2, hF⟩ := hF
  refine tw_iald hx hb hK hP (by decide) ho1 rfl 0 rfl hi2 dX5_remove_6 ?_
  refine lv_iload_n hx hb dX5_remove_7 rfl (lv_at hl 2 rfl) ?_
  refine lv_isub hx hb dX5_remove_8 ?_
  obtain ⟨hi3, hF⟩ := hF
  refine tw_iast hx hb hK hP hS (by decide) ho1 rfl 0 rfl hi3 dX5_remove_9 (fun H locs hP hS => ?_)
  obtain ⟨τ4, eτ4⟩ : ∃ y : tw_T, y = sI τ0 13 o1 x1.toNatClampNeg ((gI τ0 13 o1 x1.toNatClampNeg) - x2) := ⟨_, rfl⟩
  have hF := hF τ4 eτ4
  rw [← eτ4] at hP
  have hN : gN τ4 = gN τ0 := by rw [eτ4]; exact hN
  refine lv_aload_n hx hb dX5_remove_10 rfl (lv_at hl 0 rfl) ?_
  obtain ⟨o5, eo5, hF⟩ := hF
  have ho5 : o5 < gN τ0 13 := tw_lt (hP.2.2.2 5 k0 1 o5 (by decide) (tw_lt hk0 (congrFun hN 5)) eo5) (congrFun hN 13).symm
  refine tw_get (v := .ref (ad 13 o5)) hx hb hts (by decide +kernel) hown hK hP (by decide) (tw_lt hk0 (congrFun hN 5)) rfl rfl 1 (by decide) (hts (.fieldLink RX5 15 "WineCellar$Rack" "bottles" "[I") (by decide +kernel)) (fun _ h9 => h9) (show some (va_rf ((gR τ4 5 k0 1).map (ad 13))) = some (.ref (ad 13 o5)) by rw [eo5]; rfl) dX5_remove_11 ?_
  refine lv_iload_n hx hb dX5_remove_14 rfl (lv_at hl 1 rfl) ?_
  obtain ⟨hi6, hF⟩ := hF
  refine tw_iald hx hb hK hP (by decide) (tw_lt ho5 (congrFun hN 13)) rfl 0 rfl hi6 dX5_remove_15 ?_
  refine lv_if_ne (tgt := 26) hx hb dX5_remove_16 (by decide) (fun c7 => ?_) (fun c7 => ?_)
  · have hF := hF.1 c7
    exact W.vret hx hb hr (fun t ht hW => ⟨⟨τ4, rfl, ⟨hF, hN⟩, tw_at hP ht⟩, hS.F ht⟩) hS.2.2 dX5_remove_26
  · have hF := hF.2 c7
    refine lv_aload_n hx hb dX5_remove_19 rfl (lv_at hl 0 rfl) ?_
    obtain ⟨o8, eo8, hF⟩ := hF
    have ho8 : o8 < gN τ0 12 := tw_lt (hP.2.2.2 5 k0 0 o8 (by decide) (tw_lt hk0 (congrFun hN 5)) eo8) (congrFun hN 12).symm
    refine tw_get (v := .ref (ad 12 o8)) hx hb hts (by decide +kernel) hown hK hP (by decide) (tw_lt hk0 (congrFun hN 5)) rfl rfl 0 (by decide) (hts (.fieldLink RX5 9 "WineCellar$Rack" "lots" "[I") (by decide +kernel)) (fun _ h9 => h9) (show some (va_rf ((gR τ4 5 k0 0).map (ad 12))) = some (.ref (ad 12 o8)) by rw [eo8]; rfl) dX5_remove_20 ?_
    refine lv_iload_n hx hb dX5_remove_23 rfl (lv_at hl 1 rfl) ?_
    refine lv_iconst (v := (-1)) hx hb dX5_remove_24 (by decide) ?_
    obtain ⟨hi9, hF⟩ := hF
    refine tw_iast hx hb hK hP hS (by decide) (tw_lt ho8 (congrFun hN 12)) rfl 0 rfl hi9 dX5_remove_25 (fun H locs hP hS => ?_)
    obtain ⟨τ10, eτ10⟩ : ∃ y : tw_T, y = sI τ4 12 o8 x1.toNatClampNeg ((-1 : Int32)) := ⟨_, rfl⟩
    have hF := hF τ10 eτ10
    rw [← eτ10] at hP
    have hN : gN τ10 = gN τ0 := by rw [eτ10]; exact hN
    exact W.vret hx hb hr (fun t ht hW => ⟨⟨τ10, rfl, ⟨hF, hN⟩, tw_at hP ht⟩, hS.F ht⟩) hS.2.2 dX5_remove_26
def J_X5_cellOf_34 (τ : tw_T) (p0 : Nat) (u1 : Int32) (u2 : Int32) (u3 : Int32) (u4 : Int32) (Q : Int32 → tw_T → Prop) (RC EX : tw_T → Int32 → Int32 → Prop) : Prop := ∀ z1 : Int32, z1 = u4 + (1 : Int32) → (RC τ u3 z1)
def L_X5_cellOf_5 (p0 : Nat) (u1 : Int32) (u2 : Int32) (Q : Int32 → tw_T → Prop) (EX : tw_T → Int32 → Int32 → Prop) : Nat → tw_T → Int32 → Int32 → Prop
  | 0, _, _, _ => False
  | n + 1, τ, u3, u4 => ((((30 : Int32)) ≤ u4 → (EX τ u3 u4)) ∧ (¬ ((30 : Int32)) ≤ u4 → (∃ o3 : Nat, gR τ 5 p0 0 = some o3 ∧ (vp_in u4 30 ∧ (((¬ (gI τ 12 o3 u4.toNatClampNeg) = u1 → (J_X5_cellOf_34 τ p0 u1 u2 u3 u4 Q (fun t v3 v4 => L_X5_cellOf_5 p0 u1 u2 Q EX n t v3 v4) EX)) ∧ ((gI τ 12 o3 u4.toNatClampNeg) = u1 → (((¬ u3 = u2 → (∀ z7 : Int32, z7 = u3 + (1 : Int32) → (J_X5_cellOf_34 τ p0 u1 u2 z7 u4 Q (fun t v3 v4 => L_X5_cellOf_5 p0 u1 u2 Q EX n t v3 v4) EX))) ∧ (u3 = u2 → (Q u4 τ)))))))))))
def F_X5_cellOf (τ0 : tw_T) (k0 : Nat) (x1 : Int32) (x2 : Int32) (Q : Int32 → tw_T → Prop) : Prop := ∃ n8 : Nat, L_X5_cellOf_5 k0 x1 x2 Q (fun (τ9 : tw_T) (z10 : Int32) (z11 : Int32) => Q ((-1 : Int32)) τ9) n8 τ0 ((0 : Int32)) ((0 : Int32))
def rmX5_cellOf : Room := { frames := 0, cells := 0, slots := 0, locals := 0 }
set_option maxHeartbeats 4000000 in
set_option maxRecDepth 100000 in
theorem mX5_cellOf (l : Launch) (dC : Nat → ClassId) (dI : Nat → Nat → Nat) (ac : Nat → ClassId) (sa : Nat → Nat) (A : Nat → Prop) (ad : Nat → Nat → Nat) (τ0 : tw_T) (k0 : Nat) (x1 : Int32) (x2 : Int32) (Q : Int32 → tw_T → Prop) (hF : F_X5_cellOf τ0 k0 x1 x2 Q) (hk0 : k0 < gN τ0 5) : Met l yX5_cellOf wsX5_cellOf rmX5_cellOf (va_Pc [.ref (ad 5 k0), .int x1, .int x2] (BX dC dI ac sa A ad τ0)) (va_Qi (fun r (u : tw_T) => Q r u ∧ gN u = gN τ0) (fun u t => PX dC dI ac A ad u t.heap) A) 0 0 A := by
  refine Met.ofW (cc := cX5_cellOf) (maxL := 5) (ret := (some .int)) (by decide) rfl ?_
  intro p e s m args below meth c s₁ B hml hv
  obtain ⟨rfl, hP, hK, hA, hZ⟩ := hv
  have hx := B.exec
  have hb := B.bytes
  have hr := B.returns
  have hts := atoms_spec (ws := wsX5_cellOf) B.pre
  have hown : s.vm.findClass RX5 = some m.cls := findClass_of_methodNamed B.named
  have hlocks := B.notSynchronized
  have hS : va_S A s.heap s.heap [] := va_S.rf
  have hN : gN τ0 = gN τ0 := rfl
  have hl := lv_entry ([.ref (ad 5 k0), .int x1, .int x2]) (n := 5) (Nat.le_of_ble_eq_true rfl)
  rw [lg_entry_eq]
  generalize (lg_sl ([.ref (ad 5 k0), .int x1, .int x2]) ++ List.replicate (5 - (lg_sl ([.ref (ad 5 k0), .int x1, .int x2])).length) Slot.unset).toArray = ls at hl ⊢
  have hl : lv_has ls 5 [(0, .ref (ad 5 k0)), (1, .int x1), (2, .int x2)] := hl
  unfold F_X5_cellOf at hF
  have l5 : ∀ (p0 : Nat) (hp0 : p0 < gN τ0 5) (u1 : Int32) (u2 : Int32) (EX : tw_T → Int32 → Int32 → Prop) (n : Nat) (τ : tw_T) (u3 : Int32) (u4 : Int32) (H : Heap) (locs : List Loc) (ls : Array Slot), L_X5_cellOf_5 p0 u1 u2 Q EX n τ u3 u4 → PX dC dI ac A ad τ H → gN τ = gN τ0 → va_S A s.heap H locs → lv_has ls 5 [(0, .ref (ad 5 p0)), (1, .int u1), (2, .int u2), (3, .int u3), (4, .int u4)] → (∀ (τ : tw_T) (u3 : Int32) (u4 : Int32) (H : Heap) (locs : List Loc) (ls : Array Slot), EX τ u3 u4 → PX dC dI ac A ad τ H → gN τ = gN τ0 → va_S A s.heap H locs → lv_has ls 5 [(0, .ref (ad 5 p0)), (1, .int u1), (2, .int u2), (3, .int u3), (4, .int u4)] → W p l e rmX5_cellOf s m ([.ref (ad 5 k0), .int x1, .int x2] : List Value).toArray below meth c H locs 0 0 (MQ below (va_Qi (fun r (u : tw_T) => Q r u ∧ gN u = gN τ0) (fun u t => PX dC dI ac A ad u t.heap) A) ([.ref (ad 5 k0), .int x1, .int x2] : List Value).toArray s 0 0 A) (F0 m 40 ls [])) → W p l e rmX5_cellOf s m ([.ref (ad 5 k0), .int x1, .int x2] : List Value).toArray below meth c H locs 0 0 (MQ below (va_Qi (fun r (u : tw_T) => Q r u ∧ gN u = gN τ0) (fun u t => PX dC dI ac A ad u t.heap) A) ([.ref (ad 5 k0), .int x1, .int x2] : List Value).toArray s 0 0 A) (F0 m 5 ls []) := by
    intro p0 hp0 u1 u2 EX n
    induction n with
    | zero => intro τ u3 u4 H locs ls hF; exact hF.elim
    | succ n ih =>
      intro τ u3 u4 H locs ls hF hP hN hS hl hEX
      rw [L_X5_cellOf_5] at hF
      have j34 : ∀ (τ : tw_T) (p0 : Nat) (hp0 : p0 < gN τ0 5) (u1 : Int32) (u2 : Int32) (u3 : Int32) (u4 : Int32) (H : Heap) (locs : List Loc) (ls : Array Slot) (RC EX : tw_T → Int32 → Int32 → Prop), J_X5_cellOf_34 τ p0 u1 u2 u3 u4 Q RC EX → PX dC dI ac A ad τ H → gN τ = gN τ0 → va_S A s.heap H locs → lv_has ls 5 [(0, .ref (ad 5 p0)), (1, .int u1), (2, .int u2), (3, .int u3), (4, .int u4)] → (∀ (τ : tw_T) (u3 : Int32) (u4 : Int32) (H : Heap) (locs : List Loc) (ls : Array Slot), RC τ u3 u4 → PX dC dI ac A ad τ H → gN τ = gN τ0 → va_S A s.heap H locs → lv_has ls 5 [(0, .ref (ad 5 p0)), (1, .int u1), (2, .int u2), (3, .int u3), (4, .int u4)] → W p l e rmX5_cellOf s m ([.ref (ad 5 k0), .int x1, .int x2] : List Value).toArray below meth c H locs 0 0 (MQ below (va_Qi (fun r (u : tw_T) => Q r u ∧ gN u = gN τ0) (fun u t => PX dC dI ac A ad u t.heap) A) ([.ref (ad 5 k0), .int x1, .int x2] : List Value).toArray s 0 0 A) (F0 m 5 ls [])) → (∀ (τ : tw_T) (u3 : Int32) (u4 : Int32) (H : Heap) (locs : List Loc) (ls : Array Slot), EX τ u3 u4 → PX dC dI ac A ad τ H → gN τ = gN τ0 → va_S A s.heap H locs → lv_has ls 5 [(0, .ref (ad 5 p0)), (1, .int u1), (2, .int u2), (3, .int u3), (4, .int u4)] → W p l e rmX5_cellOf s m ([.ref (ad 5 k0), .int x1, .int x2] : List Value).toArray below meth c H locs 0 0 (MQ below (va_Qi (fun r (u : tw_T) => Q r u ∧ gN u = gN τ0) (fun u t => PX dC dI ac A ad u t.heap) A) ([.ref (ad 5 k0), .int x1, .int x2] : List Value).toArray s 0 0 A) (F0 m 40 ls [])) → W p l e rmX5_cellOf s m ([.ref (ad 5 k0), .int x1, .int x2] : List Value).toArray below meth c H locs 0 0 (MQ below (va_Qi (fun r (u : tw_T) => Q r u ∧ gN u = gN τ0) (fun u t => PX dC dI ac A ad u t.heap) A) ([.ref (ad 5 k0), .int x1, .int x2] : List Value).toArray s 0 0 A) (F0 m 34 ls []) := by
        intro τ p0 hp0 u1 u2 u3 u4 H locs ls RC EX hF hP hN hS hl hRC hEX
        unfold J_X5_cellOf_34 at hF
        obtain ⟨z1, ez1⟩ : ∃ y : Int32, y = u4 + (1 : Int32) := ⟨_, rfl⟩
        have hF := hF z1 ez1
        refine lv_iinc (v := z1) (lv' := [(4, .int z1), (0, .ref (ad 5 p0)), (1, .int u1), (2, .int u2), (3, .int u3)]) hx hb dX5_cellOf_34 hl (k := 4) rfl (by rw [ez1]; rfl) (by decide) rfl (fun ls hl => ?_)
        refine lv_goto (tgt := 5) hx hb dX5_cellOf_37 (by decide) ?_
        exact hRC τ u3 z1 _ _ _ hF hP hN hS (lv_sub hl [1, 2, 3, 4, 0] rfl)
      refine lv_iload hx hb dX5_cellOf_5 (lv_at hl 4 rfl) ?_
      refine lv_bipush (v := 30) hx hb dX5_cellOf_7 (by decide) ?_
      refine lv_icmp_ge (tgt := 40) hx hb dX5_cellOf_9 (by decide) (fun c2 => ?_) (fun c2 => ?_)
      · have hF := hF.1 c2
        exact hEX τ u3 u4 _ _ _ hF hP hN hS (lv_sub hl [0, 1, 2, 3, 4] rfl)
      · have hF := hF.2 c2
        refine lv_aload_n hx hb dX5_cellOf_12 rfl (lv_at hl 0 rfl) ?_
        obtain ⟨o3, eo3, hF⟩ := hF
        have ho3 : o3 < gN τ0 12 := tw_lt (hP.2.2.2 5 p0 0 o3 (by decide) (tw_lt hp0 (congrFun hN 5)) eo3) (congrFun hN 12).symm
        refine tw_get (v := .ref (ad 12 o3)) hx hb hts (by decide +kernel) hown hK hP (by decide) (tw_lt hp0 (congrFun hN 5)) rfl rfl 0 (by decide) (hts (.fieldLink RX5 9 "WineCellar$Rack" "lots" "[I") (by decide +kernel)) (fun _ h9 => h9) (show some (va_rf ((gR τ 5 p0 0).map (ad 12))) = some (.ref (ad 12 o3)) by rw [eo3]; rfl) dX5_cellOf_13 ?_
        refine lv_iload hx hb dX5_cellOf_16 (lv_at hl 4 rfl) ?_
        obtain ⟨hi4, hF⟩ := hF
        refine tw_iald hx hb hK hP (by decide) (tw_lt ho3 (congrFun hN 12)) rfl 0 rfl hi4 dX5_cellOf_18 ?_
        refine lv_iload_n hx hb dX5_cellOf_19 rfl (lv_at hl 1 rfl) ?_
        refine lv_icmp_ne (tgt := 34) hx hb dX5_cellOf_20 (by decide) (fun c5 => ?_) (fun c5 => ?_)
        · have hF := hF.1 c5
          exact j34 τ p0 hp0 u1 u2 u3 u4 _ _ _ _ _ hF hP hN hS (lv_sub hl [0, 1, 2, 3, 4] rfl) (fun t v3 v4 H locs ls hF hP hN hS hl => ih t v3 v4 _ _ _ hF hP hN hS hl hEX) hEX
        · have hF := hF.2 c5
          refine lv_iload_n hx hb dX5_cellOf_23 rfl (lv_at hl 3 rfl) ?_
          refine lv_iload_n hx hb dX5_cellOf_24 rfl (lv_at hl 2 rfl) ?_
          refine lv_icmp_ne (tgt := 31) hx hb dX5_cellOf_25 (by decide) (fun c6 => ?_) (fun c6 => ?_)
          · have hF := hF.1 c6
            obtain ⟨z7, ez7⟩ : ∃ y : Int32, y = u3 + (1 : Int32) := ⟨_, rfl⟩
            have hF := hF z7 ez7
            refine lv_iinc (v := z7) (lv' := [(3, .int z7), (0, .ref (ad 5 p0)), (1, .int u1), (2, .int u2), (4, .int u4)]) hx hb dX5_cellOf_31 hl (k := 3) rfl (by rw [ez7]; rfl) (by decide) rfl (fun ls hl => ?_)
            exact j34 τ p0 hp0 u1 u2 z7 u4 _ _ _ _ _ hF hP hN hS (lv_sub hl [1, 2, 3, 0, 4] rfl) (fun t v3 v4 H locs ls hF hP hN hS hl => ih t v3 v4 _ _ _ hF hP hN hS hl hEX) hEX
          · have hF := hF.2 c6
            refine lv_iload hx hb dX5_cellOf_28 (lv_at hl 4 rfl) ?_
            exact W.iret (v := u4) hx hb hr (fun t ht hW => ⟨⟨u4, τ, rfl, ⟨hF, hN⟩, tw_at hP ht⟩, hS.F ht⟩) hS.2.2 dX5_cellOf_30
  refine lv_iconst (v := 0) hx hb dX5_cellOf_0 (by decide) ?_
  refine lv_istore_n (lv' := [(3, .int ((0 : Int32))), (0, .ref (ad 5 k0)), (1, .int x1), (2, .int x2)]) hx hb dX5_cellOf_1 rfl hl (by decide) rfl (fun ls hl => ?_)
  refine lv_iconst (v := 0) hx hb dX5_cellOf_2 (by decide) ?_
  refine lv_istore (lv' := [(4, .int ((0 : Int32))), (3, .int ((0 : Int32))), (0, .ref (ad 5 k0)), (1, .int x1), (2, .int x2)]) hx hb dX5_cellOf_3 hl (by decide) rfl (fun ls hl => ?_)
  obtain ⟨n8, hF⟩ := hF
  refine l5 k0 hk0 x1 x2 _ n8 τ0 ((0 : Int32)) ((0 : Int32)) _ _ _ hF hP hN hS (lv_sub hl [2, 3, 4, 1, 0] rfl) ?_
  intro τ9 z10 z11 H locs ls hF hP hN hS hl
  refine lv_iconst (v := (-1)) hx hb dX5_cellOf_40 (by decide) ?_
  exact W.iret (v := (-1 : Int32)) hx hb hr (fun t ht hW => ⟨⟨((-1 : Int32)), τ9, rfl, ⟨hF, hN⟩, tw_at hP ht⟩, hS.F ht⟩) hS.2.2 dX5_cellOf_41
def J_X5_bottlesOf_29 (τ : tw_T) (p0 : Nat) (u1 : Int32) (u2 : Int32) (u3 : Int32) (Q : Int32 → tw_T → Prop) (RC EX : tw_T → Int32 → Int32 → Prop) : Prop := ∀ z1 : Int32, z1 = u3 + (1 : Int32) → (RC τ u2 z1)
def L_X5_bottlesOf_4 (p0 : Nat) (u1 : Int32) (Q : Int32 → tw_T → Prop) (EX : tw_T → Int32 → Int32 → Prop) : Nat → tw_T → Int32 → Int32 → Prop
  | 0, _, _, _ => False
  | n + 1, τ, u2, u3 => ((((30 : Int32)) ≤ u3 → (EX τ u2 u3)) ∧ (¬ ((30 : Int32)) ≤ u3 → (∃ o3 : Nat, gR τ 5 p0 0 = some o3 ∧ (vp_in u3 30 ∧ (((¬ (gI τ 12 o3 u3.toNatClampNeg) = u1 → (J_X5_bottlesOf_29 τ p0 u1 u2 u3 Q (fun t v2 v3 => L_X5_bottlesOf_4 p0 u1 Q EX n t v2 v3) EX)) ∧ ((gI τ 12 o3 u3.toNatClampNeg) = u1 → (∃ o6 : Nat, gR τ 5 p0 1 = some o6 ∧ (vp_in u3 30 ∧ (∀ z8 : Int32, z8 = u2 + (gI τ 13 o6 u3.toNatClampNeg) → (J_X5_bottlesOf_29 τ p0 u1 z8 u3 Q (fun t v2 v3 => L_X5_bottlesOf_4 p0 u1 Q EX n t v2 v3) EX)))))))))))
def F_X5_bottlesOf (τ0 : tw_T) (k0 : Nat) (x1 : Int32) (Q : Int32 → tw_T → Prop) : Prop := ∃ n9 : Nat, L_X5_bottlesOf_4 k0 x1 Q (fun (τ10 : tw_T) (z11 : Int32) (z12 : Int32) => Q z11 τ10) n9 τ0 ((0 : Int32)) ((0 : Int32))
def rmX5_bottlesOf : Room := { frames := 0, cells := 0, slots := 0, locals := 0 }
set_option maxHeartbeats 4000000 in
set_option maxRecDepth 100000 in
theorem mX5_bottlesOf (l : Launch) (dC : Nat → ClassId) (dI : Nat → Nat → Nat) (ac : Nat → ClassId) (sa : Nat → Nat) (A : Nat → Prop) (ad : Nat → Nat → Nat) (τ0 : tw_T) (k0 : Nat) (x1 : Int32) (Q : Int32 → tw_T → Prop) (hF : F_X5_bottlesOf τ0 k0 x1 Q) (hk0 : k0 < gN τ0 5) : Met l yX5_bottlesOf wsX5_bottlesOf rmX5_bottlesOf (va_Pc [.ref (ad 5 k0), .int x1] (BX dC dI ac sa A ad τ0)) (va_Qi (fun r (u : tw_T) => Q r u ∧ gN u = gN τ0) (fun u t => PX dC dI ac A ad u t.heap) A) 0 0 A := by
  refine Met.ofW (cc := cX5_bottlesOf) (maxL := 4) (ret := (some .int)) (by decide) rfl ?_
  intro p e s m args below meth c s₁ B hml hv
  obtain ⟨rfl, hP, hK, hA, hZ⟩ := hv
  have hx := B.exec
  have hb := B.bytes
  have hr := B.returns
  have hts := atoms_spec (ws := wsX5_bottlesOf) B.pre
  have hown : s.vm.findClass RX5 = some m.cls := findClass_of_methodNamed B.named
  have hlocks := B.notSynchronized
  have hS : va_S A s.heap s.heap [] := va_S.rf
  have hN : gN τ0 = gN τ0 := rfl
  have hl := lv_entry ([.ref (ad 5 k0), .int x1]) (n := 4) (Nat.le_of_ble_eq_true rfl)
  rw [lg_entry_eq]
  generalize (lg_sl ([.ref (ad 5 k0), .int x1]) ++ List.replicate (4 - (lg_sl ([.ref (ad 5 k0), .int x1])).length) Slot.unset).toArray = ls at hl ⊢
  have hl : lv_has ls 4 [(0, .ref (ad 5 k0)), (1, .int x1)] := hl
  unfold F_X5_bottlesOf at hF
  have l4 : ∀ (p0 : Nat) (hp0 : p0 < gN τ0 5) (u1 : Int32) (EX : tw_T → Int32 → Int32 → Prop) (n : Nat) (τ : tw_T) (u2 : Int32) (u3 : Int32) (H : Heap) (locs : List Loc) (ls : Array Slot), L_X5_bottlesOf_4 p0 u1 Q EX n τ u2 u3 → PX dC dI ac A ad τ H → gN τ = gN τ0 → va_S A s.heap H locs → lv_has ls 4 [(0, .ref (ad 5 p0)), (1, .int u1), (2, .int u2), (3, .int u3)] → (∀ (τ : tw_T) (u2 : Int32) (u3 : Int32) (H : Heap) (locs : List Loc) (ls : Array Slot), EX τ u2 u3 → PX dC dI ac A ad τ H → gN τ = gN τ0 → va_S A s.heap H locs → lv_has ls 4 [(0, .ref (ad 5 p0)), (1, .int u1), (2, .int u2), (3, .int u3)] → W p l e rmX5_bottlesOf s m ([.ref (ad 5 k0), .int x1] : List Value).toArray below meth c H locs 0 0 (MQ below (va_Qi (fun r (u : tw_T) => Q r u ∧ gN u = gN τ0) (fun u t => PX dC dI ac A ad u t.heap) A) ([.ref (ad 5 k0), .int x1] : List Value).toArray s 0 0 A) (F0 m 35 ls [])) → W p l e rmX5_bottlesOf s m ([.ref (ad 5 k0), .int x1] : List Value).toArray below meth c H locs 0 0 (MQ below (va_Qi (fun r (u : tw_T) => Q r u ∧ gN u = gN τ0) (fun u t => PX dC dI ac A ad u t.heap) A) ([.ref (ad 5 k0), .int x1] : List Value).toArray s 0 0 A) (F0 m 4 ls []) := by
    intro p0 hp0 u1 EX n
    induction n with
    | zero => intro τ u2 u3 H locs ls hF; exact hF.elim
    | succ n ih =>
      intro τ u2 u3 H locs ls hF hP hN hS hl hEX
      rw [L_X5_bottlesOf_4] at hF
      have j29 : ∀ (τ : tw_T) (p0 : Nat) (hp0 : p0 < gN τ0 5) (u1 : Int32) (u2 : Int32) (u3 : Int32) (H : Heap) (locs : List Loc) (ls : Array Slot) (RC EX : tw_T → Int32 → Int32 → Prop), J_X5_bottlesOf_29 τ p0 u1 u2 u3 Q RC EX → PX dC dI ac A ad τ H → gN τ = gN τ0 → va_S A s.heap H locs → lv_has ls 4 [(0, .ref (ad 5 p0)), (1, .int u1), (2, .int u2), (3, .int u3)] → (∀ (τ : tw_T) (u2 : Int32) (u3 : Int32) (H : Heap) (locs : List Loc) (ls : Array Slot), RC τ u2 u3 → PX dC dI ac A ad τ H → gN τ = gN τ0 → va_S A s.heap H locs → lv_has ls 4 [(0, .ref (ad 5 p0)), (1, .int u1), (2, .int u2), (3, .int u3)] → W p l e rmX5_bottlesOf s m ([.ref (ad 5 k0), .int x1] : List Value).toArray below meth c H locs 0 0 (MQ below (va_Qi (fun r (u : tw_T) => Q r u ∧ gN u = gN τ0) (fun u t => PX dC dI ac A ad u t.heap) A) ([.ref (ad 5 k0), .int x1] : List Value).toArray s 0 0 A) (F0 m 4 ls [])) → (∀ (τ : tw_T) (u2 : Int32) (u3 : Int32) (H : Heap) (locs : List Loc) (ls : Array Slot), EX τ u2 u3 → PX dC dI ac A ad τ H → gN τ = gN τ0 → va_S A s.heap H locs → lv_has ls 4 [(0, .ref (ad 5 p0)), (1, .int u1), (2, .int u2), (3, .int u3)] → W p l e rmX5_bottlesOf s m ([.ref (ad 5 k0), .int x1] : List Value).toArray below meth c H locs 0 0 (MQ below (va_Qi (fun r (u : tw_T) => Q r u ∧ gN u = gN τ0) (fun u t => PX dC dI ac A ad u t.heap) A) ([.ref (ad 5 k0), .int x1] : List Value).toArray s 0 0 A) (F0 m 35 ls [])) → W p l e rmX5_bottlesOf s m ([.ref (ad 5 k0), .int x1] : List Value).toArray below meth c H locs 0 0 (MQ below (va_Qi (fun r (u : tw_T) => Q r u ∧ gN u = gN τ0) (fun u t => PX dC dI ac A ad u t.heap) A) ([.ref (ad 5 k0), .int x1] : List Value).toArray s 0 0 A) (F0 m 29 ls []) := by
        intro τ p0 hp0 u1 u2 u3 H locs ls RC EX hF hP hN hS hl hRC hEX
        unfold J_X5_bottlesOf_29 at hF
        obtain ⟨z1, ez1⟩ : ∃ y : Int32, y = u3 + (1 : Int32) := ⟨_, rfl⟩
        have hF := hF z1 ez1
        refine lv_iinc (v := z1) (lv' := [(3, .int z1), (0, .ref (ad 5 p0)), (1, .int u1), (2, .int u2)]) hx hb dX5_bottlesOf_29 hl (k := 3) rfl (by rw [ez1]; rfl) (by decide) rfl (fun ls hl => ?_)
        refine lv_goto (tgt := 4) hx hb dX5_bottlesOf_32 (by decide) ?_
        exact hRC τ u2 z1 _ _ _ hF hP hN hS (lv_sub hl [1, 2, 3, 0] rfl)
      refine lv_iload_n hx hb dX5_bottlesOf_4 rfl (lv_at hl 3 rfl) ?_
      refine lv_bipush (v := 30) hx hb dX5_bottlesOf_5 (by decide) ?_
      refine lv_icmp_ge (tgt := 35) hx hb dX5_bottlesOf_7 (by decide) (fun c2 => ?_) (fun c2 => ?_)
      · have hF := hF.1 c2
        exact hEX τ u2 u3 _ _ _ hF hP hN hS (lv_sub hl [0, 1, 2, 3] rfl)
      · have hF := hF.2 c2
        refine lv_aload_n hx hb dX5_bottlesOf_10 rfl (lv_at hl 0 rfl) ?_
        obtain ⟨o3, eo3, hF⟩ := hF
        have ho3 : o3 < gN τ0 12 := tw_lt (hP.2.2.2 5 p0 0 o3 (by decide) (tw_lt hp0 (congrFun hN 5)) eo3) (congrFun hN 12).symm
        refine tw_get (v := .ref (ad 12 o3)) hx hb hts (by decide +kernel) hown hK hP (by decide) (tw_lt hp0 (congrFun hN 5)) rfl rfl 0 (by decide) (hts (.fieldLink RX5 9 "WineCellar$Rack" "lots" "[I") (by decide +kernel)) (fun _ h9 => h9) (show some (va_rf ((gR τ 5 p0 0).map (ad 12))) = some (.ref (ad 12 o3)) by rw [eo3]; rfl) dX5_bottlesOf_11 ?_
        refine lv_iload_n hx hb dX5_bottlesOf_14 rfl (lv_at hl 3 rfl) ?_
        obtain ⟨hi4, hF⟩ := hF
        refine tw_iald hx hb hK hP (by decide) (tw_lt ho3 (congrFun hN 12)) rfl 0 rfl hi4 dX5_bottlesOf_15 ?_
        refine lv_iload_n hx hb dX5_bottlesOf_16 rfl (lv_at hl 1 rfl) ?_
        refine lv_icmp_ne (tgt := 29) hx hb dX5_bottlesOf_17 (by decide) (fun c5 => ?_) (fun c5 => ?_)
        · have hF := hF.1 c5
          exact j29 τ p0 hp0 u1 u2 u3 _ _ _ _ _ hF hP hN hS (lv_sub hl [0, 1, 2, 3] rfl) (fun t v2 v3 H locs ls hF hP hN hS hl => ih t v2 v3 _ _ _ hF hP hN hS hl hEX) hEX
        · have hF := hF.2 c5
          refine lv_iload_n hx hb dX5_bottlesOf_20 rfl (lv_at hl 2 rfl) ?_
          refine lv_aload_n hx hb dX5_bottlesOf_21 rfl (lv_at hl 0 rfl) ?_
          obtain ⟨o6, eo6, hF⟩ := hF
          have ho6 : o6 < gN τ0 13 := tw_lt (hP.2.2.2 5 p0 1 o6 (by decide) (tw_lt hp0 (congrFun hN 5)) eo6) (congrFun hN 13).symm
          refine tw_get (v := .ref (ad 13 o6)) hx hb hts (by decide +kernel) hown hK hP (by decide) (tw_lt hp0 (congrFun hN 5)) rfl rfl 1 (by decide) (hts (.fieldLink RX5 15 "WineCellar$Rack" "bottles" "[I") (by decide +kernel)) (fun _ h9 => h9) (show some (va_rf ((gR τ 5 p0 1).map (ad 13))) = some (.ref (ad 13 o6)) by rw [eo6]; rfl) dX5_bottlesOf_22 ?_
          refine lv_iload_n hx hb dX5_bottlesOf_25 rfl (lv_at hl 3 rfl) ?_
          obtain ⟨hi7, hF⟩ := hF
          refine tw_iald hx hb hK hP (by decide) (tw_lt ho6 (congrFun hN 13)) rfl 0 rfl hi7 dX5_bottlesOf_26 ?_
          refine lv_iadd hx hb dX5_bottlesOf_27 ?_
          refine lv_topi (fun z8 ez8 => ?_)
          have hF := hF z8 ez8
          refine lv_istore_n (lv' := [(2, .int z8), (0, .ref (ad 5 p0)), (1, .int u1), (3, .int u3)]) hx hb dX5_bottlesOf_28 rfl hl (by decide) rfl (fun ls hl => ?_)
          exact j29 τ p0 hp0 u1 z8 u3 _ _ _ _ _ hF hP hN hS (lv_sub hl [1, 2, 0, 3] rfl) (fun t v2 v3 H locs ls hF hP hN hS hl => ih t v2 v3 _ _ _ hF hP hN hS hl hEX) hEX
  refine lv_iconst (v := 0) hx hb dX5_bottlesOf_0 (by decide) ?_
  refine lv_istore_n (lv' := [(2, .int ((0 : Int32))), (0, .ref (ad 5 k0)), (1, .int x1)]) hx hb dX5_bottlesOf_1 rfl hl (by decide) rfl (fun ls hl => ?_)
  refine lv_iconst (v := 0) hx hb dX5_bottlesOf_2 (by decide) ?_
  refine lv_istore_n (lv' := [(3, .int ((0 : Int32))), (2, .int ((0 : Int32))), (0, .ref (ad 5 k0)), (1, .int x1)]) hx hb dX5_bottlesOf_3 rfl hl (by decide) rfl (fun ls hl => ?_)
  obtain ⟨n9, hF⟩ := hF
  refine l4 k0 hk0 x1 _ n9 τ0 ((0 : Int32)) ((0 : Int32)) _ _ _ hF hP hN hS (lv_sub hl [2, 3, 1, 0] rfl) ?_
  intro τ10 z11 z12 H locs ls hF hP hN hS hl
  refine lv_iload_n hx hb dX5_bottlesOf_35 rfl (lv_at hl 2 rfl) ?_
  exact W.iret (v := z11) hx hb hr (fun t ht hW => ⟨⟨z11, τ10, rfl, ⟨hF, hN⟩, tw_at hP ht⟩, hS.F ht⟩) hS.2.2 dX5_bottlesOf_36
def L_X5_allBottles_4 (p0 : Nat) (Q : Int32 → tw_T → Prop) (EX : tw_T → Int32 → Int32 → Prop) : Nat → tw_T → Int32 → Int32 → Prop
  | 0, _, _, _ => False
  | n + 1, τ, u1, u2 => ((((30 : Int32)) ≤ u2 → (EX τ u1 u2)) ∧ (¬ ((30 : Int32)) ≤ u2 → (∃ o2 : Nat, gR τ 5 p0 1 = some o2 ∧ (vp_in u2 30 ∧ (∀ z4 : Int32, z4 = u1 + (gI τ 13 o2 u2.toNatClampNeg) → (∀ z5 : Int32, z5 = u2 + (1 : Int32) → (L_X5_allBottles_4 p0 Q EX n τ z4 z5)))))))
def F_X5_allBottles (τ0 : tw_T) (k0 : Nat) (Q : Int32 → tw_T → Prop) : Prop := ∃ n6 : Nat, L_X5_allBottles_4 k0 Q (fun (τ7 : tw_T) (z8 : Int32) (z9 : Int32) => Q z8 τ7) n6 τ0 ((0 : Int32)) ((0 : Int32))
def rmX5_allBottles : Room := { frames := 0, cells := 0, slots := 0, locals := 0 }
set_option maxHeartbeats 4000000 in
set_option maxRecDepth 100000 in
theorem mX5_allBottles (l : Launch) (dC : Nat → ClassId) (dI : Nat → Nat → Nat) (ac : Nat → ClassId) (sa : Nat → Nat) (A : Nat → Prop) (ad : Nat → Nat → Nat) (τ0 : tw_T) (k0 : Nat) (Q : Int32 → tw_T → Prop) (hF : F_X5_allBottles τ0 k0 Q) (hk0 : k0 < gN τ0 5) : Met l yX5_allBottles wsX5_allBottles rmX5_allBottles (va_Pc [.ref (ad 5 k0)] (BX dC dI ac sa A ad τ0)) (va_Qi (fun r (u : tw_T) => Q r u ∧ gN u = gN τ0) (fun u t => PX dC dI ac A ad u t.heap) A) 0 0 A := by
  refine Met.ofW (cc := cX5_allBottles) (maxL := 3) (ret := (some .int)) (by decide) rfl ?_
  intro p e s m args below meth c s₁ B hml hv
  obtain ⟨rfl, hP, hK, hA, hZ⟩ := hv
  have hx := B.exec
  have hb := B.bytes
  have hr := B.returns
  have hts := atoms_spec (ws := wsX5_allBottles) B.pre
  have hown : s.vm.findClass RX5 = some m.cls := findClass_of_methodNamed B.named
  have hlocks := B.notSynchronized
  have hS : va_S A s.heap s.heap [] := va_S.rf
  have hN : gN τ0 = gN τ0 := rfl
  have hl := lv_entry ([.ref (ad 5 k0)]) (n := 3) (Nat.le_of_ble_eq_true rfl)
  rw [lg_entry_eq]
  generalize (lg_sl ([.ref (ad 5 k0)]) ++ List.replicate (3 - (lg_sl ([.ref (ad 5 k0)])).length) Slot.unset).toArray = ls at hl ⊢
  have hl : lv_has ls 3 [(0, .ref (ad 5 k0))] := hl
  unfold F_X5_allBottles at hF
  have l4 : ∀ (p0 : Nat) (hp0 : p0 < gN τ0 5) (EX : tw_T → Int32 → Int32 → Prop) (n : Nat) (τ : tw_T) (u1 : Int32) (u2 : Int32) (H : Heap) (locs : List Loc) (ls : Array Slot), L_X5_allBottles_4 p0 Q EX n τ u1 u2 → PX dC dI ac A ad τ H → gN τ = gN τ0 → va_S A s.heap H locs → lv_has ls 3 [(0, .ref (ad 5 p0)), (1, .int u1), (2, .int u2)] → (∀ (τ : tw_T) (u1 : Int32) (u2 : Int32) (H : Heap) (locs : List Loc) (ls : Array Slot), EX τ u1 u2 → PX dC dI ac A ad τ H → gN τ = gN τ0 → va_S A s.heap H locs → lv_has ls 3 [(0, .ref (ad 5 p0)), (1, .int u1), (2, .int u2)] → W p l e rmX5_allBottles s m ([.ref (ad 5 k0)] : List Value).toArray below meth c H locs 0 0 (MQ below (va_Qi (fun r (u : tw_T) => Q r u ∧ gN u = gN τ0) (fun u t => PX dC dI ac A ad u t.heap) A) ([.ref (ad 5 k0)] : List Value).toArray s 0 0 A) (F0 m 25 ls [])) → W p l e rmX5_allBottles s m ([.ref (ad 5 k0)] : List Value).toArray below meth c H locs 0 0 (MQ below (va_Qi (fun r (u : tw_T) => Q r u ∧ gN u = gN τ0) (fun u t => PX dC dI ac A ad u t.heap) A) ([.ref (ad 5 k0)] : List Value).toArray s 0 0 A) (F0 m 4 ls []) := by
    intro p0 hp0 EX n
    induction n with
    | zero => intro τ u1 u2 H locs ls hF; exact hF.elim
    | succ n ih =>
      intro τ u1 u2 H locs ls hF hP hN hS hl hEX
      rw [L_X5_allBottles_4] at hF
      refine lv_iload_n hx hb dX5_allBottles_4 rfl (lv_at hl 2 rfl) ?_
      refine lv_bipush (v := 30) hx hb dX5_allBottles_5 (by decide) ?_
      refine lv_icmp_ge (tgt := 25) hx hb dX5_allBottles_7 (by decide) (fun c1 => ?_) (fun c1 => ?_)
      · have hF := hF.1 c1
        exact hEX τ u1 u2 _ _ _ hF hP hN hS (lv_sub hl [0, 1, 2] rfl)
      · have hF := hF.2 c1
        refine lv_iload_n hx hb dX5_allBottles_10 rfl (lv_at hl 1 rfl) ?_
        refine lv_aload_n hx hb dX5_allBottles_11 rfl (lv_at hl 0 rfl) ?_
        obtain ⟨o2, eo2, hF⟩ := hF
        have ho2 : o2 < gN τ0 13 := tw_lt (hP.2.2.2 5 p0 1 o2 (by decide) (tw_lt hp0 (congrFun hN 5)) eo2) (congrFun hN 13).symm
        refine tw_get (v := .ref (ad 13 o2)) hx hb hts (by decide +kernel) hown hK hP (by decide) (tw_lt hp0 (congrFun hN 5)) rfl rfl 1 (by decide) (hts (.fieldLink RX5 15 "WineCellar$Rack" "bottles" "[I") (by decide +kernel)) (fun _ h9 => h9) (show some (va_rf ((gR τ 5 p0 1).map (ad 13))) = some (.ref (ad 13 o2)) by rw [eo2]; rfl) dX5_allBottles_12 ?_
        refine lv_iload_n hx hb dX5_allBottles_15 rfl (lv_at hl 2 rfl) ?_
        obtain ⟨hi3, hF⟩ := hF
        refine tw_iald hx hb hK hP (by decide) (tw_lt ho2 (congrFun hN 13)) rfl 0 rfl hi3 dX5_allBottles_16 ?_
        refine lv_iadd hx hb dX5_allBottles_17 ?_
        refine lv_topi (fun z4 ez4 => ?_)
        have hF := hF z4 ez4
        refine lv_istore_n (lv' := [(1, .int z4), (0, .ref (ad 5 p0)), (2, .int u2)]) hx hb dX5_allBottles_18 rfl hl (by decide) rfl (fun ls hl => ?_)
        obtain ⟨z5, ez5⟩ : ∃ y : Int32, y = u2 + (1 : Int32) := ⟨_, rfl⟩
        have hF := hF z5 ez5
        refine lv_iinc (v := z5) (lv' := [(2, .int z5), (1, .int z4), (0, .ref (ad 5 p0))]) hx hb dX5_allBottles_19 hl (k := 2) rfl (by rw [ez5]; rfl) (by decide) rfl (fun ls hl => ?_)
        refine lv_goto (tgt := 4) hx hb dX5_allBottles_22 (by decide) ?_
        exact ih τ z4 z5 _ _ _ hF hP hN hS (lv_sub hl [2, 1, 0] rfl) hEX
  refine lv_iconst (v := 0) hx hb dX5_allBottles_0 (by decide) ?_
  refine lv_istore_n (lv' := [(1, .int ((0 : Int32))), (0, .ref (ad 5 k0))]) hx hb dX5_allBottles_1 rfl hl (by decide) rfl (fun ls hl => ?_)
  refine lv_iconst (v := 0) hx hb dX5_allBottles_2 (by decide) ?_
  refine lv_istore_n (lv' := [(2, .int ((0 : Int32))), (1, .int ((0 : Int32))), (0, .ref (ad 5 k0))]) hx hb dX5_allBottles_3 rfl hl (by decide) rfl (fun ls hl => ?_)
  obtain ⟨n6, hF⟩ := hF
  refine l4 k0 hk0 _ n6 τ0 ((0 : Int32)) ((0 : Int32)) _ _ _ hF hP hN hS (lv_sub hl [2, 1, 0] rfl) ?_
  intro τ7 z8 z9 H locs ls hF hP hN hS hl
  refine lv_iload_n hx hb dX5_allBottles_25 rfl (lv_at hl 1 rfl) ?_
  exact W.iret (v := z8) hx hb hr (fun t ht hW => ⟨⟨z8, τ7, rfl, ⟨hF, hN⟩, tw_at hP ht⟩, hS.F ht⟩) hS.2.2 dX5_allBottles_26
def F_X3_worthIn (τ0 : tw_T) (k0 : Nat) (x1 : Int32) (Q : Int32 → tw_T → Prop) : Prop := (((gI τ0 21 k0 4) ≤ x1 → (∀ z2 : Int32, z2 = (gI τ0 21 k0 3) + (((gI τ0 21 k0 3) * (((if (gI τ0 21 k0 5) < x1 then (gI τ0 21 k0 5) else x1)) - (gI τ0 21 k0 4))) / ((20 : Int32))) → (((x1 ≤ (gI τ0 21 k0 5) → (Q z2 τ0)) ∧ (¬ x1 ≤ (gI τ0 21 k0 5) → (∃ o4 : Nat, gR τ0 21 k0 1 = some o4 ∧ (((¬ (gI τ0 20 o4 0) = ((2 : Int32)) → (∃ o6 : Nat, gR τ0 21 k0 1 = some o6 ∧ ((((gI τ0 20 o6 0) = ((1 : Int32)) → (Q ((0 : Int32)) τ0)) ∧ (¬ (gI τ0 20 o6 0) = ((1 : Int32)) → ((((x1 - (gI τ0 21 k0 5)) ≤ ((30 : Int32)) → (Q (z2 >>> ((x1 - (gI τ0 21 k0 5)) &&& 31)) τ0)) ∧ (¬ (x1 - (gI τ0 21 k0 5)) ≤ ((30 : Int32)) → (Q ((0 : Int32)) τ0))))))))) ∧ ((gI τ0 20 o4 0) = ((2 : Int32)) → (Q z2 τ0)))))))))) ∧ (¬ (gI τ0 21 k0 4) ≤ x1 → (Q (gI τ0 21 k0 3) τ0)))
def rmX3_worthIn : Room := { frames := 1, cells := 0, slots := 0, locals := 21 }
set_option maxHeartbeats 4000000 in
set_option maxRecDepth 100000 in
theorem mX3_worthIn (l : Launch) (dC : Nat → ClassId) (dI : Nat → Nat → Nat) (ac : Nat → ClassId) (sa : Nat → Nat) (A : Nat → Prop) (ad : Nat → Nat → Nat) (τ0 : tw_T) (k0 : Nat) (x1 : Int32) (Q : Int32 → tw_T → Prop) (hF : F_X3_worthIn τ0 k0 x1 Q) (hk0 : k0 < gN τ0 21) : Met l yX3_worthIn wsX3_worthIn rmX3_worthIn (va_Pc [.ref (ad 21 k0), .int x1] (BX dC dI ac sa A ad τ0)) (va_Qi (fun r (u : tw_T) => Q r u ∧ gN u = gN τ0) (fun u t => PX dC dI ac A ad u t.heap) A) 0 0 A := by
  refine Met.ofW (cc := cX3_worthIn) (maxL := 3) (ret := (some .int)) (by decide) rfl ?_
  intro p e s m args below meth c s₁ B hml hv
  obtain ⟨rfl, hP, hK, hA, hZ⟩ := hv
  have hx := B.exec
  have hb := B.bytes
  have hr := B.returns
  have hts := atoms_spec (ws := wsX3_worthIn) B.pre
  have hown : s.vm.findClass RX3 = some m.cls := findClass_of_methodNamed B.named
  have hlocks := B.notSynchronized
  have hS : va_S A s.heap s.heap [] := va_S.rf
  have hN : gN τ0 = gN τ0 := rfl
  have hl := lv_entry ([.ref (ad 21 k0), .int x1]) (n := 3) (Nat.le_of_ble_eq_true rfl)
  rw [lg_entry_eq]
  generalize (lg_sl ([.ref (ad 21 k0), .int x1]) ++ List.replicate (3 - (lg_sl ([.ref (ad 21 k0), .int x1])).length) Slot.unset).toArray = ls at hl ⊢
  have hl : lv_has ls 3 [(0, .ref (ad 21 k0)), (1, .int x1)] := hl
  unfold F_X3_worthIn at hF
  refine lv_iload_n hx hb dX3_worthIn_0 rfl (lv_at hl 1 rfl) ?_
  refine lv_aload_n hx hb dX3_worthIn_1 rfl (lv_at hl 0 rfl) ?_
  refine tw_get (v := .int (gI τ0 21 k0 4)) hx hb hts (by decide +kernel) hown hK hP (by decide) hk0 rfl rfl 4 (by decide) (hts (.fieldLink RX3 36 "WineCellar$Lot" "from" "I") (by decide +kernel)) (fun _ h9 => h9) rfl dX3_worthIn_2 ?_
  refine lv_icmp_ge (tgt := 13) hx hb dX3_worthIn_5 (by decide) (fun c1 => ?_) (fun c1 => ?_)
  · have hF := hF.1 c1
    refine lv_aload_n hx hb dX3_worthIn_13 rfl (lv_at hl 0 rfl) ?_
    refine tw_get (v := .int (gI τ0 21 k0 3)) hx hb hts (by decide +kernel) hown hK hP (by decide) hk0 rfl rfl 3 (by decide) (hts (.fieldLink RX3 28 "WineCellar$Lot" "price" "I") (by decide +kernel)) (fun _ h9 => h9) rfl dX3_worthIn_14 ?_
    refine lv_aload_n hx hb dX3_worthIn_17 rfl (lv_at hl 0 rfl) ?_
    refine tw_get (v := .int (gI τ0 21 k0 3)) hx hb hts (by decide +kernel) hown hK hP (by decide) hk0 rfl rfl 3 (by decide) (hts (.fieldLink RX3 28 "WineCellar$Lot" "price" "I") (by decide +kernel)) (fun _ h9 => h9) rfl dX3_worthIn_18 ?_
    refine lv_iload_n hx hb dX3_worthIn_21 rfl (lv_at hl 1 rfl) ?_
    refine lv_aload_n hx hb dX3_worthIn_22 rfl (lv_at hl 0 rfl) ?_
    refine tw_get (v := .int (gI τ0 21 k0 5)) hx hb hts (by decide +kernel) hown hK hP (by decide) hk0 rfl rfl 5 (by decide) (hts (.fieldLink RX3 42 "WineCellar$Lot" "until" "I") (by decide +kernel)) (fun _ h9 => h9) rfl dX3_worthIn_23 ?_
    refine va_mmin hx hb (hml.trans hl.1.symm) hown (hts (.methodLink RX3 45 Lib.Math.min.name) (by decide +kernel)) (hts (.static Lib.Math.min.name) (by decide +kernel)) (hts (.initialized "java/lang/Math") (by decide +kernel)) (hts (.code Lib.Math.min.name Lib.Math.min.code 2 (some .int)) (by decide +kernel)) (Nat.le_of_ble_eq_true rfl) (Nat.le_of_ble_eq_true rfl) (Nat.zero_le _) (Nat.zero_le _) dX3_worthIn_26 ?_
    refine lv_aload_n hx hb dX3_worthIn_29 rfl (lv_at hl 0 rfl) ?_
    refine tw_get (v := .int (gI τ0 21 k0 4)) hx hb hts (by decide +kernel) hown hK hP (by decide) hk0 rfl rfl 4 (by decide) (hts (.fieldLink RX3 36 "WineCellar$Lot" "from" "I") (by decide +kernel)) (fun _ h9 => h9) rfl dX3_worthIn_30 ?_
    refine lv_isub hx hb dX3_worthIn_33 ?_
    refine lv_imul hx hb dX3_worthIn_34 ?_
    refine lv_bipush (v := 20) hx hb dX3_worthIn_35 (by decide) ?_
    refine lv_idiv hx hb dX3_worthIn_37 (by decide) ?_
    refine lv_iadd hx hb dX3_worthIn_38 ?_
    refine lv_topi (fun z2 ez2 => ?_)
    have hF := hF z2 ez2
    refine lv_istore_n (lv' := [(2, .int z2), (0, .ref (ad 21 k0)), (1, .int x1)]) hx hb dX3_worthIn_39 rfl hl (by decide) rfl (fun ls hl => ?_)
    refine lv_iload_n hx hb dX3_worthIn_40 rfl (lv_at hl 2 rfl) ?_
    refine lv_aload_n hx hb dX3_worthIn_41 rfl (lv_at hl 1 rfl) ?_
    refine tw_get (v := .int (gI τ0 21 k0 5)) hx hb hts (by decide +kernel) hown hK hP (by decide) hk0 rfl rfl 5 (by decide) (hts (.fieldLink RX3 42 "WineCellar$Lot" "until" "I") (by decide +kernel)) (fun _ h9 => h9) rfl dX3_worthIn_42 ?_
    refine lv_icmp_le (tgt := 59) hx hb dX3_worthIn_45 (by decide) (fun c3 => ?_) (fun c3 => ?_)
    · have hF := hF.1 c3
      refine lv_iload_n hx hb dX3_worthIn_59 rfl (lv_at hl 0 rfl) ?_
      exact W.iret (v := z2) hx hb hr (fun t ht hW => ⟨⟨z2, τ0, rfl, ⟨hF, hN⟩, tw_at hP ht⟩, hS.F ht⟩) hS.2.2 dX3_worthIn_60
    · have hF := hF.2 c3
      refine lv_aload_n hx hb dX3_worthIn_48 rfl (lv_at hl 1 rfl) ?_
      obtain ⟨o4, eo4, hF⟩ := hF
      have ho4 : o4 < gN τ0 20 := tw_lt (hP.2.2.2 21 k0 1 o4 (by decide) hk0 eo4) (congrFun hN 20).symm
      refine tw_get (v := .ref (ad 20 o4)) hx hb hts (by decide +kernel) hown hK hP (by decide) hk0 rfl rfl 1 (by decide) (hts (.fieldLink RX3 21 "WineCellar$Lot" "kind" "LWineCellar$Kind;") (by decide +kernel)) (fun _ h9 => h9) (show some (va_rf ((gR τ0 21 k0 1).map (ad 20))) = some (.ref (ad 20 o4)) by rw [eo4]; rfl) dX3_worthIn_49 ?_
      refine tw_get (v := .int (gI τ0 20 o4 0)) hx hb hts (by decide +kernel) hown hK hP (by decide) ho4 rfl rfl 0 (by decide) (hts (.fieldLink RX3 51 "WineCellar$Kind" "sort" "I") (by decide +kernel)) (fun _ h9 => h9) rfl dX3_worthIn_52 ?_
      refine lv_iconst (v := 2) hx hb dX3_worthIn_55 (by decide) ?_
      refine lv_icmp_ne (tgt := 61) hx hb dX3_worthIn_56 (by decide) (fun c5 => ?_) (fun c5 => ?_)
      · have hF := hF.1 c5
        refine lv_aload_n hx hb dX3_worthIn_61 rfl (lv_at hl 1 rfl) ?_
        obtain ⟨o6, eo6, hF⟩ := hF
        have ho6 : o6 < gN τ0 20 := tw_lt (hP.2.2.2 21 k0 1 o6 (by decide) hk0 eo6) (congrFun hN 20).symm
        refine tw_get (v := .ref (ad 20 o6)) hx hb hts (by decide +kernel) hown hK hP (by decide) hk0 rfl rfl 1 (by decide) (hts (.fieldLink RX3 21 "WineCellar$Lot" "kind" "LWineCellar$Kind;") (by decide +kernel)) (fun _ h9 => h9) (show some (va_rf ((gR τ0 21 k0 1).map (ad 20))) = some (.ref (ad 20 o6)) by rw [eo6]; rfl) dX3_worthIn_62 ?_
        refine tw_get (v := .int (gI τ0 20 o6 0)) hx hb hts (by decide +kernel) hown hK hP (by decide) ho6 rfl rfl 0 (by decide) (hts (.fieldLink RX3 51 "WineCellar$Kind" "sort" "I") (by decide +kernel)) (fun _ h9 => h9) rfl dX3_worthIn_65 ?_
        refine lv_iconst (v := 1) hx hb dX3_worthIn_68 (by decide) ?_
        refine lv_icmp_eq (tgt := 83) hx hb dX3_worthIn_69 (by decide) (fun c7 => ?_) (fun c7 => ?_)
        · have hF := hF.1 c7
          refine lv_iconst (v := 0) hx hb dX3_worthIn_83 (by decide) ?_
          refine lv_goto (tgt := 95) hx hb dX3_worthIn_84 (by decide) ?_
          exact W.iret (v := (0 : Int32)) hx hb hr (fun t ht hW => ⟨⟨((0 : Int32)), τ0, rfl, ⟨hF, hN⟩, tw_at hP ht⟩, hS.F ht⟩) hS.2.2 dX3_worthIn_95
        · have hF := hF.2 c7
          refine lv_iload_n hx hb dX3_worthIn_72 rfl (lv_at hl 2 rfl) ?_
          refine lv_aload_n hx hb dX3_worthIn_73 rfl (lv_at hl 1 rfl) ?_
          refine tw_get (v := .int (gI τ0 21 k0 5)) hx hb hts (by decide +kernel) hown hK hP (by decide) hk0 rfl rfl 5 (by decide) (hts (.fieldLink RX3 42 "WineCellar$Lot" "until" "I") (by decide +kernel)) (fun _ h9 => h9) rfl dX3_worthIn_74 ?_
          refine lv_isub hx hb dX3_worthIn_77 ?_
          refine lv_bipush (v := 30) hx hb dX3_worthIn_78 (by decide) ?_
          refine lv_icmp_le (tgt := 87) hx hb dX3_worthIn_80 (by decide) (fun c8 => ?_) (fun c8 => ?_)
          · have hF := hF.1 c8
            refine lv_iload_n hx hb dX3_worthIn_87 rfl (lv_at hl 0 rfl) ?_
            refine lv_iload_n hx hb dX3_worthIn_88 rfl (lv_at hl 2 rfl) ?_
            refine lv_aload_n hx hb dX3_worthIn_89 rfl (lv_at hl 1 rfl) ?_
            refine tw_get (v := .int (gI τ0 21 k0 5)) hx hb hts (by decide +kernel) hown hK hP (by decide) hk0 rfl rfl 5 (by decide) (hts (.fieldLink RX3 42 "WineCellar$Lot" "until" "I") (by decide +kernel)) (fun _ h9 => h9) rfl dX3_worthIn_90 ?_
            refine lv_isub hx hb dX3_worthIn_93 ?_
            refine lv_ishr hx hb dX3_worthIn_94 ?_
            exact W.iret (v := z2 >>> ((x1 - (gI τ0 21 k0 5)) &&& 31)) hx hb hr (fun t ht hW => ⟨⟨(z2 >>> ((x1 - (gI τ0 21 k0 5)) &&& 31)), τ0, rfl, ⟨hF, hN⟩, tw_at hP ht⟩, hS.F ht⟩) hS.2.2 dX3_worthIn_95
          · have hF := hF.2 c8
            refine lv_iconst (v := 0) hx hb dX3_worthIn_83 (by decide) ?_
            refine lv_goto (tgt := 95) hx hb dX3_worthIn_84 (by decide) ?_
            exact W.iret (v := (0 : Int32)) hx hb hr (fun t ht hW => ⟨⟨((0 : Int32)), τ0, rfl, ⟨hF, hN⟩, tw_at hP ht⟩, hS.F ht⟩) hS.2.2 dX3_worthIn_95
      · have hF := hF.2 c5
        refine lv_iload_n hx hb dX3_worthIn_59 rfl (lv_at hl 0 rfl) ?_
        exact W.iret (v := z2) hx hb hr (fun t ht hW => ⟨⟨z2, τ0, rfl, ⟨hF, hN⟩, tw_at hP ht⟩, hS.F ht⟩) hS.2.2 dX3_worthIn_60
  · have hF := hF.2 c1
    refine lv_aload_n hx hb dX3_worthIn_8 rfl (lv_at hl 0 rfl) ?_
    refine tw_get (v := .int (gI τ0 21 k0 3)) hx hb hts (by decide +kernel) hown hK hP (by decide) hk0 rfl rfl 3 (by decide) (hts (.fieldLink RX3 28 "WineCellar$Lot" "price" "I") (by decide +kernel)) (fun _ h9 => h9) rfl dX3_worthIn_9 ?_
    exact W.iret (v := gI τ0 21 k0 3) hx hb hr (fun t ht hW => ⟨⟨(gI τ0 21 k0 3), τ0, rfl, ⟨hF, hN⟩, tw_at hP ht⟩, hS.F ht⟩) hS.2.2 dX3_worthIn_12
def F_X3_isGoodIn (τ0 : tw_T) (k0 : Nat) (x1 : Int32) (Q : Int32 → tw_T → Prop) : Prop := ((x1 < (gI τ0 21 k0 4) → (Q ((0 : Int32)) τ0)) ∧ (¬ x1 < (gI τ0 21 k0 4) → ((((gI τ0 21 k0 5) < x1 → (Q ((0 : Int32)) τ0)) ∧ (¬ (gI τ0 21 k0 5) < x1 → (Q ((1 : Int32)) τ0))))))
def rmX3_isGoodIn : Room := { frames := 0, cells := 0, slots := 0, locals := 0 }
set_option maxHeartbeats 4000000 in
set_option maxRecDepth 100000 in
theorem mX3_isGoodIn (l : Launch) (dC : Nat → ClassId) (dI : Nat → Nat → Nat) (ac : Nat → ClassId) (sa : Nat → Nat) (A : Nat → Prop) (ad : Nat → Nat → Nat) (τ0 : tw_T) (k0 : Nat) (x1 : Int32) (Q : Int32 → tw_T → Prop) (hF : F_X3_isGoodIn τ0 k0 x1 Q) (hk0 : k0 < gN τ0 21) : Met l yX3_isGoodIn wsX3_isGoodIn rmX3_isGoodIn (va_Pc [.ref (ad 21 k0), .int x1] (BX dC dI ac sa A ad τ0)) (va_Qi (fun r (u : tw_T) => Q r u ∧ gN u = gN τ0) (fun u t => PX dC dI ac A ad u t.heap) A) 0 0 A := by
  refine Met.ofW (cc := cX3_isGoodIn) (maxL := 2) (ret := (some .boolean)) (by decide) rfl ?_
  intro p e s m args below meth c s₁ B hml hv
  obtain ⟨rfl, hP, hK, hA, hZ⟩ := hv
  have hx := B.exec
  have hb := B.bytes
  have hr := B.returns
  have hts := atoms_spec (ws := wsX3_isGoodIn) B.pre
  have hown : s.vm.findClass RX3 = some m.cls := findClass_of_methodNamed B.named
  have hlocks := B.notSynchronized
  have hS : va_S A s.heap s.heap [] := va_S.rf
  have hN : gN τ0 = gN τ0 := rfl
  have hl := lv_entry ([.ref (ad 21 k0), .int x1]) (n := 2) (Nat.le_of_ble_eq_true rfl)
  rw [lg_entry_eq]
  generalize (lg_sl ([.ref (ad 21 k0), .int x1]) ++ List.replicate (2 - (lg_sl ([.ref (ad 21 k0), .int x1])).length) Slot.unset).toArray = ls at hl ⊢
  have hl : lv_has ls 2 [(0, .ref (ad 21 k0)), (1, .int x1)] := hl
  unfold F_X3_isGoodIn at hF
  refine lv_iload_n hx hb dX3_isGoodIn_0 rfl (lv_at hl 1 rfl) ?_
  refine lv_aload_n hx hb dX3_isGoodIn_1 rfl (lv_at hl 0 rfl) ?_
  refine tw_get (v := .int (gI τ0 21 k0 4)) hx hb hts (by decide +kernel) hown hK hP (by decide) hk0 rfl rfl 4 (by decide) (hts (.fieldLink RX3 36 "WineCellar$Lot" "from" "I") (by decide +kernel)) (fun _ h9 => h9) rfl dX3_isGoodIn_2 ?_
  refine lv_icmp_lt (tgt := 20) hx hb dX3_isGoodIn_5 (by decide) (fun c1 => ?_) (fun c1 => ?_)
  · have hF := hF.1 c1
    refine lv_iconst (v := 0) hx hb dX3_isGoodIn_20 (by decide) ?_
    exact W.zret (v := (0 : Int32)) (ty := .boolean) hx hb hr rfl (fun t ht hW => ⟨⟨((0 : Int32)), τ0, rfl, ⟨hF, hN⟩, tw_at hP ht⟩, hS.F ht⟩) hS.2.2 dX3_isGoodIn_21
  · have hF := hF.2 c1
    refine lv_iload_n hx hb dX3_isGoodIn_8 rfl (lv_at hl 1 rfl) ?_
    refine lv_aload_n hx hb dX3_isGoodIn_9 rfl (lv_at hl 0 rfl) ?_
    refine tw_get (v := .int (gI τ0 21 k0 5)) hx hb hts (by decide +kernel) hown hK hP (by decide) hk0 rfl rfl 5 (by decide) (hts (.fieldLink RX3 42 "WineCellar$Lot" "until" "I") (by decide +kernel)) (fun _ h9 => h9) rfl dX3_isGoodIn_10 ?_
    refine lv_icmp_gt (tgt := 20) hx hb dX3_isGoodIn_13 (by decide) (fun c2 => ?_) (fun c2 => ?_)
    · have hF := hF.1 c2
      refine lv_iconst (v := 0) hx hb dX3_isGoodIn_20 (by decide) ?_
      exact W.zret (v := (0 : Int32)) (ty := .boolean) hx hb hr rfl (fun t ht hW => ⟨⟨((0 : Int32)), τ0, rfl, ⟨hF, hN⟩, tw_at hP ht⟩, hS.F ht⟩) hS.2.2 dX3_isGoodIn_21
    · have hF := hF.2 c2
      refine lv_iconst (v := 1) hx hb dX3_isGoodIn_16 (by decide) ?_
      refine lv_goto (tgt := 21) hx hb dX3_isGoodIn_17 (by decide) ?_
      exact W.zret (v := (1 : Int32)) (ty := .boolean) hx hb hr rfl (fun t ht hW => ⟨⟨((1 : Int32)), τ0, rfl, ⟨hF, hN⟩, tw_at hP ht⟩, hS.F ht⟩) hS.2.2 dX3_isGoodIn_21
def F_X3_maySellIn (τ0 : tw_T) (k0 : Nat) (x1 : Int32) (Q : Int32 → tw_T → Prop) : Prop := ((x1 < (gI τ0 21 k0 4) → (Q ((0 : Int32)) τ0)) ∧ (¬ x1 < (gI τ0 21 k0 4) → (((x1 ≤ (gI τ0 21 k0 5) → (Q ((1 : Int32)) τ0)) ∧ (¬ x1 ≤ (gI τ0 21 k0 5) → (∃ o3 : Nat, gR τ0 21 k0 1 = some o3 ∧ (((¬ (gI τ0 20 o3 0) = ((2 : Int32)) → (Q ((0 : Int32)) τ0)) ∧ ((gI τ0 20 o3 0) = ((2 : Int32)) → (Q ((1 : Int32)) τ0))))))))))
def rmX3_maySellIn : Room := { frames := 0, cells := 0, slots := 0, locals := 0 }
set_option maxHeartbeats 4000000 in
set_option maxRecDepth 100000 in
theorem mX3_maySellIn (l : Launch) (dC : Nat → ClassId) (dI : Nat → Nat → Nat) (ac : Nat → ClassId) (sa : Nat → Nat) (A : Nat → Prop) (ad : Nat → Nat → Nat) (τ0 : tw_T) (k0 : Nat) (x1 : Int32) (Q : Int32 → tw_T → Prop) (hF : F_X3_maySellIn τ0 k0 x1 Q) (hk0 : k0 < gN τ0 21) : Met l yX3_maySellIn wsX3_maySellIn rmX3_maySellIn (va_Pc [.ref (ad 21 k0), .int x1] (BX dC dI ac sa A ad τ0)) (va_Qi (fun r (u : tw_T) => Q r u ∧ gN u = gN τ0) (fun u t => PX dC dI ac A ad u t.heap) A) 0 0 A := by
  refine Met.ofW (cc := cX3_maySellIn) (maxL := 2) (ret := (some .boolean)) (by decide) rfl ?_
  intro p e s m args below meth c s₁ B hml hv
  obtain ⟨rfl, hP, hK, hA, hZ⟩ := hv
  have hx := B.exec
  have hb := B.bytes
  have hr := B.returns
  have hts := atoms_spec (ws := wsX3_maySellIn) B.pre
  have hown : s.vm.findClass RX3 = some m.cls := findClass_of_methodNamed B.named
  have hlocks := B.notSynchronized
  have hS : va_S A s.heap s.heap [] := va_S.rf
  have hN : gN τ0 = gN τ0 := rfl
  have hl := lv_entry ([.ref (ad 21 k0), .int x1]) (n := 2) (Nat.le_of_ble_eq_true rfl)
  rw [lg_entry_eq]
  generalize (lg_sl ([.ref (ad 21 k0), .int x1]) ++ List.replicate (2 - (lg_sl ([.ref (ad 21 k0), .int x1])).length) Slot.unset).toArray = ls at hl ⊢
  have hl : lv_has ls 2 [(0, .ref (ad 21 k0)), (1, .int x1)] := hl
  unfold F_X3_maySellIn at hF
  refine lv_iload_n hx hb dX3_maySellIn_0 rfl (lv_at hl 1 rfl) ?_
  refine lv_aload_n hx hb dX3_maySellIn_1 rfl (lv_at hl 0 rfl) ?_
  refine tw_get (v := .int (gI τ0 21 k0 4)) hx hb hts (by decide +kernel) hown hK hP (by decide) hk0 rfl rfl 4 (by decide) (hts (.fieldLink RX3 36 "WineCellar$Lot" "from" "I") (by decide +kernel)) (fun _ h9 => h9) rfl dX3_maySellIn_2 ?_
  refine lv_icmp_lt (tgt := 31) hx hb dX3_maySellIn_5 (by decide) (fun c1 => ?_) (fun c1 => ?_)
  · have hF := hF.1 c1
    refine lv_iconst (v := 0) hx hb dX3_maySellIn_31 (by decide) ?_
    exact W.zret (v := (0 : Int32)) (ty := .boolean) hx hb hr rfl (fun t ht hW => ⟨⟨((0 : Int32)), τ0, rfl, ⟨hF, hN⟩, tw_at hP ht⟩, hS.F ht⟩) hS.2.2 dX3_maySellIn_32
  · have hF := hF.2 c1
    refine lv_iload_n hx hb dX3_maySellIn_8 rfl (lv_at hl 1 rfl) ?_
    refine lv_aload_n hx hb dX3_maySellIn_9 rfl (lv_at hl 0 rfl) ?_
    refine tw_get (v := .int (gI τ0 21 k0 5)) hx hb hts (by decide +kernel) hown hK hP (by decide) hk0 rfl rfl 5 (by decide) (hts (.fieldLink RX3 42 "WineCellar$Lot" "until" "I") (by decide +kernel)) (fun _ h9 => h9) rfl dX3_maySellIn_10 ?_
    refine lv_icmp_le (tgt := 27) hx hb dX3_maySellIn_13 (by decide) (fun c2 => ?_) (fun c2 => ?_)
    · have hF := hF.1 c2
      refine lv_iconst (v := 1) hx hb dX3_maySellIn_27 (by decide) ?_
      refine lv_goto (tgt := 32) hx hb dX3_maySellIn_28 (by decide) ?_
      exact W.zret (v := (1 : Int32)) (ty := .boolean) hx hb hr rfl (fun t ht hW => ⟨⟨((1 : Int32)), τ0, rfl, ⟨hF, hN⟩, tw_at hP ht⟩, hS.F ht⟩) hS.2.2 dX3_maySellIn_32
    · have hF := hF.2 c2
      refine lv_aload_n hx hb dX3_maySellIn_16 rfl (lv_at hl 0 rfl) ?_
      obtain ⟨o3, eo3, hF⟩ := hF
      have ho3 : o3 < gN τ0 20 := tw_lt (hP.2.2.2 21 k0 1 o3 (by decide) hk0 eo3) (congrFun hN 20).symm
      refine tw_get (v := .ref (ad 20 o3)) hx hb hts (by decide +kernel) hown hK hP (by decide) hk0 rfl rfl 1 (by decide) (hts (.fieldLink RX3 21 "WineCellar$Lot" "kind" "LWineCellar$Kind;") (by decide +kernel)) (fun _ h9 => h9) (show some (va_rf ((gR τ0 21 k0 1).map (ad 20))) = some (.ref (ad 20 o3)) by rw [eo3]; rfl) dX3_maySellIn_17 ?_
      refine tw_get (v := .int (gI τ0 20 o3 0)) hx hb hts (by decide +kernel) hown hK hP (by decide) ho3 rfl rfl 0 (by decide) (hts (.fieldLink RX3 51 "WineCellar$Kind" "sort" "I") (by decide +kernel)) (fun _ h9 => h9) rfl dX3_maySellIn_20 ?_
      refine lv_iconst (v := 2) hx hb dX3_maySellIn_23 (by decide) ?_
      refine lv_icmp_ne (tgt := 31) hx hb dX3_maySellIn_24 (by decide) (fun c4 => ?_) (fun c4 => ?_)
      · have hF := hF.1 c4
        refine lv_iconst (v := 0) hx hb dX3_maySellIn_31 (by decide) ?_
        exact W.zret (v := (0 : Int32)) (ty := .boolean) hx hb hr rfl (fun t ht hW => ⟨⟨((0 : Int32)), τ0, rfl, ⟨hF, hN⟩, tw_at hP ht⟩, hS.F ht⟩) hS.2.2 dX3_maySellIn_32
      · have hF := hF.2 c4
        refine lv_iconst (v := 1) hx hb dX3_maySellIn_27 (by decide) ?_
        refine lv_goto (tgt := 32) hx hb dX3_maySellIn_28 (by decide) ?_
        exact W.zret (v := (1 : Int32)) (ty := .boolean) hx hb hr rfl (fun t ht hW => ⟨⟨((1 : Int32)), τ0, rfl, ⟨hF, hN⟩, tw_at hP ht⟩, hS.F ht⟩) hS.2.2 dX3_maySellIn_32
def F_X3_tastedYoung (τ0 : tw_T) (k0 : Nat) (Q : tw_T → Prop) : Prop := ∀ τ1 : tw_T, τ1 = sI τ0 21 k0 4 ((if (gI τ0 21 k0 5) < ((gI τ0 21 k0 4) + ((1 : Int32))) then (gI τ0 21 k0 5) else ((gI τ0 21 k0 4) + ((1 : Int32))))) → (Q τ1)
def rmX3_tastedYoung : Room := { frames := 1, cells := 0, slots := 0, locals := 21 }
set_option maxHeartbeats 4000000 in
set_option maxRecDepth 100000 in
theorem mX3_tastedYoung (l : Launch) (dC : Nat → ClassId) (dI : Nat → Nat → Nat) (ac : Nat → ClassId) (sa : Nat → Nat) (A : Nat → Prop) (ad : Nat → Nat → Nat) (τ0 : tw_T) (k0 : Nat) (Q : tw_T → Prop) (hF : F_X3_tastedYoung τ0 k0 Q) (hk0 : k0 < gN τ0 21) : Met l yX3_tastedYoung wsX3_tastedYoung rmX3_tastedYoung (va_Pc [.ref (ad 21 k0)] (BX dC dI ac sa A ad τ0)) (va_Qv (fun (u : tw_T) => Q u ∧ gN u = gN τ0) (fun u t => PX dC dI ac A ad u t.heap) A) 0 0 A := by
  refine Met.ofW (cc := cX3_tastedYoung) (maxL := 1) (ret := none) (by decide) rfl ?_
  intro p e s m args below meth c s₁ B hml hv
  obtain ⟨rfl, hP, hK, hA, hZ⟩ := hv
  have hx := B.exec
  have hb := B.bytes
  have hr := B.returns
  have hts := atoms_spec (ws := wsX3_tastedYoung) B.pre
  have hown : s.vm.findClass RX3 = some m.cls := findClass_of_methodNamed B.named
  have hlocks := B.notSynchronized
  have hS : va_S A s.heap s.heap [] := va_S.rf
  have hN : gN τ0 = gN τ0 := rfl
  have hl := lv_entry ([.ref (ad 21 k0)]) (n := 1) (Nat.le_of_ble_eq_true rfl)
  rw [lg_entry_eq]
  generalize (lg_sl ([.ref (ad 21 k0)]) ++ List.replicate (1 - (lg_sl ([.ref (ad 21 k0)])).length) Slot.unset).toArray = ls at hl ⊢
  have hl : lv_has ls 1 [(0, .ref (ad 21 k0))] := hl
  unfold F_X3_tastedYoung at hF
  refine lv_aload_n hx hb dX3_tastedYoung_0 rfl (lv_at hl 0 rfl) ?_
  refine lv_aload_n hx hb dX3_tastedYoung_1 rfl (lv_at hl 0 rfl) ?_
  refine tw_get (v := .int (gI τ0 21 k0 4)) hx hb hts (by decide +kernel) hown hK hP (by decide) hk0 rfl rfl 4 (by decide) (hts (.fieldLink RX3 36 "WineCellar$Lot" "from" "I") (by decide +kernel)) (fun _ h9 => h9) rfl dX3_tastedYoung_2 ?_
  refine lv_iconst (v := 1) hx hb dX3_tastedYoung_5 (by decide) ?_
  refine lv_iadd hx hb dX3_tastedYoung_6 ?_
  refine lv_aload_n hx hb dX3_tastedYoung_7 rfl (lv_at hl 0 rfl) ?_
  refine tw_get (v := .int (gI τ0 21 k0 5)) hx hb hts (by decide +kernel) hown hK hP (by decide) hk0 rfl rfl 5 (by decide) (hts (.fieldLink RX3 42 "WineCellar$Lot" "until" "I") (by decide +kernel)) (fun _ h9 => h9) rfl dX3_tastedYoung_8 ?_
  refine va_mmin hx hb (hml.trans hl.1.symm) hown (hts (.methodLink RX3 45 Lib.Math.min.name) (by decide +kernel)) (hts (.static Lib.Math.min.name) (by decide +kernel)) (hts (.initialized "java/lang/Math") (by decide +kernel)) (hts (.code Lib.Math.min.name Lib.Math.min.code 2 (some .int)) (by decide +kernel)) (Nat.le_of_ble_eq_true rfl) (Nat.le_of_ble_eq_true rfl) (Nat.zero_le _) (Nat.zero_le _) dX3_tastedYoung_11 ?_
  refine tw_put (τ' := sI τ0 21 k0 4 ((if (gI τ0 21 k0 5) < ((gI τ0 21 k0 4) + ((1 : Int32))) then (gI τ0 21 k0 5) else ((gI τ0 21 k0 4) + ((1 : Int32)))))) (ty := .int) hx hb hts (by decide +kernel) tyX3 tyX3_ok nmX3 hown hK hP hS (by decide) hk0 rfl rfl 4 (by decide) (hts (.fieldLink RX3 36 "WineCellar$Lot" "from" "I") (by decide +kernel)) (fun _ h9 => h9) rfl (by decide +kernel) rfl rfl (Nat.le_of_ble_eq_true rfl) dX3_tastedYoung_14 (fun H1 ha ho => tw_updI hP (by decide) hk0 ha ho) (fun H locs hP hS => ?_)
  obtain ⟨τ1, eτ1⟩ : ∃ y : tw_T, y = sI τ0 21 k0 4 ((if (gI τ0 21 k0 5) < ((gI τ0 21 k0 4) + ((1 : Int32))) then (gI τ0 21 k0 5) else ((gI τ0 21 k0 4) + ((1 : Int32))))) := ⟨_, rfl⟩
  have hF := hF τ1 eτ1
  rw [← eτ1] at hP
  have hN : gN τ1 = gN τ0 := by rw [eτ1]; exact hN
  exact W.vret hx hb hr (fun t ht hW => ⟨⟨τ1, rfl, ⟨hF, hN⟩, tw_at hP ht⟩, hS.F ht⟩) hS.2.2 dX3_tastedYoung_17
def F_X3_tastedReady (τ0 : tw_T) (k0 : Nat) (x1 : Int32) (Q : tw_T → Prop) : Prop := ∀ τ1 : tw_T, τ1 = sI τ0 21 k0 4 ((if x1 < (gI τ0 21 k0 4) then x1 else (gI τ0 21 k0 4))) → (Q τ1)
def rmX3_tastedReady : Room := { frames := 1, cells := 0, slots := 0, locals := 21 }
set_option maxHeartbeats 4000000 in
set_option maxRecDepth 100000 in
theorem mX3_tastedReady (l : Launch) (dC : Nat → ClassId) (dI : Nat → Nat → Nat) (ac : Nat → ClassId) (sa : Nat → Nat) (A : Nat → Prop) (ad : Nat → Nat → Nat) (τ0 : tw_T) (k0 : Nat) (x1 : Int32) (Q : tw_T → Prop) (hF : F_X3_tastedReady τ0 k0 x1 Q) (hk0 : k0 < gN τ0 21) : Met l yX3_tastedReady wsX3_tastedReady rmX3_tastedReady (va_Pc [.ref (ad 21 k0), .int x1] (BX dC dI ac sa A ad τ0)) (va_Qv (fun (u : tw_T) => Q u ∧ gN u = gN τ0) (fun u t => PX dC dI ac A ad u t.heap) A) 0 0 A := by
  refine Met.ofW (cc := cX3_tastedReady) (maxL := 2) (ret := none) (by decide) rfl ?_
  intro p e s m args below meth c s₁ B hml hv
  obtain ⟨rfl, hP, hK, hA, hZ⟩ := hv
  have hx := B.exec
  have hb := B.bytes
  have hr := B.returns
  have hts := atoms_spec (ws := wsX3_tastedReady) B.pre
  have hown : s.vm.findClass RX3 = some m.cls := findClass_of_methodNamed B.named
  have hlocks := B.notSynchronized
  have hS : va_S A s.heap s.heap [] := va_S.rf
  have hN : gN τ0 = gN τ0 := rfl
  have hl := lv_entry ([.ref (ad 21 k0), .int x1]) (n := 2) (Nat.le_of_ble_eq_true rfl)
  rw [lg_entry_eq]
  generalize (lg_sl ([.ref (ad 21 k0), .int x1]) ++ List.replicate (2 - (lg_sl ([.ref (ad 21 k0), .int x1])).length) Slot.unset).toArray = ls at hl ⊢
  have hl : lv_has ls 2 [(0, .ref (ad 21 k0)), (1, .int x1)] := hl
  unfold F_X3_tastedReady at hF
  refine lv_aload_n hx hb dX3_tastedReady_0 rfl (lv_at hl 0 rfl) ?_
  refine lv_aload_n hx hb dX3_tastedReady_1 rfl (lv_at hl 0 rfl) ?_
  refine tw_get (v := .int (gI τ0 21 k0 4)) hx hb hts (by decide +kernel) hown hK hP (by decide) hk0 rfl rfl 4 (by decide) (hts (.fieldLink RX3 36 "WineCellar$Lot" "from" "I") (by decide +kernel)) (fun _ h9 => h9) rfl dX3_tastedReady_2 ?_
  refine lv_iload_n hx hb dX3_tastedReady_5 rfl (lv_at hl 1 rfl) ?_
  refine va_mmin hx hb (hml.trans hl.1.symm) hown (hts (.methodLink RX3 45 Lib.Math.min.name) (by decide +kernel)) (hts (.static Lib.Math.min.name) (by decide +kernel)) (hts (.initialized "java/lang/Math") (by decide +kernel)) (hts (.code Lib.Math.min.name Lib.Math.min.code 2 (some .int)) (by decide +kernel)) (Nat.le_of_ble_eq_true rfl) (Nat.le_of_ble_eq_true rfl) (Nat.zero_le _) (Nat.zero_le _) dX3_tastedReady_6 ?_
  refine tw_put (τ' := sI τ0 21 k0 4 ((if x1 < (gI τ0 21 k0 4) then x1 else (gI τ0 21 k0 4)))) (ty := .int) hx hb hts (by decide +kernel) tyX3 tyX3_ok nmX3 hown hK hP hS (by decide) hk0 rfl rfl 4 (by decide) (hts (.fieldLink RX3 36 "WineCellar$Lot" "from" "I") (by decide +kernel)) (fun _ h9 => h9) rfl (by decide +kernel) rfl rfl (Nat.le_of_ble_eq_true rfl) dX3_tastedReady_9 (fun H1 ha ho => tw_updI hP (by decide) hk0 ha ho) (fun H locs hP hS => ?_)
  obtain ⟨τ1, eτ1⟩ : ∃ y : tw_T, y = sI τ0 21 k0 4 ((if x1 < (gI τ0 21 k0 4) then x1 else (gI τ0 21 k0 4))) := ⟨_, rfl⟩
  have hF := hF τ1 eτ1
  rw [← eτ1] at hP
  have hN : gN τ1 = gN τ0 := by rw [eτ1]; exact hN
  exact W.vret hx hb hr (fun t ht hW => ⟨⟨τ1, rfl, ⟨hF, hN⟩, tw_at hP ht⟩, hS.F ht⟩) hS.2.2 dX3_tastedReady_12
def F_X3_tastedTired (τ0 : tw_T) (k0 : Nat) (x1 : Int32) (Q : tw_T → Prop) : Prop := ∀ τ1 : tw_T, τ1 = sI τ0 21 k0 5 ((if x1 < (gI τ0 21 k0 5) then x1 else (gI τ0 21 k0 5))) → (∀ τ2 : tw_T, τ2 = sI τ1 21 k0 4 ((if (gI τ1 21 k0 5) < (gI τ1 21 k0 4) then (gI τ1 21 k0 5) else (gI τ1 21 k0 4))) → (Q τ2))
def rmX3_tastedTired : Room := { frames := 1, cells := 0, slots := 0, locals := 21 }
set_option maxHeartbeats 4000000 in
set_option maxRecDepth 100000 in
theorem mX3_tastedTired (l : Launch) (dC : Nat → ClassId) (dI : Nat → Nat → Nat) (ac : Nat → ClassId) (sa : Nat → Nat) (A : Nat → Prop) (ad : Nat → Nat → Nat) (τ0 : tw_T) (k0 : Nat) (x1 : Int32) (Q : tw_T → Prop) (hF : F_X3_tastedTired τ0 k0 x1 Q) (hk0 : k0 < gN τ0 21) : Met l yX3_tastedTired wsX3_tastedTired rmX3_tastedTired (va_Pc [.ref (ad 21 k0), .int x1] (BX dC dI ac sa A ad τ0)) (va_Qv (fun (u : tw_T) => Q u ∧ gN u = gN τ0) (fun u t => PX dC dI ac A ad u t.heap) A) 0 0 A := by
  refine Met.ofW (cc := cX3_tastedTired) (maxL := 2) (ret := none) (by decide) rfl ?_
  intro p e s m args below meth c s₁ B hml hv
  obtain ⟨rfl, hP, hK, hA, hZ⟩ := hv
  have hx := B.exec
  have hb := B.bytes
  have hr := B.returns
  have hts := atoms_spec (ws := wsX3_tastedTired) B.pre
  have hown : s.vm.findClass RX3 = some m.cls := findClass_of_methodNamed B.named
  have hlocks := B.notSynchronized
  have hS : va_S A s.heap s.heap [] := va_S.rf
  have hN : gN τ0 = gN τ0 := rfl
  have hl := lv_entry ([.ref (ad 21 k0), .int x1]) (n := 2) (Nat.le_of_ble_eq_true rfl)
  rw [lg_entry_eq]
  generalize (lg_sl ([.ref (ad 21 k0), .int x1]) ++ List.replicate (2 - (lg_sl ([.ref (ad 21 k0), .int x1])).length) Slot.unset).toArray = ls at hl ⊢
  have hl : lv_has ls 2 [(0, .ref (ad 21 k0)), (1, .int x1)] := hl
  unfold F_X3_tastedTired at hF
  refine lv_aload_n hx hb dX3_tastedTired_0 rfl (lv_at hl 0 rfl) ?_
  refine lv_aload_n hx hb dX3_tastedTired_1 rfl (lv_at hl 0 rfl) ?_
  refine tw_get (v := .int (gI τ0 21 k0 5)) hx hb hts (by decide +kernel) hown hK hP (by decide) hk0 rfl rfl 5 (by decide) (hts (.fieldLink RX3 42 "WineCellar$Lot" "until" "I") (by decide +kernel)) (fun _ h9 => h9) rfl dX3_tastedTired_2 ?_
  refine lv_iload_n hx hb dX3_tastedTired_5 rfl (lv_at hl 1 rfl) ?_
  refine va_mmin hx hb (hml.trans hl.1.symm) hown (hts (.methodLink RX3 45 Lib.Math.min.name) (by decide +kernel)) (hts (.static Lib.Math.min.name) (by decide +kernel)) (hts (.initialized "java/lang/Math") (by decide +kernel)) (hts (.code Lib.Math.min.name Lib.Math.min.code 2 (some .int)) (by decide +kernel)) (Nat.le_of_ble_eq_true rfl) (Nat.le_of_ble_eq_true rfl) (Nat.zero_le _) (Nat.zero_le _) dX3_tastedTired_6 ?_
  refine tw_put (τ' := sI τ0 21 k0 5 ((if x1 < (gI τ0 21 k0 5) then x1 else (gI τ0 21 k0 5)))) (ty := .int) hx hb hts (by decide +kernel) tyX3 tyX3_ok nmX3 hown hK hP hS (by decide) hk0 rfl rfl 5 (by decide) (hts (.fieldLink RX3 42 "WineCellar$Lot" "until" "I") (by decide +kernel)) (fun _ h9 => h9) rfl (by decide +kernel) rfl rfl (Nat.le_of_ble_eq_true rfl) dX3_tastedTired_9 (fun H1 ha ho => tw_updI hP (by decide) hk0 ha ho) (fun H locs hP hS => ?_)
  obtain ⟨τ1, eτ1⟩ : ∃ y : tw_T, y = sI τ0 21 k0 5 ((if x1 < (gI τ0 21 k0 5) then x1 else (gI τ0 21 k0 5))) := ⟨_, rfl⟩
  have hF := hF τ1 eτ1
  rw [← eτ1] at hP
  have hN : gN τ1 = gN τ0 := by rw [eτ1]; exact hN
  refine lv_aload_n hx hb dX3_tastedTired_12 rfl (lv_at hl 0 rfl) ?_
  refine lv_aload_n hx hb dX3_tastedTired_13 rfl (lv_at hl 0 rfl) ?_
  refine tw_get (v := .int (gI τ1 21 k0 4)) hx hb hts (by decide +kernel) hown hK hP (by decide) (tw_lt hk0 (congrFun hN 21)) rfl rfl 4 (by decide) (hts (.fieldLink RX3 36 "WineCellar$Lot" "from" "I") (by decide +kernel)) (fun _ h9 => h9) rfl dX3_tastedTired_14 ?_
  refine lv_aload_n hx hb dX3_tastedTired_17 rfl (lv_at hl 0 rfl) ?_
  refine tw_get (v := .int (gI τ1 21 k0 5)) hx hb hts (by decide +kernel) hown hK hP (by decide) (tw_lt hk0 (congrFun hN 21)) rfl rfl 5 (by decide) (hts (.fieldLink RX3 42 "WineCellar$Lot" "until" "I") (by decide +kernel)) (fun _ h9 => h9) rfl dX3_tastedTired_18 ?_
  refine va_mmin hx hb (hml.trans hl.1.symm) hown (hts (.methodLink RX3 45 Lib.Math.min.name) (by decide +kernel)) (hts (.static Lib.Math.min.name) (by decide +kernel)) (hts (.initialized "java/lang/Math") (by decide +kernel)) (hts (.code Lib.Math.min.name Lib.Math.min.code 2 (some .int)) (by decide +kernel)) (Nat.le_of_ble_eq_true rfl) (Nat.le_of_ble_eq_true rfl) (Nat.zero_le _) (Nat.zero_le _) dX3_tastedTired_21 ?_
  refine tw_put (τ' := sI τ1 21 k0 4 ((if (gI τ1 21 k0 5) < (gI τ1 21 k0 4) then (gI τ1 21 k0 5) else (gI τ1 21 k0 4)))) (ty := .int) hx hb hts (by decide +kernel) tyX3 tyX3_ok nmX3 hown hK hP hS (by decide) (tw_lt hk0 (congrFun hN 21)) rfl rfl 4 (by decide) (hts (.fieldLink RX3 36 "WineCellar$Lot" "from" "I") (by decide +kernel)) (fun _ h9 => h9) rfl (by decide +kernel) rfl rfl (Nat.le_of_ble_eq_true rfl) dX3_tastedTired_24 (fun H1 ha ho => tw_updI hP (by decide) (tw_lt hk0 (congrFun hN 21)) ha ho) (fun H locs hP hS => ?_)
  obtain ⟨τ2, eτ2⟩ : ∃ y : tw_T, y = sI τ1 21 k0 4 ((if (gI τ1 21 k0 5) < (gI τ1 21 k0 4) then (gI τ1 21 k0 5) else (gI τ1 21 k0 4))) := ⟨_, rfl⟩
  have hF := hF τ2 eτ2
  rw [← eτ2] at hP
  have hN : gN τ2 = gN τ0 := by rw [eτ2]; exact hN
  exact W.vret hx hb hr (fun t ht hW => ⟨⟨τ2, rfl, ⟨hF, hN⟩, tw_at hP ht⟩, hS.F ht⟩) hS.2.2 dX3_tastedTired_27
def F_X3_tastedFine (τ0 : tw_T) (k0 : Nat) (Q : tw_T → Prop) : Prop := ∀ τ1 : tw_T, τ1 = sI τ0 21 k0 5 ((gI τ0 21 k0 5) + ((2 : Int32))) → (Q τ1)
def rmX3_tastedFine : Room := { frames := 0, cells := 0, slots := 0, locals := 0 }
set_option maxHeartbeats 4000000 in
set_option maxRecDepth 100000 in
theorem mX3_tastedFine (l : Launch) (dC : Nat → ClassId) (dI : Nat → Nat → Nat) (ac : Nat → ClassId) (sa : Nat → Nat) (A : Nat → Prop) (ad : Nat → Nat → Nat) (τ0 : tw_T) (k0 : Nat) (Q : tw_T → Prop) (hF : F_X3_tastedFine τ0 k0 Q) (hk0 : k0 < gN τ0 21) : Met l yX3_tastedFine wsX3_tastedFine rmX3_tastedFine (va_Pc [.ref (ad 21 k0)] (BX dC dI ac sa A ad τ0)) (va_Qv (fun (u : tw_T) => Q u ∧ gN u = gN τ0) (fun u t => PX dC dI ac A ad u t.heap) A) 0 0 A := by
  refine Met.ofW (cc := cX3_tastedFine) (maxL := 1) (ret := none) (by decide) rfl ?_
  intro p e s m args below meth c s₁ B hml hv
  obtain ⟨rfl, hP, hK, hA, hZ⟩ := hv
  have hx := B.exec
  have hb := B.bytes
  have hr := B.returns
  have hts := atoms_spec (ws := wsX3_tastedFine) B.pre
  have hown : s.vm.findClass RX3 = some m.cls := findClass_of_methodNamed B.named
  have hlocks := B.notSynchronized
  have hS : va_S A s.heap s.heap [] := va_S.rf
  have hN : gN τ0 = gN τ0 := rfl
  have hl := lv_entry ([.ref (ad 21 k0)]) (n := 1) (Nat.le_of_ble_eq_true rfl)
  rw [lg_entry_eq]
  generalize (lg_sl ([.ref (ad 21 k0)]) ++ List.replicate (1 - (lg_sl ([.ref (ad 21 k0)])).length) Slot.unset).toArray = ls at hl ⊢
  have hl : lv_has ls 1 [(0, .ref (ad 21 k0))] := hl
  unfold F_X3_tastedFine at hF
  refine lv_aload_n hx hb dX3_tastedFine_0 rfl (lv_at hl 0 rfl) ?_
  refine lv_dup hx hb dX3_tastedFine_1 rfl ?_
  refine tw_get (v := .int (gI τ0 21 k0 5)) hx hb hts (by decide +kernel) hown hK hP (by decide) hk0 rfl rfl 5 (by decide) (hts (.fieldLink RX3 42 "WineCellar$Lot" "until" "I") (by decide +kernel)) (fun _ h9 => h9) rfl dX3_tastedFine_2 ?_
  refine lv_iconst (v := 2) hx hb dX3_tastedFine_5 (by decide) ?_
  refine lv_iadd hx hb dX3_tastedFine_6 ?_
  refine tw_put (τ' := sI τ0 21 k0 5 ((gI τ0 21 k0 5) + ((2 : Int32)))) (ty := .int) hx hb hts (by decide +kernel) tyX3 tyX3_ok nmX3 hown hK hP hS (by decide) hk0 rfl rfl 5 (by decide) (hts (.fieldLink RX3 42 "WineCellar$Lot" "until" "I") (by decide +kernel)) (fun _ h9 => h9) rfl (by decide +kernel) rfl rfl (Nat.le_of_ble_eq_true rfl) dX3_tastedFine_7 (fun H1 ha ho => tw_updI hP (by decide) hk0 ha ho) (fun H locs hP hS => ?_)
  obtain ⟨τ1, eτ1⟩ : ∃ y : tw_T, y = sI τ0 21 k0 5 ((gI τ0 21 k0 5) + ((2 : Int32))) := ⟨_, rfl⟩
  have hF := hF τ1 eτ1
  rw [← eτ1] at hP
  have hN : gN τ1 = gN τ0 := by rw [eτ1]; exact hN
  exact W.vret hx hb hr (fun t ht hW => ⟨⟨τ1, rfl, ⟨hF, hN⟩, tw_at hP ht⟩, hS.F ht⟩) hS.2.2 dX3_tastedFine_10
def F_X3_isOpen (τ0 : tw_T) (k0 : Nat) (Q : Int32 → tw_T → Prop) : Prop := (((gI τ0 21 k0 7) ≤ 0 → (Q ((0 : Int32)) τ0)) ∧ (¬ (gI τ0 21 k0 7) ≤ 0 → (Q ((1 : Int32)) τ0)))
def rmX3_isOpen : Room := { frames := 0, cells := 0, slots := 0, locals := 0 }
set_option maxHeartbeats 4000000 in
set_option maxRecDepth 100000 in
theorem mX3_isOpen (l : Launch) (dC : Nat → ClassId) (dI : Nat → Nat → Nat) (ac : Nat → ClassId) (sa : Nat → Nat) (A : Nat → Prop) (ad : Nat → Nat → Nat) (τ0 : tw_T) (k0 : Nat) (Q : Int32 → tw_T → Prop) (hF : F_X3_isOpen τ0 k0 Q) (hk0 : k0 < gN τ0 21) : Met l yX3_isOpen wsX3_isOpen rmX3_isOpen (va_Pc [.ref (ad 21 k0)] (BX dC dI ac sa A ad τ0)) (va_Qi (fun r (u : tw_T) => Q r u ∧ gN u = gN τ0) (fun u t => PX dC dI ac A ad u t.heap) A) 0 0 A := by
  refine Met.ofW (cc := cX3_isOpen) (maxL := 1) (ret := (some .boolean)) (by decide) rfl ?_
  intro p e s m args below meth c s₁ B hml hv
  obtain ⟨rfl, hP, hK, hA, hZ⟩ := hv
  have hx := B.exec
  have hb := B.bytes
  have hr := B.returns
  have hts := atoms_spec (ws := wsX3_isOpen) B.pre
  have hown : s.vm.findClass RX3 = some m.cls := findClass_of_methodNamed B.named
  have hlocks := B.notSynchronized
  have hS : va_S A s.heap s.heap [] := va_S.rf
  have hN : gN τ0 = gN τ0 := rfl
  have hl := lv_entry ([.ref (ad 21 k0)]) (n := 1) (Nat.le_of_ble_eq_true rfl)
  rw [lg_entry_eq]
  generalize (lg_sl ([.ref (ad 21 k0)]) ++ List.replicate (1 - (lg_sl ([.ref (ad 21 k0)])).length) Slot.unset).toArray = ls at hl ⊢
  have hl : lv_has ls 1 [(0, .ref (ad 21 k0))] := hl
  unfold F_X3_isOpen at hF
  refine lv_aload_n hx hb dX3_isOpen_0 rfl (lv_at hl 0 rfl) ?_
  refine tw_get (v := .int (gI τ0 21 k0 7)) hx hb hts (by decide +kernel) hown hK hP (by decide) hk0 rfl rfl 7 (by decide) (hts (.fieldLink RX3 15 "WineCellar$Lot" "glassesLeft" "I") (by decide +kernel)) (fun _ h9 => h9) rfl dX3_isOpen_1 ?_
  refine lv_if_le (tgt := 11) hx hb dX3_isOpen_4 (by decide) (fun c1 => ?_) (fun c1 => ?_)
  · have hF := hF.1 c1
    refine lv_iconst (v := 0) hx hb dX3_isOpen_11 (by decide) ?_
    exact W.zret (v := (0 : Int32)) (ty := .boolean) hx hb hr rfl (fun t ht hW => ⟨⟨((0 : Int32)), τ0, rfl, ⟨hF, hN⟩, tw_at hP ht⟩, hS.F ht⟩) hS.2.2 dX3_isOpen_12
  · have hF := hF.2 c1
    refine lv_iconst (v := 1) hx hb dX3_isOpen_7 (by decide) ?_
    refine lv_goto (tgt := 12) hx hb dX3_isOpen_8 (by decide) ?_
    exact W.zret (v := (1 : Int32)) (ty := .boolean) hx hb hr rfl (fun t ht hW => ⟨⟨((1 : Int32)), τ0, rfl, ⟨hF, hN⟩, tw_at hP ht⟩, hS.F ht⟩) hS.2.2 dX3_isOpen_12
def F_X3_open (τ0 : tw_T) (k0 : Nat) (x1 : Int32) (Q : tw_T → Prop) : Prop := ∀ τ1 : tw_T, τ1 = sI τ0 21 k0 6 x1 → (∀ τ2 : tw_T, τ2 = sI τ1 21 k0 7 ((6 : Int32)) → (Q τ2))
def rmX3_open : Room := { frames := 0, cells := 0, slots := 0, locals := 0 }
set_option maxHeartbeats 4000000 in
set_option maxRecDepth 100000 in
theorem mX3_open (l : Launch) (dC : Nat → ClassId) (dI : Nat → Nat → Nat) (ac : Nat → ClassId) (sa : Nat → Nat) (A : Nat → Prop) (ad : Nat → Nat → Nat) (τ0 : tw_T) (k0 : Nat) (x1 : Int32) (Q : tw_T → Prop) (hF : F_X3_open τ0 k0 x1 Q) (hk0 : k0 < gN τ0 21) : Met l yX3_open wsX3_open rmX3_open (va_Pc [.ref (ad 21 k0), .int x1] (BX dC dI ac sa A ad τ0)) (va_Qv (fun (u : tw_T) => Q u ∧ gN u = gN τ0) (fun u t => PX dC dI ac A ad u t.heap) A) 0 0 A := by
  refine Met.ofW (cc := cX3_open) (maxL := 2) (ret := none) (by decide) rfl ?_
  intro p e s m args below meth c s₁ B hml hv
  obtain ⟨rfl, hP, hK, hA, hZ⟩ := hv
  have hx := B.exec
  have hb := B.bytes
  have hr := B.returns
  have hts := atoms_spec (ws := wsX3_open) B.pre
  have hown : s.vm.findClass RX3 = some m.cls := findClass_of_methodNamed B.named
  have hlocks := B.notSynchronized
  have hS : va_S A s.heap s.heap [] := va_S.rf
  have hN : gN τ0 = gN τ0 := rfl
  have hl := lv_entry ([.ref (ad 21 k0), .int x1]) (n := 2) (Nat.le_of_ble_eq_true rfl)
  rw [lg_entry_eq]
  generalize (lg_sl ([.ref (ad 21 k0), .int x1]) ++ List.replicate (2 - (lg_sl ([.ref (ad 21 k0), .int x1])).length) Slot.unset).toArray = ls at hl ⊢
  have hl : lv_has ls 2 [(0, .ref (ad 21 k0)), (1, .int x1)] := hl
  unfold F_X3_open at hF
  refine lv_aload_n hx hb dX3_open_0 rfl (lv_at hl 0 rfl) ?_
  refine lv_iload_n hx hb dX3_open_1 rfl (lv_at hl 1 rfl) ?_
  refine tw_put (τ' := sI τ0 21 k0 6 x1) (ty := .int) hx hb hts (by decide +kernel) tyX3 tyX3_ok nmX3 hown hK hP hS (by decide) hk0 rfl rfl 6 (by decide) (hts (.fieldLink RX3 9 "WineCellar$Lot" "openedAt" "I") (by decide +kernel)) (fun _ h9 => h9) rfl (by decide +kernel) rfl rfl (Nat.le_of_ble_eq_true rfl) dX3_open_2 (fun H1 ha ho => tw_updI hP (by decide) hk0 ha ho) (fun H locs hP hS => ?_)
  obtain ⟨τ1, eτ1⟩ : ∃ y : tw_T, y = sI τ0 21 k0 6 x1 := ⟨_, rfl⟩
  have hF := hF τ1 eτ1
  rw [← eτ1] at hP
  have hN : gN τ1 = gN τ0 := by rw [eτ1]; exact hN
  refine lv_aload_n hx hb dX3_open_5 rfl (lv_at hl 0 rfl) ?_
  refine lv_bipush (v := 6) hx hb dX3_open_6 (by decide) ?_
  refine tw_put (τ' := sI τ1 21 k0 7 ((6 : Int32))) (ty := .int) hx hb hts (by decide +kernel) tyX3 tyX3_ok nmX3 hown hK hP hS (by decide) (tw_lt hk0 (congrFun hN 21)) rfl rfl 7 (by decide) (hts (.fieldLink RX3 15 "WineCellar$Lot" "glassesLeft" "I") (by decide +kernel)) (fun _ h9 => h9) rfl (by decide +kernel) rfl rfl (Nat.le_of_ble_eq_true rfl) dX3_open_8 (fun H1 ha ho => tw_updI hP (by decide) (tw_lt hk0 (congrFun hN 21)) ha ho) (fun H locs hP hS => ?_)
  obtain ⟨τ2, eτ2⟩ : ∃ y : tw_T, y = sI τ1 21 k0 7 ((6 : Int32)) := ⟨_, rfl⟩
  have hF := hF τ2 eτ2
  rw [← eτ2] at hP
  have hN : gN τ2 = gN τ0 := by rw [eτ2]; exact hN
  exact W.vret hx hb hr (fun t ht hW => ⟨⟨τ2, rfl, ⟨hF, hN⟩, tw_at hP ht⟩, hS.F ht⟩) hS.2.2 dX3_open_11
def F_X0_clear (τ0 : tw_T) (k0 : Nat) (Q : tw_T → Prop) : Prop := ∀ τ1 : tw_T, τ1 = sI τ0 22 k0 4 ((0 : Int32)) → (Q τ1)
def rmX0_clear : Room := { frames := 0, cells := 0, slots := 0, locals := 0 }
set_option maxHeartbeats 4000000 in
set_option maxRecDepth 100000 in
theorem mX0_clear (l : Launch) (dC : Nat → ClassId) (dI : Nat → Nat → Nat) (ac : Nat → ClassId) (sa : Nat → Nat) (A : Nat → Prop) (ad : Nat → Nat → Nat) (τ0 : tw_T) (k0 : Nat) (Q : tw_T → Prop) (hF : F_X0_clear τ0 k0 Q) (hk0 : k0 < gN τ0 22) : Met l yX0_clear wsX0_clear rmX0_clear (va_Pc [.ref (ad 22 k0)] (BX dC dI ac sa A ad τ0)) (va_Qv (fun (u : tw_T) => Q u ∧ gN u = gN τ0) (fun u t => PX dC dI ac A ad u t.heap) A) 0 0 A := by
  refine Met.ofW (cc := cX0_clear) (maxL := 1) (ret := none) (by decide) rfl ?_
  intro p e s m args below meth c s₁ B hml hv
  obtain ⟨rfl, hP, hK, hA, hZ⟩ := hv
  have hx := B.exec
  have hb := B.bytes
  have hr := B.returns
  have hts := atoms_spec (ws := wsX0_clear) B.pre
  have hown : s.vm.findClass RX0 = some m.cls := findClass_of_methodNamed B.named
  have hlocks := B.notSynchronized
  have hS : va_S A s.heap s.heap [] := va_S.rf
  have hN : gN τ0 = gN τ0 := rfl
  have hl := lv_entry ([.ref (ad 22 k0)]) (n := 1) (Nat.le_of_ble_eq_true rfl)
  rw [lg_entry_eq]
  generalize (lg_sl ([.ref (ad 22 k0)]) ++ List.replicate (1 - (lg_sl ([.ref (ad 22 k0)])).length) Slot.unset).toArray = ls at hl ⊢
  have hl : lv_has ls 1 [(0, .ref (ad 22 k0))] := hl
  unfold F_X0_clear at hF
  refine lv_aload_n hx hb dX0_clear_0 rfl (lv_at hl 0 rfl) ?_
  refine lv_iconst (v := 0) hx hb dX0_clear_1 (by decide) ?_
  refine tw_put (τ' := sI τ0 22 k0 4 ((0 : Int32))) (ty := .int) hx hb hts (by decide +kernel) tyX0 tyX0_ok nmX0 hown hK hP hS (by decide) hk0 rfl rfl 4 (by decide) (hts (.fieldLink RX0 27 "WineCellar$Dish" "terms" "I") (by decide +kernel)) (fun _ h9 => h9) rfl (by decide +kernel) rfl rfl (Nat.le_of_ble_eq_true rfl) dX0_clear_2 (fun H1 ha ho => tw_updI hP (by decide) hk0 ha ho) (fun H locs hP hS => ?_)
  obtain ⟨τ1, eτ1⟩ : ∃ y : tw_T, y = sI τ0 22 k0 4 ((0 : Int32)) := ⟨_, rfl⟩
  have hF := hF τ1 eτ1
  rw [← eτ1] at hP
  have hN : gN τ1 = gN τ0 := by rw [eτ1]; exact hN
  exact W.vret hx hb hr (fun t ht hW => ⟨⟨τ1, rfl, ⟨hF, hN⟩, tw_at hP ht⟩, hS.F ht⟩) hS.2.2 dX0_clear_5
def F_X0_isFull (τ0 : tw_T) (k0 : Nat) (Q : Int32 → tw_T → Prop) : Prop := (((gI τ0 22 k0 4) < ((12 : Int32)) → (Q ((0 : Int32)) τ0)) ∧ (¬ (gI τ0 22 k0 4) < ((12 : Int32)) → (Q ((1 : Int32)) τ0)))
def rmX0_isFull : Room := { frames := 0, cells := 0, slots := 0, locals := 0 }
set_option maxHeartbeats 4000000 in
set_option maxRecDepth 100000 in
theorem mX0_isFull (l : Launch) (dC : Nat → ClassId) (dI : Nat → Nat → Nat) (ac : Nat → ClassId) (sa : Nat → Nat) (A : Nat → Prop) (ad : Nat → Nat → Nat) (τ0 : tw_T) (k0 : Nat) (Q : Int32 → tw_T → Prop) (hF : F_X0_isFull τ0 k0 Q) (hk0 : k0 < gN τ0 22) : Met l yX0_isFull wsX0_isFull rmX0_isFull (va_Pc [.ref (ad 22 k0)] (BX dC dI ac sa A ad τ0)) (va_Qi (fun r (u : tw_T) => Q r u ∧ gN u = gN τ0) (fun u t => PX dC dI ac A ad u t.heap) A) 0 0 A := by
  refine Met.ofW (cc := cX0_isFull) (maxL := 1) (ret := (some .boolean)) (by decide) rfl ?_
  intro p e s m args below meth c s₁ B hml hv
  obtain ⟨rfl, hP, hK, hA, hZ⟩ := hv
  have hx := B.exec
  have hb := B.bytes
  have hr := B.returns
  have hts := atoms_spec (ws := wsX0_isFull) B.pre
  have hown : s.vm.findClass RX0 = some m.cls := findClass_of_methodNamed B.named
  have hlocks := B.notSynchronized
  have hS : va_S A s.heap s.heap [] := va_S.rf
  have hN : gN τ0 = gN τ0 := rfl
  have hl := lv_entry ([.ref (ad 22 k0)]) (n := 1) (Nat.le_of_ble_eq_true rfl)
  rw [lg_entry_eq]
  generalize (lg_sl ([.ref (ad 22 k0)]) ++ List.replicate (1 - (lg_sl ([.ref (ad 22 k0)])).length) Slot.unset).toArray = ls at hl ⊢
  have hl : lv_has ls 1 [(0, .ref (ad 22 k0))] := hl
  unfold F_X0_isFull at hF
  refine lv_aload_n hx hb dX0_isFull_0 rfl (lv_at hl 0 rfl) ?_
  refine tw_get (v := .int (gI τ0 22 k0 4)) hx hb hts (by decide +kernel) hown hK hP (by decide) hk0 rfl rfl 4 (by decide) (hts (.fieldLink RX0 27 "WineCellar$Dish" "terms" "I") (by decide +kernel)) (fun _ h9 => h9) rfl dX0_isFull_1 ?_
  refine lv_bipush (v := 12) hx hb dX0_isFull_4 (by decide) ?_
  refine lv_icmp_lt (tgt := 13) hx hb dX0_isFull_6 (by decide) (fun c1 => ?_) (fun c1 => ?_)
  · have hF := hF.1 c1
    refine lv_iconst (v := 0) hx hb dX0_isFull_13 (by decide) ?_
    exact W.zret (v := (0 : Int32)) (ty := .boolean) hx hb hr rfl (fun t ht hW => ⟨⟨((0 : Int32)), τ0, rfl, ⟨hF, hN⟩, tw_at hP ht⟩, hS.F ht⟩) hS.2.2 dX0_isFull_14
  · have hF := hF.2 c1
    refine lv_iconst (v := 1) hx hb dX0_isFull_9 (by decide) ?_
    refine lv_goto (tgt := 14) hx hb dX0_isFull_10 (by decide) ?_
    exact W.zret (v := (1 : Int32)) (ty := .boolean) hx hb hr rfl (fun t ht hW => ⟨⟨((1 : Int32)), τ0, rfl, ⟨hF, hN⟩, tw_at hP ht⟩, hS.F ht⟩) hS.2.2 dX0_isFull_14
def F_X0_compares (τ0 : tw_T) (x0 : Int32) (x1 : Int32) (x2 : Int32) (Q : Int32 → tw_T → Prop) : Prop := ((¬ x1 = ((60 : Int32)) → (((¬ x1 = ((62 : Int32)) → (((¬ x0 = x2 → (Q ((0 : Int32)) τ0)) ∧ (x0 = x2 → (Q ((1 : Int32)) τ0))))) ∧ (x1 = ((62 : Int32)) → (((x0 ≤ x2 → (Q ((0 : Int32)) τ0)) ∧ (¬ x0 ≤ x2 → (Q ((1 : Int32)) τ0)))))))) ∧ (x1 = ((60 : Int32)) → (((x2 ≤ x0 → (Q ((0 : Int32)) τ0)) ∧ (¬ x2 ≤ x0 → (Q ((1 : Int32)) τ0))))))
def rmX0_compares : Room := { frames := 0, cells := 0, slots := 0, locals := 0 }
set_option maxHeartbeats 4000000 in
set_option maxRecDepth 100000 in
theorem mX0_compares (l : Launch) (dC : Nat → ClassId) (dI : Nat → Nat → Nat) (ac : Nat → ClassId) (sa : Nat → Nat) (A : Nat → Prop) (ad : Nat → Nat → Nat) (τ0 : tw_T) (x0 : Int32) (x1 : Int32) (x2 : Int32) (Q : Int32 → tw_T → Prop) (hF : F_X0_compares τ0 x0 x1 x2 Q)  : Met l yX0_compares wsX0_compares rmX0_compares (va_Pc [.int x0, .int x1, .int x2] (BX dC dI ac sa A ad τ0)) (va_Qi (fun r (u : tw_T) => Q r u ∧ gN u = gN τ0) (fun u t => PX dC dI ac A ad u t.heap) A) 0 0 A := by
  refine Met.ofW (cc := cX0_compares) (maxL := 3) (ret := (some .boolean)) (by decide) rfl ?_
  intro p e s m args below meth c s₁ B hml hv
  obtain ⟨rfl, hP, hK, hA, hZ⟩ := hv
  have hx := B.exec
  have hb := B.bytes
  have hr := B.returns
  have hts := atoms_spec (ws := wsX0_compares) B.pre
  have hown : s.vm.findClass RX0 = some m.cls := findClass_of_methodNamed B.named
  have hlocks := B.notSynchronized
  have hS : va_S A s.heap s.heap [] := va_S.rf
  have hN : gN τ0 = gN τ0 := rfl
  have hl := lv_entry ([.int x0, .int x1, .int x2]) (n := 3) (Nat.le_of_ble_eq_true rfl)
  rw [lg_entry_eq]
  generalize (lg_sl ([.int x0, .int x1, .int x2]) ++ List.replicate (3 - (lg_sl ([.int x0, .int x1, .int x2])).length) Slot.unset).toArray = ls at hl ⊢
  have hl : lv_has ls 3 [(0, .int x0), (1, .int x1), (2, .int x2)] := hl
  unfold F_X0_compares at hF
  refine lv_iload_n hx hb dX0_compares_0 rfl (lv_at hl 1 rfl) ?_
  refine lv_bipush (v := 60) hx hb dX0_compares_1 (by decide) ?_
  refine lv_icmp_ne (tgt := 17) hx hb dX0_compares_3 (by decide) (fun c1 => ?_) (fun c1 => ?_)
  · have hF := hF.1 c1
    refine lv_iload_n hx hb dX0_compares_17 rfl (lv_at hl 1 rfl) ?_
    refine lv_bipush (v := 62) hx hb dX0_compares_18 (by decide) ?_
    refine lv_icmp_ne (tgt := 36) hx hb dX0_compares_20 (by decide) (fun c2 => ?_) (fun c2 => ?_)
    · have hF := hF.1 c2
      refine lv_iload_n hx hb dX0_compares_36 rfl (lv_at hl 0 rfl) ?_
      refine lv_iload_n hx hb dX0_compares_37 rfl (lv_at hl 2 rfl) ?_
      refine lv_icmp_ne (tgt := 45) hx hb dX0_compares_38 (by decide) (fun c3 => ?_) (fun c3 => ?_)
      · have hF := hF.1 c3
        refine lv_iconst (v := 0) hx hb dX0_compares_45 (by decide) ?_
        exact W.zret (v := (0 : Int32)) (ty := .boolean) hx hb hr rfl (fun t ht hW => ⟨⟨((0 : Int32)), τ0, rfl, ⟨hF, hN⟩, tw_at hP ht⟩, hS.F ht⟩) hS.2.2 dX0_compares_46
      · have hF := hF.2 c3
        refine lv_iconst (v := 1) hx hb dX0_compares_41 (by decide) ?_
        refine lv_goto (tgt := 46) hx hb dX0_compares_42 (by decide) ?_
        exact W.zret (v := (1 : Int32)) (ty := .boolean) hx hb hr rfl (fun t ht hW => ⟨⟨((1 : Int32)), τ0, rfl, ⟨hF, hN⟩, tw_at hP ht⟩, hS.F ht⟩) hS.2.2 dX0_compares_46
    · have hF := hF.2 c2
      refine lv_iload_n hx hb dX0_compares_23 rfl (lv_at hl 0 rfl) ?_
      refine lv_iload_n hx hb dX0_compares_24 rfl (lv_at hl 2 rfl) ?_
      refine lv_icmp_le (tgt := 32) hx hb dX0_compares_25 (by decide) (fun c4 => ?_) (fun c4 => ?_)
      · have hF := hF.1 c4
        refine lv_iconst (v := 0) hx hb dX0_compares_32 (by decide) ?_
        refine lv_goto (tgt := 46) hx hb dX0_compares_33 (by decide) ?_
        exact W.zret (v := (0 : Int32)) (ty := .boolean) hx hb hr rfl (fun t ht hW => ⟨⟨((0 : Int32)), τ0, rfl, ⟨hF, hN⟩, tw_at hP ht⟩, hS.F ht⟩) hS.2.2 dX0_compares_46
      · have hF := hF.2 c4
        refine lv_iconst (v := 1) hx hb dX0_compares_28 (by decide) ?_
        refine lv_goto (tgt := 46) hx hb dX0_compares_29 (by decide) ?_
        exact W.zret (v := (1 : Int32)) (ty := .boolean) hx hb hr rfl (fun t ht hW => ⟨⟨((1 : Int32)), τ0, rfl, ⟨hF, hN⟩, tw_at hP ht⟩, hS.F ht⟩) hS.2.2 dX0_compares_46
  · have hF := hF.2 c1
    refine lv_iload_n hx hb dX0_compares_6 rfl (lv_at hl 0 rfl) ?_
    refine lv_iload_n hx hb dX0_compares_7 rfl (lv_at hl 2 rfl) ?_
    refine lv_icmp_ge (tgt := 15) hx hb dX0_compares_8 (by decide) (fun c5 => ?_) (fun c5 => ?_)
    · have hF := hF.1 c5
      refine lv_iconst (v := 0) hx hb dX0_compares_15 (by decide) ?_
      exact W.zret (v := (0 : Int32)) (ty := .boolean) hx hb hr rfl (fun t ht hW => ⟨⟨((0 : Int32)), τ0, rfl, ⟨hF, hN⟩, tw_at hP ht⟩, hS.F ht⟩) hS.2.2 dX0_compares_16
    · have hF := hF.2 c5
      refine lv_iconst (v := 1) hx hb dX0_compares_11 (by decide) ?_
      refine lv_goto (tgt := 16) hx hb dX0_compares_12 (by decide) ?_
      exact W.zret (v := (1 : Int32)) (ty := .boolean) hx hb hr rfl (fun t ht hW => ⟨⟨((1 : Int32)), τ0, rfl, ⟨hF, hN⟩, tw_at hP ht⟩, hS.F ht⟩) hS.2.2 dX0_compares_16
def F_X6_lowestBits (τ0 : tw_T) (k0 : Nat) (x1 : Int64) (Q : Int64 → tw_T → Prop) : Prop := ((¬ (gI τ0 23 k0 2) = 0 → (((¬ (gI τ0 23 k0 2) = ((1 : Int32)) → (Q x1 τ0)) ∧ ((gI τ0 23 k0 2) = ((1 : Int32)) → (Q x1.toInt32.toInt64 τ0))))) ∧ ((gI τ0 23 k0 2) = 0 → (Q x1.toInt32.toInt16.toInt32.toInt64 τ0)))
def rmX6_lowestBits : Room := { frames := 0, cells := 0, slots := 0, locals := 0 }
set_option maxHeartbeats 4000000 in
set_option maxRecDepth 100000 in
theorem mX6_lowestBits (l : Launch) (dC : Nat → ClassId) (dI : Nat → Nat → Nat) (ac : Nat → ClassId) (sa : Nat → Nat) (A : Nat → Prop) (ad : Nat → Nat → Nat) (τ0 : tw_T) (k0 : Nat) (x1 : Int64) (Q : Int64 → tw_T → Prop) (hF : F_X6_lowestBits τ0 k0 x1 Q) (hk0 : k0 < gN τ0 23) : Met l yX6_lowestBits wsX6_lowestBits rmX6_lowestBits (va_Pc [.ref (ad 23 k0), .long x1] (BX dC dI ac sa A ad τ0)) (va_Ql (fun r (u : tw_T) => Q r u ∧ gN u = gN τ0) (fun u t => PX dC dI ac A ad u t.heap) A) 0 0 A := by
  refine Met.ofW (cc := cX6_lowestBits) (maxL := 3) (ret := (some .long)) (by decide) rfl ?_
  intro p e s m args below meth c s₁ B hml hv
  obtain ⟨rfl, hP, hK, hA, hZ⟩ := hv
  have hx := B.exec
  have hb := B.bytes
  have hr := B.returns
  have hts := atoms_spec (ws := wsX6_lowestBits) B.pre
  have hown : s.vm.findClass RX6 = some m.cls := findClass_of_methodNamed B.named
  have hlocks := B.notSynchronized
  have hS : va_S A s.heap s.heap [] := va_S.rf
  have hN : gN τ0 = gN τ0 := rfl
  have hl := lv_entry ([.ref (ad 23 k0), .long x1]) (n := 3) (Nat.le_of_ble_eq_true rfl)
  rw [lg_entry_eq]
  generalize (lg_sl ([.ref (ad 23 k0), .long x1]) ++ List.replicate (3 - (lg_sl ([.ref (ad 23 k0), .long x1])).length) Slot.unset).toArray = ls at hl ⊢
  have hl : lv_has ls 3 [(0, .ref (ad 23 k0)), (1, .long x1)] := hl
  unfold F_X6_lowestBits at hF
  refine lv_aload_n hx hb dX6_lowestBits_0 rfl (lv_at hl 0 rfl) ?_
  refine tw_get (v := .int (gI τ0 23 k0 2)) hx hb hts (by decide +kernel) hown hK hP (by decide) hk0 rfl rfl 2 (by decide) (hts (.fieldLink RX6 20 "WineCellar$Sheet" "width" "I") (by decide +kernel)) (fun _ h9 => h9) rfl dX6_lowestBits_1 ?_
  refine lv_if_ne (tgt := 12) hx hb dX6_lowestBits_4 (by decide) (fun c1 => ?_) (fun c1 => ?_)
  · have hF := hF.1 c1
    refine lv_aload_n hx hb dX6_lowestBits_12 rfl (lv_at hl 0 rfl) ?_
    refine tw_get (v := .int (gI τ0 23 k0 2)) hx hb hts (by decide +kernel) hown hK hP (by decide) hk0 rfl rfl 2 (by decide) (hts (.fieldLink RX6 20 "WineCellar$Sheet" "width" "I") (by decide +kernel)) (fun _ h9 => h9) rfl dX6_lowestBits_13 ?_
    refine lv_iconst (v := 1) hx hb dX6_lowestBits_16 (by decide) ?_
    refine lv_icmp_ne (tgt := 26) hx hb dX6_lowestBits_17 (by decide) (fun c2 => ?_) (fun c2 => ?_)
    · have hF := hF.1 c2
      refine lv_lload_n hx hb dX6_lowestBits_26 rfl (lv_at hl 1 rfl) ?_
      exact W.lret (v := x1) hx hb hr (fun t ht hW => ⟨⟨x1, τ0, rfl, ⟨hF, hN⟩, tw_at hP ht⟩, hS.F ht⟩) hS.2.2 dX6_lowestBits_27
    · have hF := hF.2 c2
      refine lv_lload_n hx hb dX6_lowestBits_20 rfl (lv_at hl 1 rfl) ?_
      refine lv_l2i (v := x1.toInt32) hx hb dX6_lowestBits_21 rfl ?_
      refine lv_i2l (v := x1.toInt32.toInt64) hx hb dX6_lowestBits_22 rfl ?_
      refine lv_goto (tgt := 27) hx hb dX6_lowestBits_23 (by decide) ?_
      exact W.lret (v := x1.toInt32.toInt64) hx hb hr (fun t ht hW => ⟨⟨x1.toInt32.toInt64, τ0, rfl, ⟨hF, hN⟩, tw_at hP ht⟩, hS.F ht⟩) hS.2.2 dX6_lowestBits_27
  · have hF := hF.2 c1
    refine lv_lload_n hx hb dX6_lowestBits_7 rfl (lv_at hl 1 rfl) ?_
    refine lv_l2i (v := x1.toInt32) hx hb dX6_lowestBits_8 rfl ?_
    refine lv_i2s (v := x1.toInt32.toInt16.toInt32) hx hb dX6_lowestBits_9 rfl ?_
    refine lv_i2l (v := x1.toInt32.toInt16.toInt32.toInt64) hx hb dX6_lowestBits_10 rfl ?_
    exact W.lret (v := x1.toInt32.toInt16.toInt32.toInt64) hx hb hr (fun t ht hW => ⟨⟨x1.toInt32.toInt16.toInt32.toInt64, τ0, rfl, ⟨hF, hN⟩, tw_at hP ht⟩, hS.F ht⟩) hS.2.2 dX6_lowestBits_11
def F_X6_renewRow (τ0 : tw_T) (k0 : Nat) (x1 : Int32) (x2 : Int32) (Q : tw_T → Prop) : Prop := ∃ o1 : Nat, gR τ0 23 k0 0 = some o1 ∧ (vp_in x1 10 ∧ (∃ o2 : Nat, gR τ0 34 o1 x1.toNatClampNeg = some o2 ∧ (F_J7_fill_d0a16 τ0 36 40 o2 ((0 : Int64)) (fun (τ4 : tw_T) => (∃ o5 : Nat, gR τ4 23 k0 1 = some o5 ∧ (vp_in x1 10 ∧ (∀ τ7 : tw_T, τ7 = sI τ4 35 o5 x1.toNatClampNeg x2 → (Q τ7))))))))
def rmX6_renewRow : Room := { frames := 1, cells := 0, slots := 0, locals := 24 }
set_option maxHeartbeats 4000000 in
set_option maxRecDepth 100000 in
theorem mX6_renewRow (l : Launch) (dC : Nat → ClassId) (dI : Nat → Nat → Nat) (ac : Nat → ClassId) (sa : Nat → Nat) (A : Nat → Prop) (ad : Nat → Nat → Nat) (τ0 : tw_T) (k0 : Nat) (x1 : Int32) (x2 : Int32) (Q : tw_T → Prop) (hF : F_X6_renewRow τ0 k0 x1 x2 Q) (hk0 : k0 < gN τ0 23) : Met l yX6_renewRow wsX6_renewRow rmX6_renewRow (va_Pc [.ref (ad 23 k0), .int x1, .int x2] (BX dC dI ac sa A ad τ0)) (va_Qv (fun (u : tw_T) => Q u ∧ gN u = gN τ0) (fun u t => PX dC dI ac A ad u t.heap) A) 0 0 A := by
  refine Met.ofW (cc := cX6_renewRow) (maxL := 3) (ret := none) (by decide) rfl ?_
  intro p e s m args below meth c s₁ B hml hv
  obtain ⟨rfl, hP, hK, hA, hZ⟩ := hv
  have hx := B.exec
  have hb := B.bytes
  have hr := B.returns
  have hts := atoms_spec (ws := wsX6_renewRow) B.pre
  have hown : s.vm.findClass RX6 = some m.cls := findClass_of_methodNamed B.named
  have hlocks := B.notSynchronized
  have hS : va_S A s.heap s.heap [] := va_S.rf
  have hN : gN τ0 = gN τ0 := rfl
  have hl := lv_entry ([.ref (ad 23 k0), .int x1, .int x2]) (n := 3) (Nat.le_of_ble_eq_true rfl)
  rw [lg_entry_eq]
  generalize (lg_sl ([.ref (ad 23 k0), .int x1, .int x2]) ++ List.replicate (3 - (lg_sl ([.ref (ad 23 k0), .int x1, .int x2])).length) Slot.unset).toArray = ls at hl ⊢
  have hl : lv_has ls 3 [(0, .ref (ad 23 k0)), (1, .int x1), (2, .int x2)] := hl
  unfold F_X6_renewRow at hF
  refine lv_aload_n hx hb dX6_renewRow_0 rfl (lv_at hl 0 rfl) ?_
  obtain ⟨o1, eo1, hF⟩ := hF
  have ho1 : o1 < gN τ0 34 := tw_lt (hP.2.2.2 23 k0 0 o1 (by decide) hk0 eo1) (congrFun hN 34).symm
  refine tw_get (v := .ref (ad 34 o1)) hx hb hts (by decide +kernel) hown hK hP (by decide) hk0 rfl rfl 0 (by decide) (hts (.fieldLink RX6 11 "WineCellar$Sheet" "rows" "[[J") (by decide +kernel)) (fun _ h9 => h9) (show some (va_rf ((gR τ0 23 k0 0).map (ad 34))) = some (.ref (ad 34 o1)) by rw [eo1]; rfl) dX6_renewRow_1 ?_
  refine lv_iload_n hx hb dX6_renewRow_4 rfl (lv_at hl 1 rfl) ?_
  obtain ⟨hi3, o2, eo2, hF⟩ := hF
  have ho2 : o2 < gN τ0 36 := tw_lt (hP.2.2.2 34 o1 _ o2 (by decide) ho1 eo2) (congrFun hN 36).symm
  refine tw_aald hx hb hK hP (by decide) ho1 rfl 9 rfl rfl (fun _ => rfl) hi3 dX6_renewRow_5 ?_
  refine W.eq (g2 := F0 m 6 ls [.ref (ad 36 o2)]) (by rw [eo2]; rfl) ?_
  refine lv_lconst (v := 0) hx hb dX6_renewRow_6 (by decide) ?_
  refine va_callv (va_runS (As := [.ref (ad 36 o2), .long ((0 : Int64))]) (rest := []) ⟨hx, hb, hml, hown, hts⟩ (mJ7_fill_d0a16 l dC dI ac sa A ad τ0 36 40 o2 ((0 : Int64)) _ hF (by decide) rfl ho2) (va_cwS 2 hts gX6_renewRow_J7_fill_d0a16 rfl rfl rfl (by decide +kernel) ⟨Nat.le_of_ble_eq_true rfl, Nat.le_of_ble_eq_true rfl⟩) ⟨BX.blind, fun U hU hW => ⟨rfl, BX.of hP hK hS hA hZ hU hW⟩⟩ rfl rfl hl.1 rfl (lv_room (Nat.le_of_ble_eq_true rfl)) dX6_renewRow_7 ⟨Nat.le_of_ble_eq_true rfl, Nat.le_of_ble_eq_true rfl⟩) hS (fun q _ h => h) (fun q h => h) (fun τ4 t H locs ht hvm hw hB hz hk hS => ?_)
  obtain ⟨hF, hN9⟩ := hw
  have hP : PX dC dI ac A ad τ4 H := tw_back hB ht
  have hN : gN τ4 = gN τ0 := hN9.trans hN
  refine lv_aload_n hx hb dX6_renewRow_10 rfl (lv_at hl 0 rfl) ?_
  obtain ⟨o5, eo5, hF⟩ := hF
  have ho5 : o5 < gN τ0 35 := tw_lt (hP.2.2.2 23 k0 1 o5 (by decide) (tw_lt hk0 (congrFun hN 23)) eo5) (congrFun hN 35).symm
  refine tw_get (v := .ref (ad 35 o5)) hx hb hts (by decide +kernel) hown hK hP (by decide) (tw_lt hk0 (congrFun hN 23)) rfl rfl 1 (by decide) (hts (.fieldLink RX6 16 "WineCellar$Sheet" "lengths" "[I") (by decide +kernel)) (fun _ h9 => h9) (show some (va_rf ((gR τ4 23 k0 1).map (ad 35))) = some (.ref (ad 35 o5)) by rw [eo5]; rfl) dX6_renewRow_11 ?_
  refine lv_iload_n hx hb dX6_renewRow_14 rfl (lv_at hl 1 rfl) ?_
  refine lv_iload_n hx hb dX6_renewRow_15 rfl (lv_at hl 2 rfl) ?_
  obtain ⟨hi6, hF⟩ := hF
  refine tw_iast hx hb hK hP hS (by decide) (tw_lt ho5 (congrFun hN 35)) rfl 0 rfl hi6 dX6_renewRow_16 (fun H locs hP hS => ?_)
  obtain ⟨τ7, eτ7⟩ : ∃ y : tw_T, y = sI τ4 35 o5 x1.toNatClampNeg x2 := ⟨_, rfl⟩
  have hF := hF τ7 eτ7
  rw [← eτ7] at hP
  have hN : gN τ7 = gN τ0 := by rw [eτ7]; exact hN
  exact W.vret hx hb hr (fun t ht hW => ⟨⟨τ7, rfl, ⟨hF, hN⟩, tw_at hP ht⟩, hS.F ht⟩) hS.2.2 dX6_renewRow_17
def F_X7_hasRoomForFive (τ0 : tw_T) (k0 : Nat) (Q : Int32 → tw_T → Prop) : Prop := ((((200 : Int32)) < ((gI τ0 6 k0 1) + ((20 : Int32))) → (Q ((0 : Int32)) τ0)) ∧ (¬ ((200 : Int32)) < ((gI τ0 6 k0 1) + ((20 : Int32))) → (Q ((1 : Int32)) τ0)))
def rmX7_hasRoomForFive : Room := { frames := 0, cells := 0, slots := 0, locals := 0 }
set_option maxHeartbeats 4000000 in
set_option maxRecDepth 100000 in
theorem mX7_hasRoomForFive (l : Launch) (dC : Nat → ClassId) (dI : Nat → Nat → Nat) (ac : Nat → ClassId) (sa : Nat → Nat) (A : Nat → Prop) (ad : Nat → Nat → Nat) (τ0 : tw_T) (k0 : Nat) (Q : Int32 → tw_T → Prop) (hF : F_X7_hasRoomForFive τ0 k0 Q) (hk0 : k0 < gN τ0 6) : Met l yX7_hasRoomForFive wsX7_hasRoomForFive rmX7_hasRoomForFive (va_Pc [.ref (ad 6 k0)] (BX dC dI ac sa A ad τ0)) (va_Qi (fun r (u : tw_T) => Q r u ∧ gN u = gN τ0) (fun u t => PX dC dI ac A ad u t.heap) A) 0 0 A := by
  refine Met.ofW (cc := cX7_hasRoomForFive) (maxL := 1) (ret := (some .boolean)) (by decide) rfl ?_
  intro p e s m args below meth c s₁ B hml hv
  obtain ⟨rfl, hP, hK, hA, hZ⟩ := hv
  have hx := B.exec
  have hb := B.bytes
  have hr := B.returns
  have hts := atoms_spec (ws := wsX7_hasRoomForFive) B.pre
  have hown : s.vm.findClass RX7 = some m.cls := findClass_of_methodNamed B.named
  have hlocks := B.notSynchronized
  have hS : va_S A s.heap s.heap [] := va_S.rf
  have hN : gN τ0 = gN τ0 := rfl
  have hl := lv_entry ([.ref (ad 6 k0)]) (n := 1) (Nat.le_of_ble_eq_true rfl)
  rw [lg_entry_eq]
  generalize (lg_sl ([.ref (ad 6 k0)]) ++ List.replicate (1 - (lg_sl ([.ref (ad 6 k0)])).length) Slot.unset).toArray = ls at hl ⊢
  have hl : lv_has ls 1 [(0, .ref (ad 6 k0))] := hl
  unfold F_X7_hasRoomForFive at hF
  refine lv_aload_n hx hb dX7_hasRoomForFive_0 rfl (lv_at hl 0 rfl) ?_
  refine tw_get (v := .int (gI τ0 6 k0 1)) hx hb hts (by decide +kernel) hown hK hP (by decide) hk0 rfl rfl 1 (by decide) (hts (.fieldLink RX7 15 "WineCellar$Tape" "length" "I") (by decide +kernel)) (fun _ h9 => h9) rfl dX7_hasRoomForFive_1 ?_
  refine lv_bipush (v := 20) hx hb dX7_hasRoomForFive_4 (by decide) ?_
  refine lv_iadd hx hb dX7_hasRoomForFive_6 ?_
  refine lv_sipush (v := 200) hx hb dX7_hasRoomForFive_7 (by decide) ?_
  refine lv_icmp_gt (tgt := 17) hx hb dX7_hasRoomForFive_10 (by decide) (fun c1 => ?_) (fun c1 => ?_)
  · have hF := hF.1 c1
    refine lv_iconst (v := 0) hx hb dX7_hasRoomForFive_17 (by decide) ?_
    exact W.zret (v := (0 : Int32)) (ty := .boolean) hx hb hr rfl (fun t ht hW => ⟨⟨((0 : Int32)), τ0, rfl, ⟨hF, hN⟩, tw_at hP ht⟩, hS.F ht⟩) hS.2.2 dX7_hasRoomForFive_18
  · have hF := hF.2 c1
    refine lv_iconst (v := 1) hx hb dX7_hasRoomForFive_13 (by decide) ?_
    refine lv_goto (tgt := 18) hx hb dX7_hasRoomForFive_14 (by decide) ?_
    exact W.zret (v := (1 : Int32)) (ty := .boolean) hx hb hr rfl (fun t ht hW => ⟨⟨((1 : Int32)), τ0, rfl, ⟨hF, hN⟩, tw_at hP ht⟩, hS.F ht⟩) hS.2.2 dX7_hasRoomForFive_18
def L_X7_append_3 (p0 : Nat) (u1 : Int32) (Q : tw_T → Prop) (EX : tw_T → Int32 → Prop) : Nat → tw_T → Int32 → Prop
  | 0, _, _ => False
  | n + 1, τ, u2 => ((u2 < 0 → (EX τ u2)) ∧ (¬ u2 < 0 → (((((200 : Int32)) ≤ (gI τ 6 p0 1) → (EX τ u2)) ∧ (¬ ((200 : Int32)) ≤ (gI τ 6 p0 1) → (∃ o3 : Nat, gR τ 6 p0 0 = some o3 ∧ (vp_in (gI τ 6 p0 1) 200 ∧ (∀ τ5 : tw_T, τ5 = sI τ 14 o3 (gI τ 6 p0 1).toNatClampNeg ((u1 >>> (u2 &&& 31)) &&& ((255 : Int32))) → (∀ τ6 : tw_T, τ6 = sI τ5 6 p0 1 ((gI τ5 6 p0 1) + ((1 : Int32))) → (∀ z7 : Int32, z7 = u2 + (-8 : Int32) → (L_X7_append_3 p0 u1 Q EX n τ6 z7)))))))))))
def F_X7_append (τ0 : tw_T) (k0 : Nat) (x1 : Int32) (Q : tw_T → Prop) : Prop := ∃ n8 : Nat, L_X7_append_3 k0 x1 Q (fun (τ9 : tw_T) (z10 : Int32) => Q τ9) n8 τ0 ((24 : Int32))
def rmX7_append : Room := { frames := 0, cells := 0, slots := 0, locals := 0 }
set_option maxHeartbeats 4000000 in
set_option maxRecDepth 100000 in
theorem mX7_append (l : Launch) (dC : Nat → ClassId) (dI : Nat → Nat → Nat) (ac : Nat → ClassId) (sa : Nat → Nat) (A : Nat → Prop) (ad : Nat → Nat → Nat) (τ0 : tw_T) (k0 : Nat) (x1 : Int32) (Q : tw_T → Prop) (hF : F_X7_append τ0 k0 x1 Q) (hk0 : k0 < gN τ0 6) : Met l yX7_append wsX7_append rmX7_append (va_Pc [.ref (ad 6 k0), .int x1] (BX dC dI ac sa A ad τ0)) (va_Qv (fun (u : tw_T) => Q u ∧ gN u = gN τ0) (fun u t => PX dC dI ac A ad u t.heap) A) 0 0 A := by
  refine Met.ofW (cc := cX7_append) (maxL := 3) (ret := none) (by decide) rfl ?_
  intro p e s m args below meth c s₁ B hml hv
  obtain ⟨rfl, hP, hK, hA, hZ⟩ := hv
  have hx := B.exec
  have hb := B.bytes
  have hr := B.returns
  have hts := atoms_spec (ws := wsX7_append) B.pre
  have hown : s.vm.findClass RX7 = some m.cls := findClass_of_methodNamed B.named
  have hlocks := B.notSynchronized
  have hS : va_S A s.heap s.heap [] := va_S.rf
  have hN : gN τ0 = gN τ0 := rfl
  have hl := lv_entry ([.ref (ad 6 k0), .int x1]) (n := 3) (Nat.le_of_ble_eq_true rfl)
  rw [lg_entry_eq]
  generalize (lg_sl ([.ref (ad 6 k0), .int x1]) ++ List.replicate (3 - (lg_sl ([.ref (ad 6 k0), .int x1])).length) Slot.unset).toArray = ls at hl ⊢
  have hl : lv_has ls 3 [(0, .ref (ad 6 k0)), (1, .int x1)] := hl
  unfold F_X7_append at hF
  have l3 : ∀ (p0 : Nat) (hp0 : p0 < gN τ0 6) (u1 : Int32) (EX : tw_T → Int32 → Prop) (n : Nat) (τ : tw_T) (u2 : Int32) (H : Heap) (locs : List Loc) (ls : Array Slot), L_X7_append_3 p0 u1 Q EX n τ u2 → PX dC dI ac A ad τ H → gN τ = gN τ0 → va_S A s.heap H locs → lv_has ls 3 [(0, .ref (ad 6 p0)), (1, .int u1), (2, .int u2)] → (∀ (τ : tw_T) (u2 : Int32) (H : Heap) (locs : List Loc) (ls : Array Slot), EX τ u2 → PX dC dI ac A ad τ H → gN τ = gN τ0 → va_S A s.heap H locs → lv_has ls 3 [(0, .ref (ad 6 p0)), (1, .int u1), (2, .int u2)] → W p l e rmX7_append s m ([.ref (ad 6 k0), .int x1] : List Value).toArray below meth c H locs 0 0 (MQ below (va_Qv (fun (u : tw_T) => Q u ∧ gN u = gN τ0) (fun u t => PX dC dI ac A ad u t.heap) A) ([.ref (ad 6 k0), .int x1] : List Value).toArray s 0 0 A) (F0 m 49 ls [])) → W p l e rmX7_append s m ([.ref (ad 6 k0), .int x1] : List Value).toArray below meth c H locs 0 0 (MQ below (va_Qv (fun (u : tw_T) => Q u ∧ gN u = gN τ0) (fun u t => PX dC dI ac A ad u t.heap) A) ([.ref (ad 6 k0), .int x1] : List Value).toArray s 0 0 A) (F0 m 3 ls []) := by
    intro p0 hp0 u1 EX n
    induction n with
    | zero => intro τ u2 H locs ls hF; exact hF.elim
    | succ n ih =>
      intro τ u2 H locs ls hF hP hN hS hl hEX
      rw [L_X7_append_3] at hF
      refine lv_iload_n hx hb dX7_append_3 rfl (lv_at hl 2 rfl) ?_
      refine lv_if_lt (tgt := 49) hx hb dX7_append_4 (by decide) (fun c1 => ?_) (fun c1 => ?_)
      · have hF := hF.1 c1
        exact hEX τ u2 _ _ _ hF hP hN hS (lv_sub hl [0, 1, 2] rfl)
      · have hF := hF.2 c1
        refine lv_aload_n hx hb dX7_append_7 rfl (lv_at hl 0 rfl) ?_
        refine tw_get (v := .int (gI τ 6 p0 1)) hx hb hts (by decide +kernel) hown hK hP (by decide) (tw_lt hp0 (congrFun hN 6)) rfl rfl 1 (by decide) (hts (.fieldLink RX7 15 "WineCellar$Tape" "length" "I") (by decide +kernel)) (fun _ h9 => h9) rfl dX7_append_8 ?_
        refine lv_sipush (v := 200) hx hb dX7_append_11 (by decide) ?_
        refine lv_icmp_ge (tgt := 49) hx hb dX7_append_14 (by decide) (fun c2 => ?_) (fun c2 => ?_)
        · have hF := hF.1 c2
          exact hEX τ u2 _ _ _ hF hP hN hS (lv_sub hl [0, 1, 2] rfl)
        · have hF := hF.2 c2
          refine lv_aload_n hx hb dX7_append_17 rfl (lv_at hl 0 rfl) ?_
          obtain ⟨o3, eo3, hF⟩ := hF
          have ho3 : o3 < gN τ0 14 := tw_lt (hP.2.2.2 6 p0 0 o3 (by decide) (tw_lt hp0 (congrFun hN 6)) eo3) (congrFun hN 14).symm
          refine tw_get (v := .ref (ad 14 o3)) hx hb hts (by decide +kernel) hown hK hP (by decide) (tw_lt hp0 (congrFun hN 6)) rfl rfl 0 (by decide) (hts (.fieldLink RX7 11 "WineCellar$Tape" "bytes" "[I") (by decide +kernel)) (fun _ h9 => h9) (show some (va_rf ((gR τ 6 p0 0).map (ad 14))) = some (.ref (ad 14 o3)) by rw [eo3]; rfl) dX7_append_18 ?_
          refine lv_aload_n hx hb dX7_append_21 rfl (lv_at hl 0 rfl) ?_
          refine tw_get (v := .int (gI τ 6 p0 1)) hx hb hts (by decide +kernel) hown hK hP (by decide) (tw_lt hp0 (congrFun hN 6)) rfl rfl 1 (by decide) (hts (.fieldLink RX7 15 "WineCellar$Tape" "length" "I") (by decide +kernel)) (fun _ h9 => h9) rfl dX7_append_22 ?_
          refine lv_iload_n hx hb dX7_append_25 rfl (lv_at hl 1 rfl) ?_
          refine lv_iload_n hx hb dX7_append_26 rfl (lv_at hl 2 rfl) ?_
          refine lv_ishr hx hb dX7_append_27 ?_
          refine lv_sipush (v := 255) hx hb dX7_append_28 (by decide) ?_
          refine lv_iand hx hb dX7_append_31 ?_
          obtain ⟨hi4, hF⟩ := hF
          refine tw_iast hx hb hK hP hS (by decide) (tw_lt ho3 (congrFun hN 14)) rfl 0 rfl hi4 dX7_append_32 (fun H locs hP hS => ?_)
          obtain ⟨τ5, eτ5⟩ : ∃ y : tw_T, y = sI τ 14 o3 (gI τ 6 p0 1).toNatClampNeg ((u1 >>> (u2 &&& 31)) &&& ((255 : Int32))) := ⟨_, rfl⟩
          have hF := hF τ5 eτ5
          rw [← eτ5] at hP
          have hN : gN τ5 = gN τ0 := by rw [eτ5]; exact hN
          refine lv_aload_n hx hb dX7_append_33 rfl (lv_at hl 0 rfl) ?_
          refine lv_dup hx hb dX7_append_34 rfl ?_
          refine tw_get (v := .int (gI τ5 6 p0 1)) hx hb hts (by decide +kernel) hown hK hP (by decide) (tw_lt hp0 (congrFun hN 6)) rfl rfl 1 (by decide) (hts (.fieldLink RX7 15 "WineCellar$Tape" "length" "I") (by decide +kernel)) (fun _ h9 => h9) rfl dX7_append_35 ?_
          refine lv_iconst (v := 1) hx hb dX7_append_38 (by decide) ?_
          refine lv_iadd hx hb dX7_append_39 ?_
          refine tw_put (τ' := sI τ5 6 p0 1 ((gI τ5 6 p0 1) + ((1 : Int32)))) (ty := .int) hx hb hts (by decide +kernel) tyX7 tyX7_ok nmX7 hown hK hP hS (by decide) (tw_lt hp0 (congrFun hN 6)) rfl rfl 1 (by decide) (hts (.fieldLink RX7 15 "WineCellar$Tape" "length" "I") (by decide +kernel)) (fun _ h9 => h9) rfl (by decide +kernel) rfl rfl (Nat.le_of_ble_eq_true rfl) dX7_append_40 (fun H1 ha ho => tw_updI hP (by decide) (tw_lt hp0 (congrFun hN 6)) ha ho) (fun H locs hP hS => ?_)
          obtain ⟨τ6, eτ6⟩ : ∃ y : tw_T, y = sI τ5 6 p0 1 ((gI τ5 6 p0 1) + ((1 : Int32))) := ⟨_, rfl⟩
          have hF := hF τ6 eτ6
          rw [← eτ6] at hP
          have hN : gN τ6 = gN τ0 := by rw [eτ6]; exact hN
          obtain ⟨z7, ez7⟩ : ∃ y : Int32, y = u2 + (-8 : Int32) := ⟨_, rfl⟩
          have hF := hF z7 ez7
          refine lv_iinc (v := z7) (lv' := [(2, .int z7), (0, .ref (ad 6 p0)), (1, .int u1)]) hx hb dX7_append_43 hl (k := 2) rfl (by rw [ez7]; rfl) (by decide) rfl (fun ls hl => ?_)
          refine lv_goto (tgt := 3) hx hb dX7_append_46 (by decide) ?_
          exact ih τ6 z7 _ _ _ hF hP hN hS (lv_sub hl [1, 2, 0] rfl) hEX
  refine lv_bipush (v := 24) hx hb dX7_append_0 (by decide) ?_
  refine lv_istore_n (lv' := [(2, .int ((24 : Int32))), (0, .ref (ad 6 k0)), (1, .int x1)]) hx hb dX7_append_2 rfl hl (by decide) rfl (fun ls hl => ?_)
  obtain ⟨n8, hF⟩ := hF
  refine l3 k0 hk0 x1 _ n8 τ0 ((24 : Int32)) _ _ _ hF hP hN hS (lv_sub hl [1, 2, 0] rfl) ?_
  intro τ9 z10 H locs ls hF hP hN hS hl
  exact W.vret hx hb hr (fun t ht hW => ⟨⟨τ9, rfl, ⟨hF, hN⟩, tw_at hP ht⟩, hS.F ht⟩) hS.2.2 dX7_append_49
def J_X7_signHere_38 (τ : tw_T) (p0 : Nat) (Q : Int32 → tw_T → Prop) : Prop := (((gI τ 6 p0 3) ≤ (gI τ 6 p0 2) → (Q ((-1 : Int32)) τ)) ∧ (¬ (gI τ 6 p0 3) ≤ (gI τ 6 p0 2) → (∃ o2 : Nat, gR τ 6 p0 0 = some o2 ∧ (vp_in (gI τ 6 p0 2) 200 ∧ (Q (gI τ 14 o2 (gI τ 6 p0 2).toNatClampNeg) τ)))))
def L_X7_signHere_0 (p0 : Nat) (Q : Int32 → tw_T → Prop) (EX : tw_T → Prop) : Nat → tw_T → Prop
  | 0, _ => False
  | n + 1, τ => (((gI τ 6 p0 3) ≤ (gI τ 6 p0 2) → (EX τ )) ∧ (¬ (gI τ 6 p0 3) ≤ (gI τ 6 p0 2) → (∃ o5 : Nat, gR τ 6 p0 0 = some o5 ∧ (vp_in (gI τ 6 p0 2) 200 ∧ (((¬ (gI τ 14 o5 (gI τ 6 p0 2).toNatClampNeg) = ((32 : Int32)) → (EX τ )) ∧ ((gI τ 14 o5 (gI τ 6 p0 2).toNatClampNeg) = ((32 : Int32)) → (∀ τ8 : tw_T, τ8 = sI τ 6 p0 2 ((gI τ 6 p0 2) + ((1 : Int32))) → (L_X7_signHere_0 p0 Q EX n τ8 )))))))))
def F_X7_signHere (τ0 : tw_T) (k0 : Nat) (Q : Int32 → tw_T → Prop) : Prop := (((gI τ0 6 k0 3) ≤ (gI τ0 6 k0 2) → (J_X7_signHere_38 τ0 k0 Q)) ∧ (¬ (gI τ0 6 k0 3) ≤ (gI τ0 6 k0 2) → (∃ o10 : Nat, gR τ0 6 k0 0 = some o10 ∧ (vp_in (gI τ0 6 k0 2) 200 ∧ (((¬ (gI τ0 14 o10 (gI τ0 6 k0 2).toNatClampNeg) = ((32 : Int32)) → (J_X7_signHere_38 τ0 k0 Q)) ∧ ((gI τ0 14 o10 (gI τ0 6 k0 2).toNatClampNeg) = ((32 : Int32)) → (∀ τ13 : tw_T, τ13 = sI τ0 6 k0 2 ((gI τ0 6 k0 2) + ((1 : Int32))) → (∃ n14 : Nat, L_X7_signHere_0 k0 Q (fun (τ15 : tw_T)  => J_X7_signHere_38 τ15 k0 Q) n14 τ13 )))))))))
def rmX7_signHere : Room := { frames := 0, cells := 0, slots := 0, locals := 0 }
set_option maxHeartbeats 4000000 in
set_option maxRecDepth 100000 in
theorem mX7_signHere (l : Launch) (dC : Nat → ClassId) (dI : Nat → Nat → Nat) (ac : Nat → ClassId) (sa : Nat → Nat) (A : Nat → Prop) (ad : Nat → Nat → Nat) (τ0 : tw_T) (k0 : Nat) (Q : Int32 → tw_T → Prop) (hF : F_X7_signHere τ0 k0 Q) (hk0 : k0 < gN τ0 6) : Met l yX7_signHere wsX7_signHere rmX7_signHere (va_Pc [.ref (ad 6 k0)] (BX dC dI ac sa A ad τ0)) (va_Qi (fun r (u : tw_T) => Q r u ∧ gN u = gN τ0) (fun u t => PX dC dI ac A ad u t.heap) A) 0 0 A := by
  refine Met.ofW (cc := cX7_signHere) (maxL := 1) (ret := (some .int)) (by decide) rfl ?_
  intro p e s m args below meth c s₁ B hml hv
  obtain ⟨rfl, hP, hK, hA, hZ⟩ := hv
  have hx := B.exec
  have hb := B.bytes
  have hr := B.returns
  have hts := atoms_spec (ws := wsX7_signHere) B.pre
  have hown : s.vm.findClass RX7 = some m.cls := findClass_of_methodNamed B.named
  have hlocks := B.notSynchronized
  have hS : va_S A s.heap s.heap [] := va_S.rf
  have hN : gN τ0 = gN τ0 := rfl
  have hl := lv_entry ([.ref (ad 6 k0)]) (n := 1) (Nat.le_of_ble_eq_true rfl)
  rw [lg_entry_eq]
  generalize (lg_sl ([.ref (ad 6 k0)]) ++ List.replicate (1 - (lg_sl ([.ref (ad 6 k0)])).length) Slot.unset).toArray = ls at hl ⊢
  have hl : lv_has ls 1 [(0, .ref (ad 6 k0))] := hl
  unfold F_X7_signHere at hF
  have j38 : ∀ (τ : tw_T) (p0 : Nat) (hp0 : p0 < gN τ0 6) (H : Heap) (locs : List Loc) (ls : Array Slot), J_X7_signHere_38 τ p0 Q → PX dC dI ac A ad τ H → gN τ = gN τ0 → va_S A s.heap H locs → lv_has ls 1 [(0, .ref (ad 6 p0))] → W p l e rmX7_signHere s m ([.ref (ad 6 k0)] : List Value).toArray below meth c H locs 0 0 (MQ below (va_Qi (fun r (u : tw_T) => Q r u ∧ gN u = gN τ0) (fun u t => PX dC dI ac A ad u t.heap) A) ([.ref (ad 6 k0)] : List Value).toArray s 0 0 A) (F0 m 38 ls []) := by
    intro τ p0 hp0 H locs ls hF hP hN hS hl
    unfold J_X7_signHere_38 at hF
    refine lv_aload_n hx hb dX7_signHere_38 rfl (lv_at hl 0 rfl) ?_
    refine tw_get (v := .int (gI τ 6 p0 2)) hx hb hts (by decide +kernel) hown hK hP (by decide) (tw_lt hp0 (congrFun hN 6)) rfl rfl 2 (by decide) (hts (.fieldLink RX7 19 "WineCellar$Tape" "at" "I") (by decide +kernel)) (fun _ h9 => h9) rfl dX7_signHere_39 ?_
    refine lv_aload_n hx hb dX7_signHere_42 rfl (lv_at hl 0 rfl) ?_
    refine tw_get (v := .int (gI τ 6 p0 3)) hx hb hts (by decide +kernel) hown hK hP (by decide) (tw_lt hp0 (congrFun hN 6)) rfl rfl 3 (by decide) (hts (.fieldLink RX7 22 "WineCellar$Tape" "end" "I") (by decide +kernel)) (fun _ h9 => h9) rfl dX7_signHere_43 ?_
    refine lv_icmp_ge (tgt := 61) hx hb dX7_signHere_46 (by decide) (fun c1 => ?_) (fun c1 => ?_)
    · have hF := hF.1 c1
      refine lv_iconst (v := (-1)) hx hb dX7_signHere_61 (by decide) ?_
      exact W.iret (v := (-1 : Int32)) hx hb hr (fun t ht hW => ⟨⟨((-1 : Int32)), τ, rfl, ⟨hF, hN⟩, tw_at hP ht⟩, hS.F ht⟩) hS.2.2 dX7_signHere_62
    · have hF := hF.2 c1
      refine lv_aload_n hx hb dX7_signHere_49 rfl (lv_at hl 0 rfl) ?_
      obtain ⟨o2, eo2, hF⟩ := hF
      have ho2 : o2 < gN τ0 14 := tw_lt (hP.2.2.2 6 p0 0 o2 (by decide) (tw_lt hp0 (congrFun hN 6)) eo2) (congrFun hN 14).symm
      refine tw_get (v := .ref (ad 14 o2)) hx hb hts (by decide +kernel) hown hK hP (by decide) (tw_lt hp0 (congrFun hN 6)) rfl rfl 0 (by decide) (hts (.fieldLink RX7 11 "WineCellar$Tape" "bytes" "[I") (by decide +kernel)) (fun _ h9 => h9) (show some (va_rf ((gR τ 6 p0 0).map (ad 14))) = some (.ref (ad 14 o2)) by rw [eo2]; rfl) dX7_signHere_50 ?_
      refine lv_aload_n hx hb dX7_signHere_53 rfl (lv_at hl 0 rfl) ?_
      refine tw_get (v := .int (gI τ 6 p0 2)) hx hb hts (by decide +kernel) hown hK hP (by decide) (tw_lt hp0 (congrFun hN 6)) rfl rfl 2 (by decide) (hts (.fieldLink RX7 19 "WineCellar$Tape" "at" "I") (by decide +kernel)) (fun _ h9 => h9) rfl dX7_signHere_54 ?_
      obtain ⟨hi3, hF⟩ := hF
      refine tw_iald hx hb hK hP (by decide) (tw_lt ho2 (congrFun hN 14)) rfl 0 rfl hi3 dX7_signHere_57 ?_
      refine lv_goto (tgt := 62) hx hb dX7_signHere_58 (by decide) ?_
      exact W.iret (v := gI τ 14 o2 (gI τ 6 p0 2).toNatClampNeg) hx hb hr (fun t ht hW => ⟨⟨(gI τ 14 o2 (gI τ 6 p0 2).toNatClampNeg), τ, rfl, ⟨hF, hN⟩, tw_at hP ht⟩, hS.F ht⟩) hS.2.2 dX7_signHere_62
  have l0 : ∀ (p0 : Nat) (hp0 : p0 < gN τ0 6) (EX : tw_T → Prop) (n : Nat) (τ : tw_T)  (H : Heap) (locs : List Loc) (ls : Array Slot), L_X7_signHere_0 p0 Q EX n τ  → PX dC dI ac A ad τ H → gN τ = gN τ0 → va_S A s.heap H locs → lv_has ls 1 [(0, .ref (ad 6 p0))] → (∀ (τ : tw_T)  (H : Heap) (locs : List Loc) (ls : Array Slot), EX τ  → PX dC dI ac A ad τ H → gN τ = gN τ0 → va_S A s.heap H locs → lv_has ls 1 [(0, .ref (ad 6 p0))] → W p l e rmX7_signHere s m ([.ref (ad 6 k0)] : List Value).toArray below meth c H locs 0 0 (MQ below (va_Qi (fun r (u : tw_T) => Q r u ∧ gN u = gN τ0) (fun u t => PX dC dI ac A ad u t.heap) A) ([.ref (ad 6 k0)] : List Value).toArray s 0 0 A) (F0 m 38 ls [])) → W p l e rmX7_signHere s m ([.ref (ad 6 k0)] : List Value).toArray below meth c H locs 0 0 (MQ below (va_Qi (fun r (u : tw_T) => Q r u ∧ gN u = gN τ0) (fun u t => PX dC dI ac A ad u t.heap) A) ([.ref (ad 6 k0)] : List Value).toArray s 0 0 A) (F0 m 0 ls []) := by
    intro p0 hp0 EX n
    induction n with
    | zero => intro τ  H locs ls hF; exact hF.elim
    | succ n ih =>
      intro τ  H locs ls hF hP hN hS hl hEX
      rw [L_X7_signHere_0] at hF
      refine lv_aload_n hx hb dX7_signHere_0 rfl (lv_at hl 0 rfl) ?_
      refine tw_get (v := .int (gI τ 6 p0 2)) hx hb hts (by decide +kernel) hown hK hP (by decide) (tw_lt hp0 (congrFun hN 6)) rfl rfl 2 (by decide) (hts (.fieldLink RX7 19 "WineCellar$Tape" "at" "I") (by decide +kernel)) (fun _ h9 => h9) rfl dX7_signHere_1 ?_
      refine lv_aload_n hx hb dX7_signHere_4 rfl (lv_at hl 0 rfl) ?_
      refine tw_get (v := .int (gI τ 6 p0 3)) hx hb hts (by decide +kernel) hown hK hP (by decide) (tw_lt hp0 (congrFun hN 6)) rfl rfl 3 (by decide) (hts (.fieldLink RX7 22 "WineCellar$Tape" "end" "I") (by decide +kernel)) (fun _ h9 => h9) rfl dX7_signHere_5 ?_
      refine lv_icmp_ge (tgt := 38) hx hb dX7_signHere_8 (by decide) (fun c4 => ?_) (fun c4 => ?_)
      · have hF := hF.1 c4
        exact hEX τ  _ _ _ hF hP hN hS (lv_sub hl [0] rfl)
      · have hF := hF.2 c4
        refine lv_aload_n hx hb dX7_signHere_11 rfl (lv_at hl 0 rfl) ?_
        obtain ⟨o5, eo5, hF⟩ := hF
        have ho5 : o5 < gN τ0 14 := tw_lt (hP.2.2.2 6 p0 0 o5 (by decide) (tw_lt hp0 (congrFun hN 6)) eo5) (congrFun hN 14).symm
        refine tw_get (v := .ref (ad 14 o5)) hx hb hts (by decide +kernel) hown hK hP (by decide) (tw_lt hp0 (congrFun hN 6)) rfl rfl 0 (by decide) (hts (.fieldLink RX7 11 "WineCellar$Tape" "bytes" "[I") (by decide +kernel)) (fun _ h9 => h9) (show some (va_rf ((gR τ 6 p0 0).map (ad 14))) = some (.ref (ad 14 o5)) by rw [eo5]; rfl) dX7_signHere_12 ?_
        refine lv_aload_n hx hb dX7_signHere_15 rfl (lv_at hl 0 rfl) ?_
        refine tw_get (v := .int (gI τ 6 p0 2)) hx hb hts (by decide +kernel) hown hK hP (by decide) (tw_lt hp0 (congrFun hN 6)) rfl rfl 2 (by decide) (hts (.fieldLink RX7 19 "WineCellar$Tape" "at" "I") (by decide +kernel)) (fun _ h9 => h9) rfl dX7_signHere_16 ?_
        obtain ⟨hi6, hF⟩ := hF
        refine tw_iald hx hb hK hP (by decide) (tw_lt ho5 (congrFun hN 14)) rfl 0 rfl hi6 dX7_signHere_19 ?_
        refine lv_bipush (v := 32) hx hb dX7_signHere_20 (by decide) ?_
        refine lv_icmp_ne (tgt := 38) hx hb dX7_signHere_22 (by decide) (fun c7 => ?_) (fun c7 => ?_)
        · have hF := hF.1 c7
          exact hEX τ  _ _ _ hF hP hN hS (lv_sub hl [0] rfl)
        · have hF := hF.2 c7
          refine lv_aload_n hx hb dX7_signHere_25 rfl (lv_at hl 0 rfl) ?_
          refine lv_dup hx hb dX7_signHere_26 rfl ?_
          refine tw_get (v := .int (gI τ 6 p0 2)) hx hb hts (by decide +kernel) hown hK hP (by decide) (tw_lt hp0 (congrFun hN 6)) rfl rfl 2 (by decide) (hts (.fieldLink RX7 19 "WineCellar$Tape" "at" "I") (by decide +kernel)) (fun _ h9 => h9) rfl dX7_signHere_27 ?_
          refine lv_iconst (v := 1) hx hb dX7_signHere_30 (by decide) ?_
          refine lv_iadd hx hb dX7_signHere_31 ?_
          refine tw_put (τ' := sI τ 6 p0 2 ((gI τ 6 p0 2) + ((1 : Int32)))) (ty := .int) hx hb hts (by decide +kernel) tyX7 tyX7_ok nmX7 hown hK hP hS (by decide) (tw_lt hp0 (congrFun hN 6)) rfl rfl 2 (by decide) (hts (.fieldLink RX7 19 "WineCellar$Tape" "at" "I") (by decide +kernel)) (fun _ h9 => h9) rfl (by decide +kernel) rfl rfl (Nat.le_of_ble_eq_true rfl) dX7_signHere_32 (fun H1 ha ho => tw_updI hP (by decide) (tw_lt hp0 (congrFun hN 6)) ha ho) (fun H locs hP hS => ?_)
          obtain ⟨τ8, eτ8⟩ : ∃ y : tw_T, y = sI τ 6 p0 2 ((gI τ 6 p0 2) + ((1 : Int32))) := ⟨_, rfl⟩
          have hF := hF τ8 eτ8
          rw [← eτ8] at hP
          have hN : gN τ8 = gN τ0 := by rw [eτ8]; exact hN
          refine lv_goto (tgt := 0) hx hb dX7_signHere_35 (by decide) ?_
          exact ih τ8  _ _ _ hF hP hN hS (lv_sub hl [0] rfl) hEX
  refine lv_aload_n hx hb dX7_signHere_0 rfl (lv_at hl 0 rfl) ?_
  refine tw_get (v := .int (gI τ0 6 k0 2)) hx hb hts (by decide +kernel) hown hK hP (by decide) hk0 rfl rfl 2 (by decide) (hts (.fieldLink RX7 19 "WineCellar$Tape" "at" "I") (by decide +kernel)) (fun _ h9 => h9) rfl dX7_signHere_1 ?_
  refine lv_aload_n hx hb dX7_signHere_4 rfl (lv_at hl 0 rfl) ?_
  refine tw_get (v := .int (gI τ0 6 k0 3)) hx hb hts (by decide +kernel) hown hK hP (by decide) hk0 rfl rfl 3 (by decide) (hts (.fieldLink RX7 22 "WineCellar$Tape" "end" "I") (by decide +kernel)) (fun _ h9 => h9) rfl dX7_signHere_5 ?_
  refine lv_icmp_ge (tgt := 38) hx hb dX7_signHere_8 (by decide) (fun c9 => ?_) (fun c9 => ?_)
  · have hF := hF.1 c9
    exact j38 τ0 k0 hk0 _ _ _ hF hP hN hS (lv_sub hl [0] rfl)
  · have hF := hF.2 c9
    refine lv_aload_n hx hb dX7_signHere_11 rfl (lv_at hl 0 rfl) ?_
    obtain ⟨o10, eo10, hF⟩ := hF
    have ho10 : o10 < gN τ0 14 := tw_lt (hP.2.2.2 6 k0 0 o10 (by decide) hk0 eo10) (congrFun hN 14).symm
    refine tw_get (v := .ref (ad 14 o10)) hx hb hts (by decide +kernel) hown hK hP (by decide) hk0 rfl rfl 0 (by decide) (hts (.fieldLink RX7 11 "WineCellar$Tape" "bytes" "[I") (by decide +kernel)) (fun _ h9 => h9) (show some (va_rf ((gR τ0 6 k0 0).map (ad 14))) = some (.ref (ad 14 o10)) by rw [eo10]; rfl) dX7_signHere_12 ?_
    refine lv_aload_n hx hb dX7_signHere_15 rfl (lv_at hl 0 rfl) ?_
    refine tw_get (v := .int (gI τ0 6 k0 2)) hx hb hts (by decide +kernel) hown hK hP (by decide) hk0 rfl rfl 2 (by decide) (hts (.fieldLink RX7 19 "WineCellar$Tape" "at" "I") (by decide +kernel)) (fun _ h9 => h9) rfl dX7_signHere_16 ?_
    obtain ⟨hi11, hF⟩ := hF
    refine tw_iald hx hb hK hP (by decide) ho10 rfl 0 rfl hi11 dX7_signHere_19 ?_
    refine lv_bipush (v := 32) hx hb dX7_signHere_20 (by decide) ?_
    refine lv_icmp_ne (tgt := 38) hx hb dX7_signHere_22 (by decide) (fun c12 => ?_) (fun c12 => ?_)
    · have hF := hF.1 c12
      exact j38 τ0 k0 hk0 _ _ _ hF hP hN hS (lv_sub hl [0] rfl)
    · have hF := hF.2 c12
      refine lv_aload_n hx hb dX7_signHere_25 rfl (lv_at hl 0 rfl) ?_
      refine lv_dup hx hb dX7_signHere_26 rfl ?_
      refine tw_get (v := .int (gI τ0 6 k0 2)) hx hb hts (by decide +kernel) hown hK hP (by decide) hk0 rfl rfl 2 (by decide) (hts (.fieldLink RX7 19 "WineCellar$Tape" "at" "I") (by decide +kernel)) (fun _ h9 => h9) rfl dX7_signHere_27 ?_
      refine lv_iconst (v := 1) hx hb dX7_signHere_30 (by decide) ?_
      refine lv_iadd hx hb dX7_signHere_31 ?_
      refine tw_put (τ' := sI τ0 6 k0 2 ((gI τ0 6 k0 2) + ((1 : Int32)))) (ty := .int) hx hb hts (by decide +kernel) tyX7 tyX7_ok nmX7 hown hK hP hS (by decide) hk0 rfl rfl 2 (by decide) (hts (.fieldLink RX7 19 "WineCellar$Tape" "at" "I") (by decide +kernel)) (fun _ h9 => h9) rfl (by decide +kernel) rfl rfl (Nat.le_of_ble_eq_true rfl) dX7_signHere_32 (fun H1 ha ho => tw_updI hP (by decide) hk0 ha ho) (fun H locs hP hS => ?_)
      obtain ⟨τ13, eτ13⟩ : ∃ y : tw_T, y = sI τ0 6 k0 2 ((gI τ0 6 k0 2) + ((1 : Int32))) := ⟨_, rfl⟩
      have hF := hF τ13 eτ13
      rw [← eτ13] at hP
      have hN : gN τ13 = gN τ0 := by rw [eτ13]; exact hN
      refine lv_goto (tgt := 0) hx hb dX7_signHere_35 (by decide) ?_
      obtain ⟨n14, hF⟩ := hF
      refine l0 k0 hk0 _ n14 τ13  _ _ _ hF hP hN hS (lv_sub hl [0] rfl) ?_
      intro τ15  H locs ls hF hP hN hS hl
      exact j38 τ15 k0 hk0 _ _ _ hF hP hN hS (lv_sub hl [0] rfl)
def J_X7_readNumber_87 (τ : tw_T) (u1 : Int32) (u2 : Int32) (Q : Int32 → tw_T → Prop) : Prop := ((¬ u2 = 0 → (Q u1 τ)) ∧ (u2 = 0 → (Q ((-1 : Int32)) τ)))
def L_X7_readNumber_9 (p0 : Nat) (Q : Int32 → tw_T → Prop) (EX : tw_T → Int32 → Int32 → Prop) : Nat → tw_T → Int32 → Int32 → Prop
  | 0, _, _, _ => False
  | n + 1, τ, u1, u2 => ((((5 : Int32)) ≤ u2 → (EX τ u1 u2)) ∧ (¬ ((5 : Int32)) ≤ u2 → ((((gI τ 6 p0 3) ≤ (gI τ 6 p0 2) → (EX τ u1 u2)) ∧ (¬ (gI τ 6 p0 3) ≤ (gI τ 6 p0 2) → (∃ o4 : Nat, gR τ 6 p0 0 = some o4 ∧ (vp_in (gI τ 6 p0 2) 200 ∧ ((((gI τ 14 o4 (gI τ 6 p0 2).toNatClampNeg) < ((48 : Int32)) → (EX τ u1 u2)) ∧ (¬ (gI τ 14 o4 (gI τ 6 p0 2).toNatClampNeg) < ((48 : Int32)) → (∃ o7 : Nat, gR τ 6 p0 0 = some o7 ∧ (vp_in (gI τ 6 p0 2) 200 ∧ (((((57 : Int32)) < (gI τ 14 o7 (gI τ 6 p0 2).toNatClampNeg) → (EX τ u1 u2)) ∧ (¬ ((57 : Int32)) < (gI τ 14 o7 (gI τ 6 p0 2).toNatClampNeg) → (∃ o10 : Nat, gR τ 6 p0 0 = some o10 ∧ (vp_in (gI τ 6 p0 2) 200 ∧ (∀ z12 : Int32, z12 = ((u1 * ((10 : Int32))) + (gI τ 14 o10 (gI τ 6 p0 2).toNatClampNeg)) - ((48 : Int32)) → (∀ z13 : Int32, z13 = u2 + (1 : Int32) → (∀ τ14 : tw_T, τ14 = sI τ 6 p0 2 ((gI τ 6 p0 2) + ((1 : Int32))) → (L_X7_readNumber_9 p0 Q EX n τ14 z12 z13)))))))))))))))))))))
def F_X7_readNumber (τ0 : tw_T) (k0 : Nat) (Q : Int32 → tw_T → Prop) : Prop := F_X7_signHere τ0 k0 (fun (r16 : Int32) (τ15 : tw_T) => (∃ n17 : Nat, L_X7_readNumber_9 k0 Q (fun (τ18 : tw_T) (z19 : Int32) (z20 : Int32) => J_X7_readNumber_87 τ18 z19 z20 Q) n17 τ15 ((0 : Int32)) ((0 : Int32))))
def rmX7_readNumber : Room := { frames := 1, cells := 0, slots := 0, locals := 20 }
set_option maxHeartbeats 4000000 in
set_option maxRecDepth 100000 in
theorem mX7_readNumber (l : Launch) (dC : Nat → ClassId) (dI : Nat → Nat → Nat) (ac : Nat → ClassId) (sa : Nat → Nat) (A : Nat → Prop) (ad : Nat → Nat → Nat) (τ0 : tw_T) (k0 : Nat) (Q : Int32 → tw_T → Prop) (hF : F_X7_readNumber τ0 k0 Q) (hk0 : k0 < gN τ0 6) : Met l yX7_readNumber wsX7_readNumber rmX7_readNumber (va_Pc [.ref (ad 6 k0)] (BX dC dI ac sa A ad τ0)) (va_Qi (fun r (u : tw_T) => Q r u ∧ gN u = gN τ0) (fun u t => PX dC dI ac A ad u t.heap) A) 0 0 A := by
  refine Met.ofW (cc := cX7_readNumber) (maxL := 3) (ret := (some .int)) (by decide) rfl ?_
  intro p e s m args below meth c s₁ B hml hv
  obtain ⟨rfl, hP, hK, hA, hZ⟩ := hv
  have hx := B.exec
  have hb := B.bytes
  have hr := B.returns
  have hts := atoms_spec (ws := wsX7_readNumber) B.pre
  have hown : s.vm.findClass RX7 = some m.cls := findClass_of_methodNamed B.named
  have hlocks := B.notSynchronized
  have hS : va_S A s.heap s.heap [] := va_S.rf
  have hN : gN τ0 = gN τ0 := rfl
  have hl := lv_entry ([.ref (ad 6 k0)]) (n := 3) (Nat.le_of_ble_eq_true rfl)
  rw [lg_entry_eq]
  generalize (lg_sl ([.ref (ad 6 k0)]) ++ List.replicate (3 - (lg_sl ([.ref (ad 6 k0)])).length) Slot.unset).toArray = ls at hl ⊢
  have hl : lv_has ls 3 [(0, .ref (ad 6 k0))] := hl
  unfold F_X7_readNumber at hF
  have j87 : ∀ (τ : tw_T) (u1 : Int32) (u2 : Int32) (H : Heap) (locs : List Loc) (ls : Array Slot), J_X7_readNumber_87 τ u1 u2 Q → PX dC dI ac A ad τ H → gN τ = gN τ0 → va_S A s.heap H locs → lv_has ls 3 [(1, .int u1), (2, .int u2)] → W p l e rmX7_readNumber s m ([.ref (ad 6 k0)] : List Value).toArray below meth c H locs 0 0 (MQ below (va_Qi (fun r (u : tw_T) => Q r u ∧ gN u = gN τ0) (fun u t => PX dC dI ac A ad u t.heap) A) ([.ref (ad 6 k0)] : List Value).toArray s 0 0 A) (F0 m 87 ls []) := by
    intro τ u1 u2 H locs ls hF hP hN hS hl
    unfold J_X7_readNumber_87 at hF
    refine lv_iload_n hx hb dX7_readNumber_87 rfl (lv_at hl 1 rfl) ?_
    refine lv_if_ne (tgt := 95) hx hb dX7_readNumber_88 (by decide) (fun c1 => ?_) (fun c1 => ?_)
    · have hF := hF.1 c1
      refine lv_iload_n hx hb dX7_readNumber_95 rfl (lv_at hl 0 rfl) ?_
      exact W.iret (v := u1) hx hb hr (fun t ht hW => ⟨⟨u1, τ, rfl, ⟨hF, hN⟩, tw_at hP ht⟩, hS.F ht⟩) hS.2.2 dX7_readNumber_96
    · have hF := hF.2 c1
      refine lv_iconst (v := (-1)) hx hb dX7_readNumber_91 (by decide) ?_
      refine lv_goto (tgt := 96) hx hb dX7_readNumber_92 (by decide) ?_
      exact W.iret (v := (-1 : Int32)) hx hb hr (fun t ht hW => ⟨⟨((-1 : Int32)), τ, rfl, ⟨hF, hN⟩, tw_at hP ht⟩, hS.F ht⟩) hS.2.2 dX7_readNumber_96
  have l9 : ∀ (p0 : Nat) (hp0 : p0 < gN τ0 6) (EX : tw_T → Int32 → Int32 → Prop) (n : Nat) (τ : tw_T) (u1 : Int32) (u2 : Int32) (H : Heap) (locs : List Loc) (ls : Array Slot), L_X7_readNumber_9 p0 Q EX n τ u1 u2 → PX dC dI ac A ad τ H → gN τ = gN τ0 → va_S A s.heap H locs → lv_has ls 3 [(0, .ref (ad 6 p0)), (1, .int u1), (2, .int u2)] → (∀ (τ : tw_T) (u1 : Int32) (u2 : Int32) (H : Heap) (locs : List Loc) (ls : Array Slot), EX τ u1 u2 → PX dC dI ac A ad τ H → gN τ = gN τ0 → va_S A s.heap H locs → lv_has ls 3 [(0, .ref (ad 6 p0)), (1, .int u1), (2, .int u2)] → W p l e rmX7_readNumber s m ([.ref (ad 6 k0)] : List Value).toArray below meth c H locs 0 0 (MQ below (va_Qi (fun r (u : tw_T) => Q r u ∧ gN u = gN τ0) (fun u t => PX dC dI ac A ad u t.heap) A) ([.ref (ad 6 k0)] : List Value).toArray s 0 0 A) (F0 m 87 ls [])) → W p l e rmX7_readNumber s m ([.ref (ad 6 k0)] : List Value).toArray below meth c H locs 0 0 (MQ below (va_Qi (fun r (u : tw_T) => Q r u ∧ gN u = gN τ0) (fun u t => PX dC dI ac A ad u t.heap) A) ([.ref (ad 6 k0)] : List Value).toArray s 0 0 A) (F0 m 9 ls []) := by
    intro p0 hp0 EX n
    induction n with
    | zero => intro τ u1 u2 H locs ls hF; exact hF.elim
    | succ n ih =>
      intro τ u1 u2 H locs ls hF hP hN hS hl hEX
      rw [L_X7_readNumber_9] at hF
      refine lv_iload_n hx hb dX7_readNumber_9 rfl (lv_at hl 2 rfl) ?_
      refine lv_iconst (v := 5) hx hb dX7_readNumber_10 (by decide) ?_
      refine lv_icmp_ge (tgt := 87) hx hb dX7_readNumber_11 (by decide) (fun c2 => ?_) (fun c2 => ?_)
      · have hF := hF.1 c2
        exact hEX τ u1 u2 _ _ _ hF hP hN hS (lv_sub hl [0, 1, 2] rfl)
      · have hF := hF.2 c2
        refine lv_aload_n hx hb dX7_readNumber_14 rfl (lv_at hl 0 rfl) ?_
        refine tw_get (v := .int (gI τ 6 p0 2)) hx hb hts (by decide +kernel) hown hK hP (by decide) (tw_lt hp0 (congrFun hN 6)) rfl rfl 2 (by decide) (hts (.fieldLink RX7 19 "WineCellar$Tape" "at" "I") (by decide +kernel)) (fun _ h9 => h9) rfl dX7_readNumber_15 ?_
        refine lv_aload_n hx hb dX7_readNumber_18 rfl (lv_at hl 0 rfl) ?_
        refine tw_get (v := .int (gI τ 6 p0 3)) hx hb hts (by decide +kernel) hown hK hP (by decide) (tw_lt hp0 (congrFun hN 6)) rfl rfl 3 (by decide) (hts (.fieldLink RX7 22 "WineCellar$Tape" "end" "I") (by decide +kernel)) (fun _ h9 => h9) rfl dX7_readNumber_19 ?_
        refine lv_icmp_ge (tgt := 87) hx hb dX7_readNumber_22 (by decide) (fun c3 => ?_) (fun c3 => ?_)
        · have hF := hF.1 c3
          exact hEX τ u1 u2 _ _ _ hF hP hN hS (lv_sub hl [0, 1, 2] rfl)
        · have hF := hF.2 c3
          refine lv_aload_n hx hb dX7_readNumber_25 rfl (lv_at hl 0 rfl) ?_
          obtain ⟨o4, eo4, hF⟩ := hF
          have ho4 : o4 < gN τ0 14 := tw_lt (hP.2.2.2 6 p0 0 o4 (by decide) (tw_lt hp0 (congrFun hN 6)) eo4) (congrFun hN 14).symm
          refine tw_get (v := .ref (ad 14 o4)) hx hb hts (by decide +kernel) hown hK hP (by decide) (tw_lt hp0 (congrFun hN 6)) rfl rfl 0 (by decide) (hts (.fieldLink RX7 11 "WineCellar$Tape" "bytes" "[I") (by decide +kernel)) (fun _ h9 => h9) (show some (va_rf ((gR τ 6 p0 0).map (ad 14))) = some (.ref (ad 14 o4)) by rw [eo4]; rfl) dX7_readNumber_26 ?_
          refine lv_aload_n hx hb dX7_readNumber_29 rfl (lv_at hl 0 rfl) ?_
          refine tw_get (v := .int (gI τ 6 p0 2)) hx hb hts (by decide +kernel) hown hK hP (by decide) (tw_lt hp0 (congrFun hN 6)) rfl rfl 2 (by decide) (hts (.fieldLink RX7 19 "WineCellar$Tape" "at" "I") (by decide +kernel)) (fun _ h9 => h9) rfl dX7_readNumber_30 ?_
          obtain ⟨hi5, hF⟩ := hF
          refine tw_iald hx hb hK hP (by decide) (tw_lt ho4 (congrFun hN 14)) rfl 0 rfl hi5 dX7_readNumber_33 ?_
          refine lv_bipush (v := 48) hx hb dX7_readNumber_34 (by decide) ?_
          refine lv_icmp_lt (tgt := 87) hx hb dX7_readNumber_36 (by decide) (fun c6 => ?_) (fun c6 => ?_)
          · have hF := hF.1 c6
            exact hEX τ u1 u2 _ _ _ hF hP hN hS (lv_sub hl [0, 1, 2] rfl)
          · have hF := hF.2 c6
            refine lv_aload_n hx hb dX7_readNumber_39 rfl (lv_at hl 0 rfl) ?_
            obtain ⟨o7, eo7, hF⟩ := hF
            have ho7 : o7 < gN τ0 14 := tw_lt (hP.2.2.2 6 p0 0 o7 (by decide) (tw_lt hp0 (congrFun hN 6)) eo7) (congrFun hN 14).symm
            refine tw_get (v := .ref (ad 14 o7)) hx hb hts (by decide +kernel) hown hK hP (by decide) (tw_lt hp0 (congrFun hN 6)) rfl rfl 0 (by decide) (hts (.fieldLink RX7 11 "WineCellar$Tape" "bytes" "[I") (by decide +kernel)) (fun _ h9 => h9) (show some (va_rf ((gR τ 6 p0 0).map (ad 14))) = some (.ref (ad 14 o7)) by rw [eo7]; rfl) dX7_readNumber_40 ?_
            refine lv_aload_n hx hb dX7_readNumber_43 rfl (lv_at hl 0 rfl) ?_
            refine tw_get (v := .int (gI τ 6 p0 2)) hx hb hts (by decide +kernel) hown hK hP (by decide) (tw_lt hp0 (congrFun hN 6)) rfl rfl 2 (by decide) (hts (.fieldLink RX7 19 "WineCellar$Tape" "at" "I") (by decide +kernel)) (fun _ h9 => h9) rfl dX7_readNumber_44 ?_
            obtain ⟨hi8, hF⟩ := hF
            refine tw_iald hx hb hK hP (by decide) (tw_lt ho7 (congrFun hN 14)) rfl 0 rfl hi8 dX7_readNumber_47 ?_
            refine lv_bipush (v := 57) hx hb dX7_readNumber_48 (by decide) ?_
            refine lv_icmp_gt (tgt := 87) hx hb dX7_readNumber_50 (by decide) (fun c9 => ?_) (fun c9 => ?_)
            · have hF := hF.1 c9
              exact hEX τ u1 u2 _ _ _ hF hP hN hS (lv_sub hl [0, 1, 2] rfl)
            · have hF := hF.2 c9
              refine lv_iload_n hx hb dX7_readNumber_53 rfl (lv_at hl 1 rfl) ?_
              refine lv_bipush (v := 10) hx hb dX7_readNumber_54 (by decide) ?_
              refine lv_imul hx hb dX7_readNumber_56 ?_
              refine lv_aload_n hx hb dX7_readNumber_57 rfl (lv_at hl 0 rfl) ?_
              obtain ⟨o10, eo10, hF⟩ := hF
              have ho10 : o10 < gN τ0 14 := tw_lt (hP.2.2.2 6 p0 0 o10 (by decide) (tw_lt hp0 (congrFun hN 6)) eo10) (congrFun hN 14).symm
              refine tw_get (v := .ref (ad 14 o10)) hx hb hts (by decide +kernel) hown hK hP (by decide) (tw_lt hp0 (congrFun hN 6)) rfl rfl 0 (by decide) (hts (.fieldLink RX7 11 "WineCellar$Tape" "bytes" "[I") (by decide +kernel)) (fun _ h9 => h9) (show some (va_rf ((gR τ 6 p0 0).map (ad 14))) = some (.ref (ad 14 o10)) by rw [eo10]; rfl) dX7_readNumber_58 ?_
              refine lv_aload_n hx hb dX7_readNumber_61 rfl (lv_at hl 0 rfl) ?_
              refine tw_get (v := .int (gI τ 6 p0 2)) hx hb hts (by decide +kernel) hown hK hP (by decide) (tw_lt hp0 (congrFun hN 6)) rfl rfl 2 (by decide) (hts (.fieldLink RX7 19 "WineCellar$Tape" "at" "I") (by decide +kernel)) (fun _ h9 => h9) rfl dX7_readNumber_62 ?_
              obtain ⟨hi11, hF⟩ := hF
              refine tw_iald hx hb hK hP (by decide) (tw_lt ho10 (congrFun hN 14)) rfl 0 rfl hi11 dX7_readNumber_65 ?_
              refine lv_iadd hx hb dX7_readNumber_66 ?_
              refine lv_bipush (v := 48) hx hb dX7_readNumber_67 (by decide) ?_
              refine lv_isub hx hb dX7_readNumber_69 ?_
              refine lv_topi (fun z12 ez12 => ?_)
              have hF := hF z12 ez12
              refine lv_istore_n (lv' := [(1, .int z12), (0, .ref (ad 6 p0)), (2, .int u2)]) hx hb dX7_readNumber_70 rfl hl (by decide) rfl (fun ls hl => ?_)
              obtain ⟨z13, ez13⟩ : ∃ y : Int32, y = u2 + (1 : Int32) := ⟨_, rfl⟩
              have hF := hF z13 ez13
              refine lv_iinc (v := z13) (lv' := [(2, .int z13), (1, .int z12), (0, .ref (ad 6 p0))]) hx hb dX7_readNumber_71 hl (k := 2) rfl (by rw [ez13]; rfl) (by decide) rfl (fun ls hl => ?_)
              refine lv_aload_n hx hb dX7_readNumber_74 rfl (lv_at hl 2 rfl) ?_
              refine lv_dup hx hb dX7_readNumber_75 rfl ?_
              refine tw_get (v := .int (gI τ 6 p0 2)) hx hb hts (by decide +kernel) hown hK hP (by decide) (tw_lt hp0 (congrFun hN 6)) rfl rfl 2 (by decide) (hts (.fieldLink RX7 19 "WineCellar$Tape" "at" "I") (by decide +kernel)) (fun _ h9 => h9) rfl dX7_readNumber_76 ?_
              refine lv_iconst (v := 1) hx hb dX7_readNumber_79 (by decide) ?_
              refine lv_iadd hx hb dX7_readNumber_80 ?_
              refine tw_put (τ' := sI τ 6 p0 2 ((gI τ 6 p0 2) + ((1 : Int32)))) (ty := .int) hx hb hts (by decide +kernel) tyX7 tyX7_ok nmX7 hown hK hP hS (by decide) (tw_lt hp0 (congrFun hN 6)) rfl rfl 2 (by decide) (hts (.fieldLink RX7 19 "WineCellar$Tape" "at" "I") (by decide +kernel)) (fun _ h9 => h9) rfl (by decide +kernel) rfl rfl (Nat.le_of_ble_eq_true rfl) dX7_readNumber_81 (fun H1 ha ho => tw_updI hP (by decide) (tw_lt hp0 (congrFun hN 6)) ha ho) (fun H locs hP hS => ?_)
              obtain ⟨τ14, eτ14⟩ : ∃ y : tw_T, y = sI τ 6 p0 2 ((gI τ 6 p0 2) + ((1 : Int32))) := ⟨_, rfl⟩
              have hF := hF τ14 eτ14
              rw [← eτ14] at hP
              have hN : gN τ14 = gN τ0 := by rw [eτ14]; exact hN
              refine lv_goto (tgt := 9) hx hb dX7_readNumber_84 (by decide) ?_
              exact ih τ14 z12 z13 _ _ _ hF hP hN hS (lv_sub hl [2, 1, 0] rfl) hEX
  refine lv_aload_n hx hb dX7_readNumber_0 rfl (lv_at hl 0 rfl) ?_
  refine va_calli (va_runV (As := []) (rest := []) ⟨hx, hb, hml, hown, hts⟩ (mX7_signHere l dC dI ac sa A ad τ0 k0 _ hF hk0) (cwV 0 hts gX7_readNumber_X7_signHere rfl rfl rfl (by decide +kernel) ⟨Nat.le_of_ble_eq_true rfl, Nat.le_of_ble_eq_true rfl⟩) ⟨BX.blind, tw_recv hK hP (by decide) hk0 rfl rfl, fun U hU hW => ⟨rfl, BX.of hP hK hS hA hZ hU hW⟩⟩ rfl rfl hl.1 rfl (lv_room (Nat.le_of_ble_eq_true rfl)) dX7_readNumber_1 ⟨Nat.le_of_ble_eq_true rfl, Nat.le_of_ble_eq_true rfl⟩) hS (fun q _ h => h) (fun q h => h) (fun r16 τ15 t H locs ht hvm hw hB hz hk hS => ?_)
  obtain ⟨hF, hN9⟩ := hw
  have hP : PX dC dI ac A ad τ15 H := tw_back hB ht
  have hN : gN τ15 = gN τ0 := hN9.trans hN
  refine lv_pop hx hb dX7_readNumber_4 rfl ?_
  refine lv_iconst (v := 0) hx hb dX7_readNumber_5 (by decide) ?_
  refine lv_istore_n (lv' := [(1, .int ((0 : Int32))), (0, .ref (ad 6 k0))]) hx hb dX7_readNumber_6 rfl hl (by decide) rfl (fun ls hl => ?_)
  refine lv_iconst (v := 0) hx hb dX7_readNumber_7 (by decide) ?_
  refine lv_istore_n (lv' := [(2, .int ((0 : Int32))), (1, .int ((0 : Int32))), (0, .ref (ad 6 k0))]) hx hb dX7_readNumber_8 rfl hl (by decide) rfl (fun ls hl => ?_)
  obtain ⟨n17, hF⟩ := hF
  refine l9 k0 hk0 _ n17 τ15 ((0 : Int32)) ((0 : Int32)) _ _ _ hF hP hN hS (lv_sub hl [2, 1, 0] rfl) ?_
  intro τ18 z19 z20 H locs ls hF hP hN hS hl
  exact j87 τ18 z19 z20 _ _ _ hF hP hN hS (lv_sub hl [1, 2] rfl)
