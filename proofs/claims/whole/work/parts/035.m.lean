def J_X10_bestWay_362 (τ : tw_T) (p0 : Nat) (u1 : Int32) (u3 : Int32) (u4 : Int32) (Q : Int32 → tw_T → Prop) (RC EX : tw_T → Int32 → Int32 → Prop) : Prop := ∀ z1 : Int32, z1 = u4 + (1 : Int32) → (RC τ u3 z1)
def J_X10_bestWay_359 (τ : tw_T) (p0 : Nat) (u1 : Int32) (u4 : Int32) (Q : Int32 → tw_T → Prop) (RC EX : tw_T → Int32 → Int32 → Prop) : Prop := J_X10_bestWay_362 τ p0 u1 u4 u4 Q RC EX
def L_X10_bestWay_312 (p0 : Nat) (u1 : Int32) (Q : Int32 → tw_T → Prop) (EX : tw_T → Int32 → Int32 → Prop) : Nat → tw_T → Int32 → Int32 → Prop
  | 0, _, _, _ => False
  | n + 1, τ, u3, u4 => ((u1 ≤ u4 → (EX τ u3 u4)) ∧ (¬ u1 ≤ u4 → (∃ o3 : Nat, gR τ 0 p0 45 = some o3 ∧ (vp_in u4 6 ∧ ((((gI τ 145 o3 u4.toNatClampNeg) ≤ 0 → (J_X10_bestWay_362 τ p0 u1 u3 u4 Q (fun t v3 v4 => L_X10_bestWay_312 p0 u1 Q EX n t v3 v4) EX)) ∧ (¬ (gI τ 145 o3 u4.toNatClampNeg) ≤ 0 → (∃ o6 : Nat, gR τ 0 p0 46 = some o6 ∧ (vp_in u4 6 ∧ ((((gI τ 146 o6 u4.toNatClampNeg) ≤ 0 → (J_X10_bestWay_362 τ p0 u1 u3 u4 Q (fun t v3 v4 => L_X10_bestWay_312 p0 u1 Q EX n t v3 v4) EX)) ∧ (¬ (gI τ 146 o6 u4.toNatClampNeg) ≤ 0 → (((u3 = ((-1 : Int32)) → (J_X10_bestWay_359 τ p0 u1 u4 Q (fun t v3 v4 => L_X10_bestWay_312 p0 u1 Q EX n t v3 v4) EX)) ∧ (¬ u3 = ((-1 : Int32)) → (∃ o10 : Nat, gR τ 0 p0 46 = some o10 ∧ (vp_in u4 6 ∧ (∃ o12 : Nat, gR τ 0 p0 46 = some o12 ∧ (vp_in u3 6 ∧ ((((gI τ 146 o10 u4.toNatClampNeg) ≤ (gI τ 146 o12 u3.toNatClampNeg) → (J_X10_bestWay_362 τ p0 u1 u3 u4 Q (fun t v3 v4 => L_X10_bestWay_312 p0 u1 Q EX n t v3 v4) EX)) ∧ (¬ (gI τ 146 o10 u4.toNatClampNeg) ≤ (gI τ 146 o12 u3.toNatClampNeg) → (J_X10_bestWay_359 τ p0 u1 u4 Q (fun t v3 v4 => L_X10_bestWay_312 p0 u1 Q EX n t v3 v4) EX)))))))))))))))))))))))
def J_X10_bestWay_295 (τ : tw_T) (p0 : Nat) (u1 : Int32) (u2 : Int32) (u3 : Int32) (u4 : Int32) (Q : Int32 → tw_T → Prop) (RC EX : tw_T → Int32 → Prop) : Prop := ∀ z15 : Int32, z15 = u4 + (1 : Int32) → (RC τ z15)
def J_X10_bestWay_289 (τ : tw_T) (p0 : Nat) (u1 : Int32) (u2 : Int32) (u3 : Int32) (u4 : Int32) (u5 : Int32) (Q : Int32 → tw_T → Prop) (RC EX : tw_T → Int32 → Prop) : Prop := ∀ z16 : Int32, z16 = u5 + (1 : Int32) → (RC τ z16)
def J_X10_bestWay_283 (τ : tw_T) (p0 : Nat) (u1 : Int32) (u2 : Int32) (u3 : Int32) (u4 : Int32) (u5 : Int32) (u6 : Int32) (Q : Int32 → tw_T → Prop) (RC EX : tw_T → Int32 → Prop) : Prop := ∀ z17 : Int32, z17 = u6 + (1 : Int32) → (RC τ z17)
def L_X10_bestWay_181 (p0 : Nat) (u1 : Int32) (u2 : Int32) (u3 : Int32) (u4 : Int32) (u5 : Int32) (Q : Int32 → tw_T → Prop) (EX : tw_T → Int32 → Prop) : Nat → tw_T → Int32 → Prop
  | 0, _, _ => False
  | n + 1, τ, u6 => ((u1 ≤ u6 → (EX τ u6)) ∧ (¬ u1 ≤ u6 → (((u6 = u4 → (J_X10_bestWay_283 τ p0 u1 u2 u3 u4 u5 u6 Q (fun t v6 => L_X10_bestWay_181 p0 u1 u2 u3 u4 u5 Q EX n t v6) EX)) ∧ (¬ u6 = u4 → (F_X10_mayIn τ p0 u5 (u2 + u6) (fun (r21 : Int32) (τ20 : tw_T) => (((¬ r21 = 0 → (∃ o23 : Nat, gR τ20 0 p0 46 = some o23 ∧ (vp_in u4 6 ∧ (F_X10_worthOf τ20 p0 u5 (u2 + u6) (fun (r26 : Int32) (τ25 : tw_T) => (F_X10_worthOf τ25 p0 u5 (u2 + u4) (fun (r28 : Int32) (τ27 : tw_T) => (∀ z29 : Int32, z29 = ((gI τ20 146 o23 u4.toNatClampNeg) + r26) - r28 → (∃ o30 : Nat, gR τ27 0 p0 46 = some o30 ∧ (vp_in u6 6 ∧ ((((gI τ27 146 o30 u6.toNatClampNeg) < z29 → (∃ o33 : Nat, gR τ27 0 p0 46 = some o33 ∧ (vp_in u6 6 ∧ (∀ τ35 : tw_T, τ35 = sI τ27 146 o33 u6.toNatClampNeg z29 → (∃ o36 : Nat, gR τ35 0 p0 47 = some o36 ∧ (vp_in u6 6 ∧ (∀ τ38 : tw_T, τ38 = sI τ35 147 o36 u6.toNatClampNeg u4 → (∃ o39 : Nat, gR τ38 0 p0 48 = some o39 ∧ (vp_in u6 6 ∧ (∀ τ41 : tw_T, τ41 = sI τ38 148 o39 u6.toNatClampNeg u5 → (J_X10_bestWay_283 τ41 p0 u1 u2 u3 u4 u5 u6 Q (fun t v6 => L_X10_bestWay_181 p0 u1 u2 u3 u4 u5 Q EX n t v6) EX))))))))))) ∧ (¬ (gI τ27 146 o30 u6.toNatClampNeg) < z29 → (J_X10_bestWay_283 τ27 p0 u1 u2 u3 u4 u5 u6 Q (fun t v6 => L_X10_bestWay_181 p0 u1 u2 u3 u4 u5 Q EX n t v6) EX)))))))))))))) ∧ (r21 = 0 → (J_X10_bestWay_283 τ20 p0 u1 u2 u3 u4 u5 u6 Q (fun t v6 => L_X10_bestWay_181 p0 u1 u2 u3 u4 u5 Q EX n t v6) EX)))))))))))
def L_X10_bestWay_137 (p0 : Nat) (u1 : Int32) (u2 : Int32) (u3 : Int32) (u4 : Int32) (Q : Int32 → tw_T → Prop) (EX : tw_T → Int32 → Prop) : Nat → tw_T → Int32 → Prop
  | 0, _, _ => False
  | n + 1, τ, u5 => (((gI τ 0 p0 2) ≤ u5 → (EX τ u5)) ∧ (¬ (gI τ 0 p0 2) ≤ u5 → (∃ o43 : Nat, gR τ 0 p0 46 = some o43 ∧ (vp_in u4 6 ∧ ((((gI τ 146 o43 u4.toNatClampNeg) ≤ ((-1000000000 : Int32)) → (EX τ u5)) ∧ (¬ (gI τ 146 o43 u4.toNatClampNeg) ≤ ((-1000000000 : Int32)) → (∃ o46 : Nat, gR τ 0 p0 43 = some o46 ∧ (vp_in ((((6 : Int32)) * u5) + u4) 360 ∧ (((¬ (gI τ 143 o46 ((((6 : Int32)) * u5) + u4).toNatClampNeg) = 0 → (∃ n49 : Nat, L_X10_bestWay_181 p0 u1 u2 u3 u4 u5 Q (fun (τ50 : tw_T) (z51 : Int32) => J_X10_bestWay_289 τ50 p0 u1 u2 u3 u4 u5 Q (fun t v5 => L_X10_bestWay_137 p0 u1 u2 u3 u4 Q EX n t v5) EX) n49 τ ((0 : Int32)))) ∧ ((gI τ 143 o46 ((((6 : Int32)) * u5) + u4).toNatClampNeg) = 0 → (J_X10_bestWay_289 τ p0 u1 u2 u3 u4 u5 Q (fun t v5 => L_X10_bestWay_137 p0 u1 u2 u3 u4 Q EX n t v5) EX)))))))))))))
def L_X10_bestWay_128 (p0 : Nat) (u1 : Int32) (u2 : Int32) (u3 : Int32) (Q : Int32 → tw_T → Prop) (EX : tw_T → Int32 → Prop) : Nat → tw_T → Int32 → Prop
  | 0, _, _ => False
  | n + 1, τ, u4 => ((u1 ≤ u4 → (EX τ u4)) ∧ (¬ u1 ≤ u4 → (∃ n53 : Nat, L_X10_bestWay_137 p0 u1 u2 u3 u4 Q (fun (τ54 : tw_T) (z55 : Int32) => J_X10_bestWay_295 τ54 p0 u1 u2 u3 u4 Q (fun t v4 => L_X10_bestWay_128 p0 u1 u2 u3 Q EX n t v4) EX) n53 τ ((0 : Int32)))))
def L_X10_bestWay_120 (p0 : Nat) (u1 : Int32) (u2 : Int32) (Q : Int32 → tw_T → Prop) (EX : tw_T → Int32 → Prop) : Nat → tw_T → Int32 → Prop
  | 0, _, _ => False
  | n + 1, τ, u3 => ((u1 ≤ u3 → (EX τ u3)) ∧ (¬ u1 ≤ u3 → (∃ n57 : Nat, L_X10_bestWay_128 p0 u1 u2 u3 Q (fun (τ58 : tw_T) (z59 : Int32) => ∀ z60 : Int32, z60 = u3 + (1 : Int32) → (L_X10_bestWay_120 p0 u1 u2 Q EX n τ58 z60)) n57 τ ((0 : Int32)))))
def J_X10_bestWay_106 (τ : tw_T) (p0 : Nat) (u1 : Int32) (u2 : Int32) (u3 : Int32) (u4 : Int32) (Q : Int32 → tw_T → Prop) (RC EX : tw_T → Int32 → Prop) : Prop := ∀ z61 : Int32, z61 = u4 + (1 : Int32) → (RC τ z61)
def L_X10_bestWay_31 (p0 : Nat) (u1 : Int32) (u2 : Int32) (u3 : Int32) (Q : Int32 → tw_T → Prop) (EX : tw_T → Int32 → Prop) : Nat → tw_T → Int32 → Prop
  | 0, _, _ => False
  | n + 1, τ, u4 => (((gI τ 0 p0 2) ≤ u4 → (EX τ u4)) ∧ (¬ (gI τ 0 p0 2) ≤ u4 → (∃ o63 : Nat, gR τ 0 p0 44 = some o63 ∧ (vp_in u4 60 ∧ ((((gI τ 144 o63 u4.toNatClampNeg) = 0 → (J_X10_bestWay_106 τ p0 u1 u2 u3 u4 Q (fun t v4 => L_X10_bestWay_31 p0 u1 u2 u3 Q EX n t v4) EX)) ∧ (¬ (gI τ 144 o63 u4.toNatClampNeg) = 0 → (F_X10_mayIn τ p0 u4 (u2 + u3) (fun (r67 : Int32) (τ66 : tw_T) => (((r67 = 0 → (J_X10_bestWay_106 τ66 p0 u1 u2 u3 u4 Q (fun t v4 => L_X10_bestWay_31 p0 u1 u2 u3 Q EX n t v4) EX)) ∧ (¬ r67 = 0 → (F_X10_worthOf τ66 p0 u4 (u2 + u3) (fun (r70 : Int32) (τ69 : tw_T) => (∃ o71 : Nat, gR τ69 0 p0 46 = some o71 ∧ (vp_in u3 6 ∧ ((((gI τ69 146 o71 u3.toNatClampNeg) < r70 → (∃ o74 : Nat, gR τ69 0 p0 46 = some o74 ∧ (F_X10_worthOf τ69 p0 u4 (u2 + u3) (fun (r76 : Int32) (τ75 : tw_T) => (vp_in u3 6 ∧ (∀ τ78 : tw_T, τ78 = sI τ75 146 o74 u3.toNatClampNeg r76 → (∃ o79 : Nat, gR τ78 0 p0 48 = some o79 ∧ (vp_in u3 6 ∧ (∀ τ81 : tw_T, τ81 = sI τ78 148 o79 u3.toNatClampNeg u4 → (J_X10_bestWay_106 τ81 p0 u1 u2 u3 u4 Q (fun t v4 => L_X10_bestWay_31 p0 u1 u2 u3 Q EX n t v4) EX)))))))))) ∧ (¬ (gI τ69 146 o71 u3.toNatClampNeg) < r70 → (J_X10_bestWay_106 τ69 p0 u1 u2 u3 u4 Q (fun t v4 => L_X10_bestWay_31 p0 u1 u2 u3 Q EX n t v4) EX))))))))))))))))))))
def L_X10_bestWay_7 (p0 : Nat) (u1 : Int32) (u2 : Int32) (Q : Int32 → tw_T → Prop) (EX : tw_T → Int32 → Prop) : Nat → tw_T → Int32 → Prop
  | 0, _, _ => False
  | n + 1, τ, u3 => ((u1 ≤ u3 → (EX τ u3)) ∧ (¬ u1 ≤ u3 → (∃ o83 : Nat, gR τ 0 p0 46 = some o83 ∧ (vp_in u3 6 ∧ (∀ τ85 : tw_T, τ85 = sI τ 146 o83 u3.toNatClampNeg ((-1000000000 : Int32)) → (∃ o86 : Nat, gR τ85 0 p0 47 = some o86 ∧ (vp_in u3 6 ∧ (∀ τ88 : tw_T, τ88 = sI τ85 147 o86 u3.toNatClampNeg ((-1 : Int32)) → (∃ n89 : Nat, L_X10_bestWay_31 p0 u1 u2 u3 Q (fun (τ90 : tw_T) (z91 : Int32) => ∀ z92 : Int32, z92 = u3 + (1 : Int32) → (L_X10_bestWay_7 p0 u1 u2 Q EX n τ90 z92)) n89 τ88 ((0 : Int32)))))))))))
def F_X10_bestWay (τ0 : tw_T) (k0 : Nat) (x1 : Int32) (Q : Int32 → tw_T → Prop) : Prop := F_X10_year τ0 k0 (fun (r94 : Int32) (τ93 : tw_T) => (∃ n95 : Nat, L_X10_bestWay_7 k0 x1 r94 Q (fun (τ96 : tw_T) (z97 : Int32) => ∃ n98 : Nat, L_X10_bestWay_120 k0 x1 r94 Q (fun (τ99 : tw_T) (z100 : Int32) => ∃ n101 : Nat, L_X10_bestWay_312 k0 x1 Q (fun (τ102 : tw_T) (z103 : Int32) (z104 : Int32) => Q z103 τ102) n101 τ99 ((-1 : Int32)) ((0 : Int32))) n98 τ96 ((0 : Int32))) n95 τ93 ((0 : Int32))))
def rmX10_bestWay : Room := { frames := 1, cells := 0, slots := 0, locals := 25 }
set_option maxHeartbeats 4000000 in
set_option maxRecDepth 100000 in
theorem mX10_bestWay (l : Launch) (dC : Nat → ClassId) (dI : Nat → Nat → Nat) (ac : Nat → ClassId) (sa : Nat → Nat) (A : Nat → Prop) (ad : Nat → Nat → Nat) (τ0 : tw_T) (k0 : Nat) (x1 : Int32) (Q : Int32 → tw_T → Prop) (hF : F_X10_bestWay τ0 k0 x1 Q) (hk0 : k0 < gN τ0 0) : Met l yX10_bestWay wsX10_bestWay rmX10_bestWay (va_Pc [.ref (ad 0 k0), .int x1] (BM dC dI ac sa A ad τ0)) (va_Qi (fun r (u : tw_T) => Q r u ∧ gN u = gN τ0) (fun u t => PM dC dI ac A ad u t.heap) A) 0 0 A := by
  refine Met.ofW (cc := cX10_bestWay) (maxL := 8) (ret := (some .int)) (by decide) rfl ?_
  intro p e s m args below meth c s₁ B hml hv
  obtain ⟨rfl, hP, hK, hA, hZ⟩ := hv
  have hx := B.exec
  have hb := B.bytes
  have hr := B.returns
  have hts := atoms_spec (ws := wsX10_bestWay) B.pre
  have hown : s.vm.findClass RX10 = some m.cls := findClass_of_methodNamed B.named
  have hlocks := B.notSynchronized
  have hS : va_S A s.heap s.heap [] := va_S.rf
  have hN : gN τ0 = gN τ0 := rfl
  have hl := lv_entry ([.ref (ad 0 k0), .int x1]) (n := 8) (Nat.le_of_ble_eq_true rfl)
  rw [lg_entry_eq]
  generalize (lg_sl ([.ref (ad 0 k0), .int x1]) ++ List.replicate (8 - (lg_sl ([.ref (ad 0 k0), .int x1])).length) Slot.unset).toArray = ls at hl ⊢
  have hl : lv_has ls 8 [(0, .ref (ad 0 k0)), (1, .int x1)] := hl
  unfold F_X10_bestWay at hF
  have l312 : ∀ (p0 : Nat) (hp0 : p0 < gN τ0 0) (u1 : Int32) (EX : tw_T → Int32 → Int32 → Prop) (n : Nat) (τ : tw_T) (u3 : Int32) (u4 : Int32) (H : Heap) (locs : List Loc) (ls : Array Slot), L_X10_bestWay_312 p0 u1 Q EX n τ u3 u4 → PM dC dI ac A ad τ H → gN τ = gN τ0 → va_S A s.heap H locs → lv_has ls 8 [(0, .ref (ad 0 p0)), (1, .int u1), (3, .int u3), (4, .int u4)] → (∀ (τ : tw_T) (u3 : Int32) (u4 : Int32) (H : Heap) (locs : List Loc) (ls : Array Slot), EX τ u3 u4 → PM dC dI ac A ad τ H → gN τ = gN τ0 → va_S A s.heap H locs → lv_has ls 8 [(0, .ref (ad 0 p0)), (1, .int u1), (3, .int u3), (4, .int u4)] → W p l e rmX10_bestWay s m ([.ref (ad 0 k0), .int x1] : List Value).toArray below meth c H locs 0 0 (MQ below (va_Qi (fun r (u : tw_T) => Q r u ∧ gN u = gN τ0) (fun u t => PM dC dI ac A ad u t.heap) A) ([.ref (ad 0 k0), .int x1] : List Value).toArray s 0 0 A) (F0 m 368 ls [])) → W p l e rmX10_bestWay s m ([.ref (ad 0 k0), .int x1] : List Value).toArray below meth c H locs 0 0 (MQ below (va_Qi (fun r (u : tw_T) => Q r u ∧ gN u = gN τ0) (fun u t => PM dC dI ac A ad u t.heap) A) ([.ref (ad 0 k0), .int x1] : List Value).toArray s 0 0 A) (F0 m 312 ls []) := by
    intro p0 hp0 u1 EX n
    induction n with
    | zero => intro τ u3 u4 H locs ls hF; exact hF.elim
    | succ n ih =>
      intro τ u3 u4 H locs ls hF hP hN hS hl hEX
      rw [L_X10_bestWay_312] at hF
      have j362 : ∀ (τ : tw_T) (p0 : Nat) (hp0 : p0 < gN τ0 0) (u1 : Int32) (u3 : Int32) (u4 : Int32) (H : Heap) (locs : List Loc) (ls : Array Slot) (RC EX : tw_T → Int32 → Int32 → Prop), J_X10_bestWay_362 τ p0 u1 u3 u4 Q RC EX → PM dC dI ac A ad τ H → gN τ = gN τ0 → va_S A s.heap H locs → lv_has ls 8 [(0, .ref (ad 0 p0)), (1, .int u1), (3, .int u3), (4, .int u4)] → (∀ (τ : tw_T) (u3 : Int32) (u4 : Int32) (H : Heap) (locs : List Loc) (ls : Array Slot), RC τ u3 u4 → PM dC dI ac A ad τ H → gN τ = gN τ0 → va_S A s.heap H locs → lv_has ls 8 [(0, .ref (ad 0 p0)), (1, .int u1), (3, .int u3), (4, .int u4)] → W p l e rmX10_bestWay s m ([.ref (ad 0 k0), .int x1] : List Value).toArray below meth c H locs 0 0 (MQ below (va_Qi (fun r (u : tw_T) => Q r u ∧ gN u = gN τ0) (fun u t => PM dC dI ac A ad u t.heap) A) ([.ref (ad 0 k0), .int x1] : List Value).toArray s 0 0 A) (F0 m 312 ls [])) → (∀ (τ : tw_T) (u3 : Int32) (u4 : Int32) (H : Heap) (locs : List Loc) (ls : Array Slot), EX τ u3 u4 → PM dC dI ac A ad τ H → gN τ = gN τ0 → va_S A s.heap H locs → lv_has ls 8 [(0, .ref (ad 0 p0)), (1, .int u1), (3, .int u3), (4, .int u4)] → W p l e rmX10_bestWay s m ([.ref (ad 0 k0), .int x1] : List Value).toArray below meth c H locs 0 0 (MQ below (va_Qi (fun r (u : tw_T) => Q r u ∧ gN u = gN τ0) (fun u t => PM dC dI ac A ad u t.heap) A) ([.ref (ad 0 k0), .int x1] : List Value).toArray s 0 0 A) (F0 m 368 ls [])) → W p l e rmX10_bestWay s m ([.ref (ad 0 k0), .int x1] : List Value).toArray below meth c H locs 0 0 (MQ below (va_Qi (fun r (u : tw_T) => Q r u ∧ gN u = gN τ0) (fun u t => PM dC dI ac A ad u t.heap) A) ([.ref (ad 0 k0), .int x1] : List Value).toArray s 0 0 A) (F0 m 362 ls []) := by
        intro τ p0 hp0 u1 u3 u4 H locs ls RC EX hF hP hN hS hl hRC hEX
        unfold J_X10_bestWay_362 at hF
        obtain ⟨z1, ez1⟩ : ∃ y : Int32, y = u4 + (1 : Int32) := ⟨_, rfl⟩
        have hF := hF z1 ez1
        refine lv_iinc (v := z1) (lv' := [(4, .int z1), (0, .ref (ad 0 p0)), (1, .int u1), (3, .int u3)]) hx hb dX10_bestWay_362 hl (k := 3) rfl (by rw [ez1]; rfl) (by decide) rfl (fun ls hl => ?_)
        refine lv_goto (tgt := 312) hx hb dX10_bestWay_365 (by decide) ?_
        exact hRC τ u3 z1 _ _ _ hF hP hN hS (lv_sub hl [1, 2, 3, 0] rfl)
      have j359 : ∀ (τ : tw_T) (p0 : Nat) (hp0 : p0 < gN τ0 0) (u1 : Int32) (u4 : Int32) (H : Heap) (locs : List Loc) (ls : Array Slot) (RC EX : tw_T → Int32 → Int32 → Prop), J_X10_bestWay_359 τ p0 u1 u4 Q RC EX → PM dC dI ac A ad τ H → gN τ = gN τ0 → va_S A s.heap H locs → lv_has ls 8 [(0, .ref (ad 0 p0)), (1, .int u1), (4, .int u4)] → (∀ (τ : tw_T) (u3 : Int32) (u4 : Int32) (H : Heap) (locs : List Loc) (ls : Array Slot), RC τ u3 u4 → PM dC dI ac A ad τ H → gN τ = gN τ0 → va_S A s.heap H locs → lv_has ls 8 [(0, .ref (ad 0 p0)), (1, .int u1), (3, .int u3), (4, .int u4)] → W p l e rmX10_bestWay s m ([.ref (ad 0 k0), .int x1] : List Value).toArray below meth c H locs 0 0 (MQ below (va_Qi (fun r (u : tw_T) => Q r u ∧ gN u = gN τ0) (fun u t => PM dC dI ac A ad u t.heap) A) ([.ref (ad 0 k0), .int x1] : List Value).toArray s 0 0 A) (F0 m 312 ls [])) → (∀ (τ : tw_T) (u3 : Int32) (u4 : Int32) (H : Heap) (locs : List Loc) (ls : Array Slot), EX τ u3 u4 → PM dC dI ac A ad τ H → gN τ = gN τ0 → va_S A s.heap H locs → lv_has ls 8 [(0, .ref (ad 0 p0)), (1, .int u1), (3, .int u3), (4, .int u4)] → W p l e rmX10_bestWay s m ([.ref (ad 0 k0), .int x1] : List Value).toArray below meth c H locs 0 0 (MQ below (va_Qi (fun r (u : tw_T) => Q r u ∧ gN u = gN τ0) (fun u t => PM dC dI ac A ad u t.heap) A) ([.ref (ad 0 k0), .int x1] : List Value).toArray s 0 0 A) (F0 m 368 ls [])) → W p l e rmX10_bestWay s m ([.ref (ad 0 k0), .int x1] : List Value).toArray below meth c H locs 0 0 (MQ below (va_Qi (fun r (u : tw_T) => Q r u ∧ gN u = gN τ0) (fun u t => PM dC dI ac A ad u t.heap) A) ([.ref (ad 0 k0), .int x1] : List Value).toArray s 0 0 A) (F0 m 359 ls []) := by
        intro τ p0 hp0 u1 u4 H locs ls RC EX hF hP hN hS hl hRC hEX
        unfold J_X10_bestWay_359 at hF
        refine lv_iload hx hb dX10_bestWay_359 (lv_at hl 2 rfl) ?_
        refine lv_istore_n (lv' := [(3, .int u4), (0, .ref (ad 0 p0)), (1, .int u1), (4, .int u4)]) hx hb dX10_bestWay_361 rfl hl (by decide) rfl (fun ls hl => ?_)
        exact j362 τ p0 hp0 u1 u4 u4 _ _ _ RC EX hF hP hN hS (lv_sub hl [1, 2, 0, 3] rfl) hRC hEX
      refine lv_iload hx hb dX10_bestWay_312 (lv_at hl 3 rfl) ?_
      refine lv_iload_n hx hb dX10_bestWay_314 rfl (lv_at hl 1 rfl) ?_
      refine lv_icmp_ge (tgt := 368) hx hb dX10_bestWay_315 (by decide) (fun c2 => ?_) (fun c2 => ?_)
      · have hF := hF.1 c2
        exact hEX τ u3 u4 _ _ _ hF hP hN hS (lv_sub hl [0, 1, 2, 3] rfl)
      · have hF := hF.2 c2
        refine lv_aload_n hx hb dX10_bestWay_318 rfl (lv_at hl 0 rfl) ?_
        obtain ⟨o3, eo3, hF⟩ := hF
        have ho3 : o3 < gN τ0 145 := tw_lt (hP.2.2.2 0 p0 45 o3 (by decide) (tw_lt hp0 (congrFun hN 0)) eo3) (congrFun hN 145).symm
        refine tw_get (v := .ref (ad 145 o3)) hx hb hts (by decide +kernel) hown hK hP (by decide) (tw_lt hp0 (congrFun hN 0)) rfl rfl 45 (by decide) (hts (.fieldLink RX10 93 "WineCellarModel" "room" "[I") (by decide +kernel)) (fun _ h9 => h9) (show some (va_rf ((gR τ 0 p0 45).map (ad 145))) = some (.ref (ad 145 o3)) by rw [eo3]; rfl) dX10_bestWay_319 ?_
        refine lv_iload hx hb dX10_bestWay_322 (lv_at hl 3 rfl) ?_
        obtain ⟨hi4, hF⟩ := hF
        refine tw_iald hx hb hK hP (by decide) (tw_lt ho3 (congrFun hN 145)) rfl 0 rfl hi4 dX10_bestWay_324 ?_
        refine lv_if_le (tgt := 362) hx hb dX10_bestWay_325 (by decide) (fun c5 => ?_) (fun c5 => ?_)
        · have hF := hF.1 c5
          exact j362 τ p0 hp0 u1 u3 u4 _ _ _ _ _ hF hP hN hS (lv_sub hl [0, 1, 2, 3] rfl) (fun t v3 v4 H locs ls hF hP hN hS hl => ih t v3 v4 _ _ _ hF hP hN hS hl hEX) hEX
        · have hF := hF.2 c5
          refine lv_aload_n hx hb dX10_bestWay_328 rfl (lv_at hl 0 rfl) ?_
          obtain ⟨o6, eo6, hF⟩ := hF
          have ho6 : o6 < gN τ0 146 := tw_lt (hP.2.2.2 0 p0 46 o6 (by decide) (tw_lt hp0 (congrFun hN 0)) eo6) (congrFun hN 146).symm
          refine tw_get (v := .ref (ad 146 o6)) hx hb hts (by decide +kernel) hown hK hP (by decide) (tw_lt hp0 (congrFun hN 0)) rfl rfl 46 (by decide) (hts (.fieldLink RX10 96 "WineCellarModel" "gain" "[I") (by decide +kernel)) (fun _ h9 => h9) (show some (va_rf ((gR τ 0 p0 46).map (ad 146))) = some (.ref (ad 146 o6)) by rw [eo6]; rfl) dX10_bestWay_329 ?_
          refine lv_iload hx hb dX10_bestWay_332 (lv_at hl 3 rfl) ?_
          obtain ⟨hi7, hF⟩ := hF
          refine tw_iald hx hb hK hP (by decide) (tw_lt ho6 (congrFun hN 146)) rfl 0 rfl hi7 dX10_bestWay_334 ?_
          refine lv_if_le (tgt := 362) hx hb dX10_bestWay_335 (by decide) (fun c8 => ?_) (fun c8 => ?_)
          · have hF := hF.1 c8
            exact j362 τ p0 hp0 u1 u3 u4 _ _ _ _ _ hF hP hN hS (lv_sub hl [0, 1, 2, 3] rfl) (fun t v3 v4 H locs ls hF hP hN hS hl => ih t v3 v4 _ _ _ hF hP hN hS hl hEX) hEX
          · have hF := hF.2 c8
            refine lv_iload_n hx hb dX10_bestWay_338 rfl (lv_at hl 2 rfl) ?_
            refine lv_iconst (v := (-1)) hx hb dX10_bestWay_339 (by decide) ?_
            refine lv_icmp_eq (tgt := 359) hx hb dX10_bestWay_340 (by decide) (fun c9 => ?_) (fun c9 => ?_)
            · have hF := hF.1 c9
              exact j359 τ p0 hp0 u1 u4 _ _ _ _ _ hF hP hN hS (lv_sub hl [0, 1, 3] rfl) (fun t v3 v4 H locs ls hF hP hN hS hl => ih t v3 v4 _ _ _ hF hP hN hS hl hEX) hEX
            · have hF := hF.2 c9
              refine lv_aload_n hx hb dX10_bestWay_343 rfl (lv_at hl 0 rfl) ?_
              obtain ⟨o10, eo10, hF⟩ := hF
              have ho10 : o10 < gN τ0 146 := tw_lt (hP.2.2.2 0 p0 46 o10 (by decide) (tw_lt hp0 (congrFun hN 0)) eo10) (congrFun hN 146).symm
              refine tw_get (v := .ref (ad 146 o10)) hx hb hts (by decide +kernel) hown hK hP (by decide) (tw_lt hp0 (congrFun hN 0)) rfl rfl 46 (by decide) (hts (.fieldLink RX10 96 "WineCellarModel" "gain" "[I") (by decide +kernel)) (fun _ h9 => h9) (show some (va_rf ((gR τ 0 p0 46).map (ad 146))) = some (.ref (ad 146 o10)) by rw [eo10]; rfl) dX10_bestWay_344 ?_
              refine lv_iload hx hb dX10_bestWay_347 (lv_at hl 3 rfl) ?_
              obtain ⟨hi11, hF⟩ := hF
              refine tw_iald hx hb hK hP (by decide) (tw_lt ho10 (congrFun hN 146)) rfl 0 rfl hi11 dX10_bestWay_349 ?_
              refine lv_aload_n hx hb dX10_bestWay_350 rfl (lv_at hl 0 rfl) ?_
              obtain ⟨o12, eo12, hF⟩ := hF
              have ho12 : o12 < gN τ0 146 := tw_lt (hP.2.2.2 0 p0 46 o12 (by decide) (tw_lt hp0 (congrFun hN 0)) eo12) (congrFun hN 146).symm
              refine tw_get (v := .ref (ad 146 o12)) hx hb hts (by decide +kernel) hown hK hP (by decide) (tw_lt hp0 (congrFun hN 0)) rfl rfl 46 (by decide) (hts (.fieldLink RX10 96 "WineCellarModel" "gain" "[I") (by decide +kernel)) (fun _ h9 => h9) (show some (va_rf ((gR τ 0 p0 46).map (ad 146))) = some (.ref (ad 146 o12)) by rw [eo12]; rfl) dX10_bestWay_351 ?_
              refine lv_iload_n hx hb dX10_bestWay_354 rfl (lv_at hl 2 rfl) ?_
              obtain ⟨hi13, hF⟩ := hF
              refine tw_iald hx hb hK hP (by decide) (tw_lt ho12 (congrFun hN 146)) rfl 0 rfl hi13 dX10_bestWay_355 ?_
              refine lv_icmp_le (tgt := 362) hx hb dX10_bestWay_356 (by decide) (fun c14 => ?_) (fun c14 => ?_)
              · have hF := hF.1 c14
                exact j362 τ p0 hp0 u1 u3 u4 _ _ _ _ _ hF hP hN hS (lv_sub hl [0, 1, 2, 3] rfl) (fun t v3 v4 H locs ls hF hP hN hS hl => ih t v3 v4 _ _ _ hF hP hN hS hl hEX) hEX
              · have hF := hF.2 c14
                exact j359 τ p0 hp0 u1 u4 _ _ _ _ _ hF hP hN hS (lv_sub hl [0, 1, 3] rfl) (fun t v3 v4 H locs ls hF hP hN hS hl => ih t v3 v4 _ _ _ hF hP hN hS hl hEX) hEX
  have l120 : ∀ (p0 : Nat) (hp0 : p0 < gN τ0 0) (u1 : Int32) (u2 : Int32) (EX : tw_T → Int32 → Prop) (n : Nat) (τ : tw_T) (u3 : Int32) (H : Heap) (locs : List Loc) (ls : Array Slot), L_X10_bestWay_120 p0 u1 u2 Q EX n τ u3 → PM dC dI ac A ad τ H → gN τ = gN τ0 → va_S A s.heap H locs → lv_has ls 8 [(0, .ref (ad 0 p0)), (1, .int u1), (2, .int u2), (3, .int u3)] → (∀ (τ : tw_T) (u3 : Int32) (H : Heap) (locs : List Loc) (ls : Array Slot), EX τ u3 → PM dC dI ac A ad τ H → gN τ = gN τ0 → va_S A s.heap H locs → lv_has ls 8 [(0, .ref (ad 0 p0)), (1, .int u1), (2, .int u2), (3, .int u3)] → W p l e rmX10_bestWay s m ([.ref (ad 0 k0), .int x1] : List Value).toArray below meth c H locs 0 0 (MQ below (va_Qi (fun r (u : tw_T) => Q r u ∧ gN u = gN τ0) (fun u t => PM dC dI ac A ad u t.heap) A) ([.ref (ad 0 k0), .int x1] : List Value).toArray s 0 0 A) (F0 m 307 ls [])) → W p l e rmX10_bestWay s m ([.ref (ad 0 k0), .int x1] : List Value).toArray below meth c H locs 0 0 (MQ below (va_Qi (fun r (u : tw_T) => Q r u ∧ gN u = gN τ0) (fun u t => PM dC dI ac A ad u t.heap) A) ([.ref (ad 0 k0), .int x1] : List Value).toArray s 0 0 A) (F0 m 120 ls []) := by
    intro p0 hp0 u1 u2 EX n
    induction n with
    | zero => intro τ u3 H locs ls hF; exact hF.elim
    | succ n ih =>
      intro τ u3 H locs ls hF hP hN hS hl hEX
      rw [L_X10_bestWay_120] at hF
      have l128 : ∀ (p0 : Nat) (hp0 : p0 < gN τ0 0) (u1 : Int32) (u2 : Int32) (u3 : Int32) (EX : tw_T → Int32 → Prop) (n : Nat) (τ : tw_T) (u4 : Int32) (H : Heap) (locs : List Loc) (ls : Array Slot), L_X10_bestWay_128 p0 u1 u2 u3 Q EX n τ u4 → PM dC dI ac A ad τ H → gN τ = gN τ0 → va_S A s.heap H locs → lv_has ls 8 [(0, .ref (ad 0 p0)), (1, .int u1), (2, .int u2), (3, .int u3), (4, .int u4)] → (∀ (τ : tw_T) (u4 : Int32) (H : Heap) (locs : List Loc) (ls : Array Slot), EX τ u4 → PM dC dI ac A ad τ H → gN τ = gN τ0 → va_S A s.heap H locs → lv_has ls 8 [(0, .ref (ad 0 p0)), (1, .int u1), (2, .int u2), (3, .int u3), (4, .int u4)] → W p l e rmX10_bestWay s m ([.ref (ad 0 k0), .int x1] : List Value).toArray below meth c H locs 0 0 (MQ below (va_Qi (fun r (u : tw_T) => Q r u ∧ gN u = gN τ0) (fun u t => PM dC dI ac A ad u t.heap) A) ([.ref (ad 0 k0), .int x1] : List Value).toArray s 0 0 A) (F0 m 301 ls [])) → W p l e rmX10_bestWay s m ([.ref (ad 0 k0), .int x1] : List Value).toArray below meth c H locs 0 0 (MQ below (va_Qi (fun r (u : tw_T) => Q r u ∧ gN u = gN τ0) (fun u t => PM dC dI ac A ad u t.heap) A) ([.ref (ad 0 k0), .int x1] : List Value).toArray s 0 0 A) (F0 m 128 ls []) := by
        intro p0 hp0 u1 u2 u3 EX n
        induction n with
        | zero => intro τ u4 H locs ls hF; exact hF.elim
        | succ n ih =>
          intro τ u4 H locs ls hF hP hN hS hl hEX
          rw [L_X10_bestWay_128] at hF
          have j295 : ∀ (τ : tw_T) (p0 : Nat) (hp0 : p0 < gN τ0 0) (u1 : Int32) (u2 : Int32) (u3 : Int32) (u4 : Int32) (H : Heap) (locs : List Loc) (ls : Array Slot) (RC EX : tw_T → Int32 → Prop), J_X10_bestWay_295 τ p0 u1 u2 u3 u4 Q RC EX → PM dC dI ac A ad τ H → gN τ = gN τ0 → va_S A s.heap H locs → lv_has ls 8 [(0, .ref (ad 0 p0)), (1, .int u1), (2, .int u2), (3, .int u3), (4, .int u4)] → (∀ (τ : tw_T) (u4 : Int32) (H : Heap) (locs : List Loc) (ls : Array Slot), RC τ u4 → PM dC dI ac A ad τ H → gN τ = gN τ0 → va_S A s.heap H locs → lv_has ls 8 [(0, .ref (ad 0 p0)), (1, .int u1), (2, .int u2), (3, .int u3), (4, .int u4)] → W p l e rmX10_bestWay s m ([.ref (ad 0 k0), .int x1] : List Value).toArray below meth c H locs 0 0 (MQ below (va_Qi (fun r (u : tw_T) => Q r u ∧ gN u = gN τ0) (fun u t => PM dC dI ac A ad u t.heap) A) ([.ref (ad 0 k0), .int x1] : List Value).toArray s 0 0 A) (F0 m 128 ls [])) → (∀ (τ : tw_T) (u4 : Int32) (H : Heap) (locs : List Loc) (ls : Array Slot), EX τ u4 → PM dC dI ac A ad τ H → gN τ = gN τ0 → va_S A s.heap H locs → lv_has ls 8 [(0, .ref (ad 0 p0)), (1, .int u1), (2, .int u2), (3, .int u3), (4, .int u4)] → W p l e rmX10_bestWay s m ([.ref (ad 0 k0), .int x1] : List Value).toArray below meth c H locs 0 0 (MQ below (va_Qi (fun r (u : tw_T) => Q r u ∧ gN u = gN τ0) (fun u t => PM dC dI ac A ad u t.heap) A) ([.ref (ad 0 k0), .int x1] : List Value).toArray s 0 0 A) (F0 m 301 ls [])) → W p l e rmX10_bestWay s m ([.ref (ad 0 k0), .int x1] : List Value).toArray below meth c H locs 0 0 (MQ below (va_Qi (fun r (u : tw_T) => Q r u ∧ gN u = gN τ0) (fun u t => PM dC dI ac A ad u t.heap) A) ([.ref (ad 0 k0), .int x1] : List Value).toArray s 0 0 A) (F0 m 295 ls []) := by
            intro τ p0 hp0 u1 u2 u3 u4 H locs ls RC EX hF hP hN hS hl hRC hEX
            unfold J_X10_bestWay_295 at hF
            obtain ⟨z15, ez15⟩ : ∃ y : Int32, y = u4 + (1 : Int32) := ⟨_, rfl⟩
            have hF := hF z15 ez15
            refine lv_iinc (v := z15) (lv' := [(4, .int z15), (0, .ref (ad 0 p0)), (1, .int u1), (2, .int u2), (3, .int u3)]) hx hb dX10_bestWay_295 hl (k := 4) rfl (by rw [ez15]; rfl) (by decide) rfl (fun ls hl => ?_)
            refine lv_goto (tgt := 128) hx hb dX10_bestWay_298 (by decide) ?_
            exact hRC τ z15 _ _ _ hF hP hN hS (lv_sub hl [1, 2, 3, 4, 0] rfl)
          have l137 : ∀ (p0 : Nat) (hp0 : p0 < gN τ0 0) (u1 : Int32) (u2 : Int32) (u3 : Int32) (u4 : Int32) (EX : tw_T → Int32 → Prop) (n : Nat) (τ : tw_T) (u5 : Int32) (H : Heap) (locs : List Loc) (ls : Array Slot), L_X10_bestWay_137 p0 u1 u2 u3 u4 Q EX n τ u5 → PM dC dI ac A ad τ H → gN τ = gN τ0 → va_S A s.heap H locs → lv_has ls 8 [(0, .ref (ad 0 p0)), (1, .int u1), (2, .int u2), (3, .int u3), (4, .int u4), (5, .int u5)] → (∀ (τ : tw_T) (u5 : Int32) (H : Heap) (locs : List Loc) (ls : Array Slot), EX τ u5 → PM dC dI ac A ad τ H → gN τ = gN τ0 → va_S A s.heap H locs → lv_has ls 8 [(0, .ref (ad 0 p0)), (1, .int u1), (2, .int u2), (3, .int u3), (4, .int u4), (5, .int u5)] → W p l e rmX10_bestWay s m ([.ref (ad 0 k0), .int x1] : List Value).toArray below meth c H locs 0 0 (MQ below (va_Qi (fun r (u : tw_T) => Q r u ∧ gN u = gN τ0) (fun u t => PM dC dI ac A ad u t.heap) A) ([.ref (ad 0 k0), .int x1] : List Value).toArray s 0 0 A) (F0 m 295 ls [])) → W p l e rmX10_bestWay s m ([.ref (ad 0 k0), .int x1] : List Value).toArray below meth c H locs 0 0 (MQ below (va_Qi (fun r (u : tw_T) => Q r u ∧ gN u = gN τ0) (fun u t => PM dC dI ac A ad u t.heap) A) ([.ref (ad 0 k0), .int x1] : List Value).toArray s 0 0 A) (F0 m 137 ls []) := by
            intro p0 hp0 u1 u2 u3 u4 EX n
            induction n with
            | zero => intro τ u5 H locs ls hF; exact hF.elim
            | succ n ih =>
              intro τ u5 H locs ls hF hP hN hS hl hEX
              rw [L_X10_bestWay_137] at hF
              have j289 : ∀ (τ : tw_T) (p0 : Nat) (hp0 : p0 < gN τ0 0) (u1 : Int32) (u2 : Int32) (u3 : Int32) (u4 : Int32) (u5 : Int32) (H : Heap) (locs : List Loc) (ls : Array Slot) (RC EX : tw_T → Int32 → Prop), J_X10_bestWay_289 τ p0 u1 u2 u3 u4 u5 Q RC EX → PM dC dI ac A ad τ H → gN τ = gN τ0 → va_S A s.heap H locs → lv_has ls 8 [(0, .ref (ad 0 p0)), (1, .int u1), (2, .int u2), (3, .int u3), (4, .int u4), (5, .int u5)] → (∀ (τ : tw_T) (u5 : Int32) (H : Heap) (locs : List Loc) (ls : Array Slot), RC τ u5 → PM dC dI ac A ad τ H → gN τ = gN τ0 → va_S A s.heap H locs → lv_has ls 8 [(0, .ref (ad 0 p0)), (1, .int u1), (2, .int u2), (3, .int u3), (4, .int u4), (5, .int u5)] → W p l e rmX10_bestWay s m ([.ref (ad 0 k0), .int x1] : List Value).toArray below meth c H locs 0 0 (MQ below (va_Qi (fun r (u : tw_T) => Q r u ∧ gN u = gN τ0) (fun u t => PM dC dI ac A ad u t.heap) A) ([.ref (ad 0 k0), .int x1] : List Value).toArray s 0 0 A) (F0 m 137 ls [])) → (∀ (τ : tw_T) (u5 : Int32) (H : Heap) (locs : List Loc) (ls : Array Slot), EX τ u5 → PM dC dI ac A ad τ H → gN τ = gN τ0 → va_S A s.heap H locs → lv_has ls 8 [(0, .ref (ad 0 p0)), (1, .int u1), (2, .int u2), (3, .int u3), (4, .int u4), (5, .int u5)] → W p l e rmX10_bestWay s m ([.ref (ad 0 k0), .int x1] : List Value).toArray below meth c H locs 0 0 (MQ below (va_Qi (fun r (u : tw_T) => Q r u ∧ gN u = gN τ0) (fun u t => PM dC dI ac A ad u t.heap) A) ([.ref (ad 0 k0), .int x1] : List Value).toArray s 0 0 A) (F0 m 295 ls [])) → W p l e rmX10_bestWay s m ([.ref (ad 0 k0), .int x1] : List Value).toArray below meth c H locs 0 0 (MQ below (va_Qi (fun r (u : tw_T) => Q r u ∧ gN u = gN τ0) (fun u t => PM dC dI ac A ad u t.heap) A) ([.ref (ad 0 k0), .int x1] : List Value).toArray s 0 0 A) (F0 m 289 ls []) := by
                intro τ p0 hp0 u1 u2 u3 u4 u5 H locs ls RC EX hF hP hN hS hl hRC hEX
                unfold J_X10_bestWay_289 at hF
                obtain ⟨z16, ez16⟩ : ∃ y : Int32, y = u5 + (1 : Int32) := ⟨_, rfl⟩
                have hF := hF z16 ez16
                refine lv_iinc (v := z16) (lv' := [(5, .int z16), (0, .ref (ad 0 p0)), (1, .int u1), (2, .int u2), (3, .int u3), (4, .int u4)]) hx hb dX10_bestWay_289 hl (k := 5) rfl (by rw [ez16]; rfl) (by decide) rfl (fun ls hl => ?_)
                refine lv_goto (tgt := 137) hx hb dX10_bestWay_292 (by decide) ?_
                exact hRC τ z16 _ _ _ hF hP hN hS (lv_sub hl [1, 2, 3, 4, 5, 0] rfl)
              have l181 : ∀ (p0 : Nat) (hp0 : p0 < gN τ0 0) (u1 : Int32) (u2 : Int32) (u3 : Int32) (u4 : Int32) (u5 : Int32) (EX : tw_T → Int32 → Prop) (n : Nat) (τ : tw_T) (u6 : Int32) (H : Heap) (locs : List Loc) (ls : Array Slot), L_X10_bestWay_181 p0 u1 u2 u3 u4 u5 Q EX n τ u6 → PM dC dI ac A ad τ H → gN τ = gN τ0 → va_S A s.heap H locs → lv_has ls 8 [(0, .ref (ad 0 p0)), (1, .int u1), (2, .int u2), (3, .int u3), (4, .int u4), (5, .int u5), (6, .int u6)] → (∀ (τ : tw_T) (u6 : Int32) (H : Heap) (locs : List Loc) (ls : Array Slot), EX τ u6 → PM dC dI ac A ad τ H → gN τ = gN τ0 → va_S A s.heap H locs → lv_has ls 8 [(0, .ref (ad 0 p0)), (1, .int u1), (2, .int u2), (3, .int u3), (4, .int u4), (5, .int u5), (6, .int u6)] → W p l e rmX10_bestWay s m ([.ref (ad 0 k0), .int x1] : List Value).toArray below meth c H locs 0 0 (MQ below (va_Qi (fun r (u : tw_T) => Q r u ∧ gN u = gN τ0) (fun u t => PM dC dI ac A ad u t.heap) A) ([.ref (ad 0 k0), .int x1] : List Value).toArray s 0 0 A) (F0 m 289 ls [])) → W p l e rmX10_bestWay s m ([.ref (ad 0 k0), .int x1] : List Value).toArray below meth c H locs 0 0 (MQ below (va_Qi (fun r (u : tw_T) => Q r u ∧ gN u = gN τ0) (fun u t => PM dC dI ac A ad u t.heap) A) ([.ref (ad 0 k0), .int x1] : List Value).toArray s 0 0 A) (F0 m 181 ls []) := by
                intro p0 hp0 u1 u2 u3 u4 u5 EX n
                induction n with
                | zero => intro τ u6 H locs ls hF; exact hF.elim
                | succ n ih =>
                  intro τ u6 H locs ls hF hP hN hS hl hEX
                  rw [L_X10_bestWay_181] at hF
                  have j283 : ∀ (τ : tw_T) (p0 : Nat) (hp0 : p0 < gN τ0 0) (u1 : Int32) (u2 : Int32) (u3 : Int32) (u4 : Int32) (u5 : Int32) (u6 : Int32) (H : Heap) (locs : List Loc) (ls : Array Slot) (RC EX : tw_T → Int32 → Prop), J_X10_bestWay_283 τ p0 u1 u2 u3 u4 u5 u6 Q RC EX → PM dC dI ac A ad τ H → gN τ = gN τ0 → va_S A s.heap H locs → lv_has ls 8 [(0, .ref (ad 0 p0)), (1, .int u1), (2, .int u2), (3, .int u3), (4, .int u4), (5, .int u5), (6, .int u6)] → (∀ (τ : tw_T) (u6 : Int32) (H : Heap) (locs : List Loc) (ls : Array Slot), RC τ u6 → PM dC dI ac A ad τ H → gN τ = gN τ0 → va_S A s.heap H locs → lv_has ls 8 [(0, .ref (ad 0 p0)), (1, .int u1), (2, .int u2), (3, .int u3), (4, .int u4), (5, .int u5), (6, .int u6)] → W p l e rmX10_bestWay s m ([.ref (ad 0 k0), .int x1] : List Value).toArray below meth c H locs 0 0 (MQ below (va_Qi (fun r (u : tw_T) => Q r u ∧ gN u = gN τ0) (fun u t => PM dC dI ac A ad u t.heap) A) ([.ref (ad 0 k0), .int x1] : List Value).toArray s 0 0 A) (F0 m 181 ls [])) → (∀ (τ : tw_T) (u6 : Int32) (H : Heap) (locs : List Loc) (ls : Array Slot), EX τ u6 → PM dC dI ac A ad τ H → gN τ = gN τ0 → va_S A s.heap H locs → lv_has ls 8 [(0, .ref (ad 0 p0)), (1, .int u1), (2, .int u2), (3, .int u3), (4, .int u4), (5, .int u5), (6, .int u6)] → W p l e rmX10_bestWay s m ([.ref (ad 0 k0), .int x1] : List Value).toArray below meth c H locs 0 0 (MQ below (va_Qi (fun r (u : tw_T) => Q r u ∧ gN u = gN τ0) (fun u t => PM dC dI ac A ad u t.heap) A) ([.ref (ad 0 k0), .int x1] : List Value).toArray s 0 0 A) (F0 m 289 ls [])) → W p l e rmX10_bestWay s m ([.ref (ad 0 k0), .int x1] : List Value).toArray below meth c H locs 0 0 (MQ below (va_Qi (fun r (u : tw_T) => Q r u ∧ gN u = gN τ0) (fun u t => PM dC dI ac A ad u t.heap) A) ([.ref (ad 0 k0), .int x1] : List Value).toArray s 0 0 A) (F0 m 283 ls []) := by
                    intro τ p0 hp0 u1 u2 u3 u4 u5 u6 H locs ls RC EX hF hP hN hS hl hRC hEX
                    unfold J_X10_bestWay_283 at hF
                    obtain ⟨z17, ez17⟩ : ∃ y : Int32, y = u6 + (1 : Int32) := ⟨_, rfl⟩
                    have hF := hF z17 ez17
                    refine lv_iinc (v := z17) (lv' := [(6, .int z17), (0, .ref (ad 0 p0)), (1, .int u1), (2, .int u2), (3, .int u3), (4, .int u4), (5, .int u5)]) hx hb dX10_bestWay_283 hl (k := 6) rfl (by rw [ez17]; rfl) (by decide) rfl (fun ls hl => ?_)
                    refine lv_goto (tgt := 181) hx hb dX10_bestWay_286 (by decide) ?_
                    exact hRC τ z17 _ _ _ hF hP hN hS (lv_sub hl [1, 2, 3, 4, 5, 6, 0] rfl)
                  refine lv_iload hx hb dX10_bestWay_181 (lv_at hl 6 rfl) ?_
                  refine lv_iload_n hx hb dX10_bestWay_183 rfl (lv_at hl 1 rfl) ?_
                  refine lv_icmp_ge (tgt := 289) hx hb dX10_bestWay_184 (by decide) (fun c18 => ?_) (fun c18 => ?_)
                  · have hF := hF.1 c18
                    exact hEX τ u6 _ _ _ hF hP hN hS (lv_sub hl [0, 1, 2, 3, 4, 5, 6] rfl)
                  · have hF := hF.2 c18
                    refine lv_iload hx hb dX10_bestWay_187 (lv_at hl 6 rfl) ?_
                    refine lv_iload hx hb dX10_bestWay_189 (lv_at hl 4 rfl) ?_
                    refine lv_icmp_eq (tgt := 283) hx hb dX10_bestWay_191 (by decide) (fun c19 => ?_) (fun c19 => ?_)
                    · have hF := hF.1 c19
                      exact j283 τ p0 hp0 u1 u2 u3 u4 u5 u6 _ _ _ _ _ hF hP hN hS (lv_sub hl [0, 1, 2, 3, 4, 5, 6] rfl) (fun t v6 H locs ls hF hP hN hS hl => ih t v6 _ _ _ hF hP hN hS hl hEX) hEX
                    · have hF := hF.2 c19
                      refine lv_aload_n hx hb dX10_bestWay_194 rfl (lv_at hl 0 rfl) ?_
                      refine lv_iload hx hb dX10_bestWay_195 (lv_at hl 5 rfl) ?_
                      refine lv_iload_n hx hb dX10_bestWay_197 rfl (lv_at hl 2 rfl) ?_
                      refine lv_iload hx hb dX10_bestWay_198 (lv_at hl 6 rfl) ?_
                      refine lv_iadd hx hb dX10_bestWay_200 ?_
                      refine va_calli (va_runV (As := [.int u5, .int (u2 + u6)]) (rest := []) ⟨hx, hb, hml, hown, hts⟩ (mX10_mayIn l dC dI ac sa A ad τ p0 u5 (u2 + u6) _ hF (tw_lt hp0 (congrFun hN 0))) (cwV 2 hts gX10_bestWay_X10_mayIn rfl rfl rfl (by decide +kernel) ⟨Nat.le_of_ble_eq_true rfl, Nat.le_of_ble_eq_true rfl⟩) ⟨BM.blind, tw_recv hK hP (by decide) (tw_lt hp0 (congrFun hN 0)) rfl rfl, fun U hU hW => ⟨rfl, BM.of hP hK hS hA hZ hU hW⟩⟩ rfl rfl hl.1 rfl (lv_room (Nat.le_of_ble_eq_true rfl)) dX10_bestWay_201 ⟨Nat.le_of_ble_eq_true rfl, Nat.le_of_ble_eq_true rfl⟩) hS (fun q _ h => h) (fun q h => h) (fun r21 τ20 t H locs ht hvm hw hB hz hk hS => ?_)
                      obtain ⟨hF, hN9⟩ := hw
                      have hP : PM dC dI ac A ad τ20 H := tw_back hB ht
                      have hN : gN τ20 = gN τ0 := hN9.trans hN
                      refine lv_if_ne (tgt := 210) hx hb dX10_bestWay_204 (by decide) (fun c22 => ?_) (fun c22 => ?_)
                      · have hF := hF.1 c22
                        refine lv_aload_n hx hb dX10_bestWay_210 rfl (lv_at hl 0 rfl) ?_
                        obtain ⟨o23, eo23, hF⟩ := hF
                        have ho23 : o23 < gN τ0 146 := tw_lt (hP.2.2.2 0 p0 46 o23 (by decide) (tw_lt hp0 (congrFun hN 0)) eo23) (congrFun hN 146).symm
                        refine tw_get (v := .ref (ad 146 o23)) hx hb hts (by decide +kernel) hown hK hP (by decide) (tw_lt hp0 (congrFun hN 0)) rfl rfl 46 (by decide) (hts (.fieldLink RX10 96 "WineCellarModel" "gain" "[I") (by decide +kernel)) (fun _ h9 => h9) (show some (va_rf ((gR τ20 0 p0 46).map (ad 146))) = some (.ref (ad 146 o23)) by rw [eo23]; rfl) dX10_bestWay_211 ?_
                        refine lv_iload hx hb dX10_bestWay_214 (lv_at hl 4 rfl) ?_
                        obtain ⟨hi24, hF⟩ := hF
                        refine tw_iald hx hb hK hP (by decide) (tw_lt ho23 (congrFun hN 146)) rfl 0 rfl hi24 dX10_bestWay_216 ?_
                        refine lv_aload_n hx hb dX10_bestWay_217 rfl (lv_at hl 0 rfl) ?_
                        refine lv_iload hx hb dX10_bestWay_218 (lv_at hl 5 rfl) ?_
                        refine lv_iload_n hx hb dX10_bestWay_220 rfl (lv_at hl 2 rfl) ?_
                        refine lv_iload hx hb dX10_bestWay_221 (lv_at hl 6 rfl) ?_
                        refine lv_iadd hx hb dX10_bestWay_223 ?_
                        refine va_calli (va_runV (As := [.int u5, .int (u2 + u6)]) (rest := [.int (gI τ20 146 o23 u4.toNatClampNeg)]) ⟨hx, hb, hml, hown, hts⟩ (mX10_worthOf l dC dI ac sa A ad τ20 p0 u5 (u2 + u6) _ hF (tw_lt hp0 (congrFun hN 0))) (cwV 2 hts gX10_bestWay_X10_worthOf rfl rfl rfl (by decide +kernel) ⟨Nat.le_of_ble_eq_true rfl, Nat.le_of_ble_eq_true rfl⟩) ⟨BM.blind, tw_recv hK hP (by decide) (tw_lt hp0 (congrFun hN 0)) rfl rfl, fun U hU hW => ⟨rfl, BM.of hP hK hS hA hZ hU hW⟩⟩ rfl rfl hl.1 rfl (lv_room (Nat.le_of_ble_eq_true rfl)) dX10_bestWay_224 ⟨Nat.le_of_ble_eq_true rfl, Nat.le_of_ble_eq_true rfl⟩) hS (fun q _ h => h) (fun q h => h) (fun r26 τ25 t H locs ht hvm hw hB hz hk hS => ?_)
                        obtain ⟨hF, hN9⟩ := hw
                        have hP : PM dC dI ac A ad τ25 H := tw_back hB ht
                        have hN : gN τ25 = gN τ0 := hN9.trans hN
                        refine lv_iadd hx hb dX10_bestWay_227 ?_
                        refine lv_aload_n hx hb dX10_bestWay_228 rfl (lv_at hl 0 rfl) ?_
                        refine lv_iload hx hb dX10_bestWay_229 (lv_at hl 5 rfl) ?_
                        refine lv_iload_n hx hb dX10_bestWay_231 rfl (lv_at hl 2 rfl) ?_
                        refine lv_iload hx hb dX10_bestWay_232 (lv_at hl 4 rfl) ?_
                        refine lv_iadd hx hb dX10_bestWay_234 ?_
                        refine va_calli (va_runV (As := [.int u5, .int (u2 + u4)]) (rest := [.int ((gI τ20 146 o23 u4.toNatClampNeg) + r26)]) ⟨hx, hb, hml, hown, hts⟩ (mX10_worthOf l dC dI ac sa A ad τ25 p0 u5 (u2 + u4) _ hF (tw_lt hp0 (congrFun hN 0))) (cwV 2 hts gX10_bestWay_X10_worthOf rfl rfl rfl (by decide +kernel) ⟨Nat.le_of_ble_eq_true rfl, Nat.le_of_ble_eq_true rfl⟩) ⟨BM.blind, tw_recv hK hP (by decide) (tw_lt hp0 (congrFun hN 0)) rfl rfl, fun U hU hW => ⟨rfl, BM.of hP hK hS hA hZ hU hW⟩⟩ rfl rfl hl.1 rfl (lv_room (Nat.le_of_ble_eq_true rfl)) dX10_bestWay_235 ⟨Nat.le_of_ble_eq_true rfl, Nat.le_of_ble_eq_true rfl⟩) hS (fun q _ h => h) (fun q h => h) (fun r28 τ27 t H locs ht hvm hw hB hz hk hS => ?_)
                        obtain ⟨hF, hN9⟩ := hw
                        have hP : PM dC dI ac A ad τ27 H := tw_back hB ht
                        have hN : gN τ27 = gN τ0 := hN9.trans hN
                        refine lv_isub hx hb dX10_bestWay_238 ?_
                        refine lv_topi (fun z29 ez29 => ?_)
                        have hF := hF z29 ez29
                        refine lv_istore (lv' := [(7, .int z29), (0, .ref (ad 0 p0)), (1, .int u1), (2, .int u2), (3, .int u3), (4, .int u4), (5, .int u5), (6, .int u6)]) hx hb dX10_bestWay_239 hl (by decide) rfl (fun ls hl => ?_)
                        refine lv_iload hx hb dX10_bestWay_241 (lv_at hl 0 rfl) ?_
                        refine lv_aload_n hx hb dX10_bestWay_243 rfl (lv_at hl 1 rfl) ?_
                        obtain ⟨o30, eo30, hF⟩ := hF
                        have ho30 : o30 < gN τ0 146 := tw_lt (hP.2.2.2 0 p0 46 o30 (by decide) (tw_lt hp0 (congrFun hN 0)) eo30) (congrFun hN 146).symm
                        refine tw_get (v := .ref (ad 146 o30)) hx hb hts (by decide +kernel) hown hK hP (by decide) (tw_lt hp0 (congrFun hN 0)) rfl rfl 46 (by decide) (hts (.fieldLink RX10 96 "WineCellarModel" "gain" "[I") (by decide +kernel)) (fun _ h9 => h9) (show some (va_rf ((gR τ27 0 p0 46).map (ad 146))) = some (.ref (ad 146 o30)) by rw [eo30]; rfl) dX10_bestWay_244 ?_
                        refine lv_iload hx hb dX10_bestWay_247 (lv_at hl 7 rfl) ?_
                        obtain ⟨hi31, hF⟩ := hF
                        refine tw_iald hx hb hK hP (by decide) (tw_lt ho30 (congrFun hN 146)) rfl 0 rfl hi31 dX10_bestWay_249 ?_
                        refine lv_icmp_gt (tgt := 256) hx hb dX10_bestWay_250 (by decide) (fun c32 => ?_) (fun c32 => ?_)
                        · have hF := hF.1 c32
                          refine lv_aload_n hx hb dX10_bestWay_256 rfl (lv_at hl 1 rfl) ?_
                          obtain ⟨o33, eo33, hF⟩ := hF
                          have ho33 : o33 < gN τ0 146 := tw_lt (hP.2.2.2 0 p0 46 o33 (by decide) (tw_lt hp0 (congrFun hN 0)) eo33) (congrFun hN 146).symm
                          refine tw_get (v := .ref (ad 146 o33)) hx hb hts (by decide +kernel) hown hK hP (by decide) (tw_lt hp0 (congrFun hN 0)) rfl rfl 46 (by decide) (hts (.fieldLink RX10 96 "WineCellarModel" "gain" "[I") (by decide +kernel)) (fun _ h9 => h9) (show some (va_rf ((gR τ27 0 p0 46).map (ad 146))) = some (.ref (ad 146 o33)) by rw [eo33]; rfl) dX10_bestWay_257 ?_
                          refine lv_iload hx hb dX10_bestWay_260 (lv_at hl 7 rfl) ?_
                          refine lv_iload hx hb dX10_bestWay_262 (lv_at hl 0 rfl) ?_
                          obtain ⟨hi34, hF⟩ := hF
                          refine tw_iast hx hb hK hP hS (by decide) (tw_lt ho33 (congrFun hN 146)) rfl 0 rfl hi34 dX10_bestWay_264 (fun H locs hP hS => ?_)
                          obtain ⟨τ35, eτ35⟩ : ∃ y : tw_T, y = sI τ27 146 o33 u6.toNatClampNeg z29 := ⟨_, rfl⟩
                          have hF := hF τ35 eτ35
                          rw [← eτ35] at hP
                          have hN : gN τ35 = gN τ0 := by rw [eτ35]; exact hN
                          refine lv_aload_n hx hb dX10_bestWay_265 rfl (lv_at hl 1 rfl) ?_
                          obtain ⟨o36, eo36, hF⟩ := hF
                          have ho36 : o36 < gN τ0 147 := tw_lt (hP.2.2.2 0 p0 47 o36 (by decide) (tw_lt hp0 (congrFun hN 0)) eo36) (congrFun hN 147).symm
                          refine tw_get (v := .ref (ad 147 o36)) hx hb hts (by decide +kernel) hown hK hP (by decide) (tw_lt hp0 (congrFun hN 0)) rfl rfl 47 (by decide) (hts (.fieldLink RX10 99 "WineCellarModel" "before" "[I") (by decide +kernel)) (fun _ h9 => h9) (show some (va_rf ((gR τ35 0 p0 47).map (ad 147))) = some (.ref (ad 147 o36)) by rw [eo36]; rfl) dX10_bestWay_266 ?_
                          refine lv_iload hx hb dX10_bestWay_269 (lv_at hl 7 rfl) ?_
                          refine lv_iload hx hb dX10_bestWay_271 (lv_at hl 5 rfl) ?_
                          obtain ⟨hi37, hF⟩ := hF
                          refine tw_iast hx hb hK hP hS (by decide) (tw_lt ho36 (congrFun hN 147)) rfl 0 rfl hi37 dX10_bestWay_273 (fun H locs hP hS => ?_)
                          obtain ⟨τ38, eτ38⟩ : ∃ y : tw_T, y = sI τ35 147 o36 u6.toNatClampNeg u4 := ⟨_, rfl⟩
                          have hF := hF τ38 eτ38
                          rw [← eτ38] at hP
                          have hN : gN τ38 = gN τ0 := by rw [eτ38]; exact hN
                          refine lv_aload_n hx hb dX10_bestWay_274 rfl (lv_at hl 1 rfl) ?_
                          obtain ⟨o39, eo39, hF⟩ := hF
                          have ho39 : o39 < gN τ0 148 := tw_lt (hP.2.2.2 0 p0 48 o39 (by decide) (tw_lt hp0 (congrFun hN 0)) eo39) (congrFun hN 148).symm
                          refine tw_get (v := .ref (ad 148 o39)) hx hb hts (by decide +kernel) hown hK hP (by decide) (tw_lt hp0 (congrFun hN 0)) rfl rfl 48 (by decide) (hts (.fieldLink RX10 102 "WineCellarModel" "byLot" "[I") (by decide +kernel)) (fun _ h9 => h9) (show some (va_rf ((gR τ38 0 p0 48).map (ad 148))) = some (.ref (ad 148 o39)) by rw [eo39]; rfl) dX10_bestWay_275 ?_
                          refine lv_iload hx hb dX10_bestWay_278 (lv_at hl 7 rfl) ?_
                          refine lv_iload hx hb dX10_bestWay_280 (lv_at hl 6 rfl) ?_
                          obtain ⟨hi40, hF⟩ := hF
                          refine tw_iast hx hb hK hP hS (by decide) (tw_lt ho39 (congrFun hN 148)) rfl 0 rfl hi40 dX10_bestWay_282 (fun H locs hP hS => ?_)
                          obtain ⟨τ41, eτ41⟩ : ∃ y : tw_T, y = sI τ38 148 o39 u6.toNatClampNeg u5 := ⟨_, rfl⟩
                          have hF := hF τ41 eτ41
                          rw [← eτ41] at hP
                          have hN : gN τ41 = gN τ0 := by rw [eτ41]; exact hN
                          exact j283 τ41 p0 hp0 u1 u2 u3 u4 u5 u6 _ _ _ _ _ hF hP hN hS (lv_sub hl [1, 2, 3, 4, 5, 6, 7] rfl) (fun t v6 H locs ls hF hP hN hS hl => ih t v6 _ _ _ hF hP hN hS hl hEX) hEX
                        · have hF := hF.2 c32
                          refine lv_goto (tgt := 283) hx hb dX10_bestWay_253 (by decide) ?_
                          exact j283 τ27 p0 hp0 u1 u2 u3 u4 u5 u6 _ _ _ _ _ hF hP hN hS (lv_sub hl [1, 2, 3, 4, 5, 6, 7] rfl) (fun t v6 H locs ls hF hP hN hS hl => ih t v6 _ _ _ hF hP hN hS hl hEX) hEX
                      · have hF := hF.2 c22
                        refine lv_goto (tgt := 283) hx hb dX10_bestWay_207 (by decide) ?_
                        exact j283 τ20 p0 hp0 u1 u2 u3 u4 u5 u6 _ _ _ _ _ hF hP hN hS (lv_sub hl [0, 1, 2, 3, 4, 5, 6] rfl) (fun t v6 H locs ls hF hP hN hS hl => ih t v6 _ _ _ hF hP hN hS hl hEX) hEX
              refine lv_iload hx hb dX10_bestWay_137 (lv_at hl 5 rfl) ?_
              refine lv_aload_n hx hb dX10_bestWay_139 rfl (lv_at hl 0 rfl) ?_
              refine tw_get (v := .int (gI τ 0 p0 2)) hx hb hts (by decide +kernel) hown hK hP (by decide) (tw_lt hp0 (congrFun hN 0)) rfl rfl 2 (by decide) (hts (.fieldLink RX10 119 "WineCellarModel" "lots" "I") (by decide +kernel)) (fun _ h9 => h9) rfl dX10_bestWay_140 ?_
              refine lv_icmp_ge (tgt := 295) hx hb dX10_bestWay_143 (by decide) (fun c42 => ?_) (fun c42 => ?_)
              · have hF := hF.1 c42
                exact hEX τ u5 _ _ _ hF hP hN hS (lv_sub hl [0, 1, 2, 3, 4, 5] rfl)
              · have hF := hF.2 c42
                refine lv_aload_n hx hb dX10_bestWay_146 rfl (lv_at hl 0 rfl) ?_
                obtain ⟨o43, eo43, hF⟩ := hF
                have ho43 : o43 < gN τ0 146 := tw_lt (hP.2.2.2 0 p0 46 o43 (by decide) (tw_lt hp0 (congrFun hN 0)) eo43) (congrFun hN 146).symm
                refine tw_get (v := .ref (ad 146 o43)) hx hb hts (by decide +kernel) hown hK hP (by decide) (tw_lt hp0 (congrFun hN 0)) rfl rfl 46 (by decide) (hts (.fieldLink RX10 96 "WineCellarModel" "gain" "[I") (by decide +kernel)) (fun _ h9 => h9) (show some (va_rf ((gR τ 0 p0 46).map (ad 146))) = some (.ref (ad 146 o43)) by rw [eo43]; rfl) dX10_bestWay_147 ?_
                refine lv_iload hx hb dX10_bestWay_150 (lv_at hl 4 rfl) ?_
                obtain ⟨hi44, hF⟩ := hF
                refine tw_iald hx hb hK hP (by decide) (tw_lt ho43 (congrFun hN 146)) rfl 0 rfl hi44 dX10_bestWay_152 ?_
                refine lv_ldcw (v := (-1000000000)) hx hb hown (hts (.constant RX10 274 (-1000000000)) (by decide +kernel)) dX10_bestWay_153 ?_
                refine lv_icmp_le (tgt := 295) hx hb dX10_bestWay_156 (by decide) (fun c45 => ?_) (fun c45 => ?_)
                · have hF := hF.1 c45
                  exact hEX τ u5 _ _ _ hF hP hN hS (lv_sub hl [0, 1, 2, 3, 4, 5] rfl)
                · have hF := hF.2 c45
                  refine lv_aload_n hx hb dX10_bestWay_159 rfl (lv_at hl 0 rfl) ?_
                  obtain ⟨o46, eo46, hF⟩ := hF
                  have ho46 : o46 < gN τ0 143 := tw_lt (hP.2.2.2 0 p0 43 o46 (by decide) (tw_lt hp0 (congrFun hN 0)) eo46) (congrFun hN 143).symm
                  refine tw_get (v := .ref (ad 143 o46)) hx hb hts (by decide +kernel) hown hK hP (by decide) (tw_lt hp0 (congrFun hN 0)) rfl rfl 43 (by decide) (hts (.fieldLink RX10 87 "WineCellarModel" "flow" "[I") (by decide +kernel)) (fun _ h9 => h9) (show some (va_rf ((gR τ 0 p0 43).map (ad 143))) = some (.ref (ad 143 o46)) by rw [eo46]; rfl) dX10_bestWay_160 ?_
                  refine lv_bipush (v := 6) hx hb dX10_bestWay_163 (by decide) ?_
                  refine lv_iload hx hb dX10_bestWay_165 (lv_at hl 5 rfl) ?_
                  refine lv_imul hx hb dX10_bestWay_167 ?_
                  refine lv_iload hx hb dX10_bestWay_168 (lv_at hl 4 rfl) ?_
                  refine lv_iadd hx hb dX10_bestWay_170 ?_
                  obtain ⟨hi47, hF⟩ := hF
                  refine tw_iald hx hb hK hP (by decide) (tw_lt ho46 (congrFun hN 143)) rfl 0 rfl hi47 dX10_bestWay_171 ?_
                  refine lv_if_ne (tgt := 178) hx hb dX10_bestWay_172 (by decide) (fun c48 => ?_) (fun c48 => ?_)
                  · have hF := hF.1 c48
                    refine lv_iconst (v := 0) hx hb dX10_bestWay_178 (by decide) ?_
                    refine lv_istore (lv' := [(6, .int ((0 : Int32))), (0, .ref (ad 0 p0)), (1, .int u1), (2, .int u2), (3, .int u3), (4, .int u4), (5, .int u5)]) hx hb dX10_bestWay_179 hl (by decide) rfl (fun ls hl => ?_)
                    obtain ⟨n49, hF⟩ := hF
                    refine l181 p0 hp0 u1 u2 u3 u4 u5 _ n49 τ ((0 : Int32)) _ _ _ hF hP hN hS (lv_sub hl [1, 2, 3, 4, 5, 6, 0] rfl) ?_
                    intro τ50 z51 H locs ls hF hP hN hS hl
                    exact j289 τ50 p0 hp0 u1 u2 u3 u4 u5 _ _ _ _ _ hF hP hN hS (lv_sub hl [0, 1, 2, 3, 4, 5] rfl) (fun t v5 H locs ls hF hP hN hS hl => ih t v5 _ _ _ hF hP hN hS hl hEX) hEX
                  · have hF := hF.2 c48
                    refine lv_goto (tgt := 289) hx hb dX10_bestWay_175 (by decide) ?_
                    exact j289 τ p0 hp0 u1 u2 u3 u4 u5 _ _ _ _ _ hF hP hN hS (lv_sub hl [0, 1, 2, 3, 4, 5] rfl) (fun t v5 H locs ls hF hP hN hS hl => ih t v5 _ _ _ hF hP hN hS hl hEX) hEX
          refine lv_iload hx hb dX10_bestWay_128 (lv_at hl 4 rfl) ?_
          refine lv_iload_n hx hb dX10_bestWay_130 rfl (lv_at hl 1 rfl) ?_
          refine lv_icmp_ge (tgt := 301) hx hb dX10_bestWay_131 (by decide) (fun c52 => ?_) (fun c52 => ?_)
          · have hF := hF.1 c52
            exact hEX τ u4 _ _ _ hF hP hN hS (lv_sub hl [0, 1, 2, 3, 4] rfl)
          · have hF := hF.2 c52
            refine lv_iconst (v := 0) hx hb dX10_bestWay_134 (by decide) ?_
            refine lv_istore (lv' := [(5, .int ((0 : Int32))), (0, .ref (ad 0 p0)), (1, .int u1), (2, .int u2), (3, .int u3), (4, .int u4)]) hx hb dX10_bestWay_135 hl (by decide) rfl (fun ls hl => ?_)
            obtain ⟨n53, hF⟩ := hF
            refine l137 p0 hp0 u1 u2 u3 u4 _ n53 τ ((0 : Int32)) _ _ _ hF hP hN hS (lv_sub hl [1, 2, 3, 4, 5, 0] rfl) ?_
            intro τ54 z55 H locs ls hF hP hN hS hl
            exact j295 τ54 p0 hp0 u1 u2 u3 u4 _ _ _ _ _ hF hP hN hS (lv_sub hl [0, 1, 2, 3, 4] rfl) (fun t v4 H locs ls hF hP hN hS hl => ih t v4 _ _ _ hF hP hN hS hl hEX) hEX
      refine lv_iload_n hx hb dX10_bestWay_120 rfl (lv_at hl 3 rfl) ?_
      refine lv_iload_n hx hb dX10_bestWay_121 rfl (lv_at hl 1 rfl) ?_
      refine lv_icmp_ge (tgt := 307) hx hb dX10_bestWay_122 (by decide) (fun c56 => ?_) (fun c56 => ?_)
      · have hF := hF.1 c56
        exact hEX τ u3 _ _ _ hF hP hN hS (lv_sub hl [0, 1, 2, 3] rfl)
      · have hF := hF.2 c56
        refine lv_iconst (v := 0) hx hb dX10_bestWay_125 (by decide) ?_
        refine lv_istore (lv' := [(4, .int ((0 : Int32))), (0, .ref (ad 0 p0)), (1, .int u1), (2, .int u2), (3, .int u3)]) hx hb dX10_bestWay_126 hl (by decide) rfl (fun ls hl => ?_)
        obtain ⟨n57, hF⟩ := hF
        refine l128 p0 hp0 u1 u2 u3 _ n57 τ ((0 : Int32)) _ _ _ hF hP hN hS (lv_sub hl [1, 2, 3, 4, 0] rfl) ?_
        intro τ58 z59 H locs ls hF hP hN hS hl
        obtain ⟨z60, ez60⟩ : ∃ y : Int32, y = u3 + (1 : Int32) := ⟨_, rfl⟩
        have hF := hF z60 ez60
        refine lv_iinc (v := z60) (lv' := [(3, .int z60), (0, .ref (ad 0 p0)), (1, .int u1), (2, .int u2), (4, .int z59)]) hx hb dX10_bestWay_301 hl (k := 3) rfl (by rw [ez60]; rfl) (by decide) rfl (fun ls hl => ?_)
        refine lv_goto (tgt := 120) hx hb dX10_bestWay_304 (by decide) ?_
        exact ih τ58 z60 _ _ _ hF hP hN hS (lv_sub hl [1, 2, 3, 0] rfl) hEX
  have l7 : ∀ (p0 : Nat) (hp0 : p0 < gN τ0 0) (u1 : Int32) (u2 : Int32) (EX : tw_T → Int32 → Prop) (n : Nat) (τ : tw_T) (u3 : Int32) (H : Heap) (locs : List Loc) (ls : Array Slot), L_X10_bestWay_7 p0 u1 u2 Q EX n τ u3 → PM dC dI ac A ad τ H → gN τ = gN τ0 → va_S A s.heap H locs → lv_has ls 8 [(0, .ref (ad 0 p0)), (1, .int u1), (2, .int u2), (3, .int u3)] → (∀ (τ : tw_T) (u3 : Int32) (H : Heap) (locs : List Loc) (ls : Array Slot), EX τ u3 → PM dC dI ac A ad τ H → gN τ = gN τ0 → va_S A s.heap H locs → lv_has ls 8 [(0, .ref (ad 0 p0)), (1, .int u1), (2, .int u2), (3, .int u3)] → W p l e rmX10_bestWay s m ([.ref (ad 0 k0), .int x1] : List Value).toArray below meth c H locs 0 0 (MQ below (va_Qi (fun r (u : tw_T) => Q r u ∧ gN u = gN τ0) (fun u t => PM dC dI ac A ad u t.heap) A) ([.ref (ad 0 k0), .int x1] : List Value).toArray s 0 0 A) (F0 m 118 ls [])) → W p l e rmX10_bestWay s m ([.ref (ad 0 k0), .int x1] : List Value).toArray below meth c H locs 0 0 (MQ below (va_Qi (fun r (u : tw_T) => Q r u ∧ gN u = gN τ0) (fun u t => PM dC dI ac A ad u t.heap) A) ([.ref (ad 0 k0), .int x1] : List Value).toArray s 0 0 A) (F0 m 7 ls []) := by
    intro p0 hp0 u1 u2 EX n
    induction n with
    | zero => intro τ u3 H locs ls hF; exact hF.elim
    | succ n ih =>
      intro τ u3 H locs ls hF hP hN hS hl hEX
      rw [L_X10_bestWay_7] at hF
      have l31 : ∀ (p0 : Nat) (hp0 : p0 < gN τ0 0) (u1 : Int32) (u2 : Int32) (u3 : Int32) (EX : tw_T → Int32 → Prop) (n : Nat) (τ : tw_T) (u4 : Int32) (H : Heap) (locs : List Loc) (ls : Array Slot), L_X10_bestWay_31 p0 u1 u2 u3 Q EX n τ u4 → PM dC dI ac A ad τ H → gN τ = gN τ0 → va_S A s.heap H locs → lv_has ls 8 [(0, .ref (ad 0 p0)), (1, .int u1), (2, .int u2), (3, .int u3), (4, .int u4)] → (∀ (τ : tw_T) (u4 : Int32) (H : Heap) (locs : List Loc) (ls : Array Slot), EX τ u4 → PM dC dI ac A ad τ H → gN τ = gN τ0 → va_S A s.heap H locs → lv_has ls 8 [(0, .ref (ad 0 p0)), (1, .int u1), (2, .int u2), (3, .int u3), (4, .int u4)] → W p l e rmX10_bestWay s m ([.ref (ad 0 k0), .int x1] : List Value).toArray below meth c H locs 0 0 (MQ below (va_Qi (fun r (u : tw_T) => Q r u ∧ gN u = gN τ0) (fun u t => PM dC dI ac A ad u t.heap) A) ([.ref (ad 0 k0), .int x1] : List Value).toArray s 0 0 A) (F0 m 112 ls [])) → W p l e rmX10_bestWay s m ([.ref (ad 0 k0), .int x1] : List Value).toArray below meth c H locs 0 0 (MQ below (va_Qi (fun r (u : tw_T) => Q r u ∧ gN u = gN τ0) (fun u t => PM dC dI ac A ad u t.heap) A) ([.ref (ad 0 k0), .int x1] : List Value).toArray s 0 0 A) (F0 m 31 ls []) := by
        intro p0 hp0 u1 u2 u3 EX n
        induction n with
        | zero => intro τ u4 H locs ls hF; exact hF.elim
        | succ n ih =>
          intro τ u4 H locs ls hF hP hN hS hl hEX
          rw [L_X10_bestWay_31] at hF
          have j106 : ∀ (τ : tw_T) (p0 : Nat) (hp0 : p0 < gN τ0 0) (u1 : Int32) (u2 : Int32) (u3 : Int32) (u4 : Int32) (H : Heap) (locs : List Loc) (ls : Array Slot) (RC EX : tw_T → Int32 → Prop), J_X10_bestWay_106 τ p0 u1 u2 u3 u4 Q RC EX → PM dC dI ac A ad τ H → gN τ = gN τ0 → va_S A s.heap H locs → lv_has ls 8 [(0, .ref (ad 0 p0)), (1, .int u1), (2, .int u2), (3, .int u3), (4, .int u4)] → (∀ (τ : tw_T) (u4 : Int32) (H : Heap) (locs : List Loc) (ls : Array Slot), RC τ u4 → PM dC dI ac A ad τ H → gN τ = gN τ0 → va_S A s.heap H locs → lv_has ls 8 [(0, .ref (ad 0 p0)), (1, .int u1), (2, .int u2), (3, .int u3), (4, .int u4)] → W p l e rmX10_bestWay s m ([.ref (ad 0 k0), .int x1] : List Value).toArray below meth c H locs 0 0 (MQ below (va_Qi (fun r (u : tw_T) => Q r u ∧ gN u = gN τ0) (fun u t => PM dC dI ac A ad u t.heap) A) ([.ref (ad 0 k0), .int x1] : List Value).toArray s 0 0 A) (F0 m 31 ls [])) → (∀ (τ : tw_T) (u4 : Int32) (H : Heap) (locs : List Loc) (ls : Array Slot), EX τ u4 → PM dC dI ac A ad τ H → gN τ = gN τ0 → va_S A s.heap H locs → lv_has ls 8 [(0, .ref (ad 0 p0)), (1, .int u1), (2, .int u2), (3, .int u3), (4, .int u4)] → W p l e rmX10_bestWay s m ([.ref (ad 0 k0), .int x1] : List Value).toArray below meth c H locs 0 0 (MQ below (va_Qi (fun r (u : tw_T) => Q r u ∧ gN u = gN τ0) (fun u t => PM dC dI ac A ad u t.heap) A) ([.ref (ad 0 k0), .int x1] : List Value).toArray s 0 0 A) (F0 m 112 ls [])) → W p l e rmX10_bestWay s m ([.ref (ad 0 k0), .int x1] : List Value).toArray below meth c H locs 0 0 (MQ below (va_Qi (fun r (u : tw_T) => Q r u ∧ gN u = gN τ0) (fun u t => PM dC dI ac A ad u t.heap) A) ([.ref (ad 0 k0), .int x1] : List Value).toArray s 0 0 A) (F0 m 106 ls []) := by
            intro τ p0 hp0 u1 u2 u3 u4 H locs ls RC EX hF hP hN hS hl hRC hEX
            unfold J_X10_bestWay_106 at hF
            obtain ⟨z61, ez61⟩ : ∃ y : Int32, y = u4 + (1 : Int32) := ⟨_, rfl⟩
            have hF := hF z61 ez61
            refine lv_iinc (v := z61) (lv' := [(4, .int z61), (0, .ref (ad 0 p0)), (1, .int u1), (2, .int u2), (3, .int u3)]) hx hb dX10_bestWay_106 hl (k := 4) rfl (by rw [ez61]; rfl) (by decide) rfl (fun ls hl => ?_)
            refine lv_goto (tgt := 31) hx hb dX10_bestWay_109 (by decide) ?_
            exact hRC τ z61 _ _ _ hF hP hN hS (lv_sub hl [1, 2, 3, 4, 0] rfl)
          refine lv_iload hx hb dX10_bestWay_31 (lv_at hl 4 rfl) ?_
          refine lv_aload_n hx hb dX10_bestWay_33 rfl (lv_at hl 0 rfl) ?_
          refine tw_get (v := .int (gI τ 0 p0 2)) hx hb hts (by decide +kernel) hown hK hP (by decide) (tw_lt hp0 (congrFun hN 0)) rfl rfl 2 (by decide) (hts (.fieldLink RX10 119 "WineCellarModel" "lots" "I") (by decide +kernel)) (fun _ h9 => h9) rfl dX10_bestWay_34 ?_
          refine lv_icmp_ge (tgt := 112) hx hb dX10_bestWay_37 (by decide) (fun c62 => ?_) (fun c62 => ?_)
          · have hF := hF.1 c62
            exact hEX τ u4 _ _ _ hF hP hN hS (lv_sub hl [0, 1, 2, 3, 4] rfl)
          · have hF := hF.2 c62
            refine lv_aload_n hx hb dX10_bestWay_40 rfl (lv_at hl 0 rfl) ?_
            obtain ⟨o63, eo63, hF⟩ := hF
            have ho63 : o63 < gN τ0 144 := tw_lt (hP.2.2.2 0 p0 44 o63 (by decide) (tw_lt hp0 (congrFun hN 0)) eo63) (congrFun hN 144).symm
            refine tw_get (v := .ref (ad 144 o63)) hx hb hts (by decide +kernel) hown hK hP (by decide) (tw_lt hp0 (congrFun hN 0)) rfl rfl 44 (by decide) (hts (.fieldLink RX10 90 "WineCellarModel" "left" "[I") (by decide +kernel)) (fun _ h9 => h9) (show some (va_rf ((gR τ 0 p0 44).map (ad 144))) = some (.ref (ad 144 o63)) by rw [eo63]; rfl) dX10_bestWay_41 ?_
            refine lv_iload hx hb dX10_bestWay_44 (lv_at hl 4 rfl) ?_
            obtain ⟨hi64, hF⟩ := hF
            refine tw_iald hx hb hK hP (by decide) (tw_lt ho63 (congrFun hN 144)) rfl 0 rfl hi64 dX10_bestWay_46 ?_
            refine lv_if_eq (tgt := 106) hx hb dX10_bestWay_47 (by decide) (fun c65 => ?_) (fun c65 => ?_)
            · have hF := hF.1 c65
              exact j106 τ p0 hp0 u1 u2 u3 u4 _ _ _ _ _ hF hP hN hS (lv_sub hl [0, 1, 2, 3, 4] rfl) (fun t v4 H locs ls hF hP hN hS hl => ih t v4 _ _ _ hF hP hN hS hl hEX) hEX
            · have hF := hF.2 c65
              refine lv_aload_n hx hb dX10_bestWay_50 rfl (lv_at hl 0 rfl) ?_
              refine lv_iload hx hb dX10_bestWay_51 (lv_at hl 4 rfl) ?_
              refine lv_iload_n hx hb dX10_bestWay_53 rfl (lv_at hl 2 rfl) ?_
              refine lv_iload_n hx hb dX10_bestWay_54 rfl (lv_at hl 3 rfl) ?_
              refine lv_iadd hx hb dX10_bestWay_55 ?_
              refine va_calli (va_runV (As := [.int u4, .int (u2 + u3)]) (rest := []) ⟨hx, hb, hml, hown, hts⟩ (mX10_mayIn l dC dI ac sa A ad τ p0 u4 (u2 + u3) _ hF (tw_lt hp0 (congrFun hN 0))) (cwV 2 hts gX10_bestWay_X10_mayIn rfl rfl rfl (by decide +kernel) ⟨Nat.le_of_ble_eq_true rfl, Nat.le_of_ble_eq_true rfl⟩) ⟨BM.blind, tw_recv hK hP (by decide) (tw_lt hp0 (congrFun hN 0)) rfl rfl, fun U hU hW => ⟨rfl, BM.of hP hK hS hA hZ hU hW⟩⟩ rfl rfl hl.1 rfl (lv_room (Nat.le_of_ble_eq_true rfl)) dX10_bestWay_56 ⟨Nat.le_of_ble_eq_true rfl, Nat.le_of_ble_eq_true rfl⟩) hS (fun q _ h => h) (fun q h => h) (fun r67 τ66 t H locs ht hvm hw hB hz hk hS => ?_)
              obtain ⟨hF, hN9⟩ := hw
              have hP : PM dC dI ac A ad τ66 H := tw_back hB ht
              have hN : gN τ66 = gN τ0 := hN9.trans hN
              refine lv_if_eq (tgt := 106) hx hb dX10_bestWay_59 (by decide) (fun c68 => ?_) (fun c68 => ?_)
              · have hF := hF.1 c68
                exact j106 τ66 p0 hp0 u1 u2 u3 u4 _ _ _ _ _ hF hP hN hS (lv_sub hl [0, 1, 2, 3, 4] rfl) (fun t v4 H locs ls hF hP hN hS hl => ih t v4 _ _ _ hF hP hN hS hl hEX) hEX
              · have hF := hF.2 c68
                refine lv_aload_n hx hb dX10_bestWay_62 rfl (lv_at hl 0 rfl) ?_
                refine lv_iload hx hb dX10_bestWay_63 (lv_at hl 4 rfl) ?_
                refine lv_iload_n hx hb dX10_bestWay_65 rfl (lv_at hl 2 rfl) ?_
                refine lv_iload_n hx hb dX10_bestWay_66 rfl (lv_at hl 3 rfl) ?_
                refine lv_iadd hx hb dX10_bestWay_67 ?_
                refine va_calli (va_runV (As := [.int u4, .int (u2 + u3)]) (rest := []) ⟨hx, hb, hml, hown, hts⟩ (mX10_worthOf l dC dI ac sa A ad τ66 p0 u4 (u2 + u3) _ hF (tw_lt hp0 (congrFun hN 0))) (cwV 2 hts gX10_bestWay_X10_worthOf rfl rfl rfl (by decide +kernel) ⟨Nat.le_of_ble_eq_true rfl, Nat.le_of_ble_eq_true rfl⟩) ⟨BM.blind, tw_recv hK hP (by decide) (tw_lt hp0 (congrFun hN 0)) rfl rfl, fun U hU hW => ⟨rfl, BM.of hP hK hS hA hZ hU hW⟩⟩ rfl rfl hl.1 rfl (lv_room (Nat.le_of_ble_eq_true rfl)) dX10_bestWay_68 ⟨Nat.le_of_ble_eq_true rfl, Nat.le_of_ble_eq_true rfl⟩) hS (fun q _ h => h) (fun q h => h) (fun r70 τ69 t H locs ht hvm hw hB hz hk hS => ?_)
                obtain ⟨hF, hN9⟩ := hw
                have hP : PM dC dI ac A ad τ69 H := tw_back hB ht
                have hN : gN τ69 = gN τ0 := hN9.trans hN
                refine lv_aload_n hx hb dX10_bestWay_71 rfl (lv_at hl 0 rfl) ?_
                obtain ⟨o71, eo71, hF⟩ := hF
                have ho71 : o71 < gN τ0 146 := tw_lt (hP.2.2.2 0 p0 46 o71 (by decide) (tw_lt hp0 (congrFun hN 0)) eo71) (congrFun hN 146).symm
                refine tw_get (v := .ref (ad 146 o71)) hx hb hts (by decide +kernel) hown hK hP (by decide) (tw_lt hp0 (congrFun hN 0)) rfl rfl 46 (by decide) (hts (.fieldLink RX10 96 "WineCellarModel" "gain" "[I") (by decide +kernel)) (fun _ h9 => h9) (show some (va_rf ((gR τ69 0 p0 46).map (ad 146))) = some (.ref (ad 146 o71)) by rw [eo71]; rfl) dX10_bestWay_72 ?_
                refine lv_iload_n hx hb dX10_bestWay_75 rfl (lv_at hl 3 rfl) ?_
                obtain ⟨hi72, hF⟩ := hF
                refine tw_iald hx hb hK hP (by decide) (tw_lt ho71 (congrFun hN 146)) rfl 0 rfl hi72 dX10_bestWay_76 ?_
                refine lv_icmp_gt (tgt := 83) hx hb dX10_bestWay_77 (by decide) (fun c73 => ?_) (fun c73 => ?_)
                · have hF := hF.1 c73
                  refine lv_aload_n hx hb dX10_bestWay_83 rfl (lv_at hl 0 rfl) ?_
                  obtain ⟨o74, eo74, hF⟩ := hF
                  have ho74 : o74 < gN τ0 146 := tw_lt (hP.2.2.2 0 p0 46 o74 (by decide) (tw_lt hp0 (congrFun hN 0)) eo74) (congrFun hN 146).symm
                  refine tw_get (v := .ref (ad 146 o74)) hx hb hts (by decide +kernel) hown hK hP (by decide) (tw_lt hp0 (congrFun hN 0)) rfl rfl 46 (by decide) (hts (.fieldLink RX10 96 "WineCellarModel" "gain" "[I") (by decide +kernel)) (fun _ h9 => h9) (show some (va_rf ((gR τ69 0 p0 46).map (ad 146))) = some (.ref (ad 146 o74)) by rw [eo74]; rfl) dX10_bestWay_84 ?_
                  refine lv_iload_n hx hb dX10_bestWay_87 rfl (lv_at hl 3 rfl) ?_
                  refine lv_aload_n hx hb dX10_bestWay_88 rfl (lv_at hl 0 rfl) ?_
                  refine lv_iload hx hb dX10_bestWay_89 (lv_at hl 4 rfl) ?_
                  refine lv_iload_n hx hb dX10_bestWay_91 rfl (lv_at hl 2 rfl) ?_
                  refine lv_iload_n hx hb dX10_bestWay_92 rfl (lv_at hl 3 rfl) ?_
                  refine lv_iadd hx hb dX10_bestWay_93 ?_
                  refine va_calli (va_runV (As := [.int u4, .int (u2 + u3)]) (rest := [.int u3, .ref (ad 146 o74)]) ⟨hx, hb, hml, hown, hts⟩ (mX10_worthOf l dC dI ac sa A ad τ69 p0 u4 (u2 + u3) _ hF (tw_lt hp0 (congrFun hN 0))) (cwV 2 hts gX10_bestWay_X10_worthOf rfl rfl rfl (by decide +kernel) ⟨Nat.le_of_ble_eq_true rfl, Nat.le_of_ble_eq_true rfl⟩) ⟨BM.blind, tw_recv hK hP (by decide) (tw_lt hp0 (congrFun hN 0)) rfl rfl, fun U hU hW => ⟨rfl, BM.of hP hK hS hA hZ hU hW⟩⟩ rfl rfl hl.1 rfl (lv_room (Nat.le_of_ble_eq_true rfl)) dX10_bestWay_94 ⟨Nat.le_of_ble_eq_true rfl, Nat.le_of_ble_eq_true rfl⟩) hS (fun q _ h => h) (fun q h => h) (fun r76 τ75 t H locs ht hvm hw hB hz hk hS => ?_)
                  obtain ⟨hF, hN9⟩ := hw
                  have hP : PM dC dI ac A ad τ75 H := tw_back hB ht
                  have hN : gN τ75 = gN τ0 := hN9.trans hN
                  obtain ⟨hi77, hF⟩ := hF
                  refine tw_iast hx hb hK hP hS (by decide) (tw_lt ho74 (congrFun hN 146)) rfl 0 rfl hi77 dX10_bestWay_97 (fun H locs hP hS => ?_)
                  obtain ⟨τ78, eτ78⟩ : ∃ y : tw_T, y = sI τ75 146 o74 u3.toNatClampNeg r76 := ⟨_, rfl⟩
                  have hF := hF τ78 eτ78
                  rw [← eτ78] at hP
                  have hN : gN τ78 = gN τ0 := by rw [eτ78]; exact hN
                  refine lv_aload_n hx hb dX10_bestWay_98 rfl (lv_at hl 0 rfl) ?_
                  obtain ⟨o79, eo79, hF⟩ := hF
                  have ho79 : o79 < gN τ0 148 := tw_lt (hP.2.2.2 0 p0 48 o79 (by decide) (tw_lt hp0 (congrFun hN 0)) eo79) (congrFun hN 148).symm
                  refine tw_get (v := .ref (ad 148 o79)) hx hb hts (by decide +kernel) hown hK hP (by decide) (tw_lt hp0 (congrFun hN 0)) rfl rfl 48 (by decide) (hts (.fieldLink RX10 102 "WineCellarModel" "byLot" "[I") (by decide +kernel)) (fun _ h9 => h9) (show some (va_rf ((gR τ78 0 p0 48).map (ad 148))) = some (.ref (ad 148 o79)) by rw [eo79]; rfl) dX10_bestWay_99 ?_
                  refine lv_iload_n hx hb dX10_bestWay_102 rfl (lv_at hl 3 rfl) ?_
                  refine lv_iload hx hb dX10_bestWay_103 (lv_at hl 4 rfl) ?_
                  obtain ⟨hi80, hF⟩ := hF
                  refine tw_iast hx hb hK hP hS (by decide) (tw_lt ho79 (congrFun hN 148)) rfl 0 rfl hi80 dX10_bestWay_105 (fun H locs hP hS => ?_)
                  obtain ⟨τ81, eτ81⟩ : ∃ y : tw_T, y = sI τ78 148 o79 u3.toNatClampNeg u4 := ⟨_, rfl⟩
                  have hF := hF τ81 eτ81
                  rw [← eτ81] at hP
                  have hN : gN τ81 = gN τ0 := by rw [eτ81]; exact hN
                  exact j106 τ81 p0 hp0 u1 u2 u3 u4 _ _ _ _ _ hF hP hN hS (lv_sub hl [0, 1, 2, 3, 4] rfl) (fun t v4 H locs ls hF hP hN hS hl => ih t v4 _ _ _ hF hP hN hS hl hEX) hEX
                · have hF := hF.2 c73
                  refine lv_goto (tgt := 106) hx hb dX10_bestWay_80 (by decide) ?_
                  exact j106 τ69 p0 hp0 u1 u2 u3 u4 _ _ _ _ _ hF hP hN hS (lv_sub hl [0, 1, 2, 3, 4] rfl) (fun t v4 H locs ls hF hP hN hS hl => ih t v4 _ _ _ hF hP hN hS hl hEX) hEX
      refine lv_iload_n hx hb dX10_bestWay_7 rfl (lv_at hl 3 rfl) ?_
      refine lv_iload_n hx hb dX10_bestWay_8 rfl (lv_at hl 1 rfl) ?_
      refine lv_icmp_ge (tgt := 118) hx hb dX10_bestWay_9 (by decide) (fun c82 => ?_) (fun c82 => ?_)
      · have hF := hF.1 c82
        exact hEX τ u3 _ _ _ hF hP hN hS (lv_sub hl [0, 1, 2, 3] rfl)
      · have hF := hF.2 c82
        refine lv_aload_n hx hb dX10_bestWay_12 rfl (lv_at hl 0 rfl) ?_
        obtain ⟨o83, eo83, hF⟩ := hF
        have ho83 : o83 < gN τ0 146 := tw_lt (hP.2.2.2 0 p0 46 o83 (by decide) (tw_lt hp0 (congrFun hN 0)) eo83) (congrFun hN 146).symm
        refine tw_get (v := .ref (ad 146 o83)) hx hb hts (by decide +kernel) hown hK hP (by decide) (tw_lt hp0 (congrFun hN 0)) rfl rfl 46 (by decide) (hts (.fieldLink RX10 96 "WineCellarModel" "gain" "[I") (by decide +kernel)) (fun _ h9 => h9) (show some (va_rf ((gR τ 0 p0 46).map (ad 146))) = some (.ref (ad 146 o83)) by rw [eo83]; rfl) dX10_bestWay_13 ?_
        refine lv_iload_n hx hb dX10_bestWay_16 rfl (lv_at hl 3 rfl) ?_
        refine lv_ldcw (v := (-1000000000)) hx hb hown (hts (.constant RX10 274 (-1000000000)) (by decide +kernel)) dX10_bestWay_17 ?_
        obtain ⟨hi84, hF⟩ := hF
        refine tw_iast hx hb hK hP hS (by decide) (tw_lt ho83 (congrFun hN 146)) rfl 0 rfl hi84 dX10_bestWay_20 (fun H locs hP hS => ?_)
        obtain ⟨τ85, eτ85⟩ : ∃ y : tw_T, y = sI τ 146 o83 u3.toNatClampNeg ((-1000000000 : Int32)) := ⟨_, rfl⟩
        have hF := hF τ85 eτ85
        rw [← eτ85] at hP
        have hN : gN τ85 = gN τ0 := by rw [eτ85]; exact hN
        refine lv_aload_n hx hb dX10_bestWay_21 rfl (lv_at hl 0 rfl) ?_
        obtain ⟨o86, eo86, hF⟩ := hF
        have ho86 : o86 < gN τ0 147 := tw_lt (hP.2.2.2 0 p0 47 o86 (by decide) (tw_lt hp0 (congrFun hN 0)) eo86) (congrFun hN 147).symm
        refine tw_get (v := .ref (ad 147 o86)) hx hb hts (by decide +kernel) hown hK hP (by decide) (tw_lt hp0 (congrFun hN 0)) rfl rfl 47 (by decide) (hts (.fieldLink RX10 99 "WineCellarModel" "before" "[I") (by decide +kernel)) (fun _ h9 => h9) (show some (va_rf ((gR τ85 0 p0 47).map (ad 147))) = some (.ref (ad 147 o86)) by rw [eo86]; rfl) dX10_bestWay_22 ?_
        refine lv_iload_n hx hb dX10_bestWay_25 rfl (lv_at hl 3 rfl) ?_
        refine lv_iconst (v := (-1)) hx hb dX10_bestWay_26 (by decide) ?_
        obtain ⟨hi87, hF⟩ := hF
        refine tw_iast hx hb hK hP hS (by decide) (tw_lt ho86 (congrFun hN 147)) rfl 0 rfl hi87 dX10_bestWay_27 (fun H locs hP hS => ?_)
        obtain ⟨τ88, eτ88⟩ : ∃ y : tw_T, y = sI τ85 147 o86 u3.toNatClampNeg ((-1 : Int32)) := ⟨_, rfl⟩
        have hF := hF τ88 eτ88
        rw [← eτ88] at hP
        have hN : gN τ88 = gN τ0 := by rw [eτ88]; exact hN
        refine lv_iconst (v := 0) hx hb dX10_bestWay_28 (by decide) ?_
        refine lv_istore (lv' := [(4, .int ((0 : Int32))), (0, .ref (ad 0 p0)), (1, .int u1), (2, .int u2), (3, .int u3)]) hx hb dX10_bestWay_29 hl (by decide) rfl (fun ls hl => ?_)
        obtain ⟨n89, hF⟩ := hF
        refine l31 p0 hp0 u1 u2 u3 _ n89 τ88 ((0 : Int32)) _ _ _ hF hP hN hS (lv_sub hl [1, 2, 3, 4, 0] rfl) ?_
        intro τ90 z91 H locs ls hF hP hN hS hl
        obtain ⟨z92, ez92⟩ : ∃ y : Int32, y = u3 + (1 : Int32) := ⟨_, rfl⟩
        have hF := hF z92 ez92
        refine lv_iinc (v := z92) (lv' := [(3, .int z92), (0, .ref (ad 0 p0)), (1, .int u1), (2, .int u2), (4, .int z91)]) hx hb dX10_bestWay_112 hl (k := 3) rfl (by rw [ez92]; rfl) (by decide) rfl (fun ls hl => ?_)
        refine lv_goto (tgt := 7) hx hb dX10_bestWay_115 (by decide) ?_
        exact ih τ90 z92 _ _ _ hF hP hN hS (lv_sub hl [1, 2, 3, 0] rfl) hEX
  refine lv_aload_n hx hb dX10_bestWay_0 rfl (lv_at hl 0 rfl) ?_
  refine va_calli (va_runV (As := []) (rest := []) ⟨hx, hb, hml, hown, hts⟩ (mX10_year l dC dI ac sa A ad τ0 k0 _ hF hk0) (cwV 0 hts gX10_bestWay_X10_year rfl rfl rfl (by decide +kernel) ⟨Nat.le_of_ble_eq_true rfl, Nat.le_of_ble_eq_true rfl⟩) ⟨BM.blind, tw_recv hK hP (by decide) hk0 rfl rfl, fun U hU hW => ⟨rfl, BM.of hP hK hS hA hZ hU hW⟩⟩ rfl rfl hl.1 rfl (lv_room (Nat.le_of_ble_eq_true rfl)) dX10_bestWay_1 ⟨Nat.le_of_ble_eq_true rfl, Nat.le_of_ble_eq_true rfl⟩) hS (fun q _ h => h) (fun q h => h) (fun r94 τ93 t H locs ht hvm hw hB hz hk hS => ?_)
  obtain ⟨hF, hN9⟩ := hw
  have hP : PM dC dI ac A ad τ93 H := tw_back hB ht
  have hN : gN τ93 = gN τ0 := hN9.trans hN
  refine lv_istore_n (lv' := [(2, .int r94), (0, .ref (ad 0 k0)), (1, .int x1)]) hx hb dX10_bestWay_4 rfl hl (by decide) rfl (fun ls hl => ?_)
  refine lv_iconst (v := 0) hx hb dX10_bestWay_5 (by decide) ?_
  refine lv_istore_n (lv' := [(3, .int ((0 : Int32))), (2, .int r94), (0, .ref (ad 0 k0)), (1, .int x1)]) hx hb dX10_bestWay_6 rfl hl (by decide) rfl (fun ls hl => ?_)
  obtain ⟨n95, hF⟩ := hF
  refine l7 k0 hk0 x1 r94 _ n95 τ93 ((0 : Int32)) _ _ _ hF hP hN hS (lv_sub hl [2, 3, 1, 0] rfl) ?_
  intro τ96 z97 H locs ls hF hP hN hS hl
  refine lv_iconst (v := 0) hx hb dX10_bestWay_118 (by decide) ?_
  refine lv_istore_n (lv' := [(3, .int ((0 : Int32))), (0, .ref (ad 0 k0)), (1, .int x1), (2, .int r94)]) hx hb dX10_bestWay_119 rfl hl (by decide) rfl (fun ls hl => ?_)
  obtain ⟨n98, hF⟩ := hF
  refine l120 k0 hk0 x1 r94 _ n98 τ96 ((0 : Int32)) _ _ _ hF hP hN hS (lv_sub hl [1, 2, 3, 0] rfl) ?_
  intro τ99 z100 H locs ls hF hP hN hS hl
  refine lv_iconst (v := (-1)) hx hb dX10_bestWay_307 (by decide) ?_
  refine lv_istore_n (lv' := [(3, .int ((-1 : Int32))), (0, .ref (ad 0 k0)), (1, .int x1), (2, .int r94)]) hx hb dX10_bestWay_308 rfl hl (by decide) rfl (fun ls hl => ?_)
  refine lv_iconst (v := 0) hx hb dX10_bestWay_309 (by decide) ?_
  refine lv_istore (lv' := [(4, .int ((0 : Int32))), (3, .int ((-1 : Int32))), (0, .ref (ad 0 k0)), (1, .int x1), (2, .int r94)]) hx hb dX10_bestWay_310 hl (by decide) rfl (fun ls hl => ?_)
  obtain ⟨n101, hF⟩ := hF
  refine l312 k0 hk0 x1 _ n101 τ99 ((-1 : Int32)) ((0 : Int32)) _ _ _ hF hP hN hS (lv_sub hl [2, 3, 1, 0] rfl) ?_
  intro τ102 z103 z104 H locs ls hF hP hN hS hl
  refine lv_iload_n hx hb dX10_bestWay_368 rfl (lv_at hl 2 rfl) ?_
  exact W.iret (v := z103) hx hb hr (fun t ht hW => ⟨⟨z103, τ102, rfl, ⟨hF, hN⟩, tw_at hP ht⟩, hS.F ht⟩) hS.2.2 dX10_bestWay_369
def L_X10_plan_149 (p0 : Nat) (u1 : Int32) (u3 : Int32) (Q : Int32 → tw_T → Prop) (EX : tw_T → Int32 → Prop) : Nat → tw_T → Int32 → Prop
  | 0, _, _ => False
  | n + 1, τ, u5 => ∃ o1 : Nat, gR τ 0 p0 47 = some o1 ∧ (vp_in u5 6 ∧ ((((gI τ 147 o1 u5.toNatClampNeg) = ((-1 : Int32)) → (EX τ u5)) ∧ (¬ (gI τ 147 o1 u5.toNatClampNeg) = ((-1 : Int32)) → (∃ o4 : Nat, gR τ 0 p0 43 = some o4 ∧ (∃ o5 : Nat, gR τ 0 p0 48 = some o5 ∧ (vp_in u5 6 ∧ (vp_in ((((6 : Int32)) * (gI τ 148 o5 u5.toNatClampNeg)) + u5) 360 ∧ (vp_in ((((6 : Int32)) * (gI τ 148 o5 u5.toNatClampNeg)) + u5) 360 ∧ (∀ τ9 : tw_T, τ9 = sI τ 143 o4 ((((6 : Int32)) * (gI τ 148 o5 u5.toNatClampNeg)) + u5).toNatClampNeg ((gI τ 143 o4 ((((6 : Int32)) * (gI τ 148 o5 u5.toNatClampNeg)) + u5).toNatClampNeg) + ((1 : Int32))) → (∃ o10 : Nat, gR τ9 0 p0 43 = some o10 ∧ (∃ o11 : Nat, gR τ9 0 p0 48 = some o11 ∧ (vp_in u5 6 ∧ (∃ o13 : Nat, gR τ9 0 p0 47 = some o13 ∧ (vp_in u5 6 ∧ (vp_in ((((6 : Int32)) * (gI τ9 148 o11 u5.toNatClampNeg)) + (gI τ9 147 o13 u5.toNatClampNeg)) 360 ∧ (vp_in ((((6 : Int32)) * (gI τ9 148 o11 u5.toNatClampNeg)) + (gI τ9 147 o13 u5.toNatClampNeg)) 360 ∧ (∀ τ17 : tw_T, τ17 = sI τ9 143 o10 ((((6 : Int32)) * (gI τ9 148 o11 u5.toNatClampNeg)) + (gI τ9 147 o13 u5.toNatClampNeg)).toNatClampNeg ((gI τ9 143 o10 ((((6 : Int32)) * (gI τ9 148 o11 u5.toNatClampNeg)) + (gI τ9 147 o13 u5.toNatClampNeg)).toNatClampNeg) - ((1 : Int32))) → (∃ o18 : Nat, gR τ17 0 p0 47 = some o18 ∧ (vp_in u5 6 ∧ (∀ z20 : Int32, z20 = gI τ17 147 o18 u5.toNatClampNeg → (L_X10_plan_149 p0 u1 u3 Q EX n τ17 z20))))))))))))))))))))))
def L_X10_plan_118 (p0 : Nat) (u1 : Int32) (Q : Int32 → tw_T → Prop) (EX : tw_T → Int32 → Int32 → Prop) : Nat → tw_T → Int32 → Int32 → Prop
  | 0, _, _, _ => False
  | n + 1, τ, u3, u4 => ((u4 = ((-1 : Int32)) → (EX τ u3 u4)) ∧ (¬ u4 = ((-1 : Int32)) → (∃ o22 : Nat, gR τ 0 p0 46 = some o22 ∧ (vp_in u4 6 ∧ (∀ z24 : Int32, z24 = u3 + (gI τ 146 o22 u4.toNatClampNeg) → (∃ o25 : Nat, gR τ 0 p0 45 = some o25 ∧ (vp_in u4 6 ∧ (vp_in u4 6 ∧ (∀ τ28 : tw_T, τ28 = sI τ 145 o25 u4.toNatClampNeg ((gI τ 145 o25 u4.toNatClampNeg) - ((1 : Int32))) → (∃ n29 : Nat, L_X10_plan_149 p0 u1 z24 Q (fun (τ30 : tw_T) (z31 : Int32) => ∃ o32 : Nat, gR τ30 0 p0 43 = some o32 ∧ (∃ o33 : Nat, gR τ30 0 p0 48 = some o33 ∧ (vp_in z31 6 ∧ (vp_in ((((6 : Int32)) * (gI τ30 148 o33 z31.toNatClampNeg)) + z31) 360 ∧ (vp_in ((((6 : Int32)) * (gI τ30 148 o33 z31.toNatClampNeg)) + z31) 360 ∧ (∀ τ37 : tw_T, τ37 = sI τ30 143 o32 ((((6 : Int32)) * (gI τ30 148 o33 z31.toNatClampNeg)) + z31).toNatClampNeg ((gI τ30 143 o32 ((((6 : Int32)) * (gI τ30 148 o33 z31.toNatClampNeg)) + z31).toNatClampNeg) + ((1 : Int32))) → (∃ o38 : Nat, gR τ37 0 p0 44 = some o38 ∧ (∃ o39 : Nat, gR τ37 0 p0 48 = some o39 ∧ (vp_in z31 6 ∧ (vp_in (gI τ37 148 o39 z31.toNatClampNeg) 60 ∧ (vp_in (gI τ37 148 o39 z31.toNatClampNeg) 60 ∧ (∀ τ43 : tw_T, τ43 = sI τ37 144 o38 (gI τ37 148 o39 z31.toNatClampNeg).toNatClampNeg ((gI τ37 144 o38 (gI τ37 148 o39 z31.toNatClampNeg).toNatClampNeg) - ((1 : Int32))) → (F_X10_bestWay τ43 p0 u1 (fun (r45 : Int32) (τ44 : tw_T) => (L_X10_plan_118 p0 u1 Q EX n τ44 z24 r45))))))))))))))) n29 τ28 u4))))))))))
def L_X10_plan_91 (p0 : Nat) (u1 : Int32) (u2 : Int32) (Q : Int32 → tw_T → Prop) (EX : tw_T → Int32 → Prop) : Nat → tw_T → Int32 → Prop
  | 0, _, _ => False
  | n + 1, τ, u3 => ((u1 ≤ u3 → (EX τ u3)) ∧ (¬ u1 ≤ u3 → (∃ o47 : Nat, gR τ 0 p0 45 = some o47 ∧ (vp_in u3 6 ∧ (∀ τ49 : tw_T, τ49 = sI τ 145 o47 u3.toNatClampNeg u2 → (∀ z50 : Int32, z50 = u3 + (1 : Int32) → (L_X10_plan_91 p0 u1 u2 Q EX n τ49 z50)))))))
def L_X10_plan_64 (p0 : Nat) (u1 : Int32) (u2 : Int32) (Q : Int32 → tw_T → Prop) (EX : tw_T → Int32 → Prop) : Nat → tw_T → Int32 → Prop
  | 0, _, _ => False
  | n + 1, τ, u3 => (((gI τ 0 p0 2) ≤ u3 → (EX τ u3)) ∧ (¬ (gI τ 0 p0 2) ≤ u3 → (∃ o52 : Nat, gR τ 0 p0 44 = some o52 ∧ (F_X10_bottlesOf τ p0 u3 (fun (r54 : Int32) (τ53 : tw_T) => (vp_in u3 60 ∧ (∀ τ56 : tw_T, τ56 = sI τ53 144 o52 u3.toNatClampNeg r54 → (∀ z57 : Int32, z57 = u3 + (1 : Int32) → (L_X10_plan_64 p0 u1 u2 Q EX n τ56 z57)))))))))
def L_X10_plan_42 (p0 : Nat) (u1 : Int32) (u2 : Int32) (Q : Int32 → tw_T → Prop) (EX : tw_T → Int32 → Prop) : Nat → tw_T → Int32 → Prop
  | 0, _, _ => False
  | n + 1, τ, u3 => ((((360 : Int32)) ≤ u3 → (EX τ u3)) ∧ (¬ ((360 : Int32)) ≤ u3 → (∃ o59 : Nat, gR τ 0 p0 43 = some o59 ∧ (vp_in u3 360 ∧ (∀ τ61 : tw_T, τ61 = sI τ 143 o59 u3.toNatClampNeg ((0 : Int32)) → (∀ z62 : Int32, z62 = u3 + (1 : Int32) → (L_X10_plan_42 p0 u1 u2 Q EX n τ61 z62)))))))
def J_X10_plan_31 (τ : tw_T) (p0 : Nat) (u1 : Int32) (u2 : Int32) (y0 : Int32) (q1 : Nat) (Q : Int32 → tw_T → Prop) : Prop := F_X10_may τ q1 y0 ((1 : Int32)) (fun (r64 : Int32) (τ63 : tw_T) => (((¬ r64 = 0 → (∃ n66 : Nat, L_X10_plan_42 p0 u1 u2 Q (fun (τ67 : tw_T) (z68 : Int32) => ∃ n69 : Nat, L_X10_plan_64 p0 u1 u2 Q (fun (τ70 : tw_T) (z71 : Int32) => ∃ n72 : Nat, L_X10_plan_91 p0 u1 u2 Q (fun (τ73 : tw_T) (z74 : Int32) => F_X10_bestWay τ73 p0 u1 (fun (r76 : Int32) (τ75 : tw_T) => (∃ n77 : Nat, L_X10_plan_118 p0 u1 Q (fun (τ78 : tw_T) (z79 : Int32) (z80 : Int32) => Q z79 τ78) n77 τ75 ((0 : Int32)) r76))) n72 τ70 ((0 : Int32))) n69 τ67 ((0 : Int32))) n66 τ63 ((0 : Int32)))) ∧ (r64 = 0 → (Q ((0 : Int32)) τ63)))))
def J_X10_plan_30 (τ : tw_T) (p0 : Nat) (u1 : Int32) (u2 : Int32) (q0 : Nat) (Q : Int32 → tw_T → Prop) : Prop := J_X10_plan_31 τ p0 u1 u2 ((0 : Int32)) q0 Q
def F_X10_plan (τ0 : tw_T) (k0 : Nat) (x1 : Int32) (x2 : Int32) (Q : Int32 → tw_T → Prop) : Prop := ∀ τ81 : tw_T, τ81 = sI τ0 0 k0 0 ((0 : Int32)) → (F_X10_within τ81 x1 ((1 : Int32)) ((6 : Int32)) (fun (r83 : Int32) (τ82 : tw_T) => (((r83 = 0 → (J_X10_plan_30 τ82 k0 x1 x2 k0 Q)) ∧ (¬ r83 = 0 → (F_X10_within τ82 x2 ((0 : Int32)) ((100 : Int32)) (fun (r86 : Int32) (τ85 : tw_T) => (((r86 = 0 → (J_X10_plan_30 τ85 k0 x1 x2 k0 Q)) ∧ (¬ r86 = 0 → (J_X10_plan_31 τ85 k0 x1 x2 ((1 : Int32)) k0 Q)))))))))))
def rmX10_plan : Room := { frames := 2, cells := 0, slots := 0, locals := 52 }
set_option maxHeartbeats 4000000 in
set_option maxRecDepth 100000 in
theorem mX10_plan (l : Launch) (dC : Nat → ClassId) (dI : Nat → Nat → Nat) (ac : Nat → ClassId) (sa : Nat → Nat) (A : Nat → Prop) (ad : Nat → Nat → Nat) (τ0 : tw_T) (k0 : Nat) (x1 : Int32) (x2 : Int32) (Q : Int32 → tw_T → Prop) (hF : F_X10_plan τ0 k0 x1 x2 Q) (hk0 : k0 < gN τ0 0) : Met l yX10_plan wsX10_plan rmX10_plan (va_Pc [.ref (ad 0 k0), .int x1, .int x2] (BM dC dI ac sa A ad τ0)) (va_Qi (fun r (u : tw_T) => Q r u ∧ gN u = gN τ0) (fun u t => PM dC dI ac A ad u t.heap) A) 0 0 A := by
  refine Met.ofW (cc := cX10_plan) (maxL := 6) (ret := (some .int)) (by decide) rfl ?_
  intro p e s m args below meth c s₁ B hml hv
  obtain ⟨rfl, hP, hK, hA, hZ⟩ := hv
  have hx := B.exec
  have hb := B.bytes
  have hr := B.returns
  have hts := atoms_spec (ws := wsX10_plan) B.pre
  have hown : s.vm.findClass RX10 = some m.cls := findClass_of_methodNamed B.named
  have hlocks := B.notSynchronized
  have hS : va_S A s.heap s.heap [] := va_S.rf
  have hN : gN τ0 = gN τ0 := rfl
  have hl := lv_entry ([.ref (ad 0 k0), .int x1, .int x2]) (n := 6) (Nat.le_of_ble_eq_true rfl)
  rw [lg_entry_eq]
  generalize (lg_sl ([.ref (ad 0 k0), .int x1, .int x2]) ++ List.replicate (6 - (lg_sl ([.ref (ad 0 k0), .int x1, .int x2])).length) Slot.unset).toArray = ls at hl ⊢
  have hl : lv_has ls 6 [(0, .ref (ad 0 k0)), (1, .int x1), (2, .int x2)] := hl
  unfold F_X10_plan at hF
  have l118 : ∀ (p0 : Nat) (hp0 : p0 < gN τ0 0) (u1 : Int32) (EX : tw_T → Int32 → Int32 → Prop) (n : Nat) (τ : tw_T) (u3 : Int32) (u4 : Int32) (H : Heap) (locs : List Loc) (ls : Array Slot), L_X10_plan_118 p0 u1 Q EX n τ u3 u4 → PM dC dI ac A ad τ H → gN τ = gN τ0 → va_S A s.heap H locs → lv_has ls 6 [(0, .ref (ad 0 p0)), (1, .int u1), (3, .int u3), (4, .int u4)] → (∀ (τ : tw_T) (u3 : Int32) (u4 : Int32) (H : Heap) (locs : List Loc) (ls : Array Slot), EX τ u3 u4 → PM dC dI ac A ad τ H → gN τ = gN τ0 → va_S A s.heap H locs → lv_has ls 6 [(0, .ref (ad 0 p0)), (1, .int u1), (3, .int u3), (4, .int u4)] → W p l e rmX10_plan s m ([.ref (ad 0 k0), .int x1, .int x2] : List Value).toArray below meth c H locs 0 0 (MQ below (va_Qi (fun r (u : tw_T) => Q r u ∧ gN u = gN τ0) (fun u t => PM dC dI ac A ad u t.heap) A) ([.ref (ad 0 k0), .int x1, .int x2] : List Value).toArray s 0 0 A) (F0 m 269 ls [])) → W p l e rmX10_plan s m ([.ref (ad 0 k0), .int x1, .int x2] : List Value).toArray below meth c H locs 0 0 (MQ below (va_Qi (fun r (u : tw_T) => Q r u ∧ gN u = gN τ0) (fun u t => PM dC dI ac A ad u t.heap) A) ([.ref (ad 0 k0), .int x1, .int x2] : List Value).toArray s 0 0 A) (F0 m 118 ls []) := by
    intro p0 hp0 u1 EX n
    induction n with
    | zero => intro τ u3 u4 H locs ls hF; exact hF.elim
    | succ n ih =>
      intro τ u3 u4 H locs ls hF hP hN hS hl hEX
      rw [L_X10_plan_118] at hF
      have l149 : ∀ (p0 : Nat) (hp0 : p0 < gN τ0 0) (u1 : Int32) (u3 : Int32) (EX : tw_T → Int32 → Prop) (n : Nat) (τ : tw_T) (u5 : Int32) (H : Heap) (locs : List Loc) (ls : Array Slot), L_X10_plan_149 p0 u1 u3 Q EX n τ u5 → PM dC dI ac A ad τ H → gN τ = gN τ0 → va_S A s.heap H locs → lv_has ls 6 [(0, .ref (ad 0 p0)), (1, .int u1), (3, .int u3), (5, .int u5)] → (∀ (τ : tw_T) (u5 : Int32) (H : Heap) (locs : List Loc) (ls : Array Slot), EX τ u5 → PM dC dI ac A ad τ H → gN τ = gN τ0 → va_S A s.heap H locs → lv_has ls 6 [(0, .ref (ad 0 p0)), (1, .int u1), (3, .int u3), (5, .int u5)] → W p l e rmX10_plan s m ([.ref (ad 0 k0), .int x1, .int x2] : List Value).toArray below meth c H locs 0 0 (MQ below (va_Qi (fun r (u : tw_T) => Q r u ∧ gN u = gN τ0) (fun u t => PM dC dI ac A ad u t.heap) A) ([.ref (ad 0 k0), .int x1, .int x2] : List Value).toArray s 0 0 A) (F0 m 221 ls [])) → W p l e rmX10_plan s m ([.ref (ad 0 k0), .int x1, .int x2] : List Value).toArray below meth c H locs 0 0 (MQ below (va_Qi (fun r (u : tw_T) => Q r u ∧ gN u = gN τ0) (fun u t => PM dC dI ac A ad u t.heap) A) ([.ref (ad 0 k0), .int x1, .int x2] : List Value).toArray s 0 0 A) (F0 m 149 ls []) := by
        intro p0 hp0 u1 u3 EX n
        induction n with
        | zero => intro τ u5 H locs ls hF; exact hF.elim
        | succ n ih =>
          intro τ u5 H locs ls hF hP hN hS hl hEX
          rw [L_X10_plan_149] at hF
          refine lv_aload_n hx hb dX10_plan_149 rfl (lv_at hl 0 rfl) ?_
          obtain ⟨o1, eo1, hF⟩ := hF
          have ho1 : o1 < gN τ0 147 := tw_lt (hP.2.2.2 0 p0 47 o1 (by decide) (tw_lt hp0 (congrFun hN 0)) eo1) (congrFun hN 147).symm
          refine tw_get (v := .ref (ad 147 o1)) hx hb hts (by decide +kernel) hown hK hP (by decide) (tw_lt hp0 (congrFun hN 0)) rfl rfl 47 (by decide) (hts (.fieldLink RX10 99 "WineCellarModel" "before" "[I") (by decide +kernel)) (fun _ h9 => h9) (show some (va_rf ((gR τ 0 p0 47).map (ad 147))) = some (.ref (ad 147 o1)) by rw [eo1]; rfl) dX10_plan_150 ?_
          refine lv_iload hx hb dX10_plan_153 (lv_at hl 3 rfl) ?_
          obtain ⟨hi2, hF⟩ := hF
          refine tw_iald hx hb hK hP (by decide) (tw_lt ho1 (congrFun hN 147)) rfl 0 rfl hi2 dX10_plan_155 ?_
          refine lv_iconst (v := (-1)) hx hb dX10_plan_156 (by decide) ?_
          refine lv_icmp_eq (tgt := 221) hx hb dX10_plan_157 (by decide) (fun c3 => ?_) (fun c3 => ?_)
          · have hF := hF.1 c3
            exact hEX τ u5 _ _ _ hF hP hN hS (lv_sub hl [0, 1, 2, 3] rfl)
          · have hF := hF.2 c3
            refine lv_aload_n hx hb dX10_plan_160 rfl (lv_at hl 0 rfl) ?_
            obtain ⟨o4, eo4, hF⟩ := hF
            have ho4 : o4 < gN τ0 143 := tw_lt (hP.2.2.2 0 p0 43 o4 (by decide) (tw_lt hp0 (congrFun hN 0)) eo4) (congrFun hN 143).symm
            refine tw_get (v := .ref (ad 143 o4)) hx hb hts (by decide +kernel) hown hK hP (by decide) (tw_lt hp0 (congrFun hN 0)) rfl rfl 43 (by decide) (hts (.fieldLink RX10 87 "WineCellarModel" "flow" "[I") (by decide +kernel)) (fun _ h9 => h9) (show some (va_rf ((gR τ 0 p0 43).map (ad 143))) = some (.ref (ad 143 o4)) by rw [eo4]; rfl) dX10_plan_161 ?_
            refine lv_bipush (v := 6) hx hb dX10_plan_164 (by decide) ?_
            refine lv_aload_n hx hb dX10_plan_166 rfl (lv_at hl 0 rfl) ?_
            obtain ⟨o5, eo5, hF⟩ := hF
            have ho5 : o5 < gN τ0 148 := tw_lt (hP.2.2.2 0 p0 48 o5 (by decide) (tw_lt hp0 (congrFun hN 0)) eo5) (congrFun hN 148).symm
            refine tw_get (v := .ref (ad 148 o5)) hx hb hts (by decide +kernel) hown hK hP (by decide) (tw_lt hp0 (congrFun hN 0)) rfl rfl 48 (by decide) (hts (.fieldLink RX10 102 "WineCellarModel" "byLot" "[I") (by decide +kernel)) (fun _ h9 => h9) (show some (va_rf ((gR τ 0 p0 48).map (ad 148))) = some (.ref (ad 148 o5)) by rw [eo5]; rfl) dX10_plan_167 ?_
            refine lv_iload hx hb dX10_plan_170 (lv_at hl 3 rfl) ?_
            obtain ⟨hi6, hF⟩ := hF
            refine tw_iald hx hb hK hP (by decide) (tw_lt ho5 (congrFun hN 148)) rfl 0 rfl hi6 dX10_plan_172 ?_
            refine lv_imul hx hb dX10_plan_173 ?_
            refine lv_iload hx hb dX10_plan_174 (lv_at hl 3 rfl) ?_
            refine lv_iadd hx hb dX10_plan_176 ?_
            refine lv_dup2_11 hx hb dX10_plan_177 rfl rfl ?_
            obtain ⟨hi7, hF⟩ := hF
            refine tw_iald hx hb hK hP (by decide) (tw_lt ho4 (congrFun hN 143)) rfl 0 rfl hi7 dX10_plan_178 ?_
            refine lv_iconst (v := 1) hx hb dX10_plan_179 (by decide) ?_
            refine lv_iadd hx hb dX10_plan_180 ?_
            obtain ⟨hi8, hF⟩ := hF
            refine tw_iast hx hb hK hP hS (by decide) (tw_lt ho4 (congrFun hN 143)) rfl 0 rfl hi8 dX10_plan_181 (fun H locs hP hS => ?_)
            obtain ⟨τ9, eτ9⟩ : ∃ y : tw_T, y = sI τ 143 o4 ((((6 : Int32)) * (gI τ 148 o5 u5.toNatClampNeg)) + u5).toNatClampNeg ((gI τ 143 o4 ((((6 : Int32)) * (gI τ 148 o5 u5.toNatClampNeg)) + u5).toNatClampNeg) + ((1 : Int32))) := ⟨_, rfl⟩
            have hF := hF τ9 eτ9
            rw [← eτ9] at hP
            have hN : gN τ9 = gN τ0 := by rw [eτ9]; exact hN
            refine lv_aload_n hx hb dX10_plan_182 rfl (lv_at hl 0 rfl) ?_
            obtain ⟨o10, eo10, hF⟩ := hF
            have ho10 : o10 < gN τ0 143 := tw_lt (hP.2.2.2 0 p0 43 o10 (by decide) (tw_lt hp0 (congrFun hN 0)) eo10) (congrFun hN 143).symm
            refine tw_get (v := .ref (ad 143 o10)) hx hb hts (by decide +kernel) hown hK hP (by decide) (tw_lt hp0 (congrFun hN 0)) rfl rfl 43 (by decide) (hts (.fieldLink RX10 87 "WineCellarModel" "flow" "[I") (by decide +kernel)) (fun _ h9 => h9) (show some (va_rf ((gR τ9 0 p0 43).map (ad 143))) = some (.ref (ad 143 o10)) by rw [eo10]; rfl) dX10_plan_183 ?_
            refine lv_bipush (v := 6) hx hb dX10_plan_186 (by decide) ?_
            refine lv_aload_n hx hb dX10_plan_188 rfl (lv_at hl 0 rfl) ?_
            obtain ⟨o11, eo11, hF⟩ := hF
            have ho11 : o11 < gN τ0 148 := tw_lt (hP.2.2.2 0 p0 48 o11 (by decide) (tw_lt hp0 (congrFun hN 0)) eo11) (congrFun hN 148).symm
            refine tw_get (v := .ref (ad 148 o11)) hx hb hts (by decide +kernel) hown hK hP (by decide) (tw_lt hp0 (congrFun hN 0)) rfl rfl 48 (by decide) (hts (.fieldLink RX10 102 "WineCellarModel" "byLot" "[I") (by decide +kernel)) (fun _ h9 => h9) (show some (va_rf ((gR τ9 0 p0 48).map (ad 148))) = some (.ref (ad 148 o11)) by rw [eo11]; rfl) dX10_plan_189 ?_
            refine lv_iload hx hb dX10_plan_192 (lv_at hl 3 rfl) ?_
            obtain ⟨hi12, hF⟩ := hF
            refine tw_iald hx hb hK hP (by decide) (tw_lt ho11 (congrFun hN 148)) rfl 0 rfl hi12 dX10_plan_194 ?_
            refine lv_imul hx hb dX10_plan_195 ?_
            refine lv_aload_n hx hb dX10_plan_196 rfl (lv_at hl 0 rfl) ?_
            obtain ⟨o13, eo13, hF⟩ := hF
            have ho13 : o13 < gN τ0 147 := tw_lt (hP.2.2.2 0 p0 47 o13 (by decide) (tw_lt hp0 (congrFun hN 0)) eo13) (congrFun hN 147).symm
            refine tw_get (v := .ref (ad 147 o13)) hx hb hts (by decide +kernel) hown hK hP (by decide) (tw_lt hp0 (congrFun hN 0)) rfl rfl 47 (by decide) (hts (.fieldLink RX10 99 "WineCellarModel" "before" "[I") (by decide +kernel)) (fun _ h9 => h9) (show some (va_rf ((gR τ9 0 p0 47).map (ad 147))) = some (.ref (ad 147 o13)) by rw [eo13]; rfl) dX10_plan_197 ?_
            refine lv_iload hx hb dX10_plan_200 (lv_at hl 3 rfl) ?_
            obtain ⟨hi14, hF⟩ := hF
            refine tw_iald hx hb hK hP (by decide) (tw_lt ho13 (congrFun hN 147)) rfl 0 rfl hi14 dX10_plan_202 ?_
            refine lv_iadd hx hb dX10_plan_203 ?_
            refine lv_dup2_11 hx hb dX10_plan_204 rfl rfl ?_
            obtain ⟨hi15, hF⟩ := hF
            refine tw_iald hx hb hK hP (by decide) (tw_lt ho10 (congrFun hN 143)) rfl 0 rfl hi15 dX10_plan_205 ?_
            refine lv_iconst (v := 1) hx hb dX10_plan_206 (by decide) ?_
            refine lv_isub hx hb dX10_plan_207 ?_
            obtain ⟨hi16, hF⟩ := hF
            refine tw_iast hx hb hK hP hS (by decide) (tw_lt ho10 (congrFun hN 143)) rfl 0 rfl hi16 dX10_plan_208 (fun H locs hP hS => ?_)
            obtain ⟨τ17, eτ17⟩ : ∃ y : tw_T, y = sI τ9 143 o10 ((((6 : Int32)) * (gI τ9 148 o11 u5.toNatClampNeg)) + (gI τ9 147 o13 u5.toNatClampNeg)).toNatClampNeg ((gI τ9 143 o10 ((((6 : Int32)) * (gI τ9 148 o11 u5.toNatClampNeg)) + (gI τ9 147 o13 u5.toNatClampNeg)).toNatClampNeg) - ((1 : Int32))) := ⟨_, rfl⟩
            have hF := hF τ17 eτ17
            rw [← eτ17] at hP
            have hN : gN τ17 = gN τ0 := by rw [eτ17]; exact hN
            refine lv_aload_n hx hb dX10_plan_209 rfl (lv_at hl 0 rfl) ?_
            obtain ⟨o18, eo18, hF⟩ := hF
            have ho18 : o18 < gN τ0 147 := tw_lt (hP.2.2.2 0 p0 47 o18 (by decide) (tw_lt hp0 (congrFun hN 0)) eo18) (congrFun hN 147).symm
            refine tw_get (v := .ref (ad 147 o18)) hx hb hts (by decide +kernel) hown hK hP (by decide) (tw_lt hp0 (congrFun hN 0)) rfl rfl 47 (by decide) (hts (.fieldLink RX10 99 "WineCellarModel" "before" "[I") (by decide +kernel)) (fun _ h9 => h9) (show some (va_rf ((gR τ17 0 p0 47).map (ad 147))) = some (.ref (ad 147 o18)) by rw [eo18]; rfl) dX10_plan_210 ?_
            refine lv_iload hx hb dX10_plan_213 (lv_at hl 3 rfl) ?_
            obtain ⟨hi19, hF⟩ := hF
            refine tw_iald hx hb hK hP (by decide) (tw_lt ho18 (congrFun hN 147)) rfl 0 rfl hi19 dX10_plan_215 ?_
            refine lv_topi (fun z20 ez20 => ?_)
            have hF := hF z20 ez20
            refine lv_istore (lv' := [(5, .int z20), (0, .ref (ad 0 p0)), (1, .int u1), (3, .int u3)]) hx hb dX10_plan_216 hl (by decide) rfl (fun ls hl => ?_)
            refine lv_goto (tgt := 149) hx hb dX10_plan_218 (by decide) ?_
            exact ih τ17 z20 _ _ _ hF hP hN hS (lv_sub hl [1, 2, 3, 0] rfl) hEX
      refine lv_iload hx hb dX10_plan_118 (lv_at hl 3 rfl) ?_
      refine lv_iconst (v := (-1)) hx hb dX10_plan_120 (by decide) ?_
      refine lv_icmp_eq (tgt := 269) hx hb dX10_plan_121 (by decide) (fun c21 => ?_) (fun c21 => ?_)
      · have hF := hF.1 c21
        exact hEX τ u3 u4 _ _ _ hF hP hN hS (lv_sub hl [0, 1, 2, 3] rfl)
      · have hF := hF.2 c21
        refine lv_iload_n hx hb dX10_plan_124 rfl (lv_at hl 2 rfl) ?_
        refine lv_aload_n hx hb dX10_plan_125 rfl (lv_at hl 0 rfl) ?_
        obtain ⟨o22, eo22, hF⟩ := hF
        have ho22 : o22 < gN τ0 146 := tw_lt (hP.2.2.2 0 p0 46 o22 (by decide) (tw_lt hp0 (congrFun hN 0)) eo22) (congrFun hN 146).symm
        refine tw_get (v := .ref (ad 146 o22)) hx hb hts (by decide +kernel) hown hK hP (by decide) (tw_lt hp0 (congrFun hN 0)) rfl rfl 46 (by decide) (hts (.fieldLink RX10 96 "WineCellarModel" "gain" "[I") (by decide +kernel)) (fun _ h9 => h9) (show some (va_rf ((gR τ 0 p0 46).map (ad 146))) = some (.ref (ad 146 o22)) by rw [eo22]; rfl) dX10_plan_126 ?_
        refine lv_iload hx hb dX10_plan_129 (lv_at hl 3 rfl) ?_
        obtain ⟨hi23, hF⟩ := hF
        refine tw_iald hx hb hK hP (by decide) (tw_lt ho22 (congrFun hN 146)) rfl 0 rfl hi23 dX10_plan_131 ?_
        refine lv_iadd hx hb dX10_plan_132 ?_
        refine lv_topi (fun z24 ez24 => ?_)
        have hF := hF z24 ez24
        refine lv_istore_n (lv' := [(3, .int z24), (0, .ref (ad 0 p0)), (1, .int u1), (4, .int u4)]) hx hb dX10_plan_133 rfl hl (by decide) rfl (fun ls hl => ?_)
        refine lv_aload_n hx hb dX10_plan_134 rfl (lv_at hl 1 rfl) ?_
        obtain ⟨o25, eo25, hF⟩ := hF
        have ho25 : o25 < gN τ0 145 := tw_lt (hP.2.2.2 0 p0 45 o25 (by decide) (tw_lt hp0 (congrFun hN 0)) eo25) (congrFun hN 145).symm
        refine tw_get (v := .ref (ad 145 o25)) hx hb hts (by decide +kernel) hown hK hP (by decide) (tw_lt hp0 (congrFun hN 0)) rfl rfl 45 (by decide) (hts (.fieldLink RX10 93 "WineCellarModel" "room" "[I") (by decide +kernel)) (fun _ h9 => h9) (show some (va_rf ((gR τ 0 p0 45).map (ad 145))) = some (.ref (ad 145 o25)) by rw [eo25]; rfl) dX10_plan_135 ?_
        refine lv_iload hx hb dX10_plan_138 (lv_at hl 3 rfl) ?_
        refine lv_dup2_11 hx hb dX10_plan_140 rfl rfl ?_
        obtain ⟨hi26, hF⟩ := hF
        refine tw_iald hx hb hK hP (by decide) (tw_lt ho25 (congrFun hN 145)) rfl 0 rfl hi26 dX10_plan_141 ?_
        refine lv_iconst (v := 1) hx hb dX10_plan_142 (by decide) ?_
        refine lv_isub hx hb dX10_plan_143 ?_
        obtain ⟨hi27, hF⟩ := hF
        refine tw_iast hx hb hK hP hS (by decide) (tw_lt ho25 (congrFun hN 145)) rfl 0 rfl hi27 dX10_plan_144 (fun H locs hP hS => ?_)
        obtain ⟨τ28, eτ28⟩ : ∃ y : tw_T, y = sI τ 145 o25 u4.toNatClampNeg ((gI τ 145 o25 u4.toNatClampNeg) - ((1 : Int32))) := ⟨_, rfl⟩
        have hF := hF τ28 eτ28
        rw [← eτ28] at hP
        have hN : gN τ28 = gN τ0 := by rw [eτ28]; exact hN
        refine lv_iload hx hb dX10_plan_145 (lv_at hl 3 rfl) ?_
        refine lv_istore (lv' := [(5, .int u4), (3, .int z24), (0, .ref (ad 0 p0)), (1, .int u1), (4, .int u4)]) hx hb dX10_plan_147 hl (by decide) rfl (fun ls hl => ?_)
        obtain ⟨n29, hF⟩ := hF
        refine l149 p0 hp0 u1 z24 _ n29 τ28 u4 _ _ _ hF hP hN hS (lv_sub hl [2, 3, 1, 0] rfl) ?_
        intro τ30 z31 H locs ls hF hP hN hS hl
        refine lv_aload_n hx hb dX10_plan_221 rfl (lv_at hl 0 rfl) ?_
        obtain ⟨o32, eo32, hF⟩ := hF
        have ho32 : o32 < gN τ0 143 := tw_lt (hP.2.2.2 0 p0 43 o32 (by decide) (tw_lt hp0 (congrFun hN 0)) eo32) (congrFun hN 143).symm
        refine tw_get (v := .ref (ad 143 o32)) hx hb hts (by decide +kernel) hown hK hP (by decide) (tw_lt hp0 (congrFun hN 0)) rfl rfl 43 (by decide) (hts (.fieldLink RX10 87 "WineCellarModel" "flow" "[I") (by decide +kernel)) (fun _ h9 => h9) (show some (va_rf ((gR τ30 0 p0 43).map (ad 143))) = some (.ref (ad 143 o32)) by rw [eo32]; rfl) dX10_plan_222 ?_
        refine lv_bipush (v := 6) hx hb dX10_plan_225 (by decide) ?_
        refine lv_aload_n hx hb dX10_plan_227 rfl (lv_at hl 0 rfl) ?_
        obtain ⟨o33, eo33, hF⟩ := hF
        have ho33 : o33 < gN τ0 148 := tw_lt (hP.2.2.2 0 p0 48 o33 (by decide) (tw_lt hp0 (congrFun hN 0)) eo33) (congrFun hN 148).symm
        refine tw_get (v := .ref (ad 148 o33)) hx hb hts (by decide +kernel) hown hK hP (by decide) (tw_lt hp0 (congrFun hN 0)) rfl rfl 48 (by decide) (hts (.fieldLink RX10 102 "WineCellarModel" "byLot" "[I") (by decide +kernel)) (fun _ h9 => h9) (show some (va_rf ((gR τ30 0 p0 48).map (ad 148))) = some (.ref (ad 148 o33)) by rw [eo33]; rfl) dX10_plan_228 ?_
        refine lv_iload hx hb dX10_plan_231 (lv_at hl 3 rfl) ?_
        obtain ⟨hi34, hF⟩ := hF
        refine tw_iald hx hb hK hP (by decide) (tw_lt ho33 (congrFun hN 148)) rfl 0 rfl hi34 dX10_plan_233 ?_
        refine lv_imul hx hb dX10_plan_234 ?_
        refine lv_iload hx hb dX10_plan_235 (lv_at hl 3 rfl) ?_
        refine lv_iadd hx hb dX10_plan_237 ?_
        refine lv_dup2_11 hx hb dX10_plan_238 rfl rfl ?_
        obtain ⟨hi35, hF⟩ := hF
        refine tw_iald hx hb hK hP (by decide) (tw_lt ho32 (congrFun hN 143)) rfl 0 rfl hi35 dX10_plan_239 ?_
        refine lv_iconst (v := 1) hx hb dX10_plan_240 (by decide) ?_
        refine lv_iadd hx hb dX10_plan_241 ?_
        obtain ⟨hi36, hF⟩ := hF
        refine tw_iast hx hb hK hP hS (by decide) (tw_lt ho32 (congrFun hN 143)) rfl 0 rfl hi36 dX10_plan_242 (fun H locs hP hS => ?_)
        obtain ⟨τ37, eτ37⟩ : ∃ y : tw_T, y = sI τ30 143 o32 ((((6 : Int32)) * (gI τ30 148 o33 z31.toNatClampNeg)) + z31).toNatClampNeg ((gI τ30 143 o32 ((((6 : Int32)) * (gI τ30 148 o33 z31.toNatClampNeg)) + z31).toNatClampNeg) + ((1 : Int32))) := ⟨_, rfl⟩
        have hF := hF τ37 eτ37
        rw [← eτ37] at hP
        have hN : gN τ37 = gN τ0 := by rw [eτ37]; exact hN
        refine lv_aload_n hx hb dX10_plan_243 rfl (lv_at hl 0 rfl) ?_
        obtain ⟨o38, eo38, hF⟩ := hF
        have ho38 : o38 < gN τ0 144 := tw_lt (hP.2.2.2 0 p0 44 o38 (by decide) (tw_lt hp0 (congrFun hN 0)) eo38) (congrFun hN 144).symm
        refine tw_get (v := .ref (ad 144 o38)) hx hb hts (by decide +kernel) hown hK hP (by decide) (tw_lt hp0 (congrFun hN 0)) rfl rfl 44 (by decide) (hts (.fieldLink RX10 90 "WineCellarModel" "left" "[I") (by decide +kernel)) (fun _ h9 => h9) (show some (va_rf ((gR τ37 0 p0 44).map (ad 144))) = some (.ref (ad 144 o38)) by rw [eo38]; rfl) dX10_plan_244 ?_
        refine lv_aload_n hx hb dX10_plan_247 rfl (lv_at hl 0 rfl) ?_
        obtain ⟨o39, eo39, hF⟩ := hF
        have ho39 : o39 < gN τ0 148 := tw_lt (hP.2.2.2 0 p0 48 o39 (by decide) (tw_lt hp0 (congrFun hN 0)) eo39) (congrFun hN 148).symm
        refine tw_get (v := .ref (ad 148 o39)) hx hb hts (by decide +kernel) hown hK hP (by decide) (tw_lt hp0 (congrFun hN 0)) rfl rfl 48 (by decide) (hts (.fieldLink RX10 102 "WineCellarModel" "byLot" "[I") (by decide +kernel)) (fun _ h9 => h9) (show some (va_rf ((gR τ37 0 p0 48).map (ad 148))) = some (.ref (ad 148 o39)) by rw [eo39]; rfl) dX10_plan_248 ?_
        refine lv_iload hx hb dX10_plan_251 (lv_at hl 3 rfl) ?_
        obtain ⟨hi40, hF⟩ := hF
        refine tw_iald hx hb hK hP (by decide) (tw_lt ho39 (congrFun hN 148)) rfl 0 rfl hi40 dX10_plan_253 ?_
        refine lv_dup2_11 hx hb dX10_plan_254 rfl rfl ?_
        obtain ⟨hi41, hF⟩ := hF
        refine tw_iald hx hb hK hP (by decide) (tw_lt ho38 (congrFun hN 144)) rfl 0 rfl hi41 dX10_plan_255 ?_
        refine lv_iconst (v := 1) hx hb dX10_plan_256 (by decide) ?_
        refine lv_isub hx hb dX10_plan_257 ?_
        obtain ⟨hi42, hF⟩ := hF
        refine tw_iast hx hb hK hP hS (by decide) (tw_lt ho38 (congrFun hN 144)) rfl 0 rfl hi42 dX10_plan_258 (fun H locs hP hS => ?_)
        obtain ⟨τ43, eτ43⟩ : ∃ y : tw_T, y = sI τ37 144 o38 (gI τ37 148 o39 z31.toNatClampNeg).toNatClampNeg ((gI τ37 144 o38 (gI τ37 148 o39 z31.toNatClampNeg).toNatClampNeg) - ((1 : Int32))) := ⟨_, rfl⟩
        have hF := hF τ43 eτ43
        rw [← eτ43] at hP
        have hN : gN τ43 = gN τ0 := by rw [eτ43]; exact hN
        refine lv_aload_n hx hb dX10_plan_259 rfl (lv_at hl 0 rfl) ?_
        refine lv_iload_n hx hb dX10_plan_260 rfl (lv_at hl 1 rfl) ?_
        refine va_calli (va_runV (As := [.int u1]) (rest := []) ⟨hx, hb, hml, hown, hts⟩ (mX10_bestWay l dC dI ac sa A ad τ43 p0 u1 _ hF (tw_lt hp0 (congrFun hN 0))) (cwV 1 hts gX10_plan_X10_bestWay rfl rfl rfl (by decide +kernel) ⟨Nat.le_of_ble_eq_true rfl, Nat.le_of_ble_eq_true rfl⟩) ⟨BM.blind, tw_recv hK hP (by decide) (tw_lt hp0 (congrFun hN 0)) rfl rfl, fun U hU hW => ⟨rfl, BM.of hP hK hS hA hZ hU hW⟩⟩ rfl rfl hl.1 rfl (lv_room (Nat.le_of_ble_eq_true rfl)) dX10_plan_261 ⟨Nat.le_of_ble_eq_true rfl, Nat.le_of_ble_eq_true rfl⟩) hS (fun q _ h => h) (fun q h => h) (fun r45 τ44 t H locs ht hvm hw hB hz hk hS => ?_)
        obtain ⟨hF, hN9⟩ := hw
        have hP : PM dC dI ac A ad τ44 H := tw_back hB ht
        have hN : gN τ44 = gN τ0 := hN9.trans hN
        refine lv_istore (lv' := [(4, .int r45), (0, .ref (ad 0 p0)), (1, .int u1), (3, .int z24), (5, .int z31)]) hx hb dX10_plan_264 hl (by decide) rfl (fun ls hl => ?_)
        refine lv_goto (tgt := 118) hx hb dX10_plan_266 (by decide) ?_
        exact ih τ44 z24 r45 _ _ _ hF hP hN hS (lv_sub hl [1, 2, 3, 0] rfl) hEX
  have l91 : ∀ (p0 : Nat) (hp0 : p0 < gN τ0 0) (u1 : Int32) (u2 : Int32) (EX : tw_T → Int32 → Prop) (n : Nat) (τ : tw_T) (u3 : Int32) (H : Heap) (locs : List Loc) (ls : Array Slot), L_X10_plan_91 p0 u1 u2 Q EX n τ u3 → PM dC dI ac A ad τ H → gN τ = gN τ0 → va_S A s.heap H locs → lv_has ls 6 [(0, .ref (ad 0 p0)), (1, .int u1), (2, .int u2), (3, .int u3)] → (∀ (τ : tw_T) (u3 : Int32) (H : Heap) (locs : List Loc) (ls : Array Slot), EX τ u3 → PM dC dI ac A ad τ H → gN τ = gN τ0 → va_S A s.heap H locs → lv_has ls 6 [(0, .ref (ad 0 p0)), (1, .int u1), (2, .int u2), (3, .int u3)] → W p l e rmX10_plan s m ([.ref (ad 0 k0), .int x1, .int x2] : List Value).toArray below meth c H locs 0 0 (MQ below (va_Qi (fun r (u : tw_T) => Q r u ∧ gN u = gN τ0) (fun u t => PM dC dI ac A ad u t.heap) A) ([.ref (ad 0 k0), .int x1, .int x2] : List Value).toArray s 0 0 A) (F0 m 109 ls [])) → W p l e rmX10_plan s m ([.ref (ad 0 k0), .int x1, .int x2] : List Value).toArray below meth c H locs 0 0 (MQ below (va_Qi (fun r (u : tw_T) => Q r u ∧ gN u = gN τ0) (fun u t => PM dC dI ac A ad u t.heap) A) ([.ref (ad 0 k0), .int x1, .int x2] : List Value).toArray s 0 0 A) (F0 m 91 ls []) := by
    intro p0 hp0 u1 u2 EX n
    induction n with
    | zero => intro τ u3 H locs ls hF; exact hF.elim
    | succ n ih =>
      intro τ u3 H locs ls hF hP hN hS hl hEX
      rw [L_X10_plan_91] at hF
      refine lv_iload_n hx hb dX10_plan_91 rfl (lv_at hl 3 rfl) ?_
      refine lv_iload_n hx hb dX10_plan_92 rfl (lv_at hl 1 rfl) ?_
      refine lv_icmp_ge (tgt := 109) hx hb dX10_plan_93 (by decide) (fun c46 => ?_) (fun c46 => ?_)
      · have hF := hF.1 c46
        exact hEX τ u3 _ _ _ hF hP hN hS (lv_sub hl [0, 1, 2, 3] rfl)
      · have hF := hF.2 c46
        refine lv_aload_n hx hb dX10_plan_96 rfl (lv_at hl 0 rfl) ?_
        obtain ⟨o47, eo47, hF⟩ := hF
        have ho47 : o47 < gN τ0 145 := tw_lt (hP.2.2.2 0 p0 45 o47 (by decide) (tw_lt hp0 (congrFun hN 0)) eo47) (congrFun hN 145).symm
        refine tw_get (v := .ref (ad 145 o47)) hx hb hts (by decide +kernel) hown hK hP (by decide) (tw_lt hp0 (congrFun hN 0)) rfl rfl 45 (by decide) (hts (.fieldLink RX10 93 "WineCellarModel" "room" "[I") (by decide +kernel)) (fun _ h9 => h9) (show some (va_rf ((gR τ 0 p0 45).map (ad 145))) = some (.ref (ad 145 o47)) by rw [eo47]; rfl) dX10_plan_97 ?_
        refine lv_iload_n hx hb dX10_plan_100 rfl (lv_at hl 3 rfl) ?_
        refine lv_iload_n hx hb dX10_plan_101 rfl (lv_at hl 2 rfl) ?_
        obtain ⟨hi48, hF⟩ := hF
        refine tw_iast hx hb hK hP hS (by decide) (tw_lt ho47 (congrFun hN 145)) rfl 0 rfl hi48 dX10_plan_102 (fun H locs hP hS => ?_)
        obtain ⟨τ49, eτ49⟩ : ∃ y : tw_T, y = sI τ 145 o47 u3.toNatClampNeg u2 := ⟨_, rfl⟩
        have hF := hF τ49 eτ49
        rw [← eτ49] at hP
        have hN : gN τ49 = gN τ0 := by rw [eτ49]; exact hN
        obtain ⟨z50, ez50⟩ : ∃ y : Int32, y = u3 + (1 : Int32) := ⟨_, rfl⟩
        have hF := hF z50 ez50
        refine lv_iinc (v := z50) (lv' := [(3, .int z50), (0, .ref (ad 0 p0)), (1, .int u1), (2, .int u2)]) hx hb dX10_plan_103 hl (k := 3) rfl (by rw [ez50]; rfl) (by decide) rfl (fun ls hl => ?_)
        refine lv_goto (tgt := 91) hx hb dX10_plan_106 (by decide) ?_
        exact ih τ49 z50 _ _ _ hF hP hN hS (lv_sub hl [1, 2, 3, 0] rfl) hEX
  have l64 : ∀ (p0 : Nat) (hp0 : p0 < gN τ0 0) (u1 : Int32) (u2 : Int32) (EX : tw_T → Int32 → Prop) (n : Nat) (τ : tw_T) (u3 : Int32) (H : Heap) (locs : List Loc) (ls : Array Slot), L_X10_plan_64 p0 u1 u2 Q EX n τ u3 → PM dC dI ac A ad τ H → gN τ = gN τ0 → va_S A s.heap H locs → lv_has ls 6 [(0, .ref (ad 0 p0)), (1, .int u1), (2, .int u2), (3, .int u3)] → (∀ (τ : tw_T) (u3 : Int32) (H : Heap) (locs : List Loc) (ls : Array Slot), EX τ u3 → PM dC dI ac A ad τ H → gN τ = gN τ0 → va_S A s.heap H locs → lv_has ls 6 [(0, .ref (ad 0 p0)), (1, .int u1), (2, .int u2), (3, .int u3)] → W p l e rmX10_plan s m ([.ref (ad 0 k0), .int x1, .int x2] : List Value).toArray below meth c H locs 0 0 (MQ below (va_Qi (fun r (u : tw_T) => Q r u ∧ gN u = gN τ0) (fun u t => PM dC dI ac A ad u t.heap) A) ([.ref (ad 0 k0), .int x1, .int x2] : List Value).toArray s 0 0 A) (F0 m 89 ls [])) → W p l e rmX10_plan s m ([.ref (ad 0 k0), .int x1, .int x2] : List Value).toArray below meth c H locs 0 0 (MQ below (va_Qi (fun r (u : tw_T) => Q r u ∧ gN u = gN τ0) (fun u t => PM dC dI ac A ad u t.heap) A) ([.ref (ad 0 k0), .int x1, .int x2] : List Value).toArray s 0 0 A) (F0 m 64 ls []) := by
    intro p0 hp0 u1 u2 EX n
    induction n with
    | zero => intro τ u3 H locs ls hF; exact hF.elim
    | succ n ih =>
      intro τ u3 H locs ls hF hP hN hS hl hEX
      rw [L_X10_plan_64] at hF
      refine lv_iload_n hx hb dX10_plan_64 rfl (lv_at hl 3 rfl) ?_
      refine lv_aload_n hx hb dX10_plan_65 rfl (lv_at hl 0 rfl) ?_
      refine tw_get (v := .int (gI τ 0 p0 2)) hx hb hts (by decide +kernel) hown hK hP (by decide) (tw_lt hp0 (congrFun hN 0)) rfl rfl 2 (by decide) (hts (.fieldLink RX10 119 "WineCellarModel" "lots" "I") (by decide +kernel)) (fun _ h9 => h9) rfl dX10_plan_66 ?_
      refine lv_icmp_ge (tgt := 89) hx hb dX10_plan_69 (by decide) (fun c51 => ?_) (fun c51 => ?_)
      · have hF := hF.1 c51
        exact hEX τ u3 _ _ _ hF hP hN hS (lv_sub hl [0, 1, 2, 3] rfl)
      · have hF := hF.2 c51
        refine lv_aload_n hx hb dX10_plan_72 rfl (lv_at hl 0 rfl) ?_
        obtain ⟨o52, eo52, hF⟩ := hF
        have ho52 : o52 < gN τ0 144 := tw_lt (hP.2.2.2 0 p0 44 o52 (by decide) (tw_lt hp0 (congrFun hN 0)) eo52) (congrFun hN 144).symm
        refine tw_get (v := .ref (ad 144 o52)) hx hb hts (by decide +kernel) hown hK hP (by decide) (tw_lt hp0 (congrFun hN 0)) rfl rfl 44 (by decide) (hts (.fieldLink RX10 90 "WineCellarModel" "left" "[I") (by decide +kernel)) (fun _ h9 => h9) (show some (va_rf ((gR τ 0 p0 44).map (ad 144))) = some (.ref (ad 144 o52)) by rw [eo52]; rfl) dX10_plan_73 ?_
        refine lv_iload_n hx hb dX10_plan_76 rfl (lv_at hl 3 rfl) ?_
        refine lv_aload_n hx hb dX10_plan_77 rfl (lv_at hl 0 rfl) ?_
        refine lv_iload_n hx hb dX10_plan_78 rfl (lv_at hl 3 rfl) ?_
        refine va_calli (va_runV (As := [.int u3]) (rest := [.int u3, .ref (ad 144 o52)]) ⟨hx, hb, hml, hown, hts⟩ (mX10_bottlesOf l dC dI ac sa A ad τ p0 u3 _ hF (tw_lt hp0 (congrFun hN 0))) (cwV 1 hts gX10_plan_X10_bottlesOf rfl rfl rfl (by decide +kernel) ⟨Nat.le_of_ble_eq_true rfl, Nat.le_of_ble_eq_true rfl⟩) ⟨BM.blind, tw_recv hK hP (by decide) (tw_lt hp0 (congrFun hN 0)) rfl rfl, fun U hU hW => ⟨rfl, BM.of hP hK hS hA hZ hU hW⟩⟩ rfl rfl hl.1 rfl (lv_room (Nat.le_of_ble_eq_true rfl)) dX10_plan_79 ⟨Nat.le_of_ble_eq_true rfl, Nat.le_of_ble_eq_true rfl⟩) hS (fun q _ h => h) (fun q h => h) (fun r54 τ53 t H locs ht hvm hw hB hz hk hS => ?_)
        obtain ⟨hF, hN9⟩ := hw
        have hP : PM dC dI ac A ad τ53 H := tw_back hB ht
        have hN : gN τ53 = gN τ0 := hN9.trans hN
        obtain ⟨hi55, hF⟩ := hF
        refine tw_iast hx hb hK hP hS (by decide) (tw_lt ho52 (congrFun hN 144)) rfl 0 rfl hi55 dX10_plan_82 (fun H locs hP hS => ?_)
        obtain ⟨τ56, eτ56⟩ : ∃ y : tw_T, y = sI τ53 144 o52 u3.toNatClampNeg r54 := ⟨_, rfl⟩
        have hF := hF τ56 eτ56
        rw [← eτ56] at hP
        have hN : gN τ56 = gN τ0 := by rw [eτ56]; exact hN
        obtain ⟨z57, ez57⟩ : ∃ y : Int32, y = u3 + (1 : Int32) := ⟨_, rfl⟩
        have hF := hF z57 ez57
        refine lv_iinc (v := z57) (lv' := [(3, .int z57), (0, .ref (ad 0 p0)), (1, .int u1), (2, .int u2)]) hx hb dX10_plan_83 hl (k := 3) rfl (by rw [ez57]; rfl) (by decide) rfl (fun ls hl => ?_)
        refine lv_goto (tgt := 64) hx hb dX10_plan_86 (by decide) ?_
        exact ih τ56 z57 _ _ _ hF hP hN hS (lv_sub hl [1, 2, 3, 0] rfl) hEX
  have l42 : ∀ (p0 : Nat) (hp0 : p0 < gN τ0 0) (u1 : Int32) (u2 : Int32) (EX : tw_T → Int32 → Prop) (n : Nat) (τ : tw_T) (u3 : Int32) (H : Heap) (locs : List Loc) (ls : Array Slot), L_X10_plan_42 p0 u1 u2 Q EX n τ u3 → PM dC dI ac A ad τ H → gN τ = gN τ0 → va_S A s.heap H locs → lv_has ls 6 [(0, .ref (ad 0 p0)), (1, .int u1), (2, .int u2), (3, .int u3)] → (∀ (τ : tw_T) (u3 : Int32) (H : Heap) (locs : List Loc) (ls : Array Slot), EX τ u3 → PM dC dI ac A ad τ H → gN τ = gN τ0 → va_S A s.heap H locs → lv_has ls 6 [(0, .ref (ad 0 p0)), (1, .int u1), (2, .int u2), (3, .int u3)] → W p l e rmX10_plan s m ([.ref (ad 0 k0), .int x1, .int x2] : List Value).toArray below meth c H locs 0 0 (MQ below (va_Qi (fun r (u : tw_T) => Q r u ∧ gN u = gN τ0) (fun u t => PM dC dI ac A ad u t.heap) A) ([.ref (ad 0 k0), .int x1, .int x2] : List Value).toArray s 0 0 A) (F0 m 62 ls [])) → W p l e rmX10_plan s m ([.ref (ad 0 k0), .int x1, .int x2] : List Value).toArray below meth c H locs 0 0 (MQ below (va_Qi (fun r (u : tw_T) => Q r u ∧ gN u = gN τ0) (fun u t => PM dC dI ac A ad u t.heap) A) ([.ref (ad 0 k0), .int x1, .int x2] : List Value).toArray s 0 0 A) (F0 m 42 ls []) := by
    intro p0 hp0 u1 u2 EX n
    induction n with
    | zero => intro τ u3 H locs ls hF; exact hF.elim
    | succ n ih =>
      intro τ u3 H locs ls hF hP hN hS hl hEX
      rw [L_X10_plan_42] at hF
      refine lv_iload_n hx hb dX10_plan_42 rfl (lv_at hl 3 rfl) ?_
      refine lv_sipush (v := 360) hx hb dX10_plan_43 (by decide) ?_
      refine lv_icmp_ge (tgt := 62) hx hb dX10_plan_46 (by decide) (fun c58 => ?_) (fun c58 => ?_)
      · have hF := hF.1 c58
        exact hEX τ u3 _ _ _ hF hP hN hS (lv_sub hl [0, 1, 2, 3] rfl)
      · have hF := hF.2 c58
        refine lv_aload_n hx hb dX10_plan_49 rfl (lv_at hl 0 rfl) ?_
        obtain ⟨o59, eo59, hF⟩ := hF
        have ho59 : o59 < gN τ0 143 := tw_lt (hP.2.2.2 0 p0 43 o59 (by decide) (tw_lt hp0 (congrFun hN 0)) eo59) (congrFun hN 143).symm
        refine tw_get (v := .ref (ad 143 o59)) hx hb hts (by decide +kernel) hown hK hP (by decide) (tw_lt hp0 (congrFun hN 0)) rfl rfl 43 (by decide) (hts (.fieldLink RX10 87 "WineCellarModel" "flow" "[I") (by decide +kernel)) (fun _ h9 => h9) (show some (va_rf ((gR τ 0 p0 43).map (ad 143))) = some (.ref (ad 143 o59)) by rw [eo59]; rfl) dX10_plan_50 ?_
        refine lv_iload_n hx hb dX10_plan_53 rfl (lv_at hl 3 rfl) ?_
        refine lv_iconst (v := 0) hx hb dX10_plan_54 (by decide) ?_
        obtain ⟨hi60, hF⟩ := hF
        refine tw_iast hx hb hK hP hS (by decide) (tw_lt ho59 (congrFun hN 143)) rfl 0 rfl hi60 dX10_plan_55 (fun H locs hP hS => ?_)
        obtain ⟨τ61, eτ61⟩ : ∃ y : tw_T, y = sI τ 143 o59 u3.toNatClampNeg ((0 : Int32)) := ⟨_, rfl⟩
        have hF := hF τ61 eτ61
        rw [← eτ61] at hP
        have hN : gN τ61 = gN τ0 := by rw [eτ61]; exact hN
        obtain ⟨z62, ez62⟩ : ∃ y : Int32, y = u3 + (1 : Int32) := ⟨_, rfl⟩
        have hF := hF z62 ez62
        refine lv_iinc (v := z62) (lv' := [(3, .int z62), (0, .ref (ad 0 p0)), (1, .int u1), (2, .int u2)]) hx hb dX10_plan_56 hl (k := 3) rfl (by rw [ez62]; rfl) (by decide) rfl (fun ls hl => ?_)
        refine lv_goto (tgt := 42) hx hb dX10_plan_59 (by decide) ?_
        exact ih τ61 z62 _ _ _ hF hP hN hS (lv_sub hl [1, 2, 3, 0] rfl) hEX
  have j31 : ∀ (τ : tw_T) (p0 : Nat) (hp0 : p0 < gN τ0 0) (u1 : Int32) (u2 : Int32) (y0 : Int32) (q1 : Nat) (hq1 : q1 < gN τ0 0) (H : Heap) (locs : List Loc) (ls : Array Slot), J_X10_plan_31 τ p0 u1 u2 y0 q1 Q → PM dC dI ac A ad τ H → gN τ = gN τ0 → va_S A s.heap H locs → lv_has ls 6 [(0, .ref (ad 0 p0)), (1, .int u1), (2, .int u2)] → W p l e rmX10_plan s m ([.ref (ad 0 k0), .int x1, .int x2] : List Value).toArray below meth c H locs 0 0 (MQ below (va_Qi (fun r (u : tw_T) => Q r u ∧ gN u = gN τ0) (fun u t => PM dC dI ac A ad u t.heap) A) ([.ref (ad 0 k0), .int x1, .int x2] : List Value).toArray s 0 0 A) (F0 m 31 ls [.int y0, .ref (ad 0 q1)]) := by
    intro τ p0 hp0 u1 u2 y0 q1 hq1 H locs ls hF hP hN hS hl
    unfold J_X10_plan_31 at hF
    refine lv_iconst (v := 1) hx hb dX10_plan_31 (by decide) ?_
    refine va_calli (va_runV (As := [.int y0, .int ((1 : Int32))]) (rest := []) ⟨hx, hb, hml, hown, hts⟩ (mX10_may l dC dI ac sa A ad τ q1 y0 ((1 : Int32)) _ hF (tw_lt hq1 (congrFun hN 0))) (cwV 2 hts gX10_plan_X10_may rfl rfl rfl (by decide +kernel) ⟨Nat.le_of_ble_eq_true rfl, Nat.le_of_ble_eq_true rfl⟩) ⟨BM.blind, tw_recv hK hP (by decide) (tw_lt hq1 (congrFun hN 0)) rfl rfl, fun U hU hW => ⟨rfl, BM.of hP hK hS hA hZ hU hW⟩⟩ rfl rfl hl.1 rfl (lv_room (Nat.le_of_ble_eq_true rfl)) dX10_plan_32 ⟨Nat.le_of_ble_eq_true rfl, Nat.le_of_ble_eq_true rfl⟩) hS (fun q _ h => h) (fun q h => h) (fun r64 τ63 t H locs ht hvm hw hB hz hk hS => ?_)
    obtain ⟨hF, hN9⟩ := hw
    have hP : PM dC dI ac A ad τ63 H := tw_back hB ht
    have hN : gN τ63 = gN τ0 := hN9.trans hN
    refine lv_if_ne (tgt := 40) hx hb dX10_plan_35 (by decide) (fun c65 => ?_) (fun c65 => ?_)
    · have hF := hF.1 c65
      refine lv_iconst (v := 0) hx hb dX10_plan_40 (by decide) ?_
      refine lv_istore_n (lv' := [(3, .int ((0 : Int32))), (0, .ref (ad 0 p0)), (1, .int u1), (2, .int u2)]) hx hb dX10_plan_41 rfl hl (by decide) rfl (fun ls hl => ?_)
      obtain ⟨n66, hF⟩ := hF
      refine l42 p0 hp0 u1 u2 _ n66 τ63 ((0 : Int32)) _ _ _ hF hP hN hS (lv_sub hl [1, 2, 3, 0] rfl) ?_
      intro τ67 z68 H locs ls hF hP hN hS hl
      refine lv_iconst (v := 0) hx hb dX10_plan_62 (by decide) ?_
      refine lv_istore_n (lv' := [(3, .int ((0 : Int32))), (0, .ref (ad 0 p0)), (1, .int u1), (2, .int u2)]) hx hb dX10_plan_63 rfl hl (by decide) rfl (fun ls hl => ?_)
      obtain ⟨n69, hF⟩ := hF
      refine l64 p0 hp0 u1 u2 _ n69 τ67 ((0 : Int32)) _ _ _ hF hP hN hS (lv_sub hl [1, 2, 3, 0] rfl) ?_
      intro τ70 z71 H locs ls hF hP hN hS hl
      refine lv_iconst (v := 0) hx hb dX10_plan_89 (by decide) ?_
      refine lv_istore_n (lv' := [(3, .int ((0 : Int32))), (0, .ref (ad 0 p0)), (1, .int u1), (2, .int u2)]) hx hb dX10_plan_90 rfl hl (by decide) rfl (fun ls hl => ?_)
      obtain ⟨n72, hF⟩ := hF
      refine l91 p0 hp0 u1 u2 _ n72 τ70 ((0 : Int32)) _ _ _ hF hP hN hS (lv_sub hl [1, 2, 3, 0] rfl) ?_
      intro τ73 z74 H locs ls hF hP hN hS hl
      refine lv_iconst (v := 0) hx hb dX10_plan_109 (by decide) ?_
      refine lv_istore_n (lv' := [(3, .int ((0 : Int32))), (0, .ref (ad 0 p0)), (1, .int u1), (2, .int u2)]) hx hb dX10_plan_110 rfl hl (by decide) rfl (fun ls hl => ?_)
      refine lv_aload_n hx hb dX10_plan_111 rfl (lv_at hl 1 rfl) ?_
      refine lv_iload_n hx hb dX10_plan_112 rfl (lv_at hl 2 rfl) ?_
      refine va_calli (va_runV (As := [.int u1]) (rest := []) ⟨hx, hb, hml, hown, hts⟩ (mX10_bestWay l dC dI ac sa A ad τ73 p0 u1 _ hF (tw_lt hp0 (congrFun hN 0))) (cwV 1 hts gX10_plan_X10_bestWay rfl rfl rfl (by decide +kernel) ⟨Nat.le_of_ble_eq_true rfl, Nat.le_of_ble_eq_true rfl⟩) ⟨BM.blind, tw_recv hK hP (by decide) (tw_lt hp0 (congrFun hN 0)) rfl rfl, fun U hU hW => ⟨rfl, BM.of hP hK hS hA hZ hU hW⟩⟩ rfl rfl hl.1 rfl (lv_room (Nat.le_of_ble_eq_true rfl)) dX10_plan_113 ⟨Nat.le_of_ble_eq_true rfl, Nat.le_of_ble_eq_true rfl⟩) hS (fun q _ h => h) (fun q h => h) (fun r76 τ75 t H locs ht hvm hw hB hz hk hS => ?_)
      obtain ⟨hF, hN9⟩ := hw
      have hP : PM dC dI ac A ad τ75 H := tw_back hB ht
      have hN : gN τ75 = gN τ0 := hN9.trans hN
      refine lv_istore (lv' := [(4, .int r76), (3, .int ((0 : Int32))), (0, .ref (ad 0 p0)), (1, .int u1), (2, .int u2)]) hx hb dX10_plan_116 hl (by decide) rfl (fun ls hl => ?_)
      obtain ⟨n77, hF⟩ := hF
      refine l118 p0 hp0 u1 _ n77 τ75 ((0 : Int32)) r76 _ _ _ hF hP hN hS (lv_sub hl [2, 3, 1, 0] rfl) ?_
      intro τ78 z79 z80 H locs ls hF hP hN hS hl
      refine lv_iload_n hx hb dX10_plan_269 rfl (lv_at hl 2 rfl) ?_
      exact W.iret (v := z79) hx hb hr (fun t ht hW => ⟨⟨z79, τ78, rfl, ⟨hF, hN⟩, tw_at hP ht⟩, hS.F ht⟩) hS.2.2 dX10_plan_270
    · have hF := hF.2 c65
      refine lv_iconst (v := 0) hx hb dX10_plan_38 (by decide) ?_
      exact W.iret (v := (0 : Int32)) hx hb hr (fun t ht hW => ⟨⟨((0 : Int32)), τ63, rfl, ⟨hF, hN⟩, tw_at hP ht⟩, hS.F ht⟩) hS.2.2 dX10_plan_39
  have j30 : ∀ (τ : tw_T) (p0 : Nat) (hp0 : p0 < gN τ0 0) (u1 : Int32) (u2 : Int32) (q0 : Nat) (hq0 : q0 < gN τ0 0) (H : Heap) (locs : List Loc) (ls : Array Slot), J_X10_plan_30 τ p0 u1 u2 q0 Q → PM dC dI ac A ad τ H → gN τ = gN τ0 → va_S A s.heap H locs → lv_has ls 6 [(0, .ref (ad 0 p0)), (1, .int u1), (2, .int u2)] → W p l e rmX10_plan s m ([.ref (ad 0 k0), .int x1, .int x2] : List Value).toArray below meth c H locs 0 0 (MQ below (va_Qi (fun r (u : tw_T) => Q r u ∧ gN u = gN τ0) (fun u t => PM dC dI ac A ad u t.heap) A) ([.ref (ad 0 k0), .int x1, .int x2] : List Value).toArray s 0 0 A) (F0 m 30 ls [.ref (ad 0 q0)]) := by
    intro τ p0 hp0 u1 u2 q0 hq0 H locs ls hF hP hN hS hl
    unfold J_X10_plan_30 at hF
    refine lv_iconst (v := 0) hx hb dX10_plan_30 (by decide) ?_
    exact j31 τ p0 hp0 u1 u2 ((0 : Int32)) q0 hq0 _ _ _ hF hP hN hS (lv_sub hl [0, 1, 2] rfl)
  refine lv_aload_n hx hb dX10_plan_0 rfl (lv_at hl 0 rfl) ?_
  refine lv_iconst (v := 0) hx hb dX10_plan_1 (by decide) ?_
  refine tw_put (τ' := sI τ0 0 k0 0 ((0 : Int32))) (ty := .int) hx hb hts (by decide +kernel) tyX10 tyX10_ok nmX10 hown hK hP hS (by decide) hk0 rfl rfl 0 (by decide) (hts (.fieldLink RX10 1 "WineCellarModel" "thrown" "I") (by decide +kernel)) (fun _ h9 => h9) rfl (by decide +kernel) rfl rfl (Nat.le_of_ble_eq_true rfl) dX10_plan_2 (fun H1 ha ho => tw_updI hP (by decide) hk0 ha ho) (fun H locs hP hS => ?_)
  obtain ⟨τ81, eτ81⟩ : ∃ y : tw_T, y = sI τ0 0 k0 0 ((0 : Int32)) := ⟨_, rfl⟩
  have hF := hF τ81 eτ81
  rw [← eτ81] at hP
  have hN : gN τ81 = gN τ0 := by rw [eτ81]; exact hN
  refine lv_aload_n hx hb dX10_plan_5 rfl (lv_at hl 0 rfl) ?_
  refine lv_iload_n hx hb dX10_plan_6 rfl (lv_at hl 1 rfl) ?_
  refine lv_iconst (v := 1) hx hb dX10_plan_7 (by decide) ?_
  refine lv_bipush (v := 6) hx hb dX10_plan_8 (by decide) ?_
  refine va_calli (va_runS (As := [.int x1, .int ((1 : Int32)), .int ((6 : Int32))]) (rest := [.ref (ad 0 k0)]) ⟨hx, hb, hml, hown, hts⟩ (mX10_within l dC dI ac sa A ad τ81 x1 ((1 : Int32)) ((6 : Int32)) _ hF ) (va_cwS 3 hts gX10_plan_X10_within rfl rfl rfl (by decide +kernel) ⟨Nat.le_of_ble_eq_true rfl, Nat.le_of_ble_eq_true rfl⟩) ⟨BM.blind, fun U hU hW => ⟨rfl, BM.of hP hK hS hA hZ hU hW⟩⟩ rfl rfl hl.1 rfl (lv_room (Nat.le_of_ble_eq_true rfl)) dX10_plan_10 ⟨Nat.le_of_ble_eq_true rfl, Nat.le_of_ble_eq_true rfl⟩) hS (fun q _ h => h) (fun q h => h) (fun r83 τ82 t H locs ht hvm hw hB hz hk hS => ?_)
  obtain ⟨hF, hN9⟩ := hw
  have hP : PM dC dI ac A ad τ82 H := tw_back hB ht
  have hN : gN τ82 = gN τ0 := hN9.trans hN
  refine lv_if_eq (tgt := 30) hx hb dX10_plan_13 (by decide) (fun c84 => ?_) (fun c84 => ?_)
  · have hF := hF.1 c84
    exact j30 τ82 k0 hk0 x1 x2 k0 hk0 _ _ _ hF hP hN hS (lv_sub hl [0, 1, 2] rfl)
  · have hF := hF.2 c84
    refine lv_iload_n hx hb dX10_plan_16 rfl (lv_at hl 2 rfl) ?_
    refine lv_iconst (v := 0) hx hb dX10_plan_17 (by decide) ?_
    refine lv_bipush (v := 100) hx hb dX10_plan_18 (by decide) ?_
    refine va_calli (va_runS (As := [.int x2, .int ((0 : Int32)), .int ((100 : Int32))]) (rest := [.ref (ad 0 k0)]) ⟨hx, hb, hml, hown, hts⟩ (mX10_within l dC dI ac sa A ad τ82 x2 ((0 : Int32)) ((100 : Int32)) _ hF ) (va_cwS 3 hts gX10_plan_X10_within rfl rfl rfl (by decide +kernel) ⟨Nat.le_of_ble_eq_true rfl, Nat.le_of_ble_eq_true rfl⟩) ⟨BM.blind, fun U hU hW => ⟨rfl, BM.of hP hK hS hA hZ hU hW⟩⟩ rfl rfl hl.1 rfl (lv_room (Nat.le_of_ble_eq_true rfl)) dX10_plan_20 ⟨Nat.le_of_ble_eq_true rfl, Nat.le_of_ble_eq_true rfl⟩) hS (fun q _ h => h) (fun q h => h) (fun r86 τ85 t H locs ht hvm hw hB hz hk hS => ?_)
    obtain ⟨hF, hN9⟩ := hw
    have hP : PM dC dI ac A ad τ85 H := tw_back hB ht
    have hN : gN τ85 = gN τ0 := hN9.trans hN
    refine lv_if_eq (tgt := 30) hx hb dX10_plan_23 (by decide) (fun c87 => ?_) (fun c87 => ?_)
    · have hF := hF.1 c87
      exact j30 τ85 k0 hk0 x1 x2 k0 hk0 _ _ _ hF hP hN hS (lv_sub hl [0, 1, 2] rfl)
    · have hF := hF.2 c87
      refine lv_iconst (v := 1) hx hb dX10_plan_26 (by decide) ?_
      refine lv_goto (tgt := 31) hx hb dX10_plan_27 (by decide) ?_
      exact j31 τ85 k0 hk0 x1 x2 ((1 : Int32)) k0 hk0 _ _ _ hF hP hN hS (lv_sub hl [0, 1, 2] rfl)
