/-! ===== a term read ===== -/
set_option maxRecDepth 16384 in
theorem sI_comm {τ : tw_T} {f k j f' k' j' : Nat} {u v : Int32} (h : f ≠ f' ∨ k ≠ k' ∨ j ≠ j') : sI (sI τ f k j u) f' k' j' v = sI (sI τ f' k' j' v) f k j u := by
  refine Prod.ext ?_ rfl
  funext a b c
  show (if a = f' ∧ b = k' ∧ c = j' then v else if a = f ∧ b = k ∧ c = j then u else gI τ a b c) = if a = f ∧ b = k ∧ c = j then u else if a = f' ∧ b = k' ∧ c = j' then v else gI τ a b c
  by_cases h1 : a = f' ∧ b = k' ∧ c = j'
  · rw [if_pos h1, if_neg (by omega)]
    rw [if_pos h1]
  · rw [if_neg h1]
    by_cases h2 : a = f ∧ b = k ∧ c = j
    · rw [if_pos h2, if_pos h2]
    · rw [if_neg h2, if_neg h2, if_neg h1]
set_option maxRecDepth 16384 in
def CX (x : tw_T) (b : Nat → Int32) (s nd t : Nat) : Prop := gR x 6 = rXs 1 ∧ gI x 6 0 3 = i32 s ∧ gI x 14 0 = b ∧ gR x 22 nd 0 = some nd ∧ gR x 22 nd 1 = some nd ∧ gR x 22 nd 2 = some nd ∧ gR x 22 nd 3 = some nd ∧ gI x 22 nd 4 = i32 t
set_option maxRecDepth 16384 in
def CM (m : tw_T) (b : Nat → Int32) (s nd t : Nat) : Prop := gR m = rM ∧ gI m 0 0 30 = i32 s ∧ gI m 133 0 = b ∧ gI m 0 0 32 = -1 ∧ gI m 0 0 29 = i32 nd ∧ gI m 134 0 nd = i32 t
set_option maxRecDepth 16384 in
def TX (x : tw_T) (nd t z : Nat) (sg lim pts : Int32) : tw_T := sI (sI (sI (sI (sR x 30 nd t (some z)) 31 nd t sg) 32 nd t lim) 33 nd t pts) 22 nd 4 (i32 (t + 1))
set_option maxRecDepth 16384 in
theorem TX_AX {x : tw_T} {nd t z p : Nat} {sg lim pts : Int32} : TX (AX x p) nd t z sg lim pts = AX (TX x nd t z sg lim pts) p := by
  unfold TX AX
  show sI (sI (sI (sI (sI (sR x 30 nd t (some z)) 6 0 2 (i32 p)) 31 nd t sg) 32 nd t lim) 33 nd t pts) 22 nd 4 (i32 (t + 1)) = _
  rw [sI_comm (f := 6) (f' := 31) (Or.inl (by decide)), sI_comm (f := 6) (f' := 32) (Or.inl (by decide)), sI_comm (f := 6) (f' := 33) (Or.inl (by decide)), sI_comm (f := 6) (f' := 22) (Or.inl (by decide))]
set_option maxRecDepth 16384 in
theorem xX_addTerm {x : tw_T} {b : Nat → Int32} {s nd t z p : Nat} {sg lim pts : Int32} {Q : tw_T → Prop} (hC : CX x b s nd t) (ht : t < 12) (hQ : Q (AX (TX x nd t z sg lim pts) p)) : F_X0_addTerm (AX x p) nd z sg lim pts Q := by
  obtain ⟨c1, c2, c3, c4, c5, c6, c7, c8⟩ := hC
  have e1 : i32 t < (12 : Int32) := (lt_i32 (c := 12) (by omega) (by decide)).mpr ht
  have e3 := vpin ht (by decide)
  have e4 := i32_nat (show t < 2147483648 by omega)
  have h4 : gI (AX x p) 22 nd 4 = i32 t := by unfold AX; rw [gI_sI, if_neg (by omega)]; exact c8
  rw [← TX_AX] at hQ
  unfold TX at hQ
  unfold F_X0_addTerm F_X0_isFull
  simp only [h4, e1, e3, e4, AX_R, c4, c5, c6, c7, ↓forall_eq, bz_b, gR_sI, gR_sJ, gJ_sI, gI_sJ, gN_sI, gN_sJ, gI_sR, gJ_sR, gN_sR, gI_sI, gJ_sJ, gR_sR, gI_nW, gR_nW, gN_nW, gJ_nW, rM_at, rXs_at, rXd_at, ex_s, true_and, and_true, false_and, and_false, or_true, true_or, or_false, false_or, if_true, if_false, not_true_eq_false, not_false_eq_true, forall_const, true_implies, false_implies, implies_true, Nat.reduceLeDiff, Nat.reduceEqDiff, reduceCtorEq, i32_succ, i32_pred, Nat.le_refl, Nat.lt_add_one, Nat.reduceLT, ne_eq, Nat.add_one_ne_zero]
  exact hQ
set_option maxRecDepth 16384 in
def FrM (nd k : Nat) (m m' : tw_T) : Prop := gR m' = rM ∧ gJ m' = gJ m ∧ (∀ f, f ≠ 0 → f ≠ 134 → f ≠ 135 → f ≠ 136 → f ≠ 137 → f ≠ 138 → gI m' f = gI m f) ∧ (∀ f j, f ≠ 0 → f ≠ 134 → j ≠ k → gI m' f 0 j = gI m f 0 j) ∧ (∀ j, j ≠ nd → gI m' 134 0 j = gI m 134 0 j) ∧ (∀ j, j ≠ 31 → j ≠ 32 → gI m' 0 0 j = gI m 0 0 j)
set_option maxRecDepth 16384 in
theorem FrM.rf {nd k : Nat} {m : tw_T} (h : gR m = rM) : FrM nd k m m := ⟨h, rfl, fun _ _ _ _ _ _ _ => rfl, fun _ _ _ _ _ => rfl, fun _ _ => rfl, fun _ _ _ => rfl⟩
set_option maxRecDepth 16384 in
theorem FrM.set {nd k f j : Nat} {m m' : tw_T} {v : Int32} (h : FrM nd k m m') (hf : (f = 0 ∧ (j = 31 ∨ j = 32)) ∨ (f = 134 ∧ j = nd) ∨ ((f = 135 ∨ f = 136 ∨ f = 137 ∨ f = 138) ∧ j = k)) : FrM nd k m (sI m' f 0 j v) := by
  obtain ⟨h1, h2, h3, h4, h5, h6⟩ := h
  refine ⟨h1, h2, fun g g0 g1 g2 g3 g4 g5 => ?_, fun g i g0 g1 hi => ?_, fun i hi => ?_, fun i i1 i2 => ?_⟩
  · rw [hI_n (by omega)]; exact h3 g g0 g1 g2 g3 g4 g5
  · rw [gI_sI, if_neg (by omega)]; exact h4 g i g0 g1 hi
  · rw [gI_sI, if_neg (by omega)]; exact h5 i hi
  · rw [gI_sI, if_neg (by omega)]; exact h6 i i1 i2
set_option maxRecDepth 16384 in
theorem FrM.am {nd k a : Nat} {m m' : tw_T} (h : FrM nd k m m') : FrM nd k m (AM m' a) := h.set (Or.inl ⟨rfl, Or.inl rfl⟩)
set_option maxRecDepth 16384 in
theorem FrM.tr {nd k : Nat} {m m1 m2 : tw_T} (h : FrM nd k m m1) (h' : FrM nd k m1 m2) : FrM nd k m m2 := by
  obtain ⟨h1, h2, h3, h4, h5, h6⟩ := h
  obtain ⟨g1, g2, g3, g4, g5, g6⟩ := h'
  exact ⟨g1, g2.trans h2, fun f a b c d e z => (g3 f a b c d e z).trans (h3 f a b c d e z), fun f j a b c => (g4 f j a b c).trans (h4 f j a b c), fun j a => (g5 j a).trans (h5 j a), fun j a b => (g6 j a b).trans (h6 j a b)⟩
set_option maxRecDepth 16384 in
theorem AM_c {m : tw_T} {a f k j : Nat} {v : Int32} (h : f ≠ 0 ∨ j ≠ 31) : sI (AM m a) f k j v = AM (sI m f k j v) a := by
  unfold AM; exact sI_comm (by omega)
set_option maxRecDepth 16384 in
theorem eM_218 {τ : tw_T} {nd t k : Nat} {c v : Int32} {Q : tw_T → Prop} (hM : gR τ = rM) (h29 : gI τ 0 0 29 = i32 nd) (h134 : gI τ 134 0 nd = i32 t) (hk : k < 252) (hn : nd < 21) :
    J_X10_readTerm_218 τ 0 (i32 k) c v Q ↔ Q (sI (sI τ 138 0 k (if c = 45 then -v else v)) 134 0 nd (i32 (t + 1))) := by
  have e3 := vpin hk (by decide)
  have e4 := i32_nat (show k < 2147483648 by omega)
  have e5 := vpin hn (by decide)
  have e6 := i32_nat (show nd < 2147483648 by omega)
  unfold J_X10_readTerm_218 J_X10_readTerm_239
  by_cases h : c = 45
  · simp only [h, hM, e3, e4, e5, e6, h29, h134, ↓forall_eq, bz_b, gR_sI, gR_sJ, gJ_sI, gI_sJ, gN_sI, gN_sJ, gI_sR, gJ_sR, gN_sR, gI_sI, gJ_sJ, gR_sR, gI_nW, gR_nW, gN_nW, gJ_nW, rM_at, rXs_at, rXd_at, ex_s, true_and, and_true, false_and, and_false, or_true, true_or, or_false, false_or, if_true, if_false, not_true_eq_false, not_false_eq_true, forall_const, true_implies, false_implies, implies_true, Nat.reduceLeDiff, Nat.reduceEqDiff, reduceCtorEq, i32_succ, i32_pred, Nat.le_refl, Nat.lt_add_one, Nat.reduceLT, ne_eq, Nat.add_one_ne_zero]
  · simp only [h, hM, e3, e4, e5, e6, h29, h134, ↓forall_eq, bz_b, gR_sI, gR_sJ, gJ_sI, gI_sJ, gN_sI, gN_sJ, gI_sR, gJ_sR, gN_sR, gI_sI, gJ_sJ, gR_sR, gI_nW, gR_nW, gN_nW, gJ_nW, rM_at, rXs_at, rXd_at, ex_s, true_and, and_true, false_and, and_false, or_true, true_or, or_false, false_or, if_true, if_false, not_true_eq_false, not_false_eq_true, forall_const, true_implies, false_implies, implies_true, Nat.reduceLeDiff, Nat.reduceEqDiff, reduceCtorEq, i32_succ, i32_pred, Nat.le_refl, Nat.lt_add_one, Nat.reduceLT, ne_eq, Nat.add_one_ne_zero]
set_option maxRecDepth 16384 in
/-- behind a number that is none -/
theorem eM_bad150 {τ : tw_T} {nd t k : Nat} {Q : tw_T → Prop} (hM : gR τ = rM) (h29 : gI τ 0 0 29 = i32 nd) (h134 : gI τ 134 0 nd = i32 t) (hk : k < 252) (hn : nd < 21) (hb : gI τ 0 0 32 ≠ -1)
    (hQ : Q (sI (sI (sI τ 0 0 31 (gI τ 0 0 31 + 1)) 138 0 k 0) 134 0 nd (i32 (t + 1)))) : J_X10_readTerm_150 τ 0 (i32 k) Q := by
  unfold J_X10_readTerm_150
  rw [eM_fine0 hb]
  refine ⟨fun _ => ?_, fun h => absurd rfl h⟩
  unfold J_X10_readTerm_165
  rw [eM_fine0 hb]
  refine ⟨fun _ => ?_, fun h => absurd rfl h⟩
  unfold J_X10_readTerm_193
  intro τ9 h9
  subst h9
  have hb2 : gI (sI τ 0 0 31 (gI τ 0 0 31 + 1)) 0 0 32 ≠ -1 := by rw [gI_sI, if_neg (by decide)]; exact hb
  rw [eM_fine0 hb2]
  refine ⟨fun _ => ?_, fun h => absurd rfl h⟩
  rw [eM_218 (τ := sI τ 0 0 31 (gI τ 0 0 31 + 1)) (nd := nd) (t := t) hM (by rw [gI_sI, if_neg (by decide)]; exact h29) (by rw [hI_n (by decide)]; exact h134) hk hn]
  rw [if_neg (by decide)]
  exact hQ
set_option maxRecDepth 16384 in
/-- what both leave behind a term, from points on -/
def PtsR (x m : tw_T) (b : Nat → Int32) (s nd t k z : Nat) (sg lim : Int32) (FX : (Int32 → tw_T → Prop) → Prop) (FM : (tw_T → Prop) → Prop) : Prop :=
  (∃ e m', e ≤ s ∧ (∀ Q : Int32 → tw_T → Prop, Q 0 (AX x e) → FX Q) ∧ (∀ Q : tw_T → Prop, Q m' → FM Q) ∧ gI m' 0 0 32 = i32 e ∧ FrM nd k m m') ∨
  (∃ e v m', e ≤ s ∧ -99999 ≤ v.toInt ∧ v.toInt ≤ 99999 ∧ (∀ Q : Int32 → tw_T → Prop, Q 1 (AX (TX x nd t z sg lim v) e) → FX Q) ∧ (∀ Q : tw_T → Prop, Q (AM m' e) → FM Q) ∧ FrM nd k m m' ∧ gI m' 0 0 32 = -1 ∧ gI m' 134 0 nd = i32 (t + 1) ∧ gI m' 138 0 k = v ∧ gI m' 135 0 k = gI m 135 0 k ∧ gI m' 136 0 k = gI m 136 0 k ∧ gI m' 137 0 k = gI m 137 0 k) ∨
  (∃ e v m', e < s ∧ isD (b e) = true ∧ (∀ Q : Int32 → tw_T → Prop, Q 1 (AX (TX x nd t z sg lim v) e) → FX Q) ∧ (∀ Q : tw_T → Prop, Q m' → FM Q) ∧ gI m' 0 0 32 = i32 e ∧ FrM nd k m m')
set_option maxRecDepth 16384 in
theorem ch_is {b : Nat → Int32} {s a : Nat} {v : Int32} (h1 : v ≠ -1) (h0 : v ≠ 0) : (chX b s a = v ↔ chM b s a = v) ∧ (chX b s a = v → a < s) := by
  unfold chX chM
  by_cases h : a < s
  · rw [if_pos h, if_pos h]; exact ⟨Iff.rfl, fun _ => h⟩
  · rw [if_neg h, if_neg h]
    exact ⟨⟨fun h9 => absurd h9.symm h1, fun h9 => absurd h9.symm h0⟩, fun h9 => absurd h9.symm h1⟩
set_option maxRecDepth 16384 in
set_option maxHeartbeats 2000000 in
theorem points {x m : tw_T} {b : Nat → Int32} {s nd t z p : Nat} {sg lim : Int32} (hX : CX x b s nd t) (hM : CM m b s nd t) (hs : s ≤ 200) (hp : p ≤ s) (ht : t < 12) (hn : nd < 20) :
    PtsR x m b s nd t (12 * nd + t) z sg lim (fun Q => F_X7_readPoints (AX x p) 0 nd z sg lim Q) (fun Q => J_X10_readTerm_150 (AM m p) 0 (i32 (12 * nd + t)) Q) := by
  have hX0 := hX
  obtain ⟨c1, c2, c3, c4, c5, c6, c7, c8⟩ := hX
  obtain ⟨d1, d2, d3, d4, d5, d6⟩ := hM
  have hk : 12 * nd + t < 252 := by omega
  have hn21 : nd < 21 := by omega
  have n1 : ((43 : Int32) ≠ -1) ∧ (43 : Int32) ≠ 0 ∧ (45 : Int32) ≠ -1 ∧ (45 : Int32) ≠ 0 ∧ (45 : Int32) ≠ 43 := by decide
  have hr := skp_rng (b := b) (s - p) p
  have am32 : ∀ (m' : tw_T) a, gI (AM m' a) 0 0 32 = gI m' 0 0 32 := fun m' a => AM_o (by decide)
  -- the reference, once its sign stands at a4
  have hM0 : ∀ Q : tw_T → Prop, J_X10_readTerm_165 (AM m (skp b (s - p) p)) 0 (i32 (12 * nd + t)) (chM b s (skp b (s - p) p)) Q → J_X10_readTerm_150 (AM m p) 0 (i32 (12 * nd + t)) Q := by
    intro Q h
    unfold J_X10_readTerm_150
    rw [eM_fine1 (by rw [am32]; exact d4)]
    exact ⟨fun h9 => absurd h9 (by decide), fun _ => eM_here d1 d2 d3 hs hp h⟩
  generalize hc : skp b (s - p) p = c at hr hM0
  have q43 := ch_is (b := b) (s := s) (a := c) n1.1 n1.2.1
  have q45 := ch_is (b := b) (s := s) (a := c) n1.2.2.1 n1.2.2.2.1
  by_cases hsign : chM b s c = 43 ∨ chM b s c = 45
  rotate_left
  · have h43 : ¬ chM b s c = 43 := fun h => hsign (Or.inl h)
    have h45 : ¬ chM b s c = 45 := fun h => hsign (Or.inr h)
    refine Or.inl ⟨c, sI (sI (AM (sI m 0 0 32 (i32 c)) (c + 1)) 138 0 (12 * nd + t) 0) 134 0 nd (i32 (t + 1)), by omega, fun Q hQ => ?_, fun Q hQ => hM0 Q ?_, ?_, ?_⟩
    · unfold F_X7_readPoints
      refine xX_signHere c1 c2 c3 hs hp ?_
      rw [hc]
      exact ⟨fun h9 => absurd (q43.1.mp h9) h43, fun _ => ⟨fun h9 => absurd (q45.1.mp h9) h45, fun _ => hQ⟩⟩
    · unfold J_X10_readTerm_165
      rw [eM_fine1 (by rw [am32]; exact d4)]
      refine ⟨fun h9 => absurd h9 (by decide), fun _ => ⟨fun h9 => absurd h9 h43, fun _ => ⟨fun h9 => absurd h9 h45, fun _ => ?_⟩⟩⟩
      rw [eM_wrong (by rw [am32]; exact d4), AM_31, AM_c (Or.inr (by decide))]
      unfold J_X10_readTerm_193
      intro τ9 h9
      subst h9
      rw [AM_31, i32_succ, AM_s]
      have hb2 : gI (AM (sI m 0 0 32 (i32 c)) (c + 1)) 0 0 32 ≠ -1 := by rw [am32, gI_sI, if_pos ⟨rfl, rfl, rfl⟩]; exact not_m1 (by omega)
      rw [eM_fine0 hb2]
      refine ⟨fun _ => ?_, fun h => absurd rfl h⟩
      rw [eM_218 (τ := AM (sI m 0 0 32 (i32 c)) (c + 1)) (nd := nd) (t := t) d1 (by rw [AM_o (by decide), gI_sI, if_neg (by decide)]; exact d5) (by rw [AM_n (by decide), hI_n (by decide)]; exact d6) hk hn21, if_neg h45]
      exact hQ
    · rw [gI_sI, if_neg (by omega), gI_sI, if_neg (by omega), am32, gI_sI, if_pos ⟨rfl, rfl, rfl⟩]
    · exact ((((FrM.rf d1).set (Or.inl ⟨rfl, Or.inr rfl⟩)).am).set (Or.inr (Or.inr ⟨by decide, rfl⟩))).set (Or.inr (Or.inl ⟨rfl, rfl⟩))
  have hcs : c < s := by
    rcases hsign with h | h
    · exact q43.2 (q43.1.mpr h)
    · exact q45.2 (q45.1.mpr h)
  have hchX : chX b s c = chM b s c := by unfold chX chM; rw [if_pos hcs, if_pos hcs]
  have hM1 : ∀ Q : tw_T → Prop, J_X10_readTerm_193 (AM m c) 0 (i32 (12 * nd + t)) (chM b s c) Q → J_X10_readTerm_150 (AM m p) 0 (i32 (12 * nd + t)) Q := by
    intro Q h
    refine hM0 Q ?_
    unfold J_X10_readTerm_165
    rw [eM_fine1 (by rw [am32]; exact d4)]
    refine ⟨fun h9 => absurd h9 (by decide), fun _ => ⟨fun _ => h, fun h9 => ⟨fun _ => h, fun h8 => absurd hsign (fun h7 => h7.elim h9 h8)⟩⟩⟩
  have hX1 : ∀ Q : Int32 → tw_T → Prop, J_X7_readPoints_22 (AX x c) 0 nd z sg lim (chM b s c) Q → F_X7_readPoints (AX x p) 0 nd z sg lim Q := by
    intro Q h
    unfold F_X7_readPoints
    refine xX_signHere c1 c2 c3 hs hp ?_
    rw [hc, hchX]
    exact ⟨fun _ => h, fun h9 => ⟨fun _ => h, fun h8 => absurd hsign (fun h7 => h7.elim h9 h8)⟩⟩
  generalize hcc : chM b s c = ch at hsign hM1 hX1
  have hr2 := skp_rng (b := b) (s - (c + 1)) (c + 1)
  have hdn := dn_rng (b := b) (s := s) 5 (skp b (s - (c + 1)) (c + 1)) (by omega)
  have hdv := dv_rng (b := b) (s := s) 5 (skp b (s - (c + 1)) (c + 1)) 0 (by omega) (by decide) (by decide)
  have hM2 : ∀ Q : tw_T → Prop, J_X10_readTerm_218 (NM m b s (skp b (s - (c + 1)) (c + 1))) 0 (i32 (12 * nd + t)) ch (dv b s 5 (skp b (s - (c + 1)) (c + 1)) 0) Q → J_X10_readTerm_150 (AM m p) 0 (i32 (12 * nd + t)) Q := by
    intro Q h
    refine hM1 Q ?_
    unfold J_X10_readTerm_193
    intro τ9 h9
    subst h9
    rw [AM_31, i32_succ, AM_s, eM_fine1 (by rw [am32]; exact d4)]
    exact ⟨fun h9 => absurd h9 (by decide), fun _ => eM_digits d1 d2 d3 d4 hs (by omega) h⟩
  have hX2 : ∀ Q : Int32 → tw_T → Prop, (dn b s 5 (skp b (s - (c + 1)) (c + 1)) = 0 → Q 0 (AX x (skp b (s - (c + 1)) (c + 1)))) →
      (dn b s 5 (skp b (s - (c + 1)) (c + 1)) ≠ 0 → Q 1 (AX (TX x nd t z sg lim (if ch = 43 then dv b s 5 (skp b (s - (c + 1)) (c + 1)) 0 else -(dv b s 5 (skp b (s - (c + 1)) (c + 1)) 0))) (skp b (s - (c + 1)) (c + 1) + dn b s 5 (skp b (s - (c + 1)) (c + 1))))) → F_X7_readPoints (AX x p) 0 nd z sg lim Q := by
    intro Q h0 h1
    refine hX1 Q ?_
    unfold J_X7_readPoints_22
    intro τ2 h2
    subst h2
    rw [AX_2, i32_succ, AX_s]
    refine xX_number c1 c2 c3 hs (by omega) ?_
    generalize hdd : dv b s 5 (skp b (s - (c + 1)) (c + 1)) 0 = w at h1 hdv
    by_cases e0 : dn b s 5 (skp b (s - (c + 1)) (c + 1)) = 0
    · rw [if_pos e0, e0, Nat.add_zero]
      exact ⟨fun h9 => absurd rfl h9, fun _ => h0 e0⟩
    · rw [if_neg e0]
      have hw : ¬ w = -1 := fun h9 => by rw [h9] at hdv; exact absurd hdv.1 (by decide)
      refine ⟨fun _ => ⟨fun h9 => ?_, fun h9 => ?_⟩, fun h9 => absurd h9 hw⟩
      · refine xX_addTerm hX0 ht ?_
        have := h1 e0; rw [if_neg h9] at this; exact this
      · refine xX_addTerm hX0 ht ?_
        have := h1 e0; rw [if_pos h9] at this; exact this
  generalize skp b (s - (c + 1)) (c + 1) = g at hr2 hdn hdv hM2 hX2
  have hpts : (if ch = 45 then -(dv b s 5 g 0) else dv b s 5 g 0) = if ch = 43 then dv b s 5 g 0 else -(dv b s 5 g 0) := by
    rcases hsign with h | h
    · rw [h, if_neg (by decide), if_pos rfl]
    · rw [h, if_pos rfl, if_neg (by decide)]
  by_cases e0 : dn b s 5 g = 0
  · refine Or.inl ⟨g, sI (sI (AM (sI m 0 0 32 (i32 g)) g) 138 0 (12 * nd + t) (if ch = 45 then -(dv b s 5 g 0) else dv b s 5 g 0)) 134 0 nd (i32 (t + 1)), by omega, fun Q hQ => hX2 Q (fun _ => hQ) (fun h => absurd e0 h), fun Q hQ => hM2 Q ?_, ?_, ?_⟩
    · have hN : NM m b s g = AM (sI m 0 0 32 (i32 g)) g := by unfold NM; rw [if_pos (Or.inl e0), e0, Nat.add_zero, AM_c (Or.inr (by decide))]
      rw [hN, eM_218 (τ := AM (sI m 0 0 32 (i32 g)) g) (nd := nd) (t := t) d1 (by rw [AM_o (by decide), gI_sI, if_neg (by decide)]; exact d5) (by rw [AM_n (by decide), hI_n (by decide)]; exact d6) hk hn21]
      exact hQ
    · rw [gI_sI, if_neg (by omega), gI_sI, if_neg (by omega), am32, gI_sI, if_pos ⟨rfl, rfl, rfl⟩]
    · exact ((((FrM.rf d1).set (Or.inl ⟨rfl, Or.inr rfl⟩)).am).set (Or.inr (Or.inr ⟨by decide, rfl⟩))).set (Or.inr (Or.inl ⟨rfl, rfl⟩))
  by_cases e6 : nbd b s 5 g = true
  · have h6 := e6
    unfold nbd at h6
    rw [decide_eq_true_eq] at h6
    refine Or.inr (Or.inr ⟨g + dn b s 5 g, if ch = 43 then dv b s 5 g 0 else -(dv b s 5 g 0), sI (sI (AM (sI m 0 0 32 (i32 (g + dn b s 5 g))) (g + dn b s 5 g)) 138 0 (12 * nd + t) (if ch = 45 then -(dv b s 5 g 0) else dv b s 5 g 0)) 134 0 nd (i32 (t + 1)), by omega, by rw [h6.1]; exact h6.2.2, fun Q hQ => hX2 Q (fun h => absurd h e0) (fun _ => hQ), fun Q hQ => hM2 Q ?_, ?_, ?_⟩)
    · have hN : NM m b s g = AM (sI m 0 0 32 (i32 (g + dn b s 5 g))) (g + dn b s 5 g) := by unfold NM; rw [if_pos (Or.inr e6), AM_c (Or.inr (by decide))]
      rw [hN, eM_218 (τ := AM (sI m 0 0 32 (i32 (g + dn b s 5 g))) (g + dn b s 5 g)) (nd := nd) (t := t) d1 (by rw [AM_o (by decide), gI_sI, if_neg (by decide)]; exact d5) (by rw [AM_n (by decide), hI_n (by decide)]; exact d6) hk hn21]
      exact hQ
    · rw [gI_sI, if_neg (by omega), gI_sI, if_neg (by omega), am32, gI_sI, if_pos ⟨rfl, rfl, rfl⟩]
    · exact ((((FrM.rf d1).set (Or.inl ⟨rfl, Or.inr rfl⟩)).am).set (Or.inr (Or.inr ⟨by decide, rfl⟩))).set (Or.inr (Or.inl ⟨rfl, rfl⟩))
  · refine Or.inr (Or.inl ⟨g + dn b s 5 g, if ch = 43 then dv b s 5 g 0 else -(dv b s 5 g 0), sI (sI m 138 0 (12 * nd + t) (if ch = 43 then dv b s 5 g 0 else -(dv b s 5 g 0))) 134 0 nd (i32 (t + 1)), by omega, ?_, ?_, fun Q hQ => hX2 Q (fun h => absurd h e0) (fun _ => hQ), fun Q hQ => hM2 Q ?_, ?_, ?_, ?_, ?_, ?_, ?_, ?_⟩)
    · split
      · omega
      · rw [i32_neg (by omega)]; omega
    · split
      · omega
      · rw [i32_neg (by omega)]; omega
    · have hN : NM m b s g = AM m (g + dn b s 5 g) := by unfold NM; rw [if_neg (fun h => h.elim e0 e6)]
      rw [hN, eM_218 (τ := AM m (g + dn b s 5 g)) (nd := nd) (t := t) d1 (by rw [AM_o (by decide)]; exact d5) (by rw [AM_n (by decide)]; exact d6) hk hn21, hpts, AM_c (Or.inl (by decide)), AM_c (Or.inl (by decide))]
      exact hQ
    · exact ((FrM.rf d1).set (Or.inr (Or.inr ⟨by decide, rfl⟩))).set (Or.inr (Or.inl ⟨rfl, rfl⟩))
    · rw [gI_sI, if_neg (by omega), gI_sI, if_neg (by omega)]; exact d4
    · rw [gI_sI, if_pos ⟨rfl, rfl, rfl⟩]
    · rw [gI_sI, if_neg (by omega), gI_sI, if_pos ⟨rfl, rfl, rfl⟩]
    · rw [gI_sI, if_neg (by omega), gI_sI, if_neg (by omega)]
    · rw [gI_sI, if_neg (by omega), gI_sI, if_neg (by omega)]
    · rw [gI_sI, if_neg (by omega), gI_sI, if_neg (by omega)]
