/-! ===== a dish read ===== -/
set_option maxRecDepth 16384 in
def FrX (nd : Nat) (x x' : tw_T) : Prop := gJ x' = gJ x ∧ gN x' = gN x ∧ (∀ f, f ≠ 30 → gR x' f = gR x f) ∧ (∀ k, k ≠ nd → gR x' 30 k = gR x 30 k) ∧ (∀ f, f ≠ 6 → f ≠ 22 → f ≠ 31 → f ≠ 32 → f ≠ 33 → gI x' f = gI x f) ∧ (∀ f k, k ≠ nd → f ≠ 6 → gI x' f k = gI x f k) ∧ (∀ j, j ≠ 2 → gI x' 6 0 j = gI x 6 0 j)
set_option maxRecDepth 16384 in
theorem FrX.rf {nd : Nat} {x : tw_T} : FrX nd x x := ⟨rfl, rfl, fun _ _ => rfl, fun _ _ => rfl, fun _ _ _ _ _ _ => rfl, fun _ _ _ _ => rfl, fun _ _ => rfl⟩
set_option maxRecDepth 16384 in
theorem FrX.tr {nd : Nat} {x x1 x2 : tw_T} (h : FrX nd x x1) (g : FrX nd x1 x2) : FrX nd x x2 := by
  obtain ⟨h1, h2, h3, h4, h5, h6, h7⟩ := h
  obtain ⟨g1, g2, g3, g4, g5, g6, g7⟩ := g
  exact ⟨g1.trans h1, g2.trans h2, fun f a => (g3 f a).trans (h3 f a), fun k a => (g4 k a).trans (h4 k a), fun f a b c d e => (g5 f a b c d e).trans (h5 f a b c d e), fun f k a b => (g6 f k a b).trans (h6 f k a b), fun j a => (g7 j a).trans (h7 j a)⟩
set_option maxRecDepth 16384 in
theorem FrX.ax {nd a : Nat} {x : tw_T} : FrX nd x (AX x a) := by
  unfold AX
  refine ⟨rfl, rfl, fun _ _ => rfl, fun _ _ => rfl, fun f h _ _ _ _ => hI_n h, fun f k _ hf => by rw [hI_n hf], fun j hj => ?_⟩
  rw [gI_sI, if_neg (fun h => hj h.2.2)]
set_option maxRecDepth 16384 in
theorem row_sI {τ : tw_T} {f k j f' k' : Nat} {v : Int32} (h : f' ≠ f ∨ k' ≠ k) : gI (sI τ f k j v) f' k' = gI τ f' k' := tw_sI_n h
set_option maxRecDepth 16384 in
theorem FrX.tx {nd t z : Nat} {x : tw_T} {sg lim v : Int32} : FrX nd x (TX x nd t z sg lim v) := by
  unfold TX
  refine ⟨rfl, rfl, fun f hf => ?_, fun k hk => ?_, fun f h1 h2 h3 h4 h5 => ?_, fun f k hk hf => ?_, fun j hj => ?_⟩
  · simp only [gR_sI]; exact hR_n hf
  · simp only [gR_sI]; exact tw_sR_n (Or.inr hk)
  · rw [hI_n h2, hI_n h5, hI_n h4, hI_n h3]; rfl
  · rw [row_sI (Or.inr hk), row_sI (Or.inr hk), row_sI (Or.inr hk), row_sI (Or.inr hk)]; rfl
  · rw [row_sI (Or.inl (by decide)), row_sI (Or.inl (by decide)), row_sI (Or.inl (by decide)), row_sI (Or.inl (by decide))]; rfl
set_option maxRecDepth 16384 in
def FrD (nd : Nat) (m m' : tw_T) : Prop := gR m' = rM ∧ gJ m' = gJ m ∧ (∀ f, f ≠ 0 → f ≠ 134 → f ≠ 135 → f ≠ 136 → f ≠ 137 → f ≠ 138 → gI m' f = gI m f) ∧ (∀ f j, f ≠ 0 → f ≠ 134 → j < 12 * nd → gI m' f 0 j = gI m f 0 j) ∧ (∀ j, j ≠ nd → gI m' 134 0 j = gI m 134 0 j) ∧ (∀ j, j ≠ 31 → j ≠ 32 → gI m' 0 0 j = gI m 0 0 j)
set_option maxRecDepth 16384 in
theorem FrM.d {nd t : Nat} {m m' : tw_T} (h : FrM nd (12 * nd + t) m m') : FrD nd m m' := ⟨h.1, h.2.1, h.2.2.1, fun f j a b c => h.2.2.2.1 f j a b (by omega), h.2.2.2.2.1, h.2.2.2.2.2⟩
set_option maxRecDepth 16384 in
theorem FrD.tr {nd : Nat} {m m1 m2 : tw_T} (h : FrD nd m m1) (h' : FrD nd m1 m2) : FrD nd m m2 := by
  obtain ⟨h1, h2, h3, h4, h5, h6⟩ := h
  obtain ⟨g1, g2, g3, g4, g5, g6⟩ := h'
  exact ⟨g1, g2.trans h2, fun f a b c d e z => (g3 f a b c d e z).trans (h3 f a b c d e z), fun f j a b c => (g4 f j a b c).trans (h4 f j a b c), fun j a => (g5 j a).trans (h5 j a), fun j a b => (g6 j a b).trans (h6 j a b)⟩
set_option maxRecDepth 16384 in
theorem FrD.w {nd j : Nat} {m m' : tw_T} {v : Int32} (h : FrD nd m m') (hj : j = 31 ∨ j = 32) : FrD nd m (sI m' 0 0 j v) := by
  obtain ⟨h1, h2, h3, h4, h5, h6⟩ := h
  refine ⟨h1, h2, fun g g0 g1 g2 g3 g4 g5 => ?_, fun g i g0 g1 hi => ?_, fun i hi => ?_, fun i i1 i2 => ?_⟩
  · rw [hI_n g0]; exact h3 g g0 g1 g2 g3 g4 g5
  · rw [gI_sI, if_neg (by omega)]; exact h4 g i g0 g1 hi
  · rw [gI_sI, if_neg (by omega)]; exact h5 i hi
  · rw [gI_sI, if_neg (by omega)]; exact h6 i i1 i2
set_option maxRecDepth 16384 in
/-- the terms that stand, T of them -/
def Tm (x m : tw_T) (nd T : Nat) : Prop := ∀ t, t < T → ∃ z, z < 8 ∧ gR x 30 nd t = some z ∧ gI m 135 0 (12 * nd + t) = i32 z ∧ gI x 33 nd t = gI m 138 0 (12 * nd + t) ∧ -99999 ≤ (gI m 138 0 (12 * nd + t)).toInt ∧ (gI m 138 0 (12 * nd + t)).toInt ≤ 99999 ∧ (5 ≤ z → gI x 31 nd t = gI m 136 0 (12 * nd + t) ∧ gI x 32 nd t = gI m 137 0 (12 * nd + t))
set_option maxRecDepth 16384 in
theorem Tm.ax {x m : tw_T} {nd T a : Nat} (h : Tm x m nd T) : Tm (AX x a) m nd T := fun t ht => by
  obtain ⟨z, z1, z2, z3, z4, z5, z6, z7⟩ := h t ht
  refine ⟨z, z1, z2, z3, ?_, z5, z6, fun h5 => ⟨?_, ?_⟩⟩
  · unfold AX; rw [row_sI (Or.inl (by decide))]; exact z4
  · unfold AX; rw [row_sI (Or.inl (by decide))]; exact (z7 h5).1
  · unfold AX; rw [row_sI (Or.inl (by decide))]; exact (z7 h5).2
set_option maxRecDepth 16384 in
theorem Tm.am {x m : tw_T} {nd T j : Nat} {v : Int32} (h : Tm x m nd T) : Tm x (sI m 0 0 j v) nd T := fun t ht => by
  obtain ⟨z, z1, z2, z3, z4, z5, z6, z7⟩ := h t ht
  refine ⟨z, z1, z2, ?_, ?_, ?_, ?_, fun h5 => ⟨?_, ?_⟩⟩ <;> simp only [hI_s, hI_n, hJ_s, hJ_n, hR_s, hR_n, hIW_s, hIW_n, hJW_s, hJW_n, hRW_s, hRW_n, hNW_s, hNW_n, hRM_s, hRM_n, u2_s, u2_j, u2_row, u2_kk, gR_sI, gR_sJ, gJ_sI, gI_sJ, gN_sI, gN_sJ, gI_sR, gJ_sR, gN_sR, gI_sM, gJ_sM, gN_sM, ne_eq, Nat.reduceEqDiff, not_false_eq_true, reduceCtorEq, true_implies]
  · exact z3
  · exact z4
  · exact z5
  · exact z6
  · exact (z7 h5).1
  · exact (z7 h5).2
set_option maxRecDepth 16384 in
theorem Tm.step {x m m' : tw_T} {nd t z : Nat} {sg lim v : Int32} (h : Tm x m nd t) (hF : FrM nd (12 * nd + t) m m') (hz : z < 8) (h135 : gI m' 135 0 (12 * nd + t) = i32 z) (h138 : gI m' 138 0 (12 * nd + t) = v) (hv : -99999 ≤ v.toInt) (hv2 : v.toInt ≤ 99999) (h5 : 5 ≤ z → gI m' 136 0 (12 * nd + t) = sg ∧ gI m' 137 0 (12 * nd + t) = lim) : Tm (TX x nd t z sg lim v) m' nd (t + 1) := by
  intro t' ht'
  by_cases e : t' = t
  · subst e
    refine ⟨z, hz, ?_, h135, ?_, by rw [h138]; exact hv, by rw [h138]; exact hv2, fun h9 => ⟨?_, ?_⟩⟩
    · unfold TX; simp only [gR_sI]; rw [gR_sR, if_pos ⟨rfl, rfl, rfl⟩]
    · unfold TX; rw [row_sI (Or.inl (by decide)), gI_sI, if_pos ⟨rfl, rfl, rfl⟩, h138]
    · unfold TX; rw [row_sI (Or.inl (by decide)), row_sI (Or.inl (by decide)), row_sI (Or.inl (by decide)), gI_sI, if_pos ⟨rfl, rfl, rfl⟩, (h5 h9).1]
    · unfold TX; rw [row_sI (Or.inl (by decide)), row_sI (Or.inl (by decide)), gI_sI, if_pos ⟨rfl, rfl, rfl⟩, (h5 h9).2]
  · obtain ⟨z', z1, z2, z3, z4, z5, z6, z7⟩ := h t' (by omega)
    have g : ∀ f, f ≠ 0 → f ≠ 134 → gI m' f 0 (12 * nd + t') = gI m f 0 (12 * nd + t') := fun f a b => hF.2.2.2.1 f _ a b (by omega)
    rw [g 135 (by decide) (by decide), g 136 (by decide) (by decide), g 137 (by decide) (by decide), g 138 (by decide) (by decide)]
    refine ⟨z', z1, ?_, z3, ?_, z5, z6, fun h9 => ⟨?_, ?_⟩⟩
    · unfold TX; simp only [gR_sI]; rw [gR_sR, if_neg (fun h => e h.2.2)]; exact z2
    · unfold TX; rw [row_sI (Or.inl (by decide)), gI_sI, if_neg (fun h => e h.2.2), row_sI (Or.inl (by decide)), row_sI (Or.inl (by decide))]; exact z4
    · unfold TX; rw [row_sI (Or.inl (by decide)), row_sI (Or.inl (by decide)), row_sI (Or.inl (by decide)), gI_sI, if_neg (fun h => e h.2.2)]; exact (z7 h9).1
    · unfold TX; rw [row_sI (Or.inl (by decide)), row_sI (Or.inl (by decide)), gI_sI, if_neg (fun h => e h.2.2), row_sI (Or.inl (by decide))]; exact (z7 h9).2
set_option maxRecDepth 16384 in
theorem CX.tx {x : tw_T} {b : Nat → Int32} {s nd t z : Nat} {sg lim v : Int32} (h : CX x b s nd t) : CX (TX x nd t z sg lim v) b s nd (t + 1) := by
  obtain ⟨c1, c2, c3, c4, c5, c6, c7, c8⟩ := h
  have g : ∀ f, f ≠ 30 → gR (TX x nd t z sg lim v) f = gR x f := (FrX.tx (x := x)).2.2.1
  refine ⟨?_, ?_, ?_, ?_, ?_, ?_, ?_, ?_⟩
  · rw [g 6 (by decide)]; exact c1
  · rw [(FrX.tx (x := x)).2.2.2.2.2.2 3 (by decide)]; exact c2
  · rw [(FrX.tx (x := x)).2.2.2.2.1 14 (by decide) (by decide) (by decide) (by decide) (by decide)]; exact c3
  · rw [g 22 (by decide)]; exact c4
  · rw [g 22 (by decide)]; exact c5
  · rw [g 22 (by decide)]; exact c6
  · rw [g 22 (by decide)]; exact c7
  · unfold TX; rw [gI_sI, if_pos ⟨rfl, rfl, rfl⟩]
set_option maxRecDepth 16384 in
/-- the reference's end of reading: what is wrong, is known -/
theorem eM_146b {τ : tw_T} {Q : Int32 → tw_T → Prop} (h : gI τ 0 0 32 ≠ -1) (hJ : J_X10_dish_172 τ 0 Q) : J_X10_dish_146 τ 0 Q := by
  unfold J_X10_dish_146
  rw [eM_fine0 h]
  exact ⟨fun _ => hJ, fun h => absurd rfl h⟩
set_option maxRecDepth 16384 in
theorem eM_88b {τ : tw_T} {n : Nat} {Q : Int32 → tw_T → Prop} (h : gI τ 0 0 32 ≠ -1) (hJ : J_X10_dish_172 τ 0 Q) : L_X10_dish_88 0 Q (fun (τ34 : tw_T) => J_X10_dish_146 τ34 0 Q) (n + 1) τ := by
  rw [L_X10_dish_88, eM_fine0 h]
  exact ⟨fun _ => eM_146b h hJ, fun h => absurd rfl h⟩
set_option maxRecDepth 16384 in
/-- reading a dish from its t-th term on, r more may follow -/
def DishR (b : Nat → Int32) (s nd r t a : Nat) (x m : tw_T) : Prop := ∃ x' m', FrX nd x x' ∧ FrD nd m m' ∧
      ((∃ T, T ≤ 12 ∧ Tm x' m' nd T ∧ gI x' 22 nd 4 = i32 T ∧ gI m' 134 0 nd = i32 T ∧ gI m' 0 0 32 = -1 ∧ (∀ Q : Int32 → tw_T → Prop, Q (-1) x' → L_X7_readDish_23 0 nd Q (fun (τ18 : tw_T) (z19 : Int32) => Q (gI τ18 6 0 2) τ18) (r + 1) (AX x a) (i32 t)) ∧
          (∀ (Q : Int32 → tw_T → Prop) (K : tw_T → Prop), (∀ τ, L_X10_dish_88 0 Q (fun (τ34 : tw_T) => J_X10_dish_146 τ34 0 Q) (r + 2) τ → K τ) → J_X10_dish_172 m' 0 Q → F_X10_readTerm (AM m a) 0 K)) ∨
       (∃ e, e ≤ s ∧ gI m' 0 0 32 = i32 e ∧ (∀ Q : Int32 → tw_T → Prop, Q (i32 e) x' → L_X7_readDish_23 0 nd Q (fun (τ18 : tw_T) (z19 : Int32) => Q (gI τ18 6 0 2) τ18) (r + 1) (AX x a) (i32 t)) ∧
          (∀ (Q : Int32 → tw_T → Prop) (K : tw_T → Prop), (∀ τ, L_X10_dish_88 0 Q (fun (τ34 : tw_T) => J_X10_dish_146 τ34 0 Q) (r + 2) τ → K τ) → J_X10_dish_172 m' 0 Q → F_X10_readTerm (AM m a) 0 K)))
set_option maxRecDepth 16384 in
set_option maxHeartbeats 2000000 in
theorem dish_step {b : Nat → Int32} {s nd : Nat} (hs : s ≤ 200) (hn : nd < 20) (hb : ∀ i, 0 ≤ (b i).toInt) (r t a : Nat) (x m : tw_T) (ht : t + r = 11) (ha : a ≤ s) (hX : CX x b s nd t) (hM : CM m b s nd t) (hT : Tm x m nd t)
    (ih : ∀ (r' t' a' : Nat) (x' m' : tw_T), r = r' + 1 → t' + r' = 11 → a' ≤ s → CX x' b s nd t' → CM m' b s nd t' → Tm x' m' nd t' → DishR b s nd r' t' a' x' m') : DishR b s nd r t a x m := by
  have am32 : ∀ (m' : tw_T) a, gI (AM m' a) 0 0 32 = gI m' 0 0 32 := fun m' a => AM_o (by decide)
  have e12 : ¬ (12 : Int32) ≤ i32 t := fun h => absurd ((le_i32 (k := 12) (by decide) (by omega)).mp h) (by omega)
  -- the class's loop, once its term is read
  have hXl : ∀ Q : Int32 → tw_T → Prop, F_X7_readTerm (AX x a) 0 nd (fun (r3 : Int32) (τ2 : tw_T) => (((¬ r3 = 0 → (F_X7_signHere τ2 0 (fun (r6 : Int32) (τ5 : tw_T) => (((¬ r6 = ((-1 : Int32)) → (((¬ r6 = ((44 : Int32)) → (Q (gI τ5 6 0 2) τ5)) ∧ (r6 = ((44 : Int32)) → (F_X0_isFull τ5 nd (fun (r10 : Int32) (τ9 : tw_T) => (((r10 = 0 → (∀ τ12 : tw_T, τ12 = sI τ9 6 0 2 ((gI τ9 6 0 2) + ((1 : Int32))) → (∀ z13 : Int32, z13 = (i32 t) + (1 : Int32) → (L_X7_readDish_23 0 nd Q (fun (τ18 : tw_T) (z19 : Int32) => Q (gI τ18 6 0 2) τ18) r τ12 z13)))) ∧ (¬ r10 = 0 → (Q (gI τ9 6 0 2) τ9)))))))))) ∧ (r6 = ((-1 : Int32)) → (Q ((-1 : Int32)) τ5))))))) ∧ (r3 = 0 → (Q (gI τ2 6 0 2) τ2))))) → L_X7_readDish_23 0 nd Q (fun (τ18 : tw_T) (z19 : Int32) => Q (gI τ18 6 0 2) τ18) (r + 1) (AX x a) (i32 t) := by
    intro Q h
    rw [L_X7_readDish_23]
    exact ⟨fun h9 => absurd h9 e12, fun _ => h⟩
  rcases term hX hM hs ha (show t < 12 by omega) hn with ⟨e, m', h1, h2, h3, h4, h5⟩ | ⟨e, z, sg, lim, v, m', h1, hz, hv1, hv2, h2, h3, h4, h5, h6, h7, h8, h9⟩ | ⟨e, z, sg, lim, v, m', h1, hz, hd, h2, h3, h4, h5⟩
  · -- wrong
    have hbad : gI m' 0 0 32 ≠ -1 := by rw [h4]; exact not_m1 (by omega)
    refine ⟨AX x e, m', FrX.ax, h5.d, Or.inr ⟨e, h1, h4, fun Q hQ => hXl Q (h2 _ ⟨fun h => absurd rfl h, fun _ => ?_⟩), fun Q K hK hJ => h3 K (hK _ (eM_88b hbad hJ))⟩⟩
    rw [AX_2]; exact hQ
  rotate_left
  · -- a sixth digit
    have hbad : gI m' 0 0 32 ≠ -1 := by rw [h4]; exact not_m1 (by omega)
    obtain ⟨n1, n2, n3, n4, n5⟩ := isD_not hd
    have hX1 : CX (TX x nd t z sg lim v) b s nd (t + 1) := hX.tx
    refine ⟨AX (TX x nd t z sg lim v) e, m', FrX.tx.tr FrX.ax, h5.d, Or.inr ⟨e, by omega, h4, fun Q hQ => hXl Q (h2 _ ⟨fun _ => ?_, fun h => absurd h (by decide)⟩), fun Q K hK hJ => h3 K (hK _ (eM_88b hbad hJ))⟩⟩
    refine xX_signHere hX1.1 hX1.2.1 hX1.2.2.1 hs (by omega) ?_
    rw [skp_stop n1]
    have hch : chX b s e = b e := by unfold chX; rw [if_pos h1]
    rw [hch]
    refine ⟨fun _ => ⟨fun _ => ?_, fun h => absurd h n4⟩, fun h => absurd h n5⟩
    rw [AX_2]; exact hQ
  -- a term
  have hX1 : CX (TX x nd t z sg lim v) b s nd (t + 1) := hX.tx
  have hM1 : CM m' b s nd (t + 1) := by
    obtain ⟨d1, d2, d3, d4, d5, d6⟩ := hM
    refine ⟨h4.1, ?_, ?_, h5, ?_, h6⟩
    · rw [h4.2.2.2.2.2 30 (by decide) (by decide)]; exact d2
    · rw [h4.2.2.1 133 (by decide) (by decide) (by decide) (by decide) (by decide) (by decide)]; exact d3
    · rw [h4.2.2.2.2.2 29 (by decide) (by decide)]; exact d5
  have hT1 : Tm (TX x nd t z sg lim v) m' nd (t + 1) := hT.step h4 hz h7 h8 hv1 hv2 h9
  have hr := skp_rng (b := b) (s - e) e
  have hfr : FrX nd x (TX x nd t z sg lim v) := FrX.tx
  have hn21 := vpin (show nd < 21 by omega) (by decide)
  have e6 := i32_nat (show nd < 2147483648 by omega)
  have r34 : ∀ a, gR (AM m' a) 0 0 34 = some 0 := fun a => by show gR m' 0 0 34 = some 0; rw [hM1.1]; exact rM_at (by decide)
  have hX2 : ∀ Q : Int32 → tw_T → Prop, ((¬ chX b s (skp b (s - e) e) = -1 → ((¬ chX b s (skp b (s - e) e) = 44 → Q (i32 (skp b (s - e) e)) (AX (TX x nd t z sg lim v) (skp b (s - e) e))) ∧ (chX b s (skp b (s - e) e) = 44 → ((t + 1 < 12 → L_X7_readDish_23 0 nd Q (fun (τ18 : tw_T) (z19 : Int32) => Q (gI τ18 6 0 2) τ18) r (AX (TX x nd t z sg lim v) (skp b (s - e) e + 1)) (i32 (t + 1))) ∧ (¬ t + 1 < 12 → Q (i32 (skp b (s - e) e)) (AX (TX x nd t z sg lim v) (skp b (s - e) e))))))) ∧ (chX b s (skp b (s - e) e) = -1 → Q (-1) (AX (TX x nd t z sg lim v) (skp b (s - e) e)))) → L_X7_readDish_23 0 nd Q (fun (τ18 : tw_T) (z19 : Int32) => Q (gI τ18 6 0 2) τ18) (r + 1) (AX x a) (i32 t) := by
    intro Q ⟨g1, g2⟩
    refine hXl Q (h2 _ ⟨fun _ => ?_, fun h => absurd h (by decide)⟩)
    refine xX_signHere hX1.1 hX1.2.1 hX1.2.2.1 hs h1 ?_
    refine ⟨fun k1 => ⟨fun k2 => ?_, fun k2 => ?_⟩, g2⟩
    · rw [AX_2]; exact (g1 k1).1 k2
    · have hf4 : gI (AX (TX x nd t z sg lim v) (skp b (s - e) e)) 22 nd 4 = i32 (t + 1) := by unfold AX; rw [row_sI (Or.inl (by decide))]; exact hX1.2.2.2.2.2.2.2
      have hlt : (i32 (t + 1) < (12 : Int32)) ↔ t + 1 < 12 := lt_i32 (c := 12) (by omega) (by decide)
      unfold F_X0_isFull
      rw [hf4, hlt]
      refine ⟨fun k3 => ⟨fun _ => ?_, fun h => absurd rfl h⟩, fun k3 => ⟨fun h => absurd h (by decide), fun _ => ?_⟩⟩
      · intro τ12 h12 z13 h13
        subst h12; subst h13
        rw [AX_2, i32_succ, AX_s, i32_succ]
        exact ((g1 k1).2 k2).1 k3
      · rw [AX_2]; exact ((g1 k1).2 k2).2 k3
  have hM2 : ∀ (Q : Int32 → tw_T → Prop) (K : tw_T → Prop), (∀ τ, L_X10_dish_88 0 Q (fun (τ34 : tw_T) => J_X10_dish_146 τ34 0 Q) (r + 2) τ → K τ) → ((¬ chM b s (skp b (s - e) e) = 44 → J_X10_dish_146 (AM m' (skp b (s - e) e)) 0 Q) ∧ (chM b s (skp b (s - e) e) = 44 → ((t + 1 ≠ 12 → F_X10_readTerm (AM m' (skp b (s - e) e + 1)) 0 (fun (τ20 : tw_T) => L_X10_dish_88 0 Q (fun (τ34 : tw_T) => J_X10_dish_146 τ34 0 Q) (r + 1) τ20)) ∧ (t + 1 = 12 → L_X10_dish_88 0 Q (fun (τ34 : tw_T) => J_X10_dish_146 τ34 0 Q) (r + 1) (sI (AM m' (skp b (s - e) e)) 0 0 32 (i32 (skp b (s - e) e))))))) → F_X10_readTerm (AM m a) 0 K := by
    intro Q K hK ⟨g1, g2⟩
    refine h3 K (hK _ ?_)
    rw [L_X10_dish_88, eM_fine1 (by rw [am32]; exact h5)]
    refine ⟨fun h => absurd h (by decide), fun _ => eM_here hM1.1 hM1.2.1 hM1.2.2.1 hs h1 ?_⟩
    refine ⟨g1, fun k2 => ⟨0, r34 _, ?_⟩⟩
    rw [AM_o (by decide), hM1.2.2.2.2.1, e6, AM_n (by decide), h6]
    have heq : (i32 (t + 1) = (12 : Int32)) ↔ t + 1 = 12 := i32_eq (b := 12) (by omega) (by decide)
    rw [heq]
    refine ⟨hn21, fun k3 => ?_, fun k3 => ?_⟩
    · intro τ19 h19
      subst h19
      rw [AM_31, i32_succ, AM_s]
      exact (g2 k2).1 k3
    · rw [eM_wrong (by rw [am32]; exact h5), AM_31]
      exact (g2 k2).2 k3
  generalize skp b (s - e) e = c at hr hX2 hM2
  have hc0 : c < s → chX b s c ≠ -1 := fun h => by
    unfold chX; rw [if_pos h]
    intro h9
    have := hb c
    rw [h9] at this
    exact absurd this (by decide)
  have n44 : (44 : Int32) ≠ -1 ∧ (44 : Int32) ≠ 0 := by decide
  have q44 := ch_is (b := b) (s := s) (a := c) n44.1 n44.2
  have hcb : gI (AM m' c) 0 0 32 = -1 := by rw [am32]; exact h5
  have h30 : gI (AM m' c) 0 0 30 = i32 s := by rw [AM_o (by decide)]; exact hM1.2.1
  by_cases hend : c < s
  rotate_left
  · -- the end
    have hcs : c = s := by omega
    have hchX : chX b s c = -1 := by unfold chX; rw [if_neg hend]
    have hchM : ¬ chM b s c = 44 := fun h => absurd (q44.2 (q44.1.mpr h)) hend
    refine ⟨AX (TX x nd t z sg lim v) c, AM m' c, hfr.tr FrX.ax, h4.d.w (Or.inl rfl), Or.inl ⟨t + 1, by omega, hT1.ax.am, ?_, ?_, hcb, fun Q hQ => hX2 Q ⟨fun h => absurd hchX h, fun _ => hQ⟩, fun Q K hK hJ => hM2 Q K hK ⟨fun _ => ?_, fun h => absurd h hchM⟩⟩⟩
    · unfold AX; rw [row_sI (Or.inl (by decide))]; exact hX1.2.2.2.2.2.2.2
    · rw [AM_n (by decide)]; exact h6
    · unfold J_X10_dish_146
      rw [eM_fine1 hcb, h30, AM_31]
      exact ⟨fun h => absurd h (by decide), fun _ => ⟨fun _ => hJ, fun h => absurd ((le_i32 (by omega) (by omega)).mpr (by omega)) h⟩⟩
  have hnx := hc0 hend
  have hwb : gI (sI (AM m' c) 0 0 32 (i32 c)) 0 0 32 = i32 c := by rw [gI_sI, if_pos ⟨rfl, rfl, rfl⟩]
  have hwb' : gI (sI (AM m' c) 0 0 32 (i32 c)) 0 0 32 ≠ -1 := by rw [hwb]; exact not_m1 (by omega)
  by_cases hcom : chX b s c = 44
  rotate_left
  · -- no comma
    refine ⟨AX (TX x nd t z sg lim v) c, sI (AM m' c) 0 0 32 (i32 c), hfr.tr FrX.ax, (h4.d.w (Or.inl rfl)).w (Or.inr rfl), Or.inr ⟨c, by omega, hwb, fun Q hQ => hX2 Q ⟨fun _ => ⟨fun _ => hQ, fun h => absurd h hcom⟩, fun h => absurd h hnx⟩, fun Q K hK hJ => hM2 Q K hK ⟨fun _ => ?_, fun h => absurd (q44.1.mpr h) hcom⟩⟩⟩
    unfold J_X10_dish_146
    rw [eM_fine1 hcb, h30, AM_31]
    refine ⟨fun h => absurd h (by decide), fun _ => ⟨fun h => absurd ((le_i32 (by omega) (by omega)).mp h) (by omega), fun _ => ?_⟩⟩
    rw [eM_wrong hcb]
    exact hJ
  by_cases hfull : t + 1 < 12
  rotate_left
  · -- a thirteenth
    refine ⟨AX (TX x nd t z sg lim v) c, sI (AM m' c) 0 0 32 (i32 c), hfr.tr FrX.ax, (h4.d.w (Or.inl rfl)).w (Or.inr rfl), Or.inr ⟨c, by omega, hwb, fun Q hQ => hX2 Q ⟨fun _ => ⟨fun h => absurd hcom h, fun _ => ⟨fun h => absurd h hfull, fun _ => hQ⟩⟩, fun h => absurd h hnx⟩, fun Q K hK hJ => hM2 Q K hK ⟨fun h => absurd (q44.1.mp hcom) h, fun _ => ⟨fun h => absurd (by omega) h, fun _ => eM_88b hwb' hJ⟩⟩⟩⟩
  -- the next term
  obtain ⟨r', rfl⟩ : ∃ r', r = r' + 1 := ⟨r - 1, by omega⟩
  obtain ⟨x9, m9, k1, k2, k3⟩ := ih r' (t + 1) (c + 1) (TX x nd t z sg lim v) m' rfl (by omega) (by omega) hX1 hM1 hT1
  refine ⟨x9, m9, hfr.tr k1, h4.d.tr k2, ?_⟩
  rcases k3 with ⟨T, j1, j2, j3, j4, j5, j6, j7⟩ | ⟨e', j1, j2, j3, j4⟩
  · exact Or.inl ⟨T, j1, j2, j3, j4, j5, fun Q hQ => hX2 Q ⟨fun _ => ⟨fun h => absurd hcom h, fun _ => ⟨fun _ => j6 Q hQ, fun h => absurd hfull h⟩⟩, fun h => absurd h hnx⟩, fun Q K hK hJ => hM2 Q K hK ⟨fun h => absurd (q44.1.mp hcom) h, fun _ => ⟨fun _ => j7 Q _ (fun _ h => h) hJ, fun h => absurd h (by omega)⟩⟩⟩
  · exact Or.inr ⟨e', j1, j2, fun Q hQ => hX2 Q ⟨fun _ => ⟨fun h => absurd hcom h, fun _ => ⟨fun _ => j3 Q hQ, fun h => absurd hfull h⟩⟩, fun h => absurd h hnx⟩, fun Q K hK hJ => hM2 Q K hK ⟨fun h => absurd (q44.1.mp hcom) h, fun _ => ⟨fun _ => j4 Q _ (fun _ h => h) hJ, fun h => absurd h (by omega)⟩⟩⟩
set_option maxRecDepth 16384 in
theorem dish_all {b : Nat → Int32} {s nd : Nat} (hs : s ≤ 200) (hn : nd < 20) (hb : ∀ i, 0 ≤ (b i).toInt) : ∀ (r t a : Nat) (x m : tw_T), t + r = 11 → a ≤ s → CX x b s nd t → CM m b s nd t → Tm x m nd t → DishR b s nd r t a x m := by
  intro r
  induction r with
  | zero =>
    intro t a x m ht ha hX hM hT
    exact dish_step hs hn hb 0 t a x m ht ha hX hM hT (fun r' t' a' x' m' h => by omega)
  | succ r ih =>
    intro t a x m ht ha hX hM hT
    refine dish_step hs hn hb (r + 1) t a x m ht ha hX hM hT (fun r' t' a' x' m' h1 h2 h3 h4 h5 h6 => ?_)
    have : r' = r := by omega
    subst this
    exact ih t' a' x' m' h2 h3 h4 h5 h6
