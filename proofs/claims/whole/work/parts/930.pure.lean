/-! ===== dish ===== -/
set_option maxRecDepth 16384 in
def ND (x : tw_T) (nd : Nat) : tw_T := sR (sI (sR (nW (sR (nW (sR (nW (sR (nW (nW x 22 1) 30 1) 22 nd 0 (some nd)) 31 1) 22 nd 1 (some nd)) 32 1) 22 nd 2 (some nd)) 33 1) 22 nd 3 (some nd)) 22 nd 4 0) 3 0 nd (some nd)
set_option maxRecDepth 16384 in
set_option maxHeartbeats 2000000 in
theorem RelA.newDish {n nk nl no nt nd ns : Nat} {x m : tw_T} (hA : RelA n nk nl no nt nd nd ns x m) (hn : nd < 20) : RelA n nk nl no nt nd (nd + 1) ns (ND x nd) m := by
  obtain ⟨hM, hX0, hK0, hL0, hC0, hO0, hG0, hT0, hD0, hW0⟩ := hA
  unfold ND
  refine ⟨(by simpa only [hI_s, hI_n, hJ_s, hJ_n, hR_s, hR_n, hIW_s, hIW_n, hJW_s, hJW_n, hRW_s, hRW_n, hNW_s, hNW_n, hRM_s, hRM_n, u2_s, u2_j, u2_row, u2_kk, gR_sI, gR_sJ, gJ_sI, gI_sJ, gN_sI, gN_sJ, gI_sR, gJ_sR, gN_sR, gI_sM, gJ_sM, gN_sM, ne_eq, Nat.reduceEqDiff, not_false_eq_true, reduceCtorEq, true_implies] using hM), (by simpa only [hI_s, hI_n, hJ_s, hJ_n, hR_s, hR_n, hIW_s, hIW_n, hJW_s, hJW_n, hRW_s, hRW_n, hNW_s, hNW_n, hRM_s, hRM_n, u2_s, u2_j, u2_row, u2_kk, gR_sI, gR_sJ, gJ_sI, gI_sJ, gN_sI, gN_sJ, gI_sR, gJ_sR, gN_sR, gI_sM, gJ_sM, gN_sM, ne_eq, Nat.reduceEqDiff, not_false_eq_true, reduceCtorEq, true_implies] using hX0), (by simpa only [hI_s, hI_n, hJ_s, hJ_n, hR_s, hR_n, hIW_s, hIW_n, hJW_s, hJW_n, hRW_s, hRW_n, hNW_s, hNW_n, hRM_s, hRM_n, u2_s, u2_j, u2_row, u2_kk, gR_sI, gR_sJ, gJ_sI, gI_sJ, gN_sI, gN_sJ, gI_sR, gJ_sR, gN_sR, gI_sM, gJ_sM, gN_sM, ne_eq, Nat.reduceEqDiff, not_false_eq_true, reduceCtorEq, true_implies] using hK0), (by simpa only [hI_s, hI_n, hJ_s, hJ_n, hR_s, hR_n, hIW_s, hIW_n, hJW_s, hJW_n, hRW_s, hRW_n, hNW_s, hNW_n, hRM_s, hRM_n, u2_s, u2_j, u2_row, u2_kk, gR_sI, gR_sJ, gJ_sI, gI_sJ, gN_sI, gN_sJ, gI_sR, gJ_sR, gN_sR, gI_sM, gJ_sM, gN_sM, ne_eq, Nat.reduceEqDiff, not_false_eq_true, reduceCtorEq, true_implies] using hL0), (by simpa only [hI_s, hI_n, hJ_s, hJ_n, hR_s, hR_n, hIW_s, hIW_n, hJW_s, hJW_n, hRW_s, hRW_n, hNW_s, hNW_n, hRM_s, hRM_n, u2_s, u2_j, u2_row, u2_kk, gR_sI, gR_sJ, gJ_sI, gI_sJ, gN_sI, gN_sJ, gI_sR, gJ_sR, gN_sR, gI_sM, gJ_sM, gN_sM, ne_eq, Nat.reduceEqDiff, not_false_eq_true, reduceCtorEq, true_implies] using hC0), (by simpa only [hI_s, hI_n, hJ_s, hJ_n, hR_s, hR_n, hIW_s, hIW_n, hJW_s, hJW_n, hRW_s, hRW_n, hNW_s, hNW_n, hRM_s, hRM_n, u2_s, u2_j, u2_row, u2_kk, gR_sI, gR_sJ, gJ_sI, gI_sJ, gN_sI, gN_sJ, gI_sR, gJ_sR, gN_sR, gI_sM, gJ_sM, gN_sM, ne_eq, Nat.reduceEqDiff, not_false_eq_true, reduceCtorEq, true_implies] using hO0), (by simpa only [hI_s, hI_n, hJ_s, hJ_n, hR_s, hR_n, hIW_s, hIW_n, hJW_s, hJW_n, hRW_s, hRW_n, hNW_s, hNW_n, hRM_s, hRM_n, u2_s, u2_j, u2_row, u2_kk, gR_sI, gR_sJ, gJ_sI, gI_sJ, gN_sI, gN_sJ, gI_sR, gJ_sR, gN_sR, gI_sM, gJ_sM, gN_sM, ne_eq, Nat.reduceEqDiff, not_false_eq_true, reduceCtorEq, true_implies] using hG0), (by simpa only [hI_s, hI_n, hJ_s, hJ_n, hR_s, hR_n, hIW_s, hIW_n, hJW_s, hJW_n, hRW_s, hRW_n, hNW_s, hNW_n, hRM_s, hRM_n, u2_s, u2_j, u2_row, u2_kk, gR_sI, gR_sJ, gJ_sI, gI_sJ, gN_sI, gN_sJ, gI_sR, gJ_sR, gN_sR, gI_sM, gJ_sM, gN_sM, ne_eq, Nat.reduceEqDiff, not_false_eq_true, reduceCtorEq, true_implies] using hT0), ?_, (by simpa only [hI_s, hI_n, hJ_s, hJ_n, hR_s, hR_n, hIW_s, hIW_n, hJW_s, hJW_n, hRW_s, hRW_n, hNW_s, hNW_n, hRM_s, hRM_n, u2_s, u2_j, u2_row, u2_kk, gR_sI, gR_sJ, gJ_sI, gI_sJ, gN_sI, gN_sJ, gI_sR, gJ_sR, gN_sR, gI_sM, gJ_sM, gN_sM, ne_eq, Nat.reduceEqDiff, not_false_eq_true, reduceCtorEq, true_implies] using hW0)⟩
  simp only [hI_s, hI_n, hJ_s, hJ_n, hR_s, hR_n, hIW_s, hIW_n, hJW_s, hJW_n, hRW_s, hRW_n, hNW_s, hNW_n, hRM_s, hRM_n, u2_s, u2_j, u2_row, u2_kk, gR_sI, gR_sJ, gJ_sI, gI_sJ, gN_sI, gN_sJ, gI_sR, gJ_sR, gN_sR, gI_sM, gJ_sM, gN_sM, ne_eq, Nat.reduceEqDiff, not_false_eq_true, reduceCtorEq, true_implies]
  obtain ⟨d1, d2, d3, d4, d5, d6, d7, d8, d9, e1, e2, e3⟩ := hD0
  refine ⟨d1, d2, d3, Or.inr ⟨rfl, hn⟩, by omega, by omega, by omega, by omega, by omega, fun i hi => ?_, fun i hi => ?_, fun i hi => ?_⟩
  · by_cases e : i = nd
    · rw [e]
      exact ⟨u2_s, by simp [upd2], by simp [upd2], by simp [upd2], by simp [upd2]⟩
    · obtain ⟨a1, a2, a3, a4, a5⟩ := e1 i (by omega)
      have e' : ¬ nd ≤ i := by omega
      simp only [upd2, zer2, e, e', d5, false_and, and_false, if_false]
      exact ⟨a1, a2, a3, a4, a5⟩
  · have e : i ≠ nd := by omega
    simp only [upd2, e, and_false, if_false]
    exact e2 i (by omega)
  · obtain ⟨T, t1, t2, t3, t4⟩ := e3 i hi
    have e : i ≠ nd := by omega
    have e' : ¬ nd ≤ i := by omega
    refine ⟨T, t1, ?_, t3, fun t ht => ?_⟩
    · simp only [upd2, zer2, e, e', d5, false_and, and_false, if_false]; exact t2
    · obtain ⟨z, z1, z2, z3, z4, z5, z6, z7⟩ := t4 t ht
      refine ⟨z, z1, ?_, z3, ?_, z5, z6, fun h9 => ⟨?_, ?_⟩⟩
      · simp only [zer2, e', d6, false_and, and_false, if_false]; exact z2
      · simp only [zer2, e', d9, false_and, and_false, if_false]; exact z4
      · simp only [zer2, e', d7, false_and, and_false, if_false]; exact (z7 h9).1
      · simp only [zer2, e', d8, false_and, and_false, if_false]; exact (z7 h9).2
set_option maxRecDepth 16384 in
set_option maxHeartbeats 2000000 in
theorem dish_rel {n nk nl no nt nd nd' ns s : Nat} {x1 m0 x' m' : tw_T} (hA : RelA n nk nl no nt nd (nd + 1) ns x1 m0) (hn : nd < 20) (hFX : FrX nd (sI (sI x1 6 0 3 (i32 s)) 22 nd 4 0) x') (hFM : FrD nd (sI (sI (sI (sI m0 0 0 28 0) 0 0 30 (i32 s)) 0 0 32 (-1)) 134 0 nd 0) m')
    (hnd : nd' = nd ∨ (nd' = nd + 1 ∧ ∃ T, T ≤ 12 ∧ Tm x' m' nd T ∧ gI x' 22 nd 4 = i32 T ∧ gI m' 134 0 nd = i32 T)) :
    Rel n (sI (sI x' 6 0 1 0) 0 0 13 (i32 nd')) (sI m' 0 0 29 (i32 nd')) := by
  obtain ⟨hM, hX0, hK0, hL0, hC0, hO0, hG0, hT0, hD0, hW0⟩ := hA
  obtain ⟨f1, f2, f3, f4, f5, f6, f7⟩ := hFX
  obtain ⟨g1, g2, g3, g4, g5, g6⟩ := hFM
  have yJ : gJ (sI (sI x' 6 0 1 0) 0 0 13 (i32 nd')) = gJ x1 := f1
  have yN : gN (sI (sI x' 6 0 1 0) 0 0 13 (i32 nd')) = gN x1 := f2
  have yR : ∀ f, f ≠ 30 → gR (sI (sI x' 6 0 1 0) 0 0 13 (i32 nd')) f = gR x1 f := fun f h => f3 f h
  have yR30 : ∀ k, k ≠ nd → gR (sI (sI x' 6 0 1 0) 0 0 13 (i32 nd')) 30 k = gR x1 30 k := fun k h => f4 k h
  have y1 : ∀ f, f ≠ 0 → f ≠ 6 → f ≠ 22 → f ≠ 31 → f ≠ 32 → f ≠ 33 → gI (sI (sI x' 6 0 1 0) 0 0 13 (i32 nd')) f = gI x1 f := fun f h0 h1 h2 h3 h4 h5 => by
    rw [hI_n h0, hI_n h1, f5 f h1 h2 h3 h4 h5, hI_n h2, hI_n h1]
  have y0 : ∀ j, j ≠ 13 → gI (sI (sI x' 6 0 1 0) 0 0 13 (i32 nd')) 0 0 j = gI x1 0 0 j := fun j h => by
    rw [gI_sI, if_neg (fun h9 => h h9.2.2), hI_n (by decide), f5 0 (by decide) (by decide) (by decide) (by decide) (by decide), hI_n (by decide), hI_n (by decide)]
  have yk : ∀ f k, k ≠ nd → f ≠ 0 → f ≠ 6 → gI (sI (sI x' 6 0 1 0) 0 0 13 (i32 nd')) f k = gI x1 f k := fun f k h h0 h6 => by
    rw [hI_n h0, hI_n h6, f6 f k h h6, row_sI (Or.inr h), hI_n h6]
  have ynd : ∀ f, f ≠ 0 → f ≠ 6 → gI (sI (sI x' 6 0 1 0) 0 0 13 (i32 nd')) f nd = gI x' f nd := fun f h0 h6 => by rw [hI_n h0, hI_n h6]
  have yRnd : gR (sI (sI x' 6 0 1 0) 0 0 13 (i32 nd')) 30 nd = gR x' 30 nd := rfl
  have zJ : gJ (sI m' 0 0 29 (i32 nd')) = gJ m0 := g2
  have z1 : ∀ f, f ≠ 0 → f ≠ 134 → f ≠ 135 → f ≠ 136 → f ≠ 137 → f ≠ 138 → gI (sI m' 0 0 29 (i32 nd')) f = gI m0 f := fun f h0 h1 h2 h3 h4 h5 => by
    rw [hI_n h0, g3 f h0 h1 h2 h3 h4 h5, hI_n h1, hI_n h0, hI_n h0, hI_n h0]
  have z0 : ∀ j, j ≠ 28 → j ≠ 29 → j ≠ 30 → j ≠ 31 → j ≠ 32 → gI (sI m' 0 0 29 (i32 nd')) 0 0 j = gI m0 0 0 j := fun j h0 h1 h2 h3 h4 => by
    rw [gI_sI, if_neg (fun h9 => h1 h9.2.2), g6 j h3 h4, gI_sI, if_neg (by omega), gI_sI, if_neg (by omega), gI_sI, if_neg (by omega), gI_sI, if_neg (by omega)]
  have zlo : ∀ f j, f ≠ 0 → f ≠ 134 → j < 12 * nd → gI (sI m' 0 0 29 (i32 nd')) f 0 j = gI m0 f 0 j := fun f j h0 h1 hj => by
    rw [hI_n h0, g4 f j h0 h1 hj, hI_n h1, hI_n h0, hI_n h0, hI_n h0]
  have z134 : ∀ j, j ≠ nd → gI (sI m' 0 0 29 (i32 nd')) 134 0 j = gI m0 134 0 j := fun j hj => by
    rw [hI_n (by decide), g5 j hj, gI_sI, if_neg (by omega), hI_n (by decide), hI_n (by decide), hI_n (by decide)]
  have zf : ∀ f, f ≠ 0 → gI (sI m' 0 0 29 (i32 nd')) f = gI m' f := fun f h0 => hI_n h0
  have yl : gI (sI (sI x' 6 0 1 0) 0 0 13 (i32 nd')) 6 0 1 = 0 := by rw [hI_n (by decide), gI_sI, if_pos ⟨rfl, rfl, rfl⟩]
  have zl : gI (sI m' 0 0 29 (i32 nd')) 0 0 28 = 0 := by
    rw [gI_sI, if_neg (by decide), g6 28 (by decide) (by decide), gI_sI, if_neg (by omega), gI_sI, if_neg (by decide), gI_sI, if_neg (by decide), gI_sI, if_pos ⟨rfl, rfl, rfl⟩]
  have yd : gI (sI (sI x' 6 0 1 0) 0 0 13 (i32 nd')) 0 0 13 = i32 nd' := by rw [gI_sI, if_pos ⟨rfl, rfl, rfl⟩]
  have zd : gI (sI m' 0 0 29 (i32 nd')) 0 0 29 = i32 nd' := by rw [gI_sI, if_pos ⟨rfl, rfl, rfl⟩]
  have zM : gR (sI m' 0 0 29 (i32 nd')) = rM := g1
  generalize (sI (sI x' 6 0 1 0) 0 0 13 (i32 nd')) = x9 at yJ yN yR yR30 yRnd y1 y0 yk ynd yl yd ⊢
  generalize (sI m' 0 0 29 (i32 nd')) = m9 at zJ z1 z0 zlo z134 zf zl zd zM ⊢
  refine ⟨nk, nl, no, 0, nd', nd + 1, ns, zM, ?_, ?_, ?_, ?_, ?_, ?_, ?_, ?_, ?_⟩
  · simpa only [yR, ne_eq, Nat.reduceEqDiff, not_false_eq_true, reduceCtorEq] using hX0
  · simpa only [yJ, yN, yR, y1, y0, zJ, z1, z0, ne_eq, Nat.reduceEqDiff, not_false_eq_true, reduceCtorEq] using hK0
  · simpa only [yJ, yN, yR, y1, y0, zJ, z1, z0, ne_eq, Nat.reduceEqDiff, not_false_eq_true, reduceCtorEq] using hL0
  · simpa only [yJ, yN, yR, y1, y0, zJ, z1, z0, ne_eq, Nat.reduceEqDiff, not_false_eq_true, reduceCtorEq] using hC0
  · simpa only [yJ, yN, yR, y1, y0, zJ, z1, z0, ne_eq, Nat.reduceEqDiff, not_false_eq_true, reduceCtorEq] using hO0
  · simpa only [yJ, yN, yR, y1, y0, zJ, z1, z0, ne_eq, Nat.reduceEqDiff, not_false_eq_true, reduceCtorEq] using hG0
  · obtain ⟨t1, t2, t3, t4, t5⟩ := hT0
    rw [y1 14 (by decide) (by decide) (by decide) (by decide) (by decide) (by decide), z1 133 (by decide) (by decide) (by decide) (by decide) (by decide) (by decide)]
    exact ⟨by omega, yl, zl, t4, t5⟩
  · obtain ⟨d1, d2, d3, d4, d5, d6, d7, d8, d9, e1, e2, e3⟩ := hD0
    have hk : ∀ i, i < nd → ∃ T, T ≤ 12 ∧ gI x9 22 i 4 = i32 T ∧ gI m9 134 0 i = i32 T ∧ ∀ t, t < T → ∃ z, z < 8 ∧ gR x9 30 i t = some z ∧ gI m9 135 0 (12 * i + t) = i32 z ∧ gI x9 33 i t = gI m9 138 0 (12 * i + t) ∧ -99999 ≤ (gI m9 138 0 (12 * i + t)).toInt ∧ (gI m9 138 0 (12 * i + t)).toInt ≤ 99999 ∧ (5 ≤ z → gI x9 31 i t = gI m9 136 0 (12 * i + t) ∧ gI x9 32 i t = gI m9 137 0 (12 * i + t)) := by
      intro i hi
      obtain ⟨T, t1, t2, t3, t4⟩ := e3 i hi
      refine ⟨T, t1, ?_, ?_, fun t ht => ?_⟩
      · rw [yk 22 i (by omega) (by decide) (by decide)]; exact t2
      · rw [z134 i (by omega)]; exact t3
      · obtain ⟨z, w1, w2, w3, w4, w5, w6, w7⟩ := t4 t ht
        rw [yR30 i (by omega), yk 31 i (by omega) (by decide) (by decide), yk 32 i (by omega) (by decide) (by decide), yk 33 i (by omega) (by decide) (by decide), zlo 135 _ (by decide) (by decide) (by omega), zlo 136 _ (by decide) (by decide) (by omega), zlo 137 _ (by decide) (by decide) (by omega), zlo 138 _ (by decide) (by decide) (by omega)]
        exact ⟨z, w1, w2, w3, w4, w5, w6, w7⟩
    refine ⟨by omega, yd, zd, by omega, by rw [yN]; exact d5, by rw [yN]; exact d6, by rw [yN]; exact d7, by rw [yN]; exact d8, by rw [yN]; exact d9, ?_, ?_, fun i hi => ?_⟩
    · rw [yR 3 (by decide), yR 22 (by decide)]; exact e1
    · rw [yR 3 (by decide)]; exact e2
    · rcases hnd with h | ⟨h, T, t1, t2, t3, t4⟩
      · exact hk i (by omega)
      · by_cases e : i = nd
        · rw [e]
          refine ⟨T, t1, by rw [ynd 22 (by decide) (by decide)]; exact t3, by rw [zf 134 (by decide)]; exact t4, fun t ht => ?_⟩
          obtain ⟨z, w1, w2, w3, w4, w5, w6, w7⟩ := t2 t ht
          rw [ynd 31 (by decide) (by decide), ynd 32 (by decide) (by decide), ynd 33 (by decide) (by decide), zf 135 (by decide), zf 136 (by decide), zf 137 (by decide), zf 138 (by decide)]
          exact ⟨z, w1, by rw [yRnd]; exact w2, w3, w4, w5, w6, w7⟩
        · exact hk i (by omega)
  · simpa only [yJ, yN, yR, y1, y0, zJ, z1, z0, ne_eq, Nat.reduceEqDiff, not_false_eq_true, reduceCtorEq] using hW0
set_option maxRecDepth 16384 in
theorem sI_self {τ : tw_T} {f k j : Nat} {v : Int32} (h : gI τ f k j = v) : sI τ f k j v = τ := by
  refine Prod.ext ?_ rfl
  funext a b c
  show (if a = f ∧ b = k ∧ c = j then v else gI τ a b c) = gI τ a b c
  by_cases e : a = f ∧ b = k ∧ c = j
  · rw [if_pos e, e.1, e.2.1, e.2.2]; exact h.symm
  · rw [if_neg e]
set_option maxRecDepth 16384 in
def DQ (Q : Int32 → tw_T → Prop) (r6 : Int32) (τ5 : tw_T) : Prop := ∃ o7 : Nat, gR τ5 0 0 5 = some o7 ∧ ∀ τ8 : tw_T, τ8 = sI τ5 6 o7 1 0 → (r6 = -1 → ∀ τ10 : tw_T, τ10 = sI τ8 0 0 13 (gI τ8 0 0 13 + 1) → Q (gI τ10 0 0 13 - 1) τ10) ∧ (¬ r6 = -1 → Q (-2 - r6) τ8)
set_option maxRecDepth 16384 in
set_option maxHeartbeats 2000000 in
theorem dish_core {n nk nl no nt nd ns s : Nat} {x1 m0 : tw_T} (hA : RelA n nk nl no nt nd (nd + 1) ns x1 m0) (hn : nd < 20) (hs : s ≤ nt) :
    ∃ r x9 m9, (∀ (Q : Int32 → tw_T → Prop) (X : Nat → tw_T → Prop), Q r x9 → J_X9_dish_76 x1 0 (i32 s) Q X) ∧
      (∀ Q : Int32 → tw_T → Prop, Q r m9 → F_X10_readTerm (AM (sI (sI (sI (sI m0 0 0 28 0) 0 0 30 (i32 s)) 0 0 32 (-1)) 134 0 nd 0) 0) 0 (fun (τ32 : tw_T) => (∃ n33 : Nat, L_X10_dish_88 0 Q (fun (τ34 : tw_T) => J_X10_dish_146 τ34 0 Q) n33 τ32))) ∧ gI m9 0 0 0 = gI m0 0 0 0 ∧ Rel n x9 m9 := by
  have hA0 := hA
  obtain ⟨hM, hX0, hK0, hL0, hC0, hO0, hG0, hT0, hD0, hW0⟩ := hA
  have x0 := hX0.1
  have x6 := hX0.2.2.1
  obtain ⟨t1, t2, t3, t4, t5⟩ := hT0
  obtain ⟨d1, d2, d3, d4, d5, d6, d7, d8, d9, e1, e2, e3⟩ := hD0
  obtain ⟨r1, r2, r3, r4, r5⟩ := e1 nd (by omega)
  have hs200 : s ≤ 200 := by omega
  have hCX : CX (sI (sI x1 6 0 3 (i32 s)) 22 nd 4 0) (gI m0 133 0) s nd 0 := by
    refine ⟨x6, ?_, ?_, r2, r3, r4, r5, ?_⟩
    · rw [row_sI (Or.inl (by decide)), gI_sI, if_pos ⟨rfl, rfl, rfl⟩]
    · rw [hI_n (by decide), hI_n (by decide)]; exact t4
    · rw [gI_sI, if_pos ⟨rfl, rfl, rfl⟩]; rfl
  have hCM : CM (sI (sI (sI (sI m0 0 0 28 0) 0 0 30 (i32 s)) 0 0 32 (-1)) 134 0 nd 0) (gI m0 133 0) s nd 0 := by
    refine ⟨hM, ?_, ?_, ?_, ?_, ?_⟩
    · rw [row_sI (Or.inl (by decide)), gI_sI, if_neg (by decide), gI_sI, if_pos ⟨rfl, rfl, rfl⟩]
    · rw [hI_n (by decide), hI_n (by decide), hI_n (by decide), hI_n (by decide)]
    · rw [row_sI (Or.inl (by decide)), gI_sI, if_pos ⟨rfl, rfl, rfl⟩]
    · rw [row_sI (Or.inl (by decide)), gI_sI, if_neg (by decide), gI_sI, if_neg (by decide), gI_sI, if_neg (by decide)]; exact d3
    · rw [gI_sI, if_pos ⟨rfl, rfl, rfl⟩]; rfl
  obtain ⟨x', m', fX, fM, res⟩ := dish_all hs200 hn (fun i => (t5 i).1) 11 0 0 _ _ rfl (Nat.zero_le s) hCX hCM (fun t ht => by omega)
  have v20 := vpin (show nd < 20 by omega) (by decide)
  have n20 := i32_nat (show nd < 2147483648 by omega)
  have q5 : gR x' 0 0 5 = some 0 := by
    rw [fX.2.2.1 0 (by decide)]; show gR x1 0 0 5 = some 0; rw [x0]; exact rXs_at (by decide)
  have q13 : gI x' 0 0 13 = i32 nd := by
    rw [fX.2.2.2.2.1 0 (by decide) (by decide) (by decide) (by decide) (by decide), hI_n (by decide), hI_n (by decide)]; exact d2
  have q29 : gI m' 0 0 29 = i32 nd := by
    rw [fM.2.2.2.2.2 29 (by decide) (by decide), row_sI (Or.inl (by decide)), gI_sI, if_neg (by decide), gI_sI, if_neg (by decide), gI_sI, if_neg (by decide)]; exact d3
  have q00 : gI m' 0 0 0 = gI m0 0 0 0 := by
    rw [fM.2.2.2.2.2 0 (by decide) (by decide), row_sI (Or.inl (by decide)), gI_sI, if_neg (by decide), gI_sI, if_neg (by decide), gI_sI, if_neg (by decide)]
  -- the class up to its reading
  have hXr : ∀ (Q : Int32 → tw_T → Prop) (X : Nat → tw_T → Prop), L_X7_readDish_23 0 nd (DQ Q) (fun (τ18 : tw_T) (z19 : Int32) => DQ Q (gI τ18 6 0 2) τ18) 12 (AX (sI (sI x1 6 0 3 (i32 s)) 22 nd 4 0) 0) (i32 0) → J_X9_dish_76 x1 0 (i32 s) Q X := by
    intro Q X h
    unfold J_X9_dish_76
    rw [d2, n20]
    refine ⟨0, by rw [x0]; exact rXs_at (by decide), 0, by rw [x0]; exact rXs_at (by decide), v20, nd, r1, ?_⟩
    unfold F_X7_readDish F_X0_clear
    intro τ14 h14 τ15 h15 τ16 h16
    subst h14
    have hlt : ¬ gI (sI x1 6 0 2 0) 6 0 1 < i32 s := by
      rw [gI_sI, if_neg (by decide), t2]
      exact fun h9 => absurd ((lt_i32 (by omega) (by omega)).mp h9) (by omega)
    rw [if_neg hlt] at h15
    subst h15
    subst h16
    have hst : sI (sI (sI x1 6 0 2 0) 6 0 3 (i32 s)) 22 nd 4 0 = AX (sI (sI x1 6 0 3 (i32 s)) 22 nd 4 0) 0 := by
      unfold AX
      rw [sI_comm (f := 6) (k := 0) (j := 2) (f' := 6) (k' := 0) (j' := 3) (Or.inr (Or.inr (by decide))), sI_comm (f := 6) (k := 0) (j := 2) (f' := 22) (Or.inl (by decide))]
      try rfl
    rw [hst]
    exact ⟨12, h⟩
  rcases res with ⟨T, j1, j2, j3, j4, j5, j6, j7⟩ | ⟨e, j1, j2, j3, j4⟩
  · refine ⟨i32 nd, sI (sI x' 6 0 1 0) 0 0 13 (i32 (nd + 1)), sI m' 0 0 29 (i32 (nd + 1)), fun Q X hQ => hXr Q X (j6 _ ?_), fun Q hQ => j7 Q _ (fun τ h => ⟨13, h⟩) ?_, ?_, dish_rel hA0 hn fX fM (Or.inr ⟨rfl, T, j1, j2, j3, j4⟩)⟩
    · refine ⟨0, q5, fun τ8 h8 => ⟨fun _ τ10 h10 => ?_, fun h => absurd rfl h⟩⟩
      subst h8
      rw [row_sI (Or.inl (by decide)), q13, i32_succ] at h10
      subst h10
      rw [gI_sI, if_pos ⟨rfl, rfl, rfl⟩, i32_pred]
      exact hQ
    · unfold J_X10_dish_172
      rw [eM_fine1 j5, q29, i32_succ]
      refine ⟨fun _ τ4 h4 => ?_, fun h => absurd h (by decide)⟩
      subst h4
      rw [gI_sI, if_pos ⟨rfl, rfl, rfl⟩, i32_pred]
      exact hQ
    · rw [gI_sI, if_neg (by decide)]; exact q00
  · have hne : ¬ i32 e = -1 := not_m1 (by omega)
    have R := dish_rel (nd' := nd) hA0 hn fX fM (Or.inl rfl)
    rw [sI_self (τ := sI x' 6 0 1 0) (by rw [row_sI (Or.inl (by decide))]; exact q13), sI_self q29] at R
    refine ⟨-2 - i32 e, sI x' 6 0 1 0, m', fun Q X hQ => hXr Q X (j3 _ ?_), fun Q hQ => j4 Q _ (fun τ h => ⟨13, h⟩) ?_, q00, R⟩
    · refine ⟨0, q5, fun τ8 h8 => ⟨fun h => absurd h hne, fun _ => ?_⟩⟩
      subst h8
      exact hQ
    · unfold J_X10_dish_172
      rw [eM_fine0 (by rw [j2]; exact hne), j2]
      exact ⟨fun h => absurd rfl h, fun _ => hQ⟩
set_option maxRecDepth 16384 in
set_option maxHeartbeats 2000000 in
theorem op_dish (n : Nat) (x m : tw_T) (a : Int32) (v : Int64) (h : Rel n x m) :
    F_L_dish x 0 a v (fun kk ww x9 => F_X10_dish m 0 a (fun rr m9 => gI m9 0 0 0 = kk ∧ (kk = 0 → ww = rr.toInt64) ∧ Rel (n + 1) x9 m9)) := by
  have hr := h
  obtain ⟨nk, nl, no, nt, nd, na, ns, hA⟩ := h
  have hA0 := hA
  obtain ⟨hM, hX0, hK0, hL0, hC0, hO0, hG0, hT0, hD0, hW0⟩ := hA
  have x0 := hX0.1
  obtain ⟨t1, t2, t3, t4, t5⟩ := hT0
  have hD := hD0
  obtain ⟨d1, d2, d3, d4, d5, d6, d7, d8, d9, e1, e2, e3⟩ := hD
  have l28 : gI (sI m 0 0 0 0) 0 0 28 = i32 nt := by rw [gI_sI, if_neg (by decide)]; exact t3
  by_cases p1 : 0 ≤ a.toInt ∧ a.toInt ≤ nt
  rotate_left
  · have hm : ∀ Q : Int32 → tw_T → Prop, Q 0 (sI (sI m 0 0 0 0) 0 0 0 1) → F_X10_dish m 0 a Q := by
      intro Q hQ
      have hJ : J_X10_dish_22 (sI m 0 0 0 0) 0 a 0 Q := by
        unfold J_X10_dish_22 J_X10_dish_23
        rw [eM_may0]
        exact ⟨fun _ => ⟨fun _ => hQ, fun h => absurd rfl h⟩, fun h => absurd h (by decide)⟩
      unfold F_X10_dish
      intro τ39 h39
      subst h39
      rw [l28]
      refine ⟨fun _ => hJ, fun h1 => ⟨fun _ => hJ, fun h2 => ?_⟩⟩
      exfalso
      rw [i32_lt0] at h1
      rw [Int32.lt_iff_toInt_lt, i32_int (by omega)] at h2
      omega
    simp only [F_L_dish, F_X9_dish, x0, t2, eX_isWithin, Int32.toInt_toInt64, Int64.reduceToInt, i32_int (show nt < 2147483648 by omega), bz_eq0, p1, ↓forall_eq, bz_b, gR_sI, gR_sJ, gJ_sI, gI_sJ, gN_sI, gN_sJ, gI_sR, gJ_sR, gN_sR, gI_sI, gJ_sJ, gR_sR, gI_nW, gR_nW, gN_nW, gJ_nW, rM_at, rXs_at, rXd_at, ex_s, true_and, and_true, false_and, and_false, or_true, true_or, or_false, false_or, if_true, if_false, not_true_eq_false, not_false_eq_true, forall_const, true_implies, false_implies, implies_true, Nat.reduceLeDiff, Nat.reduceEqDiff, reduceCtorEq, i32_succ, i32_pred, Nat.le_refl, Nat.lt_add_one, Nat.reduceLT, ne_eq, Nat.add_one_ne_zero]
    refine hm _ ?_
    simp only [pu_10, ↓forall_eq, bz_b, gR_sI, gR_sJ, gJ_sI, gI_sJ, gN_sI, gN_sJ, gI_sR, gJ_sR, gN_sR, gI_sI, gJ_sJ, gR_sR, gI_nW, gR_nW, gN_nW, gJ_nW, rM_at, rXs_at, rXd_at, ex_s, true_and, and_true, false_and, and_false, or_true, true_or, or_false, false_or, if_true, if_false, not_true_eq_false, not_false_eq_true, forall_const, true_implies, false_implies, implies_true, Nat.reduceLeDiff, Nat.reduceEqDiff, reduceCtorEq, i32_succ, i32_pred, Nat.le_refl, Nat.lt_add_one, Nat.reduceLT, ne_eq, Nat.add_one_ne_zero]; exact hr.t.t.up
  obtain ⟨s, rfl, hs1, hs2⟩ := i32_of (x := a) p1.1
  have hs : s ≤ nt := by omega
  have g1 : ¬ i32 s < 0 := by rw [i32_lt0, i32_int (by omega)]; omega
  have g2 : ¬ i32 nt < i32 s := fun h9 => absurd ((lt_i32 (by omega) (by omega)).mp h9) (by omega)
  have l29 : gI (sI m 0 0 0 0) 0 0 29 = i32 nd := by rw [gI_sI, if_neg (by decide)]; exact d3
  have c1 : (i32 nd < (20 : Int32)) ↔ nd < 20 := lt_i32 (c := 20) (by omega) (by decide)
  have c2 : ((20 : Int32) ≤ i32 nd) ↔ 20 ≤ nd := le_i32 (k := 20) (by decide) (by omega)
  by_cases p2 : nd < 20
  rotate_left
  · have hm : ∀ Q : Int32 → tw_T → Prop, Q 0 (sI (sI m 0 0 0 0) 0 0 0 2) → F_X10_dish m 0 (i32 s) Q := by
      intro Q hQ
      unfold F_X10_dish J_X10_dish_23 J_X10_dish_45
      intro τ39 h39
      subst h39
      rw [l28, eM_may1]
      refine ⟨fun h => absurd h g1, fun _ => ⟨fun h => absurd h g2, fun _ => ⟨fun h => absurd h (by decide), fun _ => ?_⟩⟩⟩
      rw [l29, c2, eM_may0]
      exact ⟨fun _ => ⟨fun _ => ⟨fun h => absurd rfl h, fun _ => hQ⟩, fun h => absurd h (by decide)⟩, fun h => absurd (by omega) h⟩
    simp only [F_L_dish, F_X9_dish, x0, t2, eX_isWithin, Int32.toInt_toInt64, Int64.reduceToInt, i32_int (show nt < 2147483648 by omega), bz_eq0, p1, d2, c1, p2, ↓forall_eq, bz_b, gR_sI, gR_sJ, gJ_sI, gI_sJ, gN_sI, gN_sJ, gI_sR, gJ_sR, gN_sR, gI_sI, gJ_sJ, gR_sR, gI_nW, gR_nW, gN_nW, gJ_nW, rM_at, rXs_at, rXd_at, ex_s, true_and, and_true, false_and, and_false, or_true, true_or, or_false, false_or, if_true, if_false, not_true_eq_false, not_false_eq_true, forall_const, true_implies, false_implies, implies_true, Nat.reduceLeDiff, Nat.reduceEqDiff, reduceCtorEq, i32_succ, i32_pred, Nat.le_refl, Nat.lt_add_one, Nat.reduceLT, ne_eq, Nat.add_one_ne_zero]
    refine hm _ ?_
    simp only [pu_20, ↓forall_eq, bz_b, gR_sI, gR_sJ, gJ_sI, gI_sJ, gN_sI, gN_sJ, gI_sR, gJ_sR, gN_sR, gI_sI, gJ_sJ, gR_sR, gI_nW, gR_nW, gN_nW, gJ_nW, rM_at, rXs_at, rXd_at, ex_s, true_and, and_true, false_and, and_false, or_true, true_or, or_false, false_or, if_true, if_false, not_true_eq_false, not_false_eq_true, forall_const, true_implies, false_implies, implies_true, Nat.reduceLeDiff, Nat.reduceEqDiff, reduceCtorEq, i32_succ, i32_pred, Nat.le_refl, Nat.lt_add_one, Nat.reduceLT, ne_eq, Nat.add_one_ne_zero]; exact hr.t.t.up
  have v20 := vpin p2 (by decide)
  have n20 := i32_nat (show nd < 2147483648 by omega)
  have hm : ∀ Q : Int32 → tw_T → Prop, F_X10_readTerm (AM (sI (sI (sI (sI (sI m 0 0 0 0) 0 0 28 0) 0 0 30 (i32 s)) 0 0 32 (-1)) 134 0 nd 0) 0) 0 (fun (τ32 : tw_T) => (∃ n33 : Nat, L_X10_dish_88 0 Q (fun (τ34 : tw_T) => J_X10_dish_146 τ34 0 Q) n33 τ32)) → F_X10_dish m 0 (i32 s) Q := by
    intro Q hQ
    unfold F_X10_dish J_X10_dish_23 J_X10_dish_45
    intro τ39 h39
    subst h39
    rw [l28, eM_may1]
    refine ⟨fun h => absurd h g1, fun _ => ⟨fun h => absurd h g2, fun _ => ⟨fun h => absurd h (by decide), fun _ => ?_⟩⟩⟩
    rw [l29, c2, eM_may1]
    refine ⟨fun h => absurd h (by omega), fun _ => ⟨fun _ => ?_, fun h => absurd h (by decide)⟩⟩
    intro τ25 h25 τ26 h26 τ27 h27 τ28 h28
    subst h25; subst h26; subst h27; subst h28
    have l29' : gI (sI (sI (sI (sI (sI m 0 0 0 0) 0 0 28 0) 0 0 30 (i32 s)) 0 0 31 0) 0 0 32 (-1)) 0 0 29 = i32 nd := by
      rw [gI_sI, if_neg (by decide), gI_sI, if_neg (by decide), gI_sI, if_neg (by decide), gI_sI, if_neg (by decide)]; exact l29
    rw [l29', n20]
    refine ⟨0, by show gR m 0 0 34 = some 0; rw [hM]; exact rM_at (by decide), vpin (show nd < 21 by omega) (by decide), fun τ31 h31 => ?_⟩
    subst h31
    have hst : sI (sI (sI (sI (sI (sI m 0 0 0 0) 0 0 28 0) 0 0 30 (i32 s)) 0 0 31 0) 0 0 32 (-1)) 134 0 nd 0 = AM (sI (sI (sI (sI (sI m 0 0 0 0) 0 0 28 0) 0 0 30 (i32 s)) 0 0 32 (-1)) 134 0 nd 0) 0 := by
      unfold AM
      rw [sI_comm (f := 0) (k := 0) (j := 31) (f' := 0) (k' := 0) (j' := 32) (Or.inr (Or.inr (by decide))), sI_comm (f := 0) (k := 0) (j := 31) (f' := 134) (Or.inl (by decide))]
      try rfl
    rw [hst]
    exact hQ
  by_cases p3 : na = nd
  · have hA1 : RelA n nk nl no nt nd nd ns x m := by rw [p3] at hA0; exact hA0
    have hnone : gR x 3 0 nd = none := e2 nd (by omega)
    have q5 : gN x 22 = nd := by rw [d5, p3]
    have q6 : gN x 30 = nd := by rw [d6, p3]
    have q7 : gN x 31 = nd := by rw [d7, p3]
    have q8 : gN x 32 = nd := by rw [d8, p3]
    have q9 : gN x 33 = nd := by rw [d9, p3]
    obtain ⟨r, x9, m9, fX, fM, z, R⟩ := dish_core ((hA1.newDish p2).t (t := 0)) p2 hs
    have z' : gI m9 0 0 0 = 0 := z.trans (by simp [gI_sI])
    simp only [F_L_dish, F_X9_dish, x0, t2, eX_isWithin, Int32.toInt_toInt64, Int64.reduceToInt, i32_int (show nt < 2147483648 by omega), bz_eq0, p1, d2, c1, p2, v20, n20, hnone, F_X0_init, q5, q6, q7, q8, q9, ↓forall_eq, bz_b, gR_sI, gR_sJ, gJ_sI, gI_sJ, gN_sI, gN_sJ, gI_sR, gJ_sR, gN_sR, gI_sI, gJ_sJ, gR_sR, gI_nW, gR_nW, gN_nW, gJ_nW, rM_at, rXs_at, rXd_at, ex_s, true_and, and_true, false_and, and_false, or_true, true_or, or_false, false_or, if_true, if_false, not_true_eq_false, not_false_eq_true, forall_const, true_implies, false_implies, implies_true, Nat.reduceLeDiff, Nat.reduceEqDiff, reduceCtorEq, i32_succ, i32_pred, Nat.le_refl, Nat.lt_add_one, Nat.reduceLT, ne_eq, Nat.add_one_ne_zero]
    show J_X9_dish_76 (ND x nd) 0 (i32 s) _ _
    refine fX _ _ (hm _ (fM _ ?_))
    first | exact ⟨z', fun _ => rfl, R.up⟩ | exact ⟨z', rfl, R.up⟩
  · have p4 : na = nd + 1 := by omega
    have hA1 : RelA n nk nl no nt nd (nd + 1) ns x m := by rw [p4] at hA0; exact hA0
    have hsome : gR x 3 0 nd = some nd := (e1 nd (by omega)).1
    obtain ⟨r, x9, m9, fX, fM, z, R⟩ := dish_core (hA1.t (t := 0)) p2 hs
    have z' : gI m9 0 0 0 = 0 := z.trans (by simp [gI_sI])
    simp only [F_L_dish, F_X9_dish, x0, t2, eX_isWithin, Int32.toInt_toInt64, Int64.reduceToInt, i32_int (show nt < 2147483648 by omega), bz_eq0, p1, d2, c1, p2, v20, n20, hsome, ↓forall_eq, bz_b, gR_sI, gR_sJ, gJ_sI, gI_sJ, gN_sI, gN_sJ, gI_sR, gJ_sR, gN_sR, gI_sI, gJ_sJ, gR_sR, gI_nW, gR_nW, gN_nW, gJ_nW, rM_at, rXs_at, rXd_at, ex_s, true_and, and_true, false_and, and_false, or_true, true_or, or_false, false_or, if_true, if_false, not_true_eq_false, not_false_eq_true, forall_const, true_implies, false_implies, implies_true, Nat.reduceLeDiff, Nat.reduceEqDiff, reduceCtorEq, i32_succ, i32_pred, Nat.le_refl, Nat.lt_add_one, Nat.reduceLT, ne_eq, Nat.add_one_ne_zero]
    intro o18 h18
    refine fX _ _ (hm _ (fM _ ?_))
    first | exact ⟨z', fun _ => rfl, R.up⟩ | exact ⟨z', rfl, R.up⟩
