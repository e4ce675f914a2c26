/-! ===== put, move, sell, broken, counted ===== -/
set_option maxRecDepth 16384 in
theorem lit12 : (12 : Int32).toInt = 12 := rfl
set_option maxRecDepth 16384 in
theorem not_m1 {i : Nat} (hi : i < 2147483648) : ¬ i32 i = -1 := fun h => by
  have := congrArg Int32.toInt h
  rw [i32_int hi] at this
  have t : (-1 : Int32).toInt = -1 := rfl
  omega
set_option maxRecDepth 16384 in
theorem i32_eq0 {x : Int32} : x = 0 ↔ x.toInt = 0 := ⟨fun h => by rw [h]; rfl, fun h => i32_ext h⟩
set_option maxRecDepth 16384 in
set_option maxHeartbeats 1000000 in
theorem op_put (n : Nat) (x m : tw_T) (a : Int32) (b : Int32) (k : Int32) (v : Int64) (h : Rel n x m) :
    F_L_put x 0 a b k v (fun kk ww x9 => F_X10_put m 0 a b k (fun rr m9 => gI m9 0 0 0 = kk ∧ (kk = 0 → ww = rr.toInt64) ∧ Rel (n + 1) x9 m9)) := by
  have hr := h
  obtain ⟨nk, nl, no, nt, nd, na, ns, hM, hX, hK, hL, hC, hO, hG, hT, hD, hW⟩ := h
  have hX0 := hX; have hK0 := hK; have hL0 := hL; have hC0 := hC; have hO0 := hO; have hG0 := hG; have hT0 := hT; have hD0 := hD; have hW0 := hW
  obtain ⟨x0, x5, x6, x8, x15, x16, x24, x25⟩ := hX
  obtain ⟨c1, c2, c3⟩ := hC
  obtain ⟨l1, l2, l3, l4, l5⟩ := hL
  by_cases p1 : 0 ≤ a.toInt ∧ a.toInt ≤ 29
  rotate_left
  · simp only [F_L_put, F_X9_put, xX_requireCell, F_X10_put, eM_isCell, p1, pu_00, pu_10, pu_20, pu_30, ↓forall_eq, bz_b, gR_sI, gR_sJ, gJ_sI, gI_sJ, gN_sI, gN_sJ, gI_sR, gJ_sR, gN_sR, gI_sI, gJ_sJ, gR_sR, gI_nW, gR_nW, gN_nW, gJ_nW, rM_at, rXs_at, rXd_at, ex_s, true_and, and_true, false_and, and_false, or_true, true_or, or_false, false_or, if_true, if_false, not_true_eq_false, not_false_eq_true, forall_const, true_implies, false_implies, implies_true, Nat.reduceLeDiff, Nat.reduceEqDiff, reduceCtorEq, i32_succ, i32_pred, Nat.le_refl, Nat.lt_add_one, Nat.reduceLT, ne_eq, Nat.add_one_ne_zero]
    exact hr.t.t.up
  by_cases p2 : 0 ≤ b.toInt ∧ b.toInt < nl
  rotate_left
  · simp only [F_L_put, F_X9_put, xX_requireCell, xX_lotAt_bad l2 l1 p2, F_X10_put, eM_isCell, eM_isLot l3 l1 (show (2 : Int32) ≠ 0 by decide), p1, p2, pu_00, pu_10, pu_20, pu_30, ↓forall_eq, bz_b, gR_sI, gR_sJ, gJ_sI, gI_sJ, gN_sI, gN_sJ, gI_sR, gJ_sR, gN_sR, gI_sI, gJ_sJ, gR_sR, gI_nW, gR_nW, gN_nW, gJ_nW, rM_at, rXs_at, rXd_at, ex_s, true_and, and_true, false_and, and_false, or_true, true_or, or_false, false_or, if_true, if_false, not_true_eq_false, not_false_eq_true, forall_const, true_implies, false_implies, implies_true, Nat.reduceLeDiff, Nat.reduceEqDiff, reduceCtorEq, i32_succ, i32_pred, Nat.le_refl, Nat.lt_add_one, Nat.reduceLT, ne_eq, Nat.add_one_ne_zero]
    exact hr.t.t.up
  obtain ⟨c, rfl, hc1, hc2⟩ := i32_of (x := a) p1.1
  have hc : c < 30 := by omega
  obtain ⟨i, rfl, hi1, hi2⟩ := i32_of (x := b) p2.1
  have hi : i < nl := by omega
  by_cases p3 : 1 ≤ k.toInt ∧ k.toInt ≤ 12
  rotate_left
  · simp only [F_L_put, F_X9_put, xX_requireCell, xX_lotAt x0 l2 l1 hi (l5 i hi).1, eX_isWithin, Int32.toInt_toInt64, Int64.reduceToInt, bz_eq0, F_X10_put, eM_isCell, eM_isLot l3 l1 (show (2 : Int32) ≠ 0 by decide), p1, p2, p3, eM_within, eM_mayz (show (3 : Int32) ≠ 0 by decide), Int32.reduceToInt, pu_00, pu_10, pu_20, pu_30, ↓forall_eq, bz_b, gR_sI, gR_sJ, gJ_sI, gI_sJ, gN_sI, gN_sJ, gI_sR, gJ_sR, gN_sR, gI_sI, gJ_sJ, gR_sR, gI_nW, gR_nW, gN_nW, gJ_nW, rM_at, rXs_at, rXd_at, ex_s, true_and, and_true, false_and, and_false, or_true, true_or, or_false, false_or, if_true, if_false, not_true_eq_false, not_false_eq_true, forall_const, true_implies, false_implies, implies_true, Nat.reduceLeDiff, Nat.reduceEqDiff, reduceCtorEq, i32_succ, i32_pred, Nat.le_refl, Nat.lt_add_one, Nat.reduceLT, ne_eq, Nat.add_one_ne_zero]
    exact hr.t.t.up
  have e3 := vpin hc (by decide)
  have e4 := i32_nat (show c < 2147483648 by omega)
  have hm1 : ¬ (i32 i = -1) := not_m1 (by omega)
  simp only [F_L_put, F_X9_put, xX_requireCell, xX_lotAt x0 l2 l1 hi (l5 i hi).1, eX_isWithin, Int32.toInt_toInt64, Int64.reduceToInt, bz_eq0, p1, p3, xX_takesLot x5 hc, x0, c1, c2, ↓forall_eq, bz_b, gR_sI, gR_sJ, gJ_sI, gI_sJ, gN_sI, gN_sJ, gI_sR, gJ_sR, gN_sR, gI_sI, gJ_sJ, gR_sR, gI_nW, gR_nW, gN_nW, gJ_nW, rM_at, rXs_at, rXd_at, ex_s, true_and, and_true, false_and, and_false, or_true, true_or, or_false, false_or, if_true, if_false, not_true_eq_false, not_false_eq_true, forall_const, true_implies, false_implies, implies_true, Nat.reduceLeDiff, Nat.reduceEqDiff, reduceCtorEq, i32_succ, i32_pred, Nat.le_refl, Nat.lt_add_one, Nat.reduceLT, ne_eq, Nat.add_one_ne_zero]
  by_cases p4 : gI m 124 0 c = 0 ∨ gI m 123 0 c = i32 i
  rotate_left
  · have p4a : ¬ gI m 124 0 c = 0 := fun h9 => p4 (Or.inl h9)
    have p4b : ¬ gI m 123 0 c = i32 i := fun h9 => p4 (Or.inr h9)
    have p4c : ¬ gI m 123 0 c = -1 := by
      rcases c3 c hc with h4 | ⟨h4, h5, l, h6, h7⟩
      · exact absurd h4.1 p4a
      · rw [h7]; exact not_m1 (by omega)
    simp only [p4a, p4b, p4c, F_X10_put, eM_isCell, eM_isLot l3 l1 (show (2 : Int32) ≠ 0 by decide), p1, p2, p3, eM_within, eM_mayz (show (3 : Int32) ≠ 0 by decide), Int32.reduceToInt, hM, e3, e4, pu_00, pu_10, pu_20, pu_30, ↓forall_eq, bz_b, gR_sI, gR_sJ, gJ_sI, gI_sJ, gN_sI, gN_sJ, gI_sR, gJ_sR, gN_sR, gI_sI, gJ_sJ, gR_sR, gI_nW, gR_nW, gN_nW, gJ_nW, rM_at, rXs_at, rXd_at, ex_s, true_and, and_true, false_and, and_false, or_true, true_or, or_false, false_or, if_true, if_false, not_true_eq_false, not_false_eq_true, forall_const, true_implies, false_implies, implies_true, Nat.reduceLeDiff, Nat.reduceEqDiff, reduceCtorEq, i32_succ, i32_pred, Nat.le_refl, Nat.lt_add_one, Nat.reduceLT, ne_eq, Nat.add_one_ne_zero]
    exact hr.t.up
  have p4' : gI m 123 0 c = -1 ∨ gI m 123 0 c = i32 i := by
    rcases p4 with h9 | h9
    · rcases c3 c hc with h4 | ⟨h4, h5, l, h6, h7⟩
      · exact Or.inl h4.2
      · rw [h9] at h4; exact absurd h4 (by decide)
    · exact Or.inr h9
  have hb : 0 ≤ (gI m 124 0 c).toInt ∧ (gI m 124 0 c).toInt ≤ 12 := by
    rcases c3 c hc with h4 | ⟨h4, h5, l, h6, h7⟩
    · rw [h4.1]; decide
    · omega
  have hbs : (gI m 124 0 c + k).toInt = (gI m 124 0 c).toInt + k.toInt := i32_add (by omega) (by omega)
  have hm : ∀ Q : Int32 → tw_T → Prop, F_X10_put m 0 (i32 c) (i32 i) k Q ↔ J_X10_put_61 (sI m 0 0 0 0) 0 (i32 c) (i32 i) k Q := by
    intro Q
    simp only [F_X10_put, eM_isCell, eM_isLot l3 l1 (show (2 : Int32) ≠ 0 by decide), p1, p2, p3, eM_within, eM_mayz (show (3 : Int32) ≠ 0 by decide), Int32.reduceToInt, hM, e3, e4, pu_00, pu_10, pu_20, pu_30, ↓forall_eq, bz_b, gR_sI, gR_sJ, gJ_sI, gI_sJ, gN_sI, gN_sJ, gI_sR, gJ_sR, gN_sR, gI_sI, gJ_sJ, gR_sR, gI_nW, gR_nW, gN_nW, gJ_nW, rM_at, rXs_at, rXd_at, ex_s, true_and, and_true, false_and, and_false, or_true, true_or, or_false, false_or, if_true, if_false, not_true_eq_false, not_false_eq_true, forall_const, true_implies, false_implies, implies_true, Nat.reduceLeDiff, Nat.reduceEqDiff, reduceCtorEq, i32_succ, i32_pred, Nat.le_refl, Nat.lt_add_one, Nat.reduceLT, ne_eq, Nat.add_one_ne_zero]
    rcases p4' with h9 | h9
    · simp only [h9, ↓forall_eq, bz_b, gR_sI, gR_sJ, gJ_sI, gI_sJ, gN_sI, gN_sJ, gI_sR, gJ_sR, gN_sR, gI_sI, gJ_sJ, gR_sR, gI_nW, gR_nW, gN_nW, gJ_nW, rM_at, rXs_at, rXd_at, ex_s, true_and, and_true, false_and, and_false, or_true, true_or, or_false, false_or, if_true, if_false, not_true_eq_false, not_false_eq_true, forall_const, true_implies, false_implies, implies_true, Nat.reduceLeDiff, Nat.reduceEqDiff, reduceCtorEq, i32_succ, i32_pred, Nat.le_refl, Nat.lt_add_one, Nat.reduceLT, ne_eq, Nat.add_one_ne_zero]
    · have : ¬ i32 i = -1 := hm1
      simp only [h9, this, ↓forall_eq, bz_b, gR_sI, gR_sJ, gJ_sI, gI_sJ, gN_sI, gN_sJ, gI_sR, gJ_sR, gN_sR, gI_sI, gJ_sJ, gR_sR, gI_nW, gR_nW, gN_nW, gJ_nW, rM_at, rXs_at, rXd_at, ex_s, true_and, and_true, false_and, and_false, or_true, true_or, or_false, false_or, if_true, if_false, not_true_eq_false, not_false_eq_true, forall_const, true_implies, false_implies, implies_true, Nat.reduceLeDiff, Nat.reduceEqDiff, reduceCtorEq, i32_succ, i32_pred, Nat.le_refl, Nat.lt_add_one, Nat.reduceLT, ne_eq, Nat.add_one_ne_zero]
  simp only [p4, xX_hasRoom x5 hc, bz_eq0, c2, hm, J_X10_put_61, hM, e3, e4, ↓forall_eq, bz_b, gR_sI, gR_sJ, gJ_sI, gI_sJ, gN_sI, gN_sJ, gI_sR, gJ_sR, gN_sR, gI_sI, gJ_sJ, gR_sR, gI_nW, gR_nW, gN_nW, gJ_nW, rM_at, rXs_at, rXd_at, ex_s, true_and, and_true, false_and, and_false, or_true, true_or, or_false, false_or, if_true, if_false, not_true_eq_false, not_false_eq_true, forall_const, true_implies, false_implies, implies_true, Nat.reduceLeDiff, Nat.reduceEqDiff, reduceCtorEq, i32_succ, i32_pred, Nat.le_refl, Nat.lt_add_one, Nat.reduceLT, ne_eq, Nat.add_one_ne_zero]
  by_cases p5 : 12 < gI m 124 0 c + k
  · have p5' : ¬ gI m 124 0 c + k ≤ 12 := by
      rw [Int32.lt_iff_toInt_lt] at p5; rw [Int32.le_iff_toInt_le]; omega
    simp only [p5, p5', pu_00, ↓forall_eq, bz_b, gR_sI, gR_sJ, gJ_sI, gI_sJ, gN_sI, gN_sJ, gI_sR, gJ_sR, gN_sR, gI_sI, gJ_sJ, gR_sR, gI_nW, gR_nW, gN_nW, gJ_nW, rM_at, rXs_at, rXd_at, ex_s, true_and, and_true, false_and, and_false, or_true, true_or, or_false, false_or, if_true, if_false, not_true_eq_false, not_false_eq_true, forall_const, true_implies, false_implies, implies_true, Nat.reduceLeDiff, Nat.reduceEqDiff, reduceCtorEq, i32_succ, i32_pred, Nat.le_refl, Nat.lt_add_one, Nat.reduceLT, ne_eq, Nat.add_one_ne_zero]; exact hr.t.up
  have p5' : gI m 124 0 c + k ≤ 12 := by
    rw [Int32.lt_iff_toInt_lt] at p5; rw [Int32.le_iff_toInt_le]; omega
  have hz : ¬ gI m 124 0 c + k = 0 := by rw [i32_eq0, hbs]; omega
  simp only [p5, p5', pu_00, xX_add x5 hc, x0, x5, c2, e3, e4, ↓forall_eq, bz_b, gR_sI, gR_sJ, gJ_sI, gI_sJ, gN_sI, gN_sJ, gI_sR, gJ_sR, gN_sR, gI_sI, gJ_sJ, gR_sR, gI_nW, gR_nW, gN_nW, gJ_nW, rM_at, rXs_at, rXd_at, ex_s, true_and, and_true, false_and, and_false, or_true, true_or, or_false, false_or, if_true, if_false, not_true_eq_false, not_false_eq_true, forall_const, true_implies, false_implies, implies_true, Nat.reduceLeDiff, Nat.reduceEqDiff, reduceCtorEq, i32_succ, i32_pred, Nat.le_refl, Nat.lt_add_one, Nat.reduceLT, ne_eq, Nat.add_one_ne_zero]
  rw [eM_adds (by simpa only [hI_s, hI_n, hJ_s, hJ_n, hR_s, hR_n, hIW_s, hIW_n, hJW_s, hJW_n, hRW_s, hRW_n, hNW_s, hNW_n, hRM_s, hRM_n, u2_s, u2_j, u2_row, u2_kk, gR_sI, gR_sJ, gJ_sI, gI_sJ, gN_sI, gN_sJ, gI_sR, gJ_sR, gN_sR, gI_sM, gJ_sM, gN_sM, ne_eq, Nat.reduceEqDiff, not_false_eq_true, reduceCtorEq, true_implies] using hM) hc]
  simp only [hz, hM, e3, e4, ↓forall_eq, bz_b, gR_sI, gR_sJ, gJ_sI, gI_sJ, gN_sI, gN_sJ, gI_sR, gJ_sR, gN_sR, gI_sI, gJ_sJ, gR_sR, gI_nW, gR_nW, gN_nW, gJ_nW, rM_at, rXs_at, rXd_at, ex_s, true_and, and_true, false_and, and_false, or_true, true_or, or_false, false_or, if_true, if_false, not_true_eq_false, not_false_eq_true, forall_const, true_implies, false_implies, implies_true, Nat.reduceLeDiff, Nat.reduceEqDiff, reduceCtorEq, i32_succ, i32_pred, Nat.le_refl, Nat.lt_add_one, Nat.reduceLT, ne_eq, Nat.add_one_ne_zero]
  have hle : (gI m 124 0 c + k).toInt ≤ 12 := by rw [Int32.le_iff_toInt_le, lit12] at p5'; exact p5'
  refine ⟨nk, nl, no, nt, nd, na, ns, (by simpa only [hI_s, hI_n, hJ_s, hJ_n, hR_s, hR_n, hIW_s, hIW_n, hJW_s, hJW_n, hRW_s, hRW_n, hNW_s, hNW_n, hRM_s, hRM_n, u2_s, u2_j, u2_row, u2_kk, gR_sI, gR_sJ, gJ_sI, gI_sJ, gN_sI, gN_sJ, gI_sR, gJ_sR, gN_sR, gI_sM, gJ_sM, gN_sM, ne_eq, Nat.reduceEqDiff, not_false_eq_true, reduceCtorEq, true_implies] using hM), (by simpa only [hI_s, hI_n, hJ_s, hJ_n, hR_s, hR_n, hIW_s, hIW_n, hJW_s, hJW_n, hRW_s, hRW_n, hNW_s, hNW_n, hRM_s, hRM_n, u2_s, u2_j, u2_row, u2_kk, gR_sI, gR_sJ, gJ_sI, gI_sJ, gN_sI, gN_sJ, gI_sR, gJ_sR, gN_sR, gI_sM, gJ_sM, gN_sM, ne_eq, Nat.reduceEqDiff, not_false_eq_true, reduceCtorEq, true_implies] using hX0), (by simpa only [hI_s, hI_n, hJ_s, hJ_n, hR_s, hR_n, hIW_s, hIW_n, hJW_s, hJW_n, hRW_s, hRW_n, hNW_s, hNW_n, hRM_s, hRM_n, u2_s, u2_j, u2_row, u2_kk, gR_sI, gR_sJ, gJ_sI, gI_sJ, gN_sI, gN_sJ, gI_sR, gJ_sR, gN_sR, gI_sM, gJ_sM, gN_sM, ne_eq, Nat.reduceEqDiff, not_false_eq_true, reduceCtorEq, true_implies] using hK0), (by simpa only [hI_s, hI_n, hJ_s, hJ_n, hR_s, hR_n, hIW_s, hIW_n, hJW_s, hJW_n, hRW_s, hRW_n, hNW_s, hNW_n, hRM_s, hRM_n, u2_s, u2_j, u2_row, u2_kk, gR_sI, gR_sJ, gJ_sI, gI_sJ, gN_sI, gN_sJ, gI_sR, gJ_sR, gN_sR, gI_sM, gJ_sM, gN_sM, ne_eq, Nat.reduceEqDiff, not_false_eq_true, reduceCtorEq, true_implies] using hL0.up), ?_, (by simpa only [hI_s, hI_n, hJ_s, hJ_n, hR_s, hR_n, hIW_s, hIW_n, hJW_s, hJW_n, hRW_s, hRW_n, hNW_s, hNW_n, hRM_s, hRM_n, u2_s, u2_j, u2_row, u2_kk, gR_sI, gR_sJ, gJ_sI, gI_sJ, gN_sI, gN_sJ, gI_sR, gJ_sR, gN_sR, gI_sM, gJ_sM, gN_sM, ne_eq, Nat.reduceEqDiff, not_false_eq_true, reduceCtorEq, true_implies] using hO0), ?_, (by simpa only [hI_s, hI_n, hJ_s, hJ_n, hR_s, hR_n, hIW_s, hIW_n, hJW_s, hJW_n, hRW_s, hRW_n, hNW_s, hNW_n, hRM_s, hRM_n, u2_s, u2_j, u2_row, u2_kk, gR_sI, gR_sJ, gJ_sI, gI_sJ, gN_sI, gN_sJ, gI_sR, gJ_sR, gN_sR, gI_sM, gJ_sM, gN_sM, ne_eq, Nat.reduceEqDiff, not_false_eq_true, reduceCtorEq, true_implies] using hT0), (by simpa only [hI_s, hI_n, hJ_s, hJ_n, hR_s, hR_n, hIW_s, hIW_n, hJW_s, hJW_n, hRW_s, hRW_n, hNW_s, hNW_n, hRM_s, hRM_n, u2_s, u2_j, u2_row, u2_kk, gR_sI, gR_sJ, gJ_sI, gI_sJ, gN_sI, gN_sJ, gI_sR, gJ_sR, gN_sR, gI_sM, gJ_sM, gN_sM, ne_eq, Nat.reduceEqDiff, not_false_eq_true, reduceCtorEq, true_implies] using hD0), (by simpa only [hI_s, hI_n, hJ_s, hJ_n, hR_s, hR_n, hIW_s, hIW_n, hJW_s, hJW_n, hRW_s, hRW_n, hNW_s, hNW_n, hRM_s, hRM_n, u2_s, u2_j, u2_row, u2_kk, gR_sI, gR_sJ, gJ_sI, gI_sJ, gN_sI, gN_sJ, gI_sR, gJ_sR, gN_sR, gI_sM, gJ_sM, gN_sM, ne_eq, Nat.reduceEqDiff, not_false_eq_true, reduceCtorEq, true_implies] using hW0)⟩
  · simp only [hI_s, hI_n, hJ_s, hJ_n, hR_s, hR_n, hIW_s, hIW_n, hJW_s, hJW_n, hRW_s, hRW_n, hNW_s, hNW_n, hRM_s, hRM_n, u2_s, u2_j, u2_row, u2_kk, gR_sI, gR_sJ, gJ_sI, gI_sJ, gN_sI, gN_sJ, gI_sR, gJ_sR, gN_sR, gI_sM, gJ_sM, gN_sM, ne_eq, Nat.reduceEqDiff, not_false_eq_true, reduceCtorEq, true_implies]
    exact hC0.set (Or.inr ⟨by omega, hle, i, hi, rfl⟩)
  · simp only [hI_s, hI_n, hJ_s, hJ_n, hR_s, hR_n, hIW_s, hIW_n, hJW_s, hJW_n, hRW_s, hRW_n, hNW_s, hNW_n, hRM_s, hRM_n, u2_s, u2_j, u2_row, u2_kk, gR_sI, gR_sJ, gJ_sI, gI_sJ, gN_sI, gN_sJ, gI_sR, gJ_sR, gN_sR, gI_sM, gJ_sM, gN_sM, ne_eq, Nat.reduceEqDiff, not_false_eq_true, reduceCtorEq, true_implies]
    obtain ⟨g1, g2, g3, g4, gr⟩ := hG
    exact ⟨g1, g2, g3, by rw [g4], gr⟩
