/-! ===== scores ===== -/
set_option maxRecDepth 16384 in
def cB (v sg lim : Int32) : Bool := if sg = 60 then !decide (lim ≤ v) else if sg = 62 then !decide (v ≤ lim) else decide (v = lim)
set_option maxRecDepth 16384 in
def hB (z : Nat) (sg lim srt bdy red age wrt : Int32) : Bool := match z with
  | 0 => decide (red = 1)
  | 1 => decide (red = 0)
  | 2 => decide (srt = 0)
  | 3 => decide (srt = 1)
  | 4 => decide (srt = 2)
  | 5 => cB bdy sg lim
  | 6 => cB age sg lim
  | _ => cB wrt sg lim
set_option maxRecDepth 16384 in
theorem bzB {b : Bool} : bz (b = true) = if b then 1 else 0 := by cases b <;> rfl
set_option maxRecDepth 16384 in
theorem xX_compares {τ : tw_T} {v sg lim : Int32} {Q : Int32 → tw_T → Prop} : F_X0_compares τ v sg lim Q ↔ Q (bz (cB v sg lim = true)) τ := by
  unfold F_X0_compares cB
  by_cases a : sg = 60
  · by_cases b : lim ≤ v
    · simp only [a, b, decide_true, Bool.not_true, Bool.false_eq_true, bz_f, ↓forall_eq, bz_b, gR_sI, gR_sJ, gJ_sI, gI_sJ, gN_sI, gN_sJ, gI_sR, gJ_sR, gN_sR, gI_sI, gJ_sJ, gR_sR, gI_nW, gR_nW, gN_nW, gJ_nW, rM_at, rXs_at, rXd_at, ex_s, true_and, and_true, false_and, and_false, or_true, true_or, or_false, false_or, if_true, if_false, not_true_eq_false, not_false_eq_true, forall_const, true_implies, false_implies, implies_true, Nat.reduceLeDiff, Nat.reduceEqDiff, reduceCtorEq, i32_succ, i32_pred, Nat.le_refl, Nat.lt_add_one, Nat.reduceLT, ne_eq, Nat.add_one_ne_zero]
    · simp only [a, b, decide_false, Bool.not_false, bz_t, ↓forall_eq, bz_b, gR_sI, gR_sJ, gJ_sI, gI_sJ, gN_sI, gN_sJ, gI_sR, gJ_sR, gN_sR, gI_sI, gJ_sJ, gR_sR, gI_nW, gR_nW, gN_nW, gJ_nW, rM_at, rXs_at, rXd_at, ex_s, true_and, and_true, false_and, and_false, or_true, true_or, or_false, false_or, if_true, if_false, not_true_eq_false, not_false_eq_true, forall_const, true_implies, false_implies, implies_true, Nat.reduceLeDiff, Nat.reduceEqDiff, reduceCtorEq, i32_succ, i32_pred, Nat.le_refl, Nat.lt_add_one, Nat.reduceLT, ne_eq, Nat.add_one_ne_zero]
  · by_cases c : sg = 62
    · by_cases b : v ≤ lim
      · simp only [a, c, b, decide_true, Bool.not_true, Bool.false_eq_true, bz_f, show ¬ ((62 : Int32) = 60) by decide, ↓forall_eq, bz_b, gR_sI, gR_sJ, gJ_sI, gI_sJ, gN_sI, gN_sJ, gI_sR, gJ_sR, gN_sR, gI_sI, gJ_sJ, gR_sR, gI_nW, gR_nW, gN_nW, gJ_nW, rM_at, rXs_at, rXd_at, ex_s, true_and, and_true, false_and, and_false, or_true, true_or, or_false, false_or, if_true, if_false, not_true_eq_false, not_false_eq_true, forall_const, true_implies, false_implies, implies_true, Nat.reduceLeDiff, Nat.reduceEqDiff, reduceCtorEq, i32_succ, i32_pred, Nat.le_refl, Nat.lt_add_one, Nat.reduceLT, ne_eq, Nat.add_one_ne_zero]
      · simp only [a, c, b, decide_false, Bool.not_false, bz_t, show ¬ ((62 : Int32) = 60) by decide, ↓forall_eq, bz_b, gR_sI, gR_sJ, gJ_sI, gI_sJ, gN_sI, gN_sJ, gI_sR, gJ_sR, gN_sR, gI_sI, gJ_sJ, gR_sR, gI_nW, gR_nW, gN_nW, gJ_nW, rM_at, rXs_at, rXd_at, ex_s, true_and, and_true, false_and, and_false, or_true, true_or, or_false, false_or, if_true, if_false, not_true_eq_false, not_false_eq_true, forall_const, true_implies, false_implies, implies_true, Nat.reduceLeDiff, Nat.reduceEqDiff, reduceCtorEq, i32_succ, i32_pred, Nat.le_refl, Nat.lt_add_one, Nat.reduceLT, ne_eq, Nat.add_one_ne_zero]
    · by_cases b : v = lim
      · simp only [a, c, b, decide_true, bz_t, ↓forall_eq, bz_b, gR_sI, gR_sJ, gJ_sI, gI_sJ, gN_sI, gN_sJ, gI_sR, gJ_sR, gN_sR, gI_sI, gJ_sJ, gR_sR, gI_nW, gR_nW, gN_nW, gJ_nW, rM_at, rXs_at, rXd_at, ex_s, true_and, and_true, false_and, and_false, or_true, true_or, or_false, false_or, if_true, if_false, not_true_eq_false, not_false_eq_true, forall_const, true_implies, false_implies, implies_true, Nat.reduceLeDiff, Nat.reduceEqDiff, reduceCtorEq, i32_succ, i32_pred, Nat.le_refl, Nat.lt_add_one, Nat.reduceLT, ne_eq, Nat.add_one_ne_zero]
      · simp only [a, c, b, decide_false, Bool.false_eq_true, bz_f, ↓forall_eq, bz_b, gR_sI, gR_sJ, gJ_sI, gI_sJ, gN_sI, gN_sJ, gI_sR, gJ_sR, gN_sR, gI_sI, gJ_sJ, gR_sR, gI_nW, gR_nW, gN_nW, gJ_nW, rM_at, rXs_at, rXd_at, ex_s, true_and, and_true, false_and, and_false, or_true, true_or, or_false, false_or, if_true, if_false, not_true_eq_false, not_false_eq_true, forall_const, true_implies, false_implies, implies_true, Nat.reduceLeDiff, Nat.reduceEqDiff, reduceCtorEq, i32_succ, i32_pred, Nat.le_refl, Nat.lt_add_one, Nat.reduceLT, ne_eq, Nat.add_one_ne_zero]
set_option maxRecDepth 16384 in
theorem lt8 {z : Nat} (h : z < 8) : z = 0 ∨ z = 1 ∨ z = 2 ∨ z = 3 ∨ z = 4 ∨ z = 5 ∨ z = 6 ∨ z = 7 := by omega
set_option maxRecDepth 16384 in
theorem zm0 : zx_meas 0 = 0 := rfl
set_option maxRecDepth 16384 in
theorem zm1 : zx_meas 1 = 0 := rfl
set_option maxRecDepth 16384 in
theorem zm2 : zx_meas 2 = 0 := rfl
set_option maxRecDepth 16384 in
theorem zm3 : zx_meas 3 = 0 := rfl
set_option maxRecDepth 16384 in
theorem zm4 : zx_meas 4 = 0 := rfl
set_option maxRecDepth 16384 in
theorem zm5 : zx_meas 5 = 1 := rfl
set_option maxRecDepth 16384 in
theorem zm6 : zx_meas 6 = 1 := rfl
set_option maxRecDepth 16384 in
theorem zm7 : zx_meas 7 = 1 := rfl
set_option maxRecDepth 16384 in
theorem zs2 : zx_sort 2 = 0 := rfl
set_option maxRecDepth 16384 in
theorem zs3 : zx_sort 3 = 1 := rfl
set_option maxRecDepth 16384 in
theorem zs4 : zx_sort 4 = 2 := rfl
set_option maxRecDepth 16384 in
set_option maxHeartbeats 1000000 in
theorem xX_holds {x : tw_T} {d t z i q : Nat} {y : Int32} {Q : Int32 → tw_T → Prop} (d0 : gR x 22 d 0 = some d) (d1 : gR x 22 d 1 = some d) (d2 : gR x 22 d 2 = some d) (ht : t < 12) (hz : gR x 30 d t = some z) (hz8 : z < 8) (hq : gR x 21 i 1 = some q) (hb : tw_b (gI x 20 q 2)) :
    F_X0_holds x d (i32 t) i y Q ↔ Q (bz (hB z (gI x 31 d t) (gI x 32 d t) (gI x 20 q 0) (gI x 20 q 1) (gI x 20 q 2) (y - gI x 21 i 2) (wv (gI x 21 i 3) (gI x 21 i 4) (gI x 21 i 5) (gI x 20 q 0) y) = true)) x := by
  have e3 := vpin ht (by decide)
  have e4 := i32_nat (show t < 2147483648 by omega)
  rcases lt8 hz8 with rfl | rfl | rfl | rfl | rfl | rfl | rfl | rfl
  · simp only [F_X0_holds, d0, e3, e4, hz, zm0, hq, hb, hB, Nat.reduceLT, ↓forall_eq, bz_b, gR_sI, gR_sJ, gJ_sI, gI_sJ, gN_sI, gN_sJ, gI_sR, gJ_sR, gN_sR, gI_sI, gJ_sJ, gR_sR, gI_nW, gR_nW, gN_nW, gJ_nW, rM_at, rXs_at, rXd_at, ex_s, true_and, and_true, false_and, and_false, or_true, true_or, or_false, false_or, if_true, if_false, not_true_eq_false, not_false_eq_true, forall_const, true_implies, false_implies, implies_true, Nat.reduceLeDiff, Nat.reduceEqDiff, reduceCtorEq, i32_succ, i32_pred, Nat.le_refl, Nat.lt_add_one, Nat.reduceLT, ne_eq, Nat.add_one_ne_zero]
    rcases hb with h | h <;> rw [h] <;> rfl
  · simp only [F_X0_holds, d0, e3, e4, hz, zm1, hq, hb, hB, Nat.reduceLT, ↓forall_eq, bz_b, gR_sI, gR_sJ, gJ_sI, gI_sJ, gN_sI, gN_sJ, gI_sR, gJ_sR, gN_sR, gI_sI, gJ_sJ, gR_sR, gI_nW, gR_nW, gN_nW, gJ_nW, rM_at, rXs_at, rXd_at, ex_s, true_and, and_true, false_and, and_false, or_true, true_or, or_false, false_or, if_true, if_false, not_true_eq_false, not_false_eq_true, forall_const, true_implies, false_implies, implies_true, Nat.reduceLeDiff, Nat.reduceEqDiff, reduceCtorEq, i32_succ, i32_pred, Nat.le_refl, Nat.lt_add_one, Nat.reduceLT, ne_eq, Nat.add_one_ne_zero]
    by_cases h : gI x 20 q 2 = 0
    · simp only [h, decide_true, bz_t, ↓forall_eq, bz_b, gR_sI, gR_sJ, gJ_sI, gI_sJ, gN_sI, gN_sJ, gI_sR, gJ_sR, gN_sR, gI_sI, gJ_sJ, gR_sR, gI_nW, gR_nW, gN_nW, gJ_nW, rM_at, rXs_at, rXd_at, ex_s, true_and, and_true, false_and, and_false, or_true, true_or, or_false, false_or, if_true, if_false, not_true_eq_false, not_false_eq_true, forall_const, true_implies, false_implies, implies_true, Nat.reduceLeDiff, Nat.reduceEqDiff, reduceCtorEq, i32_succ, i32_pred, Nat.le_refl, Nat.lt_add_one, Nat.reduceLT, ne_eq, Nat.add_one_ne_zero]
    · simp only [h, decide_false, Bool.false_eq_true, bz_f, ↓forall_eq, bz_b, gR_sI, gR_sJ, gJ_sI, gI_sJ, gN_sI, gN_sJ, gI_sR, gJ_sR, gN_sR, gI_sI, gJ_sJ, gR_sR, gI_nW, gR_nW, gN_nW, gJ_nW, rM_at, rXs_at, rXd_at, ex_s, true_and, and_true, false_and, and_false, or_true, true_or, or_false, false_or, if_true, if_false, not_true_eq_false, not_false_eq_true, forall_const, true_implies, false_implies, implies_true, Nat.reduceLeDiff, Nat.reduceEqDiff, reduceCtorEq, i32_succ, i32_pred, Nat.le_refl, Nat.lt_add_one, Nat.reduceLT, ne_eq, Nat.add_one_ne_zero]
  · simp only [F_X0_holds, d0, e3, e4, hz, zm2, zs2, hq, hb, hB, Nat.reduceLT, ↓forall_eq, bz_b, gR_sI, gR_sJ, gJ_sI, gI_sJ, gN_sI, gN_sJ, gI_sR, gJ_sR, gN_sR, gI_sI, gJ_sJ, gR_sR, gI_nW, gR_nW, gN_nW, gJ_nW, rM_at, rXs_at, rXd_at, ex_s, true_and, and_true, false_and, and_false, or_true, true_or, or_false, false_or, if_true, if_false, not_true_eq_false, not_false_eq_true, forall_const, true_implies, false_implies, implies_true, Nat.reduceLeDiff, Nat.reduceEqDiff, reduceCtorEq, i32_succ, i32_pred, Nat.le_refl, Nat.lt_add_one, Nat.reduceLT, ne_eq, Nat.add_one_ne_zero]
    by_cases h : gI x 20 q 0 = 0
    · simp only [h, decide_true, bz_t, ↓forall_eq, bz_b, gR_sI, gR_sJ, gJ_sI, gI_sJ, gN_sI, gN_sJ, gI_sR, gJ_sR, gN_sR, gI_sI, gJ_sJ, gR_sR, gI_nW, gR_nW, gN_nW, gJ_nW, rM_at, rXs_at, rXd_at, ex_s, true_and, and_true, false_and, and_false, or_true, true_or, or_false, false_or, if_true, if_false, not_true_eq_false, not_false_eq_true, forall_const, true_implies, false_implies, implies_true, Nat.reduceLeDiff, Nat.reduceEqDiff, reduceCtorEq, i32_succ, i32_pred, Nat.le_refl, Nat.lt_add_one, Nat.reduceLT, ne_eq, Nat.add_one_ne_zero]
    · simp only [h, decide_false, Bool.false_eq_true, bz_f, ↓forall_eq, bz_b, gR_sI, gR_sJ, gJ_sI, gI_sJ, gN_sI, gN_sJ, gI_sR, gJ_sR, gN_sR, gI_sI, gJ_sJ, gR_sR, gI_nW, gR_nW, gN_nW, gJ_nW, rM_at, rXs_at, rXd_at, ex_s, true_and, and_true, false_and, and_false, or_true, true_or, or_false, false_or, if_true, if_false, not_true_eq_false, not_false_eq_true, forall_const, true_implies, false_implies, implies_true, Nat.reduceLeDiff, Nat.reduceEqDiff, reduceCtorEq, i32_succ, i32_pred, Nat.le_refl, Nat.lt_add_one, Nat.reduceLT, ne_eq, Nat.add_one_ne_zero]
  · simp only [F_X0_holds, d0, e3, e4, hz, zm3, zs3, hq, hb, hB, Nat.reduceLT, ↓forall_eq, bz_b, gR_sI, gR_sJ, gJ_sI, gI_sJ, gN_sI, gN_sJ, gI_sR, gJ_sR, gN_sR, gI_sI, gJ_sJ, gR_sR, gI_nW, gR_nW, gN_nW, gJ_nW, rM_at, rXs_at, rXd_at, ex_s, true_and, and_true, false_and, and_false, or_true, true_or, or_false, false_or, if_true, if_false, not_true_eq_false, not_false_eq_true, forall_const, true_implies, false_implies, implies_true, Nat.reduceLeDiff, Nat.reduceEqDiff, reduceCtorEq, i32_succ, i32_pred, Nat.le_refl, Nat.lt_add_one, Nat.reduceLT, ne_eq, Nat.add_one_ne_zero]
    by_cases h : gI x 20 q 0 = 1
    · simp only [h, decide_true, bz_t, ↓forall_eq, bz_b, gR_sI, gR_sJ, gJ_sI, gI_sJ, gN_sI, gN_sJ, gI_sR, gJ_sR, gN_sR, gI_sI, gJ_sJ, gR_sR, gI_nW, gR_nW, gN_nW, gJ_nW, rM_at, rXs_at, rXd_at, ex_s, true_and, and_true, false_and, and_false, or_true, true_or, or_false, false_or, if_true, if_false, not_true_eq_false, not_false_eq_true, forall_const, true_implies, false_implies, implies_true, Nat.reduceLeDiff, Nat.reduceEqDiff, reduceCtorEq, i32_succ, i32_pred, Nat.le_refl, Nat.lt_add_one, Nat.reduceLT, ne_eq, Nat.add_one_ne_zero]
    · simp only [h, decide_false, Bool.false_eq_true, bz_f, ↓forall_eq, bz_b, gR_sI, gR_sJ, gJ_sI, gI_sJ, gN_sI, gN_sJ, gI_sR, gJ_sR, gN_sR, gI_sI, gJ_sJ, gR_sR, gI_nW, gR_nW, gN_nW, gJ_nW, rM_at, rXs_at, rXd_at, ex_s, true_and, and_true, false_and, and_false, or_true, true_or, or_false, false_or, if_true, if_false, not_true_eq_false, not_false_eq_true, forall_const, true_implies, false_implies, implies_true, Nat.reduceLeDiff, Nat.reduceEqDiff, reduceCtorEq, i32_succ, i32_pred, Nat.le_refl, Nat.lt_add_one, Nat.reduceLT, ne_eq, Nat.add_one_ne_zero]
  · simp only [F_X0_holds, d0, e3, e4, hz, zm4, zs4, hq, hb, hB, Nat.reduceLT, ↓forall_eq, bz_b, gR_sI, gR_sJ, gJ_sI, gI_sJ, gN_sI, gN_sJ, gI_sR, gJ_sR, gN_sR, gI_sI, gJ_sJ, gR_sR, gI_nW, gR_nW, gN_nW, gJ_nW, rM_at, rXs_at, rXd_at, ex_s, true_and, and_true, false_and, and_false, or_true, true_or, or_false, false_or, if_true, if_false, not_true_eq_false, not_false_eq_true, forall_const, true_implies, false_implies, implies_true, Nat.reduceLeDiff, Nat.reduceEqDiff, reduceCtorEq, i32_succ, i32_pred, Nat.le_refl, Nat.lt_add_one, Nat.reduceLT, ne_eq, Nat.add_one_ne_zero]
    by_cases h : gI x 20 q 0 = 2
    · simp only [h, decide_true, bz_t, ↓forall_eq, bz_b, gR_sI, gR_sJ, gJ_sI, gI_sJ, gN_sI, gN_sJ, gI_sR, gJ_sR, gN_sR, gI_sI, gJ_sJ, gR_sR, gI_nW, gR_nW, gN_nW, gJ_nW, rM_at, rXs_at, rXd_at, ex_s, true_and, and_true, false_and, and_false, or_true, true_or, or_false, false_or, if_true, if_false, not_true_eq_false, not_false_eq_true, forall_const, true_implies, false_implies, implies_true, Nat.reduceLeDiff, Nat.reduceEqDiff, reduceCtorEq, i32_succ, i32_pred, Nat.le_refl, Nat.lt_add_one, Nat.reduceLT, ne_eq, Nat.add_one_ne_zero]
    · simp only [h, decide_false, Bool.false_eq_true, bz_f, ↓forall_eq, bz_b, gR_sI, gR_sJ, gJ_sI, gI_sJ, gN_sI, gN_sJ, gI_sR, gJ_sR, gN_sR, gI_sI, gJ_sJ, gR_sR, gI_nW, gR_nW, gN_nW, gJ_nW, rM_at, rXs_at, rXd_at, ex_s, true_and, and_true, false_and, and_false, or_true, true_or, or_false, false_or, if_true, if_false, not_true_eq_false, not_false_eq_true, forall_const, true_implies, false_implies, implies_true, Nat.reduceLeDiff, Nat.reduceEqDiff, reduceCtorEq, i32_succ, i32_pred, Nat.le_refl, Nat.lt_add_one, Nat.reduceLT, ne_eq, Nat.add_one_ne_zero]
  · simp only [F_X0_holds, F_X0_measured, d0, d1, d2, e3, e4, hz, zm5, hq, hB, xX_compares, Nat.reduceLT, pu_10, ↓forall_eq, bz_b, gR_sI, gR_sJ, gJ_sI, gI_sJ, gN_sI, gN_sJ, gI_sR, gJ_sR, gN_sR, gI_sI, gJ_sJ, gR_sR, gI_nW, gR_nW, gN_nW, gJ_nW, rM_at, rXs_at, rXd_at, ex_s, true_and, and_true, false_and, and_false, or_true, true_or, or_false, false_or, if_true, if_false, not_true_eq_false, not_false_eq_true, forall_const, true_implies, false_implies, implies_true, Nat.reduceLeDiff, Nat.reduceEqDiff, reduceCtorEq, i32_succ, i32_pred, Nat.le_refl, Nat.lt_add_one, Nat.reduceLT, ne_eq, Nat.add_one_ne_zero]
  · simp only [F_X0_holds, F_X0_measured, d0, d1, d2, e3, e4, hz, zm6, hq, hB, xX_compares, Nat.reduceLT, pu_10, ↓forall_eq, bz_b, gR_sI, gR_sJ, gJ_sI, gI_sJ, gN_sI, gN_sJ, gI_sR, gJ_sR, gN_sR, gI_sI, gJ_sJ, gR_sR, gI_nW, gR_nW, gN_nW, gJ_nW, rM_at, rXs_at, rXd_at, ex_s, true_and, and_true, false_and, and_false, or_true, true_or, or_false, false_or, if_true, if_false, not_true_eq_false, not_false_eq_true, forall_const, true_implies, false_implies, implies_true, Nat.reduceLeDiff, Nat.reduceEqDiff, reduceCtorEq, i32_succ, i32_pred, Nat.le_refl, Nat.lt_add_one, Nat.reduceLT, ne_eq, Nat.add_one_ne_zero]
  · simp only [F_X0_holds, F_X0_measured, xX_worthIn hq, d0, d1, d2, e3, e4, hz, zm7, hq, hB, xX_compares, Nat.reduceLT, pu_10, ↓forall_eq, bz_b, gR_sI, gR_sJ, gJ_sI, gI_sJ, gN_sI, gN_sJ, gI_sR, gJ_sR, gN_sR, gI_sI, gJ_sJ, gR_sR, gI_nW, gR_nW, gN_nW, gJ_nW, rM_at, rXs_at, rXd_at, ex_s, true_and, and_true, false_and, and_false, or_true, true_or, or_false, false_or, if_true, if_false, not_true_eq_false, not_false_eq_true, forall_const, true_implies, false_implies, implies_true, Nat.reduceLeDiff, Nat.reduceEqDiff, reduceCtorEq, i32_succ, i32_pred, Nat.le_refl, Nat.lt_add_one, Nat.reduceLT, ne_eq, Nat.add_one_ne_zero]
set_option maxRecDepth 16384 in
theorem eM_holds143 {m : tw_T} {k : Nat} {v : Int32} {Q : Int32 → tw_T → Prop} (hM : gR m = rM) (hk : k < 252) : J_X10_holds_143 m 0 (i32 k) v Q ↔ Q (bz (cB v (gI m 136 0 k) (gI m 137 0 k) = true)) m := by
  have e3 := vpin hk (by decide)
  have e4 := i32_nat (show k < 2147483648 by omega)
  refine Iff.trans ?_ (xX_compares (τ := m) (v := v) (sg := gI m 136 0 k) (lim := gI m 137 0 k) (Q := Q))
  simp only [J_X10_holds_143, F_X0_compares, hM, e3, e4, ↓forall_eq, bz_b, gR_sI, gR_sJ, gJ_sI, gI_sJ, gN_sI, gN_sJ, gI_sR, gJ_sR, gN_sR, gI_sI, gJ_sJ, gR_sR, gI_nW, gR_nW, gN_nW, gJ_nW, rM_at, rXs_at, rXd_at, ex_s, true_and, and_true, false_and, and_false, or_true, true_or, or_false, false_or, if_true, if_false, not_true_eq_false, not_false_eq_true, forall_const, true_implies, false_implies, implies_true, Nat.reduceLeDiff, Nat.reduceEqDiff, reduceCtorEq, i32_succ, i32_pred, Nat.le_refl, Nat.lt_add_one, Nat.reduceLT, ne_eq, Nat.add_one_ne_zero]
set_option maxRecDepth 16384 in
set_option maxHeartbeats 1000000 in
theorem RelA.holdsM {n nk nl no nt nd na ns i q k z : Nat} {x m : tw_T} {Q : Int32 → tw_T → Prop} (hA : RelA n nk nl no nt nd na ns x m) (hi : i < nl) (hq : gI m 110 0 i = i32 q) (hq2 : q < 20) (hk : k < 252) (hz : gI m 135 0 k = i32 z) (hz8 : z < 8) (hb : tw_b (gI m 107 0 q))
    (hQ : Q (bz (hB z (gI m 136 0 k) (gI m 137 0 k) (gI m 105 0 q) (gI m 106 0 q) (gI m 107 0 q) (yr (gI m 0 0 3) - gI m 111 0 i) (_root_.Jvm.Pilot.CWineCellarLaw_law_r9381_d02a7e.wM m i q (yr (gI m 0 0 3))) = true)) m) : F_X10_holds m 0 (i32 k) (i32 i) Q := by
  have hM := hA.1
  have hG := hA.2.2.2.2.2.2.1
  have hl := hA.2.2.2.1.1
  have hy := yr_rng hG.2.1 hG.2.2.1
  have e3 := vpin hk (by decide)
  have e4 := i32_nat (show k < 2147483648 by omega)
  have e5 := vpin (show i < 60 by omega) (by decide)
  have e6 := i32_nat (show i < 2147483648 by omega)
  have e7 := vpin hq2 (by decide)
  have e8 := i32_nat (show q < 2147483648 by omega)
  have s2 : (i32 2 : Int32) - 2 = 0 := by decide
  have s3 : (i32 3 : Int32) - 2 = 1 := by decide
  have s4 : (i32 4 : Int32) - 2 = 2 := by decide
  rcases lt8 hz8 with rfl | rfl | rfl | rfl | rfl | rfl | rfl | rfl
  · have j0 : i32 0 = (0 : Int32) := rfl
    simp only [F_X10_holds, hM, e3, e4, e5, e6, hq, e7, e8, hz, j0, ↓forall_eq, bz_b, gR_sI, gR_sJ, gJ_sI, gI_sJ, gN_sI, gN_sJ, gI_sR, gJ_sR, gN_sR, gI_sI, gJ_sJ, gR_sR, gI_nW, gR_nW, gN_nW, gJ_nW, rM_at, rXs_at, rXd_at, ex_s, true_and, and_true, false_and, and_false, or_true, true_or, or_false, false_or, if_true, if_false, not_true_eq_false, not_false_eq_true, forall_const, true_implies, false_implies, implies_true, Nat.reduceLeDiff, Nat.reduceEqDiff, reduceCtorEq, i32_succ, i32_pred, Nat.le_refl, Nat.lt_add_one, Nat.reduceLT, ne_eq, Nat.add_one_ne_zero]
    simp only [hB] at hQ
    by_cases h : gI m 107 0 q = 1
    · simp only [h, decide_true, bz_t, ↓forall_eq, bz_b, gR_sI, gR_sJ, gJ_sI, gI_sJ, gN_sI, gN_sJ, gI_sR, gJ_sR, gN_sR, gI_sI, gJ_sJ, gR_sR, gI_nW, gR_nW, gN_nW, gJ_nW, rM_at, rXs_at, rXd_at, ex_s, true_and, and_true, false_and, and_false, or_true, true_or, or_false, false_or, if_true, if_false, not_true_eq_false, not_false_eq_true, forall_const, true_implies, false_implies, implies_true, Nat.reduceLeDiff, Nat.reduceEqDiff, reduceCtorEq, i32_succ, i32_pred, Nat.le_refl, Nat.lt_add_one, Nat.reduceLT, ne_eq, Nat.add_one_ne_zero] at hQ ⊢; exact hQ
    · simp only [h, decide_false, Bool.false_eq_true, bz_f, ↓forall_eq, bz_b, gR_sI, gR_sJ, gJ_sI, gI_sJ, gN_sI, gN_sJ, gI_sR, gJ_sR, gN_sR, gI_sI, gJ_sJ, gR_sR, gI_nW, gR_nW, gN_nW, gJ_nW, rM_at, rXs_at, rXd_at, ex_s, true_and, and_true, false_and, and_false, or_true, true_or, or_false, false_or, if_true, if_false, not_true_eq_false, not_false_eq_true, forall_const, true_implies, false_implies, implies_true, Nat.reduceLeDiff, Nat.reduceEqDiff, reduceCtorEq, i32_succ, i32_pred, Nat.le_refl, Nat.lt_add_one, Nat.reduceLT, ne_eq, Nat.add_one_ne_zero] at hQ ⊢; exact hQ
  · have j1 : ¬ i32 1 = (0 : Int32) := by decide
    have j2 : i32 1 = (1 : Int32) := rfl
    simp only [F_X10_holds, hM, e3, e4, e5, e6, hq, e7, e8, hz, j1, j2, pu_10, ↓forall_eq, bz_b, gR_sI, gR_sJ, gJ_sI, gI_sJ, gN_sI, gN_sJ, gI_sR, gJ_sR, gN_sR, gI_sI, gJ_sJ, gR_sR, gI_nW, gR_nW, gN_nW, gJ_nW, rM_at, rXs_at, rXd_at, ex_s, true_and, and_true, false_and, and_false, or_true, true_or, or_false, false_or, if_true, if_false, not_true_eq_false, not_false_eq_true, forall_const, true_implies, false_implies, implies_true, Nat.reduceLeDiff, Nat.reduceEqDiff, reduceCtorEq, i32_succ, i32_pred, Nat.le_refl, Nat.lt_add_one, Nat.reduceLT, ne_eq, Nat.add_one_ne_zero]
    simp only [hB] at hQ
    by_cases h : gI m 107 0 q = 0
    · simp only [h, decide_true, bz_t, ↓forall_eq, bz_b, gR_sI, gR_sJ, gJ_sI, gI_sJ, gN_sI, gN_sJ, gI_sR, gJ_sR, gN_sR, gI_sI, gJ_sJ, gR_sR, gI_nW, gR_nW, gN_nW, gJ_nW, rM_at, rXs_at, rXd_at, ex_s, true_and, and_true, false_and, and_false, or_true, true_or, or_false, false_or, if_true, if_false, not_true_eq_false, not_false_eq_true, forall_const, true_implies, false_implies, implies_true, Nat.reduceLeDiff, Nat.reduceEqDiff, reduceCtorEq, i32_succ, i32_pred, Nat.le_refl, Nat.lt_add_one, Nat.reduceLT, ne_eq, Nat.add_one_ne_zero] at hQ ⊢; exact hQ
    · simp only [h, decide_false, Bool.false_eq_true, bz_f, ↓forall_eq, bz_b, gR_sI, gR_sJ, gJ_sI, gI_sJ, gN_sI, gN_sJ, gI_sR, gJ_sR, gN_sR, gI_sI, gJ_sJ, gR_sR, gI_nW, gR_nW, gN_nW, gJ_nW, rM_at, rXs_at, rXd_at, ex_s, true_and, and_true, false_and, and_false, or_true, true_or, or_false, false_or, if_true, if_false, not_true_eq_false, not_false_eq_true, forall_const, true_implies, false_implies, implies_true, Nat.reduceLeDiff, Nat.reduceEqDiff, reduceCtorEq, i32_succ, i32_pred, Nat.le_refl, Nat.lt_add_one, Nat.reduceLT, ne_eq, Nat.add_one_ne_zero] at hQ ⊢; exact hQ
  · have j1 : ¬ i32 2 = (0 : Int32) := by decide
    have j2 : ¬ i32 2 = (1 : Int32) := by decide
    have j3 : ¬ (5 : Int32) ≤ i32 2 := by decide
    simp only [F_X10_holds, hM, e3, e4, e5, e6, hq, e7, e8, hz, j1, j2, j3, s2, ↓forall_eq, bz_b, gR_sI, gR_sJ, gJ_sI, gI_sJ, gN_sI, gN_sJ, gI_sR, gJ_sR, gN_sR, gI_sI, gJ_sJ, gR_sR, gI_nW, gR_nW, gN_nW, gJ_nW, rM_at, rXs_at, rXd_at, ex_s, true_and, and_true, false_and, and_false, or_true, true_or, or_false, false_or, if_true, if_false, not_true_eq_false, not_false_eq_true, forall_const, true_implies, false_implies, implies_true, Nat.reduceLeDiff, Nat.reduceEqDiff, reduceCtorEq, i32_succ, i32_pred, Nat.le_refl, Nat.lt_add_one, Nat.reduceLT, ne_eq, Nat.add_one_ne_zero]
    simp only [hB] at hQ
    by_cases h : gI m 105 0 q = 0
    · simp only [h, decide_true, bz_t, ↓forall_eq, bz_b, gR_sI, gR_sJ, gJ_sI, gI_sJ, gN_sI, gN_sJ, gI_sR, gJ_sR, gN_sR, gI_sI, gJ_sJ, gR_sR, gI_nW, gR_nW, gN_nW, gJ_nW, rM_at, rXs_at, rXd_at, ex_s, true_and, and_true, false_and, and_false, or_true, true_or, or_false, false_or, if_true, if_false, not_true_eq_false, not_false_eq_true, forall_const, true_implies, false_implies, implies_true, Nat.reduceLeDiff, Nat.reduceEqDiff, reduceCtorEq, i32_succ, i32_pred, Nat.le_refl, Nat.lt_add_one, Nat.reduceLT, ne_eq, Nat.add_one_ne_zero] at hQ ⊢; exact hQ
    · simp only [h, decide_false, Bool.false_eq_true, bz_f, ↓forall_eq, bz_b, gR_sI, gR_sJ, gJ_sI, gI_sJ, gN_sI, gN_sJ, gI_sR, gJ_sR, gN_sR, gI_sI, gJ_sJ, gR_sR, gI_nW, gR_nW, gN_nW, gJ_nW, rM_at, rXs_at, rXd_at, ex_s, true_and, and_true, false_and, and_false, or_true, true_or, or_false, false_or, if_true, if_false, not_true_eq_false, not_false_eq_true, forall_const, true_implies, false_implies, implies_true, Nat.reduceLeDiff, Nat.reduceEqDiff, reduceCtorEq, i32_succ, i32_pred, Nat.le_refl, Nat.lt_add_one, Nat.reduceLT, ne_eq, Nat.add_one_ne_zero] at hQ ⊢; exact hQ
  · have j1 : ¬ i32 3 = (0 : Int32) := by decide
    have j2 : ¬ i32 3 = (1 : Int32) := by decide
    have j3 : ¬ (5 : Int32) ≤ i32 3 := by decide
    simp only [F_X10_holds, hM, e3, e4, e5, e6, hq, e7, e8, hz, j1, j2, j3, s3, ↓forall_eq, bz_b, gR_sI, gR_sJ, gJ_sI, gI_sJ, gN_sI, gN_sJ, gI_sR, gJ_sR, gN_sR, gI_sI, gJ_sJ, gR_sR, gI_nW, gR_nW, gN_nW, gJ_nW, rM_at, rXs_at, rXd_at, ex_s, true_and, and_true, false_and, and_false, or_true, true_or, or_false, false_or, if_true, if_false, not_true_eq_false, not_false_eq_true, forall_const, true_implies, false_implies, implies_true, Nat.reduceLeDiff, Nat.reduceEqDiff, reduceCtorEq, i32_succ, i32_pred, Nat.le_refl, Nat.lt_add_one, Nat.reduceLT, ne_eq, Nat.add_one_ne_zero]
    simp only [hB] at hQ
    by_cases h : gI m 105 0 q = 1
    · simp only [h, decide_true, bz_t, ↓forall_eq, bz_b, gR_sI, gR_sJ, gJ_sI, gI_sJ, gN_sI, gN_sJ, gI_sR, gJ_sR, gN_sR, gI_sI, gJ_sJ, gR_sR, gI_nW, gR_nW, gN_nW, gJ_nW, rM_at, rXs_at, rXd_at, ex_s, true_and, and_true, false_and, and_false, or_true, true_or, or_false, false_or, if_true, if_false, not_true_eq_false, not_false_eq_true, forall_const, true_implies, false_implies, implies_true, Nat.reduceLeDiff, Nat.reduceEqDiff, reduceCtorEq, i32_succ, i32_pred, Nat.le_refl, Nat.lt_add_one, Nat.reduceLT, ne_eq, Nat.add_one_ne_zero] at hQ ⊢; exact hQ
    · simp only [h, decide_false, Bool.false_eq_true, bz_f, ↓forall_eq, bz_b, gR_sI, gR_sJ, gJ_sI, gI_sJ, gN_sI, gN_sJ, gI_sR, gJ_sR, gN_sR, gI_sI, gJ_sJ, gR_sR, gI_nW, gR_nW, gN_nW, gJ_nW, rM_at, rXs_at, rXd_at, ex_s, true_and, and_true, false_and, and_false, or_true, true_or, or_false, false_or, if_true, if_false, not_true_eq_false, not_false_eq_true, forall_const, true_implies, false_implies, implies_true, Nat.reduceLeDiff, Nat.reduceEqDiff, reduceCtorEq, i32_succ, i32_pred, Nat.le_refl, Nat.lt_add_one, Nat.reduceLT, ne_eq, Nat.add_one_ne_zero] at hQ ⊢; exact hQ
  · have j1 : ¬ i32 4 = (0 : Int32) := by decide
    have j2 : ¬ i32 4 = (1 : Int32) := by decide
    have j3 : ¬ (5 : Int32) ≤ i32 4 := by decide
    simp only [F_X10_holds, hM, e3, e4, e5, e6, hq, e7, e8, hz, j1, j2, j3, s4, ↓forall_eq, bz_b, gR_sI, gR_sJ, gJ_sI, gI_sJ, gN_sI, gN_sJ, gI_sR, gJ_sR, gN_sR, gI_sI, gJ_sJ, gR_sR, gI_nW, gR_nW, gN_nW, gJ_nW, rM_at, rXs_at, rXd_at, ex_s, true_and, and_true, false_and, and_false, or_true, true_or, or_false, false_or, if_true, if_false, not_true_eq_false, not_false_eq_true, forall_const, true_implies, false_implies, implies_true, Nat.reduceLeDiff, Nat.reduceEqDiff, reduceCtorEq, i32_succ, i32_pred, Nat.le_refl, Nat.lt_add_one, Nat.reduceLT, ne_eq, Nat.add_one_ne_zero]
    simp only [hB] at hQ
    by_cases h : gI m 105 0 q = 2
    · simp only [h, decide_true, bz_t, ↓forall_eq, bz_b, gR_sI, gR_sJ, gJ_sI, gI_sJ, gN_sI, gN_sJ, gI_sR, gJ_sR, gN_sR, gI_sI, gJ_sJ, gR_sR, gI_nW, gR_nW, gN_nW, gJ_nW, rM_at, rXs_at, rXd_at, ex_s, true_and, and_true, false_and, and_false, or_true, true_or, or_false, false_or, if_true, if_false, not_true_eq_false, not_false_eq_true, forall_const, true_implies, false_implies, implies_true, Nat.reduceLeDiff, Nat.reduceEqDiff, reduceCtorEq, i32_succ, i32_pred, Nat.le_refl, Nat.lt_add_one, Nat.reduceLT, ne_eq, Nat.add_one_ne_zero] at hQ ⊢; exact hQ
    · simp only [h, decide_false, Bool.false_eq_true, bz_f, ↓forall_eq, bz_b, gR_sI, gR_sJ, gJ_sI, gI_sJ, gN_sI, gN_sJ, gI_sR, gJ_sR, gN_sR, gI_sI, gJ_sJ, gR_sR, gI_nW, gR_nW, gN_nW, gJ_nW, rM_at, rXs_at, rXd_at, ex_s, true_and, and_true, false_and, and_false, or_true, true_or, or_false, false_or, if_true, if_false, not_true_eq_false, not_false_eq_true, forall_const, true_implies, false_implies, implies_true, Nat.reduceLeDiff, Nat.reduceEqDiff, reduceCtorEq, i32_succ, i32_pred, Nat.le_refl, Nat.lt_add_one, Nat.reduceLT, ne_eq, Nat.add_one_ne_zero] at hQ ⊢; exact hQ
  · have j1 : ¬ i32 5 = (0 : Int32) := by decide
    have j2 : ¬ i32 5 = (1 : Int32) := by decide
    have j3 : (5 : Int32) ≤ i32 5 := by decide
    have j4 : i32 5 = (5 : Int32) := rfl
    simp only [F_X10_holds, hM, e3, e4, e5, e6, hq, e7, e8, hz, j1, j2, j3, j4, eM_holds143 hM hk, Int32.le_refl, show ¬ ((5 : Int32) = 0) by decide, show ¬ ((5 : Int32) = 1) by decide, ↓forall_eq, bz_b, gR_sI, gR_sJ, gJ_sI, gI_sJ, gN_sI, gN_sJ, gI_sR, gJ_sR, gN_sR, gI_sI, gJ_sJ, gR_sR, gI_nW, gR_nW, gN_nW, gJ_nW, rM_at, rXs_at, rXd_at, ex_s, true_and, and_true, false_and, and_false, or_true, true_or, or_false, false_or, if_true, if_false, not_true_eq_false, not_false_eq_true, forall_const, true_implies, false_implies, implies_true, Nat.reduceLeDiff, Nat.reduceEqDiff, reduceCtorEq, i32_succ, i32_pred, Nat.le_refl, Nat.lt_add_one, Nat.reduceLT, ne_eq, Nat.add_one_ne_zero]
    exact hQ
  · have j1 : ¬ i32 6 = (0 : Int32) := by decide
    have j2 : ¬ i32 6 = (1 : Int32) := by decide
    have j3 : (5 : Int32) ≤ i32 6 := by decide
    have j4 : ¬ i32 6 = (5 : Int32) := by decide
    have j5 : i32 6 = (6 : Int32) ↔ True := by decide
    simp only [F_X10_holds, hM, e3, e4, e5, e6, hq, e7, e8, hz, j1, j2, j3, j4, j5, eM_year, eM_holds143 hM hk, ↓forall_eq, bz_b, gR_sI, gR_sJ, gJ_sI, gI_sJ, gN_sI, gN_sJ, gI_sR, gJ_sR, gN_sR, gI_sI, gJ_sJ, gR_sR, gI_nW, gR_nW, gN_nW, gJ_nW, rM_at, rXs_at, rXd_at, ex_s, true_and, and_true, false_and, and_false, or_true, true_or, or_false, false_or, if_true, if_false, not_true_eq_false, not_false_eq_true, forall_const, true_implies, false_implies, implies_true, Nat.reduceLeDiff, Nat.reduceEqDiff, reduceCtorEq, i32_succ, i32_pred, Nat.le_refl, Nat.lt_add_one, Nat.reduceLT, ne_eq, Nat.add_one_ne_zero]
    exact hQ
  · have j1 : ¬ i32 7 = (0 : Int32) := by decide
    have j2 : ¬ i32 7 = (1 : Int32) := by decide
    have j3 : (5 : Int32) ≤ i32 7 := by decide
    have j4 : ¬ i32 7 = (5 : Int32) := by decide
    have j5 : ¬ i32 7 = (6 : Int32) := by decide
    simp only [F_X10_holds, hM, e3, e4, e5, e6, hq, e7, e8, hz, j1, j2, j3, j4, j5, eM_year, ↓forall_eq, bz_b, gR_sI, gR_sJ, gJ_sI, gI_sJ, gN_sI, gN_sJ, gI_sR, gJ_sR, gN_sR, gI_sI, gJ_sJ, gR_sR, gI_nW, gR_nW, gN_nW, gJ_nW, rM_at, rXs_at, rXd_at, ex_s, true_and, and_true, false_and, and_false, or_true, true_or, or_false, false_or, if_true, if_false, not_true_eq_false, not_false_eq_true, forall_const, true_implies, false_implies, implies_true, Nat.reduceLeDiff, Nat.reduceEqDiff, reduceCtorEq, i32_succ, i32_pred, Nat.le_refl, Nat.lt_add_one, Nat.reduceLT, ne_eq, Nat.add_one_ne_zero]
    refine hA.wM (τ := m) hi hq hq2 (by omega) (by omega) hM rfl rfl rfl rfl rfl ?_
    rw [eM_holds143 hM hk]
    exact hQ
set_option maxRecDepth 16384 in
/-- what a dish's t-th term gives a lot -/
def scM (m : tw_T) (d i q t : Nat) : Int32 := if hB (gI m 135 0 (12 * d + t)).toNatClampNeg (gI m 136 0 (12 * d + t)) (gI m 137 0 (12 * d + t)) (gI m 105 0 q) (gI m 106 0 q) (gI m 107 0 q) (yr (gI m 0 0 3) - gI m 111 0 i) (_root_.Jvm.Pilot.CWineCellarLaw_law_r9381_d02a7e.wM m i q (yr (gI m 0 0 3))) = true then gI m 138 0 (12 * d + t) else 0
set_option maxRecDepth 16384 in
def scr (m : tw_T) (d i : Nat) : Int32 := sF (scM m d i (gI m 110 0 i).toNatClampNeg) (gI m 134 0 d).toNatClampNeg 0 0
set_option maxRecDepth 16384 in
theorem hB_low {z : Nat} {sg lim sg' lim' srt bdy red age wrt : Int32} (h : z < 5) : hB z sg lim srt bdy red age wrt = hB z sg' lim' srt bdy red age wrt := by
  have : z = 0 ∨ z = 1 ∨ z = 2 ∨ z = 3 ∨ z = 4 := by omega
  rcases this with rfl | rfl | rfl | rfl | rfl <;> rfl
set_option maxRecDepth 16384 in
theorem ix12 (d t : Nat) : (12 : Int32) * i32 d + i32 t = i32 (12 * d + t) := by
  show _ = Int32.ofNat _
  rw [Int32.ofNat_add, Int32.ofNat_mul]; rfl
set_option maxRecDepth 16384 in
theorem RelA.kindq {n nk nl no nt nd na ns q : Nat} {x m : tw_T} (hA : RelA n nk nl no nt nd na ns x m) (hq : q < nk) : gI x 20 q 0 = gI m 105 0 q ∧ gI x 20 q 1 = gI m 106 0 q ∧ gI x 20 q 2 = gI m 107 0 q ∧ tw_b (gI m 107 0 q) := by
  obtain ⟨b1, b2, b3, b4, b5, b6, b7, b8, b9, -⟩ := hA.2.2.1.2.2.2.2 q hq
  exact ⟨b2, b3, b4, b9⟩
set_option maxRecDepth 16384 in
set_option maxHeartbeats 1000000 in
theorem RelA.scoreX {n nk nl no nt nd na ns d i : Nat} {x m : tw_T} {Q : Int32 → tw_T → Prop} (hA : RelA n nk nl no nt nd na ns x m) (hd : d < nd) (hi : i < nl) (hQ : Q (scr m d i) x) : F_X0_scoreOf x d i (yr (gI x 0 0 15)) Q := by
  have hA0 := hA
  obtain ⟨hM, hX0, hK0, hL0, hC0, hO0, hG0, hT0, hD0, hW0⟩ := hA
  obtain ⟨d1, d2, d3, d4, -, -, -, -, -, d5, d6, d7⟩ := hD0
  obtain ⟨q, q1, q2, q3, q4, q5, q6, q7, q8, q9, q10, q11, -⟩ := hA0.lot hi
  obtain ⟨b2, b3, b4, b9⟩ := hA0.kindq q1
  obtain ⟨e1, e2, e3, e4, e5⟩ := d5 d (by omega)
  obtain ⟨T, t1, t2, t3, t4⟩ := d7 d hd
  have hl : ∀ dd t acc, t + dd = T → Q (sF (scM m d i q) dd t acc) x → L_X0_scoreOf_5 d i (yr (gI x 0 0 15)) Q (fun (τ10 : tw_T) (z11 : Int32) (z12 : Int32) => Q z11 τ10) (dd + 1) x acc (i32 t) := by
    intro dd
    induction dd with
    | zero =>
      intro t acc ht hQ
      have f1 : i32 T ≤ i32 t := (le_i32 (by omega) (by omega)).mpr (by omega)
      rw [L_X0_scoreOf_5]; simp only [t2, f1, ↓forall_eq, bz_b, gR_sI, gR_sJ, gJ_sI, gI_sJ, gN_sI, gN_sJ, gI_sR, gJ_sR, gN_sR, gI_sI, gJ_sJ, gR_sR, gI_nW, gR_nW, gN_nW, gJ_nW, rM_at, rXs_at, rXd_at, ex_s, true_and, and_true, false_and, and_false, or_true, true_or, or_false, false_or, if_true, if_false, not_true_eq_false, not_false_eq_true, forall_const, true_implies, false_implies, implies_true, Nat.reduceLeDiff, Nat.reduceEqDiff, reduceCtorEq, i32_succ, i32_pred, Nat.le_refl, Nat.lt_add_one, Nat.reduceLT, ne_eq, Nat.add_one_ne_zero]; exact hQ
    | succ dd ih =>
      intro t acc ht hQ
      have f1 : ¬ i32 T ≤ i32 t := fun h => absurd ((le_i32 (by omega) (by omega)).mp h) (by omega)
      have f3 := vpin (show t < 12 by omega) (by decide)
      have f4 := i32_nat (show t < 2147483648 by omega)
      obtain ⟨z, z1, z2, z3, z4, -, -, z7⟩ := t4 t (by omega)
      have hh : hB z (gI x 31 d t) (gI x 32 d t) (gI m 105 0 q) (gI m 106 0 q) (gI m 107 0 q) (yr (gI m 0 0 3) - gI m 111 0 i) (_root_.Jvm.Pilot.CWineCellarLaw_law_r9381_d02a7e.wM m i q (yr (gI m 0 0 3))) = hB (gI m 135 0 (12 * d + t)).toNatClampNeg (gI m 136 0 (12 * d + t)) (gI m 137 0 (12 * d + t)) (gI m 105 0 q) (gI m 106 0 q) (gI m 107 0 q) (yr (gI m 0 0 3) - gI m 111 0 i) (_root_.Jvm.Pilot.CWineCellarLaw_law_r9381_d02a7e.wM m i q (yr (gI m 0 0 3))) := by
        rw [z3, i32_nat (by omega)]
        by_cases h5 : 5 ≤ z
        · rw [(z7 h5).1, (z7 h5).2]
        · exact hB_low (by omega)
      simp only [sF] at hQ
      rw [L_X0_scoreOf_5]
      simp only [t2, f1, xX_holds e2 e3 e4 (show t < 12 by omega) z2 z1 q4 (by rw [b4]; exact b9), b2, b3, b4, q7, q8, q9, q10, hG0.1, bz_eq0, J_X0_scoreOf_35, e5, f3, f4, ↓forall_eq, bz_b, gR_sI, gR_sJ, gJ_sI, gI_sJ, gN_sI, gN_sJ, gI_sR, gJ_sR, gN_sR, gI_sI, gJ_sJ, gR_sR, gI_nW, gR_nW, gN_nW, gJ_nW, rM_at, rXs_at, rXd_at, ex_s, true_and, and_true, false_and, and_false, or_true, true_or, or_false, false_or, if_true, if_false, not_true_eq_false, not_false_eq_true, forall_const, true_implies, false_implies, implies_true, Nat.reduceLeDiff, Nat.reduceEqDiff, reduceCtorEq, i32_succ, i32_pred, Nat.le_refl, Nat.lt_add_one, Nat.reduceLT, ne_eq, Nat.add_one_ne_zero]
      have hw : wv (gI m 112 0 i) (gI m 113 0 i) (gI m 114 0 i) (gI m 105 0 q) (yr (gI m 0 0 3)) = _root_.Jvm.Pilot.CWineCellarLaw_law_r9381_d02a7e.wM m i q (yr (gI m 0 0 3)) := rfl
      rw [hw, hh, z4]
      have hsc : scM m d i q t = if hB (gI m 135 0 (12 * d + t)).toNatClampNeg (gI m 136 0 (12 * d + t)) (gI m 137 0 (12 * d + t)) (gI m 105 0 q) (gI m 106 0 q) (gI m 107 0 q) (yr (gI m 0 0 3) - gI m 111 0 i) (_root_.Jvm.Pilot.CWineCellarLaw_law_r9381_d02a7e.wM m i q (yr (gI m 0 0 3))) = true then gI m 138 0 (12 * d + t) else 0 := rfl
      rw [hG0.1] at ih
      refine ⟨fun h9 => ih _ _ (by omega) ?_, fun h9 => ih _ _ (by omega) ?_⟩
      · rw [hsc, if_neg h9, Int32.add_zero] at hQ; exact hQ
      · rw [hsc, if_pos (Decidable.of_not_not h9)] at hQ; exact hQ
  refine ⟨T + 1, hl T 0 0 (by omega) ?_⟩
  unfold scr at hQ
  rw [q3, i32_nat (by omega), t3, i32_nat (by omega)] at hQ
  exact hQ
set_option maxRecDepth 16384 in
set_option maxHeartbeats 1000000 in
theorem RelA.scoreM {n nk nl no nt nd na ns d i : Nat} {x m : tw_T} {Q : Int32 → tw_T → Prop} (hA : RelA n nk nl no nt nd na ns x m) (hd : d < nd) (hi : i < nl) (hQ : Q (scr m d i) m) : F_X10_scoreOf m 0 (i32 d) (i32 i) Q := by
  have hA0 := hA
  obtain ⟨hM, hX0, hK0, hL0, hC0, hO0, hG0, hT0, hD0, hW0⟩ := hA
  obtain ⟨d1, d2, d3, d4, -, -, -, -, -, d5, d6, d7⟩ := hD0
  obtain ⟨q, q1, q2, q3, q4, q5, q6, q7, q8, q9, q10, q11, -⟩ := hA0.lot hi
  obtain ⟨b2, b3, b4, b9⟩ := hA0.kindq q1
  obtain ⟨T, t1, t2, t3, t4⟩ := d7 d hd
  have g3 := vpin (show d < 21 by omega) (by decide)
  have g4 := i32_nat (show d < 2147483648 by omega)
  have hl : ∀ dd t acc, t + dd = T → Q (sF (scM m d i q) dd t acc) m → L_X10_scoreOf_5 0 (i32 d) (i32 i) Q (fun (τ12 : tw_T) (z13 : Int32) (z14 : Int32) => Q z13 τ12) (dd + 1) m acc (i32 t) := by
    intro dd
    induction dd with
    | zero =>
      intro t acc ht hQ
      have f1 : i32 T ≤ i32 t := (le_i32 (by omega) (by omega)).mpr (by omega)
      rw [L_X10_scoreOf_5]; simp only [hM, g3, g4, t3, f1, ↓forall_eq, bz_b, gR_sI, gR_sJ, gJ_sI, gI_sJ, gN_sI, gN_sJ, gI_sR, gJ_sR, gN_sR, gI_sI, gJ_sJ, gR_sR, gI_nW, gR_nW, gN_nW, gJ_nW, rM_at, rXs_at, rXd_at, ex_s, true_and, and_true, false_and, and_false, or_true, true_or, or_false, false_or, if_true, if_false, not_true_eq_false, not_false_eq_true, forall_const, true_implies, false_implies, implies_true, Nat.reduceLeDiff, Nat.reduceEqDiff, reduceCtorEq, i32_succ, i32_pred, Nat.le_refl, Nat.lt_add_one, Nat.reduceLT, ne_eq, Nat.add_one_ne_zero]; exact hQ
    | succ dd ih =>
      intro t acc ht hQ
      have f1 : ¬ i32 T ≤ i32 t := fun h => absurd ((le_i32 (by omega) (by omega)).mp h) (by omega)
      have f3 := vpin (show 12 * d + t < 252 by omega) (by decide)
      have f4 := i32_nat (show 12 * d + t < 2147483648 by omega)
      obtain ⟨z, z1, z2, z3, z4, -, -, z7⟩ := t4 t (by omega)
      simp only [sF] at hQ
      rw [L_X10_scoreOf_5]
      simp only [hM, g3, g4, t3, f1, ix12, ↓forall_eq, bz_b, gR_sI, gR_sJ, gJ_sI, gI_sJ, gN_sI, gN_sJ, gI_sR, gJ_sR, gN_sR, gI_sI, gJ_sJ, gR_sR, gI_nW, gR_nW, gN_nW, gJ_nW, rM_at, rXs_at, rXd_at, ex_s, true_and, and_true, false_and, and_false, or_true, true_or, or_false, false_or, if_true, if_false, not_true_eq_false, not_false_eq_true, forall_const, true_implies, false_implies, implies_true, Nat.reduceLeDiff, Nat.reduceEqDiff, reduceCtorEq, i32_succ, i32_pred, Nat.le_refl, Nat.lt_add_one, Nat.reduceLT, ne_eq, Nat.add_one_ne_zero]
      refine hA0.holdsM (z := z) hi q3 q2 (by omega) z3 z1 b9 ?_
      have hsc : scM m d i q t = if hB z (gI m 136 0 (12 * d + t)) (gI m 137 0 (12 * d + t)) (gI m 105 0 q) (gI m 106 0 q) (gI m 107 0 q) (yr (gI m 0 0 3) - gI m 111 0 i) (_root_.Jvm.Pilot.CWineCellarLaw_law_r9381_d02a7e.wM m i q (yr (gI m 0 0 3))) = true then gI m 138 0 (12 * d + t) else 0 := by
        unfold scM; rw [z3, i32_nat (by omega)]
      simp only [bz_eq0, J_X10_scoreOf_48, hM, f3, f4, Int32.add_zero, ↓forall_eq, bz_b, gR_sI, gR_sJ, gJ_sI, gI_sJ, gN_sI, gN_sJ, gI_sR, gJ_sR, gN_sR, gI_sI, gJ_sJ, gR_sR, gI_nW, gR_nW, gN_nW, gJ_nW, rM_at, rXs_at, rXd_at, ex_s, true_and, and_true, false_and, and_false, or_true, true_or, or_false, false_or, if_true, if_false, not_true_eq_false, not_false_eq_true, forall_const, true_implies, false_implies, implies_true, Nat.reduceLeDiff, Nat.reduceEqDiff, reduceCtorEq, i32_succ, i32_pred, Nat.le_refl, Nat.lt_add_one, Nat.reduceLT, ne_eq, Nat.add_one_ne_zero]
      refine ⟨fun h9 => ih _ _ (by omega) ?_, fun h9 => ih _ _ (by omega) ?_⟩
      · rw [hsc, if_neg h9, Int32.add_zero] at hQ; exact hQ
      · rw [hsc, if_pos (Decidable.of_not_not h9)] at hQ; exact hQ
  refine ⟨T + 1, hl T 0 0 (by omega) ?_⟩
  unfold scr at hQ
  rw [q3, i32_nat (by omega), t3, i32_nat (by omega)] at hQ
  exact hQ
set_option maxRecDepth 16384 in
theorem xX_dishAt {x : tw_T} {nd i : Nat} {Q X : Nat → tw_T → Prop} (h0 : gR x 0 = rXs 11) (h1 : gI x 0 0 13 = i32 nd) (hn : nd ≤ 20) (hi : i < nd) (hr : gR x 3 0 i = some i) : F_X9_dishAt x 0 (i32 i) Q X ↔ Q i x := by
  have e1 : ¬ i32 i < 0 := by rw [i32_lt0, i32_int (by omega)]; omega
  have e2 : i32 i < i32 nd := (lt_i32 (by omega) (by omega)).mpr hi
  have e3 := vpin (show i < 20 by omega) (by decide)
  have e4 := i32_nat (show i < 2147483648 by omega)
  simp only [F_X9_dishAt, h0, h1, e1, e2, e3, e4, hr, ↓forall_eq, bz_b, gR_sI, gR_sJ, gJ_sI, gI_sJ, gN_sI, gN_sJ, gI_sR, gJ_sR, gN_sR, gI_sI, gJ_sJ, gR_sR, gI_nW, gR_nW, gN_nW, gJ_nW, rM_at, rXs_at, rXd_at, ex_s, true_and, and_true, false_and, and_false, or_true, true_or, or_false, false_or, if_true, if_false, not_true_eq_false, not_false_eq_true, forall_const, true_implies, false_implies, implies_true, Nat.reduceLeDiff, Nat.reduceEqDiff, reduceCtorEq, i32_succ, i32_pred, Nat.le_refl, Nat.lt_add_one, Nat.reduceLT, ne_eq, Nat.add_one_ne_zero]
set_option maxRecDepth 16384 in
theorem xX_dishAt_bad {x : tw_T} {nd : Nat} {a : Int32} {Q X : Nat → tw_T → Prop} (h1 : gI x 0 0 13 = i32 nd) (hn : nd ≤ 20) (ha : ¬ (0 ≤ a.toInt ∧ a.toInt < nd)) : F_X9_dishAt x 0 a Q X ↔ X 3 x := by
  by_cases e1 : a < 0
  · simp only [F_X9_dishAt, e1, ↓forall_eq, bz_b, gR_sI, gR_sJ, gJ_sI, gI_sJ, gN_sI, gN_sJ, gI_sR, gJ_sR, gN_sR, gI_sI, gJ_sJ, gR_sR, gI_nW, gR_nW, gN_nW, gJ_nW, rM_at, rXs_at, rXd_at, ex_s, true_and, and_true, false_and, and_false, or_true, true_or, or_false, false_or, if_true, if_false, not_true_eq_false, not_false_eq_true, forall_const, true_implies, false_implies, implies_true, Nat.reduceLeDiff, Nat.reduceEqDiff, reduceCtorEq, i32_succ, i32_pred, Nat.le_refl, Nat.lt_add_one, Nat.reduceLT, ne_eq, Nat.add_one_ne_zero]
  · have e2 : ¬ a < i32 nd := by rw [Int32.lt_iff_toInt_lt, i32_int (by omega)]; rw [i32_lt0] at e1; omega
    simp only [F_X9_dishAt, h1, e1, e2, ↓forall_eq, bz_b, gR_sI, gR_sJ, gJ_sI, gI_sJ, gN_sI, gN_sJ, gI_sR, gJ_sR, gN_sR, gI_sI, gJ_sJ, gR_sR, gI_nW, gR_nW, gN_nW, gJ_nW, rM_at, rXs_at, rXd_at, ex_s, true_and, and_true, false_and, and_false, or_true, true_or, or_false, false_or, if_true, if_false, not_true_eq_false, not_false_eq_true, forall_const, true_implies, false_implies, implies_true, Nat.reduceLeDiff, Nat.reduceEqDiff, reduceCtorEq, i32_succ, i32_pred, Nat.le_refl, Nat.lt_add_one, Nat.reduceLT, ne_eq, Nat.add_one_ne_zero]
set_option maxRecDepth 16384 in
theorem eM_isDish {m : tw_T} {nd : Nat} {a : Int32} {Q : Int32 → tw_T → Prop} (h1 : gI m 0 0 29 = i32 nd) (hn : nd ≤ 20) :
    F_X10_isDish (sI m 0 0 0 0) 0 a Q ↔ ((0 ≤ a.toInt ∧ a.toInt < nd → Q 1 (sI m 0 0 0 0)) ∧ (¬ (0 ≤ a.toInt ∧ a.toInt < nd) → Q 0 (sI (sI m 0 0 0 0) 0 0 0 1))) := by
  have e1 : (i32 nd - 1).toInt = nd - 1 := by rw [i32_sub] <;> rw [i32_int (by omega)] <;> simp only [Int32.reduceToInt] <;> omega
  have e2 : (0 ≤ a.toInt ∧ a.toInt ≤ (nd : Int) - 1) ↔ (0 ≤ a.toInt ∧ a.toInt < nd) := by omega
  have t1 : tw_b 1 := Or.inr rfl
  have t0 : tw_b 0 := Or.inl rfl
  simp only [F_X10_isDish, eM_within, eM_mayz (show (1 : Int32) ≠ 0 by decide), h1, e1, e2, Int32.reduceToInt, t1, t0, ↓forall_eq, bz_b, gR_sI, gR_sJ, gJ_sI, gI_sJ, gN_sI, gN_sJ, gI_sR, gJ_sR, gN_sR, gI_sI, gJ_sJ, gR_sR, gI_nW, gR_nW, gN_nW, gJ_nW, rM_at, rXs_at, rXd_at, ex_s, true_and, and_true, false_and, and_false, or_true, true_or, or_false, false_or, if_true, if_false, not_true_eq_false, not_false_eq_true, forall_const, true_implies, false_implies, implies_true, Nat.reduceLeDiff, Nat.reduceEqDiff, reduceCtorEq, i32_succ, i32_pred, Nat.le_refl, Nat.lt_add_one, Nat.reduceLT, ne_eq, Nat.add_one_ne_zero]
set_option maxRecDepth 16384 in
theorem scr_t {m : tw_T} {d i : Nat} {t : Int32} : scr (sI m 0 0 0 t) d i = scr m d i := by
  unfold scr scM wM
  simp only [hI_s, hI_n, hJ_s, hJ_n, hR_s, hR_n, hIW_s, hIW_n, hJW_s, hJW_n, hRW_s, hRW_n, hNW_s, hNW_n, hRM_s, hRM_n, u2_s, u2_j, u2_row, u2_kk, gR_sI, gR_sJ, gJ_sI, gI_sJ, gN_sI, gN_sJ, gI_sR, gJ_sR, gN_sR, gI_sM, gJ_sM, gN_sM, ne_eq, Nat.reduceEqDiff, not_false_eq_true, reduceCtorEq, true_implies]
set_option maxRecDepth 16384 in
theorem op_score (n : Nat) (x m : tw_T) (a : Int32) (b : Int32) (v : Int64) (h : Rel n x m) :
    F_L_score x 0 a b v (fun kk ww x9 => F_X10_score m 0 a b (fun rr m9 => gI m9 0 0 0 = kk ∧ (kk = 0 → ww = rr.toInt64) ∧ Rel (n + 1) x9 m9)) := by
  have hr := h
  obtain ⟨nk, nl, no, nt, nd, na, ns, hA⟩ := h
  have hA0 := hA
  obtain ⟨hM, hX0, hK0, hL0, hC0, hO0, hG0, hT0, hD0, hW0⟩ := hA
  have x0 := hX0.1
  have l1 := hL0.1
  have l2 := hL0.2.1
  have l3 := hL0.2.2.1
  have d1 := hD0.1
  have d2 := hD0.2.1
  have d3 := hD0.2.2.1
  by_cases p1 : 0 ≤ a.toInt ∧ a.toInt < nd
  rotate_left
  · simp only [F_L_score, F_X9_score, xX_dishAt_bad d2 d1 p1, F_X10_score, eM_isDish d3 d1, p1, pu_00, pu_10, ↓forall_eq, bz_b, gR_sI, gR_sJ, gJ_sI, gI_sJ, gN_sI, gN_sJ, gI_sR, gJ_sR, gN_sR, gI_sI, gJ_sJ, gR_sR, gI_nW, gR_nW, gN_nW, gJ_nW, rM_at, rXs_at, rXd_at, ex_s, true_and, and_true, false_and, and_false, or_true, true_or, or_false, false_or, if_true, if_false, not_true_eq_false, not_false_eq_true, forall_const, true_implies, false_implies, implies_true, Nat.reduceLeDiff, Nat.reduceEqDiff, reduceCtorEq, i32_succ, i32_pred, Nat.le_refl, Nat.lt_add_one, Nat.reduceLT, ne_eq, Nat.add_one_ne_zero]
    exact hr.t.t.up
  obtain ⟨d, rfl, hd1, hd2⟩ := i32_of (x := a) p1.1
  have hd : d < nd := by omega
  have dr := (hD0.2.2.2.2.2.2.2.2.2.1 d (by have := hD0.2.2.2.1; omega)).1
  by_cases p2 : 0 ≤ b.toInt ∧ b.toInt < nl
  rotate_left
  · simp only [F_L_score, F_X9_score, xX_dishAt x0 d2 d1 hd dr, xX_lotAt_bad l2 l1 p2, F_X10_score, eM_isDish d3 d1, p1, eM_isLot l3 l1 (show (2 : Int32) ≠ 0 by decide), p2, pu_00, pu_10, pu_20, ↓forall_eq, bz_b, gR_sI, gR_sJ, gJ_sI, gI_sJ, gN_sI, gN_sJ, gI_sR, gJ_sR, gN_sR, gI_sI, gJ_sJ, gR_sR, gI_nW, gR_nW, gN_nW, gJ_nW, rM_at, rXs_at, rXd_at, ex_s, true_and, and_true, false_and, and_false, or_true, true_or, or_false, false_or, if_true, if_false, not_true_eq_false, not_false_eq_true, forall_const, true_implies, false_implies, implies_true, Nat.reduceLeDiff, Nat.reduceEqDiff, reduceCtorEq, i32_succ, i32_pred, Nat.le_refl, Nat.lt_add_one, Nat.reduceLT, ne_eq, Nat.add_one_ne_zero]
    exact hr.t.t.up
  obtain ⟨i, rfl, hi1, hi2⟩ := i32_of (x := b) p2.1
  have hi : i < nl := by omega
  simp only [F_L_score, F_X9_score, xX_dishAt x0 d2 d1 hd dr, xX_lotAt x0 l2 l1 hi (hL0.2.2.2.2 i hi).1, xX_year, ↓forall_eq, bz_b, gR_sI, gR_sJ, gJ_sI, gI_sJ, gN_sI, gN_sJ, gI_sR, gJ_sR, gN_sR, gI_sI, gJ_sJ, gR_sR, gI_nW, gR_nW, gN_nW, gJ_nW, rM_at, rXs_at, rXd_at, ex_s, true_and, and_true, false_and, and_false, or_true, true_or, or_false, false_or, if_true, if_false, not_true_eq_false, not_false_eq_true, forall_const, true_implies, false_implies, implies_true, Nat.reduceLeDiff, Nat.reduceEqDiff, reduceCtorEq, i32_succ, i32_pred, Nat.le_refl, Nat.lt_add_one, Nat.reduceLT, ne_eq, Nat.add_one_ne_zero]
  refine hA0.scoreX hd hi ?_
  simp only [F_X10_score, eM_isDish d3 d1, p1, eM_isLot l3 l1 (show (2 : Int32) ≠ 0 by decide), p2, pu_00, pu_10, pu_20, ↓forall_eq, bz_b, gR_sI, gR_sJ, gJ_sI, gI_sJ, gN_sI, gN_sJ, gI_sR, gJ_sR, gN_sR, gI_sI, gJ_sJ, gR_sR, gI_nW, gR_nW, gN_nW, gJ_nW, rM_at, rXs_at, rXd_at, ex_s, true_and, and_true, false_and, and_false, or_true, true_or, or_false, false_or, if_true, if_false, not_true_eq_false, not_false_eq_true, forall_const, true_implies, false_implies, implies_true, Nat.reduceLeDiff, Nat.reduceEqDiff, reduceCtorEq, i32_succ, i32_pred, Nat.le_refl, Nat.lt_add_one, Nat.reduceLT, ne_eq, Nat.add_one_ne_zero]
  refine (hA0.t (t := 0)).scoreM hd hi ?_
  rw [scr_t]
  have z : gI (sI m 0 0 0 0) 0 0 0 = 0 := by simp [gI_sI]
  first | exact ⟨z, fun _ => rfl, hr.t.up⟩ | exact ⟨z, rfl, hr.t.up⟩ | exact ⟨z, hr.t.up⟩ | (simp only [z, ↓forall_eq, bz_b, gR_sI, gR_sJ, gJ_sI, gI_sJ, gN_sI, gN_sJ, gI_sR, gJ_sR, gN_sR, gI_sI, gJ_sJ, gR_sR, gI_nW, gR_nW, gN_nW, gJ_nW, rM_at, rXs_at, rXd_at, ex_s, true_and, and_true, false_and, and_false, or_true, true_or, or_false, false_or, if_true, if_false, not_true_eq_false, not_false_eq_true, forall_const, true_implies, false_implies, implies_true, Nat.reduceLeDiff, Nat.reduceEqDiff, reduceCtorEq, i32_succ, i32_pred, Nat.le_refl, Nat.lt_add_one, Nat.reduceLT, ne_eq, Nat.add_one_ne_zero]; exact hr.t.up)
