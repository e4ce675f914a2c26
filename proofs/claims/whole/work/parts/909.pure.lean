/-! ===== lots: what both hold of one ===== -/
set_option maxRecDepth 16384 in
def yr (h : Int32) : Int32 := 2000 + h / 8760
set_option maxRecDepth 16384 in
theorem yr_rng {h : Int32} (h0 : 0 ≤ h.toInt) (h1 : h.toInt ≤ 1000000) : 2000 ≤ (yr h).toInt ∧ (yr h).toInt ≤ 2114 := by
  have e1 : (h / 8760).toInt = h.toInt / 8760 := i32_div h0 (by decide)
  have e2 : (2000 : Int32).toInt = 2000 := rfl
  unfold yr
  rw [i32_add] <;> rw [e1, e2] <;> omega
set_option maxRecDepth 16384 in
theorem eM_year {τ : tw_T} {Q : Int32 → tw_T → Prop} : F_X10_year τ 0 Q ↔ Q (yr (gI τ 0 0 3)) τ := Iff.rfl
set_option maxRecDepth 16384 in
theorem xX_year {τ : tw_T} {Q : Int32 → tw_T → Prop} : F_X9_yearNow τ 0 Q ↔ Q (yr (gI τ 0 0 15)) τ := Iff.rfl
set_option maxRecDepth 16384 in
theorem pu_20 : ((2 : Int32) = 0) ↔ False := by decide
set_option maxRecDepth 16384 in
theorem pu_30 : ((3 : Int32) = 0) ↔ False := by decide
set_option maxRecDepth 16384 in
def wM (m : tw_T) (i q : Nat) (y : Int32) : Int32 := wv (gI m 112 0 i) (gI m 113 0 i) (gI m 114 0 i) (gI m 105 0 q) y
set_option maxRecDepth 16384 in
theorem RelA.lot {n nk nl no nt nd na ns i : Nat} {x m : tw_T} (h : RelA n nk nl no nt nd na ns x m) (hi : i < nl) : ∃ q, q < nk ∧ q < 20 ∧ gI m 110 0 i = i32 q ∧ gR x 21 i 1 = some q ∧ gR x 2 0 i = some i ∧ gI x 21 i 0 = i32 q ∧
    gI x 21 i 2 = gI m 111 0 i ∧ gI x 21 i 3 = gI m 112 0 i ∧ gI x 21 i 4 = gI m 113 0 i ∧ gI x 21 i 5 = gI m 114 0 i ∧ gI x 20 q 0 = gI m 105 0 q ∧
    1900 ≤ (gI m 111 0 i).toInt ∧ (gI m 111 0 i).toInt ≤ 2100 ∧ 1 ≤ (gI m 112 0 i).toInt ∧ (gI m 112 0 i).toInt ≤ 10000 ∧ 1900 ≤ (gI m 113 0 i).toInt ∧ (gI m 113 0 i).toInt ≤ (gI m 114 0 i).toInt ∧ (gI m 114 0 i).toInt ≤ 2160 + 2 * (n : Int) := by
  obtain ⟨hM, hX, hK, hL, hC, hO, hG, hT, hD, hW⟩ := h
  obtain ⟨a1, ⟨q, q1, q2, q3⟩, a3, a4, a5, a6, a7, ar⟩ := hL.2.2.2.2 i hi
  exact ⟨q, q1, by have := hK.1; omega, q2, q3, a1, a3.trans q2, a4, a5, a6, a7, (hK.2.2.2.2 q q1).2.1, ar⟩
set_option maxRecDepth 16384 in
/-- the class's worth of a lot, in the reference's numbers -/
theorem RelA.wX {n nk nl no nt nd na ns i q : Nat} {x m : tw_T} {y : Int32} (h : RelA n nk nl no nt nd na ns x m) (hi : i < nl) (hq : gI m 110 0 i = i32 q) (hq2 : q < 20) {Q : Int32 → tw_T → Prop} : F_X3_worthIn x i y Q ↔ Q (wM m i q y) x := by
  obtain ⟨q', q1, q2, q3, q4, q5, q6, q7, q8, q9, q10, q11, -⟩ := h.lot hi
  have : q' = q := i32_inj (by omega) (by omega) (q3.symm.trans hq)
  subst this
  rw [xX_worthIn q4, q8, q9, q10, q11]; rfl
set_option maxRecDepth 16384 in
/-- the reference's, from any state that has the same lots -/
theorem RelA.wM {n nk nl no nt nd na ns i q : Nat} {x m τ : tw_T} {y : Int32} (h : RelA n nk nl no nt nd na ns x m) (hi : i < nl) (hq : gI m 110 0 i = i32 q) (hq2 : q < 20) (y1 : 1900 ≤ y.toInt) (y2 : y.toInt ≤ 2300)
    (hR : gR τ = rM) (t1 : gI τ 105 0 = gI m 105 0) (t2 : gI τ 110 0 = gI m 110 0) (t3 : gI τ 112 0 = gI m 112 0) (t4 : gI τ 113 0 = gI m 113 0) (t5 : gI τ 114 0 = gI m 114 0)
    {Q : Int32 → tw_T → Prop} (hQ : Q (wM m i q y) τ) : F_X10_worthOf τ 0 (i32 i) y Q := by
  obtain ⟨q', q1, q2, q3, q4, q5, q6, q7, q8, q9, q10, q11, r1, r2, r3, r4, r5, r6, r7⟩ := h.lot hi
  have hi' : i < 60 := by have := h.2.2.2.1.1; omega
  refine mM_worthOf (q := q) hR hi' (by rw [t2]; exact hq) hq2 ?_ ?_ ?_ ?_ y1 y2 ?_
  · rw [t3]; exact r3
  · rw [t3]; exact r4
  · rw [t4]; exact r5
  · rw [t4, t5]; exact r6
  · rw [t1, t3, t4, t5]; exact hQ
set_option maxRecDepth 16384 in
theorem wM_rng {m : tw_T} {i q : Nat} {y : Int32} (h1 : 1 ≤ (gI m 112 0 i).toInt) (h2 : (gI m 112 0 i).toInt ≤ 10000) (h3 : 1900 ≤ (gI m 113 0 i).toInt) (h4 : (gI m 113 0 i).toInt ≤ (gI m 114 0 i).toInt) (h5 : 1900 ≤ y.toInt) (h6 : y.toInt ≤ 2300) : 0 ≤ (wM m i q y).toInt ∧ (wM m i q y).toInt ≤ 210000 := by
  unfold wM wv
  generalize gI m 112 0 i = p at *
  generalize gI m 113 0 i = f at *
  generalize gI m 114 0 i = u at *
  by_cases a1 : f ≤ y
  rotate_left
  · rw [if_neg a1]; omega
  rw [if_pos a1]
  rw [Int32.le_iff_toInt_le] at a1
  have hb : ∀ w : Int32, f.toInt ≤ w.toInt → w.toInt ≤ y.toInt → 0 ≤ (p + p * (w - f) / 20).toInt ∧ (p + p * (w - f) / 20).toInt ≤ 210000 := by
    intro w hw hw2
    have c20 : (20 : Int32).toInt = 20 := rfl
    have g1 : (w - f).toInt = w.toInt - f.toInt := i32_sub (by omega) (by omega)
    have g4 : p.toInt * (w.toInt - f.toInt) ≤ 10000 * 400 := Int.mul_le_mul h2 (by omega) (by omega) (by decide)
    have g5 : 0 ≤ p.toInt * (w.toInt - f.toInt) := Int.mul_nonneg (by omega) (by omega)
    have g6 : (p * (w - f)).toInt = p.toInt * (w.toInt - f.toInt) := by rw [i32_mul] <;> rw [g1] <;> omega
    have g7 : (p * (w - f) / 20).toInt = p.toInt * (w.toInt - f.toInt) / 20 := by rw [i32_div (by omega) (by decide), g6, c20]
    have g8 : (p + p * (w - f) / 20).toInt = p.toInt + p.toInt * (w.toInt - f.toInt) / 20 := by rw [i32_add] <;> rw [g7] <;> omega
    omega
  have hb2 : 0 ≤ (p + p * ((if u < y then u else y) - f) / 20).toInt ∧ (p + p * ((if u < y then u else y) - f) / 20).toInt ≤ 210000 := by
    by_cases c : u < y
    · rw [if_pos c]; rw [Int32.lt_iff_toInt_lt] at c; exact hb u h4 (by omega)
    · rw [if_neg c]; exact hb y a1 (by omega)
  generalize p + p * ((if u < y then u else y) - f) / 20 = b at hb2
  by_cases a2 : y ≤ u
  · rw [if_pos a2]; exact hb2
  rw [if_neg a2]
  rw [Int32.le_iff_toInt_le] at a2
  by_cases a3 : gI m 105 0 q = 2
  · rw [if_pos a3]; exact hb2
  rw [if_neg a3]
  by_cases a4 : gI m 105 0 q = 1
  · rw [if_pos a4]; decide
  rw [if_neg a4]
  by_cases a5 : y - u ≤ 30
  · rw [if_pos a5]
    rw [Int32.le_iff_toInt_le] at a5
    have c30 : (30 : Int32).toInt = 30 := rfl
    have g1 : (y - u).toInt = y.toInt - u.toInt := i32_sub (by omega) (by omega)
    obtain ⟨d, hd1, hd2, hd3⟩ := i32_of (x := y - u) (by omega)
    rw [hd1, i32_shr (by omega)]
    have a1 : 0 ≤ b.toInt / 2 ^ d := Int.ediv_nonneg hb2.1 (Int.le_of_lt (Int.pow_pos (by decide)))
    have a2 : b.toInt / 2 ^ d ≤ b.toInt := Int.ediv_le_self _ hb2.1
    omega
  · rw [if_neg a5]; decide
set_option maxRecDepth 16384 in
theorem xX_maySell {x : tw_T} {i q : Nat} {y : Int32} {Q : Int32 → tw_T → Prop} (hq : gR x 21 i 1 = some q) : F_X3_maySellIn x i y Q ↔ Q (bz (¬ y < gI x 21 i 4 ∧ (y ≤ gI x 21 i 5 ∨ gI x 20 q 0 = 2))) x := by
  unfold F_X3_maySellIn
  simp only [hq, ↓forall_eq, bz_b, gR_sI, gR_sJ, gJ_sI, gI_sJ, gN_sI, gN_sJ, gI_sR, gJ_sR, gN_sR, gI_sI, gJ_sJ, gR_sR, gI_nW, gR_nW, gN_nW, gJ_nW, rM_at, rXs_at, rXd_at, ex_s, true_and, and_true, false_and, and_false, or_true, true_or, or_false, false_or, if_true, if_false, not_true_eq_false, not_false_eq_true, forall_const, true_implies, false_implies, implies_true, Nat.reduceLeDiff, Nat.reduceEqDiff, reduceCtorEq, i32_succ, i32_pred, Nat.le_refl, Nat.lt_add_one, Nat.reduceLT, ne_eq, Nat.add_one_ne_zero]
  by_cases h1 : y < gI x 21 i 4
  · simp only [h1, bz_f, ↓forall_eq, bz_b, gR_sI, gR_sJ, gJ_sI, gI_sJ, gN_sI, gN_sJ, gI_sR, gJ_sR, gN_sR, gI_sI, gJ_sJ, gR_sR, gI_nW, gR_nW, gN_nW, gJ_nW, rM_at, rXs_at, rXd_at, ex_s, true_and, and_true, false_and, and_false, or_true, true_or, or_false, false_or, if_true, if_false, not_true_eq_false, not_false_eq_true, forall_const, true_implies, false_implies, implies_true, Nat.reduceLeDiff, Nat.reduceEqDiff, reduceCtorEq, i32_succ, i32_pred, Nat.le_refl, Nat.lt_add_one, Nat.reduceLT, ne_eq, Nat.add_one_ne_zero]
  · by_cases h2 : y ≤ gI x 21 i 5
    · simp only [h1, h2, bz_t, ↓forall_eq, bz_b, gR_sI, gR_sJ, gJ_sI, gI_sJ, gN_sI, gN_sJ, gI_sR, gJ_sR, gN_sR, gI_sI, gJ_sJ, gR_sR, gI_nW, gR_nW, gN_nW, gJ_nW, rM_at, rXs_at, rXd_at, ex_s, true_and, and_true, false_and, and_false, or_true, true_or, or_false, false_or, if_true, if_false, not_true_eq_false, not_false_eq_true, forall_const, true_implies, false_implies, implies_true, Nat.reduceLeDiff, Nat.reduceEqDiff, reduceCtorEq, i32_succ, i32_pred, Nat.le_refl, Nat.lt_add_one, Nat.reduceLT, ne_eq, Nat.add_one_ne_zero]
    · by_cases h3 : gI x 20 q 0 = 2
      · simp only [h1, h2, h3, bz_t, ↓forall_eq, bz_b, gR_sI, gR_sJ, gJ_sI, gI_sJ, gN_sI, gN_sJ, gI_sR, gJ_sR, gN_sR, gI_sI, gJ_sJ, gR_sR, gI_nW, gR_nW, gN_nW, gJ_nW, rM_at, rXs_at, rXd_at, ex_s, true_and, and_true, false_and, and_false, or_true, true_or, or_false, false_or, if_true, if_false, not_true_eq_false, not_false_eq_true, forall_const, true_implies, false_implies, implies_true, Nat.reduceLeDiff, Nat.reduceEqDiff, reduceCtorEq, i32_succ, i32_pred, Nat.le_refl, Nat.lt_add_one, Nat.reduceLT, ne_eq, Nat.add_one_ne_zero]
      · simp only [h1, h2, h3, bz_f, ↓forall_eq, bz_b, gR_sI, gR_sJ, gJ_sI, gI_sJ, gN_sI, gN_sJ, gI_sR, gJ_sR, gN_sR, gI_sI, gJ_sJ, gR_sR, gI_nW, gR_nW, gN_nW, gJ_nW, rM_at, rXs_at, rXd_at, ex_s, true_and, and_true, false_and, and_false, or_true, true_or, or_false, false_or, if_true, if_false, not_true_eq_false, not_false_eq_true, forall_const, true_implies, false_implies, implies_true, Nat.reduceLeDiff, Nat.reduceEqDiff, reduceCtorEq, i32_succ, i32_pred, Nat.le_refl, Nat.lt_add_one, Nat.reduceLT, ne_eq, Nat.add_one_ne_zero]
set_option maxRecDepth 16384 in
theorem eM_forSale {m : tw_T} {i q : Nat} {Q : Int32 → tw_T → Prop} (hM : gR m = rM) (hi : i < 60) (hk : gI m 110 0 i = i32 q) (hq : q < 20) : F_X10_isForSale m 0 (i32 i) Q ↔ Q (bz (¬ yr (gI m 0 0 3) < gI m 113 0 i ∧ (yr (gI m 0 0 3) ≤ gI m 114 0 i ∨ gI m 105 0 q = 2))) m := by
  have e3 := vpin hi (by decide)
  have e4 := i32_nat (show i < 2147483648 by omega)
  have e5 := vpin hq (by decide)
  have e6 := i32_nat (show q < 2147483648 by omega)
  unfold F_X10_isForSale
  simp only [eM_year, hM, hk, e3, e4, e5, e6, ↓forall_eq, bz_b, gR_sI, gR_sJ, gJ_sI, gI_sJ, gN_sI, gN_sJ, gI_sR, gJ_sR, gN_sR, gI_sI, gJ_sJ, gR_sR, gI_nW, gR_nW, gN_nW, gJ_nW, rM_at, rXs_at, rXd_at, ex_s, true_and, and_true, false_and, and_false, or_true, true_or, or_false, false_or, if_true, if_false, not_true_eq_false, not_false_eq_true, forall_const, true_implies, false_implies, implies_true, Nat.reduceLeDiff, Nat.reduceEqDiff, reduceCtorEq, i32_succ, i32_pred, Nat.le_refl, Nat.lt_add_one, Nat.reduceLT, ne_eq, Nat.add_one_ne_zero]
  by_cases h1 : yr (gI m 0 0 3) < gI m 113 0 i
  · simp only [h1, bz_f, ↓forall_eq, bz_b, gR_sI, gR_sJ, gJ_sI, gI_sJ, gN_sI, gN_sJ, gI_sR, gJ_sR, gN_sR, gI_sI, gJ_sJ, gR_sR, gI_nW, gR_nW, gN_nW, gJ_nW, rM_at, rXs_at, rXd_at, ex_s, true_and, and_true, false_and, and_false, or_true, true_or, or_false, false_or, if_true, if_false, not_true_eq_false, not_false_eq_true, forall_const, true_implies, false_implies, implies_true, Nat.reduceLeDiff, Nat.reduceEqDiff, reduceCtorEq, i32_succ, i32_pred, Nat.le_refl, Nat.lt_add_one, Nat.reduceLT, ne_eq, Nat.add_one_ne_zero]
  · by_cases h2 : yr (gI m 0 0 3) ≤ gI m 114 0 i
    · simp only [h1, h2, bz_t, ↓forall_eq, bz_b, gR_sI, gR_sJ, gJ_sI, gI_sJ, gN_sI, gN_sJ, gI_sR, gJ_sR, gN_sR, gI_sI, gJ_sJ, gR_sR, gI_nW, gR_nW, gN_nW, gJ_nW, rM_at, rXs_at, rXd_at, ex_s, true_and, and_true, false_and, and_false, or_true, true_or, or_false, false_or, if_true, if_false, not_true_eq_false, not_false_eq_true, forall_const, true_implies, false_implies, implies_true, Nat.reduceLeDiff, Nat.reduceEqDiff, reduceCtorEq, i32_succ, i32_pred, Nat.le_refl, Nat.lt_add_one, Nat.reduceLT, ne_eq, Nat.add_one_ne_zero]
    · by_cases h3 : gI m 105 0 q = 2
      · simp only [h1, h2, h3, bz_t, ↓forall_eq, bz_b, gR_sI, gR_sJ, gJ_sI, gI_sJ, gN_sI, gN_sJ, gI_sR, gJ_sR, gN_sR, gI_sI, gJ_sJ, gR_sR, gI_nW, gR_nW, gN_nW, gJ_nW, rM_at, rXs_at, rXd_at, ex_s, true_and, and_true, false_and, and_false, or_true, true_or, or_false, false_or, if_true, if_false, not_true_eq_false, not_false_eq_true, forall_const, true_implies, false_implies, implies_true, Nat.reduceLeDiff, Nat.reduceEqDiff, reduceCtorEq, i32_succ, i32_pred, Nat.le_refl, Nat.lt_add_one, Nat.reduceLT, ne_eq, Nat.add_one_ne_zero]
      · simp only [h1, h2, h3, bz_f, ↓forall_eq, bz_b, gR_sI, gR_sJ, gJ_sI, gI_sJ, gN_sI, gN_sJ, gI_sR, gJ_sR, gN_sR, gI_sI, gJ_sJ, gR_sR, gI_nW, gR_nW, gN_nW, gJ_nW, rM_at, rXs_at, rXd_at, ex_s, true_and, and_true, false_and, and_false, or_true, true_or, or_false, false_or, if_true, if_false, not_true_eq_false, not_false_eq_true, forall_const, true_implies, false_implies, implies_true, Nat.reduceLeDiff, Nat.reduceEqDiff, reduceCtorEq, i32_succ, i32_pred, Nat.le_refl, Nat.lt_add_one, Nat.reduceLT, ne_eq, Nat.add_one_ne_zero]
set_option maxRecDepth 16384 in
theorem op_worth (n : Nat) (x m : tw_T) (a : Int32) (y : Int32) (v : Int64) (h : Rel n x m) :
    F_L_worth x 0 a y v (fun kk ww x9 => F_X10_worth m 0 a y (fun rr m9 => gI m9 0 0 0 = kk ∧ (kk = 0 → ww = rr.toInt64) ∧ Rel (n + 1) x9 m9)) := by
  have hr := h
  obtain ⟨nk, nl, no, nt, nd, na, ns, hA⟩ := h
  have hA0 := hA
  obtain ⟨hM, hX, hK, hL, hC, hO, hG, hT, hD, hW⟩ := hA
  obtain ⟨x0, -⟩ := hX
  obtain ⟨l1, l2, l3, l4, l5⟩ := hL
  by_cases p1 : 0 ≤ a.toInt ∧ a.toInt < nl
  rotate_left
  · simp only [F_L_worth, F_X9_worth, xX_lotAt_bad l2 l1 p1, F_X10_worth, eM_isLot l3 l1 (show (1 : Int32) ≠ 0 by decide), p1, pu_00, pu_10, pu_20, pu_30, ↓forall_eq, bz_b, gR_sI, gR_sJ, gJ_sI, gI_sJ, gN_sI, gN_sJ, gI_sR, gJ_sR, gN_sR, gI_sI, gJ_sJ, gR_sR, gI_nW, gR_nW, gN_nW, gJ_nW, rM_at, rXs_at, rXd_at, ex_s, true_and, and_true, false_and, and_false, or_true, true_or, or_false, false_or, if_true, if_false, not_true_eq_false, not_false_eq_true, forall_const, true_implies, false_implies, implies_true, Nat.reduceLeDiff, Nat.reduceEqDiff, reduceCtorEq, i32_succ, i32_pred, Nat.le_refl, Nat.lt_add_one, Nat.reduceLT, ne_eq, Nat.add_one_ne_zero]
    exact hr.t.t.up
  obtain ⟨i, rfl, hi1, hi2⟩ := i32_of (x := a) p1.1
  have hi : i < nl := by omega
  obtain ⟨q, q1, q2, q3, q4, q5, -⟩ := hA0.lot hi
  by_cases p2 : 1900 ≤ y.toInt ∧ y.toInt ≤ 2300
  rotate_left
  · simp only [F_L_worth, F_X9_worth, xX_lotAt x0 l2 l1 hi q5, eX_isWithin, Int32.toInt_toInt64, Int64.reduceToInt, bz_eq0, p2, F_X10_worth, eM_isLot l3 l1 (show (1 : Int32) ≠ 0 by decide), p1, eM_within, eM_mayz (show (2 : Int32) ≠ 0 by decide), Int32.reduceToInt, pu_00, pu_10, pu_20, pu_30, ↓forall_eq, bz_b, gR_sI, gR_sJ, gJ_sI, gI_sJ, gN_sI, gN_sJ, gI_sR, gJ_sR, gN_sR, gI_sI, gJ_sJ, gR_sR, gI_nW, gR_nW, gN_nW, gJ_nW, rM_at, rXs_at, rXd_at, ex_s, true_and, and_true, false_and, and_false, or_true, true_or, or_false, false_or, if_true, if_false, not_true_eq_false, not_false_eq_true, forall_const, true_implies, false_implies, implies_true, Nat.reduceLeDiff, Nat.reduceEqDiff, reduceCtorEq, i32_succ, i32_pred, Nat.le_refl, Nat.lt_add_one, Nat.reduceLT, ne_eq, Nat.add_one_ne_zero]
    exact hr.t.t.up
  simp only [F_L_worth, F_X9_worth, xX_lotAt x0 l2 l1 hi q5, eX_isWithin, Int32.toInt_toInt64, Int64.reduceToInt, bz_eq0, p2, hA0.wX hi q3 q2, ↓forall_eq, bz_b, gR_sI, gR_sJ, gJ_sI, gI_sJ, gN_sI, gN_sJ, gI_sR, gJ_sR, gN_sR, gI_sI, gJ_sJ, gR_sR, gI_nW, gR_nW, gN_nW, gJ_nW, rM_at, rXs_at, rXd_at, ex_s, true_and, and_true, false_and, and_false, or_true, true_or, or_false, false_or, if_true, if_false, not_true_eq_false, not_false_eq_true, forall_const, true_implies, false_implies, implies_true, Nat.reduceLeDiff, Nat.reduceEqDiff, reduceCtorEq, i32_succ, i32_pred, Nat.le_refl, Nat.lt_add_one, Nat.reduceLT, ne_eq, Nat.add_one_ne_zero]
  simp only [F_X10_worth, eM_isLot l3 l1 (show (1 : Int32) ≠ 0 by decide), p1, p2, eM_within, eM_mayz (show (2 : Int32) ≠ 0 by decide), Int32.reduceToInt, pu_00, pu_10, pu_20, pu_30, ↓forall_eq, bz_b, gR_sI, gR_sJ, gJ_sI, gI_sJ, gN_sI, gN_sJ, gI_sR, gJ_sR, gN_sR, gI_sI, gJ_sJ, gR_sR, gI_nW, gR_nW, gN_nW, gJ_nW, rM_at, rXs_at, rXd_at, ex_s, true_and, and_true, false_and, and_false, or_true, true_or, or_false, false_or, if_true, if_false, not_true_eq_false, not_false_eq_true, forall_const, true_implies, false_implies, implies_true, Nat.reduceLeDiff, Nat.reduceEqDiff, reduceCtorEq, i32_succ, i32_pred, Nat.le_refl, Nat.lt_add_one, Nat.reduceLT, ne_eq, Nat.add_one_ne_zero]
  refine hA0.wM (τ := sI m 0 0 0 0) hi q3 q2 p2.1 p2.2 hM (by simp only [hI_s, hI_n, hJ_s, hJ_n, hR_s, hR_n, hIW_s, hIW_n, hJW_s, hJW_n, hRW_s, hRW_n, hNW_s, hNW_n, hRM_s, hRM_n, u2_s, u2_j, u2_row, u2_kk, gR_sI, gR_sJ, gJ_sI, gI_sJ, gN_sI, gN_sJ, gI_sR, gJ_sR, gN_sR, gI_sM, gJ_sM, gN_sM, ne_eq, Nat.reduceEqDiff, not_false_eq_true, reduceCtorEq, true_implies]) (by simp only [hI_s, hI_n, hJ_s, hJ_n, hR_s, hR_n, hIW_s, hIW_n, hJW_s, hJW_n, hRW_s, hRW_n, hNW_s, hNW_n, hRM_s, hRM_n, u2_s, u2_j, u2_row, u2_kk, gR_sI, gR_sJ, gJ_sI, gI_sJ, gN_sI, gN_sJ, gI_sR, gJ_sR, gN_sR, gI_sM, gJ_sM, gN_sM, ne_eq, Nat.reduceEqDiff, not_false_eq_true, reduceCtorEq, true_implies]) (by simp only [hI_s, hI_n, hJ_s, hJ_n, hR_s, hR_n, hIW_s, hIW_n, hJW_s, hJW_n, hRW_s, hRW_n, hNW_s, hNW_n, hRM_s, hRM_n, u2_s, u2_j, u2_row, u2_kk, gR_sI, gR_sJ, gJ_sI, gI_sJ, gN_sI, gN_sJ, gI_sR, gJ_sR, gN_sR, gI_sM, gJ_sM, gN_sM, ne_eq, Nat.reduceEqDiff, not_false_eq_true, reduceCtorEq, true_implies]) (by simp only [hI_s, hI_n, hJ_s, hJ_n, hR_s, hR_n, hIW_s, hIW_n, hJW_s, hJW_n, hRW_s, hRW_n, hNW_s, hNW_n, hRM_s, hRM_n, u2_s, u2_j, u2_row, u2_kk, gR_sI, gR_sJ, gJ_sI, gI_sJ, gN_sI, gN_sJ, gI_sR, gJ_sR, gN_sR, gI_sM, gJ_sM, gN_sM, ne_eq, Nat.reduceEqDiff, not_false_eq_true, reduceCtorEq, true_implies]) (by simp only [hI_s, hI_n, hJ_s, hJ_n, hR_s, hR_n, hIW_s, hIW_n, hJW_s, hJW_n, hRW_s, hRW_n, hNW_s, hNW_n, hRM_s, hRM_n, u2_s, u2_j, u2_row, u2_kk, gR_sI, gR_sJ, gJ_sI, gI_sJ, gN_sI, gN_sJ, gI_sR, gJ_sR, gN_sR, gI_sM, gJ_sM, gN_sM, ne_eq, Nat.reduceEqDiff, not_false_eq_true, reduceCtorEq, true_implies]) ?_
  exact ⟨by simp [gI_sI], rfl, hr.t.up⟩
set_option maxRecDepth 16384 in
theorem op_cell (n : Nat) (x m : tw_T) (a : Int32) (b : Int32) (v : Int64) (h : Rel n x m) :
    F_L_cell x 0 a b v (fun kk ww x9 => F_X10_cell m 0 a b (fun rr m9 => gI m9 0 0 0 = kk ∧ (kk = 0 → ww = rr.toInt64) ∧ Rel (n + 1) x9 m9)) := by
  have hr := h
  obtain ⟨nk, nl, no, nt, nd, na, ns, hM, hX, hK, hL, hC, hO, hG, hT, hD, hW⟩ := h
  have hX0 := hX; have hK0 := hK; have hL0 := hL; have hC0 := hC; have hO0 := hO; have hG0 := hG; have hT0 := hT; have hD0 := hD; have hW0 := hW
  obtain ⟨x0, x5, x6, x8, x15, x16, x24, x25⟩ := hX
  obtain ⟨c1, c2, c3⟩ := hC
  by_cases p1 : 0 ≤ a.toInt ∧ a.toInt ≤ 29
  rotate_left
  · simp only [F_L_cell, F_X9_cell, xX_requireCell, F_X10_cell, eM_isCell, p1, pu_00, pu_10, pu_20, pu_30, ↓forall_eq, bz_b, gR_sI, gR_sJ, gJ_sI, gI_sJ, gN_sI, gN_sJ, gI_sR, gJ_sR, gN_sR, gI_sI, gJ_sJ, gR_sR, gI_nW, gR_nW, gN_nW, gJ_nW, rM_at, rXs_at, rXd_at, ex_s, true_and, and_true, false_and, and_false, or_true, true_or, or_false, false_or, if_true, if_false, not_true_eq_false, not_false_eq_true, forall_const, true_implies, false_implies, implies_true, Nat.reduceLeDiff, Nat.reduceEqDiff, reduceCtorEq, i32_succ, i32_pred, Nat.le_refl, Nat.lt_add_one, Nat.reduceLT, ne_eq, Nat.add_one_ne_zero]
    exact hr.t.t.up
  by_cases p2 : 0 ≤ b.toInt ∧ b.toInt ≤ 1
  rotate_left
  · simp only [F_L_cell, F_X9_cell, xX_requireCell, F_X10_cell, eM_isCell, p1, p2, eX_isWithin, Int32.toInt_toInt64, Int64.reduceToInt, bz_eq0, eM_within, eM_mayz (show (2 : Int32) ≠ 0 by decide), Int32.reduceToInt, pu_00, pu_10, pu_20, pu_30, ↓forall_eq, bz_b, gR_sI, gR_sJ, gJ_sI, gI_sJ, gN_sI, gN_sJ, gI_sR, gJ_sR, gN_sR, gI_sI, gJ_sJ, gR_sR, gI_nW, gR_nW, gN_nW, gJ_nW, rM_at, rXs_at, rXd_at, ex_s, true_and, and_true, false_and, and_false, or_true, true_or, or_false, false_or, if_true, if_false, not_true_eq_false, not_false_eq_true, forall_const, true_implies, false_implies, implies_true, Nat.reduceLeDiff, Nat.reduceEqDiff, reduceCtorEq, i32_succ, i32_pred, Nat.le_refl, Nat.lt_add_one, Nat.reduceLT, ne_eq, Nat.add_one_ne_zero]
    exact hr.t.t.up
  obtain ⟨c, rfl, hi1, hi2⟩ := i32_of (x := a) p1.1
  have hc : c < 30 := by omega
  have e3 := vpin hc (by decide)
  have e4 := i32_nat (show c < 2147483648 by omega)
  simp only [F_L_cell, F_X9_cell, xX_requireCell, p1, p2, eX_isWithin, Int32.toInt_toInt64, Int64.reduceToInt, bz_eq0, x0, x5, e3, e4, c1, c2, ↓forall_eq, bz_b, gR_sI, gR_sJ, gJ_sI, gI_sJ, gN_sI, gN_sJ, gI_sR, gJ_sR, gN_sR, gI_sI, gJ_sJ, gR_sR, gI_nW, gR_nW, gN_nW, gJ_nW, rM_at, rXs_at, rXd_at, ex_s, true_and, and_true, false_and, and_false, or_true, true_or, or_false, false_or, if_true, if_false, not_true_eq_false, not_false_eq_true, forall_const, true_implies, false_implies, implies_true, Nat.reduceLeDiff, Nat.reduceEqDiff, reduceCtorEq, i32_succ, i32_pred, Nat.le_refl, Nat.lt_add_one, Nat.reduceLT, ne_eq, Nat.add_one_ne_zero]
  simp only [F_X10_cell, eM_isCell, p1, p2, eM_within, eM_mayz (show (2 : Int32) ≠ 0 by decide), Int32.reduceToInt, pu_00, pu_10, pu_20, pu_30, hM, e3, e4, ↓forall_eq, bz_b, gR_sI, gR_sJ, gJ_sI, gI_sJ, gN_sI, gN_sJ, gI_sR, gJ_sR, gN_sR, gI_sI, gJ_sJ, gR_sR, gI_nW, gR_nW, gN_nW, gJ_nW, rM_at, rXs_at, rXd_at, ex_s, true_and, and_true, false_and, and_false, or_true, true_or, or_false, false_or, if_true, if_false, not_true_eq_false, not_false_eq_true, forall_const, true_implies, false_implies, implies_true, Nat.reduceLeDiff, Nat.reduceEqDiff, reduceCtorEq, i32_succ, i32_pred, Nat.le_refl, Nat.lt_add_one, Nat.reduceLT, ne_eq, Nat.add_one_ne_zero]
  refine ⟨fun b0 => ?_, fun b0 => ?_⟩ <;> simp only [b0, ↓forall_eq, bz_b, gR_sI, gR_sJ, gJ_sI, gI_sJ, gN_sI, gN_sJ, gI_sR, gJ_sR, gN_sR, gI_sI, gJ_sJ, gR_sR, gI_nW, gR_nW, gN_nW, gJ_nW, rM_at, rXs_at, rXd_at, ex_s, true_and, and_true, false_and, and_false, or_true, true_or, or_false, false_or, if_true, if_false, not_true_eq_false, not_false_eq_true, forall_const, true_implies, false_implies, implies_true, Nat.reduceLeDiff, Nat.reduceEqDiff, reduceCtorEq, i32_succ, i32_pred, Nat.le_refl, Nat.lt_add_one, Nat.reduceLT, ne_eq, Nat.add_one_ne_zero] <;> exact hr.t.up
set_option maxRecDepth 16384 in
theorem op_find (n : Nat) (x m : tw_T) (a : Int32) (b : Int32) (v : Int64) (h : Rel n x m) :
    F_L_find x 0 a b v (fun kk ww x9 => F_X10_find m 0 a b (fun rr m9 => gI m9 0 0 0 = kk ∧ (kk = 0 → ww = rr.toInt64) ∧ Rel (n + 1) x9 m9)) := by
  have hr := h
  obtain ⟨nk, nl, no, nt, nd, na, ns, hM, hX, hK, hL, hC, hO, hG, hT, hD, hW⟩ := h
  have hX0 := hX; have hK0 := hK; have hL0 := hL; have hC0 := hC; have hO0 := hO; have hG0 := hG; have hT0 := hT; have hD0 := hD; have hW0 := hW
  obtain ⟨x0, x5, x6, x8, x15, x16, x24, x25⟩ := hX
  obtain ⟨c1, c2, c3⟩ := hC
  obtain ⟨l1, l2, l3, l4, l5⟩ := hL
  by_cases p1 : 0 ≤ a.toInt ∧ a.toInt < nl
  rotate_left
  · simp only [F_L_find, F_X9_find, xX_lotAt_bad l2 l1 p1, F_X10_find, eM_isLot l3 l1 (show (1 : Int32) ≠ 0 by decide), p1, pu_00, pu_10, pu_20, pu_30, ↓forall_eq, bz_b, gR_sI, gR_sJ, gJ_sI, gI_sJ, gN_sI, gN_sJ, gI_sR, gJ_sR, gN_sR, gI_sI, gJ_sJ, gR_sR, gI_nW, gR_nW, gN_nW, gJ_nW, rM_at, rXs_at, rXd_at, ex_s, true_and, and_true, false_and, and_false, or_true, true_or, or_false, false_or, if_true, if_false, not_true_eq_false, not_false_eq_true, forall_const, true_implies, false_implies, implies_true, Nat.reduceLeDiff, Nat.reduceEqDiff, reduceCtorEq, i32_succ, i32_pred, Nat.le_refl, Nat.lt_add_one, Nat.reduceLT, ne_eq, Nat.add_one_ne_zero]
    exact hr.t.t.up
  obtain ⟨i, rfl, hi1, hi2⟩ := i32_of (x := a) p1.1
  have hi : i < nl := by omega
  simp only [F_L_find, F_X9_find, xX_lotAt x0 l2 l1 hi (l5 i hi).1, x0, ↓forall_eq, bz_b, gR_sI, gR_sJ, gJ_sI, gI_sJ, gN_sI, gN_sJ, gI_sR, gJ_sR, gN_sR, gI_sI, gJ_sJ, gR_sR, gI_nW, gR_nW, gN_nW, gJ_nW, rM_at, rXs_at, rXd_at, ex_s, true_and, and_true, false_and, and_false, or_true, true_or, or_false, false_or, if_true, if_false, not_true_eq_false, not_false_eq_true, forall_const, true_implies, false_implies, implies_true, Nat.reduceLeDiff, Nat.reduceEqDiff, reduceCtorEq, i32_succ, i32_pred, Nat.le_refl, Nat.lt_add_one, Nat.reduceLT, ne_eq, Nat.add_one_ne_zero]
  refine xX_cellOf x5 ?_
  simp only [F_X10_find, eM_isLot l3 l1 (show (1 : Int32) ≠ 0 by decide), p1, pu_00, pu_10, pu_20, pu_30, ↓forall_eq, bz_b, gR_sI, gR_sJ, gJ_sI, gI_sJ, gN_sI, gN_sJ, gI_sR, gJ_sR, gN_sR, gI_sI, gJ_sJ, gR_sR, gI_nW, gR_nW, gN_nW, gJ_nW, rM_at, rXs_at, rXd_at, ex_s, true_and, and_true, false_and, and_false, or_true, true_or, or_false, false_or, if_true, if_false, not_true_eq_false, not_false_eq_true, forall_const, true_implies, false_implies, implies_true, Nat.reduceLeDiff, Nat.reduceEqDiff, reduceCtorEq, i32_succ, i32_pred, Nat.le_refl, Nat.lt_add_one, Nat.reduceLT, ne_eq, Nat.add_one_ne_zero]
  refine ⟨31, eM_find_l (by simpa only [hI_s, hI_n, hJ_s, hJ_n, hR_s, hR_n, hIW_s, hIW_n, hJW_s, hJW_n, hRW_s, hRW_n, hNW_s, hNW_n, hRM_s, hRM_n, u2_s, u2_j, u2_row, u2_kk, gR_sI, gR_sJ, gJ_sI, gI_sJ, gN_sI, gN_sJ, gI_sR, gJ_sR, gN_sR, gI_sM, gJ_sM, gN_sM, ne_eq, Nat.reduceEqDiff, not_false_eq_true, reduceCtorEq, true_implies] using hM) 30 0 0 rfl ⟨by simp [gI_sI], ?_, hr.t.up⟩⟩
  simp only [hI_s, hI_n, hJ_s, hJ_n, hR_s, hR_n, hIW_s, hIW_n, hJW_s, hJW_n, hRW_s, hRW_n, hNW_s, hNW_n, hRM_s, hRM_n, u2_s, u2_j, u2_row, u2_kk, gR_sI, gR_sJ, gJ_sI, gI_sJ, gN_sI, gN_sJ, gI_sR, gJ_sR, gN_sR, gI_sM, gJ_sM, gN_sM, ne_eq, Nat.reduceEqDiff, not_false_eq_true, reduceCtorEq, true_implies, c1]
set_option maxRecDepth 16384 in
theorem op_till (n : Nat) (x m : tw_T) (h : Rel n x m) : F_X9_till x 0 (fun w x' => F_X10_till m 0 (fun r m' => w = r ∧ Rel (n + 1) x' m')) := by
  have hr := h
  obtain ⟨nk, nl, no, nt, nd, na, ns, hM, hX, hK, hL, hC, hO, hG, hT, hD, hW⟩ := h
  have hX0 := hX; have hK0 := hK; have hL0 := hL; have hC0 := hC; have hO0 := hO; have hG0 := hG; have hT0 := hT; have hD0 := hD; have hW0 := hW
  obtain ⟨x0, x5, x6, x8, x15, x16, x24, x25⟩ := hX
  obtain ⟨g1, g2, g3, g4, g5, g6, g7, g8, g9, g10, g11⟩ := hG
  simp only [F_X9_till, F_X10_till, x0, g11, ↓forall_eq, bz_b, gR_sI, gR_sJ, gJ_sI, gI_sJ, gN_sI, gN_sJ, gI_sR, gJ_sR, gN_sR, gI_sI, gJ_sJ, gR_sR, gI_nW, gR_nW, gN_nW, gJ_nW, rM_at, rXs_at, rXd_at, ex_s, true_and, and_true, false_and, and_false, or_true, true_or, or_false, false_or, if_true, if_false, not_true_eq_false, not_false_eq_true, forall_const, true_implies, false_implies, implies_true, Nat.reduceLeDiff, Nat.reduceEqDiff, reduceCtorEq, i32_succ, i32_pred, Nat.le_refl, Nat.lt_add_one, Nat.reduceLT, ne_eq, Nat.add_one_ne_zero]
  exact hr.t.up
