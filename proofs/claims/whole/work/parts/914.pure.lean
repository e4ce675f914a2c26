set_option maxRecDepth 16384 in
theorem RLo.set {n nk nl i : Nat} {xc mc : Int32} {xN : Nat} {xr : Nat → Option Nat} {xl xl' : Nat → Nat → Int32} {xq : Nat → Nat → Option Nat} {kd vi pr fr un fr' un' : Nat → Int32} (h : RLo n nk nl xc mc xN xr xl xq kd vi pr fr un)
    (h1 : ∀ k j, k ≠ i → xl' k j = xl k j) (h2 : ∀ j, j ≠ 4 → j ≠ 5 → xl' i j = xl i j) (h3 : ∀ k, k ≠ i → fr' k = fr k) (h4 : ∀ k, k ≠ i → un' k = un k) (h5 : xl' i 4 = fr' i) (h6 : xl' i 5 = un' i)
    (h7 : 1900 ≤ (fr' i).toInt) (h8 : (fr' i).toInt ≤ (un' i).toInt) (h9 : (un' i).toInt ≤ 2160 + 2 * ((n + 1 : Nat) : Int)) : RLo (n + 1) nk nl xc mc xN xr xl' xq kd vi pr fr' un' := by
  obtain ⟨l1, l2, l3, l4, l5⟩ := h.up
  refine ⟨l1, l2, l3, l4, fun k hk => ?_⟩
  obtain ⟨a1, a2, a3, a4, a5, a6, a7, a8, a9, b1, b2, b3, b4, b5⟩ := l5 k hk
  by_cases e : k = i
  · subst e
    rw [h2 0 (by decide) (by decide), h2 2 (by decide) (by decide), h2 3 (by decide) (by decide)]
    exact ⟨a1, a2, a3, a4, a5, h5, h6, a8, a9, b1, b2, h7, h8, h9⟩
  · rw [h1 k 0 e, h1 k 2 e, h1 k 3 e, h1 k 4 e, h1 k 5 e, h3 k e, h4 k e]
    exact ⟨a1, a2, a3, a4, a5, a6, a7, a8, a9, b1, b2, b3, b4, b5⟩
set_option maxRecDepth 16384 in
theorem RO.congr {nl no : Nat} {hour : Int32} {xl xl' : Nat → Nat → Int32} {op : Int32} {ol oh of : Nat → Int32} (h : RO nl hour no xl op ol oh of) (h6 : ∀ l, xl' l 6 = xl l 6) (h7 : ∀ l, xl' l 7 = xl l 7) : RO nl hour no xl' op ol oh of := by
  unfold RO at h ⊢
  simp only [h6, h7]
  exact h
set_option maxRecDepth 16384 in
theorem pu_21 : ((2 : Int32) = 1) ↔ False := by decide
set_option maxRecDepth 16384 in
theorem pu_02 : ((0 : Int32) = 2) ↔ False := by decide
set_option maxRecDepth 16384 in
theorem pu_01 : ((0 : Int32) = 1) ↔ False := by decide
set_option maxRecDepth 16384 in
theorem pu_12 : ((1 : Int32) = 2) ↔ False := by decide
set_option maxRecDepth 16384 in
theorem pu_03 : ((0 : Int32) = 3) ↔ False := by decide
set_option maxRecDepth 16384 in
theorem pu_13 : ((1 : Int32) = 3) ↔ False := by decide
set_option maxRecDepth 16384 in
theorem pu_23 : ((2 : Int32) = 3) ↔ False := by decide
set_option maxRecDepth 16384 in
theorem pu_31 : ((3 : Int32) = 1) ↔ False := by decide
set_option maxRecDepth 16384 in
theorem pu_32 : ((3 : Int32) = 2) ↔ False := by decide
set_option maxRecDepth 16384 in
set_option maxHeartbeats 2000000 in
theorem op_taste (n : Nat) (x m : tw_T) (a b : Int32) (v : Int64) (h : Rel n x m) (hn : n < 1000) :
    F_L_taste x 0 a b v (fun kk ww x9 => F_X10_taste m 0 a b (fun rr m9 => gI m9 0 0 0 = kk ∧ (kk = 0 → ww = rr.toInt64) ∧ Rel (n + 1) x9 m9)) := by
  have hr := h
  obtain ⟨nk, nl, no, nt, nd, na, ns, hA⟩ := h
  have hA0 := hA
  obtain ⟨hM, hX0, hK0, hL0, hC0, hO0, hG0, hT0, hD0, hW0⟩ := hA
  have x0 := hX0.1
  have l1 := hL0.1
  have l2 := hL0.2.1
  have l3 := hL0.2.2.1
  by_cases p1 : 0 ≤ a.toInt ∧ a.toInt < nl
  rotate_left
  · simp only [F_L_taste, F_X9_taste, xX_lotAt_bad l2 l1 p1, F_X10_taste, eM_isLot l3 l1 (show (1 : Int32) ≠ 0 by decide), p1, pu_00, pu_10, ↓forall_eq, bz_b, gR_sI, gR_sJ, gJ_sI, gI_sJ, gN_sI, gN_sJ, gI_sR, gJ_sR, gN_sR, gI_sI, gJ_sJ, gR_sR, gI_nW, gR_nW, gN_nW, gJ_nW, rM_at, rXs_at, rXd_at, ex_s, true_and, and_true, false_and, and_false, or_true, true_or, or_false, false_or, if_true, if_false, not_true_eq_false, not_false_eq_true, forall_const, true_implies, false_implies, implies_true, Nat.reduceLeDiff, Nat.reduceEqDiff, reduceCtorEq, i32_succ, i32_pred, Nat.le_refl, Nat.lt_add_one, Nat.reduceLT, ne_eq, Nat.add_one_ne_zero]
    exact hr.t.t.up
  obtain ⟨i, rfl, hi1, hi2⟩ := i32_of (x := a) p1.1
  have hi : i < nl := by omega
  have e3 := vpin (show i < 60 by omega) (by decide)
  have e4 := i32_nat (show i < 2147483648 by omega)
  obtain ⟨q, q1, q2, q3, q4, q5, q6, q7, q8, q9, q10, q11, r1, r2, r3, r4, r5, r6, r7⟩ := hA0.lot hi
  have hy := yr_rng hG0.2.1 hG0.2.2.1
  by_cases p2 : 0 ≤ b.toInt ∧ b.toInt ≤ 3
  rotate_left
  · have p2' : b.toInt < 0 ∨ 3 < b.toInt := by omega
    have z0 : ¬ b = 0 := fun h9 => by rw [h9] at p2; exact p2 (by decide)
    have z1 : ¬ b = 1 := fun h9 => by rw [h9] at p2; exact p2 (by decide)
    have z2 : ¬ b = 2 := fun h9 => by rw [h9] at p2; exact p2 (by decide)
    have z3 : ¬ b = 3 := fun h9 => by rw [h9] at p2; exact p2 (by decide)
    simp only [F_L_taste, F_X9_taste, xX_lotAt x0 l2 l1 hi q5, p2', z0, z1, z2, z3, F_X10_taste, eM_isLot l3 l1 (show (1 : Int32) ≠ 0 by decide), p1, p2, eM_within, eM_mayz (show (2 : Int32) ≠ 0 by decide), Int32.reduceToInt, pu_00, pu_10, pu_20, ↓forall_eq, bz_b, gR_sI, gR_sJ, gJ_sI, gI_sJ, gN_sI, gN_sJ, gI_sR, gJ_sR, gN_sR, gI_sI, gJ_sJ, gR_sR, gI_nW, gR_nW, gN_nW, gJ_nW, rM_at, rXs_at, rXd_at, ex_s, true_and, and_true, false_and, and_false, or_true, true_or, or_false, false_or, if_true, if_false, not_true_eq_false, not_false_eq_true, forall_const, true_implies, false_implies, implies_true, Nat.reduceLeDiff, Nat.reduceEqDiff, reduceCtorEq, i32_succ, i32_pred, Nat.le_refl, Nat.lt_add_one, Nat.reduceLT, ne_eq, Nat.add_one_ne_zero]
    exact hr.t.t.up
  have hb : b = 0 ∨ b = 1 ∨ b = 2 ∨ b = 3 := by
    have : b.toInt = 0 ∨ b.toInt = 1 ∨ b.toInt = 2 ∨ b.toInt = 3 := by omega
    rcases this with h9 | h9 | h9 | h9
    · exact Or.inl (i32_ext h9)
    · exact Or.inr (Or.inl (i32_ext h9))
    · exact Or.inr (Or.inr (Or.inl (i32_ext h9)))
    · exact Or.inr (Or.inr (Or.inr (i32_ext h9)))
  have w1 : (1 : Int32).toInt = 1 := rfl
  have w2 : (2 : Int32).toInt = 2 := rfl
  have s1 : (gI m 113 0 i + 1).toInt = (gI m 113 0 i).toInt + 1 := by rw [i32_add] <;> rw [w1] <;> omega
  have s2 : (gI m 114 0 i + 2).toInt = (gI m 114 0 i).toInt + 2 := by rw [i32_add] <;> rw [w2] <;> omega
  have n3 : ∀ f u x9 m9, (∀ k j, k ≠ i → gI x9 21 k j = gI x 21 k j) → (∀ j, j ≠ 4 → j ≠ 5 → gI x9 21 i j = gI x 21 i j) → (∀ k, k ≠ i → gI m9 113 0 k = gI m 113 0 k) → (∀ k, k ≠ i → gI m9 114 0 k = gI m 114 0 k) → gI x9 21 i 4 = f → gI x9 21 i 5 = u → gI m9 113 0 i = f → gI m9 114 0 i = u →
      1900 ≤ f.toInt → f.toInt ≤ u.toInt → u.toInt ≤ 2160 + 2 * ((n + 1 : Nat) : Int) → (∀ f', f' ≠ 21 → gI x9 f' = gI x f') → gJ x9 = gJ x → gR x9 = gR x → gN x9 = gN x → (∀ f', f' ≠ 113 → f' ≠ 114 → gI m9 f' = gI (sI m 0 0 0 0) f') → gJ m9 = gJ m → gR m9 = gR m → Rel (n + 1) x9 m9 := by
    intro f u x9 m9 t1 t2 t3 t4 t5 t6 t7 t8 t9 t10 t11 t12 t13 t14 t15 t16 t17 t18
    refine ⟨nk, nl, no, nt, nd, na, ns, ?_⟩
    have ht := hA0.t (t := 0)
    obtain ⟨hM, hX0, hK0, hL0, hC0, hO0, hG0, hT0, hD0, hW0⟩ := ht
    refine ⟨by rw [t18]; exact hM, by rw [t14]; exact hX0, ?_, ?_, ?_, ?_, ?_, ?_, ?_, ?_⟩
    · simpa only [t12, t13, t14, t15, t16, t17, gJ_sI, gR_sI, gN_sI, ne_eq, Nat.reduceEqDiff, not_false_eq_true, reduceCtorEq] using hK0
    · simp only [t12, t13, t14, t15, t16, t17, gJ_sI, gR_sI, gN_sI, ne_eq, Nat.reduceEqDiff, not_false_eq_true, reduceCtorEq]
      refine hL0.set (i := i) t1 t2 t3 t4 ?_ ?_ ?_ ?_ ?_
      · rw [t5, t7]
      · rw [t6, t8]
      · rw [t7]; exact t9
      · rw [t7, t8]; exact t10
      · rw [t8]; exact t11
    · simpa only [t12, t13, t14, t15, t16, t17, gJ_sI, gR_sI, gN_sI, ne_eq, Nat.reduceEqDiff, not_false_eq_true, reduceCtorEq] using hC0
    · simp only [t12, t13, t14, t15, t16, t17, gJ_sI, gR_sI, gN_sI, ne_eq, Nat.reduceEqDiff, not_false_eq_true, reduceCtorEq]
      refine hO0.congr (fun l => ?_) (fun l => ?_)
      · by_cases e : l = i
        · rw [e]; exact t2 6 (by decide) (by decide)
        · exact t1 l 6 e
      · by_cases e : l = i
        · rw [e]; exact t2 7 (by decide) (by decide)
        · exact t1 l 7 e
    · simpa only [t12, t13, t14, t15, t16, t17, gJ_sI, gR_sI, gN_sI, ne_eq, Nat.reduceEqDiff, not_false_eq_true, reduceCtorEq] using hG0
    · simpa only [t12, t13, t14, t15, t16, t17, gJ_sI, gR_sI, gN_sI, ne_eq, Nat.reduceEqDiff, not_false_eq_true, reduceCtorEq] using hT0
    · simpa only [t12, t13, t14, t15, t16, t17, gJ_sI, gR_sI, gN_sI, ne_eq, Nat.reduceEqDiff, not_false_eq_true, reduceCtorEq] using hD0
    · simpa only [t12, t13, t14, t15, t16, t17, gJ_sI, gR_sI, gN_sI, ne_eq, Nat.reduceEqDiff, not_false_eq_true, reduceCtorEq] using hW0
  rcases hb with rfl | rfl | rfl | rfl
  · -- young
    have c1 : (gI m 114 0 i ≤ gI m 113 0 i) ↔ (gI m 114 0 i < gI m 113 0 i + 1) := by rw [Int32.le_iff_toInt_le, Int32.lt_iff_toInt_lt, s1]; omega
    simp only [F_L_taste, F_X9_taste, xX_lotAt x0 l2 l1 hi q5, F_X3_tastedYoung, J_X9_taste_94, Int32.reduceToInt, pu_00, pu_01, pu_02, pu_03, q9, q10, Int.lt_irrefl, Int.reduceLT, ↓forall_eq, bz_b, gR_sI, gR_sJ, gJ_sI, gI_sJ, gN_sI, gN_sJ, gI_sR, gJ_sR, gN_sR, gI_sI, gJ_sJ, gR_sR, gI_nW, gR_nW, gN_nW, gJ_nW, rM_at, rXs_at, rXd_at, ex_s, true_and, and_true, false_and, and_false, or_true, true_or, or_false, false_or, if_true, if_false, not_true_eq_false, not_false_eq_true, forall_const, true_implies, false_implies, implies_true, Nat.reduceLeDiff, Nat.reduceEqDiff, reduceCtorEq, i32_succ, i32_pred, Nat.le_refl, Nat.lt_add_one, Nat.reduceLT, ne_eq, Nat.add_one_ne_zero]
    simp only [F_X10_taste, eM_isLot l3 l1 (show (1 : Int32) ≠ 0 by decide), p1, eM_within, eM_mayz (show (2 : Int32) ≠ 0 by decide), Int32.reduceToInt, Int.le_refl, Int.reduceLE, Int.reduceLT, pu_00, pu_01, pu_02, pu_03, pu_10, pu_20, eM_year, J_X10_taste_98, J_X10_taste_177, hM, e3, e4, c1, ↓forall_eq, bz_b, gR_sI, gR_sJ, gJ_sI, gI_sJ, gN_sI, gN_sJ, gI_sR, gJ_sR, gN_sR, gI_sI, gJ_sJ, gR_sR, gI_nW, gR_nW, gN_nW, gJ_nW, rM_at, rXs_at, rXd_at, ex_s, true_and, and_true, false_and, and_false, or_true, true_or, or_false, false_or, if_true, if_false, not_true_eq_false, not_false_eq_true, forall_const, true_implies, false_implies, implies_true, Nat.reduceLeDiff, Nat.reduceEqDiff, reduceCtorEq, i32_succ, i32_pred, Nat.le_refl, Nat.lt_add_one, Nat.reduceLT, ne_eq, Nat.add_one_ne_zero]
    have hg : ∀ w : Int32, w.toInt = (if (gI m 114 0 i).toInt < (gI m 113 0 i).toInt + 1 then (gI m 114 0 i).toInt else (gI m 113 0 i).toInt + 1) → Rel (n + 1) (sI x 21 i 4 w) (sI (sI m 0 0 0 0) 113 0 i w) := by
      intro w hw
      refine n3 w (gI m 114 0 i) _ _ (fun k j hk => ?_) (fun j h4 h5 => ?_) (fun k hk => ?_) (fun k hk => ?_) ?_ ?_ ?_ ?_ ?_ ?_ ?_ (fun f' hf => ?_) ?_ ?_ ?_ (fun f' hf hf2 => ?_) ?_ ?_
      · simp only [hI_s, hI_n, hJ_s, hJ_n, hR_s, hR_n, hIW_s, hIW_n, hJW_s, hJW_n, hRW_s, hRW_n, hNW_s, hNW_n, hRM_s, hRM_n, u2_s, u2_j, u2_row, u2_kk, gR_sI, gR_sJ, gJ_sI, gI_sJ, gN_sI, gN_sJ, gI_sR, gJ_sR, gN_sR, gI_sM, gJ_sM, gN_sM, ne_eq, Nat.reduceEqDiff, not_false_eq_true, reduceCtorEq, true_implies]; exact u2_k hk
      · simp only [hI_s, hI_n, hJ_s, hJ_n, hR_s, hR_n, hIW_s, hIW_n, hJW_s, hJW_n, hRW_s, hRW_n, hNW_s, hNW_n, hRM_s, hRM_n, u2_s, u2_j, u2_row, u2_kk, gR_sI, gR_sJ, gJ_sI, gI_sJ, gN_sI, gN_sJ, gI_sR, gJ_sR, gN_sR, gI_sM, gJ_sM, gN_sM, ne_eq, Nat.reduceEqDiff, not_false_eq_true, reduceCtorEq, true_implies]; exact upd_n h4
      · simp only [hI_s, hI_n, hJ_s, hJ_n, hR_s, hR_n, hIW_s, hIW_n, hJW_s, hJW_n, hRW_s, hRW_n, hNW_s, hNW_n, hRM_s, hRM_n, u2_s, u2_j, u2_row, u2_kk, gR_sI, gR_sJ, gJ_sI, gI_sJ, gN_sI, gN_sJ, gI_sR, gJ_sR, gN_sR, gI_sM, gJ_sM, gN_sM, ne_eq, Nat.reduceEqDiff, not_false_eq_true, reduceCtorEq, true_implies]; exact upd_n hk
      · simp only [hI_s, hI_n, hJ_s, hJ_n, hR_s, hR_n, hIW_s, hIW_n, hJW_s, hJW_n, hRW_s, hRW_n, hNW_s, hNW_n, hRM_s, hRM_n, u2_s, u2_j, u2_row, u2_kk, gR_sI, gR_sJ, gJ_sI, gI_sJ, gN_sI, gN_sJ, gI_sR, gJ_sR, gN_sR, gI_sM, gJ_sM, gN_sM, ne_eq, Nat.reduceEqDiff, not_false_eq_true, reduceCtorEq, true_implies]
      · simp only [hI_s, hI_n, hJ_s, hJ_n, hR_s, hR_n, hIW_s, hIW_n, hJW_s, hJW_n, hRW_s, hRW_n, hNW_s, hNW_n, hRM_s, hRM_n, u2_s, u2_j, u2_row, u2_kk, gR_sI, gR_sJ, gJ_sI, gI_sJ, gN_sI, gN_sJ, gI_sR, gJ_sR, gN_sR, gI_sM, gJ_sM, gN_sM, ne_eq, Nat.reduceEqDiff, not_false_eq_true, reduceCtorEq, true_implies]
      · (simp only [hI_s, hI_n, hJ_s, hJ_n, hR_s, hR_n, hIW_s, hIW_n, hJW_s, hJW_n, hRW_s, hRW_n, hNW_s, hNW_n, hRM_s, hRM_n, u2_s, u2_j, u2_row, u2_kk, gR_sI, gR_sJ, gJ_sI, gI_sJ, gN_sI, gN_sJ, gI_sR, gJ_sR, gN_sR, gI_sM, gJ_sM, gN_sM, ne_eq, Nat.reduceEqDiff, not_false_eq_true, reduceCtorEq, true_implies]; try exact q10)
      · (simp only [hI_s, hI_n, hJ_s, hJ_n, hR_s, hR_n, hIW_s, hIW_n, hJW_s, hJW_n, hRW_s, hRW_n, hNW_s, hNW_n, hRM_s, hRM_n, u2_s, u2_j, u2_row, u2_kk, gR_sI, gR_sJ, gJ_sI, gI_sJ, gN_sI, gN_sJ, gI_sR, gJ_sR, gN_sR, gI_sM, gJ_sM, gN_sM, ne_eq, Nat.reduceEqDiff, not_false_eq_true, reduceCtorEq, true_implies]; try exact upd_s)
      · simp only [hI_s, hI_n, hJ_s, hJ_n, hR_s, hR_n, hIW_s, hIW_n, hJW_s, hJW_n, hRW_s, hRW_n, hNW_s, hNW_n, hRM_s, hRM_n, u2_s, u2_j, u2_row, u2_kk, gR_sI, gR_sJ, gJ_sI, gI_sJ, gN_sI, gN_sJ, gI_sR, gJ_sR, gN_sR, gI_sM, gJ_sM, gN_sM, ne_eq, Nat.reduceEqDiff, not_false_eq_true, reduceCtorEq, true_implies]
      · split at hw <;> omega
      · split at hw <;> omega
      · omega
      · exact hI_n hf
      · rfl
      · rfl
      · rfl
      · exact hI_n hf
      · rfl
      · rfl
    by_cases hc : gI m 114 0 i < gI m 113 0 i + 1
    · have hc' := hc
      rw [Int32.lt_iff_toInt_lt, s1] at hc'
      have he : gI m 114 0 i = gI m 113 0 i := i32_ext (by omega)
      have hg2 := hg (gI m 113 0 i) (by rw [if_pos hc']; omega)
      rw [he] at hc
      simp only [he, hc, ↓forall_eq, bz_b, gR_sI, gR_sJ, gJ_sI, gI_sJ, gN_sI, gN_sJ, gI_sR, gJ_sR, gN_sR, gI_sI, gJ_sJ, gR_sR, gI_nW, gR_nW, gN_nW, gJ_nW, rM_at, rXs_at, rXd_at, ex_s, true_and, and_true, false_and, and_false, or_true, true_or, or_false, false_or, if_true, if_false, not_true_eq_false, not_false_eq_true, forall_const, true_implies, false_implies, implies_true, Nat.reduceLeDiff, Nat.reduceEqDiff, reduceCtorEq, i32_succ, i32_pred, Nat.le_refl, Nat.lt_add_one, Nat.reduceLT, ne_eq, Nat.add_one_ne_zero]; exact hg2
    · have hc' := hc
      rw [Int32.lt_iff_toInt_lt, s1] at hc'
      have he : ¬ gI m 113 0 i + 1 = gI m 113 0 i := fun h9 => by
        have := congrArg Int32.toInt h9
        rw [s1] at this; omega
      have hg2 := hg (gI m 113 0 i + 1) (by rw [if_neg hc', s1])
      simp only [hc, he, ↓forall_eq, bz_b, gR_sI, gR_sJ, gJ_sI, gI_sJ, gN_sI, gN_sJ, gI_sR, gJ_sR, gN_sR, gI_sI, gJ_sJ, gR_sR, gI_nW, gR_nW, gN_nW, gJ_nW, rM_at, rXs_at, rXd_at, ex_s, true_and, and_true, false_and, and_false, or_true, true_or, or_false, false_or, if_true, if_false, not_true_eq_false, not_false_eq_true, forall_const, true_implies, false_implies, implies_true, Nat.reduceLeDiff, Nat.reduceEqDiff, reduceCtorEq, i32_succ, i32_pred, Nat.le_refl, Nat.lt_add_one, Nat.reduceLT, ne_eq, Nat.add_one_ne_zero]; exact hg2
  · -- ready
    have c1 : (yr (gI m 0 0 3) < gI m 113 0 i) ↔ ¬ (gI m 113 0 i ≤ yr (gI m 0 0 3)) := by rw [Int32.le_iff_toInt_le, Int32.lt_iff_toInt_lt]; omega
    simp only [F_L_taste, F_X9_taste, xX_lotAt x0 l2 l1 hi q5, xX_year, F_X3_tastedReady, J_X9_taste_94, Int32.reduceToInt, pu_00, pu_10, pu_12, pu_13, q9, q10, hG0.1, Int.lt_irrefl, Int.reduceLT, ↓forall_eq, bz_b, gR_sI, gR_sJ, gJ_sI, gI_sJ, gN_sI, gN_sJ, gI_sR, gJ_sR, gN_sR, gI_sI, gJ_sJ, gR_sR, gI_nW, gR_nW, gN_nW, gJ_nW, rM_at, rXs_at, rXd_at, ex_s, true_and, and_true, false_and, and_false, or_true, true_or, or_false, false_or, if_true, if_false, not_true_eq_false, not_false_eq_true, forall_const, true_implies, false_implies, implies_true, Nat.reduceLeDiff, Nat.reduceEqDiff, reduceCtorEq, i32_succ, i32_pred, Nat.le_refl, Nat.lt_add_one, Nat.reduceLT, ne_eq, Nat.add_one_ne_zero]
    simp only [F_X10_taste, eM_isLot l3 l1 (show (1 : Int32) ≠ 0 by decide), p1, eM_within, eM_mayz (show (2 : Int32) ≠ 0 by decide), Int32.reduceToInt, Int.le_refl, Int.reduceLE, Int.reduceLT, pu_00, pu_10, pu_12, pu_13, pu_20, eM_year, J_X10_taste_119, J_X10_taste_177, hM, e3, e4, c1, ↓forall_eq, bz_b, gR_sI, gR_sJ, gJ_sI, gI_sJ, gN_sI, gN_sJ, gI_sR, gJ_sR, gN_sR, gI_sI, gJ_sJ, gR_sR, gI_nW, gR_nW, gN_nW, gJ_nW, rM_at, rXs_at, rXd_at, ex_s, true_and, and_true, false_and, and_false, or_true, true_or, or_false, false_or, if_true, if_false, not_true_eq_false, not_false_eq_true, forall_const, true_implies, false_implies, implies_true, Nat.reduceLeDiff, Nat.reduceEqDiff, reduceCtorEq, i32_succ, i32_pred, Nat.le_refl, Nat.lt_add_one, Nat.reduceLT, ne_eq, Nat.add_one_ne_zero]
    have hg : ∀ w : Int32, (w = gI m 113 0 i ∨ w = yr (gI m 0 0 3) ∧ (yr (gI m 0 0 3)).toInt < (gI m 113 0 i).toInt) → Rel (n + 1) (sI x 21 i 4 w) (sI (sI m 0 0 0 0) 113 0 i w) := by
      intro w hw
      refine n3 w (gI m 114 0 i) _ _ (fun k j hk => ?_) (fun j h4 h5 => ?_) (fun k hk => ?_) (fun k hk => ?_) ?_ ?_ ?_ ?_ ?_ ?_ ?_ (fun f' hf => ?_) ?_ ?_ ?_ (fun f' hf hf2 => ?_) ?_ ?_
      · simp only [hI_s, hI_n, hJ_s, hJ_n, hR_s, hR_n, hIW_s, hIW_n, hJW_s, hJW_n, hRW_s, hRW_n, hNW_s, hNW_n, hRM_s, hRM_n, u2_s, u2_j, u2_row, u2_kk, gR_sI, gR_sJ, gJ_sI, gI_sJ, gN_sI, gN_sJ, gI_sR, gJ_sR, gN_sR, gI_sM, gJ_sM, gN_sM, ne_eq, Nat.reduceEqDiff, not_false_eq_true, reduceCtorEq, true_implies]; exact u2_k hk
      · simp only [hI_s, hI_n, hJ_s, hJ_n, hR_s, hR_n, hIW_s, hIW_n, hJW_s, hJW_n, hRW_s, hRW_n, hNW_s, hNW_n, hRM_s, hRM_n, u2_s, u2_j, u2_row, u2_kk, gR_sI, gR_sJ, gJ_sI, gI_sJ, gN_sI, gN_sJ, gI_sR, gJ_sR, gN_sR, gI_sM, gJ_sM, gN_sM, ne_eq, Nat.reduceEqDiff, not_false_eq_true, reduceCtorEq, true_implies]; exact upd_n h4
      · simp only [hI_s, hI_n, hJ_s, hJ_n, hR_s, hR_n, hIW_s, hIW_n, hJW_s, hJW_n, hRW_s, hRW_n, hNW_s, hNW_n, hRM_s, hRM_n, u2_s, u2_j, u2_row, u2_kk, gR_sI, gR_sJ, gJ_sI, gI_sJ, gN_sI, gN_sJ, gI_sR, gJ_sR, gN_sR, gI_sM, gJ_sM, gN_sM, ne_eq, Nat.reduceEqDiff, not_false_eq_true, reduceCtorEq, true_implies]; exact upd_n hk
      · simp only [hI_s, hI_n, hJ_s, hJ_n, hR_s, hR_n, hIW_s, hIW_n, hJW_s, hJW_n, hRW_s, hRW_n, hNW_s, hNW_n, hRM_s, hRM_n, u2_s, u2_j, u2_row, u2_kk, gR_sI, gR_sJ, gJ_sI, gI_sJ, gN_sI, gN_sJ, gI_sR, gJ_sR, gN_sR, gI_sM, gJ_sM, gN_sM, ne_eq, Nat.reduceEqDiff, not_false_eq_true, reduceCtorEq, true_implies]
      · simp only [hI_s, hI_n, hJ_s, hJ_n, hR_s, hR_n, hIW_s, hIW_n, hJW_s, hJW_n, hRW_s, hRW_n, hNW_s, hNW_n, hRM_s, hRM_n, u2_s, u2_j, u2_row, u2_kk, gR_sI, gR_sJ, gJ_sI, gI_sJ, gN_sI, gN_sJ, gI_sR, gJ_sR, gN_sR, gI_sM, gJ_sM, gN_sM, ne_eq, Nat.reduceEqDiff, not_false_eq_true, reduceCtorEq, true_implies]
      · (simp only [hI_s, hI_n, hJ_s, hJ_n, hR_s, hR_n, hIW_s, hIW_n, hJW_s, hJW_n, hRW_s, hRW_n, hNW_s, hNW_n, hRM_s, hRM_n, u2_s, u2_j, u2_row, u2_kk, gR_sI, gR_sJ, gJ_sI, gI_sJ, gN_sI, gN_sJ, gI_sR, gJ_sR, gN_sR, gI_sM, gJ_sM, gN_sM, ne_eq, Nat.reduceEqDiff, not_false_eq_true, reduceCtorEq, true_implies]; try exact q10)
      · (simp only [hI_s, hI_n, hJ_s, hJ_n, hR_s, hR_n, hIW_s, hIW_n, hJW_s, hJW_n, hRW_s, hRW_n, hNW_s, hNW_n, hRM_s, hRM_n, u2_s, u2_j, u2_row, u2_kk, gR_sI, gR_sJ, gJ_sI, gI_sJ, gN_sI, gN_sJ, gI_sR, gJ_sR, gN_sR, gI_sM, gJ_sM, gN_sM, ne_eq, Nat.reduceEqDiff, not_false_eq_true, reduceCtorEq, true_implies]; try exact upd_s)
      · simp only [hI_s, hI_n, hJ_s, hJ_n, hR_s, hR_n, hIW_s, hIW_n, hJW_s, hJW_n, hRW_s, hRW_n, hNW_s, hNW_n, hRM_s, hRM_n, u2_s, u2_j, u2_row, u2_kk, gR_sI, gR_sJ, gJ_sI, gI_sJ, gN_sI, gN_sJ, gI_sR, gJ_sR, gN_sR, gI_sM, gJ_sM, gN_sM, ne_eq, Nat.reduceEqDiff, not_false_eq_true, reduceCtorEq, true_implies]
      · rcases hw with h9 | ⟨h9, h10⟩ <;> rw [h9] <;> omega
      · rcases hw with h9 | ⟨h9, h10⟩ <;> rw [h9] <;> omega
      · omega
      · exact hI_n hf
      · rfl
      · rfl
      · rfl
      · exact hI_n hf
      · rfl
      · rfl
    by_cases hc : gI m 113 0 i ≤ yr (gI m 0 0 3)
    · have hg2 := hg (gI m 113 0 i) (Or.inl rfl)
      simp only [hc, ↓forall_eq, bz_b, gR_sI, gR_sJ, gJ_sI, gI_sJ, gN_sI, gN_sJ, gI_sR, gJ_sR, gN_sR, gI_sI, gJ_sJ, gR_sR, gI_nW, gR_nW, gN_nW, gJ_nW, rM_at, rXs_at, rXd_at, ex_s, true_and, and_true, false_and, and_false, or_true, true_or, or_false, false_or, if_true, if_false, not_true_eq_false, not_false_eq_true, forall_const, true_implies, false_implies, implies_true, Nat.reduceLeDiff, Nat.reduceEqDiff, reduceCtorEq, i32_succ, i32_pred, Nat.le_refl, Nat.lt_add_one, Nat.reduceLT, ne_eq, Nat.add_one_ne_zero]; exact hg2
    · have hc' := hc
      rw [Int32.le_iff_toInt_le] at hc'
      have he : ¬ yr (gI m 0 0 3) = gI m 113 0 i := fun h9 => by rw [h9] at hc'; omega
      have hg2 := hg (yr (gI m 0 0 3)) (Or.inr ⟨rfl, by omega⟩)
      simp only [hc, he, ↓forall_eq, bz_b, gR_sI, gR_sJ, gJ_sI, gI_sJ, gN_sI, gN_sJ, gI_sR, gJ_sR, gN_sR, gI_sI, gJ_sJ, gR_sR, gI_nW, gR_nW, gN_nW, gJ_nW, rM_at, rXs_at, rXd_at, ex_s, true_and, and_true, false_and, and_false, or_true, true_or, or_false, false_or, if_true, if_false, not_true_eq_false, not_false_eq_true, forall_const, true_implies, false_implies, implies_true, Nat.reduceLeDiff, Nat.reduceEqDiff, reduceCtorEq, i32_succ, i32_pred, Nat.le_refl, Nat.lt_add_one, Nat.reduceLT, ne_eq, Nat.add_one_ne_zero]; exact hg2
  · -- tired
    have c1 : (yr (gI m 0 0 3) < gI m 114 0 i) ↔ ¬ (gI m 114 0 i ≤ yr (gI m 0 0 3)) := by rw [Int32.le_iff_toInt_le, Int32.lt_iff_toInt_lt]; omega
    have c2 : ¬ (gI m 114 0 i < gI m 113 0 i) := by rw [Int32.lt_iff_toInt_lt]; omega
    have c3 : (yr (gI m 0 0 3) < gI m 113 0 i) ↔ ¬ (gI m 113 0 i ≤ yr (gI m 0 0 3)) := by rw [Int32.le_iff_toInt_le, Int32.lt_iff_toInt_lt]; omega
    simp only [F_L_taste, F_X9_taste, xX_lotAt x0 l2 l1 hi q5, xX_year, F_X3_tastedTired, J_X9_taste_94, Int32.reduceToInt, pu_00, pu_20, pu_21, pu_23, q9, q10, hG0.1, Int.lt_irrefl, Int.reduceLT, ↓forall_eq, bz_b, gR_sI, gR_sJ, gJ_sI, gI_sJ, gN_sI, gN_sJ, gI_sR, gJ_sR, gN_sR, gI_sI, gJ_sJ, gR_sR, gI_nW, gR_nW, gN_nW, gJ_nW, rM_at, rXs_at, rXd_at, ex_s, true_and, and_true, false_and, and_false, or_true, true_or, or_false, false_or, if_true, if_false, not_true_eq_false, not_false_eq_true, forall_const, true_implies, false_implies, implies_true, Nat.reduceLeDiff, Nat.reduceEqDiff, reduceCtorEq, i32_succ, i32_pred, Nat.le_refl, Nat.lt_add_one, Nat.reduceLT, ne_eq, Nat.add_one_ne_zero]
    simp only [F_X10_taste, eM_isLot l3 l1 (show (1 : Int32) ≠ 0 by decide), p1, eM_within, eM_mayz (show (2 : Int32) ≠ 0 by decide), Int32.reduceToInt, Int.le_refl, Int.reduceLE, Int.reduceLT, pu_00, pu_10, pu_20, pu_21, pu_23, eM_year, J_X10_taste_142, J_X10_taste_177, hM, e3, e4, c1, ↓forall_eq, bz_b, gR_sI, gR_sJ, gJ_sI, gI_sJ, gN_sI, gN_sJ, gI_sR, gJ_sR, gN_sR, gI_sI, gJ_sJ, gR_sR, gI_nW, gR_nW, gN_nW, gJ_nW, rM_at, rXs_at, rXd_at, ex_s, true_and, and_true, false_and, and_false, or_true, true_or, or_false, false_or, if_true, if_false, not_true_eq_false, not_false_eq_true, forall_const, true_implies, false_implies, implies_true, Nat.reduceLeDiff, Nat.reduceEqDiff, reduceCtorEq, i32_succ, i32_pred, Nat.le_refl, Nat.lt_add_one, Nat.reduceLT, ne_eq, Nat.add_one_ne_zero]
    by_cases hc : gI m 114 0 i ≤ yr (gI m 0 0 3)
    · simp only [hc, c2, ↓forall_eq, bz_b, gR_sI, gR_sJ, gJ_sI, gI_sJ, gN_sI, gN_sJ, gI_sR, gJ_sR, gN_sR, gI_sI, gJ_sJ, gR_sR, gI_nW, gR_nW, gN_nW, gJ_nW, rM_at, rXs_at, rXd_at, ex_s, true_and, and_true, false_and, and_false, or_true, true_or, or_false, false_or, if_true, if_false, not_true_eq_false, not_false_eq_true, forall_const, true_implies, false_implies, implies_true, Nat.reduceLeDiff, Nat.reduceEqDiff, reduceCtorEq, i32_succ, i32_pred, Nat.le_refl, Nat.lt_add_one, Nat.reduceLT, ne_eq, Nat.add_one_ne_zero]
      refine n3 (gI m 113 0 i) (gI m 114 0 i) _ _ (fun k j hk => ?_) (fun j h4 h5 => ?_) (fun k hk => ?_) (fun k hk => ?_) ?_ ?_ ?_ ?_ ?_ ?_ ?_ (fun f' hf => ?_) ?_ ?_ ?_ (fun f' hf hf2 => ?_) ?_ ?_
      · simp only [hI_s, hI_n, hJ_s, hJ_n, hR_s, hR_n, hIW_s, hIW_n, hJW_s, hJW_n, hRW_s, hRW_n, hNW_s, hNW_n, hRM_s, hRM_n, u2_s, u2_j, u2_row, u2_kk, gR_sI, gR_sJ, gJ_sI, gI_sJ, gN_sI, gN_sJ, gI_sR, gJ_sR, gN_sR, gI_sM, gJ_sM, gN_sM, ne_eq, Nat.reduceEqDiff, not_false_eq_true, reduceCtorEq, true_implies]; rw [u2_k hk, u2_k hk]
      · simp only [hI_s, hI_n, hJ_s, hJ_n, hR_s, hR_n, hIW_s, hIW_n, hJW_s, hJW_n, hRW_s, hRW_n, hNW_s, hNW_n, hRM_s, hRM_n, u2_s, u2_j, u2_row, u2_kk, gR_sI, gR_sJ, gJ_sI, gI_sJ, gN_sI, gN_sJ, gI_sR, gJ_sR, gN_sR, gI_sM, gJ_sM, gN_sM, ne_eq, Nat.reduceEqDiff, not_false_eq_true, reduceCtorEq, true_implies]; rw [upd_n h4, upd_n h5]
      · simp only [hI_s, hI_n, hJ_s, hJ_n, hR_s, hR_n, hIW_s, hIW_n, hJW_s, hJW_n, hRW_s, hRW_n, hNW_s, hNW_n, hRM_s, hRM_n, u2_s, u2_j, u2_row, u2_kk, gR_sI, gR_sJ, gJ_sI, gI_sJ, gN_sI, gN_sJ, gI_sR, gJ_sR, gN_sR, gI_sM, gJ_sM, gN_sM, ne_eq, Nat.reduceEqDiff, not_false_eq_true, reduceCtorEq, true_implies]
      · simp only [hI_s, hI_n, hJ_s, hJ_n, hR_s, hR_n, hIW_s, hIW_n, hJW_s, hJW_n, hRW_s, hRW_n, hNW_s, hNW_n, hRM_s, hRM_n, u2_s, u2_j, u2_row, u2_kk, gR_sI, gR_sJ, gJ_sI, gI_sJ, gN_sI, gN_sJ, gI_sR, gJ_sR, gN_sR, gI_sM, gJ_sM, gN_sM, ne_eq, Nat.reduceEqDiff, not_false_eq_true, reduceCtorEq, true_implies]; exact upd_n hk
      · simp only [hI_s, hI_n, hJ_s, hJ_n, hR_s, hR_n, hIW_s, hIW_n, hJW_s, hJW_n, hRW_s, hRW_n, hNW_s, hNW_n, hRM_s, hRM_n, u2_s, u2_j, u2_row, u2_kk, gR_sI, gR_sJ, gJ_sI, gI_sJ, gN_sI, gN_sJ, gI_sR, gJ_sR, gN_sR, gI_sM, gJ_sM, gN_sM, ne_eq, Nat.reduceEqDiff, not_false_eq_true, reduceCtorEq, true_implies]
      · simp only [hI_s, hI_n, hJ_s, hJ_n, hR_s, hR_n, hIW_s, hIW_n, hJW_s, hJW_n, hRW_s, hRW_n, hNW_s, hNW_n, hRM_s, hRM_n, u2_s, u2_j, u2_row, u2_kk, gR_sI, gR_sJ, gJ_sI, gI_sJ, gN_sI, gN_sJ, gI_sR, gJ_sR, gN_sR, gI_sM, gJ_sM, gN_sM, ne_eq, Nat.reduceEqDiff, not_false_eq_true, reduceCtorEq, true_implies]
      · simp only [hI_s, hI_n, hJ_s, hJ_n, hR_s, hR_n, hIW_s, hIW_n, hJW_s, hJW_n, hRW_s, hRW_n, hNW_s, hNW_n, hRM_s, hRM_n, u2_s, u2_j, u2_row, u2_kk, gR_sI, gR_sJ, gJ_sI, gI_sJ, gN_sI, gN_sJ, gI_sR, gJ_sR, gN_sR, gI_sM, gJ_sM, gN_sM, ne_eq, Nat.reduceEqDiff, not_false_eq_true, reduceCtorEq, true_implies]
      · (simp only [hI_s, hI_n, hJ_s, hJ_n, hR_s, hR_n, hIW_s, hIW_n, hJW_s, hJW_n, hRW_s, hRW_n, hNW_s, hNW_n, hRM_s, hRM_n, u2_s, u2_j, u2_row, u2_kk, gR_sI, gR_sJ, gJ_sI, gI_sJ, gN_sI, gN_sJ, gI_sR, gJ_sR, gN_sR, gI_sM, gJ_sM, gN_sM, ne_eq, Nat.reduceEqDiff, not_false_eq_true, reduceCtorEq, true_implies]; try exact upd_s)
      · omega
      · omega
      · omega
      · rw [hI_n hf, hI_n hf]
      · rfl
      · rfl
      · rfl
      · rw [hI_n hf2]
      · rfl
      · rfl
    · have hc' := hc
      rw [Int32.le_iff_toInt_le] at hc'
      have he : ¬ yr (gI m 0 0 3) = gI m 114 0 i := fun h9 => by rw [h9] at hc'; omega
      by_cases hd : gI m 113 0 i ≤ yr (gI m 0 0 3)
      · have hd' := hd
        rw [Int32.le_iff_toInt_le] at hd'
        simp only [hc, hd, he, c3, ↓forall_eq, bz_b, gR_sI, gR_sJ, gJ_sI, gI_sJ, gN_sI, gN_sJ, gI_sR, gJ_sR, gN_sR, gI_sI, gJ_sJ, gR_sR, gI_nW, gR_nW, gN_nW, gJ_nW, rM_at, rXs_at, rXd_at, ex_s, true_and, and_true, false_and, and_false, or_true, true_or, or_false, false_or, if_true, if_false, not_true_eq_false, not_false_eq_true, forall_const, true_implies, false_implies, implies_true, Nat.reduceLeDiff, Nat.reduceEqDiff, reduceCtorEq, i32_succ, i32_pred, Nat.le_refl, Nat.lt_add_one, Nat.reduceLT, ne_eq, Nat.add_one_ne_zero]
        refine n3 (gI m 113 0 i) (yr (gI m 0 0 3)) _ _ (fun k j hk => ?_) (fun j h4 h5 => ?_) (fun k hk => ?_) (fun k hk => ?_) ?_ ?_ ?_ ?_ ?_ ?_ ?_ (fun f' hf => ?_) ?_ ?_ ?_ (fun f' hf hf2 => ?_) ?_ ?_
        · simp only [hI_s, hI_n, hJ_s, hJ_n, hR_s, hR_n, hIW_s, hIW_n, hJW_s, hJW_n, hRW_s, hRW_n, hNW_s, hNW_n, hRM_s, hRM_n, u2_s, u2_j, u2_row, u2_kk, gR_sI, gR_sJ, gJ_sI, gI_sJ, gN_sI, gN_sJ, gI_sR, gJ_sR, gN_sR, gI_sM, gJ_sM, gN_sM, ne_eq, Nat.reduceEqDiff, not_false_eq_true, reduceCtorEq, true_implies]; rw [u2_k hk, u2_k hk]
        · simp only [hI_s, hI_n, hJ_s, hJ_n, hR_s, hR_n, hIW_s, hIW_n, hJW_s, hJW_n, hRW_s, hRW_n, hNW_s, hNW_n, hRM_s, hRM_n, u2_s, u2_j, u2_row, u2_kk, gR_sI, gR_sJ, gJ_sI, gI_sJ, gN_sI, gN_sJ, gI_sR, gJ_sR, gN_sR, gI_sM, gJ_sM, gN_sM, ne_eq, Nat.reduceEqDiff, not_false_eq_true, reduceCtorEq, true_implies]; rw [upd_n h4, upd_n h5]
        · simp only [hI_s, hI_n, hJ_s, hJ_n, hR_s, hR_n, hIW_s, hIW_n, hJW_s, hJW_n, hRW_s, hRW_n, hNW_s, hNW_n, hRM_s, hRM_n, u2_s, u2_j, u2_row, u2_kk, gR_sI, gR_sJ, gJ_sI, gI_sJ, gN_sI, gN_sJ, gI_sR, gJ_sR, gN_sR, gI_sM, gJ_sM, gN_sM, ne_eq, Nat.reduceEqDiff, not_false_eq_true, reduceCtorEq, true_implies]
        · simp only [hI_s, hI_n, hJ_s, hJ_n, hR_s, hR_n, hIW_s, hIW_n, hJW_s, hJW_n, hRW_s, hRW_n, hNW_s, hNW_n, hRM_s, hRM_n, u2_s, u2_j, u2_row, u2_kk, gR_sI, gR_sJ, gJ_sI, gI_sJ, gN_sI, gN_sJ, gI_sR, gJ_sR, gN_sR, gI_sM, gJ_sM, gN_sM, ne_eq, Nat.reduceEqDiff, not_false_eq_true, reduceCtorEq, true_implies]; exact upd_n hk
        · simp only [hI_s, hI_n, hJ_s, hJ_n, hR_s, hR_n, hIW_s, hIW_n, hJW_s, hJW_n, hRW_s, hRW_n, hNW_s, hNW_n, hRM_s, hRM_n, u2_s, u2_j, u2_row, u2_kk, gR_sI, gR_sJ, gJ_sI, gI_sJ, gN_sI, gN_sJ, gI_sR, gJ_sR, gN_sR, gI_sM, gJ_sM, gN_sM, ne_eq, Nat.reduceEqDiff, not_false_eq_true, reduceCtorEq, true_implies]
        · simp only [hI_s, hI_n, hJ_s, hJ_n, hR_s, hR_n, hIW_s, hIW_n, hJW_s, hJW_n, hRW_s, hRW_n, hNW_s, hNW_n, hRM_s, hRM_n, u2_s, u2_j, u2_row, u2_kk, gR_sI, gR_sJ, gJ_sI, gI_sJ, gN_sI, gN_sJ, gI_sR, gJ_sR, gN_sR, gI_sM, gJ_sM, gN_sM, ne_eq, Nat.reduceEqDiff, not_false_eq_true, reduceCtorEq, true_implies]
        · simp only [hI_s, hI_n, hJ_s, hJ_n, hR_s, hR_n, hIW_s, hIW_n, hJW_s, hJW_n, hRW_s, hRW_n, hNW_s, hNW_n, hRM_s, hRM_n, u2_s, u2_j, u2_row, u2_kk, gR_sI, gR_sJ, gJ_sI, gI_sJ, gN_sI, gN_sJ, gI_sR, gJ_sR, gN_sR, gI_sM, gJ_sM, gN_sM, ne_eq, Nat.reduceEqDiff, not_false_eq_true, reduceCtorEq, true_implies]
        · (simp only [hI_s, hI_n, hJ_s, hJ_n, hR_s, hR_n, hIW_s, hIW_n, hJW_s, hJW_n, hRW_s, hRW_n, hNW_s, hNW_n, hRM_s, hRM_n, u2_s, u2_j, u2_row, u2_kk, gR_sI, gR_sJ, gJ_sI, gI_sJ, gN_sI, gN_sJ, gI_sR, gJ_sR, gN_sR, gI_sM, gJ_sM, gN_sM, ne_eq, Nat.reduceEqDiff, not_false_eq_true, reduceCtorEq, true_implies]; try exact upd_s)
        · omega
        · omega
        · omega
        · rw [hI_n hf, hI_n hf]
        · rfl
        · rfl
        · rfl
        · rw [hI_n hf2]
        · rfl
        · rfl
      · have hd' := hd
        rw [Int32.le_iff_toInt_le] at hd'
        have he2 : ¬ yr (gI m 0 0 3) = gI m 113 0 i := fun h9 => by rw [h9] at hd'; omega
        simp only [hc, hd, he, he2, c3, ↓forall_eq, bz_b, gR_sI, gR_sJ, gJ_sI, gI_sJ, gN_sI, gN_sJ, gI_sR, gJ_sR, gN_sR, gI_sI, gJ_sJ, gR_sR, gI_nW, gR_nW, gN_nW, gJ_nW, rM_at, rXs_at, rXd_at, ex_s, true_and, and_true, false_and, and_false, or_true, true_or, or_false, false_or, if_true, if_false, not_true_eq_false, not_false_eq_true, forall_const, true_implies, false_implies, implies_true, Nat.reduceLeDiff, Nat.reduceEqDiff, reduceCtorEq, i32_succ, i32_pred, Nat.le_refl, Nat.lt_add_one, Nat.reduceLT, ne_eq, Nat.add_one_ne_zero]
        refine n3 (yr (gI m 0 0 3)) (yr (gI m 0 0 3)) _ _ (fun k j hk => ?_) (fun j h4 h5 => ?_) (fun k hk => ?_) (fun k hk => ?_) ?_ ?_ ?_ ?_ ?_ ?_ ?_ (fun f' hf => ?_) ?_ ?_ ?_ (fun f' hf hf2 => ?_) ?_ ?_
        · simp only [hI_s, hI_n, hJ_s, hJ_n, hR_s, hR_n, hIW_s, hIW_n, hJW_s, hJW_n, hRW_s, hRW_n, hNW_s, hNW_n, hRM_s, hRM_n, u2_s, u2_j, u2_row, u2_kk, gR_sI, gR_sJ, gJ_sI, gI_sJ, gN_sI, gN_sJ, gI_sR, gJ_sR, gN_sR, gI_sM, gJ_sM, gN_sM, ne_eq, Nat.reduceEqDiff, not_false_eq_true, reduceCtorEq, true_implies]; rw [u2_k hk, u2_k hk]
        · simp only [hI_s, hI_n, hJ_s, hJ_n, hR_s, hR_n, hIW_s, hIW_n, hJW_s, hJW_n, hRW_s, hRW_n, hNW_s, hNW_n, hRM_s, hRM_n, u2_s, u2_j, u2_row, u2_kk, gR_sI, gR_sJ, gJ_sI, gI_sJ, gN_sI, gN_sJ, gI_sR, gJ_sR, gN_sR, gI_sM, gJ_sM, gN_sM, ne_eq, Nat.reduceEqDiff, not_false_eq_true, reduceCtorEq, true_implies]; rw [upd_n h4, upd_n h5]
        · simp only [hI_s, hI_n, hJ_s, hJ_n, hR_s, hR_n, hIW_s, hIW_n, hJW_s, hJW_n, hRW_s, hRW_n, hNW_s, hNW_n, hRM_s, hRM_n, u2_s, u2_j, u2_row, u2_kk, gR_sI, gR_sJ, gJ_sI, gI_sJ, gN_sI, gN_sJ, gI_sR, gJ_sR, gN_sR, gI_sM, gJ_sM, gN_sM, ne_eq, Nat.reduceEqDiff, not_false_eq_true, reduceCtorEq, true_implies]; exact upd_n hk
        · simp only [hI_s, hI_n, hJ_s, hJ_n, hR_s, hR_n, hIW_s, hIW_n, hJW_s, hJW_n, hRW_s, hRW_n, hNW_s, hNW_n, hRM_s, hRM_n, u2_s, u2_j, u2_row, u2_kk, gR_sI, gR_sJ, gJ_sI, gI_sJ, gN_sI, gN_sJ, gI_sR, gJ_sR, gN_sR, gI_sM, gJ_sM, gN_sM, ne_eq, Nat.reduceEqDiff, not_false_eq_true, reduceCtorEq, true_implies]; exact upd_n hk
        · simp only [hI_s, hI_n, hJ_s, hJ_n, hR_s, hR_n, hIW_s, hIW_n, hJW_s, hJW_n, hRW_s, hRW_n, hNW_s, hNW_n, hRM_s, hRM_n, u2_s, u2_j, u2_row, u2_kk, gR_sI, gR_sJ, gJ_sI, gI_sJ, gN_sI, gN_sJ, gI_sR, gJ_sR, gN_sR, gI_sM, gJ_sM, gN_sM, ne_eq, Nat.reduceEqDiff, not_false_eq_true, reduceCtorEq, true_implies]
        · simp only [hI_s, hI_n, hJ_s, hJ_n, hR_s, hR_n, hIW_s, hIW_n, hJW_s, hJW_n, hRW_s, hRW_n, hNW_s, hNW_n, hRM_s, hRM_n, u2_s, u2_j, u2_row, u2_kk, gR_sI, gR_sJ, gJ_sI, gI_sJ, gN_sI, gN_sJ, gI_sR, gJ_sR, gN_sR, gI_sM, gJ_sM, gN_sM, ne_eq, Nat.reduceEqDiff, not_false_eq_true, reduceCtorEq, true_implies]
        · (simp only [hI_s, hI_n, hJ_s, hJ_n, hR_s, hR_n, hIW_s, hIW_n, hJW_s, hJW_n, hRW_s, hRW_n, hNW_s, hNW_n, hRM_s, hRM_n, u2_s, u2_j, u2_row, u2_kk, gR_sI, gR_sJ, gJ_sI, gI_sJ, gN_sI, gN_sJ, gI_sR, gJ_sR, gN_sR, gI_sM, gJ_sM, gN_sM, ne_eq, Nat.reduceEqDiff, not_false_eq_true, reduceCtorEq, true_implies]; try exact upd_s)
        · (simp only [hI_s, hI_n, hJ_s, hJ_n, hR_s, hR_n, hIW_s, hIW_n, hJW_s, hJW_n, hRW_s, hRW_n, hNW_s, hNW_n, hRM_s, hRM_n, u2_s, u2_j, u2_row, u2_kk, gR_sI, gR_sJ, gJ_sI, gI_sJ, gN_sI, gN_sJ, gI_sR, gJ_sR, gN_sR, gI_sM, gJ_sM, gN_sM, ne_eq, Nat.reduceEqDiff, not_false_eq_true, reduceCtorEq, true_implies]; try exact upd_s)
        · omega
        · omega
        · omega
        · rw [hI_n hf, hI_n hf]
        · rfl
        · rfl
        · rfl
        · rw [hI_n hf, hI_n hf2]
        · rfl
        · rfl
  · -- fine
    have he : ¬ gI m 114 0 i + 2 = gI m 114 0 i := fun h9 => by
      have := congrArg Int32.toInt h9
      rw [s2] at this; omega
    simp only [F_L_taste, F_X9_taste, xX_lotAt x0 l2 l1 hi q5, F_X3_tastedFine, J_X9_taste_94, Int32.reduceToInt, pu_00, pu_30, pu_31, pu_32, q9, q10, he, Int.lt_irrefl, Int.reduceLT, ↓forall_eq, bz_b, gR_sI, gR_sJ, gJ_sI, gI_sJ, gN_sI, gN_sJ, gI_sR, gJ_sR, gN_sR, gI_sI, gJ_sJ, gR_sR, gI_nW, gR_nW, gN_nW, gJ_nW, rM_at, rXs_at, rXd_at, ex_s, true_and, and_true, false_and, and_false, or_true, true_or, or_false, false_or, if_true, if_false, not_true_eq_false, not_false_eq_true, forall_const, true_implies, false_implies, implies_true, Nat.reduceLeDiff, Nat.reduceEqDiff, reduceCtorEq, i32_succ, i32_pred, Nat.le_refl, Nat.lt_add_one, Nat.reduceLT, ne_eq, Nat.add_one_ne_zero]
    simp only [F_X10_taste, eM_isLot l3 l1 (show (1 : Int32) ≠ 0 by decide), p1, eM_within, eM_mayz (show (2 : Int32) ≠ 0 by decide), Int32.reduceToInt, Int.le_refl, Int.reduceLE, Int.reduceLT, pu_00, pu_10, pu_20, pu_30, pu_31, pu_32, eM_year, J_X10_taste_177, hM, e3, e4, he, ↓forall_eq, bz_b, gR_sI, gR_sJ, gJ_sI, gI_sJ, gN_sI, gN_sJ, gI_sR, gJ_sR, gN_sR, gI_sI, gJ_sJ, gR_sR, gI_nW, gR_nW, gN_nW, gJ_nW, rM_at, rXs_at, rXd_at, ex_s, true_and, and_true, false_and, and_false, or_true, true_or, or_false, false_or, if_true, if_false, not_true_eq_false, not_false_eq_true, forall_const, true_implies, false_implies, implies_true, Nat.reduceLeDiff, Nat.reduceEqDiff, reduceCtorEq, i32_succ, i32_pred, Nat.le_refl, Nat.lt_add_one, Nat.reduceLT, ne_eq, Nat.add_one_ne_zero]
    refine n3 (gI m 113 0 i) (gI m 114 0 i + 2) _ _ (fun k j hk => ?_) (fun j h4 h5 => ?_) (fun k hk => ?_) (fun k hk => ?_) ?_ ?_ ?_ ?_ ?_ ?_ ?_ (fun f' hf => ?_) ?_ ?_ ?_ (fun f' hf hf2 => ?_) ?_ ?_
    · simp only [hI_s, hI_n, hJ_s, hJ_n, hR_s, hR_n, hIW_s, hIW_n, hJW_s, hJW_n, hRW_s, hRW_n, hNW_s, hNW_n, hRM_s, hRM_n, u2_s, u2_j, u2_row, u2_kk, gR_sI, gR_sJ, gJ_sI, gI_sJ, gN_sI, gN_sJ, gI_sR, gJ_sR, gN_sR, gI_sM, gJ_sM, gN_sM, ne_eq, Nat.reduceEqDiff, not_false_eq_true, reduceCtorEq, true_implies]; exact u2_k hk
    · simp only [hI_s, hI_n, hJ_s, hJ_n, hR_s, hR_n, hIW_s, hIW_n, hJW_s, hJW_n, hRW_s, hRW_n, hNW_s, hNW_n, hRM_s, hRM_n, u2_s, u2_j, u2_row, u2_kk, gR_sI, gR_sJ, gJ_sI, gI_sJ, gN_sI, gN_sJ, gI_sR, gJ_sR, gN_sR, gI_sM, gJ_sM, gN_sM, ne_eq, Nat.reduceEqDiff, not_false_eq_true, reduceCtorEq, true_implies]; exact upd_n h5
    · simp only [hI_s, hI_n, hJ_s, hJ_n, hR_s, hR_n, hIW_s, hIW_n, hJW_s, hJW_n, hRW_s, hRW_n, hNW_s, hNW_n, hRM_s, hRM_n, u2_s, u2_j, u2_row, u2_kk, gR_sI, gR_sJ, gJ_sI, gI_sJ, gN_sI, gN_sJ, gI_sR, gJ_sR, gN_sR, gI_sM, gJ_sM, gN_sM, ne_eq, Nat.reduceEqDiff, not_false_eq_true, reduceCtorEq, true_implies]
    · simp only [hI_s, hI_n, hJ_s, hJ_n, hR_s, hR_n, hIW_s, hIW_n, hJW_s, hJW_n, hRW_s, hRW_n, hNW_s, hNW_n, hRM_s, hRM_n, u2_s, u2_j, u2_row, u2_kk, gR_sI, gR_sJ, gJ_sI, gI_sJ, gN_sI, gN_sJ, gI_sR, gJ_sR, gN_sR, gI_sM, gJ_sM, gN_sM, ne_eq, Nat.reduceEqDiff, not_false_eq_true, reduceCtorEq, true_implies]; exact upd_n hk
    · (simp only [hI_s, hI_n, hJ_s, hJ_n, hR_s, hR_n, hIW_s, hIW_n, hJW_s, hJW_n, hRW_s, hRW_n, hNW_s, hNW_n, hRM_s, hRM_n, u2_s, u2_j, u2_row, u2_kk, gR_sI, gR_sJ, gJ_sI, gI_sJ, gN_sI, gN_sJ, gI_sR, gJ_sR, gN_sR, gI_sM, gJ_sM, gN_sM, ne_eq, Nat.reduceEqDiff, not_false_eq_true, reduceCtorEq, true_implies]; try exact q9)
    · simp only [hI_s, hI_n, hJ_s, hJ_n, hR_s, hR_n, hIW_s, hIW_n, hJW_s, hJW_n, hRW_s, hRW_n, hNW_s, hNW_n, hRM_s, hRM_n, u2_s, u2_j, u2_row, u2_kk, gR_sI, gR_sJ, gJ_sI, gI_sJ, gN_sI, gN_sJ, gI_sR, gJ_sR, gN_sR, gI_sM, gJ_sM, gN_sM, ne_eq, Nat.reduceEqDiff, not_false_eq_true, reduceCtorEq, true_implies]
    · simp only [hI_s, hI_n, hJ_s, hJ_n, hR_s, hR_n, hIW_s, hIW_n, hJW_s, hJW_n, hRW_s, hRW_n, hNW_s, hNW_n, hRM_s, hRM_n, u2_s, u2_j, u2_row, u2_kk, gR_sI, gR_sJ, gJ_sI, gI_sJ, gN_sI, gN_sJ, gI_sR, gJ_sR, gN_sR, gI_sM, gJ_sM, gN_sM, ne_eq, Nat.reduceEqDiff, not_false_eq_true, reduceCtorEq, true_implies]
    · (simp only [hI_s, hI_n, hJ_s, hJ_n, hR_s, hR_n, hIW_s, hIW_n, hJW_s, hJW_n, hRW_s, hRW_n, hNW_s, hNW_n, hRM_s, hRM_n, u2_s, u2_j, u2_row, u2_kk, gR_sI, gR_sJ, gJ_sI, gI_sJ, gN_sI, gN_sJ, gI_sR, gJ_sR, gN_sR, gI_sM, gJ_sM, gN_sM, ne_eq, Nat.reduceEqDiff, not_false_eq_true, reduceCtorEq, true_implies]; try exact upd_s)
    · omega
    · omega
    · omega
    · exact hI_n hf
    · rfl
    · rfl
    · rfl
    · exact hI_n hf2
    · rfl
    · rfl
