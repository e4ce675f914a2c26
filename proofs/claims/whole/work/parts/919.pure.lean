/-! ===== a glass ===== -/
set_option maxRecDepth 16384 in
set_option maxHeartbeats 2000000 in
theorem glass_pour {n nk nl no nt nd na ns i k : Nat} {x m : tw_T} (hA : RelA n nk nl no nt nd na ns x m) (hi : i < nl) (hk : k < no) (hki : gI m 125 0 k = i32 i) (h0 : gI m 0 0 0 = 0) :
    ∃ r x9 m9, (∀ Q : Int32 → tw_T → Prop, Q r x9 → F_X9_pour x 0 i Q) ∧ (∀ Q : Int32 → tw_T → Prop, Q r m9 → J_X10_glass_147 m 0 (i32 i) (i32 k) Q) ∧ gI m9 0 0 0 = 0 ∧ Rel (n + 1) x9 m9 := by
  have hA0 := hA
  obtain ⟨no, rfl⟩ : ∃ a, no = a + 1 := ⟨no - 1, by omega⟩
  obtain ⟨hM, hX0, hK0, hL0, hC0, hO0, hG0, hT0, hD0, hW0⟩ := hA
  have x0 := hX0.1
  obtain ⟨q, q1, q2, q3, q4, q5, q6, q7, q8, q9, q10, q11, r1, r2, r3, r4, r5, r6, r7⟩ := hA0.lot hi
  have l1 := hL0.1
  have hno := hO0.no_le
  have hG := hG0
  obtain ⟨g1, g2, g3, g4, g5, g6, g7, g8, g9, g10, g11⟩ := hG
  have hy := yr_rng g2 g3
  have e3 := vpin (show k < 60 by omega) (by decide)
  have e4 := i32_nat (show k < 2147483648 by omega)
  have hO := hO0
  obtain ⟨o1, o2, o3, o4, o5, o6⟩ := hO
  obtain ⟨l', t1, t2, t3, t4, t5⟩ := o3 k hk
  have el : l' = i := i32_inj (by omega) (by omega) (t2.symm.trans hki)
  rw [el] at t3 t4
  have hb := o2 i hi
  have w1 : (1 : Int32).toInt = 1 := rfl
  have hv : (gI x 21 i 7 - 1).toInt = (gI x 21 i 7).toInt - 1 := by rw [i32_sub] <;> rw [w1] <;> omega
  rw [t3] at t5
  by_cases hz : gI x 21 i 7 - 1 = 0
  · have hz' : gI m 127 0 k - 1 = 0 := by rw [t3]; exact hz
    have hL1 : ¬ 1 ≤ (gI x 21 i 7 - 1).toInt := by rw [hz]; decide
    refine ⟨(wM m i q (yr (gI m 0 0 3)) + 4) / 5, sJ (sI (sI (sI x 21 i 7 (gI x 21 i 7 - 1)) 7 0 5 (gI x 7 0 5 + 1)) 7 0 3 (gI x 7 0 3 + 1)) 7 0 7 (gJ x 7 0 7 + ((wM m i q (yr (gI m 0 0 3)) + 4) / 5).toInt64),
      EMP (sI (sI (sJ m 0 0 4 (gJ m 0 0 4 + ((wM m i q (yr (gI m 0 0 3)) + 4) / 5).toInt64)) 0 0 20 (gI m 0 0 20 + 1)) 127 0 k (gI m 127 0 k - 1)) no k, fun Q hQ => ?_, fun Q hQ => ?_, ?_, ?_⟩
    · simp only [F_X9_pour, J_X9_pour_43, x0, xX_isOpen, bz_eq0, xX_year, hL1, ↓forall_eq, bz_b, gR_sI, gR_sJ, gJ_sI, gI_sJ, gN_sI, gN_sJ, gI_sR, gJ_sR, gN_sR, gI_sI, gJ_sJ, gR_sR, gI_nW, gR_nW, gN_nW, gJ_nW, rM_at, rXs_at, rXd_at, ex_s, true_and, and_true, false_and, and_false, or_true, true_or, or_false, false_or, if_true, if_false, not_true_eq_false, not_false_eq_true, forall_const, true_implies, false_implies, implies_true, Nat.reduceLeDiff, Nat.reduceEqDiff, reduceCtorEq, i32_succ, i32_pred, Nat.le_refl, Nat.lt_add_one, Nat.reduceLT, ne_eq, Nat.add_one_ne_zero]
      refine (xX_worthIn (q := q) (by simpa only [gR_sI] using q4)).mpr ?_
      simp only [q8, q9, q10, q11, g1, x0, ↓forall_eq, bz_b, gR_sI, gR_sJ, gJ_sI, gI_sJ, gN_sI, gN_sJ, gI_sR, gJ_sR, gN_sR, gI_sI, gJ_sJ, gR_sR, gI_nW, gR_nW, gN_nW, gJ_nW, rM_at, rXs_at, rXd_at, ex_s, true_and, and_true, false_and, and_false, or_true, true_or, or_false, false_or, if_true, if_false, not_true_eq_false, not_false_eq_true, forall_const, true_implies, false_implies, implies_true, Nat.reduceLeDiff, Nat.reduceEqDiff, reduceCtorEq, i32_succ, i32_pred, Nat.le_refl, Nat.lt_add_one, Nat.reduceLT, ne_eq, Nat.add_one_ne_zero]
      exact hQ
    · simp only [J_X10_glass_147, eM_year]
      refine hA0.wM (τ := m) hi q3 q2 (by omega) (by omega) hM rfl rfl rfl rfl rfl ?_
      simp only [hM, e3, e4, hz', ↓forall_eq, bz_b, gR_sI, gR_sJ, gJ_sI, gI_sJ, gN_sI, gN_sJ, gI_sR, gJ_sR, gN_sR, gI_sI, gJ_sJ, gR_sR, gI_nW, gR_nW, gN_nW, gJ_nW, rM_at, rXs_at, rXd_at, ex_s, true_and, and_true, false_and, and_false, or_true, true_or, or_false, false_or, if_true, if_false, not_true_eq_false, not_false_eq_true, forall_const, true_implies, false_implies, implies_true, Nat.reduceLeDiff, Nat.reduceEqDiff, reduceCtorEq, i32_succ, i32_pred, Nat.le_refl, Nat.lt_add_one, Nat.reduceLT, ne_eq, Nat.add_one_ne_zero]
      refine eM_empties (no := no) (by simpa only [gR_sI, gR_sJ] using hM) ?_ (by omega) (by omega) ?_
      · simp only [gI_sI, gI_sJ, o1, ↓forall_eq, bz_b, gR_sI, gR_sJ, gJ_sI, gI_sJ, gN_sI, gN_sJ, gI_sR, gJ_sR, gN_sR, gI_sI, gJ_sJ, gR_sR, gI_nW, gR_nW, gN_nW, gJ_nW, rM_at, rXs_at, rXd_at, ex_s, true_and, and_true, false_and, and_false, or_true, true_or, or_false, false_or, if_true, if_false, not_true_eq_false, not_false_eq_true, forall_const, true_implies, false_implies, implies_true, Nat.reduceLeDiff, Nat.reduceEqDiff, reduceCtorEq, i32_succ, i32_pred, Nat.le_refl, Nat.lt_add_one, Nat.reduceLT, ne_eq, Nat.add_one_ne_zero]
      · rw [hz'] at hQ; exact hQ
    · simp only [EMP, SH_R, SH_J, SH_N, SH_n, SH_s, or_self, or_false, false_or, true_or, or_true, upd_s, hI_s, hI_n, hJ_s, hJ_n, hR_s, hR_n, hIW_s, hIW_n, hJW_s, hJW_n, hRW_s, hRW_n, hNW_s, hNW_n, hRM_s, hRM_n, u2_s, u2_j, u2_row, u2_kk, gR_sI, gR_sJ, gJ_sI, gI_sJ, gN_sI, gN_sJ, gI_sR, gJ_sR, gN_sR, gI_sM, gJ_sM, gN_sM, ne_eq, Nat.reduceEqDiff, not_false_eq_true, reduceCtorEq, true_implies, h0]
    · unfold EMP
      refine ⟨nk, nl, no, nt, nd, na, ns, ?_⟩
      refine ⟨(by simpa only [SH_R, SH_J, SH_N, SH_n, SH_s, or_self, or_false, false_or, true_or, or_true, upd_s, hI_s, hI_n, hJ_s, hJ_n, hR_s, hR_n, hIW_s, hIW_n, hJW_s, hJW_n, hRW_s, hRW_n, hNW_s, hNW_n, hRM_s, hRM_n, u2_s, u2_j, u2_row, u2_kk, gR_sI, gR_sJ, gJ_sI, gI_sJ, gN_sI, gN_sJ, gI_sR, gJ_sR, gN_sR, gI_sM, gJ_sM, gN_sM, ne_eq, Nat.reduceEqDiff, not_false_eq_true, reduceCtorEq, true_implies] using hM), (by simpa only [SH_R, SH_J, SH_N, SH_n, SH_s, or_self, or_false, false_or, true_or, or_true, upd_s, hI_s, hI_n, hJ_s, hJ_n, hR_s, hR_n, hIW_s, hIW_n, hJW_s, hJW_n, hRW_s, hRW_n, hNW_s, hNW_n, hRM_s, hRM_n, u2_s, u2_j, u2_row, u2_kk, gR_sI, gR_sJ, gJ_sI, gI_sJ, gN_sI, gN_sJ, gI_sR, gJ_sR, gN_sR, gI_sM, gJ_sM, gN_sM, ne_eq, Nat.reduceEqDiff, not_false_eq_true, reduceCtorEq, true_implies] using hX0), (by simpa only [SH_R, SH_J, SH_N, SH_n, SH_s, or_self, or_false, false_or, true_or, or_true, upd_s, hI_s, hI_n, hJ_s, hJ_n, hR_s, hR_n, hIW_s, hIW_n, hJW_s, hJW_n, hRW_s, hRW_n, hNW_s, hNW_n, hRM_s, hRM_n, u2_s, u2_j, u2_row, u2_kk, gR_sI, gR_sJ, gJ_sI, gI_sJ, gN_sI, gN_sJ, gI_sR, gJ_sR, gN_sR, gI_sM, gJ_sM, gN_sM, ne_eq, Nat.reduceEqDiff, not_false_eq_true, reduceCtorEq, true_implies] using hK0), ?_, (by simpa only [SH_R, SH_J, SH_N, SH_n, SH_s, or_self, or_false, false_or, true_or, or_true, upd_s, hI_s, hI_n, hJ_s, hJ_n, hR_s, hR_n, hIW_s, hIW_n, hJW_s, hJW_n, hRW_s, hRW_n, hNW_s, hNW_n, hRM_s, hRM_n, u2_s, u2_j, u2_row, u2_kk, gR_sI, gR_sJ, gJ_sI, gI_sJ, gN_sI, gN_sJ, gI_sR, gJ_sR, gN_sR, gI_sM, gJ_sM, gN_sM, ne_eq, Nat.reduceEqDiff, not_false_eq_true, reduceCtorEq, true_implies] using hC0), ?_, ?_, (by simpa only [SH_R, SH_J, SH_N, SH_n, SH_s, or_self, or_false, false_or, true_or, or_true, upd_s, hI_s, hI_n, hJ_s, hJ_n, hR_s, hR_n, hIW_s, hIW_n, hJW_s, hJW_n, hRW_s, hRW_n, hNW_s, hNW_n, hRM_s, hRM_n, u2_s, u2_j, u2_row, u2_kk, gR_sI, gR_sJ, gJ_sI, gI_sJ, gN_sI, gN_sJ, gI_sR, gJ_sR, gN_sR, gI_sM, gJ_sM, gN_sM, ne_eq, Nat.reduceEqDiff, not_false_eq_true, reduceCtorEq, true_implies] using hT0), (by simpa only [SH_R, SH_J, SH_N, SH_n, SH_s, or_self, or_false, false_or, true_or, or_true, upd_s, hI_s, hI_n, hJ_s, hJ_n, hR_s, hR_n, hIW_s, hIW_n, hJW_s, hJW_n, hRW_s, hRW_n, hNW_s, hNW_n, hRM_s, hRM_n, u2_s, u2_j, u2_row, u2_kk, gR_sI, gR_sJ, gJ_sI, gI_sJ, gN_sI, gN_sJ, gI_sR, gJ_sR, gN_sR, gI_sM, gJ_sM, gN_sM, ne_eq, Nat.reduceEqDiff, not_false_eq_true, reduceCtorEq, true_implies] using hD0), (by simpa only [SH_R, SH_J, SH_N, SH_n, SH_s, or_self, or_false, false_or, true_or, or_true, upd_s, hI_s, hI_n, hJ_s, hJ_n, hR_s, hR_n, hIW_s, hIW_n, hJW_s, hJW_n, hRW_s, hRW_n, hNW_s, hNW_n, hRM_s, hRM_n, u2_s, u2_j, u2_row, u2_kk, gR_sI, gR_sJ, gJ_sI, gI_sJ, gN_sI, gN_sJ, gI_sR, gJ_sR, gN_sR, gI_sM, gJ_sM, gN_sM, ne_eq, Nat.reduceEqDiff, not_false_eq_true, reduceCtorEq, true_implies] using hW0)⟩
      · simp only [SH_R, SH_J, SH_N, SH_n, SH_s, or_self, or_false, false_or, true_or, or_true, upd_s, hI_s, hI_n, hJ_s, hJ_n, hR_s, hR_n, hIW_s, hIW_n, hJW_s, hJW_n, hRW_s, hRW_n, hNW_s, hNW_n, hRM_s, hRM_n, u2_s, u2_j, u2_row, u2_kk, gR_sI, gR_sJ, gJ_sI, gI_sJ, gN_sI, gN_sJ, gI_sR, gJ_sR, gN_sR, gI_sM, gJ_sM, gN_sM, ne_eq, Nat.reduceEqDiff, not_false_eq_true, reduceCtorEq, true_implies]
        exact hL0.up.congr (fun a j hj => u2_j (by omega))
      · simp only [SH_R, SH_J, SH_N, SH_n, SH_s, or_self, or_false, false_or, true_or, or_true, upd_s, hI_s, hI_n, hJ_s, hJ_n, hR_s, hR_n, hIW_s, hIW_n, hJW_s, hJW_n, hRW_s, hRW_n, hNW_s, hNW_n, hRM_s, hRM_n, u2_s, u2_j, u2_row, u2_kk, gR_sI, gR_sJ, gJ_sI, gI_sJ, gN_sI, gN_sJ, gI_sR, gJ_sR, gN_sR, gI_sM, gJ_sM, gN_sM, ne_eq, Nat.reduceEqDiff, not_false_eq_true, reduceCtorEq, true_implies]
        exact hO0.del (l := i) (by omega) hki hi l1 (by rw [u2_s]; exact hz) (fun a j h9 => by unfold upd2; rw [if_neg (by omega)]) (fun j hj => upd_n hj)
      · simp only [SH_R, SH_J, SH_N, SH_n, SH_s, or_self, or_false, false_or, true_or, or_true, upd_s, hI_s, hI_n, hJ_s, hJ_n, hR_s, hR_n, hIW_s, hIW_n, hJW_s, hJW_n, hRW_s, hRW_n, hNW_s, hNW_n, hRM_s, hRM_n, u2_s, u2_j, u2_row, u2_kk, gR_sI, gR_sJ, gJ_sI, gI_sJ, gN_sI, gN_sJ, gI_sR, gJ_sR, gN_sR, gI_sM, gJ_sM, gN_sM, ne_eq, Nat.reduceEqDiff, not_false_eq_true, reduceCtorEq, true_implies, hz', Int32.add_zero]
        exact ⟨g1, g2, g3, g4, g5, g6, by rw [g7], g8, by rw [g9], g10, by rw [g11]⟩
  · have hz' : ¬ gI m 127 0 k - 1 = 0 := by rw [t3]; exact hz
    have hz2 : (gI x 21 i 7 - 1).toInt ≠ 0 := fun h9 => hz (i32_eq0.mpr h9)
    have hL1 : 1 ≤ (gI x 21 i 7 - 1).toInt := by omega
    refine ⟨(wM m i q (yr (gI m 0 0 3)) + 4) / 5, sJ (sI (sI x 21 i 7 (gI x 21 i 7 - 1)) 7 0 5 (gI x 7 0 5 + 1)) 7 0 7 (gJ x 7 0 7 + ((wM m i q (yr (gI m 0 0 3)) + 4) / 5).toInt64),
      sI (sI (sJ m 0 0 4 (gJ m 0 0 4 + ((wM m i q (yr (gI m 0 0 3)) + 4) / 5).toInt64)) 0 0 20 (gI m 0 0 20 + 1)) 127 0 k (gI m 127 0 k - 1), fun Q hQ => ?_, fun Q hQ => ?_, ?_, ?_⟩
    · simp only [F_X9_pour, J_X9_pour_43, x0, xX_isOpen, bz_eq0, xX_year, hL1, ↓forall_eq, bz_b, gR_sI, gR_sJ, gJ_sI, gI_sJ, gN_sI, gN_sJ, gI_sR, gJ_sR, gN_sR, gI_sI, gJ_sJ, gR_sR, gI_nW, gR_nW, gN_nW, gJ_nW, rM_at, rXs_at, rXd_at, ex_s, true_and, and_true, false_and, and_false, or_true, true_or, or_false, false_or, if_true, if_false, not_true_eq_false, not_false_eq_true, forall_const, true_implies, false_implies, implies_true, Nat.reduceLeDiff, Nat.reduceEqDiff, reduceCtorEq, i32_succ, i32_pred, Nat.le_refl, Nat.lt_add_one, Nat.reduceLT, ne_eq, Nat.add_one_ne_zero]
      refine (xX_worthIn (q := q) (by simpa only [gR_sI] using q4)).mpr ?_
      simp only [q8, q9, q10, q11, g1, x0, ↓forall_eq, bz_b, gR_sI, gR_sJ, gJ_sI, gI_sJ, gN_sI, gN_sJ, gI_sR, gJ_sR, gN_sR, gI_sI, gJ_sJ, gR_sR, gI_nW, gR_nW, gN_nW, gJ_nW, rM_at, rXs_at, rXd_at, ex_s, true_and, and_true, false_and, and_false, or_true, true_or, or_false, false_or, if_true, if_false, not_true_eq_false, not_false_eq_true, forall_const, true_implies, false_implies, implies_true, Nat.reduceLeDiff, Nat.reduceEqDiff, reduceCtorEq, i32_succ, i32_pred, Nat.le_refl, Nat.lt_add_one, Nat.reduceLT, ne_eq, Nat.add_one_ne_zero]
      exact hQ
    · simp only [J_X10_glass_147, eM_year]
      refine hA0.wM (τ := m) hi q3 q2 (by omega) (by omega) hM rfl rfl rfl rfl rfl ?_
      simp only [hM, e3, e4, hz', ↓forall_eq, bz_b, gR_sI, gR_sJ, gJ_sI, gI_sJ, gN_sI, gN_sJ, gI_sR, gJ_sR, gN_sR, gI_sI, gJ_sJ, gR_sR, gI_nW, gR_nW, gN_nW, gJ_nW, rM_at, rXs_at, rXd_at, ex_s, true_and, and_true, false_and, and_false, or_true, true_or, or_false, false_or, if_true, if_false, not_true_eq_false, not_false_eq_true, forall_const, true_implies, false_implies, implies_true, Nat.reduceLeDiff, Nat.reduceEqDiff, reduceCtorEq, i32_succ, i32_pred, Nat.le_refl, Nat.lt_add_one, Nat.reduceLT, ne_eq, Nat.add_one_ne_zero]
      exact hQ
    · simp only [hI_s, hI_n, hJ_s, hJ_n, hR_s, hR_n, hIW_s, hIW_n, hJW_s, hJW_n, hRW_s, hRW_n, hNW_s, hNW_n, hRM_s, hRM_n, u2_s, u2_j, u2_row, u2_kk, gR_sI, gR_sJ, gJ_sI, gI_sJ, gN_sI, gN_sJ, gI_sR, gJ_sR, gN_sR, gI_sM, gJ_sM, gN_sM, ne_eq, Nat.reduceEqDiff, not_false_eq_true, reduceCtorEq, true_implies, h0]
    · refine ⟨nk, nl, no + 1, nt, nd, na, ns, ?_⟩
      refine ⟨(by simpa only [hI_s, hI_n, hJ_s, hJ_n, hR_s, hR_n, hIW_s, hIW_n, hJW_s, hJW_n, hRW_s, hRW_n, hNW_s, hNW_n, hRM_s, hRM_n, u2_s, u2_j, u2_row, u2_kk, gR_sI, gR_sJ, gJ_sI, gI_sJ, gN_sI, gN_sJ, gI_sR, gJ_sR, gN_sR, gI_sM, gJ_sM, gN_sM, ne_eq, Nat.reduceEqDiff, not_false_eq_true, reduceCtorEq, true_implies] using hM), (by simpa only [hI_s, hI_n, hJ_s, hJ_n, hR_s, hR_n, hIW_s, hIW_n, hJW_s, hJW_n, hRW_s, hRW_n, hNW_s, hNW_n, hRM_s, hRM_n, u2_s, u2_j, u2_row, u2_kk, gR_sI, gR_sJ, gJ_sI, gI_sJ, gN_sI, gN_sJ, gI_sR, gJ_sR, gN_sR, gI_sM, gJ_sM, gN_sM, ne_eq, Nat.reduceEqDiff, not_false_eq_true, reduceCtorEq, true_implies] using hX0), (by simpa only [hI_s, hI_n, hJ_s, hJ_n, hR_s, hR_n, hIW_s, hIW_n, hJW_s, hJW_n, hRW_s, hRW_n, hNW_s, hNW_n, hRM_s, hRM_n, u2_s, u2_j, u2_row, u2_kk, gR_sI, gR_sJ, gJ_sI, gI_sJ, gN_sI, gN_sJ, gI_sR, gJ_sR, gN_sR, gI_sM, gJ_sM, gN_sM, ne_eq, Nat.reduceEqDiff, not_false_eq_true, reduceCtorEq, true_implies] using hK0), ?_, (by simpa only [hI_s, hI_n, hJ_s, hJ_n, hR_s, hR_n, hIW_s, hIW_n, hJW_s, hJW_n, hRW_s, hRW_n, hNW_s, hNW_n, hRM_s, hRM_n, u2_s, u2_j, u2_row, u2_kk, gR_sI, gR_sJ, gJ_sI, gI_sJ, gN_sI, gN_sJ, gI_sR, gJ_sR, gN_sR, gI_sM, gJ_sM, gN_sM, ne_eq, Nat.reduceEqDiff, not_false_eq_true, reduceCtorEq, true_implies] using hC0), ?_, ?_, (by simpa only [hI_s, hI_n, hJ_s, hJ_n, hR_s, hR_n, hIW_s, hIW_n, hJW_s, hJW_n, hRW_s, hRW_n, hNW_s, hNW_n, hRM_s, hRM_n, u2_s, u2_j, u2_row, u2_kk, gR_sI, gR_sJ, gJ_sI, gI_sJ, gN_sI, gN_sJ, gI_sR, gJ_sR, gN_sR, gI_sM, gJ_sM, gN_sM, ne_eq, Nat.reduceEqDiff, not_false_eq_true, reduceCtorEq, true_implies] using hT0), (by simpa only [hI_s, hI_n, hJ_s, hJ_n, hR_s, hR_n, hIW_s, hIW_n, hJW_s, hJW_n, hRW_s, hRW_n, hNW_s, hNW_n, hRM_s, hRM_n, u2_s, u2_j, u2_row, u2_kk, gR_sI, gR_sJ, gJ_sI, gI_sJ, gN_sI, gN_sJ, gI_sR, gJ_sR, gN_sR, gI_sM, gJ_sM, gN_sM, ne_eq, Nat.reduceEqDiff, not_false_eq_true, reduceCtorEq, true_implies] using hD0), (by simpa only [hI_s, hI_n, hJ_s, hJ_n, hR_s, hR_n, hIW_s, hIW_n, hJW_s, hJW_n, hRW_s, hRW_n, hNW_s, hNW_n, hRM_s, hRM_n, u2_s, u2_j, u2_row, u2_kk, gR_sI, gR_sJ, gJ_sI, gI_sJ, gN_sI, gN_sJ, gI_sR, gJ_sR, gN_sR, gI_sM, gJ_sM, gN_sM, ne_eq, Nat.reduceEqDiff, not_false_eq_true, reduceCtorEq, true_implies] using hW0)⟩
      · simp only [hI_s, hI_n, hJ_s, hJ_n, hR_s, hR_n, hIW_s, hIW_n, hJW_s, hJW_n, hRW_s, hRW_n, hNW_s, hNW_n, hRM_s, hRM_n, u2_s, u2_j, u2_row, u2_kk, gR_sI, gR_sJ, gJ_sI, gI_sJ, gN_sI, gN_sJ, gI_sR, gJ_sR, gN_sR, gI_sM, gJ_sM, gN_sM, ne_eq, Nat.reduceEqDiff, not_false_eq_true, reduceCtorEq, true_implies]
        exact hL0.up.congr (fun a j hj => u2_j (by omega))
      · simp only [hI_s, hI_n, hJ_s, hJ_n, hR_s, hR_n, hIW_s, hIW_n, hJW_s, hJW_n, hRW_s, hRW_n, hNW_s, hNW_n, hRM_s, hRM_n, u2_s, u2_j, u2_row, u2_kk, gR_sI, gR_sJ, gJ_sI, gI_sJ, gN_sI, gN_sJ, gI_sR, gJ_sR, gN_sR, gI_sM, gJ_sM, gN_sM, ne_eq, Nat.reduceEqDiff, not_false_eq_true, reduceCtorEq, true_implies]
        exact hO0.pour hk hki hi l1 (by omega)
      · simp only [hI_s, hI_n, hJ_s, hJ_n, hR_s, hR_n, hIW_s, hIW_n, hJW_s, hJW_n, hRW_s, hRW_n, hNW_s, hNW_n, hRM_s, hRM_n, u2_s, u2_j, u2_row, u2_kk, gR_sI, gR_sJ, gJ_sI, gI_sJ, gN_sI, gN_sJ, gI_sR, gJ_sR, gN_sR, gI_sM, gJ_sM, gN_sM, ne_eq, Nat.reduceEqDiff, not_false_eq_true, reduceCtorEq, true_implies]
        exact ⟨g1, g2, g3, g4, g5, g6, g7, g8, by rw [g9], g10, by rw [g11]⟩
set_option maxRecDepth 16384 in
set_option maxHeartbeats 2000000 in
theorem RelA.openc {n nk nl no nt nd na ns i c : Nat} {x m : tw_T} (hA : RelA n nk nl no nt nd na ns x m) (hi : i < nl) (hc : c < 30) (hcl : gI m 123 0 c = i32 i) (ho : ¬ 1 ≤ (gI x 21 i 7).toInt) :
    (¬ gI m 124 0 c - 1 = 0 → RelA n nk nl (no + 1) nt nd na ns (sI (sI (sI x 13 0 c (gI m 124 0 c - 1)) 21 i 6 (gI m 0 0 3)) 21 i 7 6) (sI (sI (sI (sI (sI (sI m 124 0 c (gI m 124 0 c - 1)) 123 0 c (i32 i)) 125 0 no (i32 i)) 126 0 no (gI m 0 0 3)) 127 0 no 6) 0 0 22 (i32 (no + 1)))) ∧
    (gI m 124 0 c - 1 = 0 → RelA n nk nl (no + 1) nt nd na ns (sI (sI (sI (sI x 13 0 c 0) 12 0 c (-1)) 21 i 6 (gI m 0 0 3)) 21 i 7 6) (sI (sI (sI (sI (sI (sI m 124 0 c 0) 123 0 c (-1)) 125 0 no (i32 i)) 126 0 no (gI m 0 0 3)) 127 0 no 6) 0 0 22 (i32 (no + 1)))) := by
  obtain ⟨hM, hX0, hK0, hL0, hC0, hO0, hG0, hT0, hD0, hW0⟩ := hA
  have l1 := hL0.1
  have g1 := hG0.1
  have g2 := hG0.2.1
  have hcm : ¬ gI m 124 0 c = 0 := fun h9 => by
    have := hC0.none hc h9
    rw [hcl] at this
    exact not_m1 (by omega) this
  obtain ⟨f1, f2, -⟩ := hC0.full hc hcm
  have w1 : (1 : Int32).toInt = 1 := rfl
  have hs : (gI m 124 0 c - 1).toInt = (gI m 124 0 c).toInt - 1 := by rw [i32_sub] <;> rw [w1] <;> omega
  refine ⟨fun hz => ?_, fun hz => ?_⟩
  · refine ⟨(by simpa only [hI_s, hI_n, hJ_s, hJ_n, hR_s, hR_n, hIW_s, hIW_n, hJW_s, hJW_n, hRW_s, hRW_n, hNW_s, hNW_n, hRM_s, hRM_n, u2_s, u2_j, u2_row, u2_kk, gR_sI, gR_sJ, gJ_sI, gI_sJ, gN_sI, gN_sJ, gI_sR, gJ_sR, gN_sR, gI_sM, gJ_sM, gN_sM, ne_eq, Nat.reduceEqDiff, not_false_eq_true, reduceCtorEq, true_implies] using hM), (by simpa only [hI_s, hI_n, hJ_s, hJ_n, hR_s, hR_n, hIW_s, hIW_n, hJW_s, hJW_n, hRW_s, hRW_n, hNW_s, hNW_n, hRM_s, hRM_n, u2_s, u2_j, u2_row, u2_kk, gR_sI, gR_sJ, gJ_sI, gI_sJ, gN_sI, gN_sJ, gI_sR, gJ_sR, gN_sR, gI_sM, gJ_sM, gN_sM, ne_eq, Nat.reduceEqDiff, not_false_eq_true, reduceCtorEq, true_implies] using hX0), (by simpa only [hI_s, hI_n, hJ_s, hJ_n, hR_s, hR_n, hIW_s, hIW_n, hJW_s, hJW_n, hRW_s, hRW_n, hNW_s, hNW_n, hRM_s, hRM_n, u2_s, u2_j, u2_row, u2_kk, gR_sI, gR_sJ, gJ_sI, gI_sJ, gN_sI, gN_sJ, gI_sR, gJ_sR, gN_sR, gI_sM, gJ_sM, gN_sM, ne_eq, Nat.reduceEqDiff, not_false_eq_true, reduceCtorEq, true_implies] using hK0), ?_, ?_, ?_, (by simpa only [hI_s, hI_n, hJ_s, hJ_n, hR_s, hR_n, hIW_s, hIW_n, hJW_s, hJW_n, hRW_s, hRW_n, hNW_s, hNW_n, hRM_s, hRM_n, u2_s, u2_j, u2_row, u2_kk, gR_sI, gR_sJ, gJ_sI, gI_sJ, gN_sI, gN_sJ, gI_sR, gJ_sR, gN_sR, gI_sM, gJ_sM, gN_sM, ne_eq, Nat.reduceEqDiff, not_false_eq_true, reduceCtorEq, true_implies] using hG0), (by simpa only [hI_s, hI_n, hJ_s, hJ_n, hR_s, hR_n, hIW_s, hIW_n, hJW_s, hJW_n, hRW_s, hRW_n, hNW_s, hNW_n, hRM_s, hRM_n, u2_s, u2_j, u2_row, u2_kk, gR_sI, gR_sJ, gJ_sI, gI_sJ, gN_sI, gN_sJ, gI_sR, gJ_sR, gN_sR, gI_sM, gJ_sM, gN_sM, ne_eq, Nat.reduceEqDiff, not_false_eq_true, reduceCtorEq, true_implies] using hT0), (by simpa only [hI_s, hI_n, hJ_s, hJ_n, hR_s, hR_n, hIW_s, hIW_n, hJW_s, hJW_n, hRW_s, hRW_n, hNW_s, hNW_n, hRM_s, hRM_n, u2_s, u2_j, u2_row, u2_kk, gR_sI, gR_sJ, gJ_sI, gI_sJ, gN_sI, gN_sJ, gI_sR, gJ_sR, gN_sR, gI_sM, gJ_sM, gN_sM, ne_eq, Nat.reduceEqDiff, not_false_eq_true, reduceCtorEq, true_implies] using hD0), (by simpa only [hI_s, hI_n, hJ_s, hJ_n, hR_s, hR_n, hIW_s, hIW_n, hJW_s, hJW_n, hRW_s, hRW_n, hNW_s, hNW_n, hRM_s, hRM_n, u2_s, u2_j, u2_row, u2_kk, gR_sI, gR_sJ, gJ_sI, gI_sJ, gN_sI, gN_sJ, gI_sR, gJ_sR, gN_sR, gI_sM, gJ_sM, gN_sM, ne_eq, Nat.reduceEqDiff, not_false_eq_true, reduceCtorEq, true_implies] using hW0)⟩
    · simp only [hI_s, hI_n, hJ_s, hJ_n, hR_s, hR_n, hIW_s, hIW_n, hJW_s, hJW_n, hRW_s, hRW_n, hNW_s, hNW_n, hRM_s, hRM_n, u2_s, u2_j, u2_row, u2_kk, gR_sI, gR_sJ, gJ_sI, gI_sJ, gN_sI, gN_sJ, gI_sR, gJ_sR, gN_sR, gI_sM, gJ_sM, gN_sM, ne_eq, Nat.reduceEqDiff, not_false_eq_true, reduceCtorEq, true_implies]
      exact hL0.congr (fun a j hj => by unfold upd2; rw [if_neg (by omega), if_neg (by omega)])
    · simp only [hI_s, hI_n, hJ_s, hJ_n, hR_s, hR_n, hIW_s, hIW_n, hJW_s, hJW_n, hRW_s, hRW_n, hNW_s, hNW_n, hRM_s, hRM_n, u2_s, u2_j, u2_row, u2_kk, gR_sI, gR_sJ, gJ_sI, gI_sJ, gN_sI, gN_sJ, gI_sR, gJ_sR, gN_sR, gI_sM, gJ_sM, gN_sM, ne_eq, Nat.reduceEqDiff, not_false_eq_true, reduceCtorEq, true_implies]
      have : (gI m 124 0 c - 1).toInt ≠ 0 := fun h9 => hz (i32_eq0.mpr h9)
      exact hC0.setb hcl ⟨by omega, by omega, i, hi, rfl⟩
    · simp only [hI_s, hI_n, hJ_s, hJ_n, hR_s, hR_n, hIW_s, hIW_n, hJW_s, hJW_n, hRW_s, hRW_n, hNW_s, hNW_n, hRM_s, hRM_n, u2_s, u2_j, u2_row, u2_kk, gR_sI, gR_sJ, gJ_sI, gI_sJ, gN_sI, gN_sJ, gI_sR, gJ_sR, gN_sR, gI_sM, gJ_sM, gN_sM, ne_eq, Nat.reduceEqDiff, not_false_eq_true, reduceCtorEq, true_implies]
      have := hO0.add hi l1 (by rw [g1]; exact g2) ho
      rw [g1] at this ⊢
      exact this
  · refine ⟨(by simpa only [hI_s, hI_n, hJ_s, hJ_n, hR_s, hR_n, hIW_s, hIW_n, hJW_s, hJW_n, hRW_s, hRW_n, hNW_s, hNW_n, hRM_s, hRM_n, u2_s, u2_j, u2_row, u2_kk, gR_sI, gR_sJ, gJ_sI, gI_sJ, gN_sI, gN_sJ, gI_sR, gJ_sR, gN_sR, gI_sM, gJ_sM, gN_sM, ne_eq, Nat.reduceEqDiff, not_false_eq_true, reduceCtorEq, true_implies] using hM), (by simpa only [hI_s, hI_n, hJ_s, hJ_n, hR_s, hR_n, hIW_s, hIW_n, hJW_s, hJW_n, hRW_s, hRW_n, hNW_s, hNW_n, hRM_s, hRM_n, u2_s, u2_j, u2_row, u2_kk, gR_sI, gR_sJ, gJ_sI, gI_sJ, gN_sI, gN_sJ, gI_sR, gJ_sR, gN_sR, gI_sM, gJ_sM, gN_sM, ne_eq, Nat.reduceEqDiff, not_false_eq_true, reduceCtorEq, true_implies] using hX0), (by simpa only [hI_s, hI_n, hJ_s, hJ_n, hR_s, hR_n, hIW_s, hIW_n, hJW_s, hJW_n, hRW_s, hRW_n, hNW_s, hNW_n, hRM_s, hRM_n, u2_s, u2_j, u2_row, u2_kk, gR_sI, gR_sJ, gJ_sI, gI_sJ, gN_sI, gN_sJ, gI_sR, gJ_sR, gN_sR, gI_sM, gJ_sM, gN_sM, ne_eq, Nat.reduceEqDiff, not_false_eq_true, reduceCtorEq, true_implies] using hK0), ?_, ?_, ?_, (by simpa only [hI_s, hI_n, hJ_s, hJ_n, hR_s, hR_n, hIW_s, hIW_n, hJW_s, hJW_n, hRW_s, hRW_n, hNW_s, hNW_n, hRM_s, hRM_n, u2_s, u2_j, u2_row, u2_kk, gR_sI, gR_sJ, gJ_sI, gI_sJ, gN_sI, gN_sJ, gI_sR, gJ_sR, gN_sR, gI_sM, gJ_sM, gN_sM, ne_eq, Nat.reduceEqDiff, not_false_eq_true, reduceCtorEq, true_implies] using hG0), (by simpa only [hI_s, hI_n, hJ_s, hJ_n, hR_s, hR_n, hIW_s, hIW_n, hJW_s, hJW_n, hRW_s, hRW_n, hNW_s, hNW_n, hRM_s, hRM_n, u2_s, u2_j, u2_row, u2_kk, gR_sI, gR_sJ, gJ_sI, gI_sJ, gN_sI, gN_sJ, gI_sR, gJ_sR, gN_sR, gI_sM, gJ_sM, gN_sM, ne_eq, Nat.reduceEqDiff, not_false_eq_true, reduceCtorEq, true_implies] using hT0), (by simpa only [hI_s, hI_n, hJ_s, hJ_n, hR_s, hR_n, hIW_s, hIW_n, hJW_s, hJW_n, hRW_s, hRW_n, hNW_s, hNW_n, hRM_s, hRM_n, u2_s, u2_j, u2_row, u2_kk, gR_sI, gR_sJ, gJ_sI, gI_sJ, gN_sI, gN_sJ, gI_sR, gJ_sR, gN_sR, gI_sM, gJ_sM, gN_sM, ne_eq, Nat.reduceEqDiff, not_false_eq_true, reduceCtorEq, true_implies] using hD0), (by simpa only [hI_s, hI_n, hJ_s, hJ_n, hR_s, hR_n, hIW_s, hIW_n, hJW_s, hJW_n, hRW_s, hRW_n, hNW_s, hNW_n, hRM_s, hRM_n, u2_s, u2_j, u2_row, u2_kk, gR_sI, gR_sJ, gJ_sI, gI_sJ, gN_sI, gN_sJ, gI_sR, gJ_sR, gN_sR, gI_sM, gJ_sM, gN_sM, ne_eq, Nat.reduceEqDiff, not_false_eq_true, reduceCtorEq, true_implies] using hW0)⟩
    · simp only [hI_s, hI_n, hJ_s, hJ_n, hR_s, hR_n, hIW_s, hIW_n, hJW_s, hJW_n, hRW_s, hRW_n, hNW_s, hNW_n, hRM_s, hRM_n, u2_s, u2_j, u2_row, u2_kk, gR_sI, gR_sJ, gJ_sI, gI_sJ, gN_sI, gN_sJ, gI_sR, gJ_sR, gN_sR, gI_sM, gJ_sM, gN_sM, ne_eq, Nat.reduceEqDiff, not_false_eq_true, reduceCtorEq, true_implies]
      exact hL0.congr (fun a j hj => by unfold upd2; rw [if_neg (by omega), if_neg (by omega)])
    · simp only [hI_s, hI_n, hJ_s, hJ_n, hR_s, hR_n, hIW_s, hIW_n, hJW_s, hJW_n, hRW_s, hRW_n, hNW_s, hNW_n, hRM_s, hRM_n, u2_s, u2_j, u2_row, u2_kk, gR_sI, gR_sJ, gJ_sI, gI_sJ, gN_sI, gN_sJ, gI_sR, gJ_sR, gN_sR, gI_sM, gJ_sM, gN_sM, ne_eq, Nat.reduceEqDiff, not_false_eq_true, reduceCtorEq, true_implies]
      exact hC0.set (Or.inl ⟨rfl, rfl⟩)
    · simp only [hI_s, hI_n, hJ_s, hJ_n, hR_s, hR_n, hIW_s, hIW_n, hJW_s, hJW_n, hRW_s, hRW_n, hNW_s, hNW_n, hRM_s, hRM_n, u2_s, u2_j, u2_row, u2_kk, gR_sI, gR_sJ, gJ_sI, gI_sJ, gN_sI, gN_sJ, gI_sR, gJ_sR, gN_sR, gI_sM, gJ_sM, gN_sM, ne_eq, Nat.reduceEqDiff, not_false_eq_true, reduceCtorEq, true_implies]
      have := hO0.add hi l1 (by rw [g1]; exact g2) ho
      rw [g1] at this ⊢
      exact this
set_option maxRecDepth 16384 in
set_option maxHeartbeats 4000000 in
theorem op_glass (n : Nat) (x m : tw_T) (a : Int32) (v : Int64) (h : Rel n x m) :
    F_L_glass x 0 a v (fun kk ww x9 => F_X10_glass m 0 a (fun rr m9 => gI m9 0 0 0 = kk ∧ (kk = 0 → ww = rr.toInt64) ∧ Rel (n + 1) x9 m9)) := by
  have hr := h
  obtain ⟨nk, nl, no, nt, nd, na, ns, hA⟩ := h
  have hA0 := hA
  obtain ⟨hM, hX0, hK0, hL0, hC0, hO0, hG0, hT0, hD0, hW0⟩ := hA
  have x0 := hX0.1
  have x5 := hX0.2.1
  have c1 := hC0.1
  have c2 := hC0.2.1
  have l1 := hL0.1
  have l2 := hL0.2.1
  have l3 := hL0.2.2.1
  have l5 := hL0.2.2.2.2
  have g1 := hG0.1
  have o1 := hO0.1
  have o6 := hO0.2.2.2.2.2
  have hno := hO0.no_le
  by_cases p1 : 0 ≤ a.toInt ∧ a.toInt < nl
  rotate_left
  · simp only [F_L_glass, F_X9_glass, xX_lotAt_bad l2 l1 p1, F_X10_glass, eM_isLot l3 l1 (show (1 : Int32) ≠ 0 by decide), p1, pu_00, pu_10, ↓forall_eq, bz_b, gR_sI, gR_sJ, gJ_sI, gI_sJ, gN_sI, gN_sJ, gI_sR, gJ_sR, gN_sR, gI_sI, gJ_sJ, gR_sR, gI_nW, gR_nW, gN_nW, gJ_nW, rM_at, rXs_at, rXd_at, ex_s, true_and, and_true, false_and, and_false, or_true, true_or, or_false, false_or, if_true, if_false, not_true_eq_false, not_false_eq_true, forall_const, true_implies, false_implies, implies_true, Nat.reduceLeDiff, Nat.reduceEqDiff, reduceCtorEq, i32_succ, i32_pred, Nat.le_refl, Nat.lt_add_one, Nat.reduceLT, ne_eq, Nat.add_one_ne_zero]
    exact hr.t.t.up
  obtain ⟨i, rfl, hi1, hi2⟩ := i32_of (x := a) p1.1
  have hi : i < nl := by omega
  obtain ⟨q, q1, q2, q3, q4, q5, q6, q7, q8, q9, q10, q11, r1, r2, r3, r4, r5, r6, r7⟩ := hA0.lot hi
  by_cases p3 : ¬ yr (gI m 0 0 3) < gI m 113 0 i ∧ (yr (gI m 0 0 3) ≤ gI m 114 0 i ∨ gI m 105 0 q = 2)
  rotate_left
  · have hm : ∀ Q : Int32 → tw_T → Prop, Q (-1) (sI m 0 0 0 0) → F_X10_glass m 0 (i32 i) Q := by
      intro Q hQ
      simp only [F_X10_glass, eM_isLot l3 l1 (show (1 : Int32) ≠ 0 by decide), p1, pu_10, eM_forSale (m := sI m 0 0 0 0) hM (show i < 60 by omega) (show gI (sI m 0 0 0 0) 110 0 i = i32 q from q3) q2, bz_eq0, p3, ↓forall_eq, bz_b, gR_sI, gR_sJ, gJ_sI, gI_sJ, gN_sI, gN_sJ, gI_sR, gJ_sR, gN_sR, gI_sI, gJ_sJ, gR_sR, gI_nW, gR_nW, gN_nW, gJ_nW, rM_at, rXs_at, rXd_at, ex_s, true_and, and_true, false_and, and_false, or_true, true_or, or_false, false_or, if_true, if_false, not_true_eq_false, not_false_eq_true, forall_const, true_implies, false_implies, implies_true, Nat.reduceLeDiff, Nat.reduceEqDiff, reduceCtorEq, i32_succ, i32_pred, Nat.le_refl, Nat.lt_add_one, Nat.reduceLT, ne_eq, Nat.add_one_ne_zero]
      exact hQ
    simp only [F_L_glass, F_X9_glass, xX_lotAt x0 l2 l1 hi q5, xX_year, xX_maySell q4, q9, q10, q11, g1, bz_eq0, p3, ↓forall_eq, bz_b, gR_sI, gR_sJ, gJ_sI, gI_sJ, gN_sI, gN_sJ, gI_sR, gJ_sR, gN_sR, gI_sI, gJ_sJ, gR_sR, gI_nW, gR_nW, gN_nW, gJ_nW, rM_at, rXs_at, rXd_at, ex_s, true_and, and_true, false_and, and_false, or_true, true_or, or_false, false_or, if_true, if_false, not_true_eq_false, not_false_eq_true, forall_const, true_implies, false_implies, implies_true, Nat.reduceLeDiff, Nat.reduceEqDiff, reduceCtorEq, i32_succ, i32_pred, Nat.le_refl, Nat.lt_add_one, Nat.reduceLT, ne_eq, Nat.add_one_ne_zero]
    refine hm _ ?_
    simp only [↓forall_eq, bz_b, gR_sI, gR_sJ, gJ_sI, gI_sJ, gN_sI, gN_sJ, gI_sR, gJ_sR, gN_sR, gI_sI, gJ_sJ, gR_sR, gI_nW, gR_nW, gN_nW, gJ_nW, rM_at, rXs_at, rXd_at, ex_s, true_and, and_true, false_and, and_false, or_true, true_or, or_false, false_or, if_true, if_false, not_true_eq_false, not_false_eq_true, forall_const, true_implies, false_implies, implies_true, Nat.reduceLeDiff, Nat.reduceEqDiff, reduceCtorEq, i32_succ, i32_pred, Nat.le_refl, Nat.lt_add_one, Nat.reduceLT, ne_eq, Nat.add_one_ne_zero]; exact hr.t.up
  have hm0 : ∀ Q : Int32 → tw_T → Prop, J_X10_glass_52 (sI m 0 0 0 0) 0 (i32 i) (i32 (fC (gI m 125 0) (i32 i) no 0)) Q → F_X10_glass m 0 (i32 i) Q := by
    intro Q hQ
    simp only [F_X10_glass, eM_isLot l3 l1 (show (1 : Int32) ≠ 0 by decide), p1, pu_10, eM_forSale (m := sI m 0 0 0 0) hM (show i < 60 by omega) (show gI (sI m 0 0 0 0) 110 0 i = i32 q from q3) q2, bz_eq0, p3, ↓forall_eq, bz_b, gR_sI, gR_sJ, gJ_sI, gI_sJ, gN_sI, gN_sJ, gI_sR, gJ_sR, gN_sR, gI_sI, gJ_sJ, gR_sR, gI_nW, gR_nW, gN_nW, gJ_nW, rM_at, rXs_at, rXd_at, ex_s, true_and, and_true, false_and, and_false, or_true, true_or, or_false, false_or, if_true, if_false, not_true_eq_false, not_false_eq_true, forall_const, true_implies, false_implies, implies_true, Nat.reduceLeDiff, Nat.reduceEqDiff, reduceCtorEq, i32_succ, i32_pred, Nat.le_refl, Nat.lt_add_one, Nat.reduceLT, ne_eq, Nat.add_one_ne_zero]
    exact ⟨no + 1, eM_glass28 (m := sI m 0 0 0 0) hM (by rw [gI_sI, if_neg (by decide)]; exact o1) (by omega) no 0 (by omega) hQ⟩
  have h22 : gI (sI m 0 0 0 0) 0 0 22 = i32 no := by rw [gI_sI, if_neg (by decide)]; exact o1
  by_cases ho : 1 ≤ (gI x 21 i 7).toInt
  · obtain ⟨k, hk, hk2⟩ := hO0.2.2.2.2.1 i hi ho
    have hf : fC (gI m 125 0) (i32 i) no 0 = k := by
      rcases fC_spec (cl := gI m 125 0) (l := i32 i) no 0 with ⟨h1, h2⟩ | ⟨h1, h2, h3⟩
      · exact absurd hk2 (h2 k (by omega) (by omega))
      · exact hO0.2.2.2.1 _ k (by omega) hk (h3.trans hk2.symm)
    obtain ⟨r, x9, m9, fX, fM, z0, R⟩ := glass_pour (hA0.t (t := 0)) hi hk (by simpa only [hI_s, hI_n, hJ_s, hJ_n, hR_s, hR_n, hIW_s, hIW_n, hJW_s, hJW_n, hRW_s, hRW_n, hNW_s, hNW_n, hRM_s, hRM_n, u2_s, u2_j, u2_row, u2_kk, gR_sI, gR_sJ, gJ_sI, gI_sJ, gN_sI, gN_sJ, gI_sR, gJ_sR, gN_sR, gI_sM, gJ_sM, gN_sM, ne_eq, Nat.reduceEqDiff, not_false_eq_true, reduceCtorEq, true_implies] using hk2) (by simp [gI_sI])
    simp only [F_L_glass, F_X9_glass, xX_lotAt x0 l2 l1 hi q5, xX_year, xX_maySell q4, q9, q10, q11, g1, bz_eq0, p3, xX_isOpen, ho, J_X9_glass_73, ↓forall_eq, bz_b, gR_sI, gR_sJ, gJ_sI, gI_sJ, gN_sI, gN_sJ, gI_sR, gJ_sR, gN_sR, gI_sI, gJ_sJ, gR_sR, gI_nW, gR_nW, gN_nW, gJ_nW, rM_at, rXs_at, rXd_at, ex_s, true_and, and_true, false_and, and_false, or_true, true_or, or_false, false_or, if_true, if_false, not_true_eq_false, not_false_eq_true, forall_const, true_implies, false_implies, implies_true, Nat.reduceLeDiff, Nat.reduceEqDiff, reduceCtorEq, i32_succ, i32_pred, Nat.le_refl, Nat.lt_add_one, Nat.reduceLT, ne_eq, Nat.add_one_ne_zero]
    refine fX _ (hm0 _ ?_)
    rw [hf]
    unfold J_X10_glass_52
    rw [h22]
    refine ⟨fun _ => fM _ ?_, fun h9 => absurd (i32_inj (by omega) (by omega) h9) (by omega)⟩
    first | exact ⟨z0, fun _ => rfl, R⟩ | exact ⟨z0, rfl, R⟩ | exact ⟨z0, R⟩
  have hf : fC (gI m 125 0) (i32 i) no 0 = no := by
    rcases fC_spec (cl := gI m 125 0) (l := i32 i) no 0 with ⟨h1, h2⟩ | ⟨h1, h2, h3⟩
    · omega
    · obtain ⟨l', t1, t2, t3, t4, t5⟩ := hO0.2.2.1 _ (show fC (gI m 125 0) (i32 i) no 0 < no by omega)
      have el : l' = i := i32_inj (by omega) (by omega) (t2.symm.trans h3)
      rw [t3, el] at t5; exact absurd t5 ho
  have hm1 : ∀ Q : Int32 → tw_T → Prop, J_X10_glass_84 (sI m 0 0 0 0) 0 (i32 i) (i32 no) (i32 (fC (gI m 123 0) (i32 i) 30 0)) Q → F_X10_glass m 0 (i32 i) Q := by
    intro Q hQ
    refine hm0 _ ?_
    rw [hf]
    unfold J_X10_glass_52
    rw [h22]
    refine ⟨fun h9 => absurd rfl h9, fun _ => ⟨31, eM_glass62 (m := sI m 0 0 0 0) hM 30 0 rfl hQ⟩⟩
  have hcv : cF (gI x 12 0) (i32 i) 0 30 0 0 = if fC (gI m 123 0) (i32 i) 30 0 = 30 then -1 else i32 (fC (gI m 123 0) (i32 i) 30 0) := by rw [c1]; exact cF_fC 30 0
  simp only [F_L_glass, F_X9_glass, xX_lotAt x0 l2 l1 hi q5, xX_year, xX_maySell q4, q9, q10, q11, g1, bz_eq0, p3, xX_isOpen, ho, x0, ↓forall_eq, bz_b, gR_sI, gR_sJ, gJ_sI, gI_sJ, gN_sI, gN_sJ, gI_sR, gJ_sR, gN_sR, gI_sI, gJ_sJ, gR_sR, gI_nW, gR_nW, gN_nW, gJ_nW, rM_at, rXs_at, rXd_at, ex_s, true_and, and_true, false_and, and_false, or_true, true_or, or_false, false_or, if_true, if_false, not_true_eq_false, not_false_eq_true, forall_const, true_implies, false_implies, implies_true, Nat.reduceLeDiff, Nat.reduceEqDiff, reduceCtorEq, i32_succ, i32_pred, Nat.le_refl, Nat.lt_add_one, Nat.reduceLT, ne_eq, Nat.add_one_ne_zero]
  refine xX_cellOf x5 ?_
  rw [hcv]
  rcases fC_spec (cl := gI m 123 0) (l := i32 i) 30 0 with ⟨h1, h2⟩ | ⟨h1, h2, h3⟩
  · rw [if_pos h1]
    simp only [↓forall_eq, bz_b, gR_sI, gR_sJ, gJ_sI, gI_sJ, gN_sI, gN_sJ, gI_sR, gJ_sR, gN_sR, gI_sI, gJ_sJ, gR_sR, gI_nW, gR_nW, gN_nW, gJ_nW, rM_at, rXs_at, rXd_at, ex_s, true_and, and_true, false_and, and_false, or_true, true_or, or_false, false_or, if_true, if_false, not_true_eq_false, not_false_eq_true, forall_const, true_implies, false_implies, implies_true, Nat.reduceLeDiff, Nat.reduceEqDiff, reduceCtorEq, i32_succ, i32_pred, Nat.le_refl, Nat.lt_add_one, Nat.reduceLT, ne_eq, Nat.add_one_ne_zero]
    refine hm1 _ ?_
    rw [h1]
    unfold J_X10_glass_84
    refine ⟨fun h9 => absurd rfl h9, fun _ => ?_⟩
    simp only [↓forall_eq, bz_b, gR_sI, gR_sJ, gJ_sI, gI_sJ, gN_sI, gN_sJ, gI_sR, gJ_sR, gN_sR, gI_sI, gJ_sJ, gR_sR, gI_nW, gR_nW, gN_nW, gJ_nW, rM_at, rXs_at, rXd_at, ex_s, true_and, and_true, false_and, and_false, or_true, true_or, or_false, false_or, if_true, if_false, not_true_eq_false, not_false_eq_true, forall_const, true_implies, false_implies, implies_true, Nat.reduceLeDiff, Nat.reduceEqDiff, reduceCtorEq, i32_succ, i32_pred, Nat.le_refl, Nat.lt_add_one, Nat.reduceLT, ne_eq, Nat.add_one_ne_zero]; exact hr.t.up
  generalize fC (gI m 123 0) (i32 i) 30 0 = c at h1 h2 h3 hm1 ⊢
  have hc : c < 30 := by omega
  have hc30 : ¬ i32 c = (30 : Int32) := fun h9 => absurd (i32_inj (b := 30) (by omega) (by decide) h9) (by omega)
  rw [if_neg (by omega)]
  simp only [not_m1 (show c < 2147483648 by omega), ↓forall_eq, bz_b, gR_sI, gR_sJ, gJ_sI, gI_sJ, gN_sI, gN_sJ, gI_sR, gJ_sR, gN_sR, gI_sI, gJ_sJ, gR_sR, gI_nW, gR_nW, gN_nW, gJ_nW, rM_at, rXs_at, rXd_at, ex_s, true_and, and_true, false_and, and_false, or_true, true_or, or_false, false_or, if_true, if_false, not_true_eq_false, not_false_eq_true, forall_const, true_implies, false_implies, implies_true, Nat.reduceLeDiff, Nat.reduceEqDiff, reduceCtorEq, i32_succ, i32_pred, Nat.le_refl, Nat.lt_add_one, Nat.reduceLT, ne_eq, Nat.add_one_ne_zero]
  refine xX_openB x0 l2 l1 (fun j hj => (l5 j hj).1) ?_
  rw [← o6]
  have h60 : (i32 no < (60 : Int32)) ↔ no < 60 := lt_i32 (c := 60) (by omega) (by decide)
  simp only [h60]
  by_cases p4 : no < 60
  rotate_left
  · have e60 : no = 60 := by omega
    simp only [p4, ↓forall_eq, bz_b, gR_sI, gR_sJ, gJ_sI, gI_sJ, gN_sI, gN_sJ, gI_sR, gJ_sR, gN_sR, gI_sI, gJ_sJ, gR_sR, gI_nW, gR_nW, gN_nW, gJ_nW, rM_at, rXs_at, rXd_at, ex_s, true_and, and_true, false_and, and_false, or_true, true_or, or_false, false_or, if_true, if_false, not_true_eq_false, not_false_eq_true, forall_const, true_implies, false_implies, implies_true, Nat.reduceLeDiff, Nat.reduceEqDiff, reduceCtorEq, i32_succ, i32_pred, Nat.le_refl, Nat.lt_add_one, Nat.reduceLT, ne_eq, Nat.add_one_ne_zero]
    refine hm1 _ ?_
    unfold J_X10_glass_84
    rw [h22, e60]
    refine ⟨fun _ => ⟨fun h9 => absurd rfl h9, fun _ => ?_⟩, fun h9 => absurd h9 hc30⟩
    simp only [↓forall_eq, bz_b, gR_sI, gR_sJ, gJ_sI, gI_sJ, gN_sI, gN_sJ, gI_sR, gJ_sR, gN_sR, gI_sI, gJ_sJ, gR_sR, gI_nW, gR_nW, gN_nW, gJ_nW, rM_at, rXs_at, rXd_at, ex_s, true_and, and_true, false_and, and_false, or_true, true_or, or_false, false_or, if_true, if_false, not_true_eq_false, not_false_eq_true, forall_const, true_implies, false_implies, implies_true, Nat.reduceLeDiff, Nat.reduceEqDiff, reduceCtorEq, i32_succ, i32_pred, Nat.le_refl, Nat.lt_add_one, Nat.reduceLT, ne_eq, Nat.add_one_ne_zero]; exact hr.t.up
  have hn60 : ¬ i32 no = (60 : Int32) := fun h9 => absurd (i32_inj (b := 60) (by omega) (by decide) h9) (by omega)
  have e3 := vpin p4 (by decide)
  have e4 := i32_nat (show no < 2147483648 by omega)
  obtain ⟨ra, rb⟩ := (hA0.t (t := 0)).openc hi hc (by simpa only [hI_s, hI_n, hJ_s, hJ_n, hR_s, hR_n, hIW_s, hIW_n, hJW_s, hJW_n, hRW_s, hRW_n, hNW_s, hNW_n, hRM_s, hRM_n, u2_s, u2_j, u2_row, u2_kk, gR_sI, gR_sJ, gJ_sI, gI_sJ, gN_sI, gN_sJ, gI_sR, gJ_sR, gN_sR, gI_sM, gJ_sM, gN_sM, ne_eq, Nat.reduceEqDiff, not_false_eq_true, reduceCtorEq, true_implies] using h3) ho
  have hm2 : ∀ (Q : Int32 → tw_T → Prop) (v w : Int32), gI m 124 0 c - 1 = v → (if v = 0 then -1 else i32 i) = w → J_X10_glass_147 (sI (sI (sI (sI (sI (sI (sI m 0 0 0 0) 124 0 c v) 123 0 c w) 125 0 no (i32 i)) 126 0 no (gI m 0 0 3)) 127 0 no 6) 0 0 22 (i32 (no + 1))) 0 (i32 i) (i32 no) Q → F_X10_glass m 0 (i32 i) Q := by
    intro Q v w hv hw hQ
    refine hm1 _ ?_
    unfold J_X10_glass_84
    rw [h22]
    refine ⟨fun _ => ⟨fun _ => ?_, fun h9 => absurd h9 hn60⟩, fun h9 => absurd h9 hc30⟩
    refine (eM_adds (show gR (sI m 0 0 0 0) = rM from hM) hc).mpr ?_
    simp only [neg_sub, hM, e3, e4, o1, ↓forall_eq, bz_b, gR_sI, gR_sJ, gJ_sI, gI_sJ, gN_sI, gN_sJ, gI_sR, gJ_sR, gN_sR, gI_sI, gJ_sJ, gR_sR, gI_nW, gR_nW, gN_nW, gJ_nW, rM_at, rXs_at, rXd_at, ex_s, true_and, and_true, false_and, and_false, or_true, true_or, or_false, false_or, if_true, if_false, not_true_eq_false, not_false_eq_true, forall_const, true_implies, false_implies, implies_true, Nat.reduceLeDiff, Nat.reduceEqDiff, reduceCtorEq, i32_succ, i32_pred, Nat.le_refl, Nat.lt_add_one, Nat.reduceLT, ne_eq, Nat.add_one_ne_zero]
    rw [hv, hw]
    exact hQ
  simp only [p4, x0, ↓forall_eq, bz_b, gR_sI, gR_sJ, gJ_sI, gI_sJ, gN_sI, gN_sJ, gI_sR, gJ_sR, gN_sR, gI_sI, gJ_sJ, gR_sR, gI_nW, gR_nW, gN_nW, gJ_nW, rM_at, rXs_at, rXd_at, ex_s, true_and, and_true, false_and, and_false, or_true, true_or, or_false, false_or, if_true, if_false, not_true_eq_false, not_false_eq_true, forall_const, true_implies, false_implies, implies_true, Nat.reduceLeDiff, Nat.reduceEqDiff, reduceCtorEq, i32_succ, i32_pred, Nat.le_refl, Nat.lt_add_one, Nat.reduceLT, ne_eq, Nat.add_one_ne_zero]
  refine (xX_remove x5 hc).mpr ?_
  rw [c2]
  simp only [F_X3_open, J_X9_glass_73, g1, gI_sI, ↓forall_eq, bz_b, gR_sI, gR_sJ, gJ_sI, gI_sJ, gN_sI, gN_sJ, gI_sR, gJ_sR, gN_sR, gI_sI, gJ_sJ, gR_sR, gI_nW, gR_nW, gN_nW, gJ_nW, rM_at, rXs_at, rXd_at, ex_s, true_and, and_true, false_and, and_false, or_true, true_or, or_false, false_or, if_true, if_false, not_true_eq_false, not_false_eq_true, forall_const, true_implies, false_implies, implies_true, Nat.reduceLeDiff, Nat.reduceEqDiff, reduceCtorEq, i32_succ, i32_pred, Nat.le_refl, Nat.lt_add_one, Nat.reduceLT, ne_eq, Nat.add_one_ne_zero]
  refine ⟨fun hz => ?_, fun hz => ?_⟩
  · obtain ⟨r, x9, m9, fX, fM, z0, R⟩ := glass_pour (ra (by simpa only [gI_sI, ↓forall_eq, bz_b, gR_sI, gR_sJ, gJ_sI, gI_sJ, gN_sI, gN_sJ, gI_sR, gJ_sR, gN_sR, gI_sI, gJ_sJ, gR_sR, gI_nW, gR_nW, gN_nW, gJ_nW, rM_at, rXs_at, rXd_at, ex_s, true_and, and_true, false_and, and_false, or_true, true_or, or_false, false_or, if_true, if_false, not_true_eq_false, not_false_eq_true, forall_const, true_implies, false_implies, implies_true, Nat.reduceLeDiff, Nat.reduceEqDiff, reduceCtorEq, i32_succ, i32_pred, Nat.le_refl, Nat.lt_add_one, Nat.reduceLT, ne_eq, Nat.add_one_ne_zero] using hz)) hi (Nat.lt_succ_self no) (by simp [gI_sI]) (by simp [gI_sI])
    simp only [gI_sI, ↓forall_eq, bz_b, gR_sI, gR_sJ, gJ_sI, gI_sJ, gN_sI, gN_sJ, gI_sR, gJ_sR, gN_sR, gI_sI, gJ_sJ, gR_sR, gI_nW, gR_nW, gN_nW, gJ_nW, rM_at, rXs_at, rXd_at, ex_s, true_and, and_true, false_and, and_false, or_true, true_or, or_false, false_or, if_true, if_false, not_true_eq_false, not_false_eq_true, forall_const, true_implies, false_implies, implies_true, Nat.reduceLeDiff, Nat.reduceEqDiff, reduceCtorEq, i32_succ, i32_pred, Nat.le_refl, Nat.lt_add_one, Nat.reduceLT, ne_eq, Nat.add_one_ne_zero] at fX fM
    refine fX _ (hm2 _ _ (i32 i) rfl (if_neg hz) (fM _ ?_))
    first | exact ⟨z0, fun _ => rfl, R⟩ | exact ⟨z0, rfl, R⟩ | exact ⟨z0, R⟩
  · obtain ⟨r, x9, m9, fX, fM, z0, R⟩ := glass_pour (rb (by simpa only [gI_sI, ↓forall_eq, bz_b, gR_sI, gR_sJ, gJ_sI, gI_sJ, gN_sI, gN_sJ, gI_sR, gJ_sR, gN_sR, gI_sI, gJ_sJ, gR_sR, gI_nW, gR_nW, gN_nW, gJ_nW, rM_at, rXs_at, rXd_at, ex_s, true_and, and_true, false_and, and_false, or_true, true_or, or_false, false_or, if_true, if_false, not_true_eq_false, not_false_eq_true, forall_const, true_implies, false_implies, implies_true, Nat.reduceLeDiff, Nat.reduceEqDiff, reduceCtorEq, i32_succ, i32_pred, Nat.le_refl, Nat.lt_add_one, Nat.reduceLT, ne_eq, Nat.add_one_ne_zero] using hz)) hi (Nat.lt_succ_self no) (by simp [gI_sI]) (by simp [gI_sI])
    simp only [gI_sI, ↓forall_eq, bz_b, gR_sI, gR_sJ, gJ_sI, gI_sJ, gN_sI, gN_sJ, gI_sR, gJ_sR, gN_sR, gI_sI, gJ_sJ, gR_sR, gI_nW, gR_nW, gN_nW, gJ_nW, rM_at, rXs_at, rXd_at, ex_s, true_and, and_true, false_and, and_false, or_true, true_or, or_false, false_or, if_true, if_false, not_true_eq_false, not_false_eq_true, forall_const, true_implies, false_implies, implies_true, Nat.reduceLeDiff, Nat.reduceEqDiff, reduceCtorEq, i32_succ, i32_pred, Nat.le_refl, Nat.lt_add_one, Nat.reduceLT, ne_eq, Nat.add_one_ne_zero] at fX fM
    rw [hz]
    refine fX _ (hm2 _ 0 (-1) hz (if_pos rfl) (fM _ ?_))
    first | exact ⟨z0, fun _ => rfl, R⟩ | exact ⟨z0, rfl, R⟩ | exact ⟨z0, R⟩
