set_option maxRecDepth 16384 in
theorem upd_s {f : Nat → Int32} {c : Nat} {v : Int32} : upd f c v c = v := by simp [upd]
set_option maxRecDepth 16384 in
theorem upd_n {f : Nat → Int32} {c c' : Nat} {v : Int32} (h : c' ≠ c) : upd f c v c' = f c' := by simp [upd, h]
set_option maxRecDepth 16384 in
theorem upd_self {f : Nat → Int32} {c : Nat} : upd f c (f c) = f := by funext k; by_cases h : k = c <;> simp [upd, h]
set_option maxRecDepth 16384 in
theorem upd_selfv {f : Nat → Int32} {c : Nat} {v : Int32} (h : f c = v) : upd f c v = f := by rw [← h]; exact upd_self
set_option maxRecDepth 16384 in
theorem RC.set {nl c : Nat} {xl xb cl cm : Nat → Int32} {l b : Int32} (h : RC nl xl xb cl cm) (hn : (b = 0 ∧ l = -1) ∨ (1 ≤ b.toInt ∧ b.toInt ≤ 12 ∧ ∃ i, i < nl ∧ l = i32 i)) : RC nl (upd xl c l) (upd xb c b) (upd cl c l) (upd cm c b) := by
  obtain ⟨h1, h2, h3⟩ := h
  refine ⟨by rw [h1], by rw [h2], fun c' hc' => ?_⟩
  by_cases e : c' = c
  · subst e; rw [upd_s, upd_s]; exact hn
  · rw [upd_n e, upd_n e]; exact h3 c' hc'
set_option maxRecDepth 16384 in
theorem RK.add {nk : Nat} {xc mc : Int32} {xN : Nat} {xr : Nat → Option Nat} {xk : Nat → Nat → Int32} {s b r y o : Nat → Int32} {a1 a2 a3 a4 a5 : Int32} (h : RK nk xc mc xN xr xk s b r y o) (hn : nk < 20)
    (c1 : 0 ≤ a1.toInt) (c2 : a1.toInt ≤ 2) (c3 : tw_b a3) (c4 : 0 ≤ a4.toInt) (c5 : a4.toInt ≤ a5.toInt) (c6 : a5.toInt ≤ 60) {xk' : Nat → Nat → Int32} (hx : ∀ i j, i < nk → xk' i j = xk i j) (d0 : xk' nk 0 = a1) (d1 : xk' nk 1 = a2) (d2 : xk' nk 2 = a3) (d3 : xk' nk 3 = a4) (d4 : xk' nk 4 = a5)
    {xr' : Nat → Option Nat} (hr : ∀ i, i < nk → xr' i = xr i) (hr2 : xr' nk = some nk) :
    RK (nk + 1) (i32 (nk + 1)) (i32 (nk + 1)) (nk + 1) xr' xk' (upd s nk a1) (upd b nk a2) (upd r nk a3) (upd y nk a4) (upd o nk a5) := by
  obtain ⟨h1, h2, h3, h4, h5⟩ := h
  refine ⟨by omega, rfl, rfl, rfl, fun i hi => ?_⟩
  by_cases e : i = nk
  · subst e
    rw [upd_s, upd_s, upd_s, upd_s, upd_s]
    exact ⟨hr2, d0, d1, d2, d3, d4, c1, c2, c3, c4, c5, c6⟩
  · have hi' : i < nk := by omega
    rw [upd_n e, upd_n e, upd_n e, upd_n e, upd_n e, hr i hi', hx i 0 hi', hx i 1 hi', hx i 2 hi', hx i 3 hi', hx i 4 hi']
    exact h5 i hi'
set_option maxRecDepth 16384 in
theorem RLo.upk {n nk nk' nl : Nat} {xc mc : Int32} {xN : Nat} {xr : Nat → Option Nat} {xl : Nat → Nat → Int32} {xq : Nat → Nat → Option Nat} {kd vi pr fr un : Nat → Int32} (h : RLo n nk nl xc mc xN xr xl xq kd vi pr fr un) (hk : nk ≤ nk') : RLo n nk' nl xc mc xN xr xl xq kd vi pr fr un := by
  obtain ⟨l1, l2, l3, l4, l5⟩ := h
  refine ⟨l1, l2, l3, l4, fun i hi => ?_⟩
  obtain ⟨a1, ⟨q, a2, a3⟩, ar⟩ := l5 i hi
  exact ⟨a1, ⟨q, by omega, a3⟩, ar⟩
set_option maxRecDepth 16384 in
set_option maxHeartbeats 2000000 in
theorem op_kind (n : Nat) (x m : tw_T) (a : Int32) (b : Int32) (c : Int32) (d : Int32) (e : Int32) (v : Int64) (h : Rel n x m) :
    F_L_kind x 0 a b c d e v (fun kk ww x9 => F_X10_kind m 0 a b c d e (fun rr m9 => gI m9 0 0 0 = kk ∧ (kk = 0 → ww = rr.toInt64) ∧ Rel (n + 1) x9 m9)) := by
  have hr := h
  obtain ⟨nk, nl, no, nt, nd, na, ns, hM, hX, hK, hL, hC, hO, hG, hT, hD, hW⟩ := h
  have hX0 := hX; have hK0 := hK; have hL0 := hL; have hC0 := hC; have hO0 := hO; have hG0 := hG; have hT0 := hT; have hD0 := hD; have hW0 := hW
  obtain ⟨x0, x5, x6, x8, x15, x16, x24, x25⟩ := hX
  obtain ⟨k1, k2, k3, k4, k5⟩ := hK
  simp only [F_L_kind, F_X9_kind, eX_isWithin, Int32.toInt_toInt64, bz_eq0, ↓forall_eq, Int32.reduceToInt, Int64.reduceToInt]
  by_cases p1 : 0 ≤ a.toInt ∧ a.toInt ≤ 2
  rotate_left
  · simp only [p1, F_X10_kind, eM_within, bz_eq0, Int32.reduceToInt, J_X10_kind_59, J_X10_kind_60, eM_may0, pu_10, pu_00, ↓forall_eq, bz_b, gR_sI, gR_sJ, gJ_sI, gI_sJ, gN_sI, gN_sJ, gI_sR, gJ_sR, gN_sR, gI_sI, gJ_sJ, gR_sR, gI_nW, gR_nW, gN_nW, gJ_nW, rM_at, rXs_at, rXd_at, ex_s, true_and, and_true, false_and, and_false, or_true, true_or, or_false, false_or, if_true, if_false, not_true_eq_false, not_false_eq_true, forall_const, true_implies, false_implies, implies_true, Nat.reduceLeDiff, Nat.reduceEqDiff, reduceCtorEq, i32_succ, i32_pred, Nat.le_refl, Nat.lt_add_one, Nat.reduceLT, ne_eq, Nat.add_one_ne_zero]; exact hr.t.t.up
  by_cases p2 : 1 ≤ b.toInt ∧ b.toInt ≤ 5
  rotate_left
  · simp only [p1, p2, F_X10_kind, eM_within, bz_eq0, Int32.reduceToInt, J_X10_kind_59, J_X10_kind_60, eM_may0, pu_10, pu_00, ↓forall_eq, bz_b, gR_sI, gR_sJ, gJ_sI, gI_sJ, gN_sI, gN_sJ, gI_sR, gJ_sR, gN_sR, gI_sI, gJ_sJ, gR_sR, gI_nW, gR_nW, gN_nW, gJ_nW, rM_at, rXs_at, rXd_at, ex_s, true_and, and_true, false_and, and_false, or_true, true_or, or_false, false_or, if_true, if_false, not_true_eq_false, not_false_eq_true, forall_const, true_implies, false_implies, implies_true, Nat.reduceLeDiff, Nat.reduceEqDiff, reduceCtorEq, i32_succ, i32_pred, Nat.le_refl, Nat.lt_add_one, Nat.reduceLT, ne_eq, Nat.add_one_ne_zero]; exact hr.t.t.up
  by_cases p3 : 0 ≤ c.toInt ∧ c.toInt ≤ 1
  rotate_left
  · simp only [p1, p2, p3, F_X10_kind, eM_within, bz_eq0, Int32.reduceToInt, J_X10_kind_59, J_X10_kind_60, eM_may0, pu_10, pu_00, ↓forall_eq, bz_b, gR_sI, gR_sJ, gJ_sI, gI_sJ, gN_sI, gN_sJ, gI_sR, gJ_sR, gN_sR, gI_sI, gJ_sJ, gR_sR, gI_nW, gR_nW, gN_nW, gJ_nW, rM_at, rXs_at, rXd_at, ex_s, true_and, and_true, false_and, and_false, or_true, true_or, or_false, false_or, if_true, if_false, not_true_eq_false, not_false_eq_true, forall_const, true_implies, false_implies, implies_true, Nat.reduceLeDiff, Nat.reduceEqDiff, reduceCtorEq, i32_succ, i32_pred, Nat.le_refl, Nat.lt_add_one, Nat.reduceLT, ne_eq, Nat.add_one_ne_zero]; exact hr.t.t.up
  by_cases p4 : 0 ≤ d.toInt ∧ d.toInt ≤ 60
  rotate_left
  · simp only [p1, p2, p3, p4, F_X10_kind, eM_within, bz_eq0, Int32.reduceToInt, J_X10_kind_59, J_X10_kind_60, eM_may0, pu_10, pu_00, ↓forall_eq, bz_b, gR_sI, gR_sJ, gJ_sI, gI_sJ, gN_sI, gN_sJ, gI_sR, gJ_sR, gN_sR, gI_sI, gJ_sJ, gR_sR, gI_nW, gR_nW, gN_nW, gJ_nW, rM_at, rXs_at, rXd_at, ex_s, true_and, and_true, false_and, and_false, or_true, true_or, or_false, false_or, if_true, if_false, not_true_eq_false, not_false_eq_true, forall_const, true_implies, false_implies, implies_true, Nat.reduceLeDiff, Nat.reduceEqDiff, reduceCtorEq, i32_succ, i32_pred, Nat.le_refl, Nat.lt_add_one, Nat.reduceLT, ne_eq, Nat.add_one_ne_zero]; exact hr.t.t.up
  by_cases p6 : d ≤ e
  rotate_left
  · have p6' := p6
    rw [Int32.le_iff_toInt_le] at p6'
    simp only [p1, p2, p3, p4, p6, p6', F_X10_kind, eM_within, bz_eq0, Int32.reduceToInt, J_X10_kind_59, J_X10_kind_60, eM_may0, pu_10, pu_00, ↓forall_eq, bz_b, gR_sI, gR_sJ, gJ_sI, gI_sJ, gN_sI, gN_sJ, gI_sR, gJ_sR, gN_sR, gI_sI, gJ_sJ, gR_sR, gI_nW, gR_nW, gN_nW, gJ_nW, rM_at, rXs_at, rXd_at, ex_s, true_and, and_true, false_and, and_false, or_true, true_or, or_false, false_or, if_true, if_false, not_true_eq_false, not_false_eq_true, forall_const, true_implies, false_implies, implies_true, Nat.reduceLeDiff, Nat.reduceEqDiff, reduceCtorEq, i32_succ, i32_pred, Nat.le_refl, Nat.lt_add_one, Nat.reduceLT, ne_eq, Nat.add_one_ne_zero]
    exact ⟨fun _ => hr.t.t.up, fun _ => hr.t.t.up⟩
  have p6' := p6
  rw [Int32.le_iff_toInt_le] at p6'
  by_cases p5 : e.toInt ≤ 60
  rotate_left
  · simp only [p1, p2, p3, p4, p5, p6, p6', F_X10_kind, eM_within, bz_eq0, Int32.reduceToInt, J_X10_kind_59, J_X10_kind_60, eM_may0, pu_10, pu_00, ↓forall_eq, bz_b, gR_sI, gR_sJ, gJ_sI, gI_sJ, gN_sI, gN_sJ, gI_sR, gJ_sR, gN_sR, gI_sI, gJ_sJ, gR_sR, gI_nW, gR_nW, gN_nW, gJ_nW, rM_at, rXs_at, rXd_at, ex_s, true_and, and_true, false_and, and_false, or_true, true_or, or_false, false_or, if_true, if_false, not_true_eq_false, not_false_eq_true, forall_const, true_implies, false_implies, implies_true, Nat.reduceLeDiff, Nat.reduceEqDiff, reduceCtorEq, i32_succ, i32_pred, Nat.le_refl, Nat.lt_add_one, Nat.reduceLT, ne_eq, Nat.add_one_ne_zero]; exact hr.t.t.up
  have p7 : 0 ≤ e.toInt := by omega
  have e1 := i32_nat (show nk < 2147483648 by omega)
  by_cases hf : nk = 20
  · have h20 : i32 nk = 20 := by rw [hf]; rfl
    have h21 : ¬ (i32 nk < 20) := by rw [hf]; decide
    simp only [p1, p2, p3, p4, p5, p6, p6', p7, k2, h21, pu_10, pu_00, ↓forall_eq, bz_b, gR_sI, gR_sJ, gJ_sI, gI_sJ, gN_sI, gN_sJ, gI_sR, gJ_sR, gN_sR, gI_sI, gJ_sJ, gR_sR, gI_nW, gR_nW, gN_nW, gJ_nW, rM_at, rXs_at, rXd_at, ex_s, true_and, and_true, false_and, and_false, or_true, true_or, or_false, false_or, if_true, if_false, not_true_eq_false, not_false_eq_true, forall_const, true_implies, false_implies, implies_true, Nat.reduceLeDiff, Nat.reduceEqDiff, reduceCtorEq, i32_succ, i32_pred, Nat.le_refl, Nat.lt_add_one, Nat.reduceLT, ne_eq, Nat.add_one_ne_zero]
    simp only [p1, p2, p3, p4, p5, p6, p6', p7, k3, h20, F_X10_kind, eM_within, bz_eq0, Int32.reduceToInt, J_X10_kind_59, J_X10_kind_60, eM_may1, pu_10, pu_00, ↓forall_eq, bz_b, gR_sI, gR_sJ, gJ_sI, gI_sJ, gN_sI, gN_sJ, gI_sR, gJ_sR, gN_sR, gI_sI, gJ_sJ, gR_sR, gI_nW, gR_nW, gN_nW, gJ_nW, rM_at, rXs_at, rXd_at, ex_s, true_and, and_true, false_and, and_false, or_true, true_or, or_false, false_or, if_true, if_false, not_true_eq_false, not_false_eq_true, forall_const, true_implies, false_implies, implies_true, Nat.reduceLeDiff, Nat.reduceEqDiff, reduceCtorEq, i32_succ, i32_pred, Nat.le_refl, Nat.lt_add_one, Nat.reduceLT, ne_eq, Nat.add_one_ne_zero]; exact hr.t.up
  have hf2 : nk < 20 := by omega
  have h20 : ¬ i32 nk = 20 := fun h9 => hf (i32_inj (by omega) (by decide) h9)
  have h21 : i32 nk < 20 := by rw [Int32.lt_iff_toInt_lt, i32_int (by omega)]; exact Int.ofNat_lt.mpr hf2
  have v1 := vpin hf2 (by decide)
  have hc01 : ∀ z : Int32, tw_b z → c = z → tw_b z ∧ F_X10_kind m 0 a b c d e fun r m' => gI m' 0 0 0 = 0 ∧ (i32 nk).toInt64 = r.toInt64 ∧
      Rel (n + 1) (sI (sR (sI (sI (sI (sI (sI (nW x 20 1) 20 (gN x 20) 0 a) 20 (gN x 20) 1 b) 20 (gN x 20) 2 z) 20 (gN x 20) 3 d) 20 (gN x 20) 4 e) 1 0 nk (some (gN x 20))) 0 0 11 (i32 (nk + 1))) m' := by
    intro z hz hcz
    refine ⟨hz, ?_⟩
    simp only [p1, p2, p3, p4, p5, p6, p6', p7, k3, h20, hM, v1, e1, F_X10_kind, eM_within, bz_eq0, Int32.reduceToInt, J_X10_kind_59, J_X10_kind_60, eM_may1, pu_10, pu_00, ↓forall_eq, bz_b, gR_sI, gR_sJ, gJ_sI, gI_sJ, gN_sI, gN_sJ, gI_sR, gJ_sR, gN_sR, gI_sI, gJ_sJ, gR_sR, gI_nW, gR_nW, gN_nW, gJ_nW, rM_at, rXs_at, rXd_at, ex_s, true_and, and_true, false_and, and_false, or_true, true_or, or_false, false_or, if_true, if_false, not_true_eq_false, not_false_eq_true, forall_const, true_implies, false_implies, implies_true, Nat.reduceLeDiff, Nat.reduceEqDiff, reduceCtorEq, i32_succ, i32_pred, Nat.le_refl, Nat.lt_add_one, Nat.reduceLT, ne_eq, Nat.add_one_ne_zero]
    subst hcz
    refine ⟨nk + 1, nl, no, nt, nd, na, ns, (by simpa only [hI_s, hI_n, hJ_s, hJ_n, hR_s, hR_n, hIW_s, hIW_n, hJW_s, hJW_n, hRW_s, hRW_n, hNW_s, hNW_n, hRM_s, hRM_n, u2_s, u2_j, u2_row, u2_kk, gR_sI, gR_sJ, gJ_sI, gI_sJ, gN_sI, gN_sJ, gI_sR, gJ_sR, gN_sR, gI_sM, gJ_sM, gN_sM, ne_eq, Nat.reduceEqDiff, not_false_eq_true, reduceCtorEq, true_implies] using hM), (by simpa only [hI_s, hI_n, hJ_s, hJ_n, hR_s, hR_n, hIW_s, hIW_n, hJW_s, hJW_n, hRW_s, hRW_n, hNW_s, hNW_n, hRM_s, hRM_n, u2_s, u2_j, u2_row, u2_kk, gR_sI, gR_sJ, gJ_sI, gI_sJ, gN_sI, gN_sJ, gI_sR, gJ_sR, gN_sR, gI_sM, gJ_sM, gN_sM, ne_eq, Nat.reduceEqDiff, not_false_eq_true, reduceCtorEq, true_implies] using hX0), ?_, (by simpa only [hI_s, hI_n, hJ_s, hJ_n, hR_s, hR_n, hIW_s, hIW_n, hJW_s, hJW_n, hRW_s, hRW_n, hNW_s, hNW_n, hRM_s, hRM_n, u2_s, u2_j, u2_row, u2_kk, gR_sI, gR_sJ, gJ_sI, gI_sJ, gN_sI, gN_sJ, gI_sR, gJ_sR, gN_sR, gI_sM, gJ_sM, gN_sM, ne_eq, Nat.reduceEqDiff, not_false_eq_true, reduceCtorEq, true_implies] using hL0.up.upk (Nat.le_succ _)), (by simpa only [hI_s, hI_n, hJ_s, hJ_n, hR_s, hR_n, hIW_s, hIW_n, hJW_s, hJW_n, hRW_s, hRW_n, hNW_s, hNW_n, hRM_s, hRM_n, u2_s, u2_j, u2_row, u2_kk, gR_sI, gR_sJ, gJ_sI, gI_sJ, gN_sI, gN_sJ, gI_sR, gJ_sR, gN_sR, gI_sM, gJ_sM, gN_sM, ne_eq, Nat.reduceEqDiff, not_false_eq_true, reduceCtorEq, true_implies] using hC0), (by simpa only [hI_s, hI_n, hJ_s, hJ_n, hR_s, hR_n, hIW_s, hIW_n, hJW_s, hJW_n, hRW_s, hRW_n, hNW_s, hNW_n, hRM_s, hRM_n, u2_s, u2_j, u2_row, u2_kk, gR_sI, gR_sJ, gJ_sI, gI_sJ, gN_sI, gN_sJ, gI_sR, gJ_sR, gN_sR, gI_sM, gJ_sM, gN_sM, ne_eq, Nat.reduceEqDiff, not_false_eq_true, reduceCtorEq, true_implies] using hO0), (by simpa only [hI_s, hI_n, hJ_s, hJ_n, hR_s, hR_n, hIW_s, hIW_n, hJW_s, hJW_n, hRW_s, hRW_n, hNW_s, hNW_n, hRM_s, hRM_n, u2_s, u2_j, u2_row, u2_kk, gR_sI, gR_sJ, gJ_sI, gI_sJ, gN_sI, gN_sJ, gI_sR, gJ_sR, gN_sR, gI_sM, gJ_sM, gN_sM, ne_eq, Nat.reduceEqDiff, not_false_eq_true, reduceCtorEq, true_implies] using hG0), (by simpa only [hI_s, hI_n, hJ_s, hJ_n, hR_s, hR_n, hIW_s, hIW_n, hJW_s, hJW_n, hRW_s, hRW_n, hNW_s, hNW_n, hRM_s, hRM_n, u2_s, u2_j, u2_row, u2_kk, gR_sI, gR_sJ, gJ_sI, gI_sJ, gN_sI, gN_sJ, gI_sR, gJ_sR, gN_sR, gI_sM, gJ_sM, gN_sM, ne_eq, Nat.reduceEqDiff, not_false_eq_true, reduceCtorEq, true_implies] using hT0), (by simpa only [hI_s, hI_n, hJ_s, hJ_n, hR_s, hR_n, hIW_s, hIW_n, hJW_s, hJW_n, hRW_s, hRW_n, hNW_s, hNW_n, hRM_s, hRM_n, u2_s, u2_j, u2_row, u2_kk, gR_sI, gR_sJ, gJ_sI, gI_sJ, gN_sI, gN_sJ, gI_sR, gJ_sR, gN_sR, gI_sM, gJ_sM, gN_sM, ne_eq, Nat.reduceEqDiff, not_false_eq_true, reduceCtorEq, true_implies] using hD0), (by simpa only [hI_s, hI_n, hJ_s, hJ_n, hR_s, hR_n, hIW_s, hIW_n, hJW_s, hJW_n, hRW_s, hRW_n, hNW_s, hNW_n, hRM_s, hRM_n, u2_s, u2_j, u2_row, u2_kk, gR_sI, gR_sJ, gJ_sI, gI_sJ, gN_sI, gN_sJ, gI_sR, gJ_sR, gN_sR, gI_sM, gJ_sM, gN_sM, ne_eq, Nat.reduceEqDiff, not_false_eq_true, reduceCtorEq, true_implies] using hW0)⟩
    simp only [hI_s, hI_n, hJ_s, hJ_n, hR_s, hR_n, hIW_s, hIW_n, hJW_s, hJW_n, hRW_s, hRW_n, hNW_s, hNW_n, hRM_s, hRM_n, u2_s, u2_j, u2_row, u2_kk, gR_sI, gR_sJ, gJ_sI, gI_sJ, gN_sI, gN_sJ, gI_sR, gJ_sR, gN_sR, gI_sM, gJ_sM, gN_sM, ne_eq, Nat.reduceEqDiff, not_false_eq_true, reduceCtorEq, true_implies, k4]
    refine hK0.add hf2 p1.1 p1.2 hz p4.1 p6' p5 (fun i j hi => ?_) ?_ ?_ ?_ ?_ ?_ (fun i hi => ?_) ?_
    · simp [upd2, zer2, Nat.ne_of_lt hi, Nat.not_le.mpr hi]
    all_goals simp [upd2]
    omega
  simp only [p1, p2, p3, p4, p5, p6, p6', p7, k2, h21, pu_10, pu_00, x0, J_X9_kind_122, F_X1_init, v1, e1, ↓forall_eq, bz_b, gR_sI, gR_sJ, gJ_sI, gI_sJ, gN_sI, gN_sJ, gI_sR, gJ_sR, gN_sR, gI_sI, gJ_sJ, gR_sR, gI_nW, gR_nW, gN_nW, gJ_nW, rM_at, rXs_at, rXd_at, ex_s, true_and, and_true, false_and, and_false, or_true, true_or, or_false, false_or, if_true, if_false, not_true_eq_false, not_false_eq_true, forall_const, true_implies, false_implies, implies_true, Nat.reduceLeDiff, Nat.reduceEqDiff, reduceCtorEq, i32_succ, i32_pred, Nat.le_refl, Nat.lt_add_one, Nat.reduceLT, ne_eq, Nat.add_one_ne_zero]
  by_cases hc1 : c = 1
  · simp only [hc1, ↓forall_eq, bz_b, gR_sI, gR_sJ, gJ_sI, gI_sJ, gN_sI, gN_sJ, gI_sR, gJ_sR, gN_sR, gI_sI, gJ_sJ, gR_sR, gI_nW, gR_nW, gN_nW, gJ_nW, rM_at, rXs_at, rXd_at, ex_s, true_and, and_true, false_and, and_false, or_true, true_or, or_false, false_or, if_true, if_false, not_true_eq_false, not_false_eq_true, forall_const, true_implies, false_implies, implies_true, Nat.reduceLeDiff, Nat.reduceEqDiff, reduceCtorEq, i32_succ, i32_pred, Nat.le_refl, Nat.lt_add_one, Nat.reduceLT, ne_eq, Nat.add_one_ne_zero]; rw [hc1] at hc01; exact hc01 1 (Or.inr rfl) rfl
  · have hc0 : c = 0 := by
      apply i32_ext
      have : c.toInt ≠ (1 : Int32).toInt := fun h9 => hc1 (i32_ext h9)
      simp only [Int32.reduceToInt] at this ⊢
      omega
    simp only [hc1, ↓forall_eq, bz_b, gR_sI, gR_sJ, gJ_sI, gI_sJ, gN_sI, gN_sJ, gI_sR, gJ_sR, gN_sR, gI_sI, gJ_sJ, gR_sR, gI_nW, gR_nW, gN_nW, gJ_nW, rM_at, rXs_at, rXd_at, ex_s, true_and, and_true, false_and, and_false, or_true, true_or, or_false, false_or, if_true, if_false, not_true_eq_false, not_false_eq_true, forall_const, true_implies, false_implies, implies_true, Nat.reduceLeDiff, Nat.reduceEqDiff, reduceCtorEq, i32_succ, i32_pred, Nat.le_refl, Nat.lt_add_one, Nat.reduceLT, ne_eq, Nat.add_one_ne_zero]; exact hc01 0 (Or.inl rfl) hc0
