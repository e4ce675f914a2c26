/-! ===== a new lot ===== -/
set_option maxRecDepth 16384 in
theorem cnt_congr {p q : Nat → Bool} : ∀ n, (∀ l, l < n → p l = q l) → cnt p n = cnt q n := by
  intro n
  induction n with
  | zero => intro _; rfl
  | succ n ih => intro h; simp only [cnt]; rw [ih (fun l hl => h l (by omega)), h n (by omega)]
set_option maxRecDepth 16384 in
def ALx (x : tw_T) (nl q : Nat) (vi pr : Int32) : tw_T := sI (sR (sI (sI (sI (sI (sR (sI (sI (sI (nW x 21 1) 21 nl 6 0) 21 nl 7 0) 21 nl 0 (i32 q)) 21 nl 1 (some q)) 21 nl 2 vi) 21 nl 3 pr) 21 nl 4 (vi + gI x 20 q 3)) 21 nl 5 (vi + gI x 20 q 4)) 2 0 nl (some nl)) 0 0 12 (i32 (nl + 1))
set_option maxRecDepth 16384 in
def ALm (m : tw_T) (nl q : Nat) (vi pr : Int32) : tw_T := sI (sI (sI (sI (sI (sI m 110 0 nl (i32 q)) 111 0 nl vi) 112 0 nl pr) 113 0 nl (vi + gI m 108 0 q)) 114 0 nl (vi + gI m 109 0 q)) 0 0 2 (i32 (nl + 1))
set_option maxRecDepth 16384 in
theorem eM_newLot {τ : tw_T} {q nl : Nat} {vi pr : Int32} {Q : Int32 → tw_T → Prop} (hR : gR τ = rM) (hn : gI τ 0 0 2 = i32 nl) (hq : q < 20) (hl : nl < 60) :
    F_X10_newLot τ 0 (i32 q) vi pr Q ↔ Q (i32 nl) (ALm τ nl q vi pr) := by
  unfold F_X10_newLot ALm
  have v1 := vpin hq (by decide)
  have v2 := vpin hl (by decide)
  have e1 := i32_nat (show q < 2147483648 by omega)
  have e2 := i32_nat (show nl < 2147483648 by omega)
  simp only [hR, hn, e1, e2, v1, v2, ↓forall_eq, bz_b, gR_sI, gR_sJ, gJ_sI, gI_sJ, gN_sI, gN_sJ, gI_sR, gJ_sR, gN_sR, gI_sI, gJ_sJ, gR_sR, gI_nW, gR_nW, gN_nW, gJ_nW, rM_at, rXs_at, rXd_at, ex_s, true_and, and_true, false_and, and_false, or_true, true_or, or_false, false_or, if_true, if_false, not_true_eq_false, not_false_eq_true, forall_const, true_implies, false_implies, implies_true, Nat.reduceLeDiff, Nat.reduceEqDiff, reduceCtorEq, i32_succ, i32_pred, Nat.le_refl, Nat.lt_add_one, Nat.reduceLT, ne_eq, Nat.add_one_ne_zero]
set_option maxRecDepth 16384 in
theorem xX_addLot {x : tw_T} {q nl : Nat} {vi pr : Int32} {Q : Int32 → tw_T → Prop} (h0 : gR x 0 = rXs 11) (hn : gI x 0 0 12 = i32 nl) (hN : gN x 21 = nl) (hk : gR x 1 0 q = some q) (hq : q < 20) (hl : nl < 60) :
    F_X9_addLot x 0 (i32 q) vi pr Q ↔ Q (i32 nl) (ALx x nl q vi pr) := by
  unfold F_X9_addLot ALx F_X3_init
  have v1 := vpin hq (by decide)
  have v2 := vpin hl (by decide)
  have e1 := i32_nat (show q < 2147483648 by omega)
  have e2 := i32_nat (show nl < 2147483648 by omega)
  simp only [h0, hn, hN, e1, e2, v1, v2, hk, ↓forall_eq, bz_b, gR_sI, gR_sJ, gJ_sI, gI_sJ, gN_sI, gN_sJ, gI_sR, gJ_sR, gN_sR, gI_sI, gJ_sJ, gR_sR, gI_nW, gR_nW, gN_nW, gJ_nW, rM_at, rXs_at, rXd_at, ex_s, true_and, and_true, false_and, and_false, or_true, true_or, or_false, false_or, if_true, if_false, not_true_eq_false, not_false_eq_true, forall_const, true_implies, false_implies, implies_true, Nat.reduceLeDiff, Nat.reduceEqDiff, reduceCtorEq, i32_succ, i32_pred, Nat.le_refl, Nat.lt_add_one, Nat.reduceLT, ne_eq, Nat.add_one_ne_zero]
set_option maxRecDepth 16384 in
theorem RelA.addLot {n nk nl no nt nd na ns q : Nat} {x m : tw_T} {vi pr : Int32} (h : RelA n nk nl no nt nd na ns x m) (hl : nl < 60) (hq : q < nk) (c1 : 1900 ≤ vi.toInt) (c2 : vi.toInt ≤ 2100) (c3 : 1 ≤ pr.toInt) (c4 : pr.toInt ≤ 10000) :
    RelA n nk (nl + 1) no nt nd na ns (ALx x nl q vi pr) (ALm m nl q vi pr) := by
  obtain ⟨hM, hX, hK, hL, hC, hO, hG, hT, hD, hW⟩ := h
  have hN : gN x 21 = nl := hL.2.2.2.1
  unfold ALx ALm
  refine ⟨by simpa only [hI_s, hI_n, hJ_s, hJ_n, hR_s, hR_n, hIW_s, hIW_n, hJW_s, hJW_n, hRW_s, hRW_n, hNW_s, hNW_n, hRM_s, hRM_n, u2_s, u2_j, u2_row, u2_kk, gR_sI, gR_sJ, gJ_sI, gI_sJ, gN_sI, gN_sJ, gI_sR, gJ_sR, gN_sR, gI_sM, gJ_sM, gN_sM, ne_eq, Nat.reduceEqDiff, not_false_eq_true, reduceCtorEq, true_implies] using hM, by simpa only [hI_s, hI_n, hJ_s, hJ_n, hR_s, hR_n, hIW_s, hIW_n, hJW_s, hJW_n, hRW_s, hRW_n, hNW_s, hNW_n, hRM_s, hRM_n, u2_s, u2_j, u2_row, u2_kk, gR_sI, gR_sJ, gJ_sI, gI_sJ, gN_sI, gN_sJ, gI_sR, gJ_sR, gN_sR, gI_sM, gJ_sM, gN_sM, ne_eq, Nat.reduceEqDiff, not_false_eq_true, reduceCtorEq, true_implies] using hX, by simpa only [hI_s, hI_n, hJ_s, hJ_n, hR_s, hR_n, hIW_s, hIW_n, hJW_s, hJW_n, hRW_s, hRW_n, hNW_s, hNW_n, hRM_s, hRM_n, u2_s, u2_j, u2_row, u2_kk, gR_sI, gR_sJ, gJ_sI, gI_sJ, gN_sI, gN_sJ, gI_sR, gJ_sR, gN_sR, gI_sM, gJ_sM, gN_sM, ne_eq, Nat.reduceEqDiff, not_false_eq_true, reduceCtorEq, true_implies] using hK, ?_, ?_, ?_, by simpa only [hI_s, hI_n, hJ_s, hJ_n, hR_s, hR_n, hIW_s, hIW_n, hJW_s, hJW_n, hRW_s, hRW_n, hNW_s, hNW_n, hRM_s, hRM_n, u2_s, u2_j, u2_row, u2_kk, gR_sI, gR_sJ, gJ_sI, gI_sJ, gN_sI, gN_sJ, gI_sR, gJ_sR, gN_sR, gI_sM, gJ_sM, gN_sM, ne_eq, Nat.reduceEqDiff, not_false_eq_true, reduceCtorEq, true_implies] using hG, by simpa only [hI_s, hI_n, hJ_s, hJ_n, hR_s, hR_n, hIW_s, hIW_n, hJW_s, hJW_n, hRW_s, hRW_n, hNW_s, hNW_n, hRM_s, hRM_n, u2_s, u2_j, u2_row, u2_kk, gR_sI, gR_sJ, gJ_sI, gI_sJ, gN_sI, gN_sJ, gI_sR, gJ_sR, gN_sR, gI_sM, gJ_sM, gN_sM, ne_eq, Nat.reduceEqDiff, not_false_eq_true, reduceCtorEq, true_implies] using hT, by simpa only [hI_s, hI_n, hJ_s, hJ_n, hR_s, hR_n, hIW_s, hIW_n, hJW_s, hJW_n, hRW_s, hRW_n, hNW_s, hNW_n, hRM_s, hRM_n, u2_s, u2_j, u2_row, u2_kk, gR_sI, gR_sJ, gJ_sI, gI_sJ, gN_sI, gN_sJ, gI_sR, gJ_sR, gN_sR, gI_sM, gJ_sM, gN_sM, ne_eq, Nat.reduceEqDiff, not_false_eq_true, reduceCtorEq, true_implies] using hD, by simpa only [hI_s, hI_n, hJ_s, hJ_n, hR_s, hR_n, hIW_s, hIW_n, hJW_s, hJW_n, hRW_s, hRW_n, hNW_s, hNW_n, hRM_s, hRM_n, u2_s, u2_j, u2_row, u2_kk, gR_sI, gR_sJ, gJ_sI, gI_sJ, gN_sI, gN_sJ, gI_sR, gJ_sR, gN_sR, gI_sM, gJ_sM, gN_sM, ne_eq, Nat.reduceEqDiff, not_false_eq_true, reduceCtorEq, true_implies] using hW⟩
  · simp only [hI_s, hI_n, hJ_s, hJ_n, hR_s, hR_n, hIW_s, hIW_n, hJW_s, hJW_n, hRW_s, hRW_n, hNW_s, hNW_n, hRM_s, hRM_n, u2_s, u2_j, u2_row, u2_kk, gR_sI, gR_sJ, gJ_sI, gI_sJ, gN_sI, gN_sJ, gI_sR, gJ_sR, gN_sR, gI_sM, gJ_sM, gN_sM, ne_eq, Nat.reduceEqDiff, not_false_eq_true, reduceCtorEq, true_implies]
    obtain ⟨l1, l2, l3, l4, l5⟩ := hL
    obtain ⟨k1, k2, k3, k4, k5⟩ := hK
    obtain ⟨b1, b2, b3, b4, b5, b6, b7, b8, b9, b10, b11, b12⟩ := k5 q hq
    have f1 : (vi + gI m 108 0 q).toInt = vi.toInt + (gI m 108 0 q).toInt := i32_add (by omega) (by omega)
    have f2 : (vi + gI m 109 0 q).toInt = vi.toInt + (gI m 109 0 q).toInt := i32_add (by omega) (by omega)
    refine ⟨by omega, rfl, rfl, by rw [l4], fun i hi => ?_⟩
    by_cases e : i = nl
    · subst e
      refine ⟨by simp [upd2], ⟨q, hq, by simp [upd], by simp [upd2, hN, zer2]⟩, by simp [upd2, upd], by simp [upd2, upd], by simp [upd2, upd], ?_, ?_, ?_⟩
      · simp [upd2, upd, b5]
      · simp [upd2, upd, b6]
      · simp only [upd_s, f1, f2]
        omega
    · have hi' : i < nl := by omega
      obtain ⟨a1, a2, a3, a4, a5, a6, a7, ar⟩ := l5 i hi'
      obtain ⟨q', q1, q2, q3⟩ := a2
      have e' : ¬ (nl ≤ i) := by omega
      simp only [upd_n e, upd2, zer2, e, e', hN, false_and, and_false, if_false]
      exact ⟨a1, ⟨q', q1, q2, q3⟩, a3, a4, a5, a6, a7, ar⟩
  · simp only [hI_s, hI_n, hJ_s, hJ_n, hR_s, hR_n, hIW_s, hIW_n, hJW_s, hJW_n, hRW_s, hRW_n, hNW_s, hNW_n, hRM_s, hRM_n, u2_s, u2_j, u2_row, u2_kk, gR_sI, gR_sJ, gJ_sI, gI_sJ, gN_sI, gN_sJ, gI_sR, gJ_sR, gN_sR, gI_sM, gJ_sM, gN_sM, ne_eq, Nat.reduceEqDiff, not_false_eq_true, reduceCtorEq, true_implies]
    obtain ⟨h1, h2, h3⟩ := hC
    refine ⟨h1, h2, fun c hc => ?_⟩
    rcases h3 c hc with h4 | ⟨h4, h5, l, h6, h7⟩
    · exact Or.inl h4
    · exact Or.inr ⟨h4, h5, l, by omega, h7⟩
  · simp only [hI_s, hI_n, hJ_s, hJ_n, hR_s, hR_n, hIW_s, hIW_n, hJW_s, hJW_n, hRW_s, hRW_n, hNW_s, hNW_n, hRM_s, hRM_n, u2_s, u2_j, u2_row, u2_kk, gR_sI, gR_sJ, gJ_sI, gI_sJ, gN_sI, gN_sJ, gI_sR, gJ_sR, gN_sR, gI_sM, gJ_sM, gN_sM, ne_eq, Nat.reduceEqDiff, not_false_eq_true, reduceCtorEq, true_implies]
    obtain ⟨o1, o2, o3, o4, o5, o6⟩ := hO
    have hz : 0 ≤ (gI x 0 0 15).toInt := by rw [hG.1]; exact hG.2.1
    have hv : ∀ i j, i < nl → (upd2 (upd2 (upd2 (upd2 (upd2 (upd2 (upd2 (zer2 (gI x 21) (gN x 21) 1 0) nl 6 0) nl 7 0) nl 0 (i32 q)) nl 2 vi) nl 3 pr) nl 4 (vi + gI x 20 q 3)) nl 5 (vi + gI x 20 q 4)) i j = gI x 21 i j := by
      intro i j hi
      have e : i ≠ nl := by omega
      have e' : ¬ (nl ≤ i) := by omega
      simp only [upd2, zer2, e, e', hN, false_and, and_false, if_false]
    have hv7 : (upd2 (upd2 (upd2 (upd2 (upd2 (upd2 (upd2 (zer2 (gI x 21) (gN x 21) 1 0) nl 6 0) nl 7 0) nl 0 (i32 q)) nl 2 vi) nl 3 pr) nl 4 (vi + gI x 20 q 3)) nl 5 (vi + gI x 20 q 4)) nl 7 = 0 := by simp [upd2]
    have hv6 : (upd2 (upd2 (upd2 (upd2 (upd2 (upd2 (upd2 (zer2 (gI x 21) (gN x 21) 1 0) nl 6 0) nl 7 0) nl 0 (i32 q)) nl 2 vi) nl 3 pr) nl 4 (vi + gI x 20 q 3)) nl 5 (vi + gI x 20 q 4)) nl 6 = 0 := by simp [upd2]
    generalize (upd2 (upd2 (upd2 (upd2 (upd2 (upd2 (upd2 (zer2 (gI x 21) (gN x 21) 1 0) nl 6 0) nl 7 0) nl 0 (i32 q)) nl 2 vi) nl 3 pr) nl 4 (vi + gI x 20 q 3)) nl 5 (vi + gI x 20 q 4)) = xl at hv hv7 hv6 ⊢
    have z0 : (0 : Int32).toInt = 0 := rfl
    refine ⟨o1, fun i hi => ?_, fun k hk => ?_, o4, fun l hl2 h7 => ?_, ?_⟩
    · by_cases e : i = nl
      · subst e; rw [hv7, hv6, z0]; omega
      · rw [hv i 7 (by omega), hv i 6 (by omega)]; exact o2 i (by omega)
    · obtain ⟨l, p1, p2, p3, p4, p5⟩ := o3 k hk
      exact ⟨l, by omega, p2, by rw [hv l 7 p1]; exact p3, by rw [hv l 6 p1]; exact p4, p5⟩
    · by_cases e : l = nl
      · subst e; rw [hv7, z0] at h7; omega
      · rw [hv l 7 (by omega)] at h7; exact o5 l (by omega) h7
    · simp only [cnt]
      simp only [hv7, z0]
      rw [o6]
      have := cnt_congr (p := fun l => decide (1 ≤ (xl l 7).toInt)) (q := fun l => decide (1 ≤ (gI x 21 l 7).toInt)) nl (fun l hl2 => by simp only [hv l 7 hl2])
      rw [this]; simp
set_option maxRecDepth 16384 in
theorem RelA.rel {n nk nl no nt nd na ns : Nat} {x m : tw_T} (h : RelA n nk nl no nt nd na ns x m) : Rel n x m := ⟨nk, nl, no, nt, nd, na, ns, h⟩
set_option maxRecDepth 16384 in
theorem RelA.t {n nk nl no nt nd na ns : Nat} {x m : tw_T} {t : Int32} (h : RelA n nk nl no nt nd na ns x m) : RelA n nk nl no nt nd na ns x (sI m 0 0 0 t) := by
  obtain ⟨hM, hX, hK, hL, hC, hO, hG, hT, hD, hW⟩ := h
  exact ⟨hM, hX, (by simpa only [hI_s, hI_n, hJ_s, hJ_n, hR_s, hR_n, hIW_s, hIW_n, hJW_s, hJW_n, hRW_s, hRW_n, hNW_s, hNW_n, hRM_s, hRM_n, u2_s, u2_j, u2_row, u2_kk, gR_sI, gR_sJ, gJ_sI, gI_sJ, gN_sI, gN_sJ, gI_sR, gJ_sR, gN_sR, gI_sM, gJ_sM, gN_sM, ne_eq, Nat.reduceEqDiff, not_false_eq_true, reduceCtorEq, true_implies] using hK), (by simpa only [hI_s, hI_n, hJ_s, hJ_n, hR_s, hR_n, hIW_s, hIW_n, hJW_s, hJW_n, hRW_s, hRW_n, hNW_s, hNW_n, hRM_s, hRM_n, u2_s, u2_j, u2_row, u2_kk, gR_sI, gR_sJ, gJ_sI, gI_sJ, gN_sI, gN_sJ, gI_sR, gJ_sR, gN_sR, gI_sM, gJ_sM, gN_sM, ne_eq, Nat.reduceEqDiff, not_false_eq_true, reduceCtorEq, true_implies] using hL), (by simpa only [hI_s, hI_n, hJ_s, hJ_n, hR_s, hR_n, hIW_s, hIW_n, hJW_s, hJW_n, hRW_s, hRW_n, hNW_s, hNW_n, hRM_s, hRM_n, u2_s, u2_j, u2_row, u2_kk, gR_sI, gR_sJ, gJ_sI, gI_sJ, gN_sI, gN_sJ, gI_sR, gJ_sR, gN_sR, gI_sM, gJ_sM, gN_sM, ne_eq, Nat.reduceEqDiff, not_false_eq_true, reduceCtorEq, true_implies] using hC), (by simpa only [hI_s, hI_n, hJ_s, hJ_n, hR_s, hR_n, hIW_s, hIW_n, hJW_s, hJW_n, hRW_s, hRW_n, hNW_s, hNW_n, hRM_s, hRM_n, u2_s, u2_j, u2_row, u2_kk, gR_sI, gR_sJ, gJ_sI, gI_sJ, gN_sI, gN_sJ, gI_sR, gJ_sR, gN_sR, gI_sM, gJ_sM, gN_sM, ne_eq, Nat.reduceEqDiff, not_false_eq_true, reduceCtorEq, true_implies] using hO), (by simpa only [hI_s, hI_n, hJ_s, hJ_n, hR_s, hR_n, hIW_s, hIW_n, hJW_s, hJW_n, hRW_s, hRW_n, hNW_s, hNW_n, hRM_s, hRM_n, u2_s, u2_j, u2_row, u2_kk, gR_sI, gR_sJ, gJ_sI, gI_sJ, gN_sI, gN_sJ, gI_sR, gJ_sR, gN_sR, gI_sM, gJ_sM, gN_sM, ne_eq, Nat.reduceEqDiff, not_false_eq_true, reduceCtorEq, true_implies] using hG), (by simpa only [hI_s, hI_n, hJ_s, hJ_n, hR_s, hR_n, hIW_s, hIW_n, hJW_s, hJW_n, hRW_s, hRW_n, hNW_s, hNW_n, hRM_s, hRM_n, u2_s, u2_j, u2_row, u2_kk, gR_sI, gR_sJ, gJ_sI, gI_sJ, gN_sI, gN_sJ, gI_sR, gJ_sR, gN_sR, gI_sM, gJ_sM, gN_sM, ne_eq, Nat.reduceEqDiff, not_false_eq_true, reduceCtorEq, true_implies] using hT), (by simpa only [hI_s, hI_n, hJ_s, hJ_n, hR_s, hR_n, hIW_s, hIW_n, hJW_s, hJW_n, hRW_s, hRW_n, hNW_s, hNW_n, hRM_s, hRM_n, u2_s, u2_j, u2_row, u2_kk, gR_sI, gR_sJ, gJ_sI, gI_sJ, gN_sI, gN_sJ, gI_sR, gJ_sR, gN_sR, gI_sM, gJ_sM, gN_sM, ne_eq, Nat.reduceEqDiff, not_false_eq_true, reduceCtorEq, true_implies] using hD), (by simpa only [hI_s, hI_n, hJ_s, hJ_n, hR_s, hR_n, hIW_s, hIW_n, hJW_s, hJW_n, hRW_s, hRW_n, hNW_s, hNW_n, hRM_s, hRM_n, u2_s, u2_j, u2_row, u2_kk, gR_sI, gR_sJ, gJ_sI, gI_sJ, gN_sI, gN_sJ, gI_sR, gJ_sR, gN_sR, gI_sM, gJ_sM, gN_sM, ne_eq, Nat.reduceEqDiff, not_false_eq_true, reduceCtorEq, true_implies] using hW)⟩
set_option maxRecDepth 16384 in
theorem op_lot (n : Nat) (x m : tw_T) (a : Int32) (b : Int32) (c : Int32) (v : Int64) (h : Rel n x m) :
    F_L_lot x 0 a b c v (fun kk ww x9 => F_X10_lot m 0 a b c (fun rr m9 => gI m9 0 0 0 = kk ∧ (kk = 0 → ww = rr.toInt64) ∧ Rel (n + 1) x9 m9)) := by
  have hr := h
  obtain ⟨nk, nl, no, nt, nd, na, ns, hA⟩ := h
  have hA0 := hA
  obtain ⟨hM, hX, hK, hL, hC, hO, hG, hT, hD, hW⟩ := hA
  obtain ⟨x0, x5, x6, x8, x15, x16, x24, x25⟩ := hX
  obtain ⟨k1, k2, k3, k4, k5⟩ := hK
  obtain ⟨l1, l2, l3, l4, l5⟩ := hL
  have e1 : (i32 nk - 1).toInt = nk - 1 := by rw [i32_sub] <;> rw [i32_int (by omega)] <;> simp only [Int32.reduceToInt] <;> omega
  have e2 : (0 ≤ a.toInt ∧ a.toInt ≤ (nk : Int) - 1) ↔ (0 ≤ a.toInt ∧ a.toInt < nk) := by omega
  simp only [F_L_lot, F_X9_lot, F_X9_isVintage, F_X9_isPrice, eX_isWithin, Int32.toInt_toInt64, bz_eq0, ↓forall_eq, Int32.reduceToInt, Int64.reduceToInt, i32_lt0, k2, l2]
  by_cases p1 : 0 ≤ a.toInt ∧ a.toInt < nk
  rotate_left
  · have hm : F_X10_lot m 0 a b c = fun Q => Q 0 (sI (sI m 0 0 0 0) 0 0 0 1) := by
      funext Q
      simp only [F_X10_lot, eM_within, eM_mayz (show (1 : Int32) ≠ 0 by decide), k3, e1, e2, p1, Int32.reduceToInt, pu_00, ↓forall_eq, bz_b, gR_sI, gR_sJ, gJ_sI, gI_sJ, gN_sI, gN_sJ, gI_sR, gJ_sR, gN_sR, gI_sI, gJ_sJ, gR_sR, gI_nW, gR_nW, gN_nW, gJ_nW, rM_at, rXs_at, rXd_at, ex_s, true_and, and_true, false_and, and_false, or_true, true_or, or_false, false_or, if_true, if_false, not_true_eq_false, not_false_eq_true, forall_const, true_implies, false_implies, implies_true, Nat.reduceLeDiff, Nat.reduceEqDiff, reduceCtorEq, i32_succ, i32_pred, Nat.le_refl, Nat.lt_add_one, Nat.reduceLT, ne_eq, Nat.add_one_ne_zero]
    by_cases p2 : a.toInt < 0
    · simp only [p2, hm, pu_10, ↓forall_eq, bz_b, gR_sI, gR_sJ, gJ_sI, gI_sJ, gN_sI, gN_sJ, gI_sR, gJ_sR, gN_sR, gI_sI, gJ_sJ, gR_sR, gI_nW, gR_nW, gN_nW, gJ_nW, rM_at, rXs_at, rXd_at, ex_s, true_and, and_true, false_and, and_false, or_true, true_or, or_false, false_or, if_true, if_false, not_true_eq_false, not_false_eq_true, forall_const, true_implies, false_implies, implies_true, Nat.reduceLeDiff, Nat.reduceEqDiff, reduceCtorEq, i32_succ, i32_pred, Nat.le_refl, Nat.lt_add_one, Nat.reduceLT, ne_eq, Nat.add_one_ne_zero]; exact hr.t.t.up
    · have p3 : ¬ a < i32 nk := by rw [Int32.lt_iff_toInt_lt, i32_int (by omega)]; omega
      simp only [p2, p3, hm, pu_10, ↓forall_eq, bz_b, gR_sI, gR_sJ, gJ_sI, gI_sJ, gN_sI, gN_sJ, gI_sR, gJ_sR, gN_sR, gI_sI, gJ_sJ, gR_sR, gI_nW, gR_nW, gN_nW, gJ_nW, rM_at, rXs_at, rXd_at, ex_s, true_and, and_true, false_and, and_false, or_true, true_or, or_false, false_or, if_true, if_false, not_true_eq_false, not_false_eq_true, forall_const, true_implies, false_implies, implies_true, Nat.reduceLeDiff, Nat.reduceEqDiff, reduceCtorEq, i32_succ, i32_pred, Nat.le_refl, Nat.lt_add_one, Nat.reduceLT, ne_eq, Nat.add_one_ne_zero]; exact hr.t.t.up
  have p2 : ¬ a.toInt < 0 := by omega
  have p1a : 0 ≤ a.toInt := p1.1
  have p1b : a.toInt ≤ (nk : Int) - 1 := by omega
  have p3 : a < i32 nk := by rw [Int32.lt_iff_toInt_lt, i32_int (by omega)]; omega
  have h2 : (2 : Int32) ≠ 0 := by decide
  have h2' : ((2 : Int32) = 0) ↔ False := by decide
  have h2n : ¬ ((2 : Nat) = 0) := by decide
  by_cases p4 : 1900 ≤ b.toInt ∧ b.toInt ≤ 2100
  rotate_left
  · simp only [p2, p3, p4, F_X10_lot, eM_within, eM_mayz (show (1 : Int32) ≠ 0 by decide), k3, e1, p1a, p1b, J_X10_lot_53, J_X10_lot_54, eM_may0, bz_eq0, h2, h2', Int32.reduceToInt, pu_00, pu_10, ↓forall_eq, bz_b, gR_sI, gR_sJ, gJ_sI, gI_sJ, gN_sI, gN_sJ, gI_sR, gJ_sR, gN_sR, gI_sI, gJ_sJ, gR_sR, gI_nW, gR_nW, gN_nW, gJ_nW, rM_at, rXs_at, rXd_at, ex_s, true_and, and_true, false_and, and_false, or_true, true_or, or_false, false_or, if_true, if_false, not_true_eq_false, not_false_eq_true, forall_const, true_implies, false_implies, implies_true, Nat.reduceLeDiff, Nat.reduceEqDiff, reduceCtorEq, i32_succ, i32_pred, Nat.le_refl, Nat.lt_add_one, Nat.reduceLT, ne_eq, Nat.add_one_ne_zero]
    exact hr.t.t.up
  by_cases p5 : 1 ≤ c.toInt ∧ c.toInt ≤ 10000
  rotate_left
  · simp only [p2, p3, p4, p5, F_X10_lot, eM_within, eM_mayz (show (1 : Int32) ≠ 0 by decide), k3, e1, p1a, p1b, J_X10_lot_53, J_X10_lot_54, eM_may0, bz_eq0, h2, h2', Int32.reduceToInt, pu_00, pu_10, ↓forall_eq, bz_b, gR_sI, gR_sJ, gJ_sI, gI_sJ, gN_sI, gN_sJ, gI_sR, gJ_sR, gN_sR, gI_sI, gJ_sJ, gR_sR, gI_nW, gR_nW, gN_nW, gJ_nW, rM_at, rXs_at, rXd_at, ex_s, true_and, and_true, false_and, and_false, or_true, true_or, or_false, false_or, if_true, if_false, not_true_eq_false, not_false_eq_true, forall_const, true_implies, false_implies, implies_true, Nat.reduceLeDiff, Nat.reduceEqDiff, reduceCtorEq, i32_succ, i32_pred, Nat.le_refl, Nat.lt_add_one, Nat.reduceLT, ne_eq, Nat.add_one_ne_zero]
    exact hr.t.t.up
  by_cases hf : nl = 60
  · have h20 : i32 nl = 60 := by rw [hf]; rfl
    have h21 : ¬ (i32 nl < 60) := by rw [hf]; decide
    simp only [p2, p3, p4, p5, h21, pu_10, pu_00, ↓forall_eq, bz_b, gR_sI, gR_sJ, gJ_sI, gI_sJ, gN_sI, gN_sJ, gI_sR, gJ_sR, gN_sR, gI_sI, gJ_sJ, gR_sR, gI_nW, gR_nW, gN_nW, gJ_nW, rM_at, rXs_at, rXd_at, ex_s, true_and, and_true, false_and, and_false, or_true, true_or, or_false, false_or, if_true, if_false, not_true_eq_false, not_false_eq_true, forall_const, true_implies, false_implies, implies_true, Nat.reduceLeDiff, Nat.reduceEqDiff, reduceCtorEq, i32_succ, i32_pred, Nat.le_refl, Nat.lt_add_one, Nat.reduceLT, ne_eq, Nat.add_one_ne_zero]
    simp only [F_X10_lot, eM_within, eM_mayz (show (1 : Int32) ≠ 0 by decide), k3, e1, p1a, p1b, p4, p5, l3, h20, J_X10_lot_53, J_X10_lot_54, eM_may1, bz_eq0, h2, h2', Int32.reduceToInt, pu_00, pu_10, ↓forall_eq, bz_b, gR_sI, gR_sJ, gJ_sI, gI_sJ, gN_sI, gN_sJ, gI_sR, gJ_sR, gN_sR, gI_sI, gJ_sJ, gR_sR, gI_nW, gR_nW, gN_nW, gJ_nW, rM_at, rXs_at, rXd_at, ex_s, true_and, and_true, false_and, and_false, or_true, true_or, or_false, false_or, if_true, if_false, not_true_eq_false, not_false_eq_true, forall_const, true_implies, false_implies, implies_true, Nat.reduceLeDiff, Nat.reduceEqDiff, reduceCtorEq, i32_succ, i32_pred, Nat.le_refl, Nat.lt_add_one, Nat.reduceLT, ne_eq, Nat.add_one_ne_zero]
    exact hr.t.up
  have hf2 : nl < 60 := by omega
  have h20 : ¬ i32 nl = 60 := fun h9 => hf (i32_inj (by omega) (by decide) h9)
  have h21 : i32 nl < 60 := by rw [Int32.lt_iff_toInt_lt, i32_int (by omega)]; exact Int.ofNat_lt.mpr hf2
  obtain ⟨q, rfl, hq1, hq2⟩ := i32_of (x := a) p1.1
  have hq : q < nk := by omega
  have hm3 : gI (sI m 0 0 0 0) 0 0 2 = i32 nl := by simp only [l3, ↓forall_eq, bz_b, gR_sI, gR_sJ, gJ_sI, gI_sJ, gN_sI, gN_sJ, gI_sR, gJ_sR, gN_sR, gI_sI, gJ_sJ, gR_sR, gI_nW, gR_nW, gN_nW, gJ_nW, rM_at, rXs_at, rXd_at, ex_s, true_and, and_true, false_and, and_false, or_true, true_or, or_false, false_or, if_true, if_false, not_true_eq_false, not_false_eq_true, forall_const, true_implies, false_implies, implies_true, Nat.reduceLeDiff, Nat.reduceEqDiff, reduceCtorEq, i32_succ, i32_pred, Nat.le_refl, Nat.lt_add_one, Nat.reduceLT, ne_eq, Nat.add_one_ne_zero]
  simp only [p2, p3, p4, p5, h21, pu_10, pu_00, xX_addLot x0 l2 l4 (k5 q hq).1 (show q < 20 by omega) hf2, ↓forall_eq, bz_b, gR_sI, gR_sJ, gJ_sI, gI_sJ, gN_sI, gN_sJ, gI_sR, gJ_sR, gN_sR, gI_sI, gJ_sJ, gR_sR, gI_nW, gR_nW, gN_nW, gJ_nW, rM_at, rXs_at, rXd_at, ex_s, true_and, and_true, false_and, and_false, or_true, true_or, or_false, false_or, if_true, if_false, not_true_eq_false, not_false_eq_true, forall_const, true_implies, false_implies, implies_true, Nat.reduceLeDiff, Nat.reduceEqDiff, reduceCtorEq, i32_succ, i32_pred, Nat.le_refl, Nat.lt_add_one, Nat.reduceLT, ne_eq, Nat.add_one_ne_zero]
  simp only [F_X10_lot, eM_within, eM_mayz (show (1 : Int32) ≠ 0 by decide), k3, e1, p1a, p1b, p4, p5, l3, h20, J_X10_lot_53, J_X10_lot_54, eM_may1, bz_eq0, h2, h2', Int32.reduceToInt, pu_00, pu_10, eM_newLot (τ := sI m 0 0 0 0) hM hm3 (show q < 20 by omega) hf2, ↓forall_eq, bz_b, gR_sI, gR_sJ, gJ_sI, gI_sJ, gN_sI, gN_sJ, gI_sR, gJ_sR, gN_sR, gI_sI, gJ_sJ, gR_sR, gI_nW, gR_nW, gN_nW, gJ_nW, rM_at, rXs_at, rXd_at, ex_s, true_and, and_true, false_and, and_false, or_true, true_or, or_false, false_or, if_true, if_false, not_true_eq_false, not_false_eq_true, forall_const, true_implies, false_implies, implies_true, Nat.reduceLeDiff, Nat.reduceEqDiff, reduceCtorEq, i32_succ, i32_pred, Nat.le_refl, Nat.lt_add_one, Nat.reduceLT, ne_eq, Nat.add_one_ne_zero]
  refine ⟨?_, (hA0.t.addLot hf2 hq p4.1 p4.2 p5.1 p5.2).rel.up⟩
  simp [ALm, gI_sI]
