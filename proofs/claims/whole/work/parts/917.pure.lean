/-! ===== feed ===== -/
set_option maxRecDepth 16384 in
theorem and255 (x : Int32) : 0 ≤ (x &&& 255).toInt ∧ (x &&& 255).toInt ≤ 255 := by
  have h : (x &&& 255).toBitVec.toNat ≤ 255 := by
    rw [Int32.toBitVec_and, BitVec.toNat_and]
    exact Nat.le_trans Nat.and_le_right (by decide)
  have e : (x &&& 255).toInt = (x &&& 255).toBitVec.toInt := rfl
  rw [e, BitVec.toInt_eq_toNat_cond]
  split <;> omega
set_option maxRecDepth 16384 in
def WX (x : tw_T) (t : Nat) (v : Int32) : tw_T := sI (sI x 14 0 t v) 6 0 1 (i32 (t + 1))
set_option maxRecDepth 16384 in
def WM (m : tw_T) (t : Nat) (v : Int32) : tw_T := sI (sI m 133 0 t v) 0 0 28 (i32 (t + 1))
set_option maxRecDepth 16384 in
def by4 (y : Int32) (s : Int32) : Int32 := (y >>> (s &&& 31)) &&& 255
set_option maxRecDepth 16384 in
theorem xX_append {x : tw_T} {t : Nat} {y : Int32} {Q : tw_T → Prop} (h6 : gR x 6 = rXs 1) (ht : gI x 6 0 1 = i32 t) (hl : t + 4 ≤ 200)
    (hQ : Q (WX (WX (WX (WX x t (by4 y 24)) (t + 1) (by4 y 16)) (t + 2) (by4 y 8)) (t + 3) (by4 y 0))) : F_X7_append x 0 y Q := by
  have st : ∀ (τ : tw_T) (k : Nat) (u : Int32) (n : Nat) (EX : tw_T → Int32 → Prop), gR τ 6 = rXs 1 → gI τ 6 0 1 = i32 k → k < 200 → ¬ u < 0 → L_X7_append_3 0 y Q EX n (WX τ k (by4 y u)) (u + -8) → L_X7_append_3 0 y Q EX (n + 1) τ u := by
    intro τ k u n EX a1 a2 a3 a4 a5
    have e0 : ¬ (200 : Int32) ≤ i32 k := fun h => absurd ((le_i32 (k := 200) (by decide) (by omega)).mp h) (by omega)
    have e3 := vpin a3 (by decide)
    have e4 := i32_nat (show k < 2147483648 by omega)
    rw [L_X7_append_3]
    simp only [a1, a2, a4, e0, e3, e4, ↓forall_eq, bz_b, gR_sI, gR_sJ, gJ_sI, gI_sJ, gN_sI, gN_sJ, gI_sR, gJ_sR, gN_sR, gI_sI, gJ_sJ, gR_sR, gI_nW, gR_nW, gN_nW, gJ_nW, rM_at, rXs_at, rXd_at, ex_s, true_and, and_true, false_and, and_false, or_true, true_or, or_false, false_or, if_true, if_false, not_true_eq_false, not_false_eq_true, forall_const, true_implies, false_implies, implies_true, Nat.reduceLeDiff, Nat.reduceEqDiff, reduceCtorEq, i32_succ, i32_pred, Nat.le_refl, Nat.lt_add_one, Nat.reduceLT, ne_eq, Nat.add_one_ne_zero]
    exact a5
  have g6 : ∀ (τ : tw_T) (k : Nat) (v : Int32), gR τ 6 = rXs 1 → gR (WX τ k v) 6 = rXs 1 := fun τ k v h => h
  have g1 : ∀ (τ : tw_T) (k : Nat) (v : Int32), gI (WX τ k v) 6 0 1 = i32 (k + 1) := fun τ k v => by simp [WX, gI_sI]
  refine ⟨5, ?_⟩
  refine st _ t _ _ _ h6 ht (by omega) (by decide) ?_
  rw [show (24 : Int32) + -8 = 16 by decide]
  refine st _ (t + 1) _ _ _ (g6 _ _ _ h6) (g1 _ _ _) (by omega) (by decide) ?_
  rw [show (16 : Int32) + -8 = 8 by decide]
  refine st _ (t + 2) _ _ _ (g6 _ _ _ (g6 _ _ _ h6)) (g1 _ _ _) (by omega) (by decide) ?_
  rw [show (8 : Int32) + -8 = 0 by decide]
  refine st _ (t + 3) _ _ _ (g6 _ _ _ (g6 _ _ _ (g6 _ _ _ h6))) (g1 _ _ _) (by omega) (by decide) ?_
  rw [show (0 : Int32) + -8 = -8 by decide, L_X7_append_3]
  exact ⟨fun _ => hQ, fun h => absurd (show (-8 : Int32) < 0 by decide) h⟩
set_option maxRecDepth 16384 in
def X4 (x : tw_T) (t : Nat) (y : Int32) : tw_T := WX (WX (WX (WX x t (by4 y 24)) (t + 1) (by4 y 16)) (t + 2) (by4 y 8)) (t + 3) (by4 y 0)
set_option maxRecDepth 16384 in
def M4 (m : tw_T) (t : Nat) (y : Int32) : tw_T := WM (WM (WM (WM m t (by4 y 24)) (t + 1) (by4 y 16)) (t + 2) (by4 y 8)) (t + 3) (by4 y 0)
set_option maxRecDepth 16384 in
theorem X4_6 {x : tw_T} {t : Nat} {y : Int32} : gR (X4 x t y) = gR x := rfl
set_option maxRecDepth 16384 in
theorem X4_1 {x : tw_T} {t : Nat} {y : Int32} : gI (X4 x t y) 6 0 1 = i32 (t + 4) := by unfold X4 WX; rw [gI_sI, if_pos ⟨rfl, rfl, rfl⟩]
set_option maxRecDepth 16384 in
theorem M4_R {m : tw_T} {t : Nat} {y : Int32} : gR (M4 m t y) = gR m := rfl
set_option maxRecDepth 16384 in
theorem M4_28 {m : tw_T} {t : Nat} {y : Int32} : gI (M4 m t y) 0 0 28 = i32 (t + 4) := by unfold M4 WM; rw [gI_sI, if_pos ⟨rfl, rfl, rfl⟩]
set_option maxRecDepth 16384 in
theorem RelA.w1 {n nk nl no nt nd na ns : Nat} {x m : tw_T} {v : Int32} (h : RelA n nk nl no nt nd na ns x m) (ht : nt < 200) (h1 : 0 ≤ v.toInt) (h2 : v.toInt ≤ 255) : RelA n nk nl no (nt + 1) nd na ns (WX x nt v) (WM m nt v) := by
  obtain ⟨hM, hX, hK, hL, hC, hO, hG, hT, hD, hW⟩ := h
  unfold WX WM
  refine ⟨by simpa only [hI_s, hI_n, hJ_s, hJ_n, hR_s, hR_n, hIW_s, hIW_n, hJW_s, hJW_n, hRW_s, hRW_n, hNW_s, hNW_n, hRM_s, hRM_n, u2_s, u2_j, u2_row, u2_kk, gR_sI, gR_sJ, gJ_sI, gI_sJ, gN_sI, gN_sJ, gI_sR, gJ_sR, gN_sR, gI_sM, gJ_sM, gN_sM, ne_eq, Nat.reduceEqDiff, not_false_eq_true, reduceCtorEq, true_implies] using hM, by simpa only [hI_s, hI_n, hJ_s, hJ_n, hR_s, hR_n, hIW_s, hIW_n, hJW_s, hJW_n, hRW_s, hRW_n, hNW_s, hNW_n, hRM_s, hRM_n, u2_s, u2_j, u2_row, u2_kk, gR_sI, gR_sJ, gJ_sI, gI_sJ, gN_sI, gN_sJ, gI_sR, gJ_sR, gN_sR, gI_sM, gJ_sM, gN_sM, ne_eq, Nat.reduceEqDiff, not_false_eq_true, reduceCtorEq, true_implies] using hX, by simpa only [hI_s, hI_n, hJ_s, hJ_n, hR_s, hR_n, hIW_s, hIW_n, hJW_s, hJW_n, hRW_s, hRW_n, hNW_s, hNW_n, hRM_s, hRM_n, u2_s, u2_j, u2_row, u2_kk, gR_sI, gR_sJ, gJ_sI, gI_sJ, gN_sI, gN_sJ, gI_sR, gJ_sR, gN_sR, gI_sM, gJ_sM, gN_sM, ne_eq, Nat.reduceEqDiff, not_false_eq_true, reduceCtorEq, true_implies] using hK, by simpa only [hI_s, hI_n, hJ_s, hJ_n, hR_s, hR_n, hIW_s, hIW_n, hJW_s, hJW_n, hRW_s, hRW_n, hNW_s, hNW_n, hRM_s, hRM_n, u2_s, u2_j, u2_row, u2_kk, gR_sI, gR_sJ, gJ_sI, gI_sJ, gN_sI, gN_sJ, gI_sR, gJ_sR, gN_sR, gI_sM, gJ_sM, gN_sM, ne_eq, Nat.reduceEqDiff, not_false_eq_true, reduceCtorEq, true_implies] using hL, by simpa only [hI_s, hI_n, hJ_s, hJ_n, hR_s, hR_n, hIW_s, hIW_n, hJW_s, hJW_n, hRW_s, hRW_n, hNW_s, hNW_n, hRM_s, hRM_n, u2_s, u2_j, u2_row, u2_kk, gR_sI, gR_sJ, gJ_sI, gI_sJ, gN_sI, gN_sJ, gI_sR, gJ_sR, gN_sR, gI_sM, gJ_sM, gN_sM, ne_eq, Nat.reduceEqDiff, not_false_eq_true, reduceCtorEq, true_implies] using hC, by simpa only [hI_s, hI_n, hJ_s, hJ_n, hR_s, hR_n, hIW_s, hIW_n, hJW_s, hJW_n, hRW_s, hRW_n, hNW_s, hNW_n, hRM_s, hRM_n, u2_s, u2_j, u2_row, u2_kk, gR_sI, gR_sJ, gJ_sI, gI_sJ, gN_sI, gN_sJ, gI_sR, gJ_sR, gN_sR, gI_sM, gJ_sM, gN_sM, ne_eq, Nat.reduceEqDiff, not_false_eq_true, reduceCtorEq, true_implies] using hO, by simpa only [hI_s, hI_n, hJ_s, hJ_n, hR_s, hR_n, hIW_s, hIW_n, hJW_s, hJW_n, hRW_s, hRW_n, hNW_s, hNW_n, hRM_s, hRM_n, u2_s, u2_j, u2_row, u2_kk, gR_sI, gR_sJ, gJ_sI, gI_sJ, gN_sI, gN_sJ, gI_sR, gJ_sR, gN_sR, gI_sM, gJ_sM, gN_sM, ne_eq, Nat.reduceEqDiff, not_false_eq_true, reduceCtorEq, true_implies] using hG, ?_, by simpa only [hI_s, hI_n, hJ_s, hJ_n, hR_s, hR_n, hIW_s, hIW_n, hJW_s, hJW_n, hRW_s, hRW_n, hNW_s, hNW_n, hRM_s, hRM_n, u2_s, u2_j, u2_row, u2_kk, gR_sI, gR_sJ, gJ_sI, gI_sJ, gN_sI, gN_sJ, gI_sR, gJ_sR, gN_sR, gI_sM, gJ_sM, gN_sM, ne_eq, Nat.reduceEqDiff, not_false_eq_true, reduceCtorEq, true_implies] using hD, by simpa only [hI_s, hI_n, hJ_s, hJ_n, hR_s, hR_n, hIW_s, hIW_n, hJW_s, hJW_n, hRW_s, hRW_n, hNW_s, hNW_n, hRM_s, hRM_n, u2_s, u2_j, u2_row, u2_kk, gR_sI, gR_sJ, gJ_sI, gI_sJ, gN_sI, gN_sJ, gI_sR, gJ_sR, gN_sR, gI_sM, gJ_sM, gN_sM, ne_eq, Nat.reduceEqDiff, not_false_eq_true, reduceCtorEq, true_implies] using hW⟩
  simp only [hI_s, hI_n, hJ_s, hJ_n, hR_s, hR_n, hIW_s, hIW_n, hJW_s, hJW_n, hRW_s, hRW_n, hNW_s, hNW_n, hRM_s, hRM_n, u2_s, u2_j, u2_row, u2_kk, gR_sI, gR_sJ, gJ_sI, gI_sJ, gN_sI, gN_sJ, gI_sR, gJ_sR, gN_sR, gI_sM, gJ_sM, gN_sM, ne_eq, Nat.reduceEqDiff, not_false_eq_true, reduceCtorEq, true_implies]
  obtain ⟨t1, t2, t3, t4, t5⟩ := hT
  refine ⟨by omega, rfl, rfl, by rw [t4], fun i => ?_⟩
  by_cases e : i = nt
  · subst e; rw [upd_s]; exact ⟨h1, h2⟩
  · rw [upd_n e]; exact t5 i
set_option maxRecDepth 16384 in
theorem RelA.w4 {n nk nl no nt nd na ns : Nat} {x m : tw_T} {y : Int32} (h : RelA n nk nl no nt nd na ns x m) (ht : nt + 4 ≤ 200) : RelA n nk nl no (nt + 4) nd na ns (X4 x nt y) (M4 m nt y) :=
  (((h.w1 (by omega) (and255 _).1 (and255 _).2).w1 (by omega) (and255 _).1 (and255 _).2).w1 (by omega) (and255 _).1 (and255 _).2).w1 (by omega) (and255 _).1 (and255 _).2
set_option maxRecDepth 16384 in
theorem eM_feed1 {a b c d e y : Int32} {Q : Int32 → tw_T → Prop} {EX : tw_T → Int32 → Prop} {n k t : Nat} {s : Int32} {m : tw_T} (hM : gR m = rM) (ht : gI m 0 0 28 = i32 t) (hl : t < 200) (hk : k < 20)
    (hy : y = if 16 ≤ k then e else if 12 ≤ k then d else if 8 ≤ k then c else if 4 ≤ k then b else a) (hs : ((24 : Int32)) - (((8 : Int32)) * (i32 k - i32 k / ((4 : Int32)) * ((4 : Int32)))) = s)
    (hQ : L_X10_feed_23 0 a b c d e Q EX n (WM m t (by4 y s)) (i32 (k + 1))) : L_X10_feed_23 0 a b c d e Q EX (n + 1) m (i32 k) := by
  have e0 : ¬ (20 : Int32) ≤ i32 k := fun h => absurd ((le_i32 (k := 20) (by decide) (by omega)).mp h) (by omega)
  have q1 : ((4 : Int32) ≤ i32 k) ↔ 4 ≤ k := le_i32 (k := 4) (by decide) (by omega)
  have q2 : ((8 : Int32) ≤ i32 k) ↔ 8 ≤ k := le_i32 (k := 8) (by decide) (by omega)
  have q3 : ((12 : Int32) ≤ i32 k) ↔ 12 ≤ k := le_i32 (k := 12) (by decide) (by omega)
  have q4 : ((16 : Int32) ≤ i32 k) ↔ 16 ≤ k := le_i32 (k := 16) (by decide) (by omega)
  have e3 := vpin hl (by decide)
  have e4 := i32_nat (show t < 2147483648 by omega)
  have hj : J_X10_feed_76 m 0 a b c d e (i32 k) y Q (fun t v6 => L_X10_feed_23 0 a b c d e Q EX n t v6) EX := by
    simp only [J_X10_feed_76, hM, ht, e3, e4, hs, ↓forall_eq, bz_b, gR_sI, gR_sJ, gJ_sI, gI_sJ, gN_sI, gN_sJ, gI_sR, gJ_sR, gN_sR, gI_sI, gJ_sJ, gR_sR, gI_nW, gR_nW, gN_nW, gJ_nW, rM_at, rXs_at, rXd_at, ex_s, true_and, and_true, false_and, and_false, or_true, true_or, or_false, false_or, if_true, if_false, not_true_eq_false, not_false_eq_true, forall_const, true_implies, false_implies, implies_true, Nat.reduceLeDiff, Nat.reduceEqDiff, reduceCtorEq, i32_succ, i32_pred, Nat.le_refl, Nat.lt_add_one, Nat.reduceLT, ne_eq, Nat.add_one_ne_zero]
    exact hQ
  rw [L_X10_feed_23]
  refine ⟨fun h => absurd h e0, fun _ => ⟨fun h4 => ⟨fun h8 => ⟨fun h12 => ⟨fun h16 => ?_, fun h16 => ?_⟩, fun h12 => ?_⟩, fun h8 => ?_⟩, fun h4 => ?_⟩⟩
  · rw [q4] at h16; rw [if_pos h16] at hy; subst hy; exact hj
  · rw [q4] at h16; rw [q3] at h12; rw [if_neg h16, if_pos h12] at hy; subst hy; exact hj
  · rw [q3] at h12; rw [q2] at h8; rw [if_neg (by omega), if_neg h12, if_pos h8] at hy; subst hy; exact hj
  · rw [q2] at h8; rw [q1] at h4; rw [if_neg (by omega), if_neg (by omega), if_neg h8, if_pos h4] at hy; subst hy; exact hj
  · rw [q1] at h4; rw [if_neg (by omega), if_neg (by omega), if_neg (by omega), if_neg h4] at hy; subst hy; exact hj
set_option maxRecDepth 16384 in
theorem WM_R {m : tw_T} {t : Nat} {v : Int32} : gR (WM m t v) = gR m := rfl
set_option maxRecDepth 16384 in
theorem WM_28 {m : tw_T} {t : Nat} {v : Int32} : gI (WM m t v) 0 0 28 = i32 (t + 1) := by simp [WM, gI_sI]
set_option maxRecDepth 16384 in
theorem eM_feed4 {a b c d e y : Int32} {Q : Int32 → tw_T → Prop} {EX : tw_T → Int32 → Prop} {n j t : Nat} {m : tw_T} (hM : gR m = rM) (ht : gI m 0 0 28 = i32 t) (hl : t + 4 ≤ 200) (hj : j < 5)
    (hy : y = if j = 4 then e else if j = 3 then d else if j = 2 then c else if j = 1 then b else a)
    (hQ : L_X10_feed_23 0 a b c d e Q EX n (M4 m t y) (i32 (4 * j + 4))) : L_X10_feed_23 0 a b c d e Q EX (n + 4) m (i32 (4 * j)) := by
  have hj' : j = 0 ∨ j = 1 ∨ j = 2 ∨ j = 3 ∨ j = 4 := by omega
  have hy2 : ∀ k, 4 * j ≤ k → k < 4 * j + 4 → y = if 16 ≤ k then e else if 12 ≤ k then d else if 8 ≤ k then c else if 4 ≤ k then b else a := by
    intro k h1 h2
    rw [hy]
    rcases hj' with h | h | h | h | h
    · rw [if_neg (by omega), if_neg (by omega), if_neg (by omega), if_neg (by omega), if_neg (by omega), if_neg (by omega), if_neg (by omega), if_neg (by omega)]
    · rw [if_neg (by omega), if_neg (by omega), if_neg (by omega), if_pos h, if_neg (by omega), if_neg (by omega), if_neg (by omega), if_pos (by omega)]
    · rw [if_neg (by omega), if_neg (by omega), if_pos h, if_neg (by omega), if_neg (by omega), if_pos (by omega)]
    · rw [if_neg (by omega), if_pos h, if_neg (by omega), if_pos (by omega)]
    · rw [if_pos h, if_pos (by omega)]
  have hs : ∀ k, 4 * j ≤ k → k < 4 * j + 4 → ((24 : Int32)) - (((8 : Int32)) * (i32 k - i32 k / ((4 : Int32)) * ((4 : Int32)))) = if k = 4 * j then 24 else if k = 4 * j + 1 then 16 else if k = 4 * j + 2 then 8 else 0 := by
    intro k h1 h2
    have hk : k = 4 * j ∨ k = 4 * j + 1 ∨ k = 4 * j + 2 ∨ k = 4 * j + 3 := by omega
    rcases hj' with h | h | h | h | h <;> subst h <;> rcases hk with h | h | h | h <;> subst h <;> decide
  refine eM_feed1 (k := 4 * j) (t := t) (s := 24) hM ht (by omega) (by omega) (hy2 _ (by omega) (by omega)) (by rw [hs _ (by omega) (by omega), if_pos rfl]) ?_
  refine eM_feed1 (k := 4 * j + 1) (t := t + 1) (s := 16) (WM_R.trans hM) WM_28 (by omega) (by omega) (hy2 _ (by omega) (by omega)) (by rw [hs _ (by omega) (by omega), if_neg (by omega), if_pos rfl]) ?_
  refine eM_feed1 (k := 4 * j + 2) (t := t + 2) (s := 8) (WM_R.trans (WM_R.trans hM)) WM_28 (by omega) (by omega) (hy2 _ (by omega) (by omega)) (by rw [hs _ (by omega) (by omega), if_neg (by omega), if_neg (by omega), if_pos rfl]) ?_
  exact eM_feed1 (k := 4 * j + 3) (t := t + 3) (s := 0) (WM_R.trans (WM_R.trans (WM_R.trans hM))) WM_28 (by omega) (by omega) (hy2 _ (by omega) (by omega)) (by rw [hs _ (by omega) (by omega), if_neg (by omega), if_neg (by omega), if_neg (by omega)]) hQ
set_option maxRecDepth 16384 in
theorem RelA.up {n nk nl no nt nd na ns : Nat} {x m : tw_T} (h : RelA n nk nl no nt nd na ns x m) : RelA (n + 1) nk nl no nt nd na ns x m := by
  obtain ⟨hM, hX, hK, hL, hC, hO, hG, hT, hD, hW⟩ := h
  exact ⟨hM, hX, hK, hL.up, hC, hO, hG, hT, hD, hW⟩
set_option maxRecDepth 16384 in
theorem op_feed (n : Nat) (x m : tw_T) (a b c d e : Int32) (h : Rel n x m) : F_X9_feed x 0 a b c d e (fun w x' => F_X10_feed m 0 a b c d e (fun r m' => w = r ∧ Rel (n + 1) x' m')) := by
  have hr := h
  obtain ⟨nk, nl, no, nt, nd, na, ns, hA⟩ := h
  have hA0 := hA
  obtain ⟨hM, hX0, hK0, hL0, hC0, hO0, hG0, hT0, hD0, hW0⟩ := hA
  have x0 := hX0.1
  have x6 := hX0.2.2.1
  obtain ⟨t1, t2, t3, t4, t5⟩ := hT0
  have hs : i32 nt + 20 = i32 (nt + 20) := (Int32.ofNat_add nt 20).symm
  have hc : ((200 : Int32) < i32 (nt + 20)) ↔ 200 < nt + 20 := lt_i32 (k := 200) (by decide) (by omega)
  have hc2 : (i32 (nt + 20) ≤ (200 : Int32)) ↔ nt + 20 ≤ 200 := le_i32 (c := 200) (by omega) (by decide)
  by_cases p : nt + 20 ≤ 200
  rotate_left
  · have p' : 200 < nt + 20 := by omega
    simp only [F_X9_feed, x0, F_X7_hasRoomForFive, t2, hs, hc, p', F_X10_feed, gI_sI, t3, hc2, p, ↓forall_eq, bz_b, gR_sI, gR_sJ, gJ_sI, gI_sJ, gN_sI, gN_sJ, gI_sR, gJ_sR, gN_sR, gI_sI, gJ_sJ, gR_sR, gI_nW, gR_nW, gN_nW, gJ_nW, rM_at, rXs_at, rXd_at, ex_s, true_and, and_true, false_and, and_false, or_true, true_or, or_false, false_or, if_true, if_false, not_true_eq_false, not_false_eq_true, forall_const, true_implies, false_implies, implies_true, Nat.reduceLeDiff, Nat.reduceEqDiff, reduceCtorEq, i32_succ, i32_pred, Nat.le_refl, Nat.lt_add_one, Nat.reduceLT, ne_eq, Nat.add_one_ne_zero]
    exact hr.t.up
  have p' : ¬ 200 < nt + 20 := by omega
  simp only [F_X9_feed, x0, F_X7_hasRoomForFive, t2, hs, hc, p', pu_10, ↓forall_eq, bz_b, gR_sI, gR_sJ, gJ_sI, gI_sJ, gN_sI, gN_sJ, gI_sR, gJ_sR, gN_sR, gI_sI, gJ_sJ, gR_sR, gI_nW, gR_nW, gN_nW, gJ_nW, rM_at, rXs_at, rXd_at, ex_s, true_and, and_true, false_and, and_false, or_true, true_or, or_false, false_or, if_true, if_false, not_true_eq_false, not_false_eq_true, forall_const, true_implies, false_implies, implies_true, Nat.reduceLeDiff, Nat.reduceEqDiff, reduceCtorEq, i32_succ, i32_pred, Nat.le_refl, Nat.lt_add_one, Nat.reduceLT, ne_eq, Nat.add_one_ne_zero]
  refine xX_append x6 t2 (by omega) ?_
  show ∃ o7 : Nat, gR (X4 x nt a) 0 0 5 = some o7 ∧ _
  refine ⟨0, by rw [X4_6, x0]; exact rXs_at (by decide), ?_⟩
  refine xX_append (t := nt + 4) x6 X4_1 (by omega) ?_
  show ∃ o7 : Nat, gR (X4 (X4 x nt a) (nt + 4) b) 0 0 5 = some o7 ∧ _
  refine ⟨0, by rw [X4_6, X4_6, x0]; exact rXs_at (by decide), ?_⟩
  refine xX_append (t := nt + 4 + 4) x6 X4_1 (by omega) ?_
  show ∃ o7 : Nat, gR (X4 (X4 (X4 x nt a) (nt + 4) b) (nt + 4 + 4) c) 0 0 5 = some o7 ∧ _
  refine ⟨0, by rw [X4_6, X4_6, X4_6, x0]; exact rXs_at (by decide), ?_⟩
  refine xX_append (t := nt + 4 + 4 + 4) x6 X4_1 (by omega) ?_
  show ∃ o7 : Nat, gR (X4 (X4 (X4 (X4 x nt a) (nt + 4) b) (nt + 4 + 4) c) (nt + 4 + 4 + 4) d) 0 0 5 = some o7 ∧ _
  refine ⟨0, by rw [X4_6, X4_6, X4_6, X4_6, x0]; exact rXs_at (by decide), ?_⟩
  refine xX_append (t := nt + 4 + 4 + 4 + 4) x6 X4_1 (by omega) ?_
  show ∃ o7 : Nat, gR (X4 (X4 (X4 (X4 (X4 x nt a) (nt + 4) b) (nt + 4 + 4) c) (nt + 4 + 4 + 4) d) (nt + 4 + 4 + 4 + 4) e) 0 0 5 = some o7 ∧ _
  refine ⟨0, by rw [X4_6, X4_6, X4_6, X4_6, X4_6, x0]; exact rXs_at (by decide), ?_⟩
  show F_X10_feed m 0 a b c d e (fun r m' => gI (X4 (X4 (X4 (X4 (X4 x nt a) (nt + 4) b) (nt + 4 + 4) c) (nt + 4 + 4 + 4) d) (nt + 4 + 4 + 4 + 4) e) 6 0 1 = r ∧ Rel (n + 1) (X4 (X4 (X4 (X4 (X4 x nt a) (nt + 4) b) (nt + 4 + 4) c) (nt + 4 + 4 + 4) d) (nt + 4 + 4 + 4 + 4) e) m')
  rw [X4_1]
  have hA1 := (((((hA0.t (t := 0)).w4 (y := a) (by omega)).w4 (y := b) (by omega)).w4 (y := c) (by omega)).w4 (y := d) (by omega)).w4 (y := e) (by omega)
  simp only [F_X10_feed, gI_sI, t3, hs, hc2, p, ↓forall_eq, bz_b, gR_sI, gR_sJ, gJ_sI, gI_sJ, gN_sI, gN_sJ, gI_sR, gJ_sR, gN_sR, gI_sI, gJ_sJ, gR_sR, gI_nW, gR_nW, gN_nW, gJ_nW, rM_at, rXs_at, rXd_at, ex_s, true_and, and_true, false_and, and_false, or_true, true_or, or_false, false_or, if_true, if_false, not_true_eq_false, not_false_eq_true, forall_const, true_implies, false_implies, implies_true, Nat.reduceLeDiff, Nat.reduceEqDiff, reduceCtorEq, i32_succ, i32_pred, Nat.le_refl, Nat.lt_add_one, Nat.reduceLT, ne_eq, Nat.add_one_ne_zero]
  refine ⟨21, ?_⟩
  have f3 : gI (sI m 0 0 0 0) 0 0 28 = i32 nt := by rw [gI_sI, if_neg (by decide)]; exact t3
  refine eM_feed4 (j := 0) (y := a) (n := 17) (t := nt) hM f3 (by omega) (by decide) (by simp) ?_
  refine eM_feed4 (j := 1) (y := b) (n := 13) (t := nt + 4) (M4_R.trans hM) M4_28 (by omega) (by decide) (by simp) ?_
  refine eM_feed4 (j := 2) (y := c) (n := 9) (t := nt + 4 + 4) (M4_R.trans (M4_R.trans hM)) M4_28 (by omega) (by decide) (by simp) ?_
  refine eM_feed4 (j := 3) (y := d) (n := 5) (t := nt + 4 + 4 + 4) (M4_R.trans (M4_R.trans (M4_R.trans hM))) M4_28 (by omega) (by decide) (by simp) ?_
  refine eM_feed4 (j := 4) (y := e) (n := 1) (t := nt + 4 + 4 + 4 + 4) (M4_R.trans (M4_R.trans (M4_R.trans (M4_R.trans hM)))) M4_28 (by omega) (by decide) (by simp) ?_
  rw [L_X10_feed_23]
  refine ⟨fun _ => ⟨?_, ?_⟩, fun h9 => absurd (show (20 : Int32) ≤ i32 (4 * 4 + 4) by decide) h9⟩
  · exact M4_28.symm
  · exact hA1.up.rel
