/-! ===== cells ===== -/
set_option maxRecDepth 16384 in
theorem le_i32 {k c : Nat} (hk : k < 2147483648) (hc : c < 2147483648) : (i32 k ≤ i32 c) ↔ k ≤ c := by rw [Int32.le_iff_toInt_le, i32_int hk, i32_int hc]; omega
set_option maxRecDepth 16384 in
theorem lt_i32 {k c : Nat} (hk : k < 2147483648) (hc : c < 2147483648) : (i32 k < i32 c) ↔ k < c := by rw [Int32.lt_iff_toInt_lt, i32_int hk, i32_int hc]; omega
set_option maxRecDepth 16384 in
theorem lit30 : (30 : Int32) = i32 30 := rfl
set_option maxRecDepth 16384 in
theorem xX_isEmpty {x : tw_T} {c : Nat} {Q : Int32 → tw_T → Prop} (h5 : gR x 5 = rXs 2) (hc : c < 30) : F_X5_isEmpty x 0 (i32 c) Q ↔ Q (bz (gI x 13 0 c = 0)) x := by
  have e3 := vpin hc (by decide)
  have e4 := i32_nat (show c < 2147483648 by omega)
  simp only [F_X5_isEmpty, h5, e3, e4, ↓forall_eq, bz_b, gR_sI, gR_sJ, gJ_sI, gI_sJ, gN_sI, gN_sJ, gI_sR, gJ_sR, gN_sR, gI_sI, gJ_sJ, gR_sR, gI_nW, gR_nW, gN_nW, gJ_nW, rM_at, rXs_at, rXd_at, ex_s, true_and, and_true, false_and, and_false, or_true, true_or, or_false, false_or, if_true, if_false, not_true_eq_false, not_false_eq_true, forall_const, true_implies, false_implies, implies_true, Nat.reduceLeDiff, Nat.reduceEqDiff, reduceCtorEq, i32_succ, i32_pred, Nat.le_refl, Nat.lt_add_one, Nat.reduceLT, ne_eq, Nat.add_one_ne_zero]
  by_cases h : gI x 13 0 c = 0
  · simp only [h, bz_t, ↓forall_eq, bz_b, gR_sI, gR_sJ, gJ_sI, gI_sJ, gN_sI, gN_sJ, gI_sR, gJ_sR, gN_sR, gI_sI, gJ_sJ, gR_sR, gI_nW, gR_nW, gN_nW, gJ_nW, rM_at, rXs_at, rXd_at, ex_s, true_and, and_true, false_and, and_false, or_true, true_or, or_false, false_or, if_true, if_false, not_true_eq_false, not_false_eq_true, forall_const, true_implies, false_implies, implies_true, Nat.reduceLeDiff, Nat.reduceEqDiff, reduceCtorEq, i32_succ, i32_pred, Nat.le_refl, Nat.lt_add_one, Nat.reduceLT, ne_eq, Nat.add_one_ne_zero]
  · simp only [h, bz_f, ↓forall_eq, bz_b, gR_sI, gR_sJ, gJ_sI, gI_sJ, gN_sI, gN_sJ, gI_sR, gJ_sR, gN_sR, gI_sI, gJ_sJ, gR_sR, gI_nW, gR_nW, gN_nW, gJ_nW, rM_at, rXs_at, rXd_at, ex_s, true_and, and_true, false_and, and_false, or_true, true_or, or_false, false_or, if_true, if_false, not_true_eq_false, not_false_eq_true, forall_const, true_implies, false_implies, implies_true, Nat.reduceLeDiff, Nat.reduceEqDiff, reduceCtorEq, i32_succ, i32_pred, Nat.le_refl, Nat.lt_add_one, Nat.reduceLT, ne_eq, Nat.add_one_ne_zero]
set_option maxRecDepth 16384 in
theorem xX_takesLot {x : tw_T} {c : Nat} {l : Int32} {Q : Int32 → tw_T → Prop} (h5 : gR x 5 = rXs 2) (hc : c < 30) : F_X5_takesLot x 0 (i32 c) l Q ↔ Q (bz (gI x 13 0 c = 0 ∨ gI x 12 0 c = l)) x := by
  have e3 := vpin hc (by decide)
  have e4 := i32_nat (show c < 2147483648 by omega)
  simp only [F_X5_takesLot, xX_isEmpty h5 hc, bz_eq0, h5, e3, e4, ↓forall_eq, bz_b, gR_sI, gR_sJ, gJ_sI, gI_sJ, gN_sI, gN_sJ, gI_sR, gJ_sR, gN_sR, gI_sI, gJ_sJ, gR_sR, gI_nW, gR_nW, gN_nW, gJ_nW, rM_at, rXs_at, rXd_at, ex_s, true_and, and_true, false_and, and_false, or_true, true_or, or_false, false_or, if_true, if_false, not_true_eq_false, not_false_eq_true, forall_const, true_implies, false_implies, implies_true, Nat.reduceLeDiff, Nat.reduceEqDiff, reduceCtorEq, i32_succ, i32_pred, Nat.le_refl, Nat.lt_add_one, Nat.reduceLT, ne_eq, Nat.add_one_ne_zero]
  by_cases h : gI x 13 0 c = 0
  · simp only [h, bz_t, ↓forall_eq, bz_b, gR_sI, gR_sJ, gJ_sI, gI_sJ, gN_sI, gN_sJ, gI_sR, gJ_sR, gN_sR, gI_sI, gJ_sJ, gR_sR, gI_nW, gR_nW, gN_nW, gJ_nW, rM_at, rXs_at, rXd_at, ex_s, true_and, and_true, false_and, and_false, or_true, true_or, or_false, false_or, if_true, if_false, not_true_eq_false, not_false_eq_true, forall_const, true_implies, false_implies, implies_true, Nat.reduceLeDiff, Nat.reduceEqDiff, reduceCtorEq, i32_succ, i32_pred, Nat.le_refl, Nat.lt_add_one, Nat.reduceLT, ne_eq, Nat.add_one_ne_zero]
  · by_cases h2 : gI x 12 0 c = l
    · simp only [h, h2, bz_t, ↓forall_eq, bz_b, gR_sI, gR_sJ, gJ_sI, gI_sJ, gN_sI, gN_sJ, gI_sR, gJ_sR, gN_sR, gI_sI, gJ_sJ, gR_sR, gI_nW, gR_nW, gN_nW, gJ_nW, rM_at, rXs_at, rXd_at, ex_s, true_and, and_true, false_and, and_false, or_true, true_or, or_false, false_or, if_true, if_false, not_true_eq_false, not_false_eq_true, forall_const, true_implies, false_implies, implies_true, Nat.reduceLeDiff, Nat.reduceEqDiff, reduceCtorEq, i32_succ, i32_pred, Nat.le_refl, Nat.lt_add_one, Nat.reduceLT, ne_eq, Nat.add_one_ne_zero]
    · simp only [h, h2, bz_f, ↓forall_eq, bz_b, gR_sI, gR_sJ, gJ_sI, gI_sJ, gN_sI, gN_sJ, gI_sR, gJ_sR, gN_sR, gI_sI, gJ_sJ, gR_sR, gI_nW, gR_nW, gN_nW, gJ_nW, rM_at, rXs_at, rXd_at, ex_s, true_and, and_true, false_and, and_false, or_true, true_or, or_false, false_or, if_true, if_false, not_true_eq_false, not_false_eq_true, forall_const, true_implies, false_implies, implies_true, Nat.reduceLeDiff, Nat.reduceEqDiff, reduceCtorEq, i32_succ, i32_pred, Nat.le_refl, Nat.lt_add_one, Nat.reduceLT, ne_eq, Nat.add_one_ne_zero]
set_option maxRecDepth 16384 in
theorem xX_hasRoom {x : tw_T} {c : Nat} {b : Int32} {Q : Int32 → tw_T → Prop} (h5 : gR x 5 = rXs 2) (hc : c < 30) : F_X5_hasRoom x 0 (i32 c) b Q ↔ Q (bz (¬ 12 < gI x 13 0 c + b)) x := by
  have e3 := vpin hc (by decide)
  have e4 := i32_nat (show c < 2147483648 by omega)
  simp only [F_X5_hasRoom, h5, e3, e4, ↓forall_eq, bz_b, gR_sI, gR_sJ, gJ_sI, gI_sJ, gN_sI, gN_sJ, gI_sR, gJ_sR, gN_sR, gI_sI, gJ_sJ, gR_sR, gI_nW, gR_nW, gN_nW, gJ_nW, rM_at, rXs_at, rXd_at, ex_s, true_and, and_true, false_and, and_false, or_true, true_or, or_false, false_or, if_true, if_false, not_true_eq_false, not_false_eq_true, forall_const, true_implies, false_implies, implies_true, Nat.reduceLeDiff, Nat.reduceEqDiff, reduceCtorEq, i32_succ, i32_pred, Nat.le_refl, Nat.lt_add_one, Nat.reduceLT, ne_eq, Nat.add_one_ne_zero]
  by_cases h : 12 < gI x 13 0 c + b
  · simp only [h, bz_f, ↓forall_eq, bz_b, gR_sI, gR_sJ, gJ_sI, gI_sJ, gN_sI, gN_sJ, gI_sR, gJ_sR, gN_sR, gI_sI, gJ_sJ, gR_sR, gI_nW, gR_nW, gN_nW, gJ_nW, rM_at, rXs_at, rXd_at, ex_s, true_and, and_true, false_and, and_false, or_true, true_or, or_false, false_or, if_true, if_false, not_true_eq_false, not_false_eq_true, forall_const, true_implies, false_implies, implies_true, Nat.reduceLeDiff, Nat.reduceEqDiff, reduceCtorEq, i32_succ, i32_pred, Nat.le_refl, Nat.lt_add_one, Nat.reduceLT, ne_eq, Nat.add_one_ne_zero]
  · simp only [h, bz_t, ↓forall_eq, bz_b, gR_sI, gR_sJ, gJ_sI, gI_sJ, gN_sI, gN_sJ, gI_sR, gJ_sR, gN_sR, gI_sI, gJ_sJ, gR_sR, gI_nW, gR_nW, gN_nW, gJ_nW, rM_at, rXs_at, rXd_at, ex_s, true_and, and_true, false_and, and_false, or_true, true_or, or_false, false_or, if_true, if_false, not_true_eq_false, not_false_eq_true, forall_const, true_implies, false_implies, implies_true, Nat.reduceLeDiff, Nat.reduceEqDiff, reduceCtorEq, i32_succ, i32_pred, Nat.le_refl, Nat.lt_add_one, Nat.reduceLT, ne_eq, Nat.add_one_ne_zero]
set_option maxRecDepth 16384 in
theorem xX_add {x : tw_T} {c : Nat} {l b : Int32} {Q : tw_T → Prop} (h5 : gR x 5 = rXs 2) (hc : c < 30) : F_X5_add x 0 (i32 c) l b Q ↔ Q (sI (sI x 12 0 c l) 13 0 c (gI x 13 0 c + b)) := by
  have e3 := vpin hc (by decide)
  have e4 := i32_nat (show c < 2147483648 by omega)
  simp only [F_X5_add, h5, e3, e4, ↓forall_eq, bz_b, gR_sI, gR_sJ, gJ_sI, gI_sJ, gN_sI, gN_sJ, gI_sR, gJ_sR, gN_sR, gI_sI, gJ_sJ, gR_sR, gI_nW, gR_nW, gN_nW, gJ_nW, rM_at, rXs_at, rXd_at, ex_s, true_and, and_true, false_and, and_false, or_true, true_or, or_false, false_or, if_true, if_false, not_true_eq_false, not_false_eq_true, forall_const, true_implies, false_implies, implies_true, Nat.reduceLeDiff, Nat.reduceEqDiff, reduceCtorEq, i32_succ, i32_pred, Nat.le_refl, Nat.lt_add_one, Nat.reduceLT, ne_eq, Nat.add_one_ne_zero]
set_option maxRecDepth 16384 in
theorem xX_remove {x : tw_T} {c : Nat} {b : Int32} {Q : tw_T → Prop} (h5 : gR x 5 = rXs 2) (hc : c < 30) : F_X5_remove x 0 (i32 c) b Q ↔ ((¬ gI x 13 0 c - b = 0 → Q (sI x 13 0 c (gI x 13 0 c - b))) ∧ (gI x 13 0 c - b = 0 → Q (sI (sI x 13 0 c (gI x 13 0 c - b)) 12 0 c (-1)))) := by
  have e3 := vpin hc (by decide)
  have e4 := i32_nat (show c < 2147483648 by omega)
  simp only [F_X5_remove, h5, e3, e4, ↓forall_eq, bz_b, gR_sI, gR_sJ, gJ_sI, gI_sJ, gN_sI, gN_sJ, gI_sR, gJ_sR, gN_sR, gI_sI, gJ_sJ, gR_sR, gI_nW, gR_nW, gN_nW, gJ_nW, rM_at, rXs_at, rXd_at, ex_s, true_and, and_true, false_and, and_false, or_true, true_or, or_false, false_or, if_true, if_false, not_true_eq_false, not_false_eq_true, forall_const, true_implies, false_implies, implies_true, Nat.reduceLeDiff, Nat.reduceEqDiff, reduceCtorEq, i32_succ, i32_pred, Nat.le_refl, Nat.lt_add_one, Nat.reduceLT, ne_eq, Nat.add_one_ne_zero]
set_option maxRecDepth 16384 in
theorem eM_adds {m : tw_T} {c : Nat} {l b : Int32} {Q : tw_T → Prop} (hM : gR m = rM) (hc : c < 30) : F_X10_adds m 0 (i32 c) l b Q ↔ Q (sI (sI m 124 0 c (gI m 124 0 c + b)) 123 0 c (if gI m 124 0 c + b = 0 then -1 else l)) := by
  have e3 := vpin hc (by decide)
  have e4 := i32_nat (show c < 2147483648 by omega)
  simp only [F_X10_adds, J_X10_adds_29, hM, e3, e4, ↓forall_eq, bz_b, gR_sI, gR_sJ, gJ_sI, gI_sJ, gN_sI, gN_sJ, gI_sR, gJ_sR, gN_sR, gI_sI, gJ_sJ, gR_sR, gI_nW, gR_nW, gN_nW, gJ_nW, rM_at, rXs_at, rXd_at, ex_s, true_and, and_true, false_and, and_false, or_true, true_or, or_false, false_or, if_true, if_false, not_true_eq_false, not_false_eq_true, forall_const, true_implies, false_implies, implies_true, Nat.reduceLeDiff, Nat.reduceEqDiff, reduceCtorEq, i32_succ, i32_pred, Nat.le_refl, Nat.lt_add_one, Nat.reduceLT, ne_eq, Nat.add_one_ne_zero]
  by_cases h : gI m 124 0 c + b = 0
  · simp only [h, ↓forall_eq, bz_b, gR_sI, gR_sJ, gJ_sI, gI_sJ, gN_sI, gN_sJ, gI_sR, gJ_sR, gN_sR, gI_sI, gJ_sJ, gR_sR, gI_nW, gR_nW, gN_nW, gJ_nW, rM_at, rXs_at, rXd_at, ex_s, true_and, and_true, false_and, and_false, or_true, true_or, or_false, false_or, if_true, if_false, not_true_eq_false, not_false_eq_true, forall_const, true_implies, false_implies, implies_true, Nat.reduceLeDiff, Nat.reduceEqDiff, reduceCtorEq, i32_succ, i32_pred, Nat.le_refl, Nat.lt_add_one, Nat.reduceLT, ne_eq, Nat.add_one_ne_zero]
  · simp only [h, ↓forall_eq, bz_b, gR_sI, gR_sJ, gJ_sI, gI_sJ, gN_sI, gN_sJ, gI_sR, gJ_sR, gN_sR, gI_sI, gJ_sJ, gR_sR, gI_nW, gR_nW, gN_nW, gJ_nW, rM_at, rXs_at, rXd_at, ex_s, true_and, and_true, false_and, and_false, or_true, true_or, or_false, false_or, if_true, if_false, not_true_eq_false, not_false_eq_true, forall_const, true_implies, false_implies, implies_true, Nat.reduceLeDiff, Nat.reduceEqDiff, reduceCtorEq, i32_succ, i32_pred, Nat.le_refl, Nat.lt_add_one, Nat.reduceLT, ne_eq, Nat.add_one_ne_zero]
set_option maxRecDepth 16384 in
/-- a lot's k-th cell from cell c on, d cells being left -/
def cF (cl : Nat → Int32) (l k : Int32) : Nat → Nat → Int32 → Int32
  | 0, _, _ => -1
  | d + 1, c, acc => if cl c = l then (if acc = k then i32 c else cF cl l k d (c + 1) (acc + 1)) else cF cl l k d (c + 1) acc
set_option maxRecDepth 16384 in
/-- a lot's bottles from cell c on -/
def bF (cl cm : Nat → Int32) (l : Int32) : Nat → Nat → Int32 → Int32
  | 0, _, acc => acc
  | d + 1, c, acc => bF cl cm l d (c + 1) (if cl c = l then acc + cm c else acc)
set_option maxRecDepth 16384 in
/-- all bottles from cell c on -/
def aF (cm : Nat → Int32) : Nat → Nat → Int32 → Int32
  | 0, _, acc => acc
  | d + 1, c, acc => aF cm d (c + 1) (acc + cm c)
set_option maxRecDepth 16384 in
theorem xX_cellOf_l {x : tw_T} {l k : Int32} {Q : Int32 → tw_T → Prop} (h5 : gR x 5 = rXs 2) : ∀ (d c : Nat) (acc : Int32), c + d = 30 → Q (cF (gI x 12 0) l k d c acc) x →
    L_X5_cellOf_5 0 l k Q (fun (τ9 : tw_T) (z10 : Int32) (z11 : Int32) => Q ((-1 : Int32)) τ9) (d + 1) x acc (i32 c) := by
  intro d
  induction d with
  | zero =>
    intro c acc hc hQ
    have e1 : i32 30 ≤ i32 c := (le_i32 (by decide) (by omega)).mpr (by omega)
    rw [L_X5_cellOf_5]; simp only [lit30, e1, ↓forall_eq, bz_b, gR_sI, gR_sJ, gJ_sI, gI_sJ, gN_sI, gN_sJ, gI_sR, gJ_sR, gN_sR, gI_sI, gJ_sJ, gR_sR, gI_nW, gR_nW, gN_nW, gJ_nW, rM_at, rXs_at, rXd_at, ex_s, true_and, and_true, false_and, and_false, or_true, true_or, or_false, false_or, if_true, if_false, not_true_eq_false, not_false_eq_true, forall_const, true_implies, false_implies, implies_true, Nat.reduceLeDiff, Nat.reduceEqDiff, reduceCtorEq, i32_succ, i32_pred, Nat.le_refl, Nat.lt_add_one, Nat.reduceLT, ne_eq, Nat.add_one_ne_zero]; exact hQ
  | succ d ih =>
    intro c acc hc hQ
    have e1 : ¬ i32 30 ≤ i32 c := fun h => absurd ((le_i32 (by decide) (by omega)).mp h) (by omega)
    have e3 := vpin (show c < 30 by omega) (by decide)
    have e4 := i32_nat (show c < 2147483648 by omega)
    rw [cF] at hQ
    rw [L_X5_cellOf_5]; simp only [lit30, e1, e3, e4, h5, J_X5_cellOf_34, ↓forall_eq, bz_b, gR_sI, gR_sJ, gJ_sI, gI_sJ, gN_sI, gN_sJ, gI_sR, gJ_sR, gN_sR, gI_sI, gJ_sJ, gR_sR, gI_nW, gR_nW, gN_nW, gJ_nW, rM_at, rXs_at, rXd_at, ex_s, true_and, and_true, false_and, and_false, or_true, true_or, or_false, false_or, if_true, if_false, not_true_eq_false, not_false_eq_true, forall_const, true_implies, false_implies, implies_true, Nat.reduceLeDiff, Nat.reduceEqDiff, reduceCtorEq, i32_succ, i32_pred, Nat.le_refl, Nat.lt_add_one, Nat.reduceLT, ne_eq, Nat.add_one_ne_zero]
    by_cases h1 : gI x 12 0 c = l
    · by_cases h2 : acc = k
      · simp only [h1, h2, ↓forall_eq, bz_b, gR_sI, gR_sJ, gJ_sI, gI_sJ, gN_sI, gN_sJ, gI_sR, gJ_sR, gN_sR, gI_sI, gJ_sJ, gR_sR, gI_nW, gR_nW, gN_nW, gJ_nW, rM_at, rXs_at, rXd_at, ex_s, true_and, and_true, false_and, and_false, or_true, true_or, or_false, false_or, if_true, if_false, not_true_eq_false, not_false_eq_true, forall_const, true_implies, false_implies, implies_true, Nat.reduceLeDiff, Nat.reduceEqDiff, reduceCtorEq, i32_succ, i32_pred, Nat.le_refl, Nat.lt_add_one, Nat.reduceLT, ne_eq, Nat.add_one_ne_zero] at hQ ⊢; exact hQ
      · simp only [h1, h2, ↓forall_eq, bz_b, gR_sI, gR_sJ, gJ_sI, gI_sJ, gN_sI, gN_sJ, gI_sR, gJ_sR, gN_sR, gI_sI, gJ_sJ, gR_sR, gI_nW, gR_nW, gN_nW, gJ_nW, rM_at, rXs_at, rXd_at, ex_s, true_and, and_true, false_and, and_false, or_true, true_or, or_false, false_or, if_true, if_false, not_true_eq_false, not_false_eq_true, forall_const, true_implies, false_implies, implies_true, Nat.reduceLeDiff, Nat.reduceEqDiff, reduceCtorEq, i32_succ, i32_pred, Nat.le_refl, Nat.lt_add_one, Nat.reduceLT, ne_eq, Nat.add_one_ne_zero] at hQ ⊢; exact ih _ _ (by omega) hQ
    · simp only [h1, ↓forall_eq, bz_b, gR_sI, gR_sJ, gJ_sI, gI_sJ, gN_sI, gN_sJ, gI_sR, gJ_sR, gN_sR, gI_sI, gJ_sJ, gR_sR, gI_nW, gR_nW, gN_nW, gJ_nW, rM_at, rXs_at, rXd_at, ex_s, true_and, and_true, false_and, and_false, or_true, true_or, or_false, false_or, if_true, if_false, not_true_eq_false, not_false_eq_true, forall_const, true_implies, false_implies, implies_true, Nat.reduceLeDiff, Nat.reduceEqDiff, reduceCtorEq, i32_succ, i32_pred, Nat.le_refl, Nat.lt_add_one, Nat.reduceLT, ne_eq, Nat.add_one_ne_zero] at hQ ⊢; exact ih _ _ (by omega) hQ
set_option maxRecDepth 16384 in
theorem xX_cellOf {x : tw_T} {l k : Int32} {Q : Int32 → tw_T → Prop} (h5 : gR x 5 = rXs 2) (hQ : Q (cF (gI x 12 0) l k 30 0 0) x) : F_X5_cellOf x 0 l k Q := ⟨31, xX_cellOf_l h5 30 0 0 rfl hQ⟩
set_option maxRecDepth 16384 in
theorem eM_find_l {m : tw_T} {l k : Int32} {Q : Int32 → tw_T → Prop} (hM : gR m = rM) : ∀ (d c : Nat) (acc : Int32), c + d = 30 → Q (cF (gI m 123 0) l k d c acc) m →
    L_X10_find_21 0 l k Q (fun (τ13 : tw_T) (z14 : Int32) (z15 : Int32) => Q ((-1 : Int32)) τ13) (d + 1) m acc (i32 c) := by
  intro d
  induction d with
  | zero =>
    intro c acc hc hQ
    have e1 : i32 30 ≤ i32 c := (le_i32 (by decide) (by omega)).mpr (by omega)
    rw [L_X10_find_21]; simp only [lit30, e1, ↓forall_eq, bz_b, gR_sI, gR_sJ, gJ_sI, gI_sJ, gN_sI, gN_sJ, gI_sR, gJ_sR, gN_sR, gI_sI, gJ_sJ, gR_sR, gI_nW, gR_nW, gN_nW, gJ_nW, rM_at, rXs_at, rXd_at, ex_s, true_and, and_true, false_and, and_false, or_true, true_or, or_false, false_or, if_true, if_false, not_true_eq_false, not_false_eq_true, forall_const, true_implies, false_implies, implies_true, Nat.reduceLeDiff, Nat.reduceEqDiff, reduceCtorEq, i32_succ, i32_pred, Nat.le_refl, Nat.lt_add_one, Nat.reduceLT, ne_eq, Nat.add_one_ne_zero]; exact hQ
  | succ d ih =>
    intro c acc hc hQ
    have e1 : ¬ i32 30 ≤ i32 c := fun h => absurd ((le_i32 (by decide) (by omega)).mp h) (by omega)
    have e3 := vpin (show c < 30 by omega) (by decide)
    have e4 := i32_nat (show c < 2147483648 by omega)
    rw [cF] at hQ
    rw [L_X10_find_21]; simp only [lit30, e1, e3, e4, hM, J_X10_find_53, ↓forall_eq, bz_b, gR_sI, gR_sJ, gJ_sI, gI_sJ, gN_sI, gN_sJ, gI_sR, gJ_sR, gN_sR, gI_sI, gJ_sJ, gR_sR, gI_nW, gR_nW, gN_nW, gJ_nW, rM_at, rXs_at, rXd_at, ex_s, true_and, and_true, false_and, and_false, or_true, true_or, or_false, false_or, if_true, if_false, not_true_eq_false, not_false_eq_true, forall_const, true_implies, false_implies, implies_true, Nat.reduceLeDiff, Nat.reduceEqDiff, reduceCtorEq, i32_succ, i32_pred, Nat.le_refl, Nat.lt_add_one, Nat.reduceLT, ne_eq, Nat.add_one_ne_zero]
    by_cases h1 : gI m 123 0 c = l
    · by_cases h2 : acc = k
      · simp only [h1, h2, ↓forall_eq, bz_b, gR_sI, gR_sJ, gJ_sI, gI_sJ, gN_sI, gN_sJ, gI_sR, gJ_sR, gN_sR, gI_sI, gJ_sJ, gR_sR, gI_nW, gR_nW, gN_nW, gJ_nW, rM_at, rXs_at, rXd_at, ex_s, true_and, and_true, false_and, and_false, or_true, true_or, or_false, false_or, if_true, if_false, not_true_eq_false, not_false_eq_true, forall_const, true_implies, false_implies, implies_true, Nat.reduceLeDiff, Nat.reduceEqDiff, reduceCtorEq, i32_succ, i32_pred, Nat.le_refl, Nat.lt_add_one, Nat.reduceLT, ne_eq, Nat.add_one_ne_zero] at hQ ⊢; exact hQ
      · simp only [h1, h2, ↓forall_eq, bz_b, gR_sI, gR_sJ, gJ_sI, gI_sJ, gN_sI, gN_sJ, gI_sR, gJ_sR, gN_sR, gI_sI, gJ_sJ, gR_sR, gI_nW, gR_nW, gN_nW, gJ_nW, rM_at, rXs_at, rXd_at, ex_s, true_and, and_true, false_and, and_false, or_true, true_or, or_false, false_or, if_true, if_false, not_true_eq_false, not_false_eq_true, forall_const, true_implies, false_implies, implies_true, Nat.reduceLeDiff, Nat.reduceEqDiff, reduceCtorEq, i32_succ, i32_pred, Nat.le_refl, Nat.lt_add_one, Nat.reduceLT, ne_eq, Nat.add_one_ne_zero] at hQ ⊢; exact ih _ _ (by omega) hQ
    · simp only [h1, ↓forall_eq, bz_b, gR_sI, gR_sJ, gJ_sI, gI_sJ, gN_sI, gN_sJ, gI_sR, gJ_sR, gN_sR, gI_sI, gJ_sJ, gR_sR, gI_nW, gR_nW, gN_nW, gJ_nW, rM_at, rXs_at, rXd_at, ex_s, true_and, and_true, false_and, and_false, or_true, true_or, or_false, false_or, if_true, if_false, not_true_eq_false, not_false_eq_true, forall_const, true_implies, false_implies, implies_true, Nat.reduceLeDiff, Nat.reduceEqDiff, reduceCtorEq, i32_succ, i32_pred, Nat.le_refl, Nat.lt_add_one, Nat.reduceLT, ne_eq, Nat.add_one_ne_zero] at hQ ⊢; exact ih _ _ (by omega) hQ
set_option maxRecDepth 16384 in
theorem xX_bottlesOf_l {x : tw_T} {l : Int32} {Q : Int32 → tw_T → Prop} (h5 : gR x 5 = rXs 2) : ∀ (d c : Nat) (acc : Int32), c + d = 30 → Q (bF (gI x 12 0) (gI x 13 0) l d c acc) x →
    L_X5_bottlesOf_4 0 l Q (fun (τ10 : tw_T) (z11 : Int32) (z12 : Int32) => Q z11 τ10) (d + 1) x acc (i32 c) := by
  intro d
  induction d with
  | zero =>
    intro c acc hc hQ
    have e1 : i32 30 ≤ i32 c := (le_i32 (by decide) (by omega)).mpr (by omega)
    rw [L_X5_bottlesOf_4]; simp only [lit30, e1, ↓forall_eq, bz_b, gR_sI, gR_sJ, gJ_sI, gI_sJ, gN_sI, gN_sJ, gI_sR, gJ_sR, gN_sR, gI_sI, gJ_sJ, gR_sR, gI_nW, gR_nW, gN_nW, gJ_nW, rM_at, rXs_at, rXd_at, ex_s, true_and, and_true, false_and, and_false, or_true, true_or, or_false, false_or, if_true, if_false, not_true_eq_false, not_false_eq_true, forall_const, true_implies, false_implies, implies_true, Nat.reduceLeDiff, Nat.reduceEqDiff, reduceCtorEq, i32_succ, i32_pred, Nat.le_refl, Nat.lt_add_one, Nat.reduceLT, ne_eq, Nat.add_one_ne_zero]; exact hQ
  | succ d ih =>
    intro c acc hc hQ
    have e1 : ¬ i32 30 ≤ i32 c := fun h => absurd ((le_i32 (by decide) (by omega)).mp h) (by omega)
    have e3 := vpin (show c < 30 by omega) (by decide)
    have e4 := i32_nat (show c < 2147483648 by omega)
    rw [bF] at hQ
    rw [L_X5_bottlesOf_4]; simp only [lit30, e1, e3, e4, h5, J_X5_bottlesOf_29, ↓forall_eq, bz_b, gR_sI, gR_sJ, gJ_sI, gI_sJ, gN_sI, gN_sJ, gI_sR, gJ_sR, gN_sR, gI_sI, gJ_sJ, gR_sR, gI_nW, gR_nW, gN_nW, gJ_nW, rM_at, rXs_at, rXd_at, ex_s, true_and, and_true, false_and, and_false, or_true, true_or, or_false, false_or, if_true, if_false, not_true_eq_false, not_false_eq_true, forall_const, true_implies, false_implies, implies_true, Nat.reduceLeDiff, Nat.reduceEqDiff, reduceCtorEq, i32_succ, i32_pred, Nat.le_refl, Nat.lt_add_one, Nat.reduceLT, ne_eq, Nat.add_one_ne_zero]
    by_cases h1 : gI x 12 0 c = l
    · simp only [h1, ↓forall_eq, bz_b, gR_sI, gR_sJ, gJ_sI, gI_sJ, gN_sI, gN_sJ, gI_sR, gJ_sR, gN_sR, gI_sI, gJ_sJ, gR_sR, gI_nW, gR_nW, gN_nW, gJ_nW, rM_at, rXs_at, rXd_at, ex_s, true_and, and_true, false_and, and_false, or_true, true_or, or_false, false_or, if_true, if_false, not_true_eq_false, not_false_eq_true, forall_const, true_implies, false_implies, implies_true, Nat.reduceLeDiff, Nat.reduceEqDiff, reduceCtorEq, i32_succ, i32_pred, Nat.le_refl, Nat.lt_add_one, Nat.reduceLT, ne_eq, Nat.add_one_ne_zero] at hQ ⊢; exact ih _ _ (by omega) hQ
    · simp only [h1, ↓forall_eq, bz_b, gR_sI, gR_sJ, gJ_sI, gI_sJ, gN_sI, gN_sJ, gI_sR, gJ_sR, gN_sR, gI_sI, gJ_sJ, gR_sR, gI_nW, gR_nW, gN_nW, gJ_nW, rM_at, rXs_at, rXd_at, ex_s, true_and, and_true, false_and, and_false, or_true, true_or, or_false, false_or, if_true, if_false, not_true_eq_false, not_false_eq_true, forall_const, true_implies, false_implies, implies_true, Nat.reduceLeDiff, Nat.reduceEqDiff, reduceCtorEq, i32_succ, i32_pred, Nat.le_refl, Nat.lt_add_one, Nat.reduceLT, ne_eq, Nat.add_one_ne_zero] at hQ ⊢; exact ih _ _ (by omega) hQ
set_option maxRecDepth 16384 in
theorem xX_bottlesOf {x : tw_T} {l : Int32} {Q : Int32 → tw_T → Prop} (h5 : gR x 5 = rXs 2) (hQ : Q (bF (gI x 12 0) (gI x 13 0) l 30 0 0) x) : F_X5_bottlesOf x 0 l Q := ⟨31, xX_bottlesOf_l h5 30 0 0 rfl hQ⟩
set_option maxRecDepth 16384 in
theorem eM_bottlesOf_l {m : tw_T} {l : Int32} {Q : Int32 → tw_T → Prop} (hM : gR m = rM) : ∀ (d c : Nat) (acc : Int32), c + d = 30 → Q (bF (gI m 123 0) (gI m 124 0) l d c acc) m →
    L_X10_bottlesOf_4 0 l Q (fun (τ10 : tw_T) (z11 : Int32) (z12 : Int32) => Q z11 τ10) (d + 1) m acc (i32 c) := by
  intro d
  induction d with
  | zero =>
    intro c acc hc hQ
    have e1 : i32 30 ≤ i32 c := (le_i32 (by decide) (by omega)).mpr (by omega)
    rw [L_X10_bottlesOf_4]; simp only [lit30, e1, ↓forall_eq, bz_b, gR_sI, gR_sJ, gJ_sI, gI_sJ, gN_sI, gN_sJ, gI_sR, gJ_sR, gN_sR, gI_sI, gJ_sJ, gR_sR, gI_nW, gR_nW, gN_nW, gJ_nW, rM_at, rXs_at, rXd_at, ex_s, true_and, and_true, false_and, and_false, or_true, true_or, or_false, false_or, if_true, if_false, not_true_eq_false, not_false_eq_true, forall_const, true_implies, false_implies, implies_true, Nat.reduceLeDiff, Nat.reduceEqDiff, reduceCtorEq, i32_succ, i32_pred, Nat.le_refl, Nat.lt_add_one, Nat.reduceLT, ne_eq, Nat.add_one_ne_zero]; exact hQ
  | succ d ih =>
    intro c acc hc hQ
    have e1 : ¬ i32 30 ≤ i32 c := fun h => absurd ((le_i32 (by decide) (by omega)).mp h) (by omega)
    have e3 := vpin (show c < 30 by omega) (by decide)
    have e4 := i32_nat (show c < 2147483648 by omega)
    rw [bF] at hQ
    rw [L_X10_bottlesOf_4]; simp only [lit30, e1, e3, e4, hM, J_X10_bottlesOf_31, Int32.add_zero, ↓forall_eq, bz_b, gR_sI, gR_sJ, gJ_sI, gI_sJ, gN_sI, gN_sJ, gI_sR, gJ_sR, gN_sR, gI_sI, gJ_sJ, gR_sR, gI_nW, gR_nW, gN_nW, gJ_nW, rM_at, rXs_at, rXd_at, ex_s, true_and, and_true, false_and, and_false, or_true, true_or, or_false, false_or, if_true, if_false, not_true_eq_false, not_false_eq_true, forall_const, true_implies, false_implies, implies_true, Nat.reduceLeDiff, Nat.reduceEqDiff, reduceCtorEq, i32_succ, i32_pred, Nat.le_refl, Nat.lt_add_one, Nat.reduceLT, ne_eq, Nat.add_one_ne_zero]
    by_cases h1 : gI m 123 0 c = l
    · simp only [h1, ↓forall_eq, bz_b, gR_sI, gR_sJ, gJ_sI, gI_sJ, gN_sI, gN_sJ, gI_sR, gJ_sR, gN_sR, gI_sI, gJ_sJ, gR_sR, gI_nW, gR_nW, gN_nW, gJ_nW, rM_at, rXs_at, rXd_at, ex_s, true_and, and_true, false_and, and_false, or_true, true_or, or_false, false_or, if_true, if_false, not_true_eq_false, not_false_eq_true, forall_const, true_implies, false_implies, implies_true, Nat.reduceLeDiff, Nat.reduceEqDiff, reduceCtorEq, i32_succ, i32_pred, Nat.le_refl, Nat.lt_add_one, Nat.reduceLT, ne_eq, Nat.add_one_ne_zero] at hQ ⊢; exact ih _ _ (by omega) hQ
    · simp only [h1, ↓forall_eq, bz_b, gR_sI, gR_sJ, gJ_sI, gI_sJ, gN_sI, gN_sJ, gI_sR, gJ_sR, gN_sR, gI_sI, gJ_sJ, gR_sR, gI_nW, gR_nW, gN_nW, gJ_nW, rM_at, rXs_at, rXd_at, ex_s, true_and, and_true, false_and, and_false, or_true, true_or, or_false, false_or, if_true, if_false, not_true_eq_false, not_false_eq_true, forall_const, true_implies, false_implies, implies_true, Nat.reduceLeDiff, Nat.reduceEqDiff, reduceCtorEq, i32_succ, i32_pred, Nat.le_refl, Nat.lt_add_one, Nat.reduceLT, ne_eq, Nat.add_one_ne_zero] at hQ ⊢; exact ih _ _ (by omega) hQ
set_option maxRecDepth 16384 in
theorem eM_bottlesOf {m : tw_T} {l : Int32} {Q : Int32 → tw_T → Prop} (hM : gR m = rM) (hQ : Q (bF (gI m 123 0) (gI m 124 0) l 30 0 0) m) : F_X10_bottlesOf m 0 l Q := ⟨31, eM_bottlesOf_l hM 30 0 0 rfl hQ⟩
set_option maxRecDepth 16384 in
theorem xX_all_l {x : tw_T} {Q : Int32 → tw_T → Prop} (h5 : gR x 5 = rXs 2) : ∀ (d c : Nat) (acc : Int32), c + d = 30 → Q (aF (gI x 13 0) d c acc) x →
    L_X5_allBottles_4 0 Q (fun (τ10 : tw_T) (z11 : Int32) (z12 : Int32) => Q z11 τ10) (d + 1) x acc (i32 c) := by
  intro d
  induction d with
  | zero =>
    intro c acc hc hQ
    have e1 : i32 30 ≤ i32 c := (le_i32 (by decide) (by omega)).mpr (by omega)
    rw [L_X5_allBottles_4]; simp only [lit30, e1, ↓forall_eq, bz_b, gR_sI, gR_sJ, gJ_sI, gI_sJ, gN_sI, gN_sJ, gI_sR, gJ_sR, gN_sR, gI_sI, gJ_sJ, gR_sR, gI_nW, gR_nW, gN_nW, gJ_nW, rM_at, rXs_at, rXd_at, ex_s, true_and, and_true, false_and, and_false, or_true, true_or, or_false, false_or, if_true, if_false, not_true_eq_false, not_false_eq_true, forall_const, true_implies, false_implies, implies_true, Nat.reduceLeDiff, Nat.reduceEqDiff, reduceCtorEq, i32_succ, i32_pred, Nat.le_refl, Nat.lt_add_one, Nat.reduceLT, ne_eq, Nat.add_one_ne_zero]; exact hQ
  | succ d ih =>
    intro c acc hc hQ
    have e1 : ¬ i32 30 ≤ i32 c := fun h => absurd ((le_i32 (by decide) (by omega)).mp h) (by omega)
    have e3 := vpin (show c < 30 by omega) (by decide)
    have e4 := i32_nat (show c < 2147483648 by omega)
    rw [aF] at hQ
    rw [L_X5_allBottles_4]; simp only [lit30, e1, e3, e4, h5, ↓forall_eq, bz_b, gR_sI, gR_sJ, gJ_sI, gI_sJ, gN_sI, gN_sJ, gI_sR, gJ_sR, gN_sR, gI_sI, gJ_sJ, gR_sR, gI_nW, gR_nW, gN_nW, gJ_nW, rM_at, rXs_at, rXd_at, ex_s, true_and, and_true, false_and, and_false, or_true, true_or, or_false, false_or, if_true, if_false, not_true_eq_false, not_false_eq_true, forall_const, true_implies, false_implies, implies_true, Nat.reduceLeDiff, Nat.reduceEqDiff, reduceCtorEq, i32_succ, i32_pred, Nat.le_refl, Nat.lt_add_one, Nat.reduceLT, ne_eq, Nat.add_one_ne_zero]
    exact ih _ _ (by omega) hQ
set_option maxRecDepth 16384 in
theorem eM_all_l {m : tw_T} {Q : Int32 → tw_T → Prop} (hM : gR m = rM) : ∀ (d c : Nat) (acc : Int32), c + d = 30 → Q (aF (gI m 124 0) d c acc) m →
    L_X10_count_94 0 Q (fun (τ8 : tw_T) (z9 : Int32) (z10 : Int32) => Q z9 τ8) (d + 1) m acc (i32 c) := by
  intro d
  induction d with
  | zero =>
    intro c acc hc hQ
    have e1 : i32 30 ≤ i32 c := (le_i32 (by decide) (by omega)).mpr (by omega)
    rw [L_X10_count_94]; simp only [lit30, e1, ↓forall_eq, bz_b, gR_sI, gR_sJ, gJ_sI, gI_sJ, gN_sI, gN_sJ, gI_sR, gJ_sR, gN_sR, gI_sI, gJ_sJ, gR_sR, gI_nW, gR_nW, gN_nW, gJ_nW, rM_at, rXs_at, rXd_at, ex_s, true_and, and_true, false_and, and_false, or_true, true_or, or_false, false_or, if_true, if_false, not_true_eq_false, not_false_eq_true, forall_const, true_implies, false_implies, implies_true, Nat.reduceLeDiff, Nat.reduceEqDiff, reduceCtorEq, i32_succ, i32_pred, Nat.le_refl, Nat.lt_add_one, Nat.reduceLT, ne_eq, Nat.add_one_ne_zero]; exact hQ
  | succ d ih =>
    intro c acc hc hQ
    have e1 : ¬ i32 30 ≤ i32 c := fun h => absurd ((le_i32 (by decide) (by omega)).mp h) (by omega)
    have e3 := vpin (show c < 30 by omega) (by decide)
    have e4 := i32_nat (show c < 2147483648 by omega)
    rw [aF] at hQ
    rw [L_X10_count_94]; simp only [lit30, e1, e3, e4, hM, ↓forall_eq, bz_b, gR_sI, gR_sJ, gJ_sI, gI_sJ, gN_sI, gN_sJ, gI_sR, gJ_sR, gN_sR, gI_sI, gJ_sJ, gR_sR, gI_nW, gR_nW, gN_nW, gJ_nW, rM_at, rXs_at, rXd_at, ex_s, true_and, and_true, false_and, and_false, or_true, true_or, or_false, false_or, if_true, if_false, not_true_eq_false, not_false_eq_true, forall_const, true_implies, false_implies, implies_true, Nat.reduceLeDiff, Nat.reduceEqDiff, reduceCtorEq, i32_succ, i32_pred, Nat.le_refl, Nat.lt_add_one, Nat.reduceLT, ne_eq, Nat.add_one_ne_zero]
    exact ih _ _ (by omega) hQ
