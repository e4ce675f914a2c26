set_option maxRecDepth 16384 in
theorem i32_shr {x : Int32} {d : Nat} (hd : d < 31) : (x >>> (i32 d &&& 31)).toInt = x.toInt / 2 ^ d := by
  have e : ((i32 d &&& 31).toBitVec.smod 32).toNat = d := by
    have : ∀ k : Nat, k < 31 → ((i32 k &&& 31).toBitVec.smod 32).toNat = k := by decide
    exact this d hd
  rw [← Int32.toInt_toBitVec, Int32.toBitVec_shiftRight, BitVec.toInt_sshiftRight', e, Int.shiftRight_eq_div_pow, Int32.toInt_toBitVec]
  norm_cast
set_option maxRecDepth 16384 in
theorem i32_div {x y : Int32} (h : 0 ≤ x.toInt) (hy : 0 < y.toInt) : (x / y).toInt = x.toInt / y.toInt := by
  have h2 := x.toInt_lt
  rw [Int32.toInt_div, Int.tdiv_eq_ediv_of_nonneg h]
  have a1 : 0 ≤ x.toInt / y.toInt := Int.ediv_nonneg h (by omega)
  have a2 : x.toInt / y.toInt ≤ x.toInt := Int.ediv_le_self _ h
  exact bm32 (by omega) (by omega)
set_option maxRecDepth 16384 in
theorem mM_halve {y : Int32} {Q : Int32 → tw_T → Prop} {EX : tw_T → Int32 → Int32 → Prop} {τ : tw_T} : ∀ (d : Nat) (v k : Int32), k.toInt + d = y.toInt → 0 ≤ v.toInt →
    (∀ v' k' : Int32, v'.toInt = v.toInt / 2 ^ d → EX τ v' k') → L_X10_worthOf_118 y Q EX (d + 1) τ v k := by
  intro d
  induction d with
  | zero =>
    intro v k hk hv hE
    have e1 : y ≤ k := by rw [Int32.le_iff_toInt_le]; omega
    simp only [L_X10_worthOf_118, e1, ↓forall_eq, bz_b, gR_sI, gR_sJ, gJ_sI, gI_sJ, gN_sI, gN_sJ, gI_sR, gJ_sR, gN_sR, gI_sI, gJ_sJ, gR_sR, gI_nW, gR_nW, gN_nW, gJ_nW, rM_at, rXs_at, rXd_at, ex_s, true_and, and_true, false_and, and_false, or_true, true_or, or_false, false_or, if_true, if_false, not_true_eq_false, not_false_eq_true, forall_const, true_implies, false_implies, implies_true, Nat.reduceLeDiff, Nat.reduceEqDiff, reduceCtorEq, i32_succ, i32_pred, Nat.le_refl, Nat.lt_add_one, Nat.reduceLT, ne_eq, Nat.add_one_ne_zero]
    exact hE v k (by simp)
  | succ d ih =>
    intro v k hk hv hE
    have b1 := i32_bnd y
    have e1 : ¬ y ≤ k := by rw [Int32.le_iff_toInt_le]; omega
    have e0 : (v ≤ 0) ↔ v.toInt ≤ 0 := by rw [Int32.le_iff_toInt_le]; rfl
    rw [L_X10_worthOf_118]
    simp only [e1, e0, ↓forall_eq, bz_b, gR_sI, gR_sJ, gJ_sI, gI_sJ, gN_sI, gN_sJ, gI_sR, gJ_sR, gN_sR, gI_sI, gJ_sJ, gR_sR, gI_nW, gR_nW, gN_nW, gJ_nW, rM_at, rXs_at, rXd_at, ex_s, true_and, and_true, false_and, and_false, or_true, true_or, or_false, false_or, if_true, if_false, not_true_eq_false, not_false_eq_true, forall_const, true_implies, false_implies, implies_true, Nat.reduceLeDiff, Nat.reduceEqDiff, reduceCtorEq, i32_succ, i32_pred, Nat.le_refl, Nat.lt_add_one, Nat.reduceLT, ne_eq, Nat.add_one_ne_zero]
    refine ⟨fun h => hE v k ?_, fun h => ?_⟩
    · have : v.toInt = 0 := by omega
      rw [this]; simp
    · have e2 : (v / 2).toInt = v.toInt / 2 := i32_div hv (by decide)
      have e3 : (k + 1).toInt = k.toInt + 1 := by
        have t1 : (1 : Int32).toInt = 1 := rfl
        have := i32_bnd k
        rw [i32_add] <;> rw [t1] <;> omega
      refine ih _ _ (by rw [e3]; omega) (by rw [e2]; omega) (fun v' k' hv' => hE v' k' ?_)
      rw [hv', e2, Int.ediv_ediv_of_nonneg (by decide), Int.pow_succ, Int.mul_comm]
set_option maxRecDepth 16384 in
/-- the reference's worth is the class's, in years that come about -/
theorem mM_worthOf {m : tw_T} {i q : Nat} {y : Int32} {Q : Int32 → tw_T → Prop} (hM : gR m = rM) (hi : i < 60) (hk : gI m 110 0 i = i32 q) (hq : q < 20)
    (h1 : 1 ≤ (gI m 112 0 i).toInt) (h2 : (gI m 112 0 i).toInt ≤ 10000) (h3 : 1900 ≤ (gI m 113 0 i).toInt) (h4 : (gI m 113 0 i).toInt ≤ (gI m 114 0 i).toInt) (h5 : 1900 ≤ y.toInt) (h6 : y.toInt ≤ 2300)
    (hQ : Q (wv (gI m 112 0 i) (gI m 113 0 i) (gI m 114 0 i) (gI m 105 0 q) y) m) : F_X10_worthOf m 0 (i32 i) y Q := by
  have e3 := vpin hi (by decide)
  have e4 := i32_nat (show i < 2147483648 by omega)
  have e5 := vpin hq (by decide)
  have e6 := i32_nat (show q < 2147483648 by omega)
  unfold F_X10_worthOf
  simp only [hM, e3, e4, ↓forall_eq, bz_b, gR_sI, gR_sJ, gJ_sI, gI_sJ, gN_sI, gN_sJ, gI_sR, gJ_sR, gN_sR, gI_sI, gJ_sJ, gR_sR, gI_nW, gR_nW, gN_nW, gJ_nW, rM_at, rXs_at, rXd_at, ex_s, true_and, and_true, false_and, and_false, or_true, true_or, or_false, false_or, if_true, if_false, not_true_eq_false, not_false_eq_true, forall_const, true_implies, false_implies, implies_true, Nat.reduceLeDiff, Nat.reduceEqDiff, reduceCtorEq, i32_succ, i32_pred, Nat.le_refl, Nat.lt_add_one, Nat.reduceLT, ne_eq, Nat.add_one_ne_zero]
  unfold wv at hQ
  by_cases a1 : gI m 113 0 i ≤ y
  rotate_left
  · simp only [a1, ↓forall_eq, bz_b, gR_sI, gR_sJ, gJ_sI, gI_sJ, gN_sI, gN_sJ, gI_sR, gJ_sR, gN_sR, gI_sI, gJ_sJ, gR_sR, gI_nW, gR_nW, gN_nW, gJ_nW, rM_at, rXs_at, rXd_at, ex_s, true_and, and_true, false_and, and_false, or_true, true_or, or_false, false_or, if_true, if_false, not_true_eq_false, not_false_eq_true, forall_const, true_implies, false_implies, implies_true, Nat.reduceLeDiff, Nat.reduceEqDiff, reduceCtorEq, i32_succ, i32_pred, Nat.le_refl, Nat.lt_add_one, Nat.reduceLT, ne_eq, Nat.add_one_ne_zero] at hQ ⊢; exact hQ
  simp only [a1, ↓forall_eq, bz_b, gR_sI, gR_sJ, gJ_sI, gI_sJ, gN_sI, gN_sJ, gI_sR, gJ_sR, gN_sR, gI_sI, gJ_sJ, gR_sR, gI_nW, gR_nW, gN_nW, gJ_nW, rM_at, rXs_at, rXd_at, ex_s, true_and, and_true, false_and, and_false, or_true, true_or, or_false, false_or, if_true, if_false, not_true_eq_false, not_false_eq_true, forall_const, true_implies, false_implies, implies_true, Nat.reduceLeDiff, Nat.reduceEqDiff, reduceCtorEq, i32_succ, i32_pred, Nat.le_refl, Nat.lt_add_one, Nat.reduceLT, ne_eq, Nat.add_one_ne_zero] at hQ ⊢
  have a1' := a1
  rw [Int32.le_iff_toInt_le] at a1'
  unfold J_X10_worthOf_37
  simp only [hM, e3, e4, e5, e6, hk, ↓forall_eq, bz_b, gR_sI, gR_sJ, gJ_sI, gI_sJ, gN_sI, gN_sJ, gI_sR, gJ_sR, gN_sR, gI_sI, gJ_sJ, gR_sR, gI_nW, gR_nW, gN_nW, gJ_nW, rM_at, rXs_at, rXd_at, ex_s, true_and, and_true, false_and, and_false, or_true, true_or, or_false, false_or, if_true, if_false, not_true_eq_false, not_false_eq_true, forall_const, true_implies, false_implies, implies_true, Nat.reduceLeDiff, Nat.reduceEqDiff, reduceCtorEq, i32_succ, i32_pred, Nat.le_refl, Nat.lt_add_one, Nat.reduceLT, ne_eq, Nat.add_one_ne_zero]
  by_cases a2 : y ≤ gI m 114 0 i
  · have a2' := a2
    rw [Int32.le_iff_toInt_le] at a2'
    have a3 : ¬ gI m 114 0 i < y := by rw [Int32.lt_iff_toInt_lt]; omega
    simp only [a2, a3, ↓forall_eq, bz_b, gR_sI, gR_sJ, gJ_sI, gI_sJ, gN_sI, gN_sJ, gI_sR, gJ_sR, gN_sR, gI_sI, gJ_sJ, gR_sR, gI_nW, gR_nW, gN_nW, gJ_nW, rM_at, rXs_at, rXd_at, ex_s, true_and, and_true, false_and, and_false, or_true, true_or, or_false, false_or, if_true, if_false, not_true_eq_false, not_false_eq_true, forall_const, true_implies, false_implies, implies_true, Nat.reduceLeDiff, Nat.reduceEqDiff, reduceCtorEq, i32_succ, i32_pred, Nat.le_refl, Nat.lt_add_one, Nat.reduceLT, ne_eq, Nat.add_one_ne_zero] at hQ ⊢
    refine ⟨fun a4 => ?_, fun _ => hQ⟩
    have : gI m 114 0 i = y := by apply i32_ext; rw [Int32.le_iff_toInt_le] at a4; omega
    rw [this]; exact hQ
  have a2' := a2
  rw [Int32.le_iff_toInt_le] at a2'
  have a3 : gI m 114 0 i < y := by rw [Int32.lt_iff_toInt_lt]; omega
  have a4 : gI m 114 0 i ≤ y := by rw [Int32.le_iff_toInt_le]; omega
  simp only [a2, a3, a4, ↓forall_eq, bz_b, gR_sI, gR_sJ, gJ_sI, gI_sJ, gN_sI, gN_sJ, gI_sR, gJ_sR, gN_sR, gI_sI, gJ_sJ, gR_sR, gI_nW, gR_nW, gN_nW, gJ_nW, rM_at, rXs_at, rXd_at, ex_s, true_and, and_true, false_and, and_false, or_true, true_or, or_false, false_or, if_true, if_false, not_true_eq_false, not_false_eq_true, forall_const, true_implies, false_implies, implies_true, Nat.reduceLeDiff, Nat.reduceEqDiff, reduceCtorEq, i32_succ, i32_pred, Nat.le_refl, Nat.lt_add_one, Nat.reduceLT, ne_eq, Nat.add_one_ne_zero] at hQ ⊢
  by_cases a5 : gI m 105 0 q = 2
  · simp only [a5, ↓forall_eq, bz_b, gR_sI, gR_sJ, gJ_sI, gI_sJ, gN_sI, gN_sJ, gI_sR, gJ_sR, gN_sR, gI_sI, gJ_sJ, gR_sR, gI_nW, gR_nW, gN_nW, gJ_nW, rM_at, rXs_at, rXd_at, ex_s, true_and, and_true, false_and, and_false, or_true, true_or, or_false, false_or, if_true, if_false, not_true_eq_false, not_false_eq_true, forall_const, true_implies, false_implies, implies_true, Nat.reduceLeDiff, Nat.reduceEqDiff, reduceCtorEq, i32_succ, i32_pred, Nat.le_refl, Nat.lt_add_one, Nat.reduceLT, ne_eq, Nat.add_one_ne_zero] at hQ ⊢; exact hQ
  simp only [a5, ↓forall_eq, bz_b, gR_sI, gR_sJ, gJ_sI, gI_sJ, gN_sI, gN_sJ, gI_sR, gJ_sR, gN_sR, gI_sI, gJ_sJ, gR_sR, gI_nW, gR_nW, gN_nW, gJ_nW, rM_at, rXs_at, rXd_at, ex_s, true_and, and_true, false_and, and_false, or_true, true_or, or_false, false_or, if_true, if_false, not_true_eq_false, not_false_eq_true, forall_const, true_implies, false_implies, implies_true, Nat.reduceLeDiff, Nat.reduceEqDiff, reduceCtorEq, i32_succ, i32_pred, Nat.le_refl, Nat.lt_add_one, Nat.reduceLT, ne_eq, Nat.add_one_ne_zero] at hQ ⊢
  by_cases a6 : gI m 105 0 q = 1
  · simp only [a6, ↓forall_eq, bz_b, gR_sI, gR_sJ, gJ_sI, gI_sJ, gN_sI, gN_sJ, gI_sR, gJ_sR, gN_sR, gI_sI, gJ_sJ, gR_sR, gI_nW, gR_nW, gN_nW, gJ_nW, rM_at, rXs_at, rXd_at, ex_s, true_and, and_true, false_and, and_false, or_true, true_or, or_false, false_or, if_true, if_false, not_true_eq_false, not_false_eq_true, forall_const, true_implies, false_implies, implies_true, Nat.reduceLeDiff, Nat.reduceEqDiff, reduceCtorEq, i32_succ, i32_pred, Nat.le_refl, Nat.lt_add_one, Nat.reduceLT, ne_eq, Nat.add_one_ne_zero] at hQ ⊢; exact hQ
  simp only [a6, ↓forall_eq, bz_b, gR_sI, gR_sJ, gJ_sI, gI_sJ, gN_sI, gN_sJ, gI_sR, gJ_sR, gN_sR, gI_sI, gJ_sJ, gR_sR, gI_nW, gR_nW, gN_nW, gJ_nW, rM_at, rXs_at, rXd_at, ex_s, true_and, and_true, false_and, and_false, or_true, true_or, or_false, false_or, if_true, if_false, not_true_eq_false, not_false_eq_true, forall_const, true_implies, false_implies, implies_true, Nat.reduceLeDiff, Nat.reduceEqDiff, reduceCtorEq, i32_succ, i32_pred, Nat.le_refl, Nat.lt_add_one, Nat.reduceLT, ne_eq, Nat.add_one_ne_zero] at hQ ⊢
  have c20 : (20 : Int32).toInt = 20 := rfl
  have g1 : (gI m 114 0 i - gI m 113 0 i).toInt = (gI m 114 0 i).toInt - (gI m 113 0 i).toInt := i32_sub (by omega) (by omega)
  have g2 : 0 ≤ (gI m 114 0 i).toInt - (gI m 113 0 i).toInt := by omega
  have g3 : (gI m 114 0 i).toInt - (gI m 113 0 i).toInt ≤ 400 := by omega
  have g4 : (gI m 112 0 i).toInt * ((gI m 114 0 i).toInt - (gI m 113 0 i).toInt) ≤ 10000 * 400 := Int.mul_le_mul h2 g3 g2 (by decide)
  have g5 : 0 ≤ (gI m 112 0 i).toInt * ((gI m 114 0 i).toInt - (gI m 113 0 i).toInt) := Int.mul_nonneg (by omega) g2
  have g6 : (gI m 112 0 i * (gI m 114 0 i - gI m 113 0 i)).toInt = (gI m 112 0 i).toInt * ((gI m 114 0 i).toInt - (gI m 113 0 i).toInt) := by
    rw [i32_mul] <;> rw [g1] <;> omega
  have g7 : (gI m 112 0 i * (gI m 114 0 i - gI m 113 0 i) / 20).toInt = (gI m 112 0 i).toInt * ((gI m 114 0 i).toInt - (gI m 113 0 i).toInt) / 20 := by
    rw [i32_div (by omega) (by decide), g6, c20]
  have g8 : (gI m 112 0 i + gI m 112 0 i * (gI m 114 0 i - gI m 113 0 i) / 20).toInt = (gI m 112 0 i).toInt + (gI m 112 0 i).toInt * ((gI m 114 0 i).toInt - (gI m 113 0 i).toInt) / 20 := by
    rw [i32_add] <;> rw [g7] <;> omega
  have g9 : (y - gI m 114 0 i).toInt = y.toInt - (gI m 114 0 i).toInt := i32_sub (by omega) (by omega)
  obtain ⟨d, hd1, hd2, hd3⟩ := i32_of (x := y - gI m 114 0 i) (by omega)
  refine ⟨d + 1, mM_halve d _ _ (by omega) (by rw [g8]; omega) (fun v' k' hv' => ?_)⟩
  have : v' = if y - gI m 114 0 i ≤ 30 then (gI m 112 0 i + gI m 112 0 i * (gI m 114 0 i - gI m 113 0 i) / 20) >>> ((y - gI m 114 0 i) &&& 31) else 0 := by
    apply i32_ext
    rw [hv']
    by_cases b1 : y - gI m 114 0 i ≤ 30
    · rw [if_pos b1, hd1, i32_shr]
      rw [Int32.le_iff_toInt_le] at b1
      have : (30 : Int32).toInt = 30 := rfl
      omega
    · rw [if_neg b1, g8]
      rw [Int32.le_iff_toInt_le] at b1
      have : (30 : Int32).toInt = 30 := rfl
      have hd4 : 31 ≤ d := by omega
      have hp : (2 : Int) ^ 31 ≤ 2 ^ d := by exact_mod_cast Nat.pow_le_pow_right (by decide) hd4
      have z : (0 : Int32).toInt = 0 := rfl
      rw [z]
      apply Int.ediv_eq_zero_of_lt
      · omega
      · have : (2 : Int) ^ 31 = 2147483648 := by decide
        omega
  rw [this]; exact hQ
