/-! ===== the tape read: blanks, digits, letters ===== -/
set_option maxRecDepth 16384 in
theorem sI_sI {τ : tw_T} {f k j : Nat} {u v : Int32} : sI (sI τ f k j u) f k j v = sI τ f k j v := by
  refine Prod.ext ?_ rfl
  funext f' k' j'
  show (if f' = f ∧ k' = k ∧ j' = j then v else if f' = f ∧ k' = k ∧ j' = j then u else gI τ f' k' j') = if f' = f ∧ k' = k ∧ j' = j then v else gI τ f' k' j'
  by_cases h : f' = f ∧ k' = k ∧ j' = j
  · rw [if_pos h, if_pos h]
  · rw [if_neg h, if_neg h, if_neg h]
set_option maxRecDepth 16384 in
def AX (x : tw_T) (a : Nat) : tw_T := sI x 6 0 2 (i32 a)
set_option maxRecDepth 16384 in
def AM (m : tw_T) (a : Nat) : tw_T := sI m 0 0 31 (i32 a)
set_option maxRecDepth 16384 in
theorem AX_2 {x : tw_T} {a : Nat} : gI (AX x a) 6 0 2 = i32 a := by unfold AX; rw [gI_sI, if_pos ⟨rfl, rfl, rfl⟩]
set_option maxRecDepth 16384 in
theorem AX_3 {x : tw_T} {a : Nat} : gI (AX x a) 6 0 3 = gI x 6 0 3 := by unfold AX; rw [gI_sI, if_neg (by decide)]
set_option maxRecDepth 16384 in
theorem AX_14 {x : tw_T} {a : Nat} : gI (AX x a) 14 = gI x 14 := hI_n (by decide)
set_option maxRecDepth 16384 in
theorem AX_R {x : tw_T} {a : Nat} : gR (AX x a) = gR x := rfl
set_option maxRecDepth 16384 in
theorem AX_s {x : tw_T} {a b : Nat} : sI (AX x a) 6 0 2 (i32 b) = AX x b := sI_sI
set_option maxRecDepth 16384 in
theorem AM_31 {m : tw_T} {a : Nat} : gI (AM m a) 0 0 31 = i32 a := by unfold AM; rw [gI_sI, if_pos ⟨rfl, rfl, rfl⟩]
set_option maxRecDepth 16384 in
theorem AM_o {m : tw_T} {a j : Nat} (h : j ≠ 31) : gI (AM m a) 0 0 j = gI m 0 0 j := by unfold AM; rw [gI_sI, if_neg (fun h9 => h h9.2.2)]
set_option maxRecDepth 16384 in
theorem AM_n {m : tw_T} {a f : Nat} (h : f ≠ 0) : gI (AM m a) f = gI m f := hI_n h
set_option maxRecDepth 16384 in
theorem AM_R {m : tw_T} {a : Nat} : gR (AM m a) = gR m := rfl
set_option maxRecDepth 16384 in
theorem AM_s {m : tw_T} {a b : Nat} : sI (AM m a) 0 0 31 (i32 b) = AM m b := sI_sI
set_option maxRecDepth 16384 in
/-- the first byte from a on that is no blank, of d -/
def skp (b : Nat → Int32) : Nat → Nat → Nat
  | 0, a => a
  | d + 1, a => if b a = 32 then skp b d (a + 1) else a
set_option maxRecDepth 16384 in
theorem skp_rng {b : Nat → Int32} : ∀ d a, a ≤ skp b d a ∧ skp b d a ≤ a + d := by
  intro d
  induction d with
  | zero => intro a; simp only [skp]; omega
  | succ d ih =>
    intro a; simp only [skp]
    have := ih (a + 1)
    split <;> omega
set_option maxRecDepth 16384 in
def chX (b : Nat → Int32) (s a : Nat) : Int32 := if a < s then b a else -1
set_option maxRecDepth 16384 in
def chM (b : Nat → Int32) (s a : Nat) : Int32 := if a < s then b a else 0
set_option maxRecDepth 16384 in
theorem xX_signHere_l {x : tw_T} {b : Nat → Int32} {s : Nat} {Q : Int32 → tw_T → Prop} {EX : tw_T → Prop} (h6 : gR x 6 = rXs 1) (h3 : gI x 6 0 3 = i32 s) (hb : gI x 14 0 = b) (hs : s ≤ 200) : ∀ d a, a + d = s → EX (AX x (skp b d a)) → L_X7_signHere_0 0 Q EX (d + 1) (AX x a) := by
  intro d
  induction d with
  | zero =>
    intro a ha hE
    have e1 : i32 s ≤ i32 a := (le_i32 (by omega) (by omega)).mpr (by omega)
    rw [L_X7_signHere_0]; simp only [AX_2, AX_3, h3, e1, ↓forall_eq, bz_b, gR_sI, gR_sJ, gJ_sI, gI_sJ, gN_sI, gN_sJ, gI_sR, gJ_sR, gN_sR, gI_sI, gJ_sJ, gR_sR, gI_nW, gR_nW, gN_nW, gJ_nW, rM_at, rXs_at, rXd_at, ex_s, true_and, and_true, false_and, and_false, or_true, true_or, or_false, false_or, if_true, if_false, not_true_eq_false, not_false_eq_true, forall_const, true_implies, false_implies, implies_true, Nat.reduceLeDiff, Nat.reduceEqDiff, reduceCtorEq, i32_succ, i32_pred, Nat.le_refl, Nat.lt_add_one, Nat.reduceLT, ne_eq, Nat.add_one_ne_zero]; exact hE
  | succ d ih =>
    intro a ha hE
    have e1 : ¬ i32 s ≤ i32 a := fun h => absurd ((le_i32 (by omega) (by omega)).mp h) (by omega)
    have e3 := vpin (show a < 200 by omega) (by decide)
    have e4 := i32_nat (show a < 2147483648 by omega)
    rw [skp] at hE
    rw [L_X7_signHere_0]; simp only [AX_2, AX_3, AX_R, AX_14, AX_s, h3, h6, hb, e1, e3, e4, ↓forall_eq, bz_b, gR_sI, gR_sJ, gJ_sI, gI_sJ, gN_sI, gN_sJ, gI_sR, gJ_sR, gN_sR, gI_sI, gJ_sJ, gR_sR, gI_nW, gR_nW, gN_nW, gJ_nW, rM_at, rXs_at, rXd_at, ex_s, true_and, and_true, false_and, and_false, or_true, true_or, or_false, false_or, if_true, if_false, not_true_eq_false, not_false_eq_true, forall_const, true_implies, false_implies, implies_true, Nat.reduceLeDiff, Nat.reduceEqDiff, reduceCtorEq, i32_succ, i32_pred, Nat.le_refl, Nat.lt_add_one, Nat.reduceLT, ne_eq, Nat.add_one_ne_zero]
    refine ⟨fun h9 => ?_, fun h9 => ih (a + 1) (by omega) ?_⟩
    · rw [if_neg h9] at hE; exact hE
    · rw [if_pos h9] at hE; exact hE
set_option maxRecDepth 16384 in
theorem xX_signHere {x : tw_T} {b : Nat → Int32} {s a : Nat} {Q : Int32 → tw_T → Prop} (h6 : gR x 6 = rXs 1) (h3 : gI x 6 0 3 = i32 s) (hb : gI x 14 0 = b) (hs : s ≤ 200) (ha : a ≤ s)
    (hQ : Q (chX b s (skp b (s - a) a)) (AX x (skp b (s - a) a))) : F_X7_signHere (AX x a) 0 Q := by
  have hJ : J_X7_signHere_38 (AX x (skp b (s - a) a)) 0 Q := by
    have hr := skp_rng (b := b) (s - a) a
    generalize skp b (s - a) a = c at hQ hr ⊢
    have e1 : (i32 s ≤ i32 c) ↔ s ≤ c := le_i32 (by omega) (by omega)
    have e4 := i32_nat (show c < 2147483648 by omega)
    unfold J_X7_signHere_38
    simp only [AX_2, AX_3, AX_R, AX_14, h3, h6, hb, e1, e4, ↓forall_eq, bz_b, gR_sI, gR_sJ, gJ_sI, gI_sJ, gN_sI, gN_sJ, gI_sR, gJ_sR, gN_sR, gI_sI, gJ_sJ, gR_sR, gI_nW, gR_nW, gN_nW, gJ_nW, rM_at, rXs_at, rXd_at, ex_s, true_and, and_true, false_and, and_false, or_true, true_or, or_false, false_or, if_true, if_false, not_true_eq_false, not_false_eq_true, forall_const, true_implies, false_implies, implies_true, Nat.reduceLeDiff, Nat.reduceEqDiff, reduceCtorEq, i32_succ, i32_pred, Nat.le_refl, Nat.lt_add_one, Nat.reduceLT, ne_eq, Nat.add_one_ne_zero]
    unfold chX at hQ
    refine ⟨fun h9 => ?_, fun h9 => ⟨vpin (show c < 200 by omega) (by decide), ?_⟩⟩
    · rw [if_neg (by omega)] at hQ; exact hQ
    · rw [if_pos (by omega)] at hQ; exact hQ
  unfold F_X7_signHere
  by_cases e : a = s
  · have e1 : i32 s ≤ i32 a := (le_i32 (by omega) (by omega)).mpr (by omega)
    have e0 : skp b (s - a) a = a := by rw [show s - a = 0 by omega]; rfl
    rw [e0] at hJ
    simp only [AX_2, AX_3, h3, e1, ↓forall_eq, bz_b, gR_sI, gR_sJ, gJ_sI, gI_sJ, gN_sI, gN_sJ, gI_sR, gJ_sR, gN_sR, gI_sI, gJ_sJ, gR_sR, gI_nW, gR_nW, gN_nW, gJ_nW, rM_at, rXs_at, rXd_at, ex_s, true_and, and_true, false_and, and_false, or_true, true_or, or_false, false_or, if_true, if_false, not_true_eq_false, not_false_eq_true, forall_const, true_implies, false_implies, implies_true, Nat.reduceLeDiff, Nat.reduceEqDiff, reduceCtorEq, i32_succ, i32_pred, Nat.le_refl, Nat.lt_add_one, Nat.reduceLT, ne_eq, Nat.add_one_ne_zero]; exact hJ
  · have e1 : ¬ i32 s ≤ i32 a := fun h => absurd ((le_i32 (by omega) (by omega)).mp h) (by omega)
    have e3 := vpin (show a < 200 by omega) (by decide)
    have e4 := i32_nat (show a < 2147483648 by omega)
    have e0 : skp b (s - a) a = if b a = 32 then skp b (s - (a + 1)) (a + 1) else a := by rw [show s - a = (s - (a + 1)) + 1 by omega]; rfl
    simp only [AX_2, AX_3, AX_R, AX_14, AX_s, h3, h6, hb, e1, e3, e4, ↓forall_eq, bz_b, gR_sI, gR_sJ, gJ_sI, gI_sJ, gN_sI, gN_sJ, gI_sR, gJ_sR, gN_sR, gI_sI, gJ_sJ, gR_sR, gI_nW, gR_nW, gN_nW, gJ_nW, rM_at, rXs_at, rXd_at, ex_s, true_and, and_true, false_and, and_false, or_true, true_or, or_false, false_or, if_true, if_false, not_true_eq_false, not_false_eq_true, forall_const, true_implies, false_implies, implies_true, Nat.reduceLeDiff, Nat.reduceEqDiff, reduceCtorEq, i32_succ, i32_pred, Nat.le_refl, Nat.lt_add_one, Nat.reduceLT, ne_eq, Nat.add_one_ne_zero]
    refine ⟨fun h9 => ?_, fun h9 => ?_⟩
    · rw [e0, if_neg h9] at hJ; exact hJ
    · rw [e0, if_pos h9] at hJ
      exact ⟨s - (a + 1) + 1, xX_signHere_l h6 h3 hb hs (s - (a + 1)) (a + 1) (by omega) hJ⟩
set_option maxRecDepth 16384 in
theorem eM_here_l {m : tw_T} {b : Nat → Int32} {s : Nat} {Q : Int32 → tw_T → Prop} {EX : tw_T → Prop} (hM : gR m = rM) (h3 : gI m 0 0 30 = i32 s) (hb : gI m 133 0 = b) (hs : s ≤ 200) : ∀ d a, a + d = s → EX (AM m (skp b d a)) → L_X10_here_0 0 Q EX (d + 1) (AM m a) := by
  have h30 : ∀ a, gI (AM m a) 0 0 30 = i32 s := fun a => by rw [AM_o (by decide)]; exact h3
  have h133 : ∀ a, gI (AM m a) 133 = gI m 133 := fun a => AM_n (by decide)
  intro d
  induction d with
  | zero =>
    intro a ha hE
    have e1 : i32 s ≤ i32 a := (le_i32 (by omega) (by omega)).mpr (by omega)
    rw [L_X10_here_0]; simp only [AM_31, h30, e1, ↓forall_eq, bz_b, gR_sI, gR_sJ, gJ_sI, gI_sJ, gN_sI, gN_sJ, gI_sR, gJ_sR, gN_sR, gI_sI, gJ_sJ, gR_sR, gI_nW, gR_nW, gN_nW, gJ_nW, rM_at, rXs_at, rXd_at, ex_s, true_and, and_true, false_and, and_false, or_true, true_or, or_false, false_or, if_true, if_false, not_true_eq_false, not_false_eq_true, forall_const, true_implies, false_implies, implies_true, Nat.reduceLeDiff, Nat.reduceEqDiff, reduceCtorEq, i32_succ, i32_pred, Nat.le_refl, Nat.lt_add_one, Nat.reduceLT, ne_eq, Nat.add_one_ne_zero]; exact hE
  | succ d ih =>
    intro a ha hE
    have e1 : ¬ i32 s ≤ i32 a := fun h => absurd ((le_i32 (by omega) (by omega)).mp h) (by omega)
    have e3 := vpin (show a < 200 by omega) (by decide)
    have e4 := i32_nat (show a < 2147483648 by omega)
    rw [skp] at hE
    rw [L_X10_here_0]; simp only [AM_31, h30, AM_R, h133, AM_s, hM, hb, e1, e3, e4, ↓forall_eq, bz_b, gR_sI, gR_sJ, gJ_sI, gI_sJ, gN_sI, gN_sJ, gI_sR, gJ_sR, gN_sR, gI_sI, gJ_sJ, gR_sR, gI_nW, gR_nW, gN_nW, gJ_nW, rM_at, rXs_at, rXd_at, ex_s, true_and, and_true, false_and, and_false, or_true, true_or, or_false, false_or, if_true, if_false, not_true_eq_false, not_false_eq_true, forall_const, true_implies, false_implies, implies_true, Nat.reduceLeDiff, Nat.reduceEqDiff, reduceCtorEq, i32_succ, i32_pred, Nat.le_refl, Nat.lt_add_one, Nat.reduceLT, ne_eq, Nat.add_one_ne_zero]
    refine ⟨fun h9 => ?_, fun h9 => ih (a + 1) (by omega) ?_⟩
    · rw [if_neg h9] at hE; exact hE
    · rw [if_pos h9] at hE; exact hE
set_option maxRecDepth 16384 in
theorem eM_here {m : tw_T} {b : Nat → Int32} {s a : Nat} {Q : Int32 → tw_T → Prop} (hM : gR m = rM) (h3 : gI m 0 0 30 = i32 s) (hb : gI m 133 0 = b) (hs : s ≤ 200) (ha : a ≤ s)
    (hQ : Q (chM b s (skp b (s - a) a)) (AM m (skp b (s - a) a))) : F_X10_here (AM m a) 0 Q := by
  have h30 : ∀ a, gI (AM m a) 0 0 30 = i32 s := fun a => by rw [AM_o (by decide)]; exact h3
  have h133 : ∀ a, gI (AM m a) 133 = gI m 133 := fun a => AM_n (by decide)
  have hJ : J_X10_here_38 (AM m (skp b (s - a) a)) 0 Q := by
    have hr := skp_rng (b := b) (s - a) a
    generalize skp b (s - a) a = c at hQ hr ⊢
    have e1 : (i32 s ≤ i32 c) ↔ s ≤ c := le_i32 (by omega) (by omega)
    have e4 := i32_nat (show c < 2147483648 by omega)
    unfold J_X10_here_38
    simp only [AM_31, h30, AM_R, h133, hM, hb, e1, e4, ↓forall_eq, bz_b, gR_sI, gR_sJ, gJ_sI, gI_sJ, gN_sI, gN_sJ, gI_sR, gJ_sR, gN_sR, gI_sI, gJ_sJ, gR_sR, gI_nW, gR_nW, gN_nW, gJ_nW, rM_at, rXs_at, rXd_at, ex_s, true_and, and_true, false_and, and_false, or_true, true_or, or_false, false_or, if_true, if_false, not_true_eq_false, not_false_eq_true, forall_const, true_implies, false_implies, implies_true, Nat.reduceLeDiff, Nat.reduceEqDiff, reduceCtorEq, i32_succ, i32_pred, Nat.le_refl, Nat.lt_add_one, Nat.reduceLT, ne_eq, Nat.add_one_ne_zero]
    unfold chM at hQ
    refine ⟨fun h9 => ?_, fun h9 => ⟨vpin (show c < 200 by omega) (by decide), ?_⟩⟩
    · rw [if_neg (by omega)] at hQ; exact hQ
    · rw [if_pos (by omega)] at hQ; exact hQ
  unfold F_X10_here
  by_cases e : a = s
  · have e1 : i32 s ≤ i32 a := (le_i32 (by omega) (by omega)).mpr (by omega)
    have e0 : skp b (s - a) a = a := by rw [show s - a = 0 by omega]; rfl
    rw [e0] at hJ
    simp only [AM_31, h30, e1, ↓forall_eq, bz_b, gR_sI, gR_sJ, gJ_sI, gI_sJ, gN_sI, gN_sJ, gI_sR, gJ_sR, gN_sR, gI_sI, gJ_sJ, gR_sR, gI_nW, gR_nW, gN_nW, gJ_nW, rM_at, rXs_at, rXd_at, ex_s, true_and, and_true, false_and, and_false, or_true, true_or, or_false, false_or, if_true, if_false, not_true_eq_false, not_false_eq_true, forall_const, true_implies, false_implies, implies_true, Nat.reduceLeDiff, Nat.reduceEqDiff, reduceCtorEq, i32_succ, i32_pred, Nat.le_refl, Nat.lt_add_one, Nat.reduceLT, ne_eq, Nat.add_one_ne_zero]; exact hJ
  · have e1 : ¬ i32 s ≤ i32 a := fun h => absurd ((le_i32 (by omega) (by omega)).mp h) (by omega)
    have e3 := vpin (show a < 200 by omega) (by decide)
    have e4 := i32_nat (show a < 2147483648 by omega)
    have e0 : skp b (s - a) a = if b a = 32 then skp b (s - (a + 1)) (a + 1) else a := by rw [show s - a = (s - (a + 1)) + 1 by omega]; rfl
    simp only [AM_31, h30, AM_R, h133, AM_s, hM, hb, e1, e3, e4, ↓forall_eq, bz_b, gR_sI, gR_sJ, gJ_sI, gI_sJ, gN_sI, gN_sJ, gI_sR, gJ_sR, gN_sR, gI_sI, gJ_sJ, gR_sR, gI_nW, gR_nW, gN_nW, gJ_nW, rM_at, rXs_at, rXd_at, ex_s, true_and, and_true, false_and, and_false, or_true, true_or, or_false, false_or, if_true, if_false, not_true_eq_false, not_false_eq_true, forall_const, true_implies, false_implies, implies_true, Nat.reduceLeDiff, Nat.reduceEqDiff, reduceCtorEq, i32_succ, i32_pred, Nat.le_refl, Nat.lt_add_one, Nat.reduceLT, ne_eq, Nat.add_one_ne_zero]
    refine ⟨fun h9 => ?_, fun h9 => ?_⟩
    · rw [e0, if_neg h9] at hJ; exact hJ
    · rw [e0, if_pos h9] at hJ
      exact ⟨s - (a + 1) + 1, eM_here_l hM h3 hb hs (s - (a + 1)) (a + 1) (by omega) hJ⟩
set_option maxRecDepth 16384 in
/-- digits -/
def isD (v : Int32) : Bool := !decide (v < 48) && !decide (57 < v)
set_option maxRecDepth 16384 in
def dn (b : Nat → Int32) (s : Nat) : Nat → Nat → Nat
  | 0, _ => 0
  | f + 1, a => if a < s ∧ isD (b a) = true then dn b s f (a + 1) + 1 else 0
set_option maxRecDepth 16384 in
def dv (b : Nat → Int32) (s : Nat) : Nat → Nat → Int32 → Int32
  | 0, _, v => v
  | f + 1, a, v => if a < s ∧ isD (b a) = true then dv b s f (a + 1) (v * 10 + b a - 48) else v
set_option maxRecDepth 16384 in
theorem dn_rng {b : Nat → Int32} {s : Nat} : ∀ f a, a ≤ s → dn b s f a ≤ f ∧ a + dn b s f a ≤ s := by
  intro f
  induction f with
  | zero => intro a ha; simp only [dn]; omega
  | succ f ih =>
    intro a ha; simp only [dn]
    by_cases h : a < s ∧ isD (b a) = true
    · rw [if_pos h]; have := ih (a + 1) (by omega); omega
    · rw [if_neg h]; omega
set_option maxRecDepth 16384 in
def pw : Nat → Int
  | 0 => 100000
  | 1 => 10000
  | 2 => 1000
  | 3 => 100
  | 4 => 10
  | _ => 1
set_option maxRecDepth 16384 in
theorem isD_iff {v : Int32} : isD v = true ↔ 48 ≤ v.toInt ∧ v.toInt ≤ 57 := by
  unfold isD
  have z48 : (48 : Int32).toInt = 48 := rfl
  have z57 : (57 : Int32).toInt = 57 := rfl
  simp only [Bool.and_eq_true, Bool.not_eq_true', decide_eq_false_iff_not, Int32.lt_iff_toInt_lt, z48, z57]
  omega
set_option maxRecDepth 16384 in
theorem dv_rng {b : Nat → Int32} {s : Nat} : ∀ f a v, f ≤ 5 → 0 ≤ v.toInt → v.toInt < pw f → 0 ≤ (dv b s f a v).toInt ∧ (dv b s f a v).toInt ≤ 99999 := by
  intro f
  induction f with
  | zero => intro a v _ h1 h2; simp only [dv, pw] at h2 ⊢; omega
  | succ f ih =>
    intro a v hf h1 h2
    have hp : pw f = 10 * pw (f + 1) := by
      have : f = 0 ∨ f = 1 ∨ f = 2 ∨ f = 3 ∨ f = 4 := by omega
      rcases this with rfl | rfl | rfl | rfl | rfl <;> rfl
    have hp0 : pw f ≤ 100000 := by
      have : f = 0 ∨ f = 1 ∨ f = 2 ∨ f = 3 ∨ f = 4 := by omega
      rcases this with rfl | rfl | rfl | rfl | rfl <;> decide
    simp only [dv]
    by_cases h : a < s ∧ isD (b a) = true
    · rw [if_pos h]
      have hd := isD_iff.mp h.2
      have z10 : (10 : Int32).toInt = 10 := rfl
      have z48 : (48 : Int32).toInt = 48 := rfl
      have m1 : (v * 10).toInt = v.toInt * 10 := by rw [i32_mul] <;> rw [z10] <;> omega
      have m2 : (v * 10 + b a).toInt = v.toInt * 10 + (b a).toInt := by rw [i32_add] <;> rw [m1] <;> omega
      have m3 : (v * 10 + b a - 48).toInt = v.toInt * 10 + (b a).toInt - 48 := by rw [i32_sub] <;> rw [m2, z48] <;> omega
      exact ih (a + 1) _ (by omega) (by omega) (by omega)
    · rw [if_neg h]; omega
set_option maxRecDepth 16384 in
theorem dv_0 {b : Nat → Int32} {s : Nat} {f a : Nat} {v : Int32} (h : dn b s f a = 0) : dv b s f a v = v := by
  cases f with
  | zero => rfl
  | succ f =>
    simp only [dn] at h
    simp only [dv]
    by_cases e : a < s ∧ isD (b a) = true
    · rw [if_pos e] at h; omega
    · rw [if_neg e]
set_option maxRecDepth 16384 in
theorem xX_num_l {x : tw_T} {b : Nat → Int32} {s : Nat} {Q : Int32 → tw_T → Prop} {EX : tw_T → Int32 → Int32 → Prop} (h6 : gR x 6 = rXs 1) (h3 : gI x 6 0 3 = i32 s) (hb : gI x 14 0 = b) (hs : s ≤ 200) : ∀ f k a v, k + f = 5 → a ≤ s → EX (AX x (a + dn b s f a)) (dv b s f a v) (i32 (k + dn b s f a)) → L_X7_readNumber_9 0 Q EX (f + 1) (AX x a) v (i32 k) := by
  intro f
  induction f with
  | zero =>
    intro k a v hk ha hE
    have e1 : (5 : Int32) ≤ i32 k := (le_i32 (k := 5) (by decide) (by omega)).mpr (by omega)
    rw [L_X7_readNumber_9]; simp only [e1, ↓forall_eq, bz_b, gR_sI, gR_sJ, gJ_sI, gI_sJ, gN_sI, gN_sJ, gI_sR, gJ_sR, gN_sR, gI_sI, gJ_sJ, gR_sR, gI_nW, gR_nW, gN_nW, gJ_nW, rM_at, rXs_at, rXd_at, ex_s, true_and, and_true, false_and, and_false, or_true, true_or, or_false, false_or, if_true, if_false, not_true_eq_false, not_false_eq_true, forall_const, true_implies, false_implies, implies_true, Nat.reduceLeDiff, Nat.reduceEqDiff, reduceCtorEq, i32_succ, i32_pred, Nat.le_refl, Nat.lt_add_one, Nat.reduceLT, ne_eq, Nat.add_one_ne_zero]; exact hE
  | succ f ih =>
    intro k a v hk ha hE
    have e1 : ¬ (5 : Int32) ≤ i32 k := fun h => absurd ((le_i32 (k := 5) (by decide) (by omega)).mp h) (by omega)
    have e2 : (i32 s ≤ i32 a) ↔ s ≤ a := le_i32 (by omega) (by omega)
    have e4 := i32_nat (show a < 2147483648 by omega)
    simp only [dn, dv] at hE
    rw [L_X7_readNumber_9]; simp only [e1, e2, AX_2, AX_3, AX_R, AX_14, AX_s, h3, h6, hb, e4, ↓forall_eq, bz_b, gR_sI, gR_sJ, gJ_sI, gI_sJ, gN_sI, gN_sJ, gI_sR, gJ_sR, gN_sR, gI_sI, gJ_sJ, gR_sR, gI_nW, gR_nW, gN_nW, gJ_nW, rM_at, rXs_at, rXd_at, ex_s, true_and, and_true, false_and, and_false, or_true, true_or, or_false, false_or, if_true, if_false, not_true_eq_false, not_false_eq_true, forall_const, true_implies, false_implies, implies_true, Nat.reduceLeDiff, Nat.reduceEqDiff, reduceCtorEq, i32_succ, i32_pred, Nat.le_refl, Nat.lt_add_one, Nat.reduceLT, ne_eq, Nat.add_one_ne_zero]
    refine ⟨fun h9 => ?_, fun h9 => ⟨vpin (show a < 200 by omega) (by decide), fun h8 => ?_, fun h8 => ⟨vpin (show a < 200 by omega) (by decide), fun h7 => ?_, fun h7 => ⟨vpin (show a < 200 by omega) (by decide), ih (k + 1) (a + 1) _ (by omega) (by omega) ?_⟩⟩⟩⟩
    · rw [if_neg (by omega), if_neg (by omega)] at hE; exact hE
    · have : ¬ (a < s ∧ isD (b a) = true) := fun h => by have := h.2; unfold isD at this; simp only [h8, decide_true, Bool.not_true, Bool.false_and, Bool.false_eq_true] at this
      rw [if_neg this, if_neg this] at hE; exact hE
    · have : ¬ (a < s ∧ isD (b a) = true) := fun h => by have := h.2; unfold isD at this; simp only [h7, decide_true, Bool.not_true, Bool.and_false, Bool.false_eq_true] at this
      rw [if_neg this, if_neg this] at hE; exact hE
    · have : a < s ∧ isD (b a) = true := ⟨by omega, by unfold isD; simp only [h7, h8, decide_false, Bool.not_false, Bool.and_self]⟩
      rw [if_pos this, if_pos this] at hE
      rw [show a + 1 + dn b s f (a + 1) = a + (dn b s f (a + 1) + 1) by omega, show k + 1 + dn b s f (a + 1) = k + (dn b s f (a + 1) + 1) by omega]
      exact hE
set_option maxRecDepth 16384 in
theorem xX_number {x : tw_T} {b : Nat → Int32} {s a : Nat} {Q : Int32 → tw_T → Prop} (h6 : gR x 6 = rXs 1) (h3 : gI x 6 0 3 = i32 s) (hb : gI x 14 0 = b) (hs : s ≤ 200) (ha : a ≤ s)
    (hQ : Q (if dn b s 5 (skp b (s - a) a) = 0 then -1 else dv b s 5 (skp b (s - a) a) 0) (AX x (skp b (s - a) a + dn b s 5 (skp b (s - a) a)))) : F_X7_readNumber (AX x a) 0 Q := by
  unfold F_X7_readNumber
  refine xX_signHere h6 h3 hb hs ha ?_
  have hr := skp_rng (b := b) (s - a) a
  generalize skp b (s - a) a = c at hQ hr ⊢
  have hn := dn_rng (b := b) (s := s) 5 c (by omega)
  refine ⟨6, xX_num_l h6 h3 hb hs 5 0 c 0 rfl (by omega) ?_⟩
  unfold J_X7_readNumber_87
  have e0 : (i32 (0 + dn b s 5 c) = 0) ↔ dn b s 5 c = 0 := by rw [Nat.zero_add]; exact i32_eq (b := 0) (by omega) (by decide)
  rw [e0]
  refine ⟨fun h9 => ?_, fun h9 => ?_⟩
  · rw [if_neg h9] at hQ; exact hQ
  · rw [if_pos h9] at hQ; exact hQ
set_option maxRecDepth 16384 in
/-- a sixth digit, or none at all -/
def nbd (b : Nat → Int32) (s f c : Nat) : Bool := decide (dn b s f c = f ∧ c + f < s ∧ isD (b (c + f)) = true)
set_option maxRecDepth 16384 in
def DM (m : tw_T) (b : Nat → Int32) (s f a : Nat) : tw_T := if nbd b s f a = true then sI (AM m (a + dn b s f a)) 0 0 32 (i32 (a + dn b s f a)) else AM m (a + dn b s f a)
set_option maxRecDepth 16384 in
theorem eM_fine1 {τ : tw_T} {Q : Int32 → tw_T → Prop} (h : gI τ 0 0 32 = -1) : F_X10_fine τ 0 Q ↔ Q 1 τ := by
  unfold F_X10_fine; simp only [h, ↓forall_eq, bz_b, gR_sI, gR_sJ, gJ_sI, gI_sJ, gN_sI, gN_sJ, gI_sR, gJ_sR, gN_sR, gI_sI, gJ_sJ, gR_sR, gI_nW, gR_nW, gN_nW, gJ_nW, rM_at, rXs_at, rXd_at, ex_s, true_and, and_true, false_and, and_false, or_true, true_or, or_false, false_or, if_true, if_false, not_true_eq_false, not_false_eq_true, forall_const, true_implies, false_implies, implies_true, Nat.reduceLeDiff, Nat.reduceEqDiff, reduceCtorEq, i32_succ, i32_pred, Nat.le_refl, Nat.lt_add_one, Nat.reduceLT, ne_eq, Nat.add_one_ne_zero]
set_option maxRecDepth 16384 in
theorem eM_fine0 {τ : tw_T} {Q : Int32 → tw_T → Prop} (h : gI τ 0 0 32 ≠ -1) : F_X10_fine τ 0 Q ↔ Q 0 τ := by
  unfold F_X10_fine; simp only [h, ↓forall_eq, bz_b, gR_sI, gR_sJ, gJ_sI, gI_sJ, gN_sI, gN_sJ, gI_sR, gJ_sR, gN_sR, gI_sI, gJ_sJ, gR_sR, gI_nW, gR_nW, gN_nW, gJ_nW, rM_at, rXs_at, rXd_at, ex_s, true_and, and_true, false_and, and_false, or_true, true_or, or_false, false_or, if_true, if_false, not_true_eq_false, not_false_eq_true, forall_const, true_implies, false_implies, implies_true, Nat.reduceLeDiff, Nat.reduceEqDiff, reduceCtorEq, i32_succ, i32_pred, Nat.le_refl, Nat.lt_add_one, Nat.reduceLT, ne_eq, Nat.add_one_ne_zero]
set_option maxRecDepth 16384 in
theorem eM_wrong {τ : tw_T} {v : Int32} {Q : tw_T → Prop} (h : gI τ 0 0 32 = -1) : F_X10_wrong τ 0 v Q ↔ Q (sI τ 0 0 32 v) := by
  unfold F_X10_wrong; simp only [h, ↓forall_eq, bz_b, gR_sI, gR_sJ, gJ_sI, gI_sJ, gN_sI, gN_sJ, gI_sR, gJ_sR, gN_sR, gI_sI, gJ_sJ, gR_sR, gI_nW, gR_nW, gN_nW, gJ_nW, rM_at, rXs_at, rXd_at, ex_s, true_and, and_true, false_and, and_false, or_true, true_or, or_false, false_or, if_true, if_false, not_true_eq_false, not_false_eq_true, forall_const, true_implies, false_implies, implies_true, Nat.reduceLeDiff, Nat.reduceEqDiff, reduceCtorEq, i32_succ, i32_pred, Nat.le_refl, Nat.lt_add_one, Nat.reduceLT, ne_eq, Nat.add_one_ne_zero]
set_option maxRecDepth 16384 in
theorem eM_isDigit {τ : tw_T} {v : Int32} {Q : Int32 → tw_T → Prop} : F_X10_isDigit τ v Q ↔ Q (bz (isD v = true)) τ := by
  unfold F_X10_isDigit isD
  by_cases h1 : v < 48
  · simp only [h1, decide_true, Bool.not_true, Bool.false_and, Bool.false_eq_true, bz_f, ↓forall_eq, bz_b, gR_sI, gR_sJ, gJ_sI, gI_sJ, gN_sI, gN_sJ, gI_sR, gJ_sR, gN_sR, gI_sI, gJ_sJ, gR_sR, gI_nW, gR_nW, gN_nW, gJ_nW, rM_at, rXs_at, rXd_at, ex_s, true_and, and_true, false_and, and_false, or_true, true_or, or_false, false_or, if_true, if_false, not_true_eq_false, not_false_eq_true, forall_const, true_implies, false_implies, implies_true, Nat.reduceLeDiff, Nat.reduceEqDiff, reduceCtorEq, i32_succ, i32_pred, Nat.le_refl, Nat.lt_add_one, Nat.reduceLT, ne_eq, Nat.add_one_ne_zero]
  · by_cases h2 : 57 < v
    · simp only [h1, h2, decide_true, Bool.not_true, Bool.and_false, Bool.false_eq_true, bz_f, ↓forall_eq, bz_b, gR_sI, gR_sJ, gJ_sI, gI_sJ, gN_sI, gN_sJ, gI_sR, gJ_sR, gN_sR, gI_sI, gJ_sJ, gR_sR, gI_nW, gR_nW, gN_nW, gJ_nW, rM_at, rXs_at, rXd_at, ex_s, true_and, and_true, false_and, and_false, or_true, true_or, or_false, false_or, if_true, if_false, not_true_eq_false, not_false_eq_true, forall_const, true_implies, false_implies, implies_true, Nat.reduceLeDiff, Nat.reduceEqDiff, reduceCtorEq, i32_succ, i32_pred, Nat.le_refl, Nat.lt_add_one, Nat.reduceLT, ne_eq, Nat.add_one_ne_zero]
    · simp only [h1, h2, decide_false, Bool.not_false, Bool.and_self, bz_t, ↓forall_eq, bz_b, gR_sI, gR_sJ, gJ_sI, gI_sJ, gN_sI, gN_sJ, gI_sR, gJ_sR, gN_sR, gI_sI, gJ_sJ, gR_sR, gI_nW, gR_nW, gN_nW, gJ_nW, rM_at, rXs_at, rXd_at, ex_s, true_and, and_true, false_and, and_false, or_true, true_or, or_false, false_or, if_true, if_false, not_true_eq_false, not_false_eq_true, forall_const, true_implies, false_implies, implies_true, Nat.reduceLeDiff, Nat.reduceEqDiff, reduceCtorEq, i32_succ, i32_pred, Nat.le_refl, Nat.lt_add_one, Nat.reduceLT, ne_eq, Nat.add_one_ne_zero]
set_option maxRecDepth 16384 in
theorem eM_dig_l {m : tw_T} {b : Nat → Int32} {s : Nat} {Q : Int32 → tw_T → Prop} {EX : tw_T → Int32 → Int32 → Prop} (hM : gR m = rM) (h3 : gI m 0 0 30 = i32 s) (hb : gI m 133 0 = b) (h32 : gI m 0 0 32 = -1) (hs : s ≤ 200) : ∀ f k a v, k + f = 5 → a ≤ s → EX (DM m b s f a) (dv b s f a v) (i32 (k + dn b s f a)) → L_X10_digits_22 0 Q EX (f + 2) (AM m a) v (i32 k) := by
  have h30 : ∀ a, gI (AM m a) 0 0 30 = i32 s := fun a => by rw [AM_o (by decide)]; exact h3
  have h133 : ∀ a, gI (AM m a) 133 = gI m 133 := fun a => AM_n (by decide)
  have hf32 : ∀ a, gI (AM m a) 0 0 32 = -1 := fun a => by rw [AM_o (by decide)]; exact h32
  intro f
  induction f with
  | zero =>
    intro k a v hk ha hE
    have e2 : (i32 s ≤ i32 a) ↔ s ≤ a := le_i32 (by omega) (by omega)
    have e4 := i32_nat (show a < 2147483648 by omega)
    have e5 : i32 k = (5 : Int32) := by rw [show k = 5 by omega]; rfl
    simp only [dn, dv, Nat.add_zero] at hE
    rw [L_X10_digits_22]
    simp only [eM_fine1 (hf32 a), e2, AM_31, h30, AM_R, h133, hM, hb, e4, eM_isDigit, bz_eq0, e5, pu_10, ↓forall_eq, bz_b, gR_sI, gR_sJ, gJ_sI, gI_sJ, gN_sI, gN_sJ, gI_sR, gJ_sR, gN_sR, gI_sI, gJ_sJ, gR_sR, gI_nW, gR_nW, gN_nW, gJ_nW, rM_at, rXs_at, rXd_at, ex_s, true_and, and_true, false_and, and_false, or_true, true_or, or_false, false_or, if_true, if_false, not_true_eq_false, not_false_eq_true, forall_const, true_implies, false_implies, implies_true, Nat.reduceLeDiff, Nat.reduceEqDiff, reduceCtorEq, i32_succ, i32_pred, Nat.le_refl, Nat.lt_add_one, Nat.reduceLT, ne_eq, Nat.add_one_ne_zero]
    rw [e5] at hE
    unfold DM nbd at hE
    simp only [dn, Nat.add_zero, true_and] at hE
    refine ⟨fun h9 => ?_, fun h9 => ⟨vpin (show a < 200 by omega) (by decide), fun h8 => ?_, fun h8 => ?_⟩⟩
    · rw [if_neg (by simp only [decide_eq_true_eq]; omega)] at hE; exact hE
    · rw [if_neg (by simp only [decide_eq_true_eq]; exact fun h => h8 h.2)] at hE; exact hE
    · rw [if_pos (by simp only [decide_eq_true_eq]; exact ⟨by omega, Decidable.of_not_not h8⟩)] at hE
      refine (eM_wrong (hf32 a)).mpr ?_
      have hn : gI (sI (AM m a) 0 0 32 (i32 a)) 0 0 32 ≠ -1 := by rw [gI_sI, if_pos ⟨rfl, rfl, rfl⟩]; exact not_m1 (by omega)
      rw [L_X10_digits_22, eM_fine0 hn]
      exact ⟨fun _ => hE, fun h => absurd rfl h⟩
  | succ f ih =>
    intro k a v hk ha hE
    have e2 : (i32 s ≤ i32 a) ↔ s ≤ a := le_i32 (by omega) (by omega)
    have e4 := i32_nat (show a < 2147483648 by omega)
    have e5 : ¬ i32 k = (5 : Int32) := fun h => absurd (i32_inj (b := 5) (by omega) (by decide) h) (by omega)
    rw [L_X10_digits_22]
    simp only [eM_fine1 (hf32 a), e2, AM_31, h30, AM_R, h133, AM_s, hM, hb, e4, eM_isDigit, bz_eq0, e5, pu_10, ↓forall_eq, bz_b, gR_sI, gR_sJ, gJ_sI, gI_sJ, gN_sI, gN_sJ, gI_sR, gJ_sR, gN_sR, gI_sI, gJ_sJ, gR_sR, gI_nW, gR_nW, gN_nW, gJ_nW, rM_at, rXs_at, rXd_at, ex_s, true_and, and_true, false_and, and_false, or_true, true_or, or_false, false_or, if_true, if_false, not_true_eq_false, not_false_eq_true, forall_const, true_implies, false_implies, implies_true, Nat.reduceLeDiff, Nat.reduceEqDiff, reduceCtorEq, i32_succ, i32_pred, Nat.le_refl, Nat.lt_add_one, Nat.reduceLT, ne_eq, Nat.add_one_ne_zero]
    refine ⟨fun h9 => ?_, fun h9 => ⟨vpin (show a < 200 by omega) (by decide), fun h8 => ?_, fun h8 => ⟨vpin (show a < 200 by omega) (by decide), ?_⟩⟩⟩
    · have h0 : dn b s (f + 1) a = 0 := by simp only [dn]; rw [if_neg (by omega)]
      have hd : DM m b s (f + 1) a = AM m a := by unfold DM nbd; rw [h0, if_neg (by simp only [decide_eq_true_eq]; omega), Nat.add_zero]
      rw [hd, h0, dv_0 h0] at hE; exact hE
    · have h0 : dn b s (f + 1) a = 0 := by simp only [dn]; rw [if_neg (fun h => h8 h.2)]
      have hd : DM m b s (f + 1) a = AM m a := by unfold DM nbd; rw [h0, if_neg (by simp only [decide_eq_true_eq]; omega), Nat.add_zero]
      rw [hd, h0, dv_0 h0] at hE; exact hE
    · have h8 := Decidable.of_not_not h8
      have hc : a < s ∧ isD (b a) = true := ⟨by omega, h8⟩
      have h1 : dn b s (f + 1) a = dn b s f (a + 1) + 1 := by simp only [dn]; rw [if_pos hc]
      have h2 : dv b s (f + 1) a v = dv b s f (a + 1) (v * 10 + b a - 48) := by simp only [dv]; rw [if_pos hc]
      have hd : DM m b s (f + 1) a = DM m b s f (a + 1) := by
        have hnb : nbd b s (f + 1) a = nbd b s f (a + 1) := by
          unfold nbd
          rw [h1, show a + (f + 1) = a + 1 + f by omega]
          simp only [Nat.add_right_cancel_iff]
        unfold DM
        rw [hnb, h1, show a + (dn b s f (a + 1) + 1) = a + 1 + dn b s f (a + 1) by omega]
      rw [hd, h1, h2] at hE
      rw [Int32.mul_comm 10 v]
      refine ih (k + 1) (a + 1) _ (by omega) (by omega) ?_
      rw [show k + 1 + dn b s f (a + 1) = k + (dn b s f (a + 1) + 1) by omega]
      exact hE
set_option maxRecDepth 16384 in
/-- what the reference's number leaves: fine, or the place that is wrong -/
def NM (m : tw_T) (b : Nat → Int32) (s c : Nat) : tw_T := if dn b s 5 c = 0 ∨ nbd b s 5 c = true then sI (AM m (c + dn b s 5 c)) 0 0 32 (i32 (c + dn b s 5 c)) else AM m (c + dn b s 5 c)
set_option maxRecDepth 16384 in
theorem eM_digits {m : tw_T} {b : Nat → Int32} {s a : Nat} {Q : Int32 → tw_T → Prop} (hM : gR m = rM) (h3 : gI m 0 0 30 = i32 s) (hb : gI m 133 0 = b) (h32 : gI m 0 0 32 = -1) (hs : s ≤ 200) (ha : a ≤ s)
    (hQ : Q (dv b s 5 (skp b (s - a) a) 0) (NM m b s (skp b (s - a) a))) : F_X10_digits (AM m a) 0 Q := by
  have hf32 : ∀ a, gI (AM m a) 0 0 32 = -1 := fun a => by rw [AM_o (by decide)]; exact h32
  unfold F_X10_digits
  refine eM_here hM h3 hb hs ha ?_
  have hr := skp_rng (b := b) (s - a) a
  generalize skp b (s - a) a = c at hQ hr ⊢
  rw [eM_isDigit]
  have hcm : (isD (chM b s c) = true) ↔ ¬ dn b s 5 c = 0 := by
    unfold chM
    simp only [dn]
    by_cases h : c < s
    · rw [if_pos h]
      by_cases h2 : isD (b c) = true
      · rw [if_pos ⟨h, h2⟩]; exact ⟨fun _ => Nat.succ_ne_zero _, fun _ => h2⟩
      · rw [if_neg (fun h9 => h2 h9.2)]; exact ⟨fun h9 => absurd h9 h2, fun h9 => absurd rfl h9⟩
    · rw [if_neg h, if_neg (fun h9 => h h9.1)]
      constructor
      · intro h9; exact absurd h9 (by decide)
      · intro h9; omega
  simp only [bz_eq0]
  unfold NM at hQ
  refine ⟨fun h9 => ?_, fun h9 => ?_⟩
  · have h9 := hcm.mp (Decidable.of_not_not h9)
    refine ⟨7, eM_dig_l hM h3 hb h32 hs 5 0 c 0 rfl (by omega) ?_⟩
    unfold DM
    by_cases h8 : nbd b s 5 c = true
    · rw [if_pos (Or.inr h8)] at hQ; rw [if_pos h8]; exact hQ
    · rw [if_neg (fun h => h.elim h9 h8)] at hQ; rw [if_neg h8]; exact hQ
  · have h0 : dn b s 5 c = 0 := Decidable.of_not_not (fun h => h9 (hcm.mpr h))
    rw [if_pos (Or.inl h0), h0, dv_0 h0, Nat.add_zero] at hQ
    refine (eM_wrong (hf32 c)).mpr ?_
    rw [AM_31]
    have hn : gI (sI (AM m c) 0 0 32 (i32 c)) 0 0 32 ≠ -1 := by rw [gI_sI, if_pos ⟨rfl, rfl, rfl⟩]; exact not_m1 (by omega)
    refine ⟨1, ?_⟩
    rw [L_X10_digits_22, eM_fine0 hn]
    exact ⟨fun _ => hQ, fun h => absurd rfl h⟩
