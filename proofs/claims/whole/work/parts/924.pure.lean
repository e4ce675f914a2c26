/-! ===== what goes with a dish ===== -/
set_option maxRecDepth 16384 in
theorem RelA.frame9 {n nk nl no nt nd na ns : Nat} {x x' m : tw_T} (hA : RelA n nk nl no nt nd na ns x m) (h1 : gR x' = gR x) (h2 : gJ x' = gJ x) (h3 : gN x' = gN x) (h4 : ∀ f, f ≠ 9 → f ≠ 10 → f ≠ 11 → gI x' f = gI x f) : RelA n nk nl no nt nd na ns x' m := by
  obtain ⟨hM, hX, hK, hL, hC, hO, hG, hT, hD, hW⟩ := hA
  refine ⟨hM, by rw [h1]; exact hX, ?_, ?_, ?_, ?_, ?_, ?_, ?_, ?_⟩
  · simpa only [h1, h2, h3, h4, ne_eq, Nat.reduceEqDiff, not_false_eq_true, reduceCtorEq] using hK
  · simpa only [h1, h2, h3, h4, ne_eq, Nat.reduceEqDiff, not_false_eq_true, reduceCtorEq] using hL
  · simpa only [h1, h2, h3, h4, ne_eq, Nat.reduceEqDiff, not_false_eq_true, reduceCtorEq] using hC
  · simpa only [h1, h2, h3, h4, ne_eq, Nat.reduceEqDiff, not_false_eq_true, reduceCtorEq] using hO
  · simpa only [h1, h2, h3, h4, ne_eq, Nat.reduceEqDiff, not_false_eq_true, reduceCtorEq] using hG
  · simpa only [h1, h2, h3, h4, ne_eq, Nat.reduceEqDiff, not_false_eq_true, reduceCtorEq] using hT
  · simpa only [h1, h2, h3, h4, ne_eq, Nat.reduceEqDiff, not_false_eq_true, reduceCtorEq] using hD
  · simpa only [h1, h2, h3, h4, ne_eq, Nat.reduceEqDiff, not_false_eq_true, reduceCtorEq] using hW
set_option maxRecDepth 16384 in
theorem bF_pos {cl cm : Nat → Int32} {l : Int32} : ∀ (d c : Nat) (acc : Int32), (∀ j, c ≤ j → j < c + d → cl j = l → 1 ≤ (cm j).toInt ∧ (cm j).toInt ≤ 12) → 0 ≤ acc.toInt → acc.toInt + 12 * d ≤ 1000000 →
    acc.toInt ≤ (bF cl cm l d c acc).toInt ∧ (bF cl cm l d c acc).toInt ≤ acc.toInt + 12 * d ∧ (acc.toInt < (bF cl cm l d c acc).toInt ↔ fC cl l d c < c + d) := by
  intro d
  induction d with
  | zero => intro c acc _ h0 h1; simp only [bF, fC]; omega
  | succ d ih =>
    intro c acc h h0 h1
    simp only [bF, fC]
    by_cases e : cl c = l
    · obtain ⟨m1, m2⟩ := h c (Nat.le_refl c) (by omega) e
      have hs : (acc + cm c).toInt = acc.toInt + (cm c).toInt := i32_add (by omega) (by omega)
      obtain ⟨r1, r2, r3⟩ := ih (c + 1) (acc + cm c) (fun j h2 h3 h4 => h j (by omega) (by omega) h4) (by omega) (by omega)
      rw [if_pos e, if_pos e]
      omega
    · obtain ⟨r1, r2, r3⟩ := ih (c + 1) acc (fun j h2 h3 h4 => h j (by omega) (by omega) h4) h0 (by omega)
      rw [if_neg e, if_neg e]
      omega
set_option maxRecDepth 16384 in
theorem sF_bnd {g : Nat → Int32} : ∀ (d k : Nat) (acc : Int32) (A : Int), (∀ j, k ≤ j → j < k + d → -100000 ≤ (g j).toInt ∧ (g j).toInt ≤ 100000) → -A ≤ acc.toInt → acc.toInt ≤ A → A + 100000 * d ≤ 2000000 → -(A + 100000 * d) ≤ (sF g d k acc).toInt ∧ (sF g d k acc).toInt ≤ A + 100000 * d := by
  intro d
  induction d with
  | zero => intro k acc A _ h1 h2 h3; simp only [sF]; omega
  | succ d ih =>
    intro k acc A h h1 h2 h3
    obtain ⟨b1, b2⟩ := h k (Nat.le_refl k) (by omega)
    have hs : (acc + g k).toInt = acc.toInt + (g k).toInt := i32_add (by omega) (by omega)
    have := ih (k + 1) (acc + g k) (A + 100000) (fun j h4 h5 => h j (by omega) (by omega)) (by omega) (by omega) (by omega)
    simp only [sF]
    omega
set_option maxRecDepth 16384 in
theorem RelA.scr_bnd {n nk nl no nt nd na ns d i : Nat} {x m : tw_T} (hA : RelA n nk nl no nt nd na ns x m) (hd : d < nd) : -1200000 ≤ (scr m d i).toInt ∧ (scr m d i).toInt ≤ 1200000 := by
  obtain ⟨hM, hX0, hK0, hL0, hC0, hO0, hG0, hT0, hD0, hW0⟩ := hA
  obtain ⟨d1, d2, d3, d4, -, -, -, -, -, d5, d6, d7⟩ := hD0
  obtain ⟨T, t1, t2, t3, t4⟩ := d7 d hd
  unfold scr
  rw [t3, i32_nat (by omega)]
  have z0 : (0 : Int32).toInt = 0 := rfl
  have := sF_bnd (g := scM m d i (gI m 110 0 i).toNatClampNeg) T 0 0 0 (fun j _ hj => by
    obtain ⟨z, z1, z2, z3, z4, z5, z6, z7⟩ := t4 j (by omega)
    unfold scM
    split
    · omega
    · rw [z0]; omega) (by rw [z0]; omega) (by rw [z0]; omega) (by omega)
  omega
set_option maxRecDepth 16384 in
def mtB (m : tw_T) (i : Nat) : Bool := decide (¬ yr (gI m 0 0 3) < gI m 113 0 i ∧ ¬ gI m 114 0 i < yr (gI m 0 0 3) ∧ fC (gI m 123 0) (i32 i) 30 0 < 30)
set_option maxRecDepth 16384 in
def wo (m : tw_T) (i : Nat) : Int32 := _root_.Jvm.Pilot.CWineCellarLaw_law_r9381_d02a7e.wM m i (gI m 110 0 i).toNatClampNeg (yr (gI m 0 0 3))
set_option maxRecDepth 16384 in
def gaB (s1 s2 w1 w2 : Int32) (i j : Nat) : Bool := if s1 = s2 then (if w1 = w2 then decide (i < j) else !decide (w2 ≤ w1)) else !decide (s1 ≤ s2)
set_option maxRecDepth 16384 in
def aheadB (m : tw_T) (d i o : Nat) : Bool := mtB m o && gaB (scr m d o) (scr m d i) (wo m o) (wo m i) o i
set_option maxRecDepth 16384 in
def ahN (m : tw_T) (nl d i : Nat) : Nat := cnt (aheadB m d i) nl
set_option maxRecDepth 16384 in
def mF (p : Nat → Bool) : Nat → Nat → Int32
  | 0, _ => -1
  | d + 1, i => if p i = true then i32 i else mF p d (i + 1)
set_option maxRecDepth 16384 in
theorem RelA.matches {n nk nl no nt nd na ns i : Nat} {x m : tw_T} {Q : Int32 → tw_T → Prop} (hA : RelA n nk nl no nt nd na ns x m) (hi : i < nl) (hQ : Q (bz (mtB m i = true)) m) : F_X10_matches m 0 (i32 i) Q := by
  obtain ⟨hM, hX0, hK0, hL0, hC0, hO0, hG0, hT0, hD0, hW0⟩ := hA
  have l1 := hL0.1
  have e3 := vpin (show i < 60 by omega) (by decide)
  have e4 := i32_nat (show i < 2147483648 by omega)
  refine eM_bottlesOf hM ?_
  have z0 : (0 : Int32).toInt = 0 := rfl
  obtain ⟨r1, r2, r3⟩ := bF_pos (cl := gI m 123 0) (cm := gI m 124 0) (l := i32 i) 30 0 0 (fun j _ hj h9 => by
    rcases hC0.2.2 j (by omega) with h4 | ⟨h4, h5, -⟩
    · rw [h4.2] at h9; exact absurd h9.symm (not_m1 (by omega))
    · exact ⟨h4, h5⟩) (by decide) (by decide)
  have hle : (bF (gI m 123 0) (gI m 124 0) (i32 i) 30 0 0 ≤ 0) ↔ ¬ fC (gI m 123 0) (i32 i) 30 0 < 30 := by
    rw [Int32.le_iff_toInt_le, z0]
    rw [z0] at r1 r3
    omega
  simp only [hle, eM_year, hM, e3, e4, ↓forall_eq, bz_b, gR_sI, gR_sJ, gJ_sI, gI_sJ, gN_sI, gN_sJ, gI_sR, gJ_sR, gN_sR, gI_sI, gJ_sJ, gR_sR, gI_nW, gR_nW, gN_nW, gJ_nW, rM_at, rXs_at, rXd_at, ex_s, true_and, and_true, false_and, and_false, or_true, true_or, or_false, false_or, if_true, if_false, not_true_eq_false, not_false_eq_true, forall_const, true_implies, false_implies, implies_true, Nat.reduceLeDiff, Nat.reduceEqDiff, reduceCtorEq, i32_succ, i32_pred, Nat.le_refl, Nat.lt_add_one, Nat.reduceLT, ne_eq, Nat.add_one_ne_zero]
  unfold mtB at hQ
  by_cases h1 : fC (gI m 123 0) (i32 i) 30 0 < 30
  · by_cases h2 : yr (gI m 0 0 3) < gI m 113 0 i
    · simp only [h1, h2, decide_false, Bool.false_eq_true, bz_f, ↓forall_eq, bz_b, gR_sI, gR_sJ, gJ_sI, gI_sJ, gN_sI, gN_sJ, gI_sR, gJ_sR, gN_sR, gI_sI, gJ_sJ, gR_sR, gI_nW, gR_nW, gN_nW, gJ_nW, rM_at, rXs_at, rXd_at, ex_s, true_and, and_true, false_and, and_false, or_true, true_or, or_false, false_or, if_true, if_false, not_true_eq_false, not_false_eq_true, forall_const, true_implies, false_implies, implies_true, Nat.reduceLeDiff, Nat.reduceEqDiff, reduceCtorEq, i32_succ, i32_pred, Nat.le_refl, Nat.lt_add_one, Nat.reduceLT, ne_eq, Nat.add_one_ne_zero] at hQ ⊢; exact hQ
    · by_cases h3 : gI m 114 0 i < yr (gI m 0 0 3)
      · simp only [h1, h2, h3, decide_false, Bool.false_eq_true, bz_f, ↓forall_eq, bz_b, gR_sI, gR_sJ, gJ_sI, gI_sJ, gN_sI, gN_sJ, gI_sR, gJ_sR, gN_sR, gI_sI, gJ_sJ, gR_sR, gI_nW, gR_nW, gN_nW, gJ_nW, rM_at, rXs_at, rXd_at, ex_s, true_and, and_true, false_and, and_false, or_true, true_or, or_false, false_or, if_true, if_false, not_true_eq_false, not_false_eq_true, forall_const, true_implies, false_implies, implies_true, Nat.reduceLeDiff, Nat.reduceEqDiff, reduceCtorEq, i32_succ, i32_pred, Nat.le_refl, Nat.lt_add_one, Nat.reduceLT, ne_eq, Nat.add_one_ne_zero] at hQ ⊢; exact hQ
      · simp only [h1, h2, h3, decide_true, bz_t, ↓forall_eq, bz_b, gR_sI, gR_sJ, gJ_sI, gI_sJ, gN_sI, gN_sJ, gI_sR, gJ_sR, gN_sR, gI_sI, gJ_sJ, gR_sR, gI_nW, gR_nW, gN_nW, gJ_nW, rM_at, rXs_at, rXd_at, ex_s, true_and, and_true, false_and, and_false, or_true, true_or, or_false, false_or, if_true, if_false, not_true_eq_false, not_false_eq_true, forall_const, true_implies, false_implies, implies_true, Nat.reduceLeDiff, Nat.reduceEqDiff, reduceCtorEq, i32_succ, i32_pred, Nat.le_refl, Nat.lt_add_one, Nat.reduceLT, ne_eq, Nat.add_one_ne_zero] at hQ ⊢; exact hQ
  · simp only [h1, decide_false, Bool.false_eq_true, bz_f, ↓forall_eq, bz_b, gR_sI, gR_sJ, gJ_sI, gI_sJ, gN_sI, gN_sJ, gI_sR, gJ_sR, gN_sR, gI_sI, gJ_sJ, gR_sR, gI_nW, gR_nW, gN_nW, gJ_nW, rM_at, rXs_at, rXd_at, ex_s, true_and, and_true, false_and, and_false, or_true, true_or, or_false, false_or, if_true, if_false, not_true_eq_false, not_false_eq_true, forall_const, true_implies, false_implies, implies_true, Nat.reduceLeDiff, Nat.reduceEqDiff, reduceCtorEq, i32_succ, i32_pred, Nat.le_refl, Nat.lt_add_one, Nat.reduceLT, ne_eq, Nat.add_one_ne_zero] at hQ ⊢; exact hQ
set_option maxRecDepth 16384 in
theorem RelA.wo_rng {n nk nl no nt nd na ns i : Nat} {x m : tw_T} (hA : RelA n nk nl no nt nd na ns x m) (hi : i < nl) : 0 ≤ (wo m i).toInt ∧ (wo m i).toInt ≤ 210000 := by
  obtain ⟨q, q1, q2, q3, q4, q5, q6, q7, q8, q9, q10, q11, r1, r2, r3, r4, r5, r6, r7⟩ := hA.lot hi
  have hG0 := hA.2.2.2.2.2.2.1
  have hy := yr_rng hG0.2.1 hG0.2.2.1
  unfold wo
  exact wM_rng r3 r4 r5 r6 (by omega) (by omega)
set_option maxRecDepth 16384 in
theorem i32_d0 {a b : Int32} (h1 : -2000000 ≤ a.toInt) (h2 : a.toInt ≤ 2000000) (h3 : -2000000 ≤ b.toInt) (h4 : b.toInt ≤ 2000000) : (a - b).toInt = a.toInt - b.toInt := i32_sub (by omega) (by omega)
set_option maxRecDepth 16384 in
set_option maxHeartbeats 1000000 in
theorem RelA.isAhead {n nk nl no nt nd na ns d i o : Nat} {x m : tw_T} {Q : Int32 → tw_T → Prop} (hA : RelA n nk nl no nt nd na ns x m) (hd : d < nd) (ho : o < nl) (hi : i < nl) (hQ : Q (bz (gaB (scr m d o) (scr m d i) (wo m o) (wo m i) o i = true)) m) : F_X10_isAhead m 0 (i32 d) (i32 o) (i32 i) Q := by
  have hG0 := hA.2.2.2.2.2.2.1
  have l1 := hA.2.2.2.1.1
  have hM := hA.1
  have hy := yr_rng hG0.2.1 hG0.2.2.1
  unfold F_X10_isAhead
  refine hA.scoreM hd ho ?_
  refine hA.scoreM hd hi ?_
  have b1 := hA.scr_bnd (i := o) hd
  have b2 := hA.scr_bnd (i := i) hd
  have hs := i32_d0 (a := scr m d o) (b := scr m d i) (by omega) (by omega) (by omega) (by omega)
  have z0 : (0 : Int32).toInt = 0 := rfl
  have c1 : (scr m d o - scr m d i = 0) ↔ scr m d o = scr m d i := by
    rw [i32_eq0, hs]
    constructor
    · intro h9; exact i32_ext (by omega)
    · intro h9; rw [h9]; omega
  have c2 : (scr m d o - scr m d i ≤ 0) ↔ scr m d o ≤ scr m d i := by rw [Int32.le_iff_toInt_le, Int32.le_iff_toInt_le, hs, z0]; omega
  obtain ⟨q, q1, q2, q3, -⟩ := hA.lot ho
  obtain ⟨q', q1', q2', q3', -⟩ := hA.lot hi
  have w1 : _root_.Jvm.Pilot.CWineCellarLaw_law_r9381_d02a7e.wM m o q (yr (gI m 0 0 3)) = wo m o := by unfold wo; rw [q3, i32_nat (by omega)]
  have w2 : _root_.Jvm.Pilot.CWineCellarLaw_law_r9381_d02a7e.wM m i q' (yr (gI m 0 0 3)) = wo m i := by unfold wo; rw [q3', i32_nat (by omega)]
  have e1 := hA.wo_rng ho
  have e2 := hA.wo_rng hi
  have hs2 := i32_d0 (a := wo m o) (b := wo m i) (by omega) (by omega) (by omega) (by omega)
  have c3 : (wo m o - wo m i = 0) ↔ wo m o = wo m i := by
    rw [i32_eq0, hs2]
    constructor
    · intro h9; exact i32_ext (by omega)
    · intro h9; rw [h9]; omega
  have c4 : (0 ≤ wo m o - wo m i) ↔ wo m i ≤ wo m o := by rw [Int32.le_iff_toInt_le, Int32.le_iff_toInt_le, hs2, z0]; omega
  have c5 : (i32 i ≤ i32 o) ↔ i ≤ o := le_i32 (by omega) (by omega)
  simp only [c1, c2, ↓forall_eq]
  unfold gaB at hQ
  refine ⟨fun h1 => ?_, fun h1 => ?_⟩
  · simp only [eM_year]
    refine hA.wM (τ := m) ho q3 q2 (by omega) (by omega) hM rfl rfl rfl rfl rfl ?_
    refine hA.wM (τ := m) hi q3' q2' (by omega) (by omega) hM rfl rfl rfl rfl rfl ?_
    rw [w1, w2]
    simp only [c3, c4, c5, ↓forall_eq]
    rw [if_pos h1] at hQ
    refine ⟨fun h2 => ?_, fun h2 => ?_⟩
    · rw [if_pos h2] at hQ
      refine ⟨fun h3 => ?_, fun h3 => ?_⟩
      · rw [bz_f (by simp only [decide_eq_true_eq]; omega)] at hQ; exact hQ
      · rw [bz_t (by simp only [decide_eq_true_eq]; omega)] at hQ; exact hQ
    · rw [if_neg h2] at hQ
      refine ⟨fun h3 => ?_, fun h3 => ?_⟩
      · rw [bz_f (by simp only [h3, decide_true, Bool.not_true]; decide)] at hQ; exact hQ
      · rw [bz_t (by simp only [h3, decide_false, Bool.not_false])] at hQ; exact hQ
  · rw [if_neg h1] at hQ
    refine ⟨fun h3 => ?_, fun h3 => ?_⟩
    · rw [bz_f (by simp only [h3, decide_true, Bool.not_true]; decide)] at hQ; exact hQ
    · rw [bz_t (by simp only [h3, decide_false, Bool.not_false])] at hQ; exact hQ
set_option maxRecDepth 16384 in
theorem gaB_self {s w : Int32} {i : Nat} : gaB s s w w i i = false := by
  unfold gaB; rw [if_pos rfl, if_pos rfl]; simp
set_option maxRecDepth 16384 in
set_option maxHeartbeats 1000000 in
theorem RelA.matchM {n nk nl no nt nd na ns d : Nat} {x m : tw_T} {k : Int32} {Q : Int32 → tw_T → Prop} (hA : RelA n nk nl no nt nd na ns x m) (hd : d < nd) : ∀ (dd i : Nat), i + dd = nl →
    Q (mF (fun i => mtB m i && decide (i32 (ahN m nl d i) = k)) dd i) m → L_X10_match_17 0 (i32 d) k Q (fun (τ26 : tw_T) (z27 : Int32) => Q ((-1 : Int32)) τ26) (dd + 1) m (i32 i) := by
  have l1 := hA.2.2.2.1.1
  have l3 := hA.2.2.2.1.2.2.1
  intro dd
  induction dd with
  | zero =>
    intro i hi hQ
    have f1 : i32 nl ≤ i32 i := (le_i32 (by omega) (by omega)).mpr (by omega)
    rw [L_X10_match_17]; simp only [l3, f1, ↓forall_eq, bz_b, gR_sI, gR_sJ, gJ_sI, gI_sJ, gN_sI, gN_sJ, gI_sR, gJ_sR, gN_sR, gI_sI, gJ_sJ, gR_sR, gI_nW, gR_nW, gN_nW, gJ_nW, rM_at, rXs_at, rXd_at, ex_s, true_and, and_true, false_and, and_false, or_true, true_or, or_false, false_or, if_true, if_false, not_true_eq_false, not_false_eq_true, forall_const, true_implies, false_implies, implies_true, Nat.reduceLeDiff, Nat.reduceEqDiff, reduceCtorEq, i32_succ, i32_pred, Nat.le_refl, Nat.lt_add_one, Nat.reduceLT, ne_eq, Nat.add_one_ne_zero]; exact hQ
  | succ dd ih =>
    intro i hi hQ
    have f1 : ¬ i32 nl ≤ i32 i := fun h => absurd ((le_i32 (by omega) (by omega)).mp h) (by omega)
    rw [mF] at hQ
    rw [L_X10_match_17]; simp only [l3, f1, J_X10_match_101, ↓forall_eq, bz_b, gR_sI, gR_sJ, gJ_sI, gI_sJ, gN_sI, gN_sJ, gI_sR, gJ_sR, gN_sR, gI_sI, gJ_sJ, gR_sR, gI_nW, gR_nW, gN_nW, gJ_nW, rM_at, rXs_at, rXd_at, ex_s, true_and, and_true, false_and, and_false, or_true, true_or, or_false, false_or, if_true, if_false, not_true_eq_false, not_false_eq_true, forall_const, true_implies, false_implies, implies_true, Nat.reduceLeDiff, Nat.reduceEqDiff, reduceCtorEq, i32_succ, i32_pred, Nat.le_refl, Nat.lt_add_one, Nat.reduceLT, ne_eq, Nat.add_one_ne_zero]
    refine hA.matches (by omega) ?_
    simp only [bz_eq0]
    refine ⟨fun h1 => ?_, fun h1 => ?_⟩
    · have h1 := Decidable.of_not_not h1
      have hin : ∀ (EX : tw_T → Int32 → Int32 → Prop), EX m (i32 (ahN m nl d i)) (i32 nl) → ∀ (d2 o : Nat), o + d2 = nl → L_X10_match_42 0 (i32 d) k (i32 i) Q EX (d2 + 1) m (i32 (cnt (aheadB m d i) o)) (i32 o) := by
        intro EX hE d2
        induction d2 with
        | zero =>
          intro o ho
          have f2 : i32 nl ≤ i32 o := (le_i32 (by omega) (by omega)).mpr (by omega)
          have : o = nl := by omega
          rw [L_X10_match_42]; simp only [l3, f2, ↓forall_eq, bz_b, gR_sI, gR_sJ, gJ_sI, gI_sJ, gN_sI, gN_sJ, gI_sR, gJ_sR, gN_sR, gI_sI, gJ_sJ, gR_sR, gI_nW, gR_nW, gN_nW, gJ_nW, rM_at, rXs_at, rXd_at, ex_s, true_and, and_true, false_and, and_false, or_true, true_or, or_false, false_or, if_true, if_false, not_true_eq_false, not_false_eq_true, forall_const, true_implies, false_implies, implies_true, Nat.reduceLeDiff, Nat.reduceEqDiff, reduceCtorEq, i32_succ, i32_pred, Nat.le_refl, Nat.lt_add_one, Nat.reduceLT, ne_eq, Nat.add_one_ne_zero]; rw [this]; exact hE
        | succ d2 ih2 =>
          intro o ho
          have f2 : ¬ i32 nl ≤ i32 o := fun h => absurd ((le_i32 (by omega) (by omega)).mp h) (by omega)
          have f3 : (i32 o = i32 i) ↔ o = i := i32_eq (by omega) (by omega)
          have ih3 := ih2 (o + 1) (by omega)
          simp only [cnt] at ih3
          rw [L_X10_match_42]; simp only [l3, f2, f3, J_X10_match_83, J_X10_match_84, Int32.add_zero, ↓forall_eq, bz_b, gR_sI, gR_sJ, gJ_sI, gI_sJ, gN_sI, gN_sJ, gI_sR, gJ_sR, gN_sR, gI_sI, gJ_sJ, gR_sR, gI_nW, gR_nW, gN_nW, gJ_nW, rM_at, rXs_at, rXd_at, ex_s, true_and, and_true, false_and, and_false, or_true, true_or, or_false, false_or, if_true, if_false, not_true_eq_false, not_false_eq_true, forall_const, true_implies, false_implies, implies_true, Nat.reduceLeDiff, Nat.reduceEqDiff, reduceCtorEq, i32_succ, i32_pred, Nat.le_refl, Nat.lt_add_one, Nat.reduceLT, ne_eq, Nat.add_one_ne_zero]
          refine ⟨fun h9 => ?_, fun h9 => hA.matches (by omega) ?_⟩
          · have : aheadB m d i o = false := by rw [h9]; unfold aheadB; rw [gaB_self, Bool.and_false]
            rw [this] at ih3
            simpa only [Bool.false_eq_true, if_false, Nat.add_zero] using ih3
          · simp only [bz_eq0]
            refine ⟨fun h8 => ?_, fun h8 => hA.isAhead hd (by omega) (by omega) ?_⟩
            · have : aheadB m d i o = false := by unfold aheadB; rw [Bool.not_eq_true] at h8; rw [h8, Bool.false_and]
              rw [this] at ih3
              simpa only [Bool.false_eq_true, if_false, Nat.add_zero] using ih3
            · have h8 := Decidable.of_not_not h8
              simp only [bz_eq0]
              refine ⟨fun h7 => ?_, fun h7 => ?_⟩
              · have : aheadB m d i o = false := by unfold aheadB; rw [Bool.not_eq_true] at h7; rw [h7, Bool.and_false]
                rw [this] at ih3
                simpa only [Bool.false_eq_true, if_false, Nat.add_zero] using ih3
              · have : aheadB m d i o = true := by unfold aheadB; rw [h8, Decidable.of_not_not h7]; rfl
                rw [this] at ih3
                simpa only [if_true, i32_succ] using ih3
      refine ⟨nl + 1, hin _ ?_ nl 0 (by omega)⟩
      refine ⟨fun h9 => ?_, fun h9 => ?_⟩
      · refine ih (i + 1) (by omega) ?_
        simp only [h1, h9, decide_false, Bool.and_false, Bool.false_eq_true, if_false] at hQ
        exact hQ
      · simp only [h1, h9, decide_true, Bool.and_self, if_true] at hQ
        exact hQ
    · rw [Bool.not_eq_true] at h1
      refine ih (i + 1) (by omega) ?_
      simp only [h1, Bool.false_and, Bool.false_eq_true, if_false] at hQ
      exact hQ
set_option maxRecDepth 16384 in
/-- the class's rows of matches, as far as lot i -/
def InvA (x m : tw_T) (d i : Nat) (τ : tw_T) : Prop :=
  gR τ = gR x ∧ gJ τ = gJ x ∧ gN τ = gN x ∧ (∀ f, f ≠ 9 → f ≠ 10 → f ≠ 11 → gI τ f = gI x f) ∧ ∀ o, o < i → gI τ 11 0 o = bz (mtB m o = true) ∧ gI τ 9 0 o = scr m d o ∧ gI τ 10 0 o = wo m o
set_option maxRecDepth 16384 in
theorem vnB {p : Prop} [Decidable p] : vp_nar .boolean (bz p) = bz p := by
  unfold bz; split <;> rfl
set_option maxRecDepth 16384 in
theorem xX_good {x : tw_T} {i : Nat} {y : Int32} {Q : Int32 → tw_T → Prop} : F_X3_isGoodIn x i y Q ↔ Q (bz (¬ y < gI x 21 i 4 ∧ ¬ gI x 21 i 5 < y)) x := by
  unfold F_X3_isGoodIn
  by_cases h1 : y < gI x 21 i 4
  · simp only [h1, bz_f, ↓forall_eq, bz_b, gR_sI, gR_sJ, gJ_sI, gI_sJ, gN_sI, gN_sJ, gI_sR, gJ_sR, gN_sR, gI_sI, gJ_sJ, gR_sR, gI_nW, gR_nW, gN_nW, gJ_nW, rM_at, rXs_at, rXd_at, ex_s, true_and, and_true, false_and, and_false, or_true, true_or, or_false, false_or, if_true, if_false, not_true_eq_false, not_false_eq_true, forall_const, true_implies, false_implies, implies_true, Nat.reduceLeDiff, Nat.reduceEqDiff, reduceCtorEq, i32_succ, i32_pred, Nat.le_refl, Nat.lt_add_one, Nat.reduceLT, ne_eq, Nat.add_one_ne_zero]
  · by_cases h2 : gI x 21 i 5 < y
    · simp only [h1, h2, bz_f, ↓forall_eq, bz_b, gR_sI, gR_sJ, gJ_sI, gI_sJ, gN_sI, gN_sJ, gI_sR, gJ_sR, gN_sR, gI_sI, gJ_sJ, gR_sR, gI_nW, gR_nW, gN_nW, gJ_nW, rM_at, rXs_at, rXd_at, ex_s, true_and, and_true, false_and, and_false, or_true, true_or, or_false, false_or, if_true, if_false, not_true_eq_false, not_false_eq_true, forall_const, true_implies, false_implies, implies_true, Nat.reduceLeDiff, Nat.reduceEqDiff, reduceCtorEq, i32_succ, i32_pred, Nat.le_refl, Nat.lt_add_one, Nat.reduceLT, ne_eq, Nat.add_one_ne_zero]
    · simp only [h1, h2, bz_t, ↓forall_eq, bz_b, gR_sI, gR_sJ, gJ_sI, gI_sJ, gN_sI, gN_sJ, gI_sR, gJ_sR, gN_sR, gI_sI, gJ_sJ, gR_sR, gI_nW, gR_nW, gN_nW, gJ_nW, rM_at, rXs_at, rXd_at, ex_s, true_and, and_true, false_and, and_false, or_true, true_or, or_false, false_or, if_true, if_false, not_true_eq_false, not_false_eq_true, forall_const, true_implies, false_implies, implies_true, Nat.reduceLeDiff, Nat.reduceEqDiff, reduceCtorEq, i32_succ, i32_pred, Nat.le_refl, Nat.lt_add_one, Nat.reduceLT, ne_eq, Nat.add_one_ne_zero]
set_option maxRecDepth 16384 in
theorem InvA.step {x m τ : tw_T} {d i : Nat} {v : Int32} (h : InvA x m d i τ) (hv : v = bz (mtB m i = true)) : InvA x m d (i + 1) (sI (sI (sI τ 11 0 i v) 9 0 i (scr m d i)) 10 0 i (wo m i)) := by
  obtain ⟨h1, h2, h3, h4, h5⟩ := h
  refine ⟨h1, h2, h3, fun f f1 f2 f3 => by rw [hI_n f2, hI_n f1, hI_n f3]; exact h4 f f1 f2 f3, fun o ho => ?_⟩
  by_cases e : o = i
  · rw [e]
    simp only [hI_s, hI_n, hJ_s, hJ_n, hR_s, hR_n, hIW_s, hIW_n, hJW_s, hJW_n, hRW_s, hRW_n, hNW_s, hNW_n, hRM_s, hRM_n, u2_s, u2_j, u2_row, u2_kk, gR_sI, gR_sJ, gJ_sI, gI_sJ, gN_sI, gN_sJ, gI_sR, gJ_sR, gN_sR, gI_sM, gJ_sM, gN_sM, ne_eq, Nat.reduceEqDiff, not_false_eq_true, reduceCtorEq, true_implies, upd_s, hv, and_self]
  · simp only [hI_s, hI_n, hJ_s, hJ_n, hR_s, hR_n, hIW_s, hIW_n, hJW_s, hJW_n, hRW_s, hRW_n, hNW_s, hNW_n, hRM_s, hRM_n, u2_s, u2_j, u2_row, u2_kk, gR_sI, gR_sJ, gJ_sI, gI_sJ, gN_sI, gN_sJ, gI_sR, gJ_sR, gN_sR, gI_sM, gJ_sM, gN_sM, ne_eq, Nat.reduceEqDiff, not_false_eq_true, reduceCtorEq, true_implies, upd_n e]
    exact h5 o (by omega)
set_option maxRecDepth 16384 in
theorem InvA.a {x m τ : tw_T} {d i : Nat} (h : InvA x m d i τ) {n nk nl no nt nd na ns : Nat} (hA : RelA n nk nl no nt nd na ns x m) : RelA n nk nl no nt nd na ns τ m := hA.frame9 h.1 h.2.1 h.2.2.1 h.2.2.2.1
set_option maxRecDepth 16384 in
set_option maxHeartbeats 2000000 in
theorem RelA.matchX1 {n nk nl no nt nd na ns d : Nat} {x m : tw_T} {k : Int32} {Q : Int32 → tw_T → Prop} {X : Nat → tw_T → Prop} {EX : tw_T → Int32 → Prop} (hA : RelA n nk nl no nt nd na ns x m) (hd : d < nd) (hE : ∀ τ, InvA x m d nl τ → EX τ (i32 nl)) :
    ∀ (dd i : Nat) (τ : tw_T), i + dd = nl → InvA x m d i τ → L_X9_match_15 0 k d (yr (gI m 0 0 3)) Q X EX (dd + 1) τ (i32 i) := by
  intro dd
  induction dd with
  | zero =>
    intro i τ hi hI
    have hT := hI.a hA
    have l1 := hT.2.2.2.1.1
    have l2 := hT.2.2.2.1.2.1
    have f1 : i32 nl ≤ i32 i := (le_i32 (by omega) (by omega)).mpr (by omega)
    have : i = nl := by omega
    rw [L_X9_match_15]; simp only [l2, f1, ↓forall_eq, bz_b, gR_sI, gR_sJ, gJ_sI, gI_sJ, gN_sI, gN_sJ, gI_sR, gJ_sR, gN_sR, gI_sI, gJ_sJ, gR_sR, gI_nW, gR_nW, gN_nW, gJ_nW, rM_at, rXs_at, rXd_at, ex_s, true_and, and_true, false_and, and_false, or_true, true_or, or_false, false_or, if_true, if_false, not_true_eq_false, not_false_eq_true, forall_const, true_implies, false_implies, implies_true, Nat.reduceLeDiff, Nat.reduceEqDiff, reduceCtorEq, i32_succ, i32_pred, Nat.le_refl, Nat.lt_add_one, Nat.reduceLT, ne_eq, Nat.add_one_ne_zero]; rw [this] at hI ⊢; exact hE τ hI
  | succ dd ih =>
    intro i τ hi hI
    have hT := hI.a hA
    have l1 := hT.2.2.2.1.1
    have l2 := hT.2.2.2.1.2.1
    have x0 := hT.2.1.1
    have x5 := hT.2.1.2.1
    have g1 := hT.2.2.2.2.2.2.1.1
    have c1 := hT.2.2.2.2.1.1
    have hil : i < nl := by omega
    have f1 : ¬ i32 nl ≤ i32 i := fun h => absurd ((le_i32 (by omega) (by omega)).mp h) (by omega)
    have f3 := vpin (show i < 60 by omega) (by decide)
    have f4 := i32_nat (show i < 2147483648 by omega)
    obtain ⟨q, q1, q2, q3, q4, q5, q6, q7, q8, q9, q10, q11, -⟩ := hT.lot hil
    have hj : ∀ v : Int32, v = bz (mtB m i = true) → J_X9_match_64 τ 0 k d (yr (gI m 0 0 3)) (i32 i) v (i32 i) 0 Q X (fun t v5 => L_X9_match_15 0 k d (yr (gI m 0 0 3)) Q X EX (dd + 1) t v5) EX := by
      intro v hv
      have hv2 : vp_nar .boolean v = v := by rw [hv]; exact vnB
      simp only [J_X9_match_64, f3, f4, hv2, x0, q5, ↓forall_eq, bz_b, gR_sI, gR_sJ, gJ_sI, gI_sJ, gN_sI, gN_sJ, gI_sR, gJ_sR, gN_sR, gI_sI, gJ_sJ, gR_sR, gI_nW, gR_nW, gN_nW, gJ_nW, rM_at, rXs_at, rXd_at, ex_s, true_and, and_true, false_and, and_false, or_true, true_or, or_false, false_or, if_true, if_false, not_true_eq_false, not_false_eq_true, forall_const, true_implies, false_implies, implies_true, Nat.reduceLeDiff, Nat.reduceEqDiff, reduceCtorEq, i32_succ, i32_pred, Nat.le_refl, Nat.lt_add_one, Nat.reduceLT, ne_eq, Nat.add_one_ne_zero]
      have hT1 : RelA n nk nl no nt nd na ns (sI τ 11 0 i v) m := hT.frame9 rfl rfl rfl (fun f _ _ h11 => hI_n h11)
      have hs := hT1.scoreX (Q := fun (r16 : Int32) (τ15 : tw_T) => ∃ o19 : Nat, gR (sI τ15 9 0 i r16) 0 0 9 = some o19 ∧ ∃ o20 : Nat, gR (sI τ15 9 0 i r16) 0 0 1 = some o20 ∧ ∃ o21 : Nat, gR (sI τ15 9 0 i r16) 2 o20 i = some o21 ∧ F_X3_worthIn (sI τ15 9 0 i r16) o21 (yr (gI m 0 0 3)) (fun (r24 : Int32) (τ23 : tw_T) => ∀ τ26 : tw_T, τ26 = sI τ23 10 o19 i r24 → L_X9_match_15 0 k d (yr (gI m 0 0 3)) Q X EX (dd + 1) τ26 (i32 (i + 1)))) hd hil ?_
      · have hy : yr (gI (sI τ 11 0 i v) 0 0 15) = yr (gI m 0 0 3) := by rw [hT1.2.2.2.2.2.2.1.1]
        rw [hy] at hs
        simp only [↓forall_eq, bz_b, gR_sI, gR_sJ, gJ_sI, gI_sJ, gN_sI, gN_sJ, gI_sR, gJ_sR, gN_sR, gI_sI, gJ_sJ, gR_sR, gI_nW, gR_nW, gN_nW, gJ_nW, rM_at, rXs_at, rXd_at, ex_s, true_and, and_true, false_and, and_false, or_true, true_or, or_false, false_or, if_true, if_false, not_true_eq_false, not_false_eq_true, forall_const, true_implies, false_implies, implies_true, Nat.reduceLeDiff, Nat.reduceEqDiff, reduceCtorEq, i32_succ, i32_pred, Nat.le_refl, Nat.lt_add_one, Nat.reduceLT, ne_eq, Nat.add_one_ne_zero] at hs ⊢
        exact hs
      · have hT2 : RelA n nk nl no nt nd na ns (sI (sI τ 11 0 i v) 9 0 i (scr m d i)) m := hT1.frame9 rfl rfl rfl (fun f h9 _ _ => hI_n h9)
        refine ⟨0, by rw [hT2.2.1.1]; exact rXs_at (by decide), 0, by rw [hT2.2.1.1]; exact rXs_at (by decide), i, q5, ?_⟩
        rw [hT2.wX hil q3 q2]
        intro τ26 h26
        subst h26
        have hwo : _root_.Jvm.Pilot.CWineCellarLaw_law_r9381_d02a7e.wM m i q (yr (gI m 0 0 3)) = wo m i := by unfold wo; rw [q3, i32_nat (by omega)]
        rw [hwo]
        exact ih (i + 1) _ (by omega) (hI.step hv)
    have hmt : mtB m i = true ↔ ((¬ yr (gI m 0 0 3) < gI m 113 0 i ∧ ¬ gI m 114 0 i < yr (gI m 0 0 3)) ∧ fC (gI m 123 0) (i32 i) 30 0 < 30) := by
      unfold mtB; simp only [decide_eq_true_eq, and_assoc]
    rw [L_X9_match_15]; simp only [l2, f1, f3, f4, x0, q5, xX_good, q9, q10, bz_eq0, J_X9_match_63, ↓forall_eq, bz_b, gR_sI, gR_sJ, gJ_sI, gI_sJ, gN_sI, gN_sJ, gI_sR, gJ_sR, gN_sR, gI_sI, gJ_sJ, gR_sR, gI_nW, gR_nW, gN_nW, gJ_nW, rM_at, rXs_at, rXd_at, ex_s, true_and, and_true, false_and, and_false, or_true, true_or, or_false, false_or, if_true, if_false, not_true_eq_false, not_false_eq_true, forall_const, true_implies, false_implies, implies_true, Nat.reduceLeDiff, Nat.reduceEqDiff, reduceCtorEq, i32_succ, i32_pred, Nat.le_refl, Nat.lt_add_one, Nat.reduceLT, ne_eq, Nat.add_one_ne_zero]
    refine ⟨fun h9 => hj 0 (bz_f (fun h8 => h9 (hmt.mp h8).1)).symm, fun h9 => ?_⟩
    have h9 := Decidable.of_not_not h9
    refine xX_cellOf x5 ?_
    have hcv : cF (gI τ 12 0) (i32 i) 0 30 0 0 = if fC (gI m 123 0) (i32 i) 30 0 = 30 then -1 else i32 (fC (gI m 123 0) (i32 i) 30 0) := by rw [c1]; exact cF_fC 30 0
    rw [hcv]
    rcases fC_spec (cl := gI m 123 0) (l := i32 i) 30 0 with ⟨h1, h2⟩ | ⟨h1, h2, h3⟩
    · rw [if_pos h1]
      refine ⟨fun _ => hj 0 (bz_f (fun h8 => by have := (hmt.mp h8).2; omega)).symm, fun h8 => absurd rfl h8⟩
    · rw [if_neg (by omega)]
      refine ⟨fun h8 => absurd h8 (not_m1 (by omega)), fun _ => hj 1 (bz_t (hmt.mpr ⟨h9, by omega⟩)).symm⟩
set_option maxRecDepth 16384 in
set_option maxHeartbeats 1000000 in
theorem xX_goes {x m τ : tw_T} {nl d i o : Nat} {Q : Int32 → tw_T → Prop} (hI : InvA x m d nl τ) (h0 : gR τ 0 = rXs 11) (hn : nl ≤ 60) (ho : o < nl) (hi : i < nl) : F_X9_goesAhead τ 0 (i32 o) (i32 i) Q ↔ Q (bz (gaB (scr m d o) (scr m d i) (wo m o) (wo m i) o i = true)) τ := by
  have e3 := vpin (show o < 60 by omega) (by decide)
  have e4 := i32_nat (show o < 2147483648 by omega)
  have e5 := vpin (show i < 60 by omega) (by decide)
  have e6 := i32_nat (show i < 2147483648 by omega)
  obtain ⟨a1, a2, a3⟩ := hI.2.2.2.2 o ho
  obtain ⟨b1, b2, b3⟩ := hI.2.2.2.2 i hi
  have c5 : (i32 i ≤ i32 o) ↔ i ≤ o := le_i32 (by omega) (by omega)
  unfold F_X9_goesAhead gaB
  simp only [h0, e3, e4, e5, e6, a2, a3, b2, b3, c5, ↓forall_eq, bz_b, gR_sI, gR_sJ, gJ_sI, gI_sJ, gN_sI, gN_sJ, gI_sR, gJ_sR, gN_sR, gI_sI, gJ_sJ, gR_sR, gI_nW, gR_nW, gN_nW, gJ_nW, rM_at, rXs_at, rXd_at, ex_s, true_and, and_true, false_and, and_false, or_true, true_or, or_false, false_or, if_true, if_false, not_true_eq_false, not_false_eq_true, forall_const, true_implies, false_implies, implies_true, Nat.reduceLeDiff, Nat.reduceEqDiff, reduceCtorEq, i32_succ, i32_pred, Nat.le_refl, Nat.lt_add_one, Nat.reduceLT, ne_eq, Nat.add_one_ne_zero]
  by_cases h1 : scr m d o = scr m d i
  · by_cases h2 : wo m o = wo m i
    · by_cases h3 : i ≤ o
      · have : ¬ o < i := by omega
        simp only [h1, h2, h3, this, decide_false, Bool.false_eq_true, bz_f, ↓forall_eq, bz_b, gR_sI, gR_sJ, gJ_sI, gI_sJ, gN_sI, gN_sJ, gI_sR, gJ_sR, gN_sR, gI_sI, gJ_sJ, gR_sR, gI_nW, gR_nW, gN_nW, gJ_nW, rM_at, rXs_at, rXd_at, ex_s, true_and, and_true, false_and, and_false, or_true, true_or, or_false, false_or, if_true, if_false, not_true_eq_false, not_false_eq_true, forall_const, true_implies, false_implies, implies_true, Nat.reduceLeDiff, Nat.reduceEqDiff, reduceCtorEq, i32_succ, i32_pred, Nat.le_refl, Nat.lt_add_one, Nat.reduceLT, ne_eq, Nat.add_one_ne_zero]
      · have : o < i := by omega
        simp only [h1, h2, h3, this, decide_true, bz_t, ↓forall_eq, bz_b, gR_sI, gR_sJ, gJ_sI, gI_sJ, gN_sI, gN_sJ, gI_sR, gJ_sR, gN_sR, gI_sI, gJ_sJ, gR_sR, gI_nW, gR_nW, gN_nW, gJ_nW, rM_at, rXs_at, rXd_at, ex_s, true_and, and_true, false_and, and_false, or_true, true_or, or_false, false_or, if_true, if_false, not_true_eq_false, not_false_eq_true, forall_const, true_implies, false_implies, implies_true, Nat.reduceLeDiff, Nat.reduceEqDiff, reduceCtorEq, i32_succ, i32_pred, Nat.le_refl, Nat.lt_add_one, Nat.reduceLT, ne_eq, Nat.add_one_ne_zero]
    · by_cases h3 : wo m i ≤ wo m o
      · simp only [h1, h2, h3, decide_true, Bool.not_true, Bool.false_eq_true, bz_f, ↓forall_eq, bz_b, gR_sI, gR_sJ, gJ_sI, gI_sJ, gN_sI, gN_sJ, gI_sR, gJ_sR, gN_sR, gI_sI, gJ_sJ, gR_sR, gI_nW, gR_nW, gN_nW, gJ_nW, rM_at, rXs_at, rXd_at, ex_s, true_and, and_true, false_and, and_false, or_true, true_or, or_false, false_or, if_true, if_false, not_true_eq_false, not_false_eq_true, forall_const, true_implies, false_implies, implies_true, Nat.reduceLeDiff, Nat.reduceEqDiff, reduceCtorEq, i32_succ, i32_pred, Nat.le_refl, Nat.lt_add_one, Nat.reduceLT, ne_eq, Nat.add_one_ne_zero]
      · simp only [h1, h2, h3, decide_false, Bool.not_false, bz_t, ↓forall_eq, bz_b, gR_sI, gR_sJ, gJ_sI, gI_sJ, gN_sI, gN_sJ, gI_sR, gJ_sR, gN_sR, gI_sI, gJ_sJ, gR_sR, gI_nW, gR_nW, gN_nW, gJ_nW, rM_at, rXs_at, rXd_at, ex_s, true_and, and_true, false_and, and_false, or_true, true_or, or_false, false_or, if_true, if_false, not_true_eq_false, not_false_eq_true, forall_const, true_implies, false_implies, implies_true, Nat.reduceLeDiff, Nat.reduceEqDiff, reduceCtorEq, i32_succ, i32_pred, Nat.le_refl, Nat.lt_add_one, Nat.reduceLT, ne_eq, Nat.add_one_ne_zero]
  · by_cases h3 : scr m d o ≤ scr m d i
    · simp only [h1, h3, decide_true, Bool.not_true, Bool.false_eq_true, bz_f, ↓forall_eq, bz_b, gR_sI, gR_sJ, gJ_sI, gI_sJ, gN_sI, gN_sJ, gI_sR, gJ_sR, gN_sR, gI_sI, gJ_sJ, gR_sR, gI_nW, gR_nW, gN_nW, gJ_nW, rM_at, rXs_at, rXd_at, ex_s, true_and, and_true, false_and, and_false, or_true, true_or, or_false, false_or, if_true, if_false, not_true_eq_false, not_false_eq_true, forall_const, true_implies, false_implies, implies_true, Nat.reduceLeDiff, Nat.reduceEqDiff, reduceCtorEq, i32_succ, i32_pred, Nat.le_refl, Nat.lt_add_one, Nat.reduceLT, ne_eq, Nat.add_one_ne_zero]
    · simp only [h1, h3, decide_false, Bool.not_false, bz_t, ↓forall_eq, bz_b, gR_sI, gR_sJ, gJ_sI, gI_sJ, gN_sI, gN_sJ, gI_sR, gJ_sR, gN_sR, gI_sI, gJ_sJ, gR_sR, gI_nW, gR_nW, gN_nW, gJ_nW, rM_at, rXs_at, rXd_at, ex_s, true_and, and_true, false_and, and_false, or_true, true_or, or_false, false_or, if_true, if_false, not_true_eq_false, not_false_eq_true, forall_const, true_implies, false_implies, implies_true, Nat.reduceLeDiff, Nat.reduceEqDiff, reduceCtorEq, i32_succ, i32_pred, Nat.le_refl, Nat.lt_add_one, Nat.reduceLT, ne_eq, Nat.add_one_ne_zero]
set_option maxRecDepth 16384 in
theorem xX_ahead {x m τ : tw_T} {nl d i : Nat} {Q : Int32 → tw_T → Prop} (hI : InvA x m d nl τ) (h0 : gR τ 0 = rXs 11) (h12 : gI τ 0 0 12 = i32 nl) (hn : nl ≤ 60) (hi : i < nl) (hQ : Q (i32 (ahN m nl d i)) τ) : F_X9_matchedAhead τ 0 (i32 i) Q := by
  have hl : ∀ (d2 o : Nat), o + d2 = nl → L_X9_matchedAhead_4 0 (i32 i) Q (fun (τ11 : tw_T) (z12 : Int32) (z13 : Int32) => Q z12 τ11) (d2 + 1) τ (i32 (cnt (aheadB m d i) o)) (i32 o) := by
    intro d2
    induction d2 with
    | zero =>
      intro o ho
      have f2 : i32 nl ≤ i32 o := (le_i32 (by omega) (by omega)).mpr (by omega)
      have : o = nl := by omega
      rw [L_X9_matchedAhead_4]; simp only [h12, f2, ↓forall_eq, bz_b, gR_sI, gR_sJ, gJ_sI, gI_sJ, gN_sI, gN_sJ, gI_sR, gJ_sR, gN_sR, gI_sI, gJ_sJ, gR_sR, gI_nW, gR_nW, gN_nW, gJ_nW, rM_at, rXs_at, rXd_at, ex_s, true_and, and_true, false_and, and_false, or_true, true_or, or_false, false_or, if_true, if_false, not_true_eq_false, not_false_eq_true, forall_const, true_implies, false_implies, implies_true, Nat.reduceLeDiff, Nat.reduceEqDiff, reduceCtorEq, i32_succ, i32_pred, Nat.le_refl, Nat.lt_add_one, Nat.reduceLT, ne_eq, Nat.add_one_ne_zero]; rw [this]; exact hQ
    | succ d2 ih2 =>
      intro o ho
      have f2 : ¬ i32 nl ≤ i32 o := fun h => absurd ((le_i32 (by omega) (by omega)).mp h) (by omega)
      have f3 := vpin (show o < 60 by omega) (by decide)
      have f4 := i32_nat (show o < 2147483648 by omega)
      have ih3 := ih2 (o + 1) (by omega)
      simp only [cnt] at ih3
      rw [L_X9_matchedAhead_4]; simp only [h12, f2, h0, f3, f4, (hI.2.2.2.2 o (by omega)).1, bz_eq0, xX_goes hI h0 hn (show o < nl by omega) hi, J_X9_matchedAhead_33, ↓forall_eq, bz_b, gR_sI, gR_sJ, gJ_sI, gI_sJ, gN_sI, gN_sJ, gI_sR, gJ_sR, gN_sR, gI_sI, gJ_sJ, gR_sR, gI_nW, gR_nW, gN_nW, gJ_nW, rM_at, rXs_at, rXd_at, ex_s, true_and, and_true, false_and, and_false, or_true, true_or, or_false, false_or, if_true, if_false, not_true_eq_false, not_false_eq_true, forall_const, true_implies, false_implies, implies_true, Nat.reduceLeDiff, Nat.reduceEqDiff, reduceCtorEq, i32_succ, i32_pred, Nat.le_refl, Nat.lt_add_one, Nat.reduceLT, ne_eq, Nat.add_one_ne_zero]
      refine ⟨fun h8 => ?_, fun h8 => ⟨fun h7 => ?_, fun h7 => ?_⟩⟩
      · have : aheadB m d i o = false := by unfold aheadB; rw [Bool.not_eq_true] at h8; rw [h8, Bool.false_and]
        rw [this] at ih3
        simpa only [Bool.false_eq_true, if_false, Nat.add_zero] using ih3
      · have : aheadB m d i o = false := by unfold aheadB; rw [Bool.not_eq_true] at h7; rw [h7, Bool.and_false]
        rw [this] at ih3
        simpa only [Bool.false_eq_true, if_false, Nat.add_zero] using ih3
      · have : aheadB m d i o = true := by unfold aheadB; rw [Decidable.of_not_not h8, Decidable.of_not_not h7]; rfl
        rw [this] at ih3
        simpa only [if_true] using ih3
  exact ⟨nl + 1, hl nl 0 (by omega)⟩
set_option maxRecDepth 16384 in
set_option maxHeartbeats 1000000 in
theorem xX_match2 {x m τ : tw_T} {nl d : Nat} {k : Int32} {Q : Int32 → tw_T → Prop} {X : Nat → tw_T → Prop} (hI : InvA x m d nl τ) (h0 : gR τ 0 = rXs 11) (h12 : gI τ 0 0 12 = i32 nl) (hn : nl ≤ 60) : ∀ (dd i : Nat), i + dd = nl →
    Q (mF (fun i => mtB m i && decide (i32 (ahN m nl d i) = k)) dd i) τ → L_X9_match_113 0 k Q X (fun (τ48 : tw_T) (z49 : Int32) => Q ((-1 : Int32)) τ48) (dd + 1) τ (i32 i) := by
  intro dd
  induction dd with
  | zero =>
    intro i hi hQ
    have f1 : i32 nl ≤ i32 i := (le_i32 (by omega) (by omega)).mpr (by omega)
    rw [L_X9_match_113]; simp only [h12, f1, ↓forall_eq, bz_b, gR_sI, gR_sJ, gJ_sI, gI_sJ, gN_sI, gN_sJ, gI_sR, gJ_sR, gN_sR, gI_sI, gJ_sJ, gR_sR, gI_nW, gR_nW, gN_nW, gJ_nW, rM_at, rXs_at, rXd_at, ex_s, true_and, and_true, false_and, and_false, or_true, true_or, or_false, false_or, if_true, if_false, not_true_eq_false, not_false_eq_true, forall_const, true_implies, false_implies, implies_true, Nat.reduceLeDiff, Nat.reduceEqDiff, reduceCtorEq, i32_succ, i32_pred, Nat.le_refl, Nat.lt_add_one, Nat.reduceLT, ne_eq, Nat.add_one_ne_zero]; exact hQ
  | succ dd ih =>
    intro i hi hQ
    have f1 : ¬ i32 nl ≤ i32 i := fun h => absurd ((le_i32 (by omega) (by omega)).mp h) (by omega)
    have f3 := vpin (show i < 60 by omega) (by decide)
    have f4 := i32_nat (show i < 2147483648 by omega)
    rw [mF] at hQ
    rw [L_X9_match_113]; simp only [h12, f1, h0, f3, f4, (hI.2.2.2.2 i (by omega)).1, bz_eq0, J_X9_match_145, ↓forall_eq, bz_b, gR_sI, gR_sJ, gJ_sI, gI_sJ, gN_sI, gN_sJ, gI_sR, gJ_sR, gN_sR, gI_sI, gJ_sJ, gR_sR, gI_nW, gR_nW, gN_nW, gJ_nW, rM_at, rXs_at, rXd_at, ex_s, true_and, and_true, false_and, and_false, or_true, true_or, or_false, false_or, if_true, if_false, not_true_eq_false, not_false_eq_true, forall_const, true_implies, false_implies, implies_true, Nat.reduceLeDiff, Nat.reduceEqDiff, reduceCtorEq, i32_succ, i32_pred, Nat.le_refl, Nat.lt_add_one, Nat.reduceLT, ne_eq, Nat.add_one_ne_zero]
    refine ⟨fun h1 => ?_, fun h1 => xX_ahead hI h0 h12 hn (by omega) ?_⟩
    · rw [Bool.not_eq_true] at h1
      refine ih (i + 1) (by omega) ?_
      simp only [h1, Bool.false_and, Bool.false_eq_true, if_false] at hQ
      exact hQ
    · have h1 := Decidable.of_not_not h1
      refine ⟨fun h9 => ?_, fun h9 => ?_⟩
      · refine ih (i + 1) (by omega) ?_
        simp only [h1, h9, decide_false, Bool.and_false, Bool.false_eq_true, if_false] at hQ
        exact hQ
      · simp only [h1, h9, decide_true, Bool.and_self, if_true] at hQ
        exact hQ
set_option maxRecDepth 16384 in
theorem mtB_t {m : tw_T} {t : Int32} {i : Nat} : mtB (sI m 0 0 0 t) i = mtB m i := by
  unfold mtB; simp only [hI_s, hI_n, hJ_s, hJ_n, hR_s, hR_n, hIW_s, hIW_n, hJW_s, hJW_n, hRW_s, hRW_n, hNW_s, hNW_n, hRM_s, hRM_n, u2_s, u2_j, u2_row, u2_kk, gR_sI, gR_sJ, gJ_sI, gI_sJ, gN_sI, gN_sJ, gI_sR, gJ_sR, gN_sR, gI_sM, gJ_sM, gN_sM, ne_eq, Nat.reduceEqDiff, not_false_eq_true, reduceCtorEq, true_implies]
set_option maxRecDepth 16384 in
theorem wo_t {m : tw_T} {t : Int32} {i : Nat} : wo (sI m 0 0 0 t) i = wo m i := by
  unfold wo wM; simp only [hI_s, hI_n, hJ_s, hJ_n, hR_s, hR_n, hIW_s, hIW_n, hJW_s, hJW_n, hRW_s, hRW_n, hNW_s, hNW_n, hRM_s, hRM_n, u2_s, u2_j, u2_row, u2_kk, gR_sI, gR_sJ, gJ_sI, gI_sJ, gN_sI, gN_sJ, gI_sR, gJ_sR, gN_sR, gI_sM, gJ_sM, gN_sM, ne_eq, Nat.reduceEqDiff, not_false_eq_true, reduceCtorEq, true_implies]
set_option maxRecDepth 16384 in
theorem ahN_t {m : tw_T} {t : Int32} {nl d i : Nat} : ahN (sI m 0 0 0 t) nl d i = ahN m nl d i := by
  unfold ahN aheadB; simp only [mtB_t, wo_t, scr_t]
set_option maxRecDepth 16384 in
set_option maxHeartbeats 1000000 in
theorem op_match (n : Nat) (x m : tw_T) (a : Int32) (k : Int32) (v : Int64) (h : Rel n x m) :
    F_L_match x 0 a k v (fun kk ww x9 => F_X10_match m 0 a k (fun rr m9 => gI m9 0 0 0 = kk ∧ (kk = 0 → ww = rr.toInt64) ∧ Rel (n + 1) x9 m9)) := by
  have hr := h
  obtain ⟨nk, nl, no, nt, nd, na, ns, hA⟩ := h
  have hA0 := hA
  obtain ⟨hM, hX0, hK0, hL0, hC0, hO0, hG0, hT0, hD0, hW0⟩ := hA
  have x0 := hX0.1
  have l1 := hL0.1
  have d1 := hD0.1
  have d2 := hD0.2.1
  have d3 := hD0.2.2.1
  by_cases p1 : 0 ≤ a.toInt ∧ a.toInt < nd
  rotate_left
  · simp only [F_L_match, F_X9_match, xX_dishAt_bad d2 d1 p1, F_X10_match, eM_isDish d3 d1, p1, pu_00, pu_10, ↓forall_eq, bz_b, gR_sI, gR_sJ, gJ_sI, gI_sJ, gN_sI, gN_sJ, gI_sR, gJ_sR, gN_sR, gI_sI, gJ_sJ, gR_sR, gI_nW, gR_nW, gN_nW, gJ_nW, rM_at, rXs_at, rXd_at, ex_s, true_and, and_true, false_and, and_false, or_true, true_or, or_false, false_or, if_true, if_false, not_true_eq_false, not_false_eq_true, forall_const, true_implies, false_implies, implies_true, Nat.reduceLeDiff, Nat.reduceEqDiff, reduceCtorEq, i32_succ, i32_pred, Nat.le_refl, Nat.lt_add_one, Nat.reduceLT, ne_eq, Nat.add_one_ne_zero]
    exact hr.t.t.up
  obtain ⟨d, rfl, hd1, hd2⟩ := i32_of (x := a) p1.1
  have hd : d < nd := by omega
  have dr := (hD0.2.2.2.2.2.2.2.2.2.1 d (by have := hD0.2.2.2.1; omega)).1
  simp only [F_L_match, F_X9_match, xX_dishAt x0 d2 d1 hd dr, xX_year, hG0.1, ↓forall_eq, bz_b, gR_sI, gR_sJ, gJ_sI, gI_sJ, gN_sI, gN_sJ, gI_sR, gJ_sR, gN_sR, gI_sI, gJ_sJ, gR_sR, gI_nW, gR_nW, gN_nW, gJ_nW, rM_at, rXs_at, rXd_at, ex_s, true_and, and_true, false_and, and_false, or_true, true_or, or_false, false_or, if_true, if_false, not_true_eq_false, not_false_eq_true, forall_const, true_implies, false_implies, implies_true, Nat.reduceLeDiff, Nat.reduceEqDiff, reduceCtorEq, i32_succ, i32_pred, Nat.le_refl, Nat.lt_add_one, Nat.reduceLT, ne_eq, Nat.add_one_ne_zero]
  refine ⟨nl + 1, hA0.matchX1 hd (fun τ hI => ?_) nl 0 x (by omega) ⟨rfl, rfl, rfl, fun _ _ _ _ => rfl, fun o ho => by omega⟩⟩
  have hT := hI.a hA0
  refine ⟨nl + 1, xX_match2 hI hT.2.1.1 hT.2.2.2.1.2.1 l1 nl 0 (by omega) ?_⟩
  simp only [F_X10_match, eM_isDish d3 d1, p1, pu_00, pu_10, ↓forall_eq, bz_b, gR_sI, gR_sJ, gJ_sI, gI_sJ, gN_sI, gN_sJ, gI_sR, gJ_sR, gN_sR, gI_sI, gJ_sJ, gR_sR, gI_nW, gR_nW, gN_nW, gJ_nW, rM_at, rXs_at, rXd_at, ex_s, true_and, and_true, false_and, and_false, or_true, true_or, or_false, false_or, if_true, if_false, not_true_eq_false, not_false_eq_true, forall_const, true_implies, false_implies, implies_true, Nat.reduceLeDiff, Nat.reduceEqDiff, reduceCtorEq, i32_succ, i32_pred, Nat.le_refl, Nat.lt_add_one, Nat.reduceLT, ne_eq, Nat.add_one_ne_zero]
  refine ⟨nl + 1, (hA0.t (t := 0)).matchM hd nl 0 (by omega) ?_⟩
  simp only [mtB_t, ahN_t]
  have z : gI (sI m 0 0 0 0) 0 0 0 = 0 := by simp [gI_sI]
  have R : Rel (n + 1) τ (sI m 0 0 0 0) := hT.rel.t.up
  first | exact ⟨z, fun _ => rfl, R⟩ | exact ⟨z, rfl, R⟩ | exact ⟨z, R⟩ | (simp only [z, ↓forall_eq, bz_b, gR_sI, gR_sJ, gJ_sI, gI_sJ, gN_sI, gN_sJ, gI_sR, gJ_sR, gN_sR, gI_sI, gJ_sJ, gR_sR, gI_nW, gR_nW, gN_nW, gJ_nW, rM_at, rXs_at, rXd_at, ex_s, true_and, and_true, false_and, and_false, or_true, true_or, or_false, false_or, if_true, if_false, not_true_eq_false, not_false_eq_true, forall_const, true_implies, false_implies, implies_true, Nat.reduceLeDiff, Nat.reduceEqDiff, reduceCtorEq, i32_succ, i32_pred, Nat.le_refl, Nat.lt_add_one, Nat.reduceLT, ne_eq, Nat.add_one_ne_zero]; exact R)
