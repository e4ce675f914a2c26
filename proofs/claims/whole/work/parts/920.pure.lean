/-! ===== hours go by ===== -/
set_option maxRecDepth 16384 in
def kp (s : Int32) : Int32 := if s = 0 then 48 else if s = 1 then 12 else 240
set_option maxRecDepth 16384 in
theorem kp_getD {s : Int32} (h1 : 0 ≤ s.toInt) (h2 : s.toInt ≤ 2) : ([48, 12, 240] : List Int32).getD s.toNatClampNeg 0 = kp s := by
  have h : s = 0 ∨ s = 1 ∨ s = 2 := by
    have : s.toInt = 0 ∨ s.toInt = 1 ∨ s.toInt = 2 := by omega
    rcases this with h | h | h
    · exact Or.inl (i32_ext h)
    · exact Or.inr (Or.inl (i32_ext h))
    · exact Or.inr (Or.inr (i32_ext h))
  rcases h with rfl | rfl | rfl <;> decide
set_option maxRecDepth 16384 in
theorem xX_overdue {x : tw_T} {i q : Nat} {H : Int32} {Q : Int32 → tw_T → Prop} (hq : gR x 21 i 1 = some q) (h1 : 0 ≤ (gI x 20 q 0).toInt) (h2 : (gI x 20 q 0).toInt ≤ 2) : F_X3_isOverdue x i H Q ↔ Q (bz (1 ≤ (gI x 21 i 7).toInt ∧ ¬ H - gI x 21 i 6 < kp (gI x 20 q 0))) x := by
  have hk := kp_getD h1 h2
  have hin : vp_in (gI x 20 q 0) 3 := (vpin_iff (by decide)).mpr ⟨h1, by omega⟩
  unfold F_X3_isOverdue
  simp only [xX_isOpen, bz_eq0, hq, hk, hin, ↓forall_eq, bz_b, gR_sI, gR_sJ, gJ_sI, gI_sJ, gN_sI, gN_sJ, gI_sR, gJ_sR, gN_sR, gI_sI, gJ_sJ, gR_sR, gI_nW, gR_nW, gN_nW, gJ_nW, rM_at, rXs_at, rXd_at, ex_s, true_and, and_true, false_and, and_false, or_true, true_or, or_false, false_or, if_true, if_false, not_true_eq_false, not_false_eq_true, forall_const, true_implies, false_implies, implies_true, Nat.reduceLeDiff, Nat.reduceEqDiff, reduceCtorEq, i32_succ, i32_pred, Nat.le_refl, Nat.lt_add_one, Nat.reduceLT, ne_eq, Nat.add_one_ne_zero]
  by_cases a : 1 ≤ (gI x 21 i 7).toInt
  · by_cases b : H - gI x 21 i 6 < kp (gI x 20 q 0)
    · simp only [a, b, bz_f, ↓forall_eq, bz_b, gR_sI, gR_sJ, gJ_sI, gI_sJ, gN_sI, gN_sJ, gI_sR, gJ_sR, gN_sR, gI_sI, gJ_sJ, gR_sR, gI_nW, gR_nW, gN_nW, gJ_nW, rM_at, rXs_at, rXd_at, ex_s, true_and, and_true, false_and, and_false, or_true, true_or, or_false, false_or, if_true, if_false, not_true_eq_false, not_false_eq_true, forall_const, true_implies, false_implies, implies_true, Nat.reduceLeDiff, Nat.reduceEqDiff, reduceCtorEq, i32_succ, i32_pred, Nat.le_refl, Nat.lt_add_one, Nat.reduceLT, ne_eq, Nat.add_one_ne_zero]
    · simp only [a, b, bz_t, ↓forall_eq, bz_b, gR_sI, gR_sJ, gJ_sI, gI_sJ, gN_sI, gN_sJ, gI_sR, gJ_sR, gN_sR, gI_sI, gJ_sJ, gR_sR, gI_nW, gR_nW, gN_nW, gJ_nW, rM_at, rXs_at, rXd_at, ex_s, true_and, and_true, false_and, and_false, or_true, true_or, or_false, false_or, if_true, if_false, not_true_eq_false, not_false_eq_true, forall_const, true_implies, false_implies, implies_true, Nat.reduceLeDiff, Nat.reduceEqDiff, reduceCtorEq, i32_succ, i32_pred, Nat.le_refl, Nat.lt_add_one, Nat.reduceLT, ne_eq, Nat.add_one_ne_zero]
  · simp only [a, bz_f, ↓forall_eq, bz_b, gR_sI, gR_sJ, gJ_sI, gI_sJ, gN_sI, gN_sJ, gI_sR, gJ_sR, gN_sR, gI_sI, gJ_sJ, gR_sR, gI_nW, gR_nW, gN_nW, gJ_nW, rM_at, rXs_at, rXd_at, ex_s, true_and, and_true, false_and, and_false, or_true, true_or, or_false, false_or, if_true, if_false, not_true_eq_false, not_false_eq_true, forall_const, true_implies, false_implies, implies_true, Nat.reduceLeDiff, Nat.reduceEqDiff, reduceCtorEq, i32_succ, i32_pred, Nat.le_refl, Nat.lt_add_one, Nat.reduceLT, ne_eq, Nat.add_one_ne_zero]
set_option maxRecDepth 16384 in
theorem eM_keeps {m : tw_T} {l q : Nat} {Q : Int32 → tw_T → Prop} (hM : gR m = rM) (hl : l < 60) (hk : gI m 110 0 l = i32 q) (hq : q < 20) : F_X10_keeps m 0 (i32 l) Q ↔ Q (kp (gI m 105 0 q)) m := by
  have e3 := vpin hl (by decide)
  have e4 := i32_nat (show l < 2147483648 by omega)
  have e5 := vpin hq (by decide)
  have e6 := i32_nat (show q < 2147483648 by omega)
  unfold F_X10_keeps kp
  simp only [hM, hk, e3, e4, e5, e6, ↓forall_eq, bz_b, gR_sI, gR_sJ, gJ_sI, gI_sJ, gN_sI, gN_sJ, gI_sR, gJ_sR, gN_sR, gI_sI, gJ_sJ, gR_sR, gI_nW, gR_nW, gN_nW, gJ_nW, rM_at, rXs_at, rXd_at, ex_s, true_and, and_true, false_and, and_false, or_true, true_or, or_false, false_or, if_true, if_false, not_true_eq_false, not_false_eq_true, forall_const, true_implies, false_implies, implies_true, Nat.reduceLeDiff, Nat.reduceEqDiff, reduceCtorEq, i32_succ, i32_pred, Nat.le_refl, Nat.lt_add_one, Nat.reduceLT, ne_eq, Nat.add_one_ne_zero]
  by_cases a : gI m 105 0 q = 0
  · simp only [a, ↓forall_eq, bz_b, gR_sI, gR_sJ, gJ_sI, gI_sJ, gN_sI, gN_sJ, gI_sR, gJ_sR, gN_sR, gI_sI, gJ_sJ, gR_sR, gI_nW, gR_nW, gN_nW, gJ_nW, rM_at, rXs_at, rXd_at, ex_s, true_and, and_true, false_and, and_false, or_true, true_or, or_false, false_or, if_true, if_false, not_true_eq_false, not_false_eq_true, forall_const, true_implies, false_implies, implies_true, Nat.reduceLeDiff, Nat.reduceEqDiff, reduceCtorEq, i32_succ, i32_pred, Nat.le_refl, Nat.lt_add_one, Nat.reduceLT, ne_eq, Nat.add_one_ne_zero]
  · by_cases b : gI m 105 0 q = 1
    · simp only [b, pu_10, ↓forall_eq, bz_b, gR_sI, gR_sJ, gJ_sI, gI_sJ, gN_sI, gN_sJ, gI_sR, gJ_sR, gN_sR, gI_sI, gJ_sJ, gR_sR, gI_nW, gR_nW, gN_nW, gJ_nW, rM_at, rXs_at, rXd_at, ex_s, true_and, and_true, false_and, and_false, or_true, true_or, or_false, false_or, if_true, if_false, not_true_eq_false, not_false_eq_true, forall_const, true_implies, false_implies, implies_true, Nat.reduceLeDiff, Nat.reduceEqDiff, reduceCtorEq, i32_succ, i32_pred, Nat.le_refl, Nat.lt_add_one, Nat.reduceLT, ne_eq, Nat.add_one_ne_zero]
    · simp only [a, b, ↓forall_eq, bz_b, gR_sI, gR_sJ, gJ_sI, gI_sJ, gN_sI, gN_sJ, gI_sR, gJ_sR, gN_sR, gI_sI, gJ_sJ, gR_sR, gI_nW, gR_nW, gN_nW, gJ_nW, rM_at, rXs_at, rXd_at, ex_s, true_and, and_true, false_and, and_false, or_true, true_or, or_false, false_or, if_true, if_false, not_true_eq_false, not_false_eq_true, forall_const, true_implies, false_implies, implies_true, Nat.reduceLeDiff, Nat.reduceEqDiff, reduceCtorEq, i32_succ, i32_pred, Nat.le_refl, Nat.lt_add_one, Nat.reduceLT, ne_eq, Nat.add_one_ne_zero]
set_option maxRecDepth 16384 in
/-- a sum of the first n -/
def sU (g : Nat → Int32) : Nat → Int32
  | 0 => 0
  | n + 1 => sU g n + g n
set_option maxRecDepth 16384 in
theorem sU_congr {g g' : Nat → Int32} : ∀ n, (∀ l, l < n → g l = g' l) → sU g n = sU g' n := by
  intro n
  induction n with
  | zero => intro _; rfl
  | succ n ih => intro h; simp only [sU]; rw [ih (fun l hl => h l (by omega)), h n (by omega)]
set_option maxRecDepth 16384 in
theorem sU_zero {g : Nat → Int32} : ∀ n, (∀ l, l < n → g l = 0) → sU g n = 0 := by
  intro n
  induction n with
  | zero => intro _; rfl
  | succ n ih => intro h; simp only [sU]; rw [ih (fun l hl => h l (by omega)), h n (by omega)]; rfl
set_option maxRecDepth 16384 in
theorem sU_drop {g g' : Nat → Int32} {l : Nat} : ∀ n, l < n → g' l = 0 → (∀ i, i ≠ l → g' i = g i) → sU g n = sU g' n + g l := by
  intro n
  induction n with
  | zero => intro h; omega
  | succ n ih =>
    intro h h2 h3
    simp only [sU]
    by_cases e : l = n
    · subst e
      rw [h2, sU_congr (g := g) (g' := g') l (fun i hi => (h3 i (by omega)).symm), Int32.add_zero]
    · rw [ih (by omega) h2 h3, h3 n (by omega), Int32.add_assoc, Int32.add_assoc, Int32.add_comm (g l)]
set_option maxRecDepth 16384 in
theorem cnt_zero {p : Nat → Bool} : ∀ n, (∀ l, l < n → p l = false) → cnt p n = 0 := by
  intro n
  induction n with
  | zero => intro _; rfl
  | succ n ih => intro h; simp only [cnt]; rw [ih (fun l hl => h l (by omega)), h n (by omega)]; rfl
set_option maxRecDepth 16384 in
theorem RO.congrL {nl no : Nat} {hour : Int32} {xl xl' : Nat → Nat → Int32} {op : Int32} {ol oh of : Nat → Int32} (h : RO nl hour no xl op ol oh of) (h6 : ∀ l, l < nl → xl' l 6 = xl l 6) (h7 : ∀ l, l < nl → xl' l 7 = xl l 7) : RO nl hour no xl' op ol oh of := by
  obtain ⟨o1, o2, o3, o4, o5, o6⟩ := h
  refine ⟨o1, fun i hi => ?_, fun k hk => ?_, o4, fun l hl h1 => ?_, ?_⟩
  · rw [h6 i hi, h7 i hi]; exact o2 i hi
  · obtain ⟨l, t1, t2, t3, t4, t5⟩ := o3 k hk
    exact ⟨l, t1, t2, by rw [h7 l t1]; exact t3, by rw [h6 l t1]; exact t4, t5⟩
  · rw [h7 l hl] at h1; exact o5 l hl h1
  · rw [o6]; exact cnt_congr nl (fun l hl => by rw [h7 l hl])
set_option maxRecDepth 16384 in
theorem RO.later {nl no : Nat} {hour H : Int32} {xl : Nat → Nat → Int32} {op : Int32} {ol oh of : Nat → Int32} (h : RO nl hour no xl op ol oh of) (hH : hour.toInt ≤ H.toInt) : RO nl H no xl op ol oh of := by
  obtain ⟨o1, o2, o3, o4, o5, o6⟩ := h
  exact ⟨o1, fun i hi => by have := o2 i hi; omega, o3, o4, o5, o6⟩
set_option maxRecDepth 16384 in
/-- due at H -/
def due (m : tw_T) (xl : Nat → Nat → Int32) (H : Int32) (l : Nat) : Bool := !decide (H - xl l 6 < kp (gI m 105 0 (gI m 110 0 l).toNatClampNeg))
set_option maxRecDepth 16384 in
def odB (m : tw_T) (xl : Nat → Nat → Int32) (H : Int32) (l : Nat) : Bool := decide (1 ≤ (xl l 7).toInt) && due m xl H l
set_option maxRecDepth 16384 in
def InvX (x : tw_T) (od : Nat → Bool) (H : Int32) (i : Nat) (τ : tw_T) : Prop :=
  gR τ = gR x ∧ gJ τ = gJ x ∧ gN τ = gN x ∧ (∀ f, f ≠ 0 → f ≠ 7 → f ≠ 21 → gI τ f = gI x f) ∧ (∀ j, j ≠ 15 → gI τ 0 0 j = gI x 0 0 j) ∧ gI τ 0 0 15 = H ∧ (∀ j, j ≠ 3 → j ≠ 6 → gI τ 7 0 j = gI x 7 0 j) ∧
  gI τ 7 0 3 = gI x 7 0 3 + i32 (cnt od i) ∧ gI τ 7 0 6 = gI x 7 0 6 + sU (fun l => if od l = true then gI x 21 l 7 else 0) i ∧ (∀ k j, j ≠ 7 → gI τ 21 k j = gI x 21 k j) ∧ (∀ k, gI τ 21 k 7 = if k < i ∧ od k = true then 0 else gI x 21 k 7)
set_option maxRecDepth 16384 in
theorem xX_wait_l {n nk nl no nt nd na ns : Nat} {x m : tw_T} {H : Int32} {Q : Int32 → tw_T → Prop} {X : Nat → tw_T → Prop} {EX : tw_T → Int32 → Prop} (hA : RelA n nk nl no nt nd na ns x m) : ∀ (d i : Nat) (τ : tw_T), i + d = nl → InvX x (odB m (gI x 21) H) H i τ →
    (∀ τ', InvX x (odB m (gI x 21) H) H nl τ' → EX τ' (i32 nl)) → L_X9_wait_58 0 Q X EX (d + 1) τ (i32 i) := by
  have hA0 := hA
  obtain ⟨hM, hX0, hK0, hL0, hC0, hO0, hG0, hT0, hD0, hW0⟩ := hA
  have x0 := hX0.1
  have l1 := hL0.1
  have l2 := hL0.2.1
  intro d
  induction d with
  | zero =>
    intro i τ hi hI hQ
    have e1 : i32 nl ≤ i32 i := (le_i32 (by omega) (by omega)).mpr (by omega)
    have hi' : i = nl := by omega
    have e2 : gI τ 0 0 12 = i32 nl := by rw [hI.2.2.2.2.1 12 (by decide)]; exact l2
    rw [L_X9_wait_58]; simp only [e2, e1, ↓forall_eq, bz_b, gR_sI, gR_sJ, gJ_sI, gI_sJ, gN_sI, gN_sJ, gI_sR, gJ_sR, gN_sR, gI_sI, gJ_sJ, gR_sR, gI_nW, gR_nW, gN_nW, gJ_nW, rM_at, rXs_at, rXd_at, ex_s, true_and, and_true, false_and, and_false, or_true, true_or, or_false, false_or, if_true, if_false, not_true_eq_false, not_false_eq_true, forall_const, true_implies, false_implies, implies_true, Nat.reduceLeDiff, Nat.reduceEqDiff, reduceCtorEq, i32_succ, i32_pred, Nat.le_refl, Nat.lt_add_one, Nat.reduceLT, ne_eq, Nat.add_one_ne_zero]; rw [hi'] at hI ⊢; exact hQ τ hI
  | succ d ih =>
    intro i τ hi hI hQ
    have e1 : ¬ i32 nl ≤ i32 i := fun h => absurd ((le_i32 (by omega) (by omega)).mp h) (by omega)
    obtain ⟨i1, i2, i3, i4, i5, i6, i7, i8, i9, i10, i11⟩ := hI
    have e2 : gI τ 0 0 12 = i32 nl := by rw [i5 12 (by decide)]; exact l2
    have e3 := vpin (show i < 60 by omega) (by decide)
    have e4 := i32_nat (show i < 2147483648 by omega)
    have hil : i < nl := by omega
    obtain ⟨q, q1, q2, q3, q4, q5, q6, q7, q8, q9, q10, q11, -⟩ := hA0.lot hil
    obtain ⟨b1, b2, b3, b4, b5, b6, b7, b8, -⟩ := hK0.2.2.2.2 q q1
    have s0 : gI τ 20 q 0 = gI m 105 0 q := by rw [i4 20 (by decide) (by decide) (by decide)]; exact q11
    have s7 : gI τ 21 i 7 = gI x 21 i 7 := by rw [i11 i, if_neg (by omega)]
    have s6 : gI τ 21 i 6 = gI x 21 i 6 := i10 i 6 (by decide)
    have hod : (1 ≤ (gI x 21 i 7).toInt ∧ ¬ H - gI x 21 i 6 < kp (gI m 105 0 q)) ↔ odB m (gI x 21) H i = true := by
      unfold odB due
      rw [q3, i32_nat (by omega)]
      simp only [Bool.and_eq_true, decide_eq_true_eq, Bool.not_eq_true', decide_eq_false_iff_not]
    have hov : ∀ Q' : Int32 → tw_T → Prop, F_X3_isOverdue τ i H Q' ↔ Q' (bz (odB m (gI x 21) H i = true)) τ := by
      intro Q'
      rw [xX_overdue (q := q) (by rw [i1]; exact q4) (by rw [s0]; exact b7) (by rw [s0]; exact b8), s7, s6, s0, bz_congr hod]
    rw [L_X9_wait_58]; simp only [e2, e1, e3, e4, i1, x0, q5, i6, hov, bz_eq0, J_X9_wait_126, ↓forall_eq, bz_b, gR_sI, gR_sJ, gJ_sI, gI_sJ, gN_sI, gN_sJ, gI_sR, gJ_sR, gN_sR, gI_sI, gJ_sJ, gR_sR, gI_nW, gR_nW, gN_nW, gJ_nW, rM_at, rXs_at, rXd_at, ex_s, true_and, and_true, false_and, and_false, or_true, true_or, or_false, false_or, if_true, if_false, not_true_eq_false, not_false_eq_true, forall_const, true_implies, false_implies, implies_true, Nat.reduceLeDiff, Nat.reduceEqDiff, reduceCtorEq, i32_succ, i32_pred, Nat.le_refl, Nat.lt_add_one, Nat.reduceLT, ne_eq, Nat.add_one_ne_zero]
    refine ⟨fun h9 => ?_, fun h9 => ?_⟩
    · refine ih (i + 1) τ (by omega) ⟨i1, i2, i3, i4, i5, i6, i7, ?_, ?_, i10, fun k => ?_⟩ hQ
      · rw [i8]; simp only [cnt, h9]; rfl
      · rw [i9]; simp only [sU, h9, Bool.false_eq_true, if_false, Int32.add_zero]
      · rw [i11 k]
        by_cases ek : k = i
        · rw [ek, if_neg (by omega), if_neg (fun h8 => h9 h8.2)]
        · by_cases e5 : k < i ∧ odB m (gI x 21) H k = true
          · rw [if_pos e5, if_pos ⟨by omega, e5.2⟩]
          · rw [if_neg e5, if_neg (fun h8 => e5 ⟨by omega, h8.2⟩)]
    · have h9 : odB m (gI x 21) H i = true := Decidable.of_not_not h9
      refine ih (i + 1) _ (by omega) ⟨?_, ?_, ?_, fun f f1 f2 f3 => ?_, fun j hj => ?_, ?_, fun j j1 j2 => ?_, ?_, ?_, fun k j hj => ?_, fun k => ?_⟩ hQ
      · simpa only [gR_sI] using i1
      · simpa only [gJ_sI] using i2
      · simpa only [gN_sI] using i3
      · rw [hI_n f3, hI_n f2, hI_n f2]; exact i4 f f1 f2 f3
      · simp only [gI_sI, Nat.reduceEqDiff, false_and, if_false]; exact i5 j hj
      · simp only [gI_sI, Nat.reduceEqDiff, false_and, if_false]; exact i6
      · simp only [gI_sI, Nat.reduceEqDiff, false_and, if_false, true_and, j1, j2]; exact i7 j j1 j2
      · simp only [gI_sI, Nat.reduceEqDiff, false_and, and_false, and_self, if_false, if_true]
        rw [i8]; simp only [cnt, h9, if_true]
        rw [Int32.add_assoc, i32_succ]
      · simp only [gI_sI, Nat.reduceEqDiff, false_and, and_false, and_self, if_false, if_true]
        rw [i9, s7]; simp only [sU, h9, if_true]
        rw [Int32.add_assoc]
      · rw [gI_sI, if_neg (by omega)]
        simp only [gI_sI, Nat.reduceEqDiff, false_and, if_false]; exact i10 k j hj
      · by_cases ek : k = i
        · rw [ek, gI_sI, if_pos ⟨rfl, rfl, rfl⟩, if_pos ⟨by omega, h9⟩]
        · rw [gI_sI, if_neg (by omega)]
          simp only [gI_sI, Nat.reduceEqDiff, false_and, if_false]
          rw [i11 k]
          by_cases e5 : k < i ∧ odB m (gI x 21) H k = true
          · rw [if_pos e5, if_pos ⟨by omega, e5.2⟩]
          · rw [if_neg e5, if_neg (fun h8 => e5 ⟨by omega, h8.2⟩)]
set_option maxRecDepth 16384 in
/-- the reference's walk down its list: K entries are still to be looked at -/
def InvM (m : tw_T) (nl : Nat) (xl : Nat → Nat → Int32) (H : Int32) (K : Nat) (τ : tw_T) : Prop :=
  ∃ (no : Nat) (xl' : Nat → Nat → Int32), K ≤ no ∧ no ≤ nl ∧ RO nl H no xl' (gI τ 0 0 22) (gI τ 125 0) (gI τ 126 0) (gI τ 127 0) ∧ (∀ l j, j ≠ 7 → xl' l j = xl l j) ∧ (∀ l, xl' l 7 = xl l 7 ∨ (xl' l 7 = 0 ∧ due m xl H l = true)) ∧
  (∀ j l, K ≤ j → j < no → l < nl → gI τ 125 0 j = i32 l → due m xl H l = false) ∧
  gI τ 0 0 18 + i32 (cnt (fun l => decide (1 ≤ (xl' l 7).toInt) && due m xl H l) nl) = gI m 0 0 18 + i32 (cnt (odB m xl H) nl) ∧
  gI τ 0 0 21 + sU (fun l => if (decide (1 ≤ (xl' l 7).toInt) && due m xl H l) = true then xl' l 7 else 0) nl = gI m 0 0 21 + sU (fun l => if odB m xl H l = true then xl l 7 else 0) nl ∧
  gR τ = rM ∧ gJ τ = gJ m ∧ (∀ f, f ≠ 0 → f ≠ 125 → f ≠ 126 → f ≠ 127 → gI τ f = gI m f) ∧ (∀ j, j ≠ 0 → j ≠ 3 → j ≠ 18 → j ≠ 21 → j ≠ 22 → gI τ 0 0 j = gI m 0 0 j) ∧ gI τ 0 0 3 = H ∧ gI τ 0 0 0 = 0
set_option maxRecDepth 16384 in
set_option maxHeartbeats 1000000 in
theorem eM_wait_l {n nk nl no nt nd na ns : Nat} {x m : tw_T} {H : Int32} {Q : Int32 → tw_T → Prop} {EX : tw_T → Int32 → Prop} (hA : RelA n nk nl no nt nd na ns x m) : ∀ (K : Nat) (τ : tw_T), InvM m nl (gI x 21) H K τ →
    (∀ τ', InvM m nl (gI x 21) H 0 τ' → EX τ' (-1)) → L_X10_wait_63 0 Q EX (K + 1) τ (i32 K - 1) := by
  have hA0 := hA
  obtain ⟨hM, hX0, hK0, hL0, hC0, hO0, hG0, hT0, hD0, hW0⟩ := hA
  have l1 := hL0.1
  intro K
  induction K with
  | zero =>
    intro τ hI hQ
    have e1 : (i32 0 - 1 : Int32) < 0 := by decide
    rw [L_X10_wait_63]; exact ⟨fun _ => hQ τ hI, fun h9 => absurd e1 h9⟩
  | succ K ih =>
    intro τ hI hQ
    rw [i32_pred]
    obtain ⟨no', xl', a1, a2, hO, a3, a4, a5, a6, a7, a8, a9, a10, a11, a12, a13⟩ := hI
    have hOO := hO
    obtain ⟨o1, o2, o3, o4, o5, o6⟩ := hOO
    obtain ⟨no', rfl⟩ : ∃ z, no' = z + 1 := ⟨no' - 1, by omega⟩
    have e1 : ¬ i32 K < 0 := by rw [i32_lt0, i32_int (by omega)]; omega
    have e3 := vpin (show K < 60 by omega) (by decide)
    have e4 := i32_nat (show K < 2147483648 by omega)
    obtain ⟨l, t1, t2, t3, t4, t5⟩ := o3 K (by omega)
    obtain ⟨q, q1, q2, q3, -⟩ := hA0.lot t1
    have k1 : gI τ 110 0 l = i32 q := by rw [a10 110 (by decide) (by decide) (by decide) (by decide)]; exact q3
    have k2 : gI τ 105 = gI m 105 := a10 105 (by decide) (by decide) (by decide) (by decide)
    have k6 : gI τ 126 0 K = gI x 21 l 6 := by rw [t4]; exact a3 l 6 (by decide)
    have hdue : (¬ H - gI x 21 l 6 < kp (gI m 105 0 q)) ↔ due m (gI x 21) H l = true := by
      unfold due
      rw [q3, i32_nat (by omega)]
      simp only [Bool.not_eq_true', decide_eq_false_iff_not]
    have x7 : (1 ≤ (xl' l 7).toInt) := by rw [← t3]; exact t5
    rw [L_X10_wait_63]
    refine ⟨fun h9 => absurd h9 e1, fun _ => ?_⟩
    simp only [a8, e3, e4, t2, eM_keeps a8 (show l < 60 by omega) k1 q2, a12, k6, k2, J_X10_wait_96, neg_sub, ↓forall_eq, bz_b, gR_sI, gR_sJ, gJ_sI, gI_sJ, gN_sI, gN_sJ, gI_sR, gJ_sR, gN_sR, gI_sI, gJ_sJ, gR_sR, gI_nW, gR_nW, gN_nW, gJ_nW, rM_at, rXs_at, rXd_at, ex_s, true_and, and_true, false_and, and_false, or_true, true_or, or_false, false_or, if_true, if_false, not_true_eq_false, not_false_eq_true, forall_const, true_implies, false_implies, implies_true, Nat.reduceLeDiff, Nat.reduceEqDiff, reduceCtorEq, i32_succ, i32_pred, Nat.le_refl, Nat.lt_add_one, Nat.reduceLT, ne_eq, Nat.add_one_ne_zero]
    refine ⟨fun h9 => ?_, fun h9 => ?_⟩
    · refine ih τ ⟨no' + 1, xl', by omega, a2, hO, a3, a4, fun j i hj hj2 hi h8 => ?_, a6, a7, a8, a9, a10, a11, a12, a13⟩ hQ
      by_cases e5 : j = K
      · have : l = i := i32_inj (by omega) (by omega) (by rw [← t2, ← h8, e5])
        rw [← this]
        cases hd : due m (gI x 21) H l with
        | false => rfl
        | true => exact absurd h9 (hdue.mpr hd)
      · exact a5 j i (by omega) hj2 hi h8
    · have hd := hdue.mp h9
      have hn22 : gI τ 0 0 22 = i32 (no' + 1) := o1
      refine eM_empties (no := no') a8 hn22 (by omega) (by omega) ?_
      have hne : ∀ i j, i ≠ l ∨ j ≠ 7 → upd2 xl' l 7 0 i j = xl' i j := fun i j h8 => by unfold upd2; rw [if_neg (by omega)]
      refine ih _ ⟨no', upd2 xl' l 7 0, by omega, by omega, ?_, fun i j hj => ?_, fun i => ?_, fun j i hj hj2 hi h8 => ?_, ?_, ?_, ?_, ?_, fun f f1 f2 f3 f4 => ?_, fun j j1 j2 j3 j4 j5 => ?_, ?_, ?_⟩ hQ
      · unfold EMP; simp only [SH_R, SH_J, SH_N, SH_n, SH_s, or_self, or_false, false_or, true_or, or_true, upd_s, hI_s, hI_n, hJ_s, hJ_n, hR_s, hR_n, hIW_s, hIW_n, hJW_s, hJW_n, hRW_s, hRW_n, hNW_s, hNW_n, hRM_s, hRM_n, u2_s, u2_j, u2_row, u2_kk, gR_sI, gR_sJ, gJ_sI, gI_sJ, gN_sI, gN_sJ, gI_sR, gJ_sR, gN_sR, gI_sM, gJ_sM, gN_sM, ne_eq, Nat.reduceEqDiff, not_false_eq_true, reduceCtorEq, true_implies]
        exact hO.del (l := l) (by omega) t2 t1 l1 u2_s hne (fun j _ => rfl)
      · rw [hne i j (Or.inr hj)]; exact a3 i j hj
      · by_cases e5 : i = l
        · rw [e5]; exact Or.inr ⟨u2_s, hd⟩
        · rw [hne i 7 (Or.inl e5)]; exact a4 i
      · unfold EMP at h8; simp only [SH_R, SH_J, SH_N, SH_n, SH_s, or_self, or_false, false_or, true_or, or_true, upd_s, hI_s, hI_n, hJ_s, hJ_n, hR_s, hR_n, hIW_s, hIW_n, hJW_s, hJW_n, hRW_s, hRW_n, hNW_s, hNW_n, hRM_s, hRM_n, u2_s, u2_j, u2_row, u2_kk, gR_sI, gR_sJ, gJ_sI, gI_sJ, gN_sI, gN_sJ, gI_sR, gJ_sR, gN_sR, gI_sM, gJ_sM, gN_sM, ne_eq, Nat.reduceEqDiff, not_false_eq_true, reduceCtorEq, true_implies] at h8
        unfold shF at h8
        rw [if_pos ⟨hj, by omega⟩] at h8
        exact a5 (j + 1) i (by omega) (by omega) hi h8
      · unfold EMP; simp only [SH_R, SH_J, SH_N, SH_n, SH_s, or_self, or_false, false_or, true_or, or_true, upd_s, hI_s, hI_n, hJ_s, hJ_n, hR_s, hR_n, hIW_s, hIW_n, hJW_s, hJW_n, hRW_s, hRW_n, hNW_s, hNW_n, hRM_s, hRM_n, u2_s, u2_j, u2_row, u2_kk, gR_sI, gR_sJ, gJ_sI, gI_sJ, gN_sI, gN_sJ, gI_sR, gJ_sR, gN_sR, gI_sM, gJ_sM, gN_sM, ne_eq, Nat.reduceEqDiff, not_false_eq_true, reduceCtorEq, true_implies]
        rw [← a6, cnt_drop (p := fun l => decide (1 ≤ (xl' l 7).toInt) && due m (gI x 21) H l) (q := fun i => decide (1 ≤ (upd2 xl' l 7 0 i 7).toInt) && due m (gI x 21) H i) (l := l) nl t1 (by simp only [x7, hd, decide_true, Bool.and_self]) (by simp only [u2_s]; rfl) (fun i hi => by simp only [hne i 7 (Or.inl hi)])]
        rw [Int32.add_assoc, Int32.add_comm 1, i32_succ]
      · unfold EMP; simp only [SH_R, SH_J, SH_N, SH_n, SH_s, or_self, or_false, false_or, true_or, or_true, upd_s, hI_s, hI_n, hJ_s, hJ_n, hR_s, hR_n, hIW_s, hIW_n, hJW_s, hJW_n, hRW_s, hRW_n, hNW_s, hNW_n, hRM_s, hRM_n, u2_s, u2_j, u2_row, u2_kk, gR_sI, gR_sJ, gJ_sI, gI_sJ, gN_sI, gN_sJ, gI_sR, gJ_sR, gN_sR, gI_sM, gJ_sM, gN_sM, ne_eq, Nat.reduceEqDiff, not_false_eq_true, reduceCtorEq, true_implies]
        rw [← a7, t3, sU_drop (g := fun l => if (decide (1 ≤ (xl' l 7).toInt) && due m (gI x 21) H l) = true then xl' l 7 else 0) (g' := fun i => if (decide (1 ≤ (upd2 xl' l 7 0 i 7).toInt) && due m (gI x 21) H i) = true then upd2 xl' l 7 0 i 7 else 0) (l := l) nl t1 (by simp only [u2_s]; rfl) (fun i hi => by simp only [hne i 7 (Or.inl hi)])]
        simp only [x7, hd, decide_true, Bool.and_self, if_true]
        rw [Int32.add_assoc, Int32.add_comm (xl' l 7)]
      · unfold EMP; simp only [SH_R, SH_J, SH_N, SH_n, SH_s, or_self, or_false, false_or, true_or, or_true, upd_s, hI_s, hI_n, hJ_s, hJ_n, hR_s, hR_n, hIW_s, hIW_n, hJW_s, hJW_n, hRW_s, hRW_n, hNW_s, hNW_n, hRM_s, hRM_n, u2_s, u2_j, u2_row, u2_kk, gR_sI, gR_sJ, gJ_sI, gI_sJ, gN_sI, gN_sJ, gI_sR, gJ_sR, gN_sR, gI_sM, gJ_sM, gN_sM, ne_eq, Nat.reduceEqDiff, not_false_eq_true, reduceCtorEq, true_implies]; exact a8
      · unfold EMP; simp only [SH_R, SH_J, SH_N, SH_n, SH_s, or_self, or_false, false_or, true_or, or_true, upd_s, hI_s, hI_n, hJ_s, hJ_n, hR_s, hR_n, hIW_s, hIW_n, hJW_s, hJW_n, hRW_s, hRW_n, hNW_s, hNW_n, hRM_s, hRM_n, u2_s, u2_j, u2_row, u2_kk, gR_sI, gR_sJ, gJ_sI, gI_sJ, gN_sI, gN_sJ, gI_sR, gJ_sR, gN_sR, gI_sM, gJ_sM, gN_sM, ne_eq, Nat.reduceEqDiff, not_false_eq_true, reduceCtorEq, true_implies]; exact a9
      · unfold EMP; rw [SH_n (by omega), hI_n f1, hI_n f1, hI_n f1]; exact a10 f f1 f2 f3 f4
      · unfold EMP; rw [SH_n (by decide)]
        simp only [gI_sI, j3, j4, j5, and_false, if_false]
        exact a11 j j1 j2 j3 j4 j5
      · unfold EMP; simp only [SH_R, SH_J, SH_N, SH_n, SH_s, or_self, or_false, false_or, true_or, or_true, upd_s, hI_s, hI_n, hJ_s, hJ_n, hR_s, hR_n, hIW_s, hIW_n, hJW_s, hJW_n, hRW_s, hRW_n, hNW_s, hNW_n, hRM_s, hRM_n, u2_s, u2_j, u2_row, u2_kk, gR_sI, gR_sJ, gJ_sI, gI_sJ, gN_sI, gN_sJ, gI_sR, gJ_sR, gN_sR, gI_sM, gJ_sM, gN_sM, ne_eq, Nat.reduceEqDiff, not_false_eq_true, reduceCtorEq, true_implies]; exact a12
      · unfold EMP; simp only [SH_R, SH_J, SH_N, SH_n, SH_s, or_self, or_false, false_or, true_or, or_true, upd_s, hI_s, hI_n, hJ_s, hJ_n, hR_s, hR_n, hIW_s, hIW_n, hJW_s, hJW_n, hRW_s, hRW_n, hNW_s, hNW_n, hRM_s, hRM_n, u2_s, u2_j, u2_row, u2_kk, gR_sI, gR_sJ, gJ_sI, gI_sJ, gN_sI, gN_sJ, gI_sR, gJ_sR, gN_sR, gI_sM, gJ_sM, gN_sM, ne_eq, Nat.reduceEqDiff, not_false_eq_true, reduceCtorEq, true_implies]; exact a13
set_option maxRecDepth 16384 in
set_option maxHeartbeats 2000000 in
theorem wait_rel {n nk nl no nt nd na ns : Nat} {x m x' m' : tw_T} {H : Int32} (hA : RelA n nk nl no nt nd na ns x m) (h0 : 0 ≤ H.toInt) (h1 : H.toInt ≤ 1000000) (hX : InvX x (odB m (gI x 21) H) H nl x') (hM' : InvM m nl (gI x 21) H 0 m') : Rel (n + 1) x' m' := by
  obtain ⟨hM, hX0, hK0, hL0, hC0, hO0, hG0, hT0, hD0, hW0⟩ := hA
  have l1 := hL0.1
  obtain ⟨i1, i2, i3, i4, i5, i6, i7, i8, i9, i10, i11⟩ := hX
  obtain ⟨no', xl', a1, a2, hO, a3, a4, a5, a6, a7, a8, a9, a10, a11, a12, a13⟩ := hM'
  obtain ⟨o1, o2, o3, o4, o5, o6⟩ := hO
  have hnd : ∀ l, l < nl → 1 ≤ (xl' l 7).toInt → due m (gI x 21) H l = false := fun l hl h9 => by
    obtain ⟨k, hk, hk2⟩ := o5 l hl h9
    exact a5 k l (by omega) hk hl hk2
  have hz : ∀ l, l < nl → (decide (1 ≤ (xl' l 7).toInt) && due m (gI x 21) H l) = false := fun l hl => by
    by_cases h9 : 1 ≤ (xl' l 7).toInt
    · rw [hnd l hl h9, Bool.and_false]
    · simp only [h9, decide_false, Bool.false_and]
  rw [cnt_zero nl hz] at a6
  rw [sU_zero nl (fun l hl => by simp only [hz l hl]; rfl)] at a7
  have z0 : i32 0 = 0 := rfl
  rw [z0, Int32.add_zero] at a6
  rw [Int32.add_zero] at a7
  have h7 : ∀ l, l < nl → gI x' 21 l 7 = xl' l 7 := fun l hl => by
    rw [i11 l]
    have r2 := hO0.2.1 l hl
    have r3 := o2 l hl
    by_cases hd : due m (gI x 21) H l = true
    · have zx : xl' l 7 = 0 := by
        by_cases h9 : 1 ≤ (xl' l 7).toInt
        · rw [hnd l hl h9] at hd; exact absurd hd (by decide)
        · exact i32_ext (by simp only [Int32.reduceToInt]; omega)
      rw [zx]
      by_cases h9 : 1 ≤ (gI x 21 l 7).toInt
      · rw [if_pos ⟨hl, by unfold odB; simp only [h9, hd, decide_true, Bool.and_self]⟩]
      · have : gI x 21 l 7 = 0 := i32_ext (by simp only [Int32.reduceToInt]; omega)
        rw [this]; split <;> rfl
    · have hno : ¬ (odB m (gI x 21) H l = true) := fun h9 => by
        unfold odB at h9
        rw [Bool.and_eq_true] at h9
        exact hd h9.2
      rw [if_neg (fun h9 => hno h9.2)]
      rcases a4 l with h9 | ⟨-, h9⟩
      · exact h9.symm
      · exact absurd h9 hd
  obtain ⟨g1, g2, g3, g4, g5, g6, g7, g8, g9, g10, g11⟩ := hG0
  refine ⟨nk, nl, no', nt, nd, na, ns, a8, by rw [i1]; exact hX0, ?_, ?_, ?_, ?_, ?_, ?_, ?_, ?_⟩
  · simpa only [i1, i2, i3, i4, i5, a9, a10, a11, ne_eq, Nat.reduceEqDiff, not_false_eq_true, reduceCtorEq] using hK0
  · have hL1 := hL0.up.congr (xl' := gI x' 21) (fun i j hj => i10 i j (by omega))
    simpa only [i1, i2, i3, i4, i5, a9, a10, a11, ne_eq, Nat.reduceEqDiff, not_false_eq_true, reduceCtorEq] using hL1
  · simpa only [i1, i2, i3, i4, i5, a9, a10, a11, ne_eq, Nat.reduceEqDiff, not_false_eq_true, reduceCtorEq] using hC0
  · rw [i6]
    exact RO.congrL ⟨o1, o2, o3, o4, o5, o6⟩ (fun l hl => by rw [i10 l 6 (by decide), a3 l 6 (by decide)]) h7
  · refine ⟨by rw [i6, a12], by rw [a12]; exact h0, by rw [a12]; exact h1, ?_, ?_, ?_, ?_, ?_, ?_, ?_, ?_⟩
    · rw [i7 0 (by decide) (by decide), a11 15 (by decide) (by decide) (by decide) (by decide) (by decide)]; exact g4
    · rw [i7 1 (by decide) (by decide), a11 16 (by decide) (by decide) (by decide) (by decide) (by decide)]; exact g5
    · rw [i7 2 (by decide) (by decide), a11 17 (by decide) (by decide) (by decide) (by decide) (by decide)]; exact g6
    · rw [i8, a6, g7]
    · rw [i7 4 (by decide) (by decide), a11 19 (by decide) (by decide) (by decide) (by decide) (by decide)]; exact g8
    · rw [i7 5 (by decide) (by decide), a11 20 (by decide) (by decide) (by decide) (by decide) (by decide)]; exact g9
    · rw [i9, a7, g10]
    · rw [i2, a9]; exact g11
  · simpa only [i1, i2, i3, i4, i5, a9, a10, a11, ne_eq, Nat.reduceEqDiff, not_false_eq_true, reduceCtorEq] using hT0
  · simpa only [i1, i2, i3, i4, i5, a9, a10, a11, ne_eq, Nat.reduceEqDiff, not_false_eq_true, reduceCtorEq] using hD0
  · simpa only [i1, i2, i3, i4, i5, a9, a10, a11, ne_eq, Nat.reduceEqDiff, not_false_eq_true, reduceCtorEq] using hW0
set_option maxRecDepth 16384 in
set_option maxHeartbeats 2000000 in
theorem op_wait (n : Nat) (x m : tw_T) (a : Int32) (v : Int64) (h : Rel n x m) :
    F_L_wait x 0 a v (fun kk ww x9 => F_X10_wait m 0 a (fun rr m9 => gI m9 0 0 0 = kk ∧ (kk = 0 → ww = rr.toInt64) ∧ Rel (n + 1) x9 m9)) := by
  have hr := h
  obtain ⟨nk, nl, no, nt, nd, na, ns, hA⟩ := h
  have hA0 := hA
  obtain ⟨hM, hX0, hK0, hL0, hC0, hO0, hG0, hT0, hD0, hW0⟩ := hA
  obtain ⟨g1, g2, g3, -⟩ := hG0
  have l1 := hL0.1
  by_cases p1 : 0 ≤ a.toInt ∧ a.toInt ≤ 100000
  rotate_left
  · simp only [F_L_wait, F_X9_wait, eX_isWithin, Int32.toInt_toInt64, Int64.reduceToInt, bz_eq0, p1, F_X10_wait, eM_within, eM_mayz (show (1 : Int32) ≠ 0 by decide), Int32.reduceToInt, pu_00, pu_10, ↓forall_eq, bz_b, gR_sI, gR_sJ, gJ_sI, gI_sJ, gN_sI, gN_sJ, gI_sR, gJ_sR, gN_sR, gI_sI, gJ_sJ, gR_sR, gI_nW, gR_nW, gN_nW, gJ_nW, rM_at, rXs_at, rXd_at, ex_s, true_and, and_true, false_and, and_false, or_true, true_or, or_false, false_or, if_true, if_false, not_true_eq_false, not_false_eq_true, forall_const, true_implies, false_implies, implies_true, Nat.reduceLeDiff, Nat.reduceEqDiff, reduceCtorEq, i32_succ, i32_pred, Nat.le_refl, Nat.lt_add_one, Nat.reduceLT, ne_eq, Nat.add_one_ne_zero]
    exact hr.t.t.up
  have hs : (gI m 0 0 3 + a).toInt = (gI m 0 0 3).toInt + a.toInt := i32_add (by omega) (by omega)
  have c1 : (gI m 0 0 3 + a ≤ (1000000 : Int32)) ↔ (gI m 0 0 3).toInt + a.toInt ≤ 1000000 := by rw [Int32.le_iff_toInt_le, hs]; rfl
  have c2 : ((1000000 : Int32) < gI m 0 0 3 + a) ↔ 1000000 < (gI m 0 0 3).toInt + a.toInt := by rw [Int32.lt_iff_toInt_lt, hs]; rfl
  by_cases p2 : (gI m 0 0 3).toInt + a.toInt ≤ 1000000
  rotate_left
  · have p2' : 1000000 < (gI m 0 0 3).toInt + a.toInt := by omega
    simp only [F_L_wait, F_X9_wait, eX_isWithin, Int32.toInt_toInt64, Int64.reduceToInt, bz_eq0, p1, g1, c1, p2, F_X10_wait, J_X10_wait_37, eM_within, eM_mayz (show (1 : Int32) ≠ 0 by decide), eM_may0, Int32.reduceToInt, gI_sI, c2, p2', pu_00, pu_10, pu_20, ↓forall_eq, bz_b, gR_sI, gR_sJ, gJ_sI, gI_sJ, gN_sI, gN_sJ, gI_sR, gJ_sR, gN_sR, gI_sI, gJ_sJ, gR_sR, gI_nW, gR_nW, gN_nW, gJ_nW, rM_at, rXs_at, rXd_at, ex_s, true_and, and_true, false_and, and_false, or_true, true_or, or_false, false_or, if_true, if_false, not_true_eq_false, not_false_eq_true, forall_const, true_implies, false_implies, implies_true, Nat.reduceLeDiff, Nat.reduceEqDiff, reduceCtorEq, i32_succ, i32_pred, Nat.le_refl, Nat.lt_add_one, Nat.reduceLT, ne_eq, Nat.add_one_ne_zero]
    exact hr.t.t.up
  have p2' : ¬ 1000000 < (gI m 0 0 3).toInt + a.toInt := by omega
  simp only [F_L_wait, F_X9_wait, eX_isWithin, Int32.toInt_toInt64, Int64.reduceToInt, bz_eq0, p1, g1, c1, p2, ↓forall_eq, bz_b, gR_sI, gR_sJ, gJ_sI, gI_sJ, gN_sI, gN_sJ, gI_sR, gJ_sR, gN_sR, gI_sI, gJ_sJ, gR_sR, gI_nW, gR_nW, gN_nW, gJ_nW, rM_at, rXs_at, rXd_at, ex_s, true_and, and_true, false_and, and_false, or_true, true_or, or_false, false_or, if_true, if_false, not_true_eq_false, not_false_eq_true, forall_const, true_implies, false_implies, implies_true, Nat.reduceLeDiff, Nat.reduceEqDiff, reduceCtorEq, i32_succ, i32_pred, Nat.le_refl, Nat.lt_add_one, Nat.reduceLT, ne_eq, Nat.add_one_ne_zero]
  refine ⟨nl + 1, xX_wait_l (H := gI m 0 0 3 + a) hA0 nl 0 _ (by omega) ⟨rfl, rfl, rfl, fun f f1 f2 f3 => hI_n f1, fun j hj => ?_, ?_, fun j _ _ => ?_, ?_, ?_, fun k j _ => ?_, fun k => ?_⟩ (fun τ' hI => ?_)⟩
  · rw [gI_sI, if_neg (by omega)]
  · rw [gI_sI, if_pos ⟨rfl, rfl, rfl⟩]
  · rw [gI_sI, if_neg (by omega)]
  · rw [gI_sI, if_neg (by decide)]; simp only [cnt]; exact (Int32.add_zero _).symm
  · rw [gI_sI, if_neg (by decide)]; simp only [sU]; exact (Int32.add_zero _).symm
  · rw [gI_sI, if_neg (by omega)]
  · rw [gI_sI, if_neg (by omega), if_neg (by omega)]
  rw [hI.2.2.2.2.2.1]
  simp only [F_X10_wait, J_X10_wait_37, p1, eM_within, eM_mayz (show (1 : Int32) ≠ 0 by decide), eM_may1, Int32.reduceToInt, gI_sI, c2, p2', pu_00, pu_10, pu_20, hO0.1, ↓forall_eq, bz_b, gR_sI, gR_sJ, gJ_sI, gI_sJ, gN_sI, gN_sJ, gI_sR, gJ_sR, gN_sR, gI_sI, gJ_sJ, gR_sR, gI_nW, gR_nW, gN_nW, gJ_nW, rM_at, rXs_at, rXd_at, ex_s, true_and, and_true, false_and, and_false, or_true, true_or, or_false, false_or, if_true, if_false, not_true_eq_false, not_false_eq_true, forall_const, true_implies, false_implies, implies_true, Nat.reduceLeDiff, Nat.reduceEqDiff, reduceCtorEq, i32_succ, i32_pred, Nat.le_refl, Nat.lt_add_one, Nat.reduceLT, ne_eq, Nat.add_one_ne_zero]
  have hno := hO0.no_le
  refine ⟨no + 1, eM_wait_l (H := gI m 0 0 3 + a) hA0 no _ ⟨no, gI x 21, by omega, hno, ?_, fun _ _ _ => rfl, fun _ => Or.inl rfl, fun j l hj hj2 => by omega, ?_, ?_, hM, rfl, fun f f1 f2 f3 f4 => ?_, fun j j1 j2 j3 j4 j5 => ?_, ?_, ?_⟩ (fun τ2 hI2 => ?_)⟩
  · simp only [hI_s, hI_n, hJ_s, hJ_n, hR_s, hR_n, hIW_s, hIW_n, hJW_s, hJW_n, hRW_s, hRW_n, hNW_s, hNW_n, hRM_s, hRM_n, u2_s, u2_j, u2_row, u2_kk, gR_sI, gR_sJ, gJ_sI, gI_sJ, gN_sI, gN_sJ, gI_sR, gJ_sR, gN_sR, gI_sM, gJ_sM, gN_sM, ne_eq, Nat.reduceEqDiff, not_false_eq_true, reduceCtorEq, true_implies]
    exact hO0.later (by rw [g1, hs]; omega)
  · simp only [hI_s, hI_n, hJ_s, hJ_n, hR_s, hR_n, hIW_s, hIW_n, hJW_s, hJW_n, hRW_s, hRW_n, hNW_s, hNW_n, hRM_s, hRM_n, u2_s, u2_j, u2_row, u2_kk, gR_sI, gR_sJ, gJ_sI, gI_sJ, gN_sI, gN_sJ, gI_sR, gJ_sR, gN_sR, gI_sM, gJ_sM, gN_sM, ne_eq, Nat.reduceEqDiff, not_false_eq_true, reduceCtorEq, true_implies]; rfl
  · simp only [hI_s, hI_n, hJ_s, hJ_n, hR_s, hR_n, hIW_s, hIW_n, hJW_s, hJW_n, hRW_s, hRW_n, hNW_s, hNW_n, hRM_s, hRM_n, u2_s, u2_j, u2_row, u2_kk, gR_sI, gR_sJ, gJ_sI, gI_sJ, gN_sI, gN_sJ, gI_sR, gJ_sR, gN_sR, gI_sM, gJ_sM, gN_sM, ne_eq, Nat.reduceEqDiff, not_false_eq_true, reduceCtorEq, true_implies]; rfl
  · rw [hI_n f1, hI_n f1]
  · simp only [gI_sI, j1, j2, and_false, if_false]
  · simp only [hI_s, hI_n, hJ_s, hJ_n, hR_s, hR_n, hIW_s, hIW_n, hJW_s, hJW_n, hRW_s, hRW_n, hNW_s, hNW_n, hRM_s, hRM_n, u2_s, u2_j, u2_row, u2_kk, gR_sI, gR_sJ, gJ_sI, gI_sJ, gN_sI, gN_sJ, gI_sR, gJ_sR, gN_sR, gI_sM, gJ_sM, gN_sM, ne_eq, Nat.reduceEqDiff, not_false_eq_true, reduceCtorEq, true_implies]
  · simp only [hI_s, hI_n, hJ_s, hJ_n, hR_s, hR_n, hIW_s, hIW_n, hJW_s, hJW_n, hRW_s, hRW_n, hNW_s, hNW_n, hRM_s, hRM_n, u2_s, u2_j, u2_row, u2_kk, gR_sI, gR_sJ, gJ_sI, gI_sJ, gN_sI, gN_sJ, gI_sR, gJ_sR, gN_sR, gI_sM, gJ_sM, gN_sM, ne_eq, Nat.reduceEqDiff, not_false_eq_true, reduceCtorEq, true_implies]
  have R := wait_rel hA0 (by rw [hs]; omega) (by rw [hs]; omega) hI hI2
  have z3 : gI τ2 0 0 3 = gI m 0 0 3 + a := by
    obtain ⟨_, _, b⟩ := hI2; exact b.2.2.2.2.2.2.2.2.2.2.2.2.1
  have z0 : gI τ2 0 0 0 = 0 := by
    obtain ⟨_, _, b⟩ := hI2; exact b.2.2.2.2.2.2.2.2.2.2.2.2.2
  rw [z3]
  first | exact ⟨z0, fun _ => rfl, R⟩ | exact ⟨z0, rfl, R⟩ | exact ⟨z0, R⟩
