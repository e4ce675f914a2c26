/-! ===== sheets ===== -/
set_option maxRecDepth 16384 in
def sRI (τ : tw_T) (f p n : Nat) (v : Int32) : tw_T := (fun f' k' j' => if f' = f ∧ k' = p ∧ j' < n then v else gI τ f' k' j', τ.2)
set_option maxRecDepth 16384 in
def sRJ (τ : tw_T) (f p n : Nat) (v : Int64) : tw_T := (τ.1, fun f' k' j' => if f' = f ∧ k' = p ∧ j' < n then v else gJ τ f' k' j', τ.2.2)
set_option maxRecDepth 16384 in
def sZJ (τ : tw_T) (f lo d : Nat) : tw_T := (τ.1, fun f' k' j' => if f' = f ∧ k' = 0 ∧ lo ≤ j' ∧ j' < lo + d then 0 else gJ τ f' k' j', τ.2.2)
set_option maxRecDepth 16384 in
def rfl2 {α : Type} (g : Nat → Nat → α) (p n : Nat) (v : α) : Nat → Nat → α := fun k' j' => if k' = p ∧ j' < n then v else g k' j'
set_option maxRecDepth 16384 in
def rzl2 (g : Nat → Nat → Int64) (lo d : Nat) : Nat → Nat → Int64 := fun k' j' => if k' = 0 ∧ lo ≤ j' ∧ j' < lo + d then 0 else g k' j'
set_option maxRecDepth 16384 in
theorem hRI_s {τ : tw_T} {f p n : Nat} {v : Int32} : gI (sRI τ f p n v) f = rfl2 (gI τ f) p n v := by
  funext a b; simp [gI, sRI, rfl2]
set_option maxRecDepth 16384 in
theorem hRI_n {τ : tw_T} {f p n f' : Nat} {v : Int32} (h : f' ≠ f) : gI (sRI τ f p n v) f' = gI τ f' := by
  funext a b; simp [gI, sRI, h]
set_option maxRecDepth 16384 in
theorem gR_RI {τ : tw_T} {f p n : Nat} {v : Int32} : gR (sRI τ f p n v) = gR τ := rfl
set_option maxRecDepth 16384 in
theorem gJ_RI {τ : tw_T} {f p n : Nat} {v : Int32} : gJ (sRI τ f p n v) = gJ τ := rfl
set_option maxRecDepth 16384 in
theorem gN_RI {τ : tw_T} {f p n : Nat} {v : Int32} : gN (sRI τ f p n v) = gN τ := rfl
set_option maxRecDepth 16384 in
theorem hRJ_s {τ : tw_T} {f p n : Nat} {v : Int64} : gJ (sRJ τ f p n v) f = rfl2 (gJ τ f) p n v := by
  funext a b; simp [gJ, sRJ, rfl2]
set_option maxRecDepth 16384 in
theorem hRJ_n {τ : tw_T} {f p n f' : Nat} {v : Int64} (h : f' ≠ f) : gJ (sRJ τ f p n v) f' = gJ τ f' := by
  funext a b; simp [gJ, sRJ, h]
set_option maxRecDepth 16384 in
theorem gR_RJ {τ : tw_T} {f p n : Nat} {v : Int64} : gR (sRJ τ f p n v) = gR τ := rfl
set_option maxRecDepth 16384 in
theorem gI_RJ {τ : tw_T} {f p n : Nat} {v : Int64} : gI (sRJ τ f p n v) = gI τ := rfl
set_option maxRecDepth 16384 in
theorem gN_RJ {τ : tw_T} {f p n : Nat} {v : Int64} : gN (sRJ τ f p n v) = gN τ := rfl
set_option maxRecDepth 16384 in
theorem hZJ_s {τ : tw_T} {f lo d : Nat} : gJ (sZJ τ f lo d) f = rzl2 (gJ τ f) lo d := by
  funext a b; simp [gJ, sZJ, rzl2]
set_option maxRecDepth 16384 in
theorem hZJ_n {τ : tw_T} {f lo d f' : Nat} (h : f' ≠ f) : gJ (sZJ τ f lo d) f' = gJ τ f' := by
  funext a b; simp [gJ, sZJ, h]
set_option maxRecDepth 16384 in
theorem gR_ZJ {τ : tw_T} {f lo d : Nat} : gR (sZJ τ f lo d) = gR τ := rfl
set_option maxRecDepth 16384 in
theorem gI_ZJ {τ : tw_T} {f lo d : Nat} : gI (sZJ τ f lo d) = gI τ := rfl
set_option maxRecDepth 16384 in
theorem gN_ZJ {τ : tw_T} {f lo d : Nat} : gN (sZJ τ f lo d) = gN τ := rfl
set_option maxRecDepth 16384 in
theorem sRI_0 {τ : tw_T} {f p : Nat} {v : Int32} : sRI τ f p 0 v = τ := by
  refine Prod.ext ?_ rfl
  funext f' k' j'
  show (if f' = f ∧ k' = p ∧ j' < 0 then v else gI τ f' k' j') = gI τ f' k' j'
  rw [if_neg (by omega)]
set_option maxRecDepth 16384 in
theorem sRI_step {τ : tw_T} {f p i : Nat} {v : Int32} : sI (sRI τ f p i v) f p i v = sRI τ f p (i + 1) v := by
  refine Prod.ext ?_ rfl
  funext f' k' j'
  show (if f' = f ∧ k' = p ∧ j' = i then v else if f' = f ∧ k' = p ∧ j' < i then v else gI τ f' k' j') = if f' = f ∧ k' = p ∧ j' < i + 1 then v else gI τ f' k' j'
  by_cases h : f' = f ∧ k' = p ∧ j' < i + 1
  · rw [if_pos h]
    by_cases h2 : j' = i
    · rw [if_pos ⟨h.1, h.2.1, h2⟩]
    · rw [if_neg (by omega), if_pos ⟨h.1, h.2.1, by omega⟩]
  · rw [if_neg h, if_neg (by omega), if_neg (by omega)]
set_option maxRecDepth 16384 in
theorem sRJ_0 {τ : tw_T} {f p : Nat} {v : Int64} : sRJ τ f p 0 v = τ := by
  refine Prod.ext rfl (Prod.ext ?_ rfl)
  funext f' k' j'
  show (if f' = f ∧ k' = p ∧ j' < 0 then v else gJ τ f' k' j') = gJ τ f' k' j'
  rw [if_neg (by omega)]
set_option maxRecDepth 16384 in
theorem sRJ_step {τ : tw_T} {f p i : Nat} {v : Int64} : sJ (sRJ τ f p i v) f p i v = sRJ τ f p (i + 1) v := by
  refine Prod.ext rfl (Prod.ext ?_ rfl)
  funext f' k' j'
  show (if f' = f ∧ k' = p ∧ j' = i then v else if f' = f ∧ k' = p ∧ j' < i then v else gJ τ f' k' j') = if f' = f ∧ k' = p ∧ j' < i + 1 then v else gJ τ f' k' j'
  by_cases h : f' = f ∧ k' = p ∧ j' < i + 1
  · rw [if_pos h]
    by_cases h2 : j' = i
    · rw [if_pos ⟨h.1, h.2.1, h2⟩]
    · rw [if_neg (by omega), if_pos ⟨h.1, h.2.1, by omega⟩]
  · rw [if_neg h, if_neg (by omega), if_neg (by omega)]
set_option maxRecDepth 16384 in
theorem sZJ_0 {τ : tw_T} {f lo : Nat} : sZJ τ f lo 0 = τ := by
  refine Prod.ext rfl (Prod.ext ?_ rfl)
  funext f' k' j'
  show (if f' = f ∧ k' = 0 ∧ lo ≤ j' ∧ j' < lo + 0 then 0 else gJ τ f' k' j') = gJ τ f' k' j'
  rw [if_neg (by omega)]
set_option maxRecDepth 16384 in
theorem sZJ_step {τ : tw_T} {f lo i : Nat} : sJ (sZJ τ f lo i) f 0 (lo + i) 0 = sZJ τ f lo (i + 1) := by
  refine Prod.ext rfl (Prod.ext ?_ rfl)
  funext f' k' j'
  show (if f' = f ∧ k' = 0 ∧ j' = lo + i then 0 else if f' = f ∧ k' = 0 ∧ lo ≤ j' ∧ j' < lo + i then 0 else gJ τ f' k' j') = if f' = f ∧ k' = 0 ∧ lo ≤ j' ∧ j' < lo + (i + 1) then 0 else gJ τ f' k' j'
  by_cases h : f' = f ∧ k' = 0 ∧ lo ≤ j' ∧ j' < lo + (i + 1)
  · rw [if_pos h]
    by_cases h2 : j' = lo + i
    · rw [if_pos ⟨h.1, h.2.1, h2⟩]
    · rw [if_neg (by omega), if_pos ⟨h.1, h.2.1, by omega⟩]
  · rw [if_neg h, if_neg (by omega), if_neg (by omega)]
set_option maxRecDepth 16384 in
theorem fillI_l {f n p : Nat} {v : Int32} {Q : tw_T → Prop} {τ : tw_T} (hn : n < 2147483648) : ∀ d i, i + d = n → Q (sRI τ f p n v) → L_J7_fill_53178_5 f n p v (i32 n) Q (fun (τ7 : tw_T) (z8 : Int32) => Q τ7) (d + 1) (sRI τ f p i v) (i32 i) := by
  intro d
  induction d with
  | zero =>
    intro i hi hQ
    have e1 : i32 n ≤ i32 i := (le_i32 (by omega) (by omega)).mpr (by omega)
    have hi' : i = n := by omega
    rw [L_J7_fill_53178_5]; simp only [e1, ↓forall_eq, bz_b, gR_sI, gR_sJ, gJ_sI, gI_sJ, gN_sI, gN_sJ, gI_sR, gJ_sR, gN_sR, gI_sI, gJ_sJ, gR_sR, gI_nW, gR_nW, gN_nW, gJ_nW, rM_at, rXs_at, rXd_at, ex_s, true_and, and_true, false_and, and_false, or_true, true_or, or_false, false_or, if_true, if_false, not_true_eq_false, not_false_eq_true, forall_const, true_implies, false_implies, implies_true, Nat.reduceLeDiff, Nat.reduceEqDiff, reduceCtorEq, i32_succ, i32_pred, Nat.le_refl, Nat.lt_add_one, Nat.reduceLT, ne_eq, Nat.add_one_ne_zero]; rw [hi']; exact hQ
  | succ d ih =>
    intro i hi hQ
    have e1 : ¬ i32 n ≤ i32 i := fun h => absurd ((le_i32 (by omega) (by omega)).mp h) (by omega)
    have e3 := vpin (show i < n by omega) (by omega)
    have e4 := i32_nat (show i < 2147483648 by omega)
    rw [L_J7_fill_53178_5]; simp only [e1, e3, e4, sRI_step, ↓forall_eq, bz_b, gR_sI, gR_sJ, gJ_sI, gI_sJ, gN_sI, gN_sJ, gI_sR, gJ_sR, gN_sR, gI_sI, gJ_sJ, gR_sR, gI_nW, gR_nW, gN_nW, gJ_nW, rM_at, rXs_at, rXd_at, ex_s, true_and, and_true, false_and, and_false, or_true, true_or, or_false, false_or, if_true, if_false, not_true_eq_false, not_false_eq_true, forall_const, true_implies, false_implies, implies_true, Nat.reduceLeDiff, Nat.reduceEqDiff, reduceCtorEq, i32_succ, i32_pred, Nat.le_refl, Nat.lt_add_one, Nat.reduceLT, ne_eq, Nat.add_one_ne_zero]
    exact ih (i + 1) (by omega) hQ
set_option maxRecDepth 16384 in
theorem xX_fillI {f n p : Nat} {v : Int32} {Q : tw_T → Prop} {τ : tw_T} (hn : n < 2147483648) (hQ : Q (sRI τ f p n v)) : F_J7_fill_53178 τ f n p v Q := by
  intro z hz
  subst hz
  have := fillI_l (f := f) (p := p) (v := v) (Q := Q) (τ := τ) hn n 0 (by omega) hQ
  rw [sRI_0] at this
  exact ⟨n + 1, this⟩
set_option maxRecDepth 16384 in
theorem fillJ_l {f n p : Nat} {v : Int64} {Q : tw_T → Prop} {τ : tw_T} (hn : n < 2147483648) : ∀ d i, i + d = n → Q (sRJ τ f p n v) → L_J7_fill_d0a16_6 f n p v (i32 n) Q (fun (τ7 : tw_T) (z8 : Int32) => Q τ7) (d + 1) (sRJ τ f p i v) (i32 i) := by
  intro d
  induction d with
  | zero =>
    intro i hi hQ
    have e1 : i32 n ≤ i32 i := (le_i32 (by omega) (by omega)).mpr (by omega)
    have hi' : i = n := by omega
    rw [L_J7_fill_d0a16_6]; simp only [e1, ↓forall_eq, bz_b, gR_sI, gR_sJ, gJ_sI, gI_sJ, gN_sI, gN_sJ, gI_sR, gJ_sR, gN_sR, gI_sI, gJ_sJ, gR_sR, gI_nW, gR_nW, gN_nW, gJ_nW, rM_at, rXs_at, rXd_at, ex_s, true_and, and_true, false_and, and_false, or_true, true_or, or_false, false_or, if_true, if_false, not_true_eq_false, not_false_eq_true, forall_const, true_implies, false_implies, implies_true, Nat.reduceLeDiff, Nat.reduceEqDiff, reduceCtorEq, i32_succ, i32_pred, Nat.le_refl, Nat.lt_add_one, Nat.reduceLT, ne_eq, Nat.add_one_ne_zero]; rw [hi']; exact hQ
  | succ d ih =>
    intro i hi hQ
    have e1 : ¬ i32 n ≤ i32 i := fun h => absurd ((le_i32 (by omega) (by omega)).mp h) (by omega)
    have e3 := vpin (show i < n by omega) (by omega)
    have e4 := i32_nat (show i < 2147483648 by omega)
    rw [L_J7_fill_d0a16_6]; simp only [e1, e3, e4, sRJ_step, ↓forall_eq, bz_b, gR_sI, gR_sJ, gJ_sI, gI_sJ, gN_sI, gN_sJ, gI_sR, gJ_sR, gN_sR, gI_sI, gJ_sJ, gR_sR, gI_nW, gR_nW, gN_nW, gJ_nW, rM_at, rXs_at, rXd_at, ex_s, true_and, and_true, false_and, and_false, or_true, true_or, or_false, false_or, if_true, if_false, not_true_eq_false, not_false_eq_true, forall_const, true_implies, false_implies, implies_true, Nat.reduceLeDiff, Nat.reduceEqDiff, reduceCtorEq, i32_succ, i32_pred, Nat.le_refl, Nat.lt_add_one, Nat.reduceLT, ne_eq, Nat.add_one_ne_zero]
    exact ih (i + 1) (by omega) hQ
set_option maxRecDepth 16384 in
theorem xX_fillJ {f n p : Nat} {v : Int64} {Q : tw_T → Prop} {τ : tw_T} (hn : n < 2147483648) (hQ : Q (sRJ τ f p n v)) : F_J7_fill_d0a16 τ f n p v Q := by
  intro z hz
  subst hz
  have := fillJ_l (f := f) (p := p) (v := v) (Q := Q) (τ := τ) hn n 0 (by omega) hQ
  rw [sRJ_0] at this
  exact ⟨n + 1, this⟩
set_option maxRecDepth 16384 in
theorem ix40 (s k j : Nat) : (40 : Int32) * ((10 : Int32) * i32 s + i32 k) + i32 j = i32 (40 * (10 * s + k) + j) := by
  show _ = Int32.ofNat _
  rw [Int32.ofNat_add, Int32.ofNat_mul, Int32.ofNat_add, Int32.ofNat_mul]; rfl
set_option maxRecDepth 16384 in
theorem ix10 (s k : Nat) : (10 : Int32) * i32 s + i32 k = i32 (10 * s + k) := by
  show _ = Int32.ofNat _
  rw [Int32.ofNat_add, Int32.ofNat_mul]; rfl
set_option maxRecDepth 16384 in
theorem ix4 (r j : Nat) : (40 : Int32) * i32 r + i32 j = i32 (40 * r + j) := by
  show _ = Int32.ofNat _
  rw [Int32.ofNat_add, Int32.ofNat_mul]; rfl
set_option maxRecDepth 16384 in
theorem eM_row_l {s k : Nat} {u3 : Int32} {Q : Int32 → tw_T → Prop} {EX : tw_T → Int32 → Prop} {τ : tw_T} (hM : gR τ = rM) (hs : s < 4) (hk : k < 10) : ∀ d i, i + d = 40 → EX (sZJ τ 142 (40 * (10 * s + k)) 40) (i32 40) → L_X10_row_43 0 (i32 s) (i32 k) u3 Q EX (d + 1) (sZJ τ 142 (40 * (10 * s + k)) i) (i32 i) := by
  intro d
  induction d with
  | zero =>
    intro i hi hQ
    have e1 : (40 : Int32) ≤ i32 i := (le_i32 (k := 40) (by decide) (by omega)).mpr (by omega)
    have hi' : i = 40 := by omega
    rw [L_X10_row_43]; simp only [e1, ↓forall_eq, bz_b, gR_sI, gR_sJ, gJ_sI, gI_sJ, gN_sI, gN_sJ, gI_sR, gJ_sR, gN_sR, gI_sI, gJ_sJ, gR_sR, gI_nW, gR_nW, gN_nW, gJ_nW, rM_at, rXs_at, rXd_at, ex_s, true_and, and_true, false_and, and_false, or_true, true_or, or_false, false_or, if_true, if_false, not_true_eq_false, not_false_eq_true, forall_const, true_implies, false_implies, implies_true, Nat.reduceLeDiff, Nat.reduceEqDiff, reduceCtorEq, i32_succ, i32_pred, Nat.le_refl, Nat.lt_add_one, Nat.reduceLT, ne_eq, Nat.add_one_ne_zero]; rw [hi']; exact hQ
  | succ d ih =>
    intro i hi hQ
    have e1 : ¬ (40 : Int32) ≤ i32 i := fun h => absurd ((le_i32 (k := 40) (by decide) (by omega)).mp h) (by omega)
    have e3 := vpin (show 40 * (10 * s + k) + i < 1600 by omega) (by decide)
    have e4 := i32_nat (show 40 * (10 * s + k) + i < 2147483648 by omega)
    rw [L_X10_row_43]; simp only [e1, ix40, e3, e4, gR_ZJ, hM, sZJ_step, ↓forall_eq, bz_b, gR_sI, gR_sJ, gJ_sI, gI_sJ, gN_sI, gN_sJ, gI_sR, gJ_sR, gN_sR, gI_sI, gJ_sJ, gR_sR, gI_nW, gR_nW, gN_nW, gJ_nW, rM_at, rXs_at, rXd_at, ex_s, true_and, and_true, false_and, and_false, or_true, true_or, or_false, false_or, if_true, if_false, not_true_eq_false, not_false_eq_true, forall_const, true_implies, false_implies, implies_true, Nat.reduceLeDiff, Nat.reduceEqDiff, reduceCtorEq, i32_succ, i32_pred, Nat.le_refl, Nat.lt_add_one, Nat.reduceLT, ne_eq, Nat.add_one_ne_zero]
    exact ih (i + 1) (by omega) hQ
set_option maxRecDepth 16384 in
theorem xX_sheetAt {x : tw_T} {ns s k : Nat} {Q X : Nat → tw_T → Prop} (h0 : gR x 0 = rXs 11) (h1 : gI x 0 0 14 = i32 ns) (hn : ns ≤ 4) (hs : s < ns) (hk : k < 10) (hr : gR x 4 0 s = some s) : F_X9_sheetWithRow x 0 (i32 s) (i32 k) Q X ↔ Q s x := by
  have e1 : ¬ i32 s < 0 := by rw [i32_lt0, i32_int (by omega)]; omega
  have e2 : ¬ i32 ns ≤ i32 s := fun h => absurd ((le_i32 (by omega) (by omega)).mp h) (by omega)
  have e3 : ¬ i32 k < 0 := by rw [i32_lt0, i32_int (by omega)]; omega
  have e4 : i32 k < (10 : Int32) := (lt_i32 (c := 10) (by omega) (by decide)).mpr hk
  have e5 := vpin (show s < 4 by omega) (by decide)
  have e6 := i32_nat (show s < 2147483648 by omega)
  simp only [F_X9_sheetWithRow, h0, h1, e1, e2, e3, e4, e5, e6, hr, ↓forall_eq, bz_b, gR_sI, gR_sJ, gJ_sI, gI_sJ, gN_sI, gN_sJ, gI_sR, gJ_sR, gN_sR, gI_sI, gJ_sJ, gR_sR, gI_nW, gR_nW, gN_nW, gJ_nW, rM_at, rXs_at, rXd_at, ex_s, true_and, and_true, false_and, and_false, or_true, true_or, or_false, false_or, if_true, if_false, not_true_eq_false, not_false_eq_true, forall_const, true_implies, false_implies, implies_true, Nat.reduceLeDiff, Nat.reduceEqDiff, reduceCtorEq, i32_succ, i32_pred, Nat.le_refl, Nat.lt_add_one, Nat.reduceLT, ne_eq, Nat.add_one_ne_zero]
set_option maxRecDepth 16384 in
theorem xX_sheetAt_bad {x : tw_T} {ns : Nat} {a b : Int32} {Q X : Nat → tw_T → Prop} (h1 : gI x 0 0 14 = i32 ns) (hn : ns ≤ 4) (ha : ¬ ((0 ≤ a.toInt ∧ a.toInt < ns) ∧ 0 ≤ b.toInt ∧ b.toInt < 10)) : F_X9_sheetWithRow x 0 a b Q X ↔ X 1 x := by
  unfold F_X9_sheetWithRow
  by_cases e1 : a < 0
  · simp only [e1, ↓forall_eq, bz_b, gR_sI, gR_sJ, gJ_sI, gI_sJ, gN_sI, gN_sJ, gI_sR, gJ_sR, gN_sR, gI_sI, gJ_sJ, gR_sR, gI_nW, gR_nW, gN_nW, gJ_nW, rM_at, rXs_at, rXd_at, ex_s, true_and, and_true, false_and, and_false, or_true, true_or, or_false, false_or, if_true, if_false, not_true_eq_false, not_false_eq_true, forall_const, true_implies, false_implies, implies_true, Nat.reduceLeDiff, Nat.reduceEqDiff, reduceCtorEq, i32_succ, i32_pred, Nat.le_refl, Nat.lt_add_one, Nat.reduceLT, ne_eq, Nat.add_one_ne_zero]
  · by_cases e2 : i32 ns ≤ a
    · simp only [h1, e1, e2, ↓forall_eq, bz_b, gR_sI, gR_sJ, gJ_sI, gI_sJ, gN_sI, gN_sJ, gI_sR, gJ_sR, gN_sR, gI_sI, gJ_sJ, gR_sR, gI_nW, gR_nW, gN_nW, gJ_nW, rM_at, rXs_at, rXd_at, ex_s, true_and, and_true, false_and, and_false, or_true, true_or, or_false, false_or, if_true, if_false, not_true_eq_false, not_false_eq_true, forall_const, true_implies, false_implies, implies_true, Nat.reduceLeDiff, Nat.reduceEqDiff, reduceCtorEq, i32_succ, i32_pred, Nat.le_refl, Nat.lt_add_one, Nat.reduceLT, ne_eq, Nat.add_one_ne_zero]
    · by_cases e3 : b < 0
      · simp only [h1, e1, e2, e3, ↓forall_eq, bz_b, gR_sI, gR_sJ, gJ_sI, gI_sJ, gN_sI, gN_sJ, gI_sR, gJ_sR, gN_sR, gI_sI, gJ_sJ, gR_sR, gI_nW, gR_nW, gN_nW, gJ_nW, rM_at, rXs_at, rXd_at, ex_s, true_and, and_true, false_and, and_false, or_true, true_or, or_false, false_or, if_true, if_false, not_true_eq_false, not_false_eq_true, forall_const, true_implies, false_implies, implies_true, Nat.reduceLeDiff, Nat.reduceEqDiff, reduceCtorEq, i32_succ, i32_pred, Nat.le_refl, Nat.lt_add_one, Nat.reduceLT, ne_eq, Nat.add_one_ne_zero]
      · by_cases e4 : b < 10
        · exfalso
          rw [i32_lt0] at e1 e3
          rw [Int32.le_iff_toInt_le, i32_int (by omega)] at e2
          rw [Int32.lt_iff_toInt_lt] at e4
          have : (10 : Int32).toInt = 10 := rfl
          omega
        · simp only [h1, e1, e2, e3, e4, ↓forall_eq, bz_b, gR_sI, gR_sJ, gJ_sI, gI_sJ, gN_sI, gN_sJ, gI_sR, gJ_sR, gN_sR, gI_sI, gJ_sJ, gR_sR, gI_nW, gR_nW, gN_nW, gJ_nW, rM_at, rXs_at, rXd_at, ex_s, true_and, and_true, false_and, and_false, or_true, true_or, or_false, false_or, if_true, if_false, not_true_eq_false, not_false_eq_true, forall_const, true_implies, false_implies, implies_true, Nat.reduceLeDiff, Nat.reduceEqDiff, reduceCtorEq, i32_succ, i32_pred, Nat.le_refl, Nat.lt_add_one, Nat.reduceLT, ne_eq, Nat.add_one_ne_zero]
set_option maxRecDepth 16384 in
theorem eM_isRow {m : tw_T} {ns : Nat} {a b : Int32} {Q : Int32 → tw_T → Prop} (h1 : gI m 0 0 39 = i32 ns) (hn : ns ≤ 4) :
    F_X10_isRow (sI m 0 0 0 0) 0 a b Q ↔ (((0 ≤ a.toInt ∧ a.toInt < ns) ∧ 0 ≤ b.toInt ∧ b.toInt < 10 → Q 1 (sI m 0 0 0 0)) ∧ (¬ ((0 ≤ a.toInt ∧ a.toInt < ns) ∧ 0 ≤ b.toInt ∧ b.toInt < 10) → Q 0 (sI (sI m 0 0 0 0) 0 0 0 1))) := by
  have e1 : (i32 ns - 1).toInt = ns - 1 := by rw [i32_sub] <;> rw [i32_int (by omega)] <;> simp only [Int32.reduceToInt] <;> omega
  have e2 : (0 ≤ a.toInt ∧ a.toInt ≤ (ns : Int) - 1) ↔ (0 ≤ a.toInt ∧ a.toInt < ns) := by omega
  have e3 : (0 ≤ b.toInt ∧ b.toInt ≤ 9) ↔ (0 ≤ b.toInt ∧ b.toInt < 10) := by omega
  have t1 : tw_b 1 := Or.inr rfl
  have t0 : tw_b 0 := Or.inl rfl
  unfold F_X10_isRow J_X10_isRow_29 J_X10_isRow_30
  simp only [eM_within, bz_eq0, gI_sI, h1, e1, e2, e3, Int32.reduceToInt, eM_may0, eM_may1, t1, t0, pu_10, ↓forall_eq, bz_b, gR_sI, gR_sJ, gJ_sI, gI_sJ, gN_sI, gN_sJ, gI_sR, gJ_sR, gN_sR, gI_sI, gJ_sJ, gR_sR, gI_nW, gR_nW, gN_nW, gJ_nW, rM_at, rXs_at, rXd_at, ex_s, true_and, and_true, false_and, and_false, or_true, true_or, or_false, false_or, if_true, if_false, not_true_eq_false, not_false_eq_true, forall_const, true_implies, false_implies, implies_true, Nat.reduceLeDiff, Nat.reduceEqDiff, reduceCtorEq, i32_succ, i32_pred, Nat.le_refl, Nat.lt_add_one, Nat.reduceLT, ne_eq, Nat.add_one_ne_zero]
  by_cases p1 : 0 ≤ a.toInt ∧ a.toInt < ns
  · by_cases p2 : 0 ≤ b.toInt ∧ b.toInt < 10
    · simp only [p1, p2, ↓forall_eq, bz_b, gR_sI, gR_sJ, gJ_sI, gI_sJ, gN_sI, gN_sJ, gI_sR, gJ_sR, gN_sR, gI_sI, gJ_sJ, gR_sR, gI_nW, gR_nW, gN_nW, gJ_nW, rM_at, rXs_at, rXd_at, ex_s, true_and, and_true, false_and, and_false, or_true, true_or, or_false, false_or, if_true, if_false, not_true_eq_false, not_false_eq_true, forall_const, true_implies, false_implies, implies_true, Nat.reduceLeDiff, Nat.reduceEqDiff, reduceCtorEq, i32_succ, i32_pred, Nat.le_refl, Nat.lt_add_one, Nat.reduceLT, ne_eq, Nat.add_one_ne_zero]
    · simp only [p1, p2, ↓forall_eq, bz_b, gR_sI, gR_sJ, gJ_sI, gI_sJ, gN_sI, gN_sJ, gI_sR, gJ_sR, gN_sR, gI_sI, gJ_sJ, gR_sR, gI_nW, gR_nW, gN_nW, gJ_nW, rM_at, rXs_at, rXd_at, ex_s, true_and, and_true, false_and, and_false, or_true, true_or, or_false, false_or, if_true, if_false, not_true_eq_false, not_false_eq_true, forall_const, true_implies, false_implies, implies_true, Nat.reduceLeDiff, Nat.reduceEqDiff, reduceCtorEq, i32_succ, i32_pred, Nat.le_refl, Nat.lt_add_one, Nat.reduceLT, ne_eq, Nat.add_one_ne_zero]
  · simp only [p1, ↓forall_eq, bz_b, gR_sI, gR_sJ, gJ_sI, gI_sJ, gN_sI, gN_sJ, gI_sR, gJ_sR, gN_sR, gI_sI, gJ_sJ, gR_sR, gI_nW, gR_nW, gN_nW, gJ_nW, rM_at, rXs_at, rXd_at, ex_s, true_and, and_true, false_and, and_false, or_true, true_or, or_false, false_or, if_true, if_false, not_true_eq_false, not_false_eq_true, forall_const, true_implies, false_implies, implies_true, Nat.reduceLeDiff, Nat.reduceEqDiff, reduceCtorEq, i32_succ, i32_pred, Nat.le_refl, Nat.lt_add_one, Nat.reduceLT, ne_eq, Nat.add_one_ne_zero]
set_option maxRecDepth 16384 in
set_option maxHeartbeats 2000000 in
theorem op_sheet (n : Nat) (x m : tw_T) (a : Int32) (v : Int64) (h : Rel n x m) :
    F_L_sheet x 0 a v (fun kk ww x9 => F_X10_sheet m 0 a (fun rr m9 => gI m9 0 0 0 = kk ∧ (kk = 0 → ww = rr.toInt64) ∧ Rel (n + 1) x9 m9)) := by
  have hr := h
  obtain ⟨nk, nl, no, nt, nd, na, ns, hA⟩ := h
  have hA0 := hA
  obtain ⟨hM, hX0, hK0, hL0, hC0, hO0, hG0, hT0, hD0, hW0⟩ := hA
  have x0 := hX0.1
  have hW := hW0
  obtain ⟨w1, w2, w3, w4, w5, w6, w7, w8, w9, w10⟩ := hW
  by_cases p1 : 0 ≤ a.toInt ∧ a.toInt ≤ 2
  rotate_left
  · simp only [F_L_sheet, F_X9_sheet, eX_isWithin, Int32.toInt_toInt64, Int64.reduceToInt, bz_eq0, p1, F_X10_sheet, eM_within, eM_mayz (show (1 : Int32) ≠ 0 by decide), Int32.reduceToInt, pu_00, pu_10, ↓forall_eq, bz_b, gR_sI, gR_sJ, gJ_sI, gI_sJ, gN_sI, gN_sJ, gI_sR, gJ_sR, gN_sR, gI_sI, gJ_sJ, gR_sR, gI_nW, gR_nW, gN_nW, gJ_nW, rM_at, rXs_at, rXd_at, ex_s, true_and, and_true, false_and, and_false, or_true, true_or, or_false, false_or, if_true, if_false, not_true_eq_false, not_false_eq_true, forall_const, true_implies, false_implies, implies_true, Nat.reduceLeDiff, Nat.reduceEqDiff, reduceCtorEq, i32_succ, i32_pred, Nat.le_refl, Nat.lt_add_one, Nat.reduceLT, ne_eq, Nat.add_one_ne_zero]
    exact hr.t.t.up
  have c1 : (i32 ns < (4 : Int32)) ↔ ns < 4 := lt_i32 (c := 4) (by omega) (by decide)
  have c2 : (i32 ns = (4 : Int32)) ↔ ns = 4 := i32_eq (b := 4) (by omega) (by decide)
  by_cases p2 : ns < 4
  rotate_left
  · have p3 : ns = 4 := by omega
    have c3 : ¬ i32 ns < (4 : Int32) := fun h9 => p2 (c1.mp h9)
    have c4 : i32 ns = (4 : Int32) := c2.mpr p3
    clear c1 c2
    have c5 : ¬ (4 : Int32) < 4 := by decide
    simp only [F_L_sheet, F_X9_sheet, eX_isWithin, Int32.toInt_toInt64, Int64.reduceToInt, bz_eq0, p1, w2, c4, c5, F_X10_sheet, eM_within, eM_mayz (show (1 : Int32) ≠ 0 by decide), Int32.reduceToInt, gI_sI, w3, pu_00, pu_10, ↓forall_eq, bz_b, gR_sI, gR_sJ, gJ_sI, gI_sJ, gN_sI, gN_sJ, gI_sR, gJ_sR, gN_sR, gI_sI, gJ_sJ, gR_sR, gI_nW, gR_nW, gN_nW, gJ_nW, rM_at, rXs_at, rXd_at, ex_s, true_and, and_true, false_and, and_false, or_true, true_or, or_false, false_or, if_true, if_false, not_true_eq_false, not_false_eq_true, forall_const, true_implies, false_implies, implies_true, Nat.reduceLeDiff, Nat.reduceEqDiff, reduceCtorEq, i32_succ, i32_pred, Nat.le_refl, Nat.lt_add_one, Nat.reduceLT, ne_eq, Nat.add_one_ne_zero]
    exact hr.t.up
  have p3 : ¬ ns = 4 := by omega
  have e3 := vpin p2 (by decide)
  have e4 := i32_nat (show ns < 2147483648 by omega)
  simp only [F_L_sheet, F_X9_sheet, eX_isWithin, Int32.toInt_toInt64, Int64.reduceToInt, bz_eq0, p1, w2, c1, p2, x0, F_X6_init, w4, w5, w6, w7, gN_sM, gI_sM, ↓forall_eq, bz_b, gR_sI, gR_sJ, gJ_sI, gI_sJ, gN_sI, gN_sJ, gI_sR, gJ_sR, gN_sR, gI_sI, gJ_sJ, gR_sR, gI_nW, gR_nW, gN_nW, gJ_nW, rM_at, rXs_at, rXd_at, ex_s, true_and, and_true, false_and, and_false, or_true, true_or, or_false, false_or, if_true, if_false, not_true_eq_false, not_false_eq_true, forall_const, true_implies, false_implies, implies_true, Nat.reduceLeDiff, Nat.reduceEqDiff, reduceCtorEq, i32_succ, i32_pred, Nat.le_refl, Nat.lt_add_one, Nat.reduceLT, ne_eq, Nat.add_one_ne_zero]
  refine xX_fillI (by decide) ?_
  simp only [e3, e4, gR_RI, gN_RI, hRI_n, w2, ne_eq, gI_sM, ↓forall_eq, bz_b, gR_sI, gR_sJ, gJ_sI, gI_sJ, gN_sI, gN_sJ, gI_sR, gJ_sR, gN_sR, gI_sI, gJ_sJ, gR_sR, gI_nW, gR_nW, gN_nW, gJ_nW, rM_at, rXs_at, rXd_at, ex_s, true_and, and_true, false_and, and_false, or_true, true_or, or_false, false_or, if_true, if_false, not_true_eq_false, not_false_eq_true, forall_const, true_implies, false_implies, implies_true, Nat.reduceLeDiff, Nat.reduceEqDiff, reduceCtorEq, i32_succ, i32_pred, Nat.le_refl, Nat.lt_add_one, Nat.reduceLT, ne_eq, Nat.add_one_ne_zero]
  simp only [F_X10_sheet, p1, eM_within, eM_mayz (show (1 : Int32) ≠ 0 by decide), Int32.reduceToInt, gI_sI, w3, c2, p3, hM, e3, e4, pu_00, pu_10, ↓forall_eq, bz_b, gR_sI, gR_sJ, gJ_sI, gI_sJ, gN_sI, gN_sJ, gI_sR, gJ_sR, gN_sR, gI_sI, gJ_sJ, gR_sR, gI_nW, gR_nW, gN_nW, gJ_nW, rM_at, rXs_at, rXd_at, ex_s, true_and, and_true, false_and, and_false, or_true, true_or, or_false, false_or, if_true, if_false, not_true_eq_false, not_false_eq_true, forall_const, true_implies, false_implies, implies_true, Nat.reduceLeDiff, Nat.reduceEqDiff, reduceCtorEq, i32_succ, i32_pred, Nat.le_refl, Nat.lt_add_one, Nat.reduceLT, ne_eq, Nat.add_one_ne_zero]
  refine ⟨nk, nl, no, nt, nd, na, ns + 1, (by simpa only [hRI_s, hRI_n, gR_RI, gJ_RI, gN_RI, hRJ_s, hRJ_n, gI_RJ, gR_RJ, gN_RJ, hZJ_s, hZJ_n, gI_ZJ, gR_ZJ, gN_ZJ, hI_s, hI_n, hJ_s, hJ_n, hR_s, hR_n, hIW_s, hIW_n, hJW_s, hJW_n, hRW_s, hRW_n, hNW_s, hNW_n, hRM_s, hRM_n, u2_s, u2_j, u2_row, u2_kk, gR_sI, gR_sJ, gJ_sI, gI_sJ, gN_sI, gN_sJ, gI_sR, gJ_sR, gN_sR, gI_sM, gJ_sM, gN_sM, ne_eq, Nat.reduceEqDiff, not_false_eq_true, reduceCtorEq, true_implies] using hM), (by simpa only [hRI_s, hRI_n, gR_RI, gJ_RI, gN_RI, hRJ_s, hRJ_n, gI_RJ, gR_RJ, gN_RJ, hZJ_s, hZJ_n, gI_ZJ, gR_ZJ, gN_ZJ, hI_s, hI_n, hJ_s, hJ_n, hR_s, hR_n, hIW_s, hIW_n, hJW_s, hJW_n, hRW_s, hRW_n, hNW_s, hNW_n, hRM_s, hRM_n, u2_s, u2_j, u2_row, u2_kk, gR_sI, gR_sJ, gJ_sI, gI_sJ, gN_sI, gN_sJ, gI_sR, gJ_sR, gN_sR, gI_sM, gJ_sM, gN_sM, ne_eq, Nat.reduceEqDiff, not_false_eq_true, reduceCtorEq, true_implies] using hX0), (by simpa only [hRI_s, hRI_n, gR_RI, gJ_RI, gN_RI, hRJ_s, hRJ_n, gI_RJ, gR_RJ, gN_RJ, hZJ_s, hZJ_n, gI_ZJ, gR_ZJ, gN_ZJ, hI_s, hI_n, hJ_s, hJ_n, hR_s, hR_n, hIW_s, hIW_n, hJW_s, hJW_n, hRW_s, hRW_n, hNW_s, hNW_n, hRM_s, hRM_n, u2_s, u2_j, u2_row, u2_kk, gR_sI, gR_sJ, gJ_sI, gI_sJ, gN_sI, gN_sJ, gI_sR, gJ_sR, gN_sR, gI_sM, gJ_sM, gN_sM, ne_eq, Nat.reduceEqDiff, not_false_eq_true, reduceCtorEq, true_implies] using hK0), (by simpa only [hRI_s, hRI_n, gR_RI, gJ_RI, gN_RI, hRJ_s, hRJ_n, gI_RJ, gR_RJ, gN_RJ, hZJ_s, hZJ_n, gI_ZJ, gR_ZJ, gN_ZJ, hI_s, hI_n, hJ_s, hJ_n, hR_s, hR_n, hIW_s, hIW_n, hJW_s, hJW_n, hRW_s, hRW_n, hNW_s, hNW_n, hRM_s, hRM_n, u2_s, u2_j, u2_row, u2_kk, gR_sI, gR_sJ, gJ_sI, gI_sJ, gN_sI, gN_sJ, gI_sR, gJ_sR, gN_sR, gI_sM, gJ_sM, gN_sM, ne_eq, Nat.reduceEqDiff, not_false_eq_true, reduceCtorEq, true_implies] using hL0.up), (by simpa only [hRI_s, hRI_n, gR_RI, gJ_RI, gN_RI, hRJ_s, hRJ_n, gI_RJ, gR_RJ, gN_RJ, hZJ_s, hZJ_n, gI_ZJ, gR_ZJ, gN_ZJ, hI_s, hI_n, hJ_s, hJ_n, hR_s, hR_n, hIW_s, hIW_n, hJW_s, hJW_n, hRW_s, hRW_n, hNW_s, hNW_n, hRM_s, hRM_n, u2_s, u2_j, u2_row, u2_kk, gR_sI, gR_sJ, gJ_sI, gI_sJ, gN_sI, gN_sJ, gI_sR, gJ_sR, gN_sR, gI_sM, gJ_sM, gN_sM, ne_eq, Nat.reduceEqDiff, not_false_eq_true, reduceCtorEq, true_implies] using hC0), (by simpa only [hRI_s, hRI_n, gR_RI, gJ_RI, gN_RI, hRJ_s, hRJ_n, gI_RJ, gR_RJ, gN_RJ, hZJ_s, hZJ_n, gI_ZJ, gR_ZJ, gN_ZJ, hI_s, hI_n, hJ_s, hJ_n, hR_s, hR_n, hIW_s, hIW_n, hJW_s, hJW_n, hRW_s, hRW_n, hNW_s, hNW_n, hRM_s, hRM_n, u2_s, u2_j, u2_row, u2_kk, gR_sI, gR_sJ, gJ_sI, gI_sJ, gN_sI, gN_sJ, gI_sR, gJ_sR, gN_sR, gI_sM, gJ_sM, gN_sM, ne_eq, Nat.reduceEqDiff, not_false_eq_true, reduceCtorEq, true_implies] using hO0), (by simpa only [hRI_s, hRI_n, gR_RI, gJ_RI, gN_RI, hRJ_s, hRJ_n, gI_RJ, gR_RJ, gN_RJ, hZJ_s, hZJ_n, gI_ZJ, gR_ZJ, gN_ZJ, hI_s, hI_n, hJ_s, hJ_n, hR_s, hR_n, hIW_s, hIW_n, hJW_s, hJW_n, hRW_s, hRW_n, hNW_s, hNW_n, hRM_s, hRM_n, u2_s, u2_j, u2_row, u2_kk, gR_sI, gR_sJ, gJ_sI, gI_sJ, gN_sI, gN_sJ, gI_sR, gJ_sR, gN_sR, gI_sM, gJ_sM, gN_sM, ne_eq, Nat.reduceEqDiff, not_false_eq_true, reduceCtorEq, true_implies] using hG0), (by simpa only [hRI_s, hRI_n, gR_RI, gJ_RI, gN_RI, hRJ_s, hRJ_n, gI_RJ, gR_RJ, gN_RJ, hZJ_s, hZJ_n, gI_ZJ, gR_ZJ, gN_ZJ, hI_s, hI_n, hJ_s, hJ_n, hR_s, hR_n, hIW_s, hIW_n, hJW_s, hJW_n, hRW_s, hRW_n, hNW_s, hNW_n, hRM_s, hRM_n, u2_s, u2_j, u2_row, u2_kk, gR_sI, gR_sJ, gJ_sI, gI_sJ, gN_sI, gN_sJ, gI_sR, gJ_sR, gN_sR, gI_sM, gJ_sM, gN_sM, ne_eq, Nat.reduceEqDiff, not_false_eq_true, reduceCtorEq, true_implies] using hT0), (by simpa only [hRI_s, hRI_n, gR_RI, gJ_RI, gN_RI, hRJ_s, hRJ_n, gI_RJ, gR_RJ, gN_RJ, hZJ_s, hZJ_n, gI_ZJ, gR_ZJ, gN_ZJ, hI_s, hI_n, hJ_s, hJ_n, hR_s, hR_n, hIW_s, hIW_n, hJW_s, hJW_n, hRW_s, hRW_n, hNW_s, hNW_n, hRM_s, hRM_n, u2_s, u2_j, u2_row, u2_kk, gR_sI, gR_sJ, gJ_sI, gI_sJ, gN_sI, gN_sJ, gI_sR, gJ_sR, gN_sR, gI_sM, gJ_sM, gN_sM, ne_eq, Nat.reduceEqDiff, not_false_eq_true, reduceCtorEq, true_implies] using hD0), ?_⟩
  simp only [hRI_s, hRI_n, gR_RI, gJ_RI, gN_RI, hRJ_s, hRJ_n, gI_RJ, gR_RJ, gN_RJ, hZJ_s, hZJ_n, gI_ZJ, gR_ZJ, gN_ZJ, hI_s, hI_n, hJ_s, hJ_n, hR_s, hR_n, hIW_s, hIW_n, hJW_s, hJW_n, hRW_s, hRW_n, hNW_s, hNW_n, hRM_s, hRM_n, u2_s, u2_j, u2_row, u2_kk, gR_sI, gR_sJ, gJ_sI, gI_sJ, gN_sI, gN_sJ, gI_sR, gJ_sR, gN_sR, gI_sM, gJ_sM, gN_sM, ne_eq, Nat.reduceEqDiff, not_false_eq_true, reduceCtorEq, true_implies]
  refine ⟨by omega, rfl, rfl, by omega, by omega, by omega, by omega, fun i hi => ?_, fun i k hi hk => ?_, fun r h1 h2 => w10 r (by omega) h2⟩
  · by_cases e : i = ns
    · subst e
      refine ⟨u2_s, by simp [upd2], by simp [upd2], by simp [upd2, upd], by rw [upd_s]; exact p1.1, by rw [upd_s]; exact p1.2⟩
    · obtain ⟨a1, a2, a3, a4, a5, a6⟩ := w8 i (by omega)
      have e' : ¬ ns ≤ i := by omega
      simp only [upd_n e, upd2, zer2, e, e', w4, false_and, and_false, if_false]
      exact ⟨a1, a2, a3, a4, a5, a6⟩
  · by_cases e : i = ns
    · subst e
      have hm := w10 (10 * i + k) (by omega) (by omega)
      refine ⟨by simp [row2, w5, w7, hk], ?_, Or.inl hm, fun j hj h9 => absurd hm h9⟩
      rw [hm]; simp [rfl2, w6, hk]
    · obtain ⟨a1, a2, a3, a4⟩ := w9 i k (by omega) hk
      have e' : ¬ ns ≤ i := by omega
      have e2 : ¬ 10 * ns ≤ 10 * i + k := by omega
      refine ⟨?_, ?_, a3, fun j hj h9 => ?_⟩
      · simp only [row2, zer2, e, e', w5, w7, false_and, if_false]; exact a1
      · simp only [rfl2, zer2, e, e', w6, false_and, if_false]; exact a2
      · simp only [zer2, w7, e2, false_and, if_false]; exact a4 j hj h9
set_option maxRecDepth 16384 in
set_option maxHeartbeats 2000000 in
theorem op_row (n : Nat) (x m : tw_T) (a : Int32) (b : Int32) (c : Int32) (v : Int64) (h : Rel n x m) :
    F_L_row x 0 a b c v (fun kk ww x9 => F_X10_row m 0 a b c (fun rr m9 => gI m9 0 0 0 = kk ∧ (kk = 0 → ww = rr.toInt64) ∧ Rel (n + 1) x9 m9)) := by
  have hr := h
  obtain ⟨nk, nl, no, nt, nd, na, ns, hA⟩ := h
  have hA0 := hA
  obtain ⟨hM, hX0, hK0, hL0, hC0, hO0, hG0, hT0, hD0, hW0⟩ := hA
  have x0 := hX0.1
  have hW := hW0
  obtain ⟨w1, w2, w3, w4, w5, w6, w7, w8, w9, w10⟩ := hW
  by_cases p1 : (0 ≤ a.toInt ∧ a.toInt < ns) ∧ 0 ≤ b.toInt ∧ b.toInt < 10
  rotate_left
  · simp only [F_L_row, F_X9_row, xX_sheetAt_bad w2 w1 p1, F_X10_row, eM_isRow w3 w1, p1, pu_00, pu_10, ↓forall_eq, bz_b, gR_sI, gR_sJ, gJ_sI, gI_sJ, gN_sI, gN_sJ, gI_sR, gJ_sR, gN_sR, gI_sI, gJ_sJ, gR_sR, gI_nW, gR_nW, gN_nW, gJ_nW, rM_at, rXs_at, rXd_at, ex_s, true_and, and_true, false_and, and_false, or_true, true_or, or_false, false_or, if_true, if_false, not_true_eq_false, not_false_eq_true, forall_const, true_implies, false_implies, implies_true, Nat.reduceLeDiff, Nat.reduceEqDiff, reduceCtorEq, i32_succ, i32_pred, Nat.le_refl, Nat.lt_add_one, Nat.reduceLT, ne_eq, Nat.add_one_ne_zero]
    exact hr.t.t.up
  obtain ⟨s, rfl, hs1, hs2⟩ := i32_of (x := a) p1.1.1
  obtain ⟨k, rfl, hk1, hk2⟩ := i32_of (x := b) p1.2.1
  have hs : s < ns := by omega
  have hk : k < 10 := by omega
  obtain ⟨a1, a2, a3, a4, a5, a6⟩ := w8 s hs
  obtain ⟨b1, b2, b3, b4⟩ := w9 s k hs hk
  by_cases p2 : 0 ≤ c.toInt ∧ c.toInt ≤ 40
  rotate_left
  · simp only [F_L_row, F_X9_row, xX_sheetAt x0 w2 w1 hs hk a1, eX_isWithin, Int32.toInt_toInt64, Int64.reduceToInt, bz_eq0, p2, F_X10_row, eM_isRow w3 w1, p1, eM_within, Int32.reduceToInt, pu_00, pu_10, ↓forall_eq, bz_b, gR_sI, gR_sJ, gJ_sI, gI_sJ, gN_sI, gN_sJ, gI_sR, gJ_sR, gN_sR, gI_sI, gJ_sJ, gR_sR, gI_nW, gR_nW, gN_nW, gJ_nW, rM_at, rXs_at, rXd_at, ex_s, true_and, and_true, false_and, and_false, or_true, true_or, or_false, false_or, if_true, if_false, not_true_eq_false, not_false_eq_true, forall_const, true_implies, false_implies, implies_true, Nat.reduceLeDiff, Nat.reduceEqDiff, reduceCtorEq, i32_succ, i32_pred, Nat.le_refl, Nat.lt_add_one, Nat.reduceLT, ne_eq, Nat.add_one_ne_zero]
    exact hr.t.up
  have e3 := vpin hk (by decide)
  have e4 := i32_nat (show k < 2147483648 by omega)
  have e5 := vpin (show 10 * s + k < 40 by omega) (by decide)
  have e6 := i32_nat (show 10 * s + k < 2147483648 by omega)
  simp only [F_L_row, F_X9_row, xX_sheetAt x0 w2 w1 hs hk a1, eX_isWithin, Int32.toInt_toInt64, Int64.reduceToInt, bz_eq0, p2, F_X6_renewRow, a2, e3, e4, b1, ↓forall_eq, bz_b, gR_sI, gR_sJ, gJ_sI, gI_sJ, gN_sI, gN_sJ, gI_sR, gJ_sR, gN_sR, gI_sI, gJ_sJ, gR_sR, gI_nW, gR_nW, gN_nW, gJ_nW, rM_at, rXs_at, rXd_at, ex_s, true_and, and_true, false_and, and_false, or_true, true_or, or_false, false_or, if_true, if_false, not_true_eq_false, not_false_eq_true, forall_const, true_implies, false_implies, implies_true, Nat.reduceLeDiff, Nat.reduceEqDiff, reduceCtorEq, i32_succ, i32_pred, Nat.le_refl, Nat.lt_add_one, Nat.reduceLT, ne_eq, Nat.add_one_ne_zero]
  refine xX_fillJ (by decide) ?_
  simp only [gR_RJ, a3, ↓forall_eq, bz_b, gR_sI, gR_sJ, gJ_sI, gI_sJ, gN_sI, gN_sJ, gI_sR, gJ_sR, gN_sR, gI_sI, gJ_sJ, gR_sR, gI_nW, gR_nW, gN_nW, gJ_nW, rM_at, rXs_at, rXd_at, ex_s, true_and, and_true, false_and, and_false, or_true, true_or, or_false, false_or, if_true, if_false, not_true_eq_false, not_false_eq_true, forall_const, true_implies, false_implies, implies_true, Nat.reduceLeDiff, Nat.reduceEqDiff, reduceCtorEq, i32_succ, i32_pred, Nat.le_refl, Nat.lt_add_one, Nat.reduceLT, ne_eq, Nat.add_one_ne_zero]
  simp only [F_X10_row, eM_isRow w3 w1, p1, p2, eM_within, bz_eq0, Int32.reduceToInt, ix10, e5, e6, hM, pu_10, ↓forall_eq, bz_b, gR_sI, gR_sJ, gJ_sI, gI_sJ, gN_sI, gN_sJ, gI_sR, gJ_sR, gN_sR, gI_sI, gJ_sJ, gR_sR, gI_nW, gR_nW, gN_nW, gJ_nW, rM_at, rXs_at, rXd_at, ex_s, true_and, and_true, false_and, and_false, or_true, true_or, or_false, false_or, if_true, if_false, not_true_eq_false, not_false_eq_true, forall_const, true_implies, false_implies, implies_true, Nat.reduceLeDiff, Nat.reduceEqDiff, reduceCtorEq, i32_succ, i32_pred, Nat.le_refl, Nat.lt_add_one, Nat.reduceLT, ne_eq, Nat.add_one_ne_zero]
  refine ⟨41, ?_⟩
  have hl := eM_row_l (s := s) (k := k) (u3 := c) (Q := fun rr m9 => gI m9 0 0 0 = 0 ∧ c.toInt64 = rr.toInt64 ∧ Rel (n + 1) (sI (sRJ x 36 (10 * s + k) 40 0) 35 s k c) m9) (EX := fun (τ17 : tw_T) (z18 : Int32) => gI τ17 0 0 0 = 0 ∧ Rel (n + 1) (sI (sRJ x 36 (10 * s + k) 40 0) 35 s k c) τ17) (τ := sI (sI m 0 0 0 0) 141 0 (10 * s + k) c) hM (by omega) hk 40 0 rfl ?_
  · rw [sZJ_0] at hl
    first | exact hl | simpa only [↓forall_eq, bz_b, gR_sI, gR_sJ, gJ_sI, gI_sJ, gN_sI, gN_sJ, gI_sR, gJ_sR, gN_sR, gI_sI, gJ_sJ, gR_sR, gI_nW, gR_nW, gN_nW, gJ_nW, rM_at, rXs_at, rXd_at, ex_s, true_and, and_true, false_and, and_false, or_true, true_or, or_false, false_or, if_true, if_false, not_true_eq_false, not_false_eq_true, forall_const, true_implies, false_implies, implies_true, Nat.reduceLeDiff, Nat.reduceEqDiff, reduceCtorEq, i32_succ, i32_pred, Nat.le_refl, Nat.lt_add_one, Nat.reduceLT, ne_eq, Nat.add_one_ne_zero] using hl
  refine ⟨by simp only [hRI_s, hRI_n, gR_RI, gJ_RI, gN_RI, hRJ_s, hRJ_n, gI_RJ, gR_RJ, gN_RJ, hZJ_s, hZJ_n, gI_ZJ, gR_ZJ, gN_ZJ, hI_s, hI_n, hJ_s, hJ_n, hR_s, hR_n, hIW_s, hIW_n, hJW_s, hJW_n, hRW_s, hRW_n, hNW_s, hNW_n, hRM_s, hRM_n, u2_s, u2_j, u2_row, u2_kk, gR_sI, gR_sJ, gJ_sI, gI_sJ, gN_sI, gN_sJ, gI_sR, gJ_sR, gN_sR, gI_sM, gJ_sM, gN_sM, ne_eq, Nat.reduceEqDiff, not_false_eq_true, reduceCtorEq, true_implies], ?_⟩
  refine ⟨nk, nl, no, nt, nd, na, ns, (by simpa only [hRI_s, hRI_n, gR_RI, gJ_RI, gN_RI, hRJ_s, hRJ_n, gI_RJ, gR_RJ, gN_RJ, hZJ_s, hZJ_n, gI_ZJ, gR_ZJ, gN_ZJ, hI_s, hI_n, hJ_s, hJ_n, hR_s, hR_n, hIW_s, hIW_n, hJW_s, hJW_n, hRW_s, hRW_n, hNW_s, hNW_n, hRM_s, hRM_n, u2_s, u2_j, u2_row, u2_kk, gR_sI, gR_sJ, gJ_sI, gI_sJ, gN_sI, gN_sJ, gI_sR, gJ_sR, gN_sR, gI_sM, gJ_sM, gN_sM, ne_eq, Nat.reduceEqDiff, not_false_eq_true, reduceCtorEq, true_implies] using hM), (by simpa only [hRI_s, hRI_n, gR_RI, gJ_RI, gN_RI, hRJ_s, hRJ_n, gI_RJ, gR_RJ, gN_RJ, hZJ_s, hZJ_n, gI_ZJ, gR_ZJ, gN_ZJ, hI_s, hI_n, hJ_s, hJ_n, hR_s, hR_n, hIW_s, hIW_n, hJW_s, hJW_n, hRW_s, hRW_n, hNW_s, hNW_n, hRM_s, hRM_n, u2_s, u2_j, u2_row, u2_kk, gR_sI, gR_sJ, gJ_sI, gI_sJ, gN_sI, gN_sJ, gI_sR, gJ_sR, gN_sR, gI_sM, gJ_sM, gN_sM, ne_eq, Nat.reduceEqDiff, not_false_eq_true, reduceCtorEq, true_implies] using hX0), (by simpa only [hRI_s, hRI_n, gR_RI, gJ_RI, gN_RI, hRJ_s, hRJ_n, gI_RJ, gR_RJ, gN_RJ, hZJ_s, hZJ_n, gI_ZJ, gR_ZJ, gN_ZJ, hI_s, hI_n, hJ_s, hJ_n, hR_s, hR_n, hIW_s, hIW_n, hJW_s, hJW_n, hRW_s, hRW_n, hNW_s, hNW_n, hRM_s, hRM_n, u2_s, u2_j, u2_row, u2_kk, gR_sI, gR_sJ, gJ_sI, gI_sJ, gN_sI, gN_sJ, gI_sR, gJ_sR, gN_sR, gI_sM, gJ_sM, gN_sM, ne_eq, Nat.reduceEqDiff, not_false_eq_true, reduceCtorEq, true_implies] using hK0), (by simpa only [hRI_s, hRI_n, gR_RI, gJ_RI, gN_RI, hRJ_s, hRJ_n, gI_RJ, gR_RJ, gN_RJ, hZJ_s, hZJ_n, gI_ZJ, gR_ZJ, gN_ZJ, hI_s, hI_n, hJ_s, hJ_n, hR_s, hR_n, hIW_s, hIW_n, hJW_s, hJW_n, hRW_s, hRW_n, hNW_s, hNW_n, hRM_s, hRM_n, u2_s, u2_j, u2_row, u2_kk, gR_sI, gR_sJ, gJ_sI, gI_sJ, gN_sI, gN_sJ, gI_sR, gJ_sR, gN_sR, gI_sM, gJ_sM, gN_sM, ne_eq, Nat.reduceEqDiff, not_false_eq_true, reduceCtorEq, true_implies] using hL0.up), (by simpa only [hRI_s, hRI_n, gR_RI, gJ_RI, gN_RI, hRJ_s, hRJ_n, gI_RJ, gR_RJ, gN_RJ, hZJ_s, hZJ_n, gI_ZJ, gR_ZJ, gN_ZJ, hI_s, hI_n, hJ_s, hJ_n, hR_s, hR_n, hIW_s, hIW_n, hJW_s, hJW_n, hRW_s, hRW_n, hNW_s, hNW_n, hRM_s, hRM_n, u2_s, u2_j, u2_row, u2_kk, gR_sI, gR_sJ, gJ_sI, gI_sJ, gN_sI, gN_sJ, gI_sR, gJ_sR, gN_sR, gI_sM, gJ_sM, gN_sM, ne_eq, Nat.reduceEqDiff, not_false_eq_true, reduceCtorEq, true_implies] using hC0), (by simpa only [hRI_s, hRI_n, gR_RI, gJ_RI, gN_RI, hRJ_s, hRJ_n, gI_RJ, gR_RJ, gN_RJ, hZJ_s, hZJ_n, gI_ZJ, gR_ZJ, gN_ZJ, hI_s, hI_n, hJ_s, hJ_n, hR_s, hR_n, hIW_s, hIW_n, hJW_s, hJW_n, hRW_s, hRW_n, hNW_s, hNW_n, hRM_s, hRM_n, u2_s, u2_j, u2_row, u2_kk, gR_sI, gR_sJ, gJ_sI, gI_sJ, gN_sI, gN_sJ, gI_sR, gJ_sR, gN_sR, gI_sM, gJ_sM, gN_sM, ne_eq, Nat.reduceEqDiff, not_false_eq_true, reduceCtorEq, true_implies] using hO0), (by simpa only [hRI_s, hRI_n, gR_RI, gJ_RI, gN_RI, hRJ_s, hRJ_n, gI_RJ, gR_RJ, gN_RJ, hZJ_s, hZJ_n, gI_ZJ, gR_ZJ, gN_ZJ, hI_s, hI_n, hJ_s, hJ_n, hR_s, hR_n, hIW_s, hIW_n, hJW_s, hJW_n, hRW_s, hRW_n, hNW_s, hNW_n, hRM_s, hRM_n, u2_s, u2_j, u2_row, u2_kk, gR_sI, gR_sJ, gJ_sI, gI_sJ, gN_sI, gN_sJ, gI_sR, gJ_sR, gN_sR, gI_sM, gJ_sM, gN_sM, ne_eq, Nat.reduceEqDiff, not_false_eq_true, reduceCtorEq, true_implies] using hG0), (by simpa only [hRI_s, hRI_n, gR_RI, gJ_RI, gN_RI, hRJ_s, hRJ_n, gI_RJ, gR_RJ, gN_RJ, hZJ_s, hZJ_n, gI_ZJ, gR_ZJ, gN_ZJ, hI_s, hI_n, hJ_s, hJ_n, hR_s, hR_n, hIW_s, hIW_n, hJW_s, hJW_n, hRW_s, hRW_n, hNW_s, hNW_n, hRM_s, hRM_n, u2_s, u2_j, u2_row, u2_kk, gR_sI, gR_sJ, gJ_sI, gI_sJ, gN_sI, gN_sJ, gI_sR, gJ_sR, gN_sR, gI_sM, gJ_sM, gN_sM, ne_eq, Nat.reduceEqDiff, not_false_eq_true, reduceCtorEq, true_implies] using hT0), (by simpa only [hRI_s, hRI_n, gR_RI, gJ_RI, gN_RI, hRJ_s, hRJ_n, gI_RJ, gR_RJ, gN_RJ, hZJ_s, hZJ_n, gI_ZJ, gR_ZJ, gN_ZJ, hI_s, hI_n, hJ_s, hJ_n, hR_s, hR_n, hIW_s, hIW_n, hJW_s, hJW_n, hRW_s, hRW_n, hNW_s, hNW_n, hRM_s, hRM_n, u2_s, u2_j, u2_row, u2_kk, gR_sI, gR_sJ, gJ_sI, gI_sJ, gN_sI, gN_sJ, gI_sR, gJ_sR, gN_sR, gI_sM, gJ_sM, gN_sM, ne_eq, Nat.reduceEqDiff, not_false_eq_true, reduceCtorEq, true_implies] using hD0), ?_⟩
  simp only [hRI_s, hRI_n, gR_RI, gJ_RI, gN_RI, hRJ_s, hRJ_n, gI_RJ, gR_RJ, gN_RJ, hZJ_s, hZJ_n, gI_ZJ, gR_ZJ, gN_ZJ, hI_s, hI_n, hJ_s, hJ_n, hR_s, hR_n, hIW_s, hIW_n, hJW_s, hJW_n, hRW_s, hRW_n, hNW_s, hNW_n, hRM_s, hRM_n, u2_s, u2_j, u2_row, u2_kk, gR_sI, gR_sJ, gJ_sI, gI_sJ, gN_sI, gN_sJ, gI_sR, gJ_sR, gN_sR, gI_sM, gJ_sM, gN_sM, ne_eq, Nat.reduceEqDiff, not_false_eq_true, reduceCtorEq, true_implies]
  refine ⟨w1, w2, w3, w4, w5, w6, w7, w8, fun i k' hi hk' => ?_, fun r h1 h2 => ?_⟩
  · obtain ⟨d1, d2, d3, d4⟩ := w9 i k' hi hk'
    by_cases e : i = s ∧ k' = k
    · obtain ⟨rfl, rfl⟩ := e
      refine ⟨d1, by rw [u2_s, upd_s], Or.inr (by rw [upd_s]; exact p2), fun j hj _ => ?_⟩
      unfold rfl2 rzl2
      rw [if_pos ⟨rfl, hj⟩, if_pos ⟨rfl, by omega, by omega⟩]
    · have e2 : 10 * i + k' ≠ 10 * s + k := by omega
      refine ⟨d1, by unfold upd2; rw [if_neg e, upd_n e2]; exact d2, by rw [upd_n e2]; exact d3, fun j hj h9 => ?_⟩
      rw [upd_n e2] at h9
      unfold rfl2 rzl2
      rw [if_neg (by omega), if_neg (by omega)]
      exact d4 j hj h9
  · rw [upd_n (by omega)]; exact w10 r h1 h2
set_option maxRecDepth 16384 in
set_option maxHeartbeats 2000000 in
theorem op_set (n : Nat) (x m : tw_T) (a b c : Int32) (w : Int64) (v : Int64) (h : Rel n x m) :
    F_L_set x 0 a b c w v (fun kk ww x9 => F_X10_set m 0 a b c w (fun rr m9 => gI m9 0 0 0 = kk ∧ (kk = 0 → ww = rr.toInt64) ∧ Rel (n + 1) x9 m9)) := by
  have hr := h
  obtain ⟨nk, nl, no, nt, nd, na, ns, hA⟩ := h
  have hA0 := hA
  obtain ⟨hM, hX0, hK0, hL0, hC0, hO0, hG0, hT0, hD0, hW0⟩ := hA
  have x0 := hX0.1
  have hW := hW0
  obtain ⟨w1, w2, w3, w4, w5, w6, w7, w8, w9, w10⟩ := hW
  by_cases p1 : (0 ≤ a.toInt ∧ a.toInt < ns) ∧ 0 ≤ b.toInt ∧ b.toInt < 10
  rotate_left
  · simp only [F_L_set, F_X9_set, xX_sheetAt_bad w2 w1 p1, F_X10_set, eM_isRow w3 w1, p1, pu_00, pu_10, ↓forall_eq, bz_b, gR_sI, gR_sJ, gJ_sI, gI_sJ, gN_sI, gN_sJ, gI_sR, gJ_sR, gN_sR, gI_sI, gJ_sJ, gR_sR, gI_nW, gR_nW, gN_nW, gJ_nW, rM_at, rXs_at, rXd_at, ex_s, true_and, and_true, false_and, and_false, or_true, true_or, or_false, false_or, if_true, if_false, not_true_eq_false, not_false_eq_true, forall_const, true_implies, false_implies, implies_true, Nat.reduceLeDiff, Nat.reduceEqDiff, reduceCtorEq, i32_succ, i32_pred, Nat.le_refl, Nat.lt_add_one, Nat.reduceLT, ne_eq, Nat.add_one_ne_zero]
    exact hr.t.t.up
  obtain ⟨s, rfl, hs1, hs2⟩ := i32_of (x := a) p1.1.1
  obtain ⟨k, rfl, hk1, hk2⟩ := i32_of (x := b) p1.2.1
  have hs : s < ns := by omega
  have hk : k < 10 := by omega
  obtain ⟨a1, a2, a3, a4, a5, a6⟩ := w8 s hs
  obtain ⟨b1, b2, b3, b4⟩ := w9 s k hs hk
  have e3 := vpin hk (by decide)
  have e4 := i32_nat (show k < 2147483648 by omega)
  have e5 := vpin (show 10 * s + k < 40 by omega) (by decide)
  have e6 := i32_nat (show 10 * s + k < 2147483648 by omega)
  have e7 := vpin (show s < 4 by omega) (by decide)
  have e8 := i32_nat (show s < 2147483648 by omega)
  by_cases p2 : gI m 141 0 (10 * s + k) = -1
  · simp only [F_L_set, F_X9_set, xX_sheetAt x0 w2 w1 hs hk a1, a3, e3, e4, b2, p2, F_X10_set, eM_isRow w3 w1, p1, ix10, hM, e5, e6, pu_00, pu_10, ↓forall_eq, bz_b, gR_sI, gR_sJ, gJ_sI, gI_sJ, gN_sI, gN_sJ, gI_sR, gJ_sR, gN_sR, gI_sI, gJ_sJ, gR_sR, gI_nW, gR_nW, gN_nW, gJ_nW, rM_at, rXs_at, rXd_at, ex_s, true_and, and_true, false_and, and_false, or_true, true_or, or_false, false_or, if_true, if_false, not_true_eq_false, not_false_eq_true, forall_const, true_implies, false_implies, implies_true, Nat.reduceLeDiff, Nat.reduceEqDiff, reduceCtorEq, i32_succ, i32_pred, Nat.le_refl, Nat.lt_add_one, Nat.reduceLT, ne_eq, Nat.add_one_ne_zero]
    exact hr.t.up
  have b3 := b3.resolve_left p2
  have q1 : (gI m 141 0 (10 * s + k) - 1).toInt = (gI m 141 0 (10 * s + k)).toInt - 1 := by
    have o1 : (1 : Int32).toInt = 1 := rfl
    rw [i32_sub] <;> rw [o1] <;> omega
  by_cases p3 : 0 ≤ c.toInt ∧ c.toInt < (gI m 141 0 (10 * s + k)).toInt
  rotate_left
  · have p4 : ¬ (0 ≤ c.toInt ∧ c.toInt ≤ (gI m 141 0 (10 * s + k)).toInt - 1) := by omega
    have hm : ∀ Q : Int32 → tw_T → Prop, Q (-2) (sI m 0 0 0 0) → F_X10_set m 0 (i32 s) (i32 k) c w Q := by
      intro Q hQ
      simp only [F_X10_set, eM_isRow w3 w1, p1, p2, ix10, hM, e5, e6, eM_within, Int32.reduceToInt, bz_eq0, gI_sI, q1, p4, pu_00, pu_10, ↓forall_eq, bz_b, gR_sI, gR_sJ, gJ_sI, gI_sJ, gN_sI, gN_sJ, gI_sR, gJ_sR, gN_sR, gI_sI, gJ_sJ, gR_sR, gI_nW, gR_nW, gN_nW, gJ_nW, rM_at, rXs_at, rXd_at, ex_s, true_and, and_true, false_and, and_false, or_true, true_or, or_false, false_or, if_true, if_false, not_true_eq_false, not_false_eq_true, forall_const, true_implies, false_implies, implies_true, Nat.reduceLeDiff, Nat.reduceEqDiff, reduceCtorEq, i32_succ, i32_pred, Nat.le_refl, Nat.lt_add_one, Nat.reduceLT, ne_eq, Nat.add_one_ne_zero]
      exact hQ
    simp only [F_L_set, F_X9_set, xX_sheetAt x0 w2 w1 hs hk a1, a3, e3, e4, b2, p2, ↓forall_eq, bz_b, gR_sI, gR_sJ, gJ_sI, gI_sJ, gN_sI, gN_sJ, gI_sR, gJ_sR, gN_sR, gI_sI, gJ_sJ, gR_sR, gI_nW, gR_nW, gN_nW, gJ_nW, rM_at, rXs_at, rXd_at, ex_s, true_and, and_true, false_and, and_false, or_true, true_or, or_false, false_or, if_true, if_false, not_true_eq_false, not_false_eq_true, forall_const, true_implies, false_implies, implies_true, Nat.reduceLeDiff, Nat.reduceEqDiff, reduceCtorEq, i32_succ, i32_pred, Nat.le_refl, Nat.lt_add_one, Nat.reduceLT, ne_eq, Nat.add_one_ne_zero]
    refine ⟨fun h9 => hm _ ?_, fun h9 => ⟨fun h8 => ?_, fun h8 => hm _ ?_⟩⟩
    · simp only [↓forall_eq, bz_b, gR_sI, gR_sJ, gJ_sI, gI_sJ, gN_sI, gN_sJ, gI_sR, gJ_sR, gN_sR, gI_sI, gJ_sJ, gR_sR, gI_nW, gR_nW, gN_nW, gJ_nW, rM_at, rXs_at, rXd_at, ex_s, true_and, and_true, false_and, and_false, or_true, true_or, or_false, false_or, if_true, if_false, not_true_eq_false, not_false_eq_true, forall_const, true_implies, false_implies, implies_true, Nat.reduceLeDiff, Nat.reduceEqDiff, reduceCtorEq, i32_succ, i32_pred, Nat.le_refl, Nat.lt_add_one, Nat.reduceLT, ne_eq, Nat.add_one_ne_zero]; exact hr.t.up
    · exfalso
      rw [i32_lt0] at h9
      rw [Int32.lt_iff_toInt_lt] at h8
      omega
    · simp only [↓forall_eq, bz_b, gR_sI, gR_sJ, gJ_sI, gI_sJ, gN_sI, gN_sJ, gI_sR, gJ_sR, gN_sR, gI_sI, gJ_sJ, gR_sR, gI_nW, gR_nW, gN_nW, gJ_nW, rM_at, rXs_at, rXd_at, ex_s, true_and, and_true, false_and, and_false, or_true, true_or, or_false, false_or, if_true, if_false, not_true_eq_false, not_false_eq_true, forall_const, true_implies, false_implies, implies_true, Nat.reduceLeDiff, Nat.reduceEqDiff, reduceCtorEq, i32_succ, i32_pred, Nat.le_refl, Nat.lt_add_one, Nat.reduceLT, ne_eq, Nat.add_one_ne_zero]; exact hr.t.up
  obtain ⟨t, rfl, ht1, ht2⟩ := i32_of (x := c) p3.1
  have p4 : 0 ≤ (i32 t).toInt ∧ (i32 t).toInt ≤ (gI m 141 0 (10 * s + k)).toInt - 1 := by omega
  have p5 : ¬ i32 t < 0 := by rw [i32_lt0]; omega
  have p6 : i32 t < gI m 141 0 (10 * s + k) := by rw [Int32.lt_iff_toInt_lt]; exact p3.2
  have ht : t < 40 := by omega
  have e9 := vpin ht (by decide)
  have f1 := i32_nat (show t < 2147483648 by omega)
  have f2 := vpin (show 40 * (10 * s + k) + t < 1600 by omega) (by decide)
  have f3 := i32_nat (show 40 * (10 * s + k) + t < 2147483648 by omega)
  have R : ∀ z : Int64, Rel (n + 1) (sJ x 36 (10 * s + k) t z) (sJ (sI m 0 0 0 0) 142 0 (40 * (10 * s + k) + t) z) := by
    intro z
    refine ⟨nk, nl, no, nt, nd, na, ns, (by simpa only [hI_s, hI_n, hJ_s, hJ_n, hR_s, hR_n, hIW_s, hIW_n, hJW_s, hJW_n, hRW_s, hRW_n, hNW_s, hNW_n, hRM_s, hRM_n, u2_s, u2_j, u2_row, u2_kk, gR_sI, gR_sJ, gJ_sI, gI_sJ, gN_sI, gN_sJ, gI_sR, gJ_sR, gN_sR, gI_sM, gJ_sM, gN_sM, ne_eq, Nat.reduceEqDiff, not_false_eq_true, reduceCtorEq, true_implies] using hM), (by simpa only [hI_s, hI_n, hJ_s, hJ_n, hR_s, hR_n, hIW_s, hIW_n, hJW_s, hJW_n, hRW_s, hRW_n, hNW_s, hNW_n, hRM_s, hRM_n, u2_s, u2_j, u2_row, u2_kk, gR_sI, gR_sJ, gJ_sI, gI_sJ, gN_sI, gN_sJ, gI_sR, gJ_sR, gN_sR, gI_sM, gJ_sM, gN_sM, ne_eq, Nat.reduceEqDiff, not_false_eq_true, reduceCtorEq, true_implies] using hX0), (by simpa only [hI_s, hI_n, hJ_s, hJ_n, hR_s, hR_n, hIW_s, hIW_n, hJW_s, hJW_n, hRW_s, hRW_n, hNW_s, hNW_n, hRM_s, hRM_n, u2_s, u2_j, u2_row, u2_kk, gR_sI, gR_sJ, gJ_sI, gI_sJ, gN_sI, gN_sJ, gI_sR, gJ_sR, gN_sR, gI_sM, gJ_sM, gN_sM, ne_eq, Nat.reduceEqDiff, not_false_eq_true, reduceCtorEq, true_implies] using hK0), (by simpa only [hI_s, hI_n, hJ_s, hJ_n, hR_s, hR_n, hIW_s, hIW_n, hJW_s, hJW_n, hRW_s, hRW_n, hNW_s, hNW_n, hRM_s, hRM_n, u2_s, u2_j, u2_row, u2_kk, gR_sI, gR_sJ, gJ_sI, gI_sJ, gN_sI, gN_sJ, gI_sR, gJ_sR, gN_sR, gI_sM, gJ_sM, gN_sM, ne_eq, Nat.reduceEqDiff, not_false_eq_true, reduceCtorEq, true_implies] using hL0.up), (by simpa only [hI_s, hI_n, hJ_s, hJ_n, hR_s, hR_n, hIW_s, hIW_n, hJW_s, hJW_n, hRW_s, hRW_n, hNW_s, hNW_n, hRM_s, hRM_n, u2_s, u2_j, u2_row, u2_kk, gR_sI, gR_sJ, gJ_sI, gI_sJ, gN_sI, gN_sJ, gI_sR, gJ_sR, gN_sR, gI_sM, gJ_sM, gN_sM, ne_eq, Nat.reduceEqDiff, not_false_eq_true, reduceCtorEq, true_implies] using hC0), (by simpa only [hI_s, hI_n, hJ_s, hJ_n, hR_s, hR_n, hIW_s, hIW_n, hJW_s, hJW_n, hRW_s, hRW_n, hNW_s, hNW_n, hRM_s, hRM_n, u2_s, u2_j, u2_row, u2_kk, gR_sI, gR_sJ, gJ_sI, gI_sJ, gN_sI, gN_sJ, gI_sR, gJ_sR, gN_sR, gI_sM, gJ_sM, gN_sM, ne_eq, Nat.reduceEqDiff, not_false_eq_true, reduceCtorEq, true_implies] using hO0), (by simpa only [hI_s, hI_n, hJ_s, hJ_n, hR_s, hR_n, hIW_s, hIW_n, hJW_s, hJW_n, hRW_s, hRW_n, hNW_s, hNW_n, hRM_s, hRM_n, u2_s, u2_j, u2_row, u2_kk, gR_sI, gR_sJ, gJ_sI, gI_sJ, gN_sI, gN_sJ, gI_sR, gJ_sR, gN_sR, gI_sM, gJ_sM, gN_sM, ne_eq, Nat.reduceEqDiff, not_false_eq_true, reduceCtorEq, true_implies] using hG0), (by simpa only [hI_s, hI_n, hJ_s, hJ_n, hR_s, hR_n, hIW_s, hIW_n, hJW_s, hJW_n, hRW_s, hRW_n, hNW_s, hNW_n, hRM_s, hRM_n, u2_s, u2_j, u2_row, u2_kk, gR_sI, gR_sJ, gJ_sI, gI_sJ, gN_sI, gN_sJ, gI_sR, gJ_sR, gN_sR, gI_sM, gJ_sM, gN_sM, ne_eq, Nat.reduceEqDiff, not_false_eq_true, reduceCtorEq, true_implies] using hT0), (by simpa only [hI_s, hI_n, hJ_s, hJ_n, hR_s, hR_n, hIW_s, hIW_n, hJW_s, hJW_n, hRW_s, hRW_n, hNW_s, hNW_n, hRM_s, hRM_n, u2_s, u2_j, u2_row, u2_kk, gR_sI, gR_sJ, gJ_sI, gI_sJ, gN_sI, gN_sJ, gI_sR, gJ_sR, gN_sR, gI_sM, gJ_sM, gN_sM, ne_eq, Nat.reduceEqDiff, not_false_eq_true, reduceCtorEq, true_implies] using hD0), ?_⟩
    simp only [hI_s, hI_n, hJ_s, hJ_n, hR_s, hR_n, hIW_s, hIW_n, hJW_s, hJW_n, hRW_s, hRW_n, hNW_s, hNW_n, hRM_s, hRM_n, u2_s, u2_j, u2_row, u2_kk, gR_sI, gR_sJ, gJ_sI, gI_sJ, gN_sI, gN_sJ, gI_sR, gJ_sR, gN_sR, gI_sM, gJ_sM, gN_sM, ne_eq, Nat.reduceEqDiff, not_false_eq_true, reduceCtorEq, true_implies]
    refine ⟨w1, w2, w3, w4, w5, w6, w7, w8, fun i k' hi hk' => ?_, w10⟩
    obtain ⟨d1, d2, d3, d4⟩ := w9 i k' hi hk'
    refine ⟨d1, d2, d3, fun j hj h9 => ?_⟩
    by_cases e : i = s ∧ k' = k ∧ j = t
    · obtain ⟨rfl, rfl, rfl⟩ := e
      rw [u2_s, u2_s]
    · unfold upd2
      rw [if_neg (by omega), if_neg (by omega)]
      exact d4 j hj h9
  simp only [F_L_set, F_X9_set, xX_sheetAt x0 w2 w1 hs hk a1, a2, a3, e3, e4, b1, b2, p2, p5, p6, F_X6_lowestBits, a4, e9, f1, ↓forall_eq, bz_b, gR_sI, gR_sJ, gJ_sI, gI_sJ, gN_sI, gN_sJ, gI_sR, gJ_sR, gN_sR, gI_sI, gJ_sJ, gR_sR, gI_nW, gR_nW, gN_nW, gJ_nW, rM_at, rXs_at, rXd_at, ex_s, true_and, and_true, false_and, and_false, or_true, true_or, or_false, false_or, if_true, if_false, not_true_eq_false, not_false_eq_true, forall_const, true_implies, false_implies, implies_true, Nat.reduceLeDiff, Nat.reduceEqDiff, reduceCtorEq, i32_succ, i32_pred, Nat.le_refl, Nat.lt_add_one, Nat.reduceLT, ne_eq, Nat.add_one_ne_zero]
  simp only [F_X10_set, J_X10_set_104, eM_isRow w3 w1, p1, p2, p4, ix10, ix4, hM, e5, e6, e7, e8, f2, f3, eM_within, Int32.reduceToInt, bz_eq0, gI_sI, q1, pu_00, pu_10, ↓forall_eq, bz_b, gR_sI, gR_sJ, gJ_sI, gI_sJ, gN_sI, gN_sJ, gI_sR, gJ_sR, gN_sR, gI_sI, gJ_sJ, gR_sR, gI_nW, gR_nW, gN_nW, gJ_nW, rM_at, rXs_at, rXd_at, ex_s, true_and, and_true, false_and, and_false, or_true, true_or, or_false, false_or, if_true, if_false, not_true_eq_false, not_false_eq_true, forall_const, true_implies, false_implies, implies_true, Nat.reduceLeDiff, Nat.reduceEqDiff, reduceCtorEq, i32_succ, i32_pred, Nat.le_refl, Nat.lt_add_one, Nat.reduceLT, ne_eq, Nat.add_one_ne_zero]
  refine ⟨fun z0 => ⟨fun z1 => ?_, fun z1 => ?_⟩, fun z0 => ?_⟩
  · simp only [z0, z1, ↓forall_eq, bz_b, gR_sI, gR_sJ, gJ_sI, gI_sJ, gN_sI, gN_sJ, gI_sR, gJ_sR, gN_sR, gI_sI, gJ_sJ, gR_sR, gI_nW, gR_nW, gN_nW, gJ_nW, rM_at, rXs_at, rXd_at, ex_s, true_and, and_true, false_and, and_false, or_true, true_or, or_false, false_or, if_true, if_false, not_true_eq_false, not_false_eq_true, forall_const, true_implies, false_implies, implies_true, Nat.reduceLeDiff, Nat.reduceEqDiff, reduceCtorEq, i32_succ, i32_pred, Nat.le_refl, Nat.lt_add_one, Nat.reduceLT, ne_eq, Nat.add_one_ne_zero]; exact R _
  · simp only [z1, pu_10, ↓forall_eq, bz_b, gR_sI, gR_sJ, gJ_sI, gI_sJ, gN_sI, gN_sJ, gI_sR, gJ_sR, gN_sR, gI_sI, gJ_sJ, gR_sR, gI_nW, gR_nW, gN_nW, gJ_nW, rM_at, rXs_at, rXd_at, ex_s, true_and, and_true, false_and, and_false, or_true, true_or, or_false, false_or, if_true, if_false, not_true_eq_false, not_false_eq_true, forall_const, true_implies, false_implies, implies_true, Nat.reduceLeDiff, Nat.reduceEqDiff, reduceCtorEq, i32_succ, i32_pred, Nat.le_refl, Nat.lt_add_one, Nat.reduceLT, ne_eq, Nat.add_one_ne_zero]; exact R _
  · simp only [z0, ↓forall_eq, bz_b, gR_sI, gR_sJ, gJ_sI, gI_sJ, gN_sI, gN_sJ, gI_sR, gJ_sR, gN_sR, gI_sI, gJ_sJ, gR_sR, gI_nW, gR_nW, gN_nW, gJ_nW, rM_at, rXs_at, rXd_at, ex_s, true_and, and_true, false_and, and_false, or_true, true_or, or_false, false_or, if_true, if_false, not_true_eq_false, not_false_eq_true, forall_const, true_implies, false_implies, implies_true, Nat.reduceLeDiff, Nat.reduceEqDiff, reduceCtorEq, i32_succ, i32_pred, Nat.le_refl, Nat.lt_add_one, Nat.reduceLT, ne_eq, Nat.add_one_ne_zero]; exact R _
