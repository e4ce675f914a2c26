/-! ===== words ===== -/
set_option maxRecDepth 16384 in
def isS (v : Int32) : Bool := !decide (v < 97) && !decide (122 < v)
set_option maxRecDepth 16384 in
theorem isS_iff {v : Int32} : isS v = true ↔ 97 ≤ v.toInt ∧ v.toInt ≤ 122 := by
  unfold isS
  have z1 : (97 : Int32).toInt = 97 := rfl
  have z2 : (122 : Int32).toInt = 122 := rfl
  simp only [Bool.and_eq_true, Bool.not_eq_true', decide_eq_false_iff_not, Int32.lt_iff_toInt_lt, z1, z2]
  omega
set_option maxRecDepth 16384 in
theorem eM_isSmall {τ : tw_T} {v : Int32} {Q : Int32 → tw_T → Prop} : F_X10_isSmall τ v Q ↔ Q (bz (isS v = true)) τ := by
  unfold F_X10_isSmall isS
  by_cases h1 : v < 97
  · simp only [h1, decide_true, Bool.not_true, Bool.false_and, Bool.false_eq_true, bz_f, ↓forall_eq, bz_b, gR_sI, gR_sJ, gJ_sI, gI_sJ, gN_sI, gN_sJ, gI_sR, gJ_sR, gN_sR, gI_sI, gJ_sJ, gR_sR, gI_nW, gR_nW, gN_nW, gJ_nW, rM_at, rXs_at, rXd_at, ex_s, true_and, and_true, false_and, and_false, or_true, true_or, or_false, false_or, if_true, if_false, not_true_eq_false, not_false_eq_true, forall_const, true_implies, false_implies, implies_true, Nat.reduceLeDiff, Nat.reduceEqDiff, reduceCtorEq, i32_succ, i32_pred, Nat.le_refl, Nat.lt_add_one, Nat.reduceLT, ne_eq, Nat.add_one_ne_zero]
  · by_cases h2 : 122 < v
    · simp only [h1, h2, decide_true, Bool.not_true, Bool.and_false, Bool.false_eq_true, bz_f, ↓forall_eq, bz_b, gR_sI, gR_sJ, gJ_sI, gI_sJ, gN_sI, gN_sJ, gI_sR, gJ_sR, gN_sR, gI_sI, gJ_sJ, gR_sR, gI_nW, gR_nW, gN_nW, gJ_nW, rM_at, rXs_at, rXd_at, ex_s, true_and, and_true, false_and, and_false, or_true, true_or, or_false, false_or, if_true, if_false, not_true_eq_false, not_false_eq_true, forall_const, true_implies, false_implies, implies_true, Nat.reduceLeDiff, Nat.reduceEqDiff, reduceCtorEq, i32_succ, i32_pred, Nat.le_refl, Nat.lt_add_one, Nat.reduceLT, ne_eq, Nat.add_one_ne_zero]
    · simp only [h1, h2, decide_false, Bool.not_false, Bool.and_self, bz_t, ↓forall_eq, bz_b, gR_sI, gR_sJ, gJ_sI, gI_sJ, gN_sI, gN_sJ, gI_sR, gJ_sR, gN_sR, gI_sI, gJ_sJ, gR_sR, gI_nW, gR_nW, gN_nW, gJ_nW, rM_at, rXs_at, rXd_at, ex_s, true_and, and_true, false_and, and_false, or_true, true_or, or_false, false_or, if_true, if_false, not_true_eq_false, not_false_eq_true, forall_const, true_implies, false_implies, implies_true, Nat.reduceLeDiff, Nat.reduceEqDiff, reduceCtorEq, i32_succ, i32_pred, Nat.le_refl, Nat.lt_add_one, Nat.reduceLT, ne_eq, Nat.add_one_ne_zero]
set_option maxRecDepth 16384 in
def wl (b : Nat → Int32) : Nat → Nat → Nat
  | 0, _ => 0
  | d + 1, a => if isS (b a) = true then wl b d (a + 1) + 1 else 0
set_option maxRecDepth 16384 in
theorem wl_rng {b : Nat → Int32} : ∀ d a, wl b d a ≤ d ∧ ∀ j, j < wl b d a → isS (b (a + j)) = true := by
  intro d
  induction d with
  | zero => intro a; exact ⟨Nat.le_refl _, fun j hj => by simp only [wl] at hj; omega⟩
  | succ d ih =>
    intro a
    simp only [wl]
    by_cases h : isS (b a) = true
    · rw [if_pos h]
      obtain ⟨h1, h2⟩ := ih (a + 1)
      refine ⟨by omega, fun j hj => ?_⟩
      by_cases e : j = 0
      · rw [e, Nat.add_zero]; exact h
      · have := h2 (j - 1) (by omega)
        rw [show a + 1 + (j - 1) = a + j by omega] at this
        exact this
    · rw [if_neg h]; exact ⟨by omega, fun j hj => by omega⟩
set_option maxRecDepth 16384 in
theorem xX_letters {τ : tw_T} {b : Nat → Int32} {s : Nat} {Q : Option Nat → tw_T → Prop} {EX : tw_T → Int32 → Prop} (h6 : gR τ 6 = rXs 1) (h3 : gI τ 6 0 3 = i32 s) (hb : gI τ 14 0 = b) (hs : s ≤ 200) : ∀ d a, a + d = s → EX τ (i32 (a + wl b d a)) → L_X7_readTest_10 0 Q EX (d + 1) τ (i32 a) := by
  intro d
  induction d with
  | zero =>
    intro a ha hE
    have e1 : i32 s ≤ i32 a := (le_i32 (by omega) (by omega)).mpr (by omega)
    rw [L_X7_readTest_10]; simp only [h3, e1, ↓forall_eq, bz_b, gR_sI, gR_sJ, gJ_sI, gI_sJ, gN_sI, gN_sJ, gI_sR, gJ_sR, gN_sR, gI_sI, gJ_sJ, gR_sR, gI_nW, gR_nW, gN_nW, gJ_nW, rM_at, rXs_at, rXd_at, ex_s, true_and, and_true, false_and, and_false, or_true, true_or, or_false, false_or, if_true, if_false, not_true_eq_false, not_false_eq_true, forall_const, true_implies, false_implies, implies_true, Nat.reduceLeDiff, Nat.reduceEqDiff, reduceCtorEq, i32_succ, i32_pred, Nat.le_refl, Nat.lt_add_one, Nat.reduceLT, ne_eq, Nat.add_one_ne_zero]; exact hE
  | succ d ih =>
    intro a ha hE
    have e1 : ¬ i32 s ≤ i32 a := fun h => absurd ((le_i32 (by omega) (by omega)).mp h) (by omega)
    have e3 := vpin (show a < 200 by omega) (by decide)
    have e4 := i32_nat (show a < 2147483648 by omega)
    simp only [wl] at hE
    rw [L_X7_readTest_10]; simp only [h3, h6, hb, e1, e3, e4, ↓forall_eq, bz_b, gR_sI, gR_sJ, gJ_sI, gI_sJ, gN_sI, gN_sJ, gI_sR, gJ_sR, gN_sR, gI_sI, gJ_sJ, gR_sR, gI_nW, gR_nW, gN_nW, gJ_nW, rM_at, rXs_at, rXd_at, ex_s, true_and, and_true, false_and, and_false, or_true, true_or, or_false, false_or, if_true, if_false, not_true_eq_false, not_false_eq_true, forall_const, true_implies, false_implies, implies_true, Nat.reduceLeDiff, Nat.reduceEqDiff, reduceCtorEq, i32_succ, i32_pred, Nat.le_refl, Nat.lt_add_one, Nat.reduceLT, ne_eq, Nat.add_one_ne_zero]
    refine ⟨fun h9 => ?_, fun h9 => ⟨fun h8 => ?_, fun h8 => ih (a + 1) (by omega) ?_⟩⟩
    · rw [if_neg (by unfold isS; simp only [h9, decide_true, Bool.not_true, Bool.false_and, Bool.false_eq_true, not_false_eq_true])] at hE; exact hE
    · rw [if_neg (by unfold isS; simp only [h8, decide_true, Bool.not_true, Bool.and_false, Bool.false_eq_true, not_false_eq_true])] at hE; exact hE
    · rw [if_pos (by unfold isS; simp only [h8, h9, decide_false, Bool.not_false, Bool.and_self])] at hE
      rw [show a + 1 + wl b d (a + 1) = a + (wl b d (a + 1) + 1) by omega]; exact hE
set_option maxRecDepth 16384 in
theorem eM_letters {m : tw_T} {b : Nat → Int32} {s : Nat} {u1 u2 : Int32} {Q : tw_T → Prop} {EX : tw_T → Prop} (hM : gR m = rM) (h3 : gI m 0 0 30 = i32 s) (hb : gI m 133 0 = b) (hs : s ≤ 200) : ∀ d a, a + d = s → EX (AM m (a + wl b d a)) → L_X10_readTerm_40 0 u1 u2 Q EX (d + 1) (AM m a) := by
  have h30 : ∀ a, gI (AM m a) 0 0 30 = i32 s := fun a => by rw [AM_o (by decide)]; exact h3
  have h133 : ∀ a, gI (AM m a) 133 = gI m 133 := fun a => AM_n (by decide)
  intro d
  induction d with
  | zero =>
    intro a ha hE
    have e1 : i32 s ≤ i32 a := (le_i32 (by omega) (by omega)).mpr (by omega)
    rw [L_X10_readTerm_40]; simp only [AM_31, h30, e1, ↓forall_eq, bz_b, gR_sI, gR_sJ, gJ_sI, gI_sJ, gN_sI, gN_sJ, gI_sR, gJ_sR, gN_sR, gI_sI, gJ_sJ, gR_sR, gI_nW, gR_nW, gN_nW, gJ_nW, rM_at, rXs_at, rXd_at, ex_s, true_and, and_true, false_and, and_false, or_true, true_or, or_false, false_or, if_true, if_false, not_true_eq_false, not_false_eq_true, forall_const, true_implies, false_implies, implies_true, Nat.reduceLeDiff, Nat.reduceEqDiff, reduceCtorEq, i32_succ, i32_pred, Nat.le_refl, Nat.lt_add_one, Nat.reduceLT, ne_eq, Nat.add_one_ne_zero]; exact hE
  | succ d ih =>
    intro a ha hE
    have e1 : ¬ i32 s ≤ i32 a := fun h => absurd ((le_i32 (by omega) (by omega)).mp h) (by omega)
    have e3 := vpin (show a < 200 by omega) (by decide)
    have e4 := i32_nat (show a < 2147483648 by omega)
    simp only [wl] at hE
    rw [L_X10_readTerm_40]; simp only [AM_31, h30, AM_R, h133, AM_s, hM, hb, e1, e3, e4, eM_isSmall, bz_eq0, ↓forall_eq, bz_b, gR_sI, gR_sJ, gJ_sI, gI_sJ, gN_sI, gN_sJ, gI_sR, gJ_sR, gN_sR, gI_sI, gJ_sJ, gR_sR, gI_nW, gR_nW, gN_nW, gJ_nW, rM_at, rXs_at, rXd_at, ex_s, true_and, and_true, false_and, and_false, or_true, true_or, or_false, false_or, if_true, if_false, not_true_eq_false, not_false_eq_true, forall_const, true_implies, false_implies, implies_true, Nat.reduceLeDiff, Nat.reduceEqDiff, reduceCtorEq, i32_succ, i32_pred, Nat.le_refl, Nat.lt_add_one, Nat.reduceLT, ne_eq, Nat.add_one_ne_zero]
    refine ⟨fun h9 => ?_, fun h9 => ih (a + 1) (by omega) ?_⟩
    · rw [if_neg h9] at hE; exact hE
    · rw [if_pos (Decidable.of_not_not h9)] at hE
      rw [show a + 1 + wl b d (a + 1) = a + (wl b d (a + 1) + 1) by omega]; exact hE
set_option maxRecDepth 16384 in
def wk (b : Nat → Int32) : Nat → Nat → Nat → Int32 → Int32
  | 0, _, _, v => v
  | d + 1, a, n, v => if isS (b a) = true then wk b d (a + 1) (n + 1) (if 5 ≤ n then 0 else (v <<< ((5 : Int32) &&& 31)) ||| (b a - 96)) else v
set_option maxRecDepth 16384 in
theorem eM_word_l {τ : tw_T} {b : Nat → Int32} {s : Nat} {Q : Int32 → tw_T → Prop} {EX : tw_T → Int32 → Int32 → Int32 → Prop} (hM : gR τ = rM) (h3 : gI τ 0 0 30 = i32 s) (hb : gI τ 133 0 = b) (hs : s ≤ 200) : ∀ d a n v, a + d = s → n ≤ 200 - d → EX τ (wk b d a n v) (i32 (n + wl b d a)) (i32 (a + wl b d a)) → L_X10_word_14 0 Q EX (d + 1) τ v (i32 n) (i32 a) := by
  intro d
  induction d with
  | zero =>
    intro a n v ha hn hE
    have e1 : i32 s ≤ i32 a := (le_i32 (by omega) (by omega)).mpr (by omega)
    rw [L_X10_word_14]; simp only [h3, e1, ↓forall_eq, bz_b, gR_sI, gR_sJ, gJ_sI, gI_sJ, gN_sI, gN_sJ, gI_sR, gJ_sR, gN_sR, gI_sI, gJ_sJ, gR_sR, gI_nW, gR_nW, gN_nW, gJ_nW, rM_at, rXs_at, rXd_at, ex_s, true_and, and_true, false_and, and_false, or_true, true_or, or_false, false_or, if_true, if_false, not_true_eq_false, not_false_eq_true, forall_const, true_implies, false_implies, implies_true, Nat.reduceLeDiff, Nat.reduceEqDiff, reduceCtorEq, i32_succ, i32_pred, Nat.le_refl, Nat.lt_add_one, Nat.reduceLT, ne_eq, Nat.add_one_ne_zero]; exact hE
  | succ d ih =>
    intro a n v ha hn hE
    have e1 : ¬ i32 s ≤ i32 a := fun h => absurd ((le_i32 (by omega) (by omega)).mp h) (by omega)
    have e2 : ((5 : Int32) ≤ i32 n) ↔ 5 ≤ n := le_i32 (k := 5) (by decide) (by omega)
    have e3 := vpin (show a < 200 by omega) (by decide)
    have e4 := i32_nat (show a < 2147483648 by omega)
    simp only [wl, wk] at hE
    rw [L_X10_word_14]; simp only [h3, hM, hb, e1, e2, e3, e4, eM_isSmall, bz_eq0, J_X10_word_56, ↓forall_eq, bz_b, gR_sI, gR_sJ, gJ_sI, gI_sJ, gN_sI, gN_sJ, gI_sR, gJ_sR, gN_sR, gI_sI, gJ_sJ, gR_sR, gI_nW, gR_nW, gN_nW, gJ_nW, rM_at, rXs_at, rXd_at, ex_s, true_and, and_true, false_and, and_false, or_true, true_or, or_false, false_or, if_true, if_false, not_true_eq_false, not_false_eq_true, forall_const, true_implies, false_implies, implies_true, Nat.reduceLeDiff, Nat.reduceEqDiff, reduceCtorEq, i32_succ, i32_pred, Nat.le_refl, Nat.lt_add_one, Nat.reduceLT, ne_eq, Nat.add_one_ne_zero]
    refine ⟨fun h9 => ?_, fun h9 => ⟨fun h8 => ih (a + 1) (n + 1) _ (by omega) (by omega) ?_, fun h8 => ih (a + 1) (n + 1) _ (by omega) (by omega) ?_⟩⟩
    · rw [if_neg h9, if_neg h9] at hE; exact hE
    · rw [if_pos (Decidable.of_not_not h9), if_pos (Decidable.of_not_not h9), if_pos h8] at hE
      rw [show a + 1 + wl b d (a + 1) = a + (wl b d (a + 1) + 1) by omega, show n + 1 + wl b d (a + 1) = n + (wl b d (a + 1) + 1) by omega]; exact hE
    · rw [if_pos (Decidable.of_not_not h9), if_pos (Decidable.of_not_not h9), if_neg h8] at hE
      rw [show a + 1 + wl b d (a + 1) = a + (wl b d (a + 1) + 1) by omega, show n + 1 + wl b d (a + 1) = n + (wl b d (a + 1) + 1) by omega]; exact hE
set_option maxRecDepth 16384 in
theorem shl_or {V C : Nat} (hV : V < 2 ^ 20) (hC : C < 32) : (i32 V <<< ((5 : Int32) &&& 31)) ||| i32 C = i32 (32 * V + C) := by
  apply Int32.toBitVec_inj.mp
  rw [Int32.toBitVec_or, Int32.toBitVec_shiftLeft]
  have h5 : ((5 : Int32) &&& 31).toBitVec.smod 32 = 5#32 := by decide
  rw [h5]
  apply BitVec.eq_of_toNat_eq
  rw [BitVec.toNat_or, BitVec.shiftLeft_eq', BitVec.toNat_shiftLeft]
  show ((V % 2 ^ 32) <<< 5 % 2 ^ 32) ||| (C % 2 ^ 32) = (32 * V + C) % 2 ^ 32
  rw [Nat.mod_eq_of_lt (show V < 2 ^ 32 by omega), Nat.mod_eq_of_lt (show C < 2 ^ 32 by omega), Nat.mod_eq_of_lt (show 32 * V + C < 2 ^ 32 by omega)]
  have e : V <<< 5 = 32 * V := by rw [Nat.shiftLeft_eq]; omega
  rw [Nat.mod_eq_of_lt (show V <<< 5 < 2 ^ 32 by rw [e]; omega), ← Nat.shiftLeft_add_eq_or_of_lt (show C < 2 ^ 5 by omega), e]
set_option maxRecDepth 16384 in
def pkN (b : Nat → Int32) : Nat → Nat → Nat → Nat
  | 0, _, V => V
  | L + 1, a, V => pkN b L (a + 1) (32 * V + ((b a).toInt - 96).toNat)
set_option maxRecDepth 16384 in
theorem wk_pk {b : Nat → Int32} : ∀ d a n V, n + wl b d a ≤ 5 → V < 32 ^ n → wk b d a n (i32 V) = i32 (pkN b (wl b d a) a V) := by
  intro d
  induction d with
  | zero => intro a n V _ _; rfl
  | succ d ih =>
    intro a n V hn hV
    simp only [wl] at hn ⊢
    simp only [wk]
    by_cases h : isS (b a) = true
    · rw [if_pos h] at hn
      rw [if_pos h, if_pos h, if_neg (by omega)]
      have hb := isS_iff.mp h
      have hV2 : V < 2 ^ 20 := by
        have : n = 0 ∨ n = 1 ∨ n = 2 ∨ n = 3 ∨ n = 4 := by omega
        rcases this with rfl | rfl | rfl | rfl | rfl <;> simp only [Nat.reducePow] at hV ⊢ <;> omega
      have z96 : (96 : Int32).toInt = 96 := rfl
      have hc : b a - 96 = i32 ((b a).toInt - 96).toNat := by
        apply i32_ext
        rw [i32_int (by omega), i32_sub] <;> rw [z96] <;> omega
      rw [hc, shl_or hV2 (by omega), ih (a + 1) (n + 1) _ (by omega) (by rw [Nat.pow_succ]; omega)]
      simp only [pkN]
    · rw [if_neg h, if_neg h]; rfl
set_option maxRecDepth 16384 in
def Wn (q : Nat) : Nat := [18596, 24389253, 20587916, 206682, 20681908, 81049, 1253, 24627848].getD q 0
set_option maxRecDepth 16384 in
def eqF (b : Nat → Int32) (a q : Nat) : Nat → Nat → Bool
  | 0, _ => true
  | d + 1, j => decide (b (a + j) = (zx_byt.getD q []).getD j 0) && eqF b a q d (j + 1)
set_option maxRecDepth 16384 in
def wdB (b : Nat → Int32) (a L q : Nat) : Bool := decide (L = zx_len.getD q 0) && eqF b a q L 0
set_option maxRecDepth 16384 in
set_option maxHeartbeats 4000000 in
theorem wd_iff {b : Nat → Int32} {a L q : Nat} (hL : L ≤ 5) (hq : q < 8) (hl : ∀ j, j < L → 97 ≤ (b (a + j)).toInt ∧ (b (a + j)).toInt ≤ 122) : pkN b L a 0 = Wn q ↔ wdB b a L q = true := by
  have hL' : L = 0 ∨ L = 1 ∨ L = 2 ∨ L = 3 ∨ L = 4 ∨ L = 5 := by omega
  have f0 : 0 < L → 97 ≤ (b a).toInt ∧ (b a).toInt ≤ 122 := fun h => hl 0 h
  have f1 : 1 < L → 97 ≤ (b (a + 1)).toInt ∧ (b (a + 1)).toInt ≤ 122 := fun h => hl 1 h
  have f2 : 2 < L → 97 ≤ (b (a + 2)).toInt ∧ (b (a + 2)).toInt ≤ 122 := fun h => hl 2 h
  have f3 : 3 < L → 97 ≤ (b (a + 3)).toInt ∧ (b (a + 3)).toInt ≤ 122 := fun h => hl 3 h
  have f4 : 4 < L → 97 ≤ (b (a + 4)).toInt ∧ (b (a + 4)).toInt ≤ 122 := fun h => hl 4 h
  clear hl
  generalize hy0 : b a = y0 at f0
  generalize hy1 : b (a + 1) = y1 at f1
  generalize hy2 : b (a + 2) = y2 at f2
  generalize hy3 : b (a + 3) = y3 at f3
  generalize hy4 : b (a + 4) = y4 at f4
  rcases hL' with rfl | rfl | rfl | rfl | rfl | rfl <;> rcases lt8 hq with rfl | rfl | rfl | rfl | rfl | rfl | rfl | rfl <;>
    simp only [pkN, wdB, eqF, zx_len, zx_byt, Wn, List.getD_cons_zero, List.getD_cons_succ, Nat.add_assoc, Nat.add_zero, Nat.reduceAdd, hy0, hy1, hy2, hy3, hy4, Bool.and_eq_true, decide_eq_true_eq, ← Int32.toInt_inj, Int32.reduceToInt, Nat.reduceEqDiff, and_true, true_and, false_and, decide_false, Bool.false_eq_true, Nat.mul_zero, Nat.zero_add, iff_false] <;> omega
set_option maxRecDepth 16384 in
def fF (p : Nat → Bool) : Nat → Nat → Option Nat
  | 0, _ => none
  | d + 1, i => if p i = true then some i else fF p d (i + 1)
set_option maxRecDepth 16384 in
/-- the test that the word from a on tells -/
def tz (b : Nat → Int32) (a L : Nat) : Option Nat := fF (wdB b a L) 8 0
set_option maxRecDepth 16384 in
def oI (o : Option Nat) : Int32 := match o with
  | none => -1
  | some q => i32 q
set_option maxRecDepth 16384 in
theorem tz_lt {b : Nat → Int32} {a L q : Nat} (h : tz b a L = some q) : q < 8 := by
  have : ∀ d i, i + d = 8 → fF (wdB b a L) d i = some q → q < 8 := by
    intro d
    induction d with
    | zero => intro i _ h; simp only [fF] at h; cases h
    | succ d ih =>
      intro i hi h
      simp only [fF] at h
      split at h
      · cases h; omega
      · exact ih (i + 1) (by omega) h
  exact this 8 0 rfl h
set_option maxRecDepth 16384 in
theorem wdB_long {b : Nat → Int32} {a L q : Nat} (hL : 5 < L) (hq : q < 8) : wdB b a L q = false := by
  unfold wdB
  have : ¬ L = zx_len.getD q 0 := by
    rcases lt8 hq with rfl | rfl | rfl | rfl | rfl | rfl | rfl | rfl <;> simp only [zx_len, List.getD_cons_zero, List.getD_cons_succ] <;> omega
  simp only [this, decide_false, Bool.false_and]
set_option maxRecDepth 16384 in
set_option maxHeartbeats 2000000 in
theorem eM_testOf {τ : tw_T} {b : Nat → Int32} {a L : Nat} {v : Int32} {Q : Int32 → tw_T → Prop} (hl : ∀ j, j < L → isS (b (a + j)) = true) (hv : v = if L ≤ 5 then i32 (pkN b L a 0) else 0) (hQ : Q (oI (tz b a L)) τ) : F_X10_testOf τ v Q := by
  have hp : ∀ q, q < 8 → ((v = Int32.ofNat (Wn q)) ↔ wdB b a L q = true) := by
    intro q hq
    have hW : Wn q < 2147483648 ∧ Wn q ≠ 0 := by
      rcases lt8 hq with rfl | rfl | rfl | rfl | rfl | rfl | rfl | rfl <;> decide
    by_cases h5 : L ≤ 5
    · rw [hv, if_pos h5]
      have hb : pkN b L a 0 < 2147483648 := by
        have : ∀ L a V n, L + n ≤ 5 → V < 32 ^ n → (∀ j, j < L → isS (b (a + j)) = true) → pkN b L a V < 32 ^ 5 := by
          intro L
          induction L with
          | zero => intro a V n hn hV _; simp only [pkN]; exact Nat.lt_of_lt_of_le hV (Nat.pow_le_pow_right (by decide) (by omega))
          | succ L ih =>
            intro a V n hn hV hl
            simp only [pkN]
            have h0 := isS_iff.mp (hl 0 (by omega))
            rw [Nat.add_zero] at h0
            refine ih (a + 1) _ (n + 1) (by omega) (by rw [Nat.pow_succ]; omega) (fun j hj => ?_)
            have := hl (j + 1) (by omega)
            rw [show a + (j + 1) = a + 1 + j by omega] at this; exact this
        have := this L a 0 0 (by omega) (by decide) hl
        simp only [Nat.reducePow] at this; omega
      rw [← wd_iff h5 hq (fun j hj => isS_iff.mp (hl j hj))]
      exact i32_eq hb hW.1
    · rw [hv, if_neg h5, wdB_long (by omega) hq]
      constructor
      · intro h9
        exact absurd (i32_inj (a := 0) (by decide) hW.1 h9).symm hW.2
      · intro h9; exact absurd h9 (by decide)
  have p0 := hp 0 (by decide)
  have p1 := hp 1 (by decide)
  have p2 := hp 2 (by decide)
  have p3 := hp 3 (by decide)
  have p4 := hp 4 (by decide)
  have p5 := hp 5 (by decide)
  have p6 := hp 6 (by decide)
  have p7 := hp 7 (by decide)
  have w0 : Int32.ofNat (Wn 0) = 18596 := rfl
  have w1 : Int32.ofNat (Wn 1) = 24389253 := rfl
  have w2 : Int32.ofNat (Wn 2) = 20587916 := rfl
  have w3 : Int32.ofNat (Wn 3) = 206682 := rfl
  have w4 : Int32.ofNat (Wn 4) = 20681908 := rfl
  have w5 : Int32.ofNat (Wn 5) = 81049 := rfl
  have w6 : Int32.ofNat (Wn 6) = 1253 := rfl
  have w7 : Int32.ofNat (Wn 7) = 24627848 := rfl
  rw [w0] at p0; rw [w1] at p1; rw [w2] at p2; rw [w3] at p3; rw [w4] at p4; rw [w5] at p5; rw [w6] at p6; rw [w7] at p7
  unfold F_X10_testOf
  simp only [p0, p1, p2, p3, p4, p5, p6, p7]
  unfold tz at hQ
  simp only [fF] at hQ
  by_cases h0 : wdB b a L 0 = true
  · rw [if_pos h0] at hQ; exact ⟨fun h => absurd h0 h, fun _ => hQ⟩
  rw [if_neg h0] at hQ
  refine ⟨fun _ => ?_, fun h => absurd h h0⟩
  by_cases h1 : wdB b a L 1 = true
  · rw [if_pos h1] at hQ; exact ⟨fun h => absurd h1 h, fun _ => hQ⟩
  rw [if_neg h1] at hQ
  refine ⟨fun _ => ?_, fun h => absurd h h1⟩
  by_cases h2 : wdB b a L 2 = true
  · rw [if_pos h2] at hQ; exact ⟨fun h => absurd h2 h, fun _ => hQ⟩
  rw [if_neg h2] at hQ
  refine ⟨fun _ => ?_, fun h => absurd h h2⟩
  by_cases h3 : wdB b a L 3 = true
  · rw [if_pos h3] at hQ; exact ⟨fun h => absurd h3 h, fun _ => hQ⟩
  rw [if_neg h3] at hQ
  refine ⟨fun _ => ?_, fun h => absurd h h3⟩
  by_cases h4 : wdB b a L 4 = true
  · rw [if_pos h4] at hQ; exact ⟨fun h => absurd h4 h, fun _ => hQ⟩
  rw [if_neg h4] at hQ
  refine ⟨fun _ => ?_, fun h => absurd h h4⟩
  by_cases h5 : wdB b a L 5 = true
  · rw [if_pos h5] at hQ; exact ⟨fun h => absurd h5 h, fun _ => hQ⟩
  rw [if_neg h5] at hQ
  refine ⟨fun _ => ?_, fun h => absurd h h5⟩
  by_cases h6 : wdB b a L 6 = true
  · rw [if_pos h6] at hQ; exact ⟨fun h => absurd h6 h, fun _ => hQ⟩
  rw [if_neg h6] at hQ
  refine ⟨fun _ => ?_, fun h => absurd h h6⟩
  by_cases h7 : wdB b a L 7 = true
  · rw [if_pos h7] at hQ; exact ⟨fun h => absurd h7 h, fun _ => hQ⟩
  rw [if_neg h7] at hQ
  exact ⟨fun _ => hQ, fun h => absurd h h7⟩
set_option maxRecDepth 16384 in
theorem xX_len {τ : tw_T} {q : Nat} {Q : Int32 → tw_T → Prop} (hq : q < 8) : F_J0_length_8abf5 τ q Q ↔ Q (i32 (zx_len.getD q 0)) τ := by
  have h0 : i32 (zx_len.getD q 0) >>> ((0 : Int32) &&& 31) = i32 (zx_len.getD q 0) := by
    rcases lt8 hq with rfl | rfl | rfl | rfl | rfl | rfl | rfl | rfl <;> decide
  have hn : narrow .byte (.int (0 : Int32)) = .int 0 := rfl
  unfold F_J0_length_8abf5 F_J0_coder_7d493
  simp only [pu_10, hn, h0, ↓forall_eq, bz_b, gR_sI, gR_sJ, gJ_sI, gI_sJ, gN_sI, gN_sJ, gI_sR, gJ_sR, gN_sR, gI_sI, gJ_sJ, gR_sR, gI_nW, gR_nW, gN_nW, gJ_nW, rM_at, rXs_at, rXd_at, ex_s, true_and, and_true, false_and, and_false, or_true, true_or, or_false, false_or, if_true, if_false, not_true_eq_false, not_false_eq_true, forall_const, true_implies, false_implies, implies_true, Nat.reduceLeDiff, Nat.reduceEqDiff, reduceCtorEq, i32_succ, i32_pred, Nat.le_refl, Nat.lt_add_one, Nat.reduceLT, ne_eq, Nat.add_one_ne_zero]
set_option maxRecDepth 16384 in
theorem zx_ch : ∀ q, q < 8 → ∀ j, j < zx_len.getD q 0 → (((((zx_byt.getD q []).getD j 0) &&& ((255 : Int32))).toUInt32 % 65536).toInt32) = (zx_byt.getD q []).getD j 0 := by decide
set_option maxRecDepth 16384 in
theorem zx_nar {q j : Nat} (hq : q < 8) (hj : j < zx_len.getD q 0) : narrow .char (.int ((zx_byt.getD q []).getD j 0)) = .int ((zx_byt.getD q []).getD j 0) := by
  have hj5 : j = 0 ∨ j = 1 ∨ j = 2 ∨ j = 3 ∨ j = 4 := by
    rcases lt8 hq with rfl | rfl | rfl | rfl | rfl | rfl | rfl | rfl <;> simp only [zx_len, List.getD_cons_zero, List.getD_cons_succ] at hj <;> omega
  rcases lt8 hq with rfl | rfl | rfl | rfl | rfl | rfl | rfl | rfl <;> rcases hj5 with rfl | rfl | rfl | rfl | rfl <;> rfl
set_option maxRecDepth 16384 in
theorem xX_char {τ : tw_T} {q j : Nat} {Q : Int32 → tw_T → Prop} (hq : q < 8) (hj : j < zx_len.getD q 0) : F_J0_charAt_5068e τ q (i32 j) Q ↔ Q ((zx_byt.getD q []).getD j 0) τ := by
  have hl : zx_len.getD q 0 ≤ 5 := by
    rcases lt8 hq with rfl | rfl | rfl | rfl | rfl | rfl | rfl | rfl <;> decide
  have e1 : ¬ i32 j < 0 := by rw [i32_lt0, i32_int (by omega)]; omega
  have e2 : i32 j < Int32.ofNat (zx_len.getD q 0) := (lt_i32 (by omega) (by omega)).mpr hj
  have e3 := vpin hj (by omega)
  have e4 := i32_nat (show j < 2147483648 by omega)
  have h1 := zx_ch q hq j hj
  have h2 := zx_nar hq hj
  unfold F_J0_charAt_5068e F_J0_isLatin1_aae02 F_J1_charAt_3b067 F_J0_checkIndex_df160 F_J3_checkIndex_8e157
  simp only [pu_10, pu_00, e1, e2, e3, e4, h1, h2, ↓forall_eq, bz_b, gR_sI, gR_sJ, gJ_sI, gI_sJ, gN_sI, gN_sJ, gI_sR, gJ_sR, gN_sR, gI_sI, gJ_sJ, gR_sR, gI_nW, gR_nW, gN_nW, gJ_nW, rM_at, rXs_at, rXd_at, ex_s, true_and, and_true, false_and, and_false, or_true, true_or, or_false, false_or, if_true, if_false, not_true_eq_false, not_false_eq_true, forall_const, true_implies, false_implies, implies_true, Nat.reduceLeDiff, Nat.reduceEqDiff, reduceCtorEq, i32_succ, i32_pred, Nat.le_refl, Nat.lt_add_one, Nat.reduceLT, ne_eq, Nat.add_one_ne_zero]
set_option maxRecDepth 16384 in
theorem xX_isWord {τ : tw_T} {b : Nat → Int32} {s a L q : Nat} {Q : Int32 → tw_T → Prop} (h6 : gR τ 6 = rXs 1) (h2 : gI τ 6 0 2 = i32 a) (hb : gI τ 14 0 = b) (hs : s ≤ 200) (ha : a + L ≤ s) (hq : q < 8) (hQ : Q (bz (wdB b a L q = true)) τ) : F_X7_isWord τ 0 q (i32 (a + L)) Q := by
  have hl : zx_len.getD q 0 ≤ 5 := by
    rcases lt8 hq with rfl | rfl | rfl | rfl | rfl | rfl | rfl | rfl <;> decide
  unfold F_X7_isWord
  rw [xX_len hq, h2]
  have hsub : i32 (a + L) - i32 a = i32 L := by
    apply i32_ext
    rw [i32_int (show L < 2147483648 by omega), i32_sub] <;> rw [i32_int (by omega), i32_int (by omega)] <;> omega
  rw [hsub]
  have he : (i32 (zx_len.getD q 0) = i32 L) ↔ zx_len.getD q 0 = L := i32_eq (by omega) (by omega)
  rw [he]
  unfold wdB at hQ
  refine ⟨fun h9 => ?_, fun h9 => ?_⟩
  · have hQ2 : Q (bz (eqF b a q L 0 = true)) τ := by
      have e : L = zx_len.getD q 0 := h9.symm
      simp only [← e, decide_true, Bool.true_and] at hQ; exact hQ
    have hlp : ∀ d j, j + d = L → Q (bz (eqF b a q d j = true)) τ → L_X7_isWord_17 0 q Q (fun (τ14 : tw_T) (z15 : Int32) => Q ((1 : Int32)) τ14) (d + 1) τ (i32 j) := by
      intro d
      induction d with
      | zero =>
        intro j hj hQ
        have e1 : i32 L ≤ i32 j := (le_i32 (by omega) (by omega)).mpr (by omega)
        rw [L_X7_isWord_17, xX_len hq, h9]
        refine ⟨fun _ => ?_, fun h => absurd e1 h⟩
        rw [bz_t (by simp only [eqF])] at hQ; exact hQ
      | succ d ih =>
        intro j hj hQ
        have e1 : ¬ i32 L ≤ i32 j := fun h => absurd ((le_i32 (by omega) (by omega)).mp h) (by omega)
        have e3 := vpin (show a + j < 200 by omega) (by decide)
        have e4 := i32_nat (show a + j < 2147483648 by omega)
        have ead : i32 a + i32 j = i32 (a + j) := (Int32.ofNat_add a j).symm
        rw [L_X7_isWord_17, xX_len hq, h9]
        refine ⟨fun h => absurd h e1, fun _ => ⟨0, by rw [h6]; exact rXs_at (by decide), ?_⟩⟩
        rw [h2, ead, e4, hb]
        refine ⟨e3, (xX_char hq (by omega)).mpr ⟨fun h8 => ?_, fun h8 => ?_⟩⟩
        · intro z hz
          subst hz
          rw [i32_succ]
          refine ih (j + 1) (by omega) ?_
          have he : eqF b a q (d + 1) j = eqF b a q d (j + 1) := by simp only [eqF, h8, decide_true, Bool.true_and]
          rw [he] at hQ; exact hQ
        · have he : eqF b a q (d + 1) j = false := by simp only [eqF, h8, decide_false, Bool.false_and]
          rw [he, bz_f (by decide)] at hQ; exact hQ
    exact ⟨L + 1, hlp L 0 (by omega) hQ2⟩
  · have : ¬ (L = zx_len.getD q 0) := fun h => h9 h.symm
    rw [bz_f (by simp only [this, decide_false, Bool.false_and, Bool.false_eq_true, not_false_eq_true])] at hQ
    exact hQ
set_option maxRecDepth 16384 in
theorem xX_test {x : tw_T} {b : Nat → Int32} {s a : Nat} {Q : Option Nat → tw_T → Prop} (h6 : gR x 6 = rXs 1) (h3 : gI x 6 0 3 = i32 s) (hb : gI x 14 0 = b) (hs : s ≤ 200) (ha : a ≤ s)
    (hQ0 : tz b (skp b (s - a) a) (wl b (s - skp b (s - a) a) (skp b (s - a) a)) = none → Q none (AX x (skp b (s - a) a)))
    (hQ1 : ∀ q, tz b (skp b (s - a) a) (wl b (s - skp b (s - a) a) (skp b (s - a) a)) = some q → Q (some q) (AX x (skp b (s - a) a + wl b (s - skp b (s - a) a) (skp b (s - a) a)))) : F_X7_readTest (AX x a) 0 Q := by
  unfold F_X7_readTest
  refine xX_signHere h6 h3 hb hs ha ?_
  have hr := skp_rng (b := b) (s - a) a
  generalize skp b (s - a) a = c at hQ0 hQ1 hr ⊢
  intro z hz
  subst hz
  rw [AX_2]
  refine ⟨s - c + 1, xX_letters (τ := AX x c) (b := b) (s := s) h6 (by rw [AX_3]; exact h3) (by rw [AX_14]; exact hb) hs (s - c) c (by omega) ?_⟩
  have hwl := (wl_rng (b := b) (s - c) c).1
  generalize wl b (s - c) c = L at hQ0 hQ1 hwl ⊢
  have hlp : ∀ d i, i + d = 8 → (fF (wdB b c L) d i = none → Q none (AX x c)) → (∀ q, fF (wdB b c L) d i = some q → Q (some q) (AX x (c + L))) → L_X7_readTest_48 0 (i32 (c + L)) Q (fun (τ10 : tw_T) (z11 : Int32) => Q none τ10) (d + 1) (AX x c) (i32 i) := by
    intro d
    induction d with
    | zero =>
      intro i hi h0 h1
      have e1 : (8 : Int32) ≤ i32 i := (le_i32 (k := 8) (by decide) (by omega)).mpr (by omega)
      rw [L_X7_readTest_48]; simp only [e1, ↓forall_eq, bz_b, gR_sI, gR_sJ, gJ_sI, gI_sJ, gN_sI, gN_sJ, gI_sR, gJ_sR, gN_sR, gI_sI, gJ_sJ, gR_sR, gI_nW, gR_nW, gN_nW, gJ_nW, rM_at, rXs_at, rXd_at, ex_s, true_and, and_true, false_and, and_false, or_true, true_or, or_false, false_or, if_true, if_false, not_true_eq_false, not_false_eq_true, forall_const, true_implies, false_implies, implies_true, Nat.reduceLeDiff, Nat.reduceEqDiff, reduceCtorEq, i32_succ, i32_pred, Nat.le_refl, Nat.lt_add_one, Nat.reduceLT, ne_eq, Nat.add_one_ne_zero]; exact h0 rfl
    | succ d ih =>
      intro i hi h0 h1
      have e1 : ¬ (8 : Int32) ≤ i32 i := fun h => absurd ((le_i32 (k := 8) (by decide) (by omega)).mp h) (by omega)
      have e3 := vpin (show i < 8 by omega) (by decide)
      have e4 := i32_nat (show i < 2147483648 by omega)
      simp only [fF] at h0 h1
      rw [L_X7_readTest_48]; simp only [e1, e3, e4, ↓forall_eq, bz_b, gR_sI, gR_sJ, gJ_sI, gI_sJ, gN_sI, gN_sJ, gI_sR, gJ_sR, gN_sR, gI_sI, gJ_sJ, gR_sR, gI_nW, gR_nW, gN_nW, gJ_nW, rM_at, rXs_at, rXd_at, ex_s, true_and, and_true, false_and, and_false, or_true, true_or, or_false, false_or, if_true, if_false, not_true_eq_false, not_false_eq_true, forall_const, true_implies, false_implies, implies_true, Nat.reduceLeDiff, Nat.reduceEqDiff, reduceCtorEq, i32_succ, i32_pred, Nat.le_refl, Nat.lt_add_one, Nat.reduceLT, ne_eq, Nat.add_one_ne_zero]
      refine xX_isWord (b := b) (s := s) h6 AX_2 (by rw [AX_14]; exact hb) hs (by omega) (by omega) ?_
      simp only [bz_eq0, AX_s, ↓forall_eq, bz_b, gR_sI, gR_sJ, gJ_sI, gI_sJ, gN_sI, gN_sJ, gI_sR, gJ_sR, gN_sR, gI_sI, gJ_sJ, gR_sR, gI_nW, gR_nW, gN_nW, gJ_nW, rM_at, rXs_at, rXd_at, ex_s, true_and, and_true, false_and, and_false, or_true, true_or, or_false, false_or, if_true, if_false, not_true_eq_false, not_false_eq_true, forall_const, true_implies, false_implies, implies_true, Nat.reduceLeDiff, Nat.reduceEqDiff, reduceCtorEq, i32_succ, i32_pred, Nat.le_refl, Nat.lt_add_one, Nat.reduceLT, ne_eq, Nat.add_one_ne_zero]
      refine ⟨fun h9 => ih (i + 1) (by omega) ?_ ?_, fun h9 => ?_⟩
      · rw [if_neg h9] at h0; exact h0
      · rw [if_neg h9] at h1; exact h1
      · rw [if_pos (Decidable.of_not_not h9)] at h1; exact h1 i rfl
  unfold J_X7_readTest_46
  exact ⟨9, hlp 8 0 rfl hQ0 hQ1⟩
set_option maxRecDepth 16384 in
theorem eM_wordtest {m : tw_T} {b : Nat → Int32} {s a : Nat} {Q : Int32 → tw_T → Prop} (hM : gR m = rM) (h3 : gI m 0 0 30 = i32 s) (hb : gI m 133 0 = b) (hs : s ≤ 200) (ha : a ≤ s)
    (hQ : Q (oI (tz b (skp b (s - a) a) (wl b (s - skp b (s - a) a) (skp b (s - a) a)))) (AM m (skp b (s - a) a))) : F_X10_word (AM m a) 0 (fun (r56 : Int32) (τ55 : tw_T) => F_X10_testOf τ55 r56 Q) := by
  unfold F_X10_word
  refine eM_here hM h3 hb hs ha ?_
  have hr := skp_rng (b := b) (s - a) a
  generalize skp b (s - a) a = c at hQ hr ⊢
  intro z hz
  subst hz
  rw [AM_31]
  refine ⟨s - c + 1, eM_word_l (τ := AM m c) (b := b) (s := s) hM (by rw [AM_o (by decide)]; exact h3) (by rw [AM_n (by decide)]; exact hb) hs (s - c) c 0 0 (by omega) (by omega) ?_⟩
  obtain ⟨hw1, hw2⟩ := wl_rng (b := b) (s - c) c
  have hk := wk_pk (b := b) (s - c) c 0 0
  have e5 : (i32 (0 + wl b (s - c) c) ≤ (5 : Int32)) ↔ wl b (s - c) c ≤ 5 := by rw [Nat.zero_add]; exact le_i32 (c := 5) (by omega) (by decide)
  unfold J_X10_word_66
  rw [e5]
  refine ⟨fun h9 => eM_testOf hw2 ?_ hQ, fun h9 => eM_testOf hw2 ?_ hQ⟩
  · rw [if_pos h9]; exact hk (by omega) (by decide)
  · rw [if_neg h9]
