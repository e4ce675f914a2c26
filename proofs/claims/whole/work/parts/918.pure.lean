/-! ===== the list of open bottles: a bottle comes, is poured from, goes ===== -/
set_option maxRecDepth 16384 in
theorem RLo.congr {n nk nl : Nat} {xc mc : Int32} {xN : Nat} {xr : Nat → Option Nat} {xl xl' : Nat → Nat → Int32} {xq : Nat → Nat → Option Nat} {kd vi pr fr un : Nat → Int32} (h : RLo n nk nl xc mc xN xr xl xq kd vi pr fr un) (hx : ∀ i j, j < 6 → xl' i j = xl i j) : RLo n nk nl xc mc xN xr xl' xq kd vi pr fr un := by
  obtain ⟨l1, l2, l3, l4, l5⟩ := h
  refine ⟨l1, l2, l3, l4, fun i hi => ?_⟩
  rw [hx i 0 (by decide), hx i 2 (by decide), hx i 3 (by decide), hx i 4 (by decide), hx i 5 (by decide)]
  exact l5 i hi
set_option maxRecDepth 16384 in
theorem cnt_drop {p q : Nat → Bool} {l : Nat} : ∀ n, l < n → p l = true → q l = false → (∀ i, i ≠ l → q i = p i) → cnt p n = cnt q n + 1 := by
  intro n
  induction n with
  | zero => intro h; omega
  | succ n ih =>
    intro h h1 h2 h3
    simp only [cnt]
    by_cases e : l = n
    · subst e
      rw [h1, h2, cnt_congr (p := p) (q := q) l (fun i hi => (h3 i (by omega)).symm)]
      simp
    · rw [ih (by omega) h1 h2 h3, h3 n (by omega)]
      omega
set_option maxRecDepth 16384 in
def shF (g : Nat → Int32) (k d : Nat) : Nat → Int32 := fun j => if k ≤ j ∧ j < k + d then g (j + 1) else g j
set_option maxRecDepth 16384 in
theorem RO.del {nl no k l : Nat} {hour : Int32} {xl xl' : Nat → Nat → Int32} {op : Int32} {ol oh of of' : Nat → Int32} (h : RO nl hour (no + 1) xl op ol oh of) (hk : k ≤ no) (hl : ol k = i32 l) (hll : l < nl) (hnl : nl ≤ 60) (h7 : xl' l 7 = 0)
    (hne : ∀ i j, i ≠ l ∨ j ≠ 7 → xl' i j = xl i j) (hof : ∀ j, j ≠ k → of' j = of j) : RO nl hour no xl' (i32 no) (shF ol k (no - k)) (shF oh k (no - k)) (shF of' k (no - k)) := by
  obtain ⟨o1, o2, o3, o4, o5, o6⟩ := h
  have z0 : (0 : Int32).toInt = 0 := rfl
  have hs : ∀ (g : Nat → Int32) j, j < no → shF g k (no - k) j = g (if k ≤ j then j + 1 else j) := by
    intro g j hj
    unfold shF
    by_cases e : k ≤ j
    · rw [if_pos ⟨e, by omega⟩, if_pos e]
    · rw [if_neg (by omega), if_neg e]
  have hn : ∀ j, j < no → (if k ≤ j then j + 1 else j) < no + 1 ∧ (if k ≤ j then j + 1 else j) ≠ k := by
    intro j hj; split <;> omega
  refine ⟨rfl, fun i hi => ?_, fun j hj => ?_, fun j j' hj hj' he => ?_, fun i hi h1 => ?_, ?_⟩
  · rw [hne i 6 (Or.inr (by decide))]
    by_cases e : i = l
    · rw [e, h7, z0]; have := (o2 l hll).2.2; omega
    · rw [hne i 7 (Or.inl e)]; exact o2 i hi
  · obtain ⟨q1, q2⟩ := hn j hj
    obtain ⟨i, t1, t2, t3, t4, t5⟩ := o3 _ q1
    have e : i ≠ l := fun h9 => q2 (o4 _ k q1 (by omega) (by rw [t2, hl, h9]))
    refine ⟨i, t1, ?_, ?_, ?_, ?_⟩
    · rw [hs ol j hj]; exact t2
    · rw [hs of' j hj, hof _ q2, hne i 7 (Or.inl e)]; exact t3
    · rw [hs oh j hj, hne i 6 (Or.inl e)]; exact t4
    · rw [hs of' j hj, hof _ q2]; exact t5
  · rw [hs ol j hj, hs ol j' hj'] at he
    have := o4 _ _ (hn j hj).1 (hn j' hj').1 he
    split at this <;> split at this <;> omega
  · have e : i ≠ l := fun h9 => by rw [h9, h7, z0] at h1; omega
    rw [hne i 7 (Or.inl e)] at h1
    obtain ⟨j, q1, q2⟩ := o5 i hi h1
    have e2 : j ≠ k := fun h9 => e (i32_inj (by omega) (by omega) (by rw [← q2, h9, hl]))
    by_cases e3 : j < k
    · refine ⟨j, by omega, ?_⟩
      rw [hs ol j (by omega), if_neg (by omega)]; exact q2
    · refine ⟨j - 1, by omega, ?_⟩
      rw [hs ol (j - 1) (by omega), if_pos (by omega), show j - 1 + 1 = j by omega]; exact q2
  · obtain ⟨i, t1, t2, t3, t4, t5⟩ := o3 k (by omega)
    have e : i = l := i32_inj (by omega) (by omega) (t2.symm.trans hl)
    rw [t3, e] at t5
    have := cnt_drop (p := fun l => decide (1 ≤ (xl l 7).toInt)) (q := fun l => decide (1 ≤ (xl' l 7).toInt)) (l := l) nl hll (by simp only [t5, decide_true]) (by simp only [h7, z0]; decide) (fun i hi => by simp only [hne i 7 (Or.inl hi)])
    omega
set_option maxRecDepth 16384 in
theorem RO.pour {nl no k l : Nat} {hour : Int32} {xl : Nat → Nat → Int32} {op : Int32} {ol oh of : Nat → Int32} (h : RO nl hour no xl op ol oh of) (hk : k < no) (hl : ol k = i32 l) (hll : l < nl) (hnl : nl ≤ 60) (h2 : 2 ≤ (xl l 7).toInt) :
    RO nl hour no (upd2 xl l 7 (xl l 7 - 1)) op ol oh (upd of k (of k - 1)) := by
  obtain ⟨o1, o2, o3, o4, o5, o6⟩ := h
  have w1 : (1 : Int32).toInt = 1 := rfl
  have hb := o2 l hll
  have hv : (xl l 7 - 1).toInt = (xl l 7).toInt - 1 := by rw [i32_sub] <;> rw [w1] <;> omega
  have hne : ∀ i j, i ≠ l ∨ j ≠ 7 → upd2 xl l 7 (xl l 7 - 1) i j = xl i j := fun i j h9 => by unfold upd2; rw [if_neg (by omega)]
  have hse : upd2 xl l 7 (xl l 7 - 1) l 7 = xl l 7 - 1 := u2_s
  have no_le : no ≤ nl := by
    have := cnt_le (p := fun l => decide (1 ≤ (xl l 7).toInt)) nl
    omega
  refine ⟨o1, fun i hi => ?_, fun j hj => ?_, o4, fun i hi h1 => ?_, ?_⟩
  · rw [hne i 6 (Or.inr (by decide))]
    by_cases e : i = l
    · rw [e, hse, hv]; omega
    · rw [hne i 7 (Or.inl e)]; exact o2 i hi
  · obtain ⟨i, t1, t2, t3, t4, t5⟩ := o3 j hj
    by_cases e : j = k
    · have e2 : i = l := i32_inj (by omega) (by omega) (by rw [← t2, e, hl])
      rw [e2] at t3 t4
      refine ⟨l, hll, by rw [e]; exact hl, ?_, ?_, ?_⟩
      · rw [e, upd_s, hse, ← e, t3]
      · rw [hne l 6 (Or.inr (by decide))]; exact t4
      · rw [e, upd_s, ← e, t3, hv]; omega
    · have e2 : i ≠ l := fun h9 => e (o4 j k hj hk (by rw [t2, hl, h9]))
      exact ⟨i, t1, t2, by rw [upd_n e, hne i 7 (Or.inl e2)]; exact t3, by rw [hne i 6 (Or.inl e2)]; exact t4, by rw [upd_n e]; exact t5⟩
  · by_cases e : i = l
    · exact ⟨k, hk, by rw [e]; exact hl⟩
    · rw [hne i 7 (Or.inl e)] at h1; exact o5 i hi h1
  · rw [o6]
    refine cnt_congr nl (fun i hi => ?_)
    by_cases e : i = l
    · rw [e, hse, hv]
      have a1 : 1 ≤ (xl l 7).toInt := by omega
      have a2 : 1 ≤ (xl l 7).toInt - 1 := by omega
      simp only [a1, a2]
    · rw [hne i 7 (Or.inl e)]
set_option maxRecDepth 16384 in
theorem RO.add {nl no l : Nat} {hour : Int32} {xl : Nat → Nat → Int32} {op : Int32} {ol oh of : Nat → Int32} (h : RO nl hour no xl op ol oh of) (hll : l < nl) (hnl : nl ≤ 60) (hh : 0 ≤ hour.toInt) (h2 : ¬ 1 ≤ (xl l 7).toInt) :
    RO nl hour (no + 1) (upd2 (upd2 xl l 6 hour) l 7 6) (i32 (no + 1)) (upd ol no (i32 l)) (upd oh no hour) (upd of no 6) := by
  obtain ⟨o1, o2, o3, o4, o5, o6⟩ := h
  have w6 : (6 : Int32).toInt = 6 := rfl
  have hne : ∀ i j, i ≠ l → upd2 (upd2 xl l 6 hour) l 7 6 i j = xl i j := fun i j h9 => by unfold upd2; rw [if_neg (by omega), if_neg (by omega)]
  have s7 : upd2 (upd2 xl l 6 hour) l 7 6 l 7 = 6 := u2_s
  have s6 : upd2 (upd2 xl l 6 hour) l 7 6 l 6 = hour := by rw [u2_j (by decide), u2_s]
  have hno : ∀ j, j < no → ol j ≠ i32 l := fun j hj h9 => by
    obtain ⟨i, t1, t2, t3, t4, t5⟩ := o3 j hj
    have e : i = l := i32_inj (by omega) (by omega) (t2.symm.trans h9)
    rw [t3, e] at t5; exact h2 t5
  refine ⟨rfl, fun i hi => ?_, fun j hj => ?_, fun j j' hj hj' he => ?_, fun i hi h1 => ?_, ?_⟩
  · by_cases e : i = l
    · rw [e, s7, s6, w6]; omega
    · rw [hne i 7 e, hne i 6 e]; exact o2 i hi
  · by_cases e : j = no
    · exact ⟨l, hll, by rw [e, upd_s], by rw [e, upd_s, s7], by rw [e, upd_s, s6], by rw [e, upd_s, w6]; omega⟩
    · obtain ⟨i, t1, t2, t3, t4, t5⟩ := o3 j (by omega)
      have e2 : i ≠ l := fun h9 => hno j (by omega) (by rw [t2, h9])
      exact ⟨i, t1, by rw [upd_n e]; exact t2, by rw [upd_n e, hne i 7 e2]; exact t3, by rw [upd_n e, hne i 6 e2]; exact t4, by rw [upd_n e]; exact t5⟩
  · by_cases e : j = no
    · by_cases e' : j' = no
      · omega
      · rw [e, upd_s, upd_n e'] at he; exact absurd he.symm (hno j' (by omega))
    · by_cases e' : j' = no
      · rw [e', upd_s, upd_n e] at he; exact absurd he (hno j (by omega))
      · rw [upd_n e, upd_n e'] at he; exact o4 j j' (by omega) (by omega) he
  · by_cases e : i = l
    · exact ⟨no, by omega, by rw [upd_s, e]⟩
    · rw [hne i 7 e] at h1
      obtain ⟨j, q1, q2⟩ := o5 i hi h1
      exact ⟨j, by omega, by rw [upd_n (by omega)]; exact q2⟩
  · have := cnt_drop (p := fun i => decide (1 ≤ (upd2 (upd2 xl l 6 hour) l 7 6 i 7).toInt)) (q := fun i => decide (1 ≤ (xl i 7).toInt)) (l := l) nl hll (by simp only [s7, w6]; decide) (by simp only [h2, decide_false]) (fun i hi => by simp only [hne i 7 hi])
    omega
set_option maxRecDepth 16384 in
/-- the first place from c on where a row holds l, of d places -/
def fC (cl : Nat → Int32) (l : Int32) : Nat → Nat → Nat
  | 0, c => c
  | d + 1, c => if cl c = l then c else fC cl l d (c + 1)
set_option maxRecDepth 16384 in
theorem fC_spec {cl : Nat → Int32} {l : Int32} : ∀ d c, (fC cl l d c = c + d ∧ ∀ j, c ≤ j → j < c + d → cl j ≠ l) ∨ (c ≤ fC cl l d c ∧ fC cl l d c < c + d ∧ cl (fC cl l d c) = l) := by
  intro d
  induction d with
  | zero => intro c; exact Or.inl ⟨rfl, fun j h1 h2 => by omega⟩
  | succ d ih =>
    intro c
    rw [fC]
    by_cases e : cl c = l
    · rw [if_pos e]; exact Or.inr ⟨Nat.le_refl c, by omega, e⟩
    · rw [if_neg e]
      rcases ih (c + 1) with ⟨h1, h2⟩ | ⟨h1, h2, h3⟩
      · refine Or.inl ⟨by omega, fun j h3 h4 => ?_⟩
        by_cases e2 : j = c
        · rw [e2]; exact e
        · exact h2 j (by omega) (by omega)
      · exact Or.inr ⟨by omega, by omega, h3⟩
set_option maxRecDepth 16384 in
theorem cF_fC {cl : Nat → Int32} {l : Int32} : ∀ d c, cF cl l 0 d c 0 = if fC cl l d c = c + d then -1 else i32 (fC cl l d c) := by
  intro d
  induction d with
  | zero => intro c; simp [cF, fC]
  | succ d ih =>
    intro c
    rw [cF, fC]
    by_cases e : cl c = l
    · rw [if_pos e, if_pos rfl, if_pos e, if_neg (by omega)]
    · rw [if_neg e, if_neg e, ih (c + 1), show c + 1 + d = c + (d + 1) by omega]
set_option maxRecDepth 16384 in
theorem eM_glass62 {m : tw_T} {l u : Int32} {Q : Int32 → tw_T → Prop} {EX : tw_T → Int32 → Prop} (hM : gR m = rM) : ∀ (d c : Nat), c + d = 30 → EX m (i32 (fC (gI m 123 0) l d c)) → L_X10_glass_62 0 l u Q EX (d + 1) m (i32 c) := by
  intro d
  induction d with
  | zero =>
    intro c hc hQ
    have e1 : i32 30 ≤ i32 c := (le_i32 (by decide) (by omega)).mpr (by omega)
    rw [L_X10_glass_62]; simp only [lit30, e1, ↓forall_eq, bz_b, gR_sI, gR_sJ, gJ_sI, gI_sJ, gN_sI, gN_sJ, gI_sR, gJ_sR, gN_sR, gI_sI, gJ_sJ, gR_sR, gI_nW, gR_nW, gN_nW, gJ_nW, rM_at, rXs_at, rXd_at, ex_s, true_and, and_true, false_and, and_false, or_true, true_or, or_false, false_or, if_true, if_false, not_true_eq_false, not_false_eq_true, forall_const, true_implies, false_implies, implies_true, Nat.reduceLeDiff, Nat.reduceEqDiff, reduceCtorEq, i32_succ, i32_pred, Nat.le_refl, Nat.lt_add_one, Nat.reduceLT, ne_eq, Nat.add_one_ne_zero]; exact hQ
  | succ d ih =>
    intro c hc hQ
    have e1 : ¬ i32 30 ≤ i32 c := fun h => absurd ((le_i32 (by decide) (by omega)).mp h) (by omega)
    have e3 := vpin (show c < 30 by omega) (by decide)
    have e4 := i32_nat (show c < 2147483648 by omega)
    rw [fC] at hQ
    rw [L_X10_glass_62]; simp only [lit30, e1, e3, e4, hM, ↓forall_eq, bz_b, gR_sI, gR_sJ, gJ_sI, gI_sJ, gN_sI, gN_sJ, gI_sR, gJ_sR, gN_sR, gI_sI, gJ_sJ, gR_sR, gI_nW, gR_nW, gN_nW, gJ_nW, rM_at, rXs_at, rXd_at, ex_s, true_and, and_true, false_and, and_false, or_true, true_or, or_false, false_or, if_true, if_false, not_true_eq_false, not_false_eq_true, forall_const, true_implies, false_implies, implies_true, Nat.reduceLeDiff, Nat.reduceEqDiff, reduceCtorEq, i32_succ, i32_pred, Nat.le_refl, Nat.lt_add_one, Nat.reduceLT, ne_eq, Nat.add_one_ne_zero]
    by_cases h1 : gI m 123 0 c = l
    · simp only [h1, ↓forall_eq, bz_b, gR_sI, gR_sJ, gJ_sI, gI_sJ, gN_sI, gN_sJ, gI_sR, gJ_sR, gN_sR, gI_sI, gJ_sJ, gR_sR, gI_nW, gR_nW, gN_nW, gJ_nW, rM_at, rXs_at, rXd_at, ex_s, true_and, and_true, false_and, and_false, or_true, true_or, or_false, false_or, if_true, if_false, not_true_eq_false, not_false_eq_true, forall_const, true_implies, false_implies, implies_true, Nat.reduceLeDiff, Nat.reduceEqDiff, reduceCtorEq, i32_succ, i32_pred, Nat.le_refl, Nat.lt_add_one, Nat.reduceLT, ne_eq, Nat.add_one_ne_zero] at hQ ⊢; exact hQ
    · simp only [h1, ↓forall_eq, bz_b, gR_sI, gR_sJ, gJ_sI, gI_sJ, gN_sI, gN_sJ, gI_sR, gJ_sR, gN_sR, gI_sI, gJ_sJ, gR_sR, gI_nW, gR_nW, gN_nW, gJ_nW, rM_at, rXs_at, rXd_at, ex_s, true_and, and_true, false_and, and_false, or_true, true_or, or_false, false_or, if_true, if_false, not_true_eq_false, not_false_eq_true, forall_const, true_implies, false_implies, implies_true, Nat.reduceLeDiff, Nat.reduceEqDiff, reduceCtorEq, i32_succ, i32_pred, Nat.le_refl, Nat.lt_add_one, Nat.reduceLT, ne_eq, Nat.add_one_ne_zero] at hQ ⊢; exact ih _ (by omega) hQ
set_option maxRecDepth 16384 in
theorem eM_glass28 {m : tw_T} {l : Int32} {no : Nat} {Q : Int32 → tw_T → Prop} {EX : tw_T → Int32 → Prop} (hM : gR m = rM) (hn : gI m 0 0 22 = i32 no) (hno : no ≤ 60) : ∀ (d c : Nat), c + d = no → EX m (i32 (fC (gI m 125 0) l d c)) → L_X10_glass_28 0 l Q EX (d + 1) m (i32 c) := by
  intro d
  induction d with
  | zero =>
    intro c hc hQ
    have e1 : i32 no ≤ i32 c := (le_i32 (by omega) (by omega)).mpr (by omega)
    rw [L_X10_glass_28]; simp only [hn, e1, ↓forall_eq, bz_b, gR_sI, gR_sJ, gJ_sI, gI_sJ, gN_sI, gN_sJ, gI_sR, gJ_sR, gN_sR, gI_sI, gJ_sJ, gR_sR, gI_nW, gR_nW, gN_nW, gJ_nW, rM_at, rXs_at, rXd_at, ex_s, true_and, and_true, false_and, and_false, or_true, true_or, or_false, false_or, if_true, if_false, not_true_eq_false, not_false_eq_true, forall_const, true_implies, false_implies, implies_true, Nat.reduceLeDiff, Nat.reduceEqDiff, reduceCtorEq, i32_succ, i32_pred, Nat.le_refl, Nat.lt_add_one, Nat.reduceLT, ne_eq, Nat.add_one_ne_zero]; exact hQ
  | succ d ih =>
    intro c hc hQ
    have e1 : ¬ i32 no ≤ i32 c := fun h => absurd ((le_i32 (by omega) (by omega)).mp h) (by omega)
    have e3 := vpin (show c < 60 by omega) (by decide)
    have e4 := i32_nat (show c < 2147483648 by omega)
    rw [fC] at hQ
    rw [L_X10_glass_28]; simp only [hn, e1, e3, e4, hM, ↓forall_eq, bz_b, gR_sI, gR_sJ, gJ_sI, gI_sJ, gN_sI, gN_sJ, gI_sR, gJ_sR, gN_sR, gI_sI, gJ_sJ, gR_sR, gI_nW, gR_nW, gN_nW, gJ_nW, rM_at, rXs_at, rXd_at, ex_s, true_and, and_true, false_and, and_false, or_true, true_or, or_false, false_or, if_true, if_false, not_true_eq_false, not_false_eq_true, forall_const, true_implies, false_implies, implies_true, Nat.reduceLeDiff, Nat.reduceEqDiff, reduceCtorEq, i32_succ, i32_pred, Nat.le_refl, Nat.lt_add_one, Nat.reduceLT, ne_eq, Nat.add_one_ne_zero]
    by_cases h1 : gI m 125 0 c = l
    · simp only [h1, ↓forall_eq, bz_b, gR_sI, gR_sJ, gJ_sI, gI_sJ, gN_sI, gN_sJ, gI_sR, gJ_sR, gN_sR, gI_sI, gJ_sJ, gR_sR, gI_nW, gR_nW, gN_nW, gJ_nW, rM_at, rXs_at, rXd_at, ex_s, true_and, and_true, false_and, and_false, or_true, true_or, or_false, false_or, if_true, if_false, not_true_eq_false, not_false_eq_true, forall_const, true_implies, false_implies, implies_true, Nat.reduceLeDiff, Nat.reduceEqDiff, reduceCtorEq, i32_succ, i32_pred, Nat.le_refl, Nat.lt_add_one, Nat.reduceLT, ne_eq, Nat.add_one_ne_zero] at hQ ⊢; exact hQ
    · simp only [h1, ↓forall_eq, bz_b, gR_sI, gR_sJ, gJ_sI, gI_sJ, gN_sI, gN_sJ, gI_sR, gJ_sR, gN_sR, gI_sI, gJ_sJ, gR_sR, gI_nW, gR_nW, gN_nW, gJ_nW, rM_at, rXs_at, rXd_at, ex_s, true_and, and_true, false_and, and_false, or_true, true_or, or_false, false_or, if_true, if_false, not_true_eq_false, not_false_eq_true, forall_const, true_implies, false_implies, implies_true, Nat.reduceLeDiff, Nat.reduceEqDiff, reduceCtorEq, i32_succ, i32_pred, Nat.le_refl, Nat.lt_add_one, Nat.reduceLT, ne_eq, Nat.add_one_ne_zero] at hQ ⊢; exact ih _ (by omega) hQ
/-! ===== the reference's list without its k-th ===== -/
set_option maxRecDepth 16384 in
def SH (m : tw_T) (k d : Nat) : tw_T := (fun f' k' j' => if k' = 0 ∧ (f' = 125 ∨ f' = 126 ∨ f' = 127) ∧ k ≤ j' ∧ j' < k + d then gI m f' 0 (j' + 1) else gI m f' k' j', m.2)
set_option maxRecDepth 16384 in
theorem SH_0 {m : tw_T} {k : Nat} : SH m k 0 = m := by
  refine Prod.ext ?_ rfl
  funext f' k' j'
  show (if k' = 0 ∧ (f' = 125 ∨ f' = 126 ∨ f' = 127) ∧ k ≤ j' ∧ j' < k + 0 then gI m f' 0 (j' + 1) else gI m f' k' j') = gI m f' k' j'
  rw [if_neg (by omega)]
set_option maxRecDepth 16384 in
theorem SH_R {m : tw_T} {k d : Nat} : gR (SH m k d) = gR m := rfl
set_option maxRecDepth 16384 in
theorem SH_J {m : tw_T} {k d : Nat} : gJ (SH m k d) = gJ m := rfl
set_option maxRecDepth 16384 in
theorem SH_N {m : tw_T} {k d : Nat} : gN (SH m k d) = gN m := rfl
set_option maxRecDepth 16384 in
theorem SH_n {m : tw_T} {k d f : Nat} (h : ¬ (f = 125 ∨ f = 126 ∨ f = 127)) : gI (SH m k d) f = gI m f := by
  funext k' j'
  show (if k' = 0 ∧ (f = 125 ∨ f = 126 ∨ f = 127) ∧ k ≤ j' ∧ j' < k + d then gI m f 0 (j' + 1) else gI m f k' j') = gI m f k' j'
  rw [if_neg (fun h9 => h h9.2.1)]
set_option maxRecDepth 16384 in
theorem SH_s {m : tw_T} {k d f : Nat} (h : f = 125 ∨ f = 126 ∨ f = 127) : gI (SH m k d) f 0 = shF (gI m f 0) k d := by
  funext j'
  show (if 0 = 0 ∧ (f = 125 ∨ f = 126 ∨ f = 127) ∧ k ≤ j' ∧ j' < k + d then gI m f 0 (j' + 1) else gI m f 0 j') = if k ≤ j' ∧ j' < k + d then gI m f 0 (j' + 1) else gI m f 0 j'
  by_cases e : k ≤ j' ∧ j' < k + d
  · rw [if_pos ⟨rfl, h, e⟩, if_pos e]
  · rw [if_neg (fun h9 => e h9.2.2), if_neg e]
set_option maxRecDepth 16384 in
theorem SH_step {m : tw_T} {k d : Nat} : sI (sI (sI (SH m k d) 125 0 (k + d) (gI m 125 0 (k + d + 1))) 126 0 (k + d) (gI m 126 0 (k + d + 1))) 127 0 (k + d) (gI m 127 0 (k + d + 1)) = SH m k (d + 1) := by
  refine Prod.ext ?_ rfl
  funext f' k' j'
  show (if f' = 127 ∧ k' = 0 ∧ j' = k + d then gI m 127 0 (k + d + 1) else if f' = 126 ∧ k' = 0 ∧ j' = k + d then gI m 126 0 (k + d + 1) else if f' = 125 ∧ k' = 0 ∧ j' = k + d then gI m 125 0 (k + d + 1) else
    if k' = 0 ∧ (f' = 125 ∨ f' = 126 ∨ f' = 127) ∧ k ≤ j' ∧ j' < k + d then gI m f' 0 (j' + 1) else gI m f' k' j') =
    if k' = 0 ∧ (f' = 125 ∨ f' = 126 ∨ f' = 127) ∧ k ≤ j' ∧ j' < k + (d + 1) then gI m f' 0 (j' + 1) else gI m f' k' j'
  by_cases e : k' = 0 ∧ (f' = 125 ∨ f' = 126 ∨ f' = 127) ∧ j' = k + d
  · obtain ⟨e1, e2, e3⟩ := e
    subst e1; subst e3
    rw [if_pos (show 0 = 0 ∧ (f' = 125 ∨ f' = 126 ∨ f' = 127) ∧ k ≤ k + d ∧ k + d < k + (d + 1) from ⟨rfl, e2, by omega, by omega⟩)]
    rcases e2 with rfl | rfl | rfl <;> simp
  · rw [if_neg (by omega), if_neg (by omega), if_neg (by omega)]
    by_cases e2 : k' = 0 ∧ (f' = 125 ∨ f' = 126 ∨ f' = 127) ∧ k ≤ j' ∧ j' < k + d
    · rw [if_pos e2, if_pos (by omega)]
    · rw [if_neg e2, if_neg (by omega)]
set_option maxRecDepth 16384 in
theorem SH_ge {m : tw_T} {k d f j : Nat} (h : k + d ≤ j) : gI (SH m k d) f 0 j = gI m f 0 j := by
  show (if 0 = 0 ∧ (f = 125 ∨ f = 126 ∨ f = 127) ∧ k ≤ j ∧ j < k + d then gI m f 0 (j + 1) else gI m f 0 j) = gI m f 0 j
  rw [if_neg (by omega)]
set_option maxRecDepth 16384 in
theorem eM_empties_l {m : tw_T} {no k : Nat} {Q : tw_T → Prop} (hM : gR m = rM) (hn : gI m 0 0 22 = i32 no) (hno : no < 60) : ∀ (d' d : Nat), k + d + d' = no → Q (SH m k (d + d')) → L_X10_empties_37 0 Q (fun (τ24 : tw_T) (z25 : Int32) => Q τ24) (d' + 1) (SH m k d) (i32 (k + d)) := by
  intro d'
  induction d' with
  | zero =>
    intro d hd hQ
    have e1 : i32 no ≤ i32 (k + d) := (le_i32 (by omega) (by omega)).mpr (by omega)
    have e2 : gI (SH m k d) 0 0 22 = i32 no := by rw [SH_n (by decide)]; exact hn
    rw [L_X10_empties_37]; simp only [e2, e1, ↓forall_eq, bz_b, gR_sI, gR_sJ, gJ_sI, gI_sJ, gN_sI, gN_sJ, gI_sR, gJ_sR, gN_sR, gI_sI, gJ_sJ, gR_sR, gI_nW, gR_nW, gN_nW, gJ_nW, rM_at, rXs_at, rXd_at, ex_s, true_and, and_true, false_and, and_false, or_true, true_or, or_false, false_or, if_true, if_false, not_true_eq_false, not_false_eq_true, forall_const, true_implies, false_implies, implies_true, Nat.reduceLeDiff, Nat.reduceEqDiff, reduceCtorEq, i32_succ, i32_pred, Nat.le_refl, Nat.lt_add_one, Nat.reduceLT, ne_eq, Nat.add_one_ne_zero]; exact hQ
  | succ d' ih =>
    intro d hd hQ
    have e1 : ¬ i32 no ≤ i32 (k + d) := fun h => absurd ((le_i32 (by omega) (by omega)).mp h) (by omega)
    have e2 : gI (SH m k d) 0 0 22 = i32 no := by rw [SH_n (by decide)]; exact hn
    have e3 := vpin (show k + d < 60 by omega) (by decide)
    have e4 := i32_nat (show k + d < 2147483648 by omega)
    have e5 := vpin (show k + d + 1 < 60 by omega) (by decide)
    have e6 := i32_nat (show k + d + 1 < 2147483648 by omega)
    have g1 : gI (SH m k d) 125 0 (k + d + 1) = gI m 125 0 (k + d + 1) := SH_ge (by omega)
    have g2 : gI (SH m k d) 126 0 (k + d + 1) = gI m 126 0 (k + d + 1) := SH_ge (by omega)
    have g3 : gI (SH m k d) 127 0 (k + d + 1) = gI m 127 0 (k + d + 1) := SH_ge (by omega)
    rw [L_X10_empties_37]; simp only [e2, e1, e3, e4, e5, e6, SH_R, hM, g1, g2, g3, SH_step, ↓forall_eq, bz_b, gR_sI, gR_sJ, gJ_sI, gI_sJ, gN_sI, gN_sJ, gI_sR, gJ_sR, gN_sR, gI_sI, gJ_sJ, gR_sR, gI_nW, gR_nW, gN_nW, gJ_nW, rM_at, rXs_at, rXd_at, ex_s, true_and, and_true, false_and, and_false, or_true, true_or, or_false, false_or, if_true, if_false, not_true_eq_false, not_false_eq_true, forall_const, true_implies, false_implies, implies_true, Nat.reduceLeDiff, Nat.reduceEqDiff, reduceCtorEq, i32_succ, i32_pred, Nat.le_refl, Nat.lt_add_one, Nat.reduceLT, ne_eq, Nat.add_one_ne_zero]
    exact ih (d + 1) (by omega) (by rw [show d + 1 + d' = d + (d' + 1) by omega]; exact hQ)
set_option maxRecDepth 16384 in
/-- what the reference's list is without its k-th, counted as emptied and spilt -/
def EMP (m : tw_T) (no k : Nat) : tw_T := SH (sI (sI (sI m 0 0 18 (gI m 0 0 18 + 1)) 0 0 21 (gI m 0 0 21 + gI m 127 0 k)) 0 0 22 (i32 no)) k (no - k)
set_option maxRecDepth 16384 in
theorem eM_empties {m : tw_T} {no k : Nat} {Q : tw_T → Prop} (hM : gR m = rM) (hn : gI m 0 0 22 = i32 (no + 1)) (hno : no < 60) (hk : k ≤ no) (hQ : Q (EMP m no k)) : F_X10_empties m 0 (i32 k) Q := by
  have e3 := vpin (show k < 60 by omega) (by decide)
  have e4 := i32_nat (show k < 2147483648 by omega)
  simp only [F_X10_empties, hM, hn, e3, e4, ↓forall_eq, bz_b, gR_sI, gR_sJ, gJ_sI, gI_sJ, gN_sI, gN_sJ, gI_sR, gJ_sR, gN_sR, gI_sI, gJ_sJ, gR_sR, gI_nW, gR_nW, gN_nW, gJ_nW, rM_at, rXs_at, rXd_at, ex_s, true_and, and_true, false_and, and_false, or_true, true_or, or_false, false_or, if_true, if_false, not_true_eq_false, not_false_eq_true, forall_const, true_implies, false_implies, implies_true, Nat.reduceLeDiff, Nat.reduceEqDiff, reduceCtorEq, i32_succ, i32_pred, Nat.le_refl, Nat.lt_add_one, Nat.reduceLT, ne_eq, Nat.add_one_ne_zero]
  refine ⟨no - k + 1, ?_⟩
  have := eM_empties_l (m := sI (sI (sI m 0 0 18 (gI m 0 0 18 + 1)) 0 0 21 (gI m 0 0 21 + gI m 127 0 k)) 0 0 22 (i32 no)) (no := no) (k := k) (Q := Q) hM (by simp [gI_sI]) hno (no - k) 0 (by omega) (by rw [Nat.zero_add]; exact hQ)
  rw [SH_0, Nat.add_zero] at this
  exact this
