/-! ===== the reference's search ===== -/
set_option maxRecDepth 16384 in
def wZ (m : tw_T) (l y : Nat) : Int32 := _root_.Jvm.Pilot.CWineCellarLaw_law_r9381_d02a7e.wM m l (gI m 110 0 l).toNatClampNeg (yr (gI m 0 0 3) + i32 y)
set_option maxRecDepth 16384 in
def wI (m : tw_T) (l y : Nat) : Int := (wZ m l y).toInt
set_option maxRecDepth 16384 in
def aB (m : tw_T) (l y : Nat) : Bool := decide (¬ yr (gI m 0 0 3) + i32 y < gI m 113 0 l ∧ ¬ gI m 114 0 l < yr (gI m 0 0 3) + i32 y)
set_option maxRecDepth 16384 in
def Fr6 (m τ : tw_T) : Prop := gR τ = rM ∧ gJ τ = gJ m ∧ ∀ f, f < 143 ∨ 148 < f → gI τ f = gI m f
set_option maxRecDepth 16384 in
theorem Fr6.s {m τ : tw_T} {f k j : Nat} {v : Int32} (h : Fr6 m τ) (hf : 143 ≤ f ∧ f ≤ 148) : Fr6 m (sI τ f k j v) := by
  refine ⟨h.1, h.2.1, fun g hg => ?_⟩
  rw [hI_n (by omega)]; exact h.2.2 g hg
set_option maxRecDepth 16384 in
theorem RelA.yy {n nk nl no nt nd na ns y : Nat} {x m : tw_T} (hA : RelA n nk nl no nt nd na ns x m) (hy : y < 7) : 2000 ≤ (yr (gI m 0 0 3) + i32 y).toInt ∧ (yr (gI m 0 0 3) + i32 y).toInt ≤ 2120 := by
  have hG := hA.2.2.2.2.2.2.1
  have h := yr_rng hG.2.1 hG.2.2.1
  have e := i32_int (show y < 2147483648 by omega)
  rw [i32_add] <;> rw [e] <;> omega
set_option maxRecDepth 16384 in
theorem RelA.mayIn {n nk nl no nt nd na ns l y : Nat} {x m τ : tw_T} {Q : Int32 → tw_T → Prop} (hA : RelA n nk nl no nt nd na ns x m) (hF : Fr6 m τ) (hl : l < nl) : F_X10_mayIn τ 0 (i32 l) (yr (gI m 0 0 3) + i32 y) Q ↔ Q (bz (aB m l y = true)) τ := by
  have l1 := hA.2.2.2.1.1
  have e3 := vpin (show l < 60 by omega) (by decide)
  have e4 := i32_nat (show l < 2147483648 by omega)
  unfold F_X10_mayIn aB
  simp only [hF.1, e3, e4, hF.2.2 113 (by omega), hF.2.2 114 (by omega), ↓forall_eq, bz_b, gR_sI, gR_sJ, gJ_sI, gI_sJ, gN_sI, gN_sJ, gI_sR, gJ_sR, gN_sR, gI_sI, gJ_sJ, gR_sR, gI_nW, gR_nW, gN_nW, gJ_nW, rM_at, rXs_at, rXd_at, ex_s, true_and, and_true, false_and, and_false, or_true, true_or, or_false, false_or, if_true, if_false, not_true_eq_false, not_false_eq_true, forall_const, true_implies, false_implies, implies_true, Nat.reduceLeDiff, Nat.reduceEqDiff, reduceCtorEq, i32_succ, i32_pred, Nat.le_refl, Nat.lt_add_one, Nat.reduceLT, ne_eq, Nat.add_one_ne_zero]
  by_cases h1 : yr (gI m 0 0 3) + i32 y < gI m 113 0 l
  · simp only [h1, decide_false, Bool.false_eq_true, bz_f, ↓forall_eq, bz_b, gR_sI, gR_sJ, gJ_sI, gI_sJ, gN_sI, gN_sJ, gI_sR, gJ_sR, gN_sR, gI_sI, gJ_sJ, gR_sR, gI_nW, gR_nW, gN_nW, gJ_nW, rM_at, rXs_at, rXd_at, ex_s, true_and, and_true, false_and, and_false, or_true, true_or, or_false, false_or, if_true, if_false, not_true_eq_false, not_false_eq_true, forall_const, true_implies, false_implies, implies_true, Nat.reduceLeDiff, Nat.reduceEqDiff, reduceCtorEq, i32_succ, i32_pred, Nat.le_refl, Nat.lt_add_one, Nat.reduceLT, ne_eq, Nat.add_one_ne_zero]
  · by_cases h2 : gI m 114 0 l < yr (gI m 0 0 3) + i32 y
    · simp only [h1, h2, decide_false, Bool.false_eq_true, bz_f, ↓forall_eq, bz_b, gR_sI, gR_sJ, gJ_sI, gI_sJ, gN_sI, gN_sJ, gI_sR, gJ_sR, gN_sR, gI_sI, gJ_sJ, gR_sR, gI_nW, gR_nW, gN_nW, gJ_nW, rM_at, rXs_at, rXd_at, ex_s, true_and, and_true, false_and, and_false, or_true, true_or, or_false, false_or, if_true, if_false, not_true_eq_false, not_false_eq_true, forall_const, true_implies, false_implies, implies_true, Nat.reduceLeDiff, Nat.reduceEqDiff, reduceCtorEq, i32_succ, i32_pred, Nat.le_refl, Nat.lt_add_one, Nat.reduceLT, ne_eq, Nat.add_one_ne_zero]
    · simp only [h1, h2, decide_true, bz_t, ↓forall_eq, bz_b, gR_sI, gR_sJ, gJ_sI, gI_sJ, gN_sI, gN_sJ, gI_sR, gJ_sR, gN_sR, gI_sI, gJ_sJ, gR_sR, gI_nW, gR_nW, gN_nW, gJ_nW, rM_at, rXs_at, rXd_at, ex_s, true_and, and_true, false_and, and_false, or_true, true_or, or_false, false_or, if_true, if_false, not_true_eq_false, not_false_eq_true, forall_const, true_implies, false_implies, implies_true, Nat.reduceLeDiff, Nat.reduceEqDiff, reduceCtorEq, i32_succ, i32_pred, Nat.le_refl, Nat.lt_add_one, Nat.reduceLT, ne_eq, Nat.add_one_ne_zero]
set_option maxRecDepth 16384 in
theorem RelA.wP {n nk nl no nt nd na ns l y : Nat} {x m τ : tw_T} {Q : Int32 → tw_T → Prop} (hA : RelA n nk nl no nt nd na ns x m) (hF : Fr6 m τ) (hl : l < nl) (hy : y < 7) (hQ : Q (wZ m l y) τ) : F_X10_worthOf τ 0 (i32 l) (yr (gI m 0 0 3) + i32 y) Q := by
  obtain ⟨q, q1, q2, q3, -⟩ := hA.lot hl
  have hyy := hA.yy hy
  unfold wZ at hQ
  rw [q3, i32_nat (by omega)] at hQ
  exact hA.wM hl q3 q2 (by omega) (by omega) hF.1 (by rw [hF.2.2 105 (by omega)]) (by rw [hF.2.2 110 (by omega)]) (by rw [hF.2.2 112 (by omega)]) (by rw [hF.2.2 113 (by omega)]) (by rw [hF.2.2 114 (by omega)]) hQ
set_option maxRecDepth 16384 in
theorem RelA.wI_rng {n nk nl no nt nd na ns l y : Nat} {x m : tw_T} (hA : RelA n nk nl no nt nd na ns x m) (hl : l < nl) (hy : y < 7) : 0 ≤ wI m l y ∧ wI m l y ≤ 210000 := by
  obtain ⟨q, q1, q2, q3, q4, q5, q6, q7, q8, q9, q10, q11, r1, r2, r3, r4, r5, r6, r7⟩ := hA.lot hl
  have hyy := hA.yy hy
  unfold wI wZ
  exact wM_rng r3 r4 r5 r6 (by omega) (by omega)
set_option maxRecDepth 16384 in
def rcM (Y : Nat) (τ : tw_T) (z : Nat) : Prop := z < Y ∧ gI τ 146 0 z ≠ -1000000000
set_option maxRecDepth 16384 in
def dM (τ : tw_T) (z : Nat) : Int := (gI τ 146 0 z).toInt
set_option maxRecDepth 16384 in
def uN (u : Int32) : Nat := u.toUInt32.toNat
set_option maxRecDepth 16384 in
theorem uN_i32 {y : Nat} (h : y < 2147483648) : uN (i32 y) = y := by
  show y % 2 ^ 32 = y
  omega
set_option maxRecDepth 16384 in
theorem uN_eq {u : Int32} {y : Nat} (h : uN u = y) : u = i32 y := by
  apply Int32.toBitVec_inj.mp
  apply BitVec.eq_of_toNat_eq
  show uN u = y % 2 ^ 32
  have : uN u < 2 ^ 32 := u.toBitVec.isLt
  omega
set_option maxRecDepth 16384 in
def prM (Y : Nat) (τ : tw_T) (z : Nat) : Option Nat := if z < Y ∧ gI τ 147 0 z ≠ -1 then some (uN (gI τ 147 0 z)) else none
set_option maxRecDepth 16384 in
def tgR (τ : tw_T) (z : Nat) : Nat := uN (gI τ 148 0 z)
set_option maxRecDepth 16384 in
def flM (τ : tw_T) (t y : Nat) : Int32 := gI τ 143 0 (6 * t + y)
set_option maxRecDepth 16384 in
/-- sources and edges of the state τ -/
def SM (m : tw_T) (nl Y : Nat) (τ : tw_T) (z t : Nat) (s : Int) : Prop := z < Y ∧ t < nl ∧ gI τ 144 0 t ≠ 0 ∧ aB m t z = true ∧ s = wI m t z
set_option maxRecDepth 16384 in
def EM (m : tw_T) (nl Y : Nat) (τ : tw_T) (y z t : Nat) (c : Int) : Prop := y < Y ∧ z < Y ∧ z ≠ y ∧ t < nl ∧ flM τ t y ≠ 0 ∧ aB m t z = true ∧ c = wI m t z - wI m t y
set_option maxRecDepth 16384 in
def BndM (Y : Nat) (M : Int) (τ : tw_T) : Prop := ∀ z, z < Y → gI τ 146 0 z = -1000000000 ∨ (-M ≤ dM τ z ∧ dM τ z ≤ M)
set_option maxRecDepth 16384 in
/-- only the search's own rows have changed -/
def FrS (τ τ' : tw_T) : Prop := gR τ' = gR τ ∧ gJ τ' = gJ τ ∧ ∀ f, f ≠ 146 → f ≠ 147 → f ≠ 148 → gI τ' f = gI τ f
set_option maxRecDepth 16384 in
theorem FrS.rf {τ : tw_T} : FrS τ τ := ⟨rfl, rfl, fun _ _ _ _ => rfl⟩
set_option maxRecDepth 16384 in
theorem FrS.tr {a b c : tw_T} (h : FrS a b) (g : FrS b c) : FrS a c := ⟨g.1.trans h.1, g.2.1.trans h.2.1, fun f p q r => (g.2.2 f p q r).trans (h.2.2 f p q r)⟩
set_option maxRecDepth 16384 in
theorem FrS.s {a b : tw_T} {f k j : Nat} {v : Int32} (h : FrS a b) (hf : f = 146 ∨ f = 147 ∨ f = 148) : FrS a (sI b f k j v) := ⟨h.1, h.2.1, fun g p q r => by rw [hI_n (by omega)]; exact h.2.2 g p q r⟩
set_option maxRecDepth 16384 in
theorem FrS.six {m a b : tw_T} (h : FrS a b) (g : Fr6 m a) : Fr6 m b := ⟨h.1.trans g.1, h.2.1.trans g.2.1, fun f hf => by rw [h.2.2 f (by omega) (by omega) (by omega)]; exact g.2.2 f hf⟩
set_option maxRecDepth 16384 in
theorem FrS.em {m a b : tw_T} {nl Y y z t : Nat} {c : Int} (h : FrS a b) : EM m nl Y b y z t c ↔ EM m nl Y a y z t c := by
  unfold EM flM; rw [h.2.2 143 (by decide) (by decide) (by decide)]
set_option maxRecDepth 16384 in
theorem FrS.sm {m a b : tw_T} {nl Y z t : Nat} {s : Int} (h : FrS a b) : SM m nl Y b z t s ↔ SM m nl Y a z t s := by
  unfold SM; rw [h.2.2 144 (by decide) (by decide) (by decide)]
set_option maxRecDepth 16384 in
/-- the search's state over τ0, its lengths within M -/
def RS (m : tw_T) (nl Y : Nat) (τ0 : tw_T) (M : Int) (τ : tw_T) : Prop := FrS τ0 τ ∧ BI Y (SM m nl Y τ0) (EM m nl Y τ0) (rcM Y τ) (dM τ) (prM Y τ) (tgR τ) ∧ BndM Y M τ
set_option maxRecDepth 16384 in
def MonM (Y : Nat) (τ τ' : tw_T) : Prop := ∀ u, rcM Y τ u → rcM Y τ' u ∧ dM τ u ≤ dM τ' u
set_option maxRecDepth 16384 in
theorem MonM.rf {Y : Nat} {τ : tw_T} : MonM Y τ τ := fun u h => ⟨h, Int.le_refl _⟩
set_option maxRecDepth 16384 in
theorem MonM.tr {Y : Nat} {a b c : tw_T} (h : MonM Y a b) (g : MonM Y b c) : MonM Y a c := fun u hu => by
  obtain ⟨p, q⟩ := h u hu
  obtain ⟨r, s⟩ := g u p
  exact ⟨r, by omega⟩
set_option maxRecDepth 16384 in
theorem far_int : (-1000000000 : Int32).toInt = -1000000000 := rfl
set_option maxRecDepth 16384 in
theorem BndM.ne {Y : Nat} {M : Int} {τ : tw_T} (h : BndM Y M τ) (hM : M < 1000000000) {z : Nat} (hz : rcM Y τ z) : -M ≤ dM τ z ∧ dM τ z ≤ M := (h z hz.1).resolve_left hz.2
set_option maxRecDepth 16384 in
theorem RS.wide {m : tw_T} {nl Y : Nat} {τ0 τ : tw_T} {M M' : Int} (h : RS m nl Y τ0 M τ) (hM : M ≤ M') : RS m nl Y τ0 M' τ := ⟨h.1, h.2.1, fun z hz => (h.2.2 z hz).imp id (fun g => by omega)⟩
set_option maxRecDepth 16384 in
set_option maxHeartbeats 1000000 in
/-- one edge relaxed -/
theorem RS.relax {m : tw_T} {nl Y : Nat} {τ0 τ : tw_T} {M : Int} {v : Nat → Int} {y z l : Nat} {u : Int32} (h : RS m nl Y τ0 M τ) (hv : ∀ y z t c, EM m nl Y τ0 y z t c → c ≤ v z - v y) (hM : M < 900000000) (hY : Y ≤ 6) (hnl : nl ≤ 60) (hy : rcM Y τ y) (hE : EM m nl Y τ0 y z l (wI m l z - wI m l y)) (hu : u.toInt = dM τ y + (wI m l z - wI m l y)) (hu1 : -M ≤ u.toInt) (hu2 : u.toInt ≤ M) (himp : gI τ 146 0 z < u) :
    RS m nl Y τ0 M (sI (sI (sI τ 146 0 z u) 147 0 z (i32 y)) 148 0 z (i32 l)) ∧ MonM Y τ (sI (sI (sI τ 146 0 z u) 147 0 z (i32 y)) 148 0 z (i32 l)) ∧ gI (sI (sI (sI τ 146 0 z u) 147 0 z (i32 y)) 148 0 z (i32 l)) 146 0 y = gI τ 146 0 y ∧
    (rcM Y (sI (sI (sI τ 146 0 z u) 147 0 z (i32 y)) 148 0 z (i32 l)) z ∧ dM τ y + (wI m l z - wI m l y) ≤ dM (sI (sI (sI τ 146 0 z u) 147 0 z (i32 y)) 148 0 z (i32 l)) z) := by
  obtain ⟨h1, h2, h3⟩ := h
  obtain ⟨e1, e2, e3, e4, e5, e6, -⟩ := hE
  have hlt := Int32.lt_iff_toInt_lt.mp himp
  have g146 : ∀ i, gI (sI (sI (sI τ 146 0 z u) 147 0 z (i32 y)) 148 0 z (i32 l)) 146 0 i = if i = z then u else gI τ 146 0 i := fun i => by
    rw [row_sI (Or.inl (by decide)), row_sI (Or.inl (by decide)), gI_sI]
    by_cases e : i = z
    · rw [if_pos ⟨rfl, rfl, e⟩, if_pos e]
    · rw [if_neg (fun h => e h.2.2), if_neg e]
  have g147 : ∀ i, gI (sI (sI (sI τ 146 0 z u) 147 0 z (i32 y)) 148 0 z (i32 l)) 147 0 i = if i = z then i32 y else gI τ 147 0 i := fun i => by
    rw [row_sI (Or.inl (by decide)), gI_sI]
    by_cases e : i = z
    · rw [if_pos ⟨rfl, rfl, e⟩, if_pos e]
    · rw [if_neg (fun h => e h.2.2), if_neg e, row_sI (Or.inl (by decide))]
  have g148 : ∀ i, gI (sI (sI (sI τ 146 0 z u) 147 0 z (i32 y)) 148 0 z (i32 l)) 148 0 i = if i = z then i32 l else gI τ 148 0 i := fun i => by
    rw [gI_sI]
    by_cases e : i = z
    · rw [if_pos ⟨rfl, rfl, e⟩, if_pos e]
    · rw [if_neg (fun h => e h.2.2), if_neg e, row_sI (Or.inl (by decide)), row_sI (Or.inl (by decide))]
  have hune : u ≠ -1000000000 := fun h9 => by rw [h9, far_int] at hu1; omega
  have hr : rcM Y (sI (sI (sI τ 146 0 z u) 147 0 z (i32 y)) 148 0 z (i32 l)) = fun a => a = z ∨ rcM Y τ a := by
    funext a
    unfold rcM
    rw [g146]
    by_cases e : a = z
    · rw [if_pos e]; simp only [e, true_or, eq_iff_iff, iff_true]; exact ⟨e2, hune⟩
    · rw [if_neg e]; simp only [e, false_or]
  have hd : dM (sI (sI (sI τ 146 0 z u) 147 0 z (i32 y)) 148 0 z (i32 l)) = updZ (dM τ) z (dM τ y + (wI m l z - wI m l y)) := by
    funext a
    unfold dM updZ
    rw [g146]
    by_cases e : a = z
    · rw [if_pos e, if_pos e]; exact hu
    · rw [if_neg e, if_neg e]
  have hp : prM Y (sI (sI (sI τ 146 0 z u) 147 0 z (i32 y)) 148 0 z (i32 l)) = updO (prM Y τ) z (some y) := by
    funext a
    unfold prM updO
    rw [g147]
    by_cases e : a = z
    · rw [if_pos e, if_pos e, if_pos ⟨by omega, not_m1 (by omega)⟩, uN_i32 (by omega)]
    · rw [if_neg e, if_neg e]
  have ht : tgR (sI (sI (sI τ 146 0 z u) 147 0 z (i32 y)) 148 0 z (i32 l)) = updN (tgR τ) z l := by
    funext a
    unfold tgR updN
    rw [g148]
    by_cases e : a = z
    · rw [if_pos e, if_pos e, uN_i32 (by omega)]
    · rw [if_neg e, if_neg e]
  have hB := h2.relax hv (y := y) (z := z) (t := l) (c := wI m l z - wI m l y) hy ⟨e1, e2, e3, e4, e5, e6, rfl⟩ e2 (fun h9 => e3 h9.symm) (fun _ => by rw [← hu]; exact hlt)
  refine ⟨⟨((h1.s (Or.inl rfl)).s (Or.inr (Or.inl rfl))).s (Or.inr (Or.inr rfl)), by rw [hr, hd, hp, ht]; exact hB, fun i hi => ?_⟩, fun a ha => ?_, ?_, ?_, ?_⟩
  · unfold dM
    rw [g146]
    by_cases e : i = z
    · rw [if_pos e]; exact Or.inr ⟨hu1, hu2⟩
    · rw [if_neg e]; exact h3 i hi
  · rw [hr, hd]
    refine ⟨Or.inr ha, ?_⟩
    unfold updZ
    by_cases e : a = z
    · rw [if_pos e, ← hu, e]; unfold dM; omega
    · rw [if_neg e]; exact Int.le_refl _
  · rw [g146, if_neg (fun h9 => e3 h9.symm)]
  · rw [hr]; exact Or.inl rfl
  · rw [hd]; unfold updZ; rw [if_pos rfl]; exact Int.le_refl _
