/-! ===== the class's search ===== -/
set_option maxRecDepth 16384 in
def rcC (Y : Nat) (τ : tw_T) (z : Nat) : Prop := z ≤ Y ∧ gI τ 18 0 z ≠ -2147483648
set_option maxRecDepth 16384 in
def dC (τ : tw_T) (z : Nat) : Int := (gI τ 18 0 z).toInt
set_option maxRecDepth 16384 in
def prC (Y : Nat) (τ : tw_T) (z : Nat) : Option Nat := if z ≤ Y ∧ gI τ 19 0 z ≠ -1 then some (uN (gI τ 19 0 z)) else none
set_option maxRecDepth 16384 in
def tgC (cur Y : Nat) (τ : tw_T) (z : Nat) : Nat := match prC Y τ z with
  | some y => uN (gI τ 29 y z)
  | none => cur
set_option maxRecDepth 16384 in
def SC (cur Y : Nat) (τ : tw_T) (z t : Nat) (s : Int) : Prop := z ≤ Y ∧ t = cur ∧ gI τ 26 cur z ≠ -1 ∧ s = (gI τ 26 cur z).toInt
set_option maxRecDepth 16384 in
def EC (Y : Nat) (τ : tw_T) (y z t : Nat) (c : Int) : Prop := y < Y ∧ z ≤ Y ∧ z ≠ y ∧ gI τ 17 0 y = 0 ∧ gI τ 29 y z ≠ -1 ∧ t = uN (gI τ 29 y z) ∧ c = (gI τ 28 y z).toInt
set_option maxRecDepth 16384 in
/-- the movers are known, of all years that are full -/
def MVA (Y G : Nat) (τ : tw_T) : Prop := ∀ y z, y < Y → z ≤ Y → gI τ 17 0 y = 0 → MV (gI τ 26) (gI τ 27) G y z (gI τ 29 y z) (gI τ 28 y z)
set_option maxRecDepth 16384 in
def RSC (cur Y : Nat) (τ0 : tw_T) (M : Int) (τ : tw_T) : Prop := FrL [18, 19] τ0 τ ∧ BI (Y + 1) (SC cur Y τ0) (EC Y τ0) (rcC Y τ) (dC τ) (prC Y τ) (tgC cur Y τ) ∧ ∀ z, z ≤ Y → gI τ 18 0 z = -2147483648 ∨ (-M ≤ dC τ z ∧ dC τ z ≤ M)
set_option maxRecDepth 16384 in
def MonC (Y : Nat) (τ τ' : tw_T) : Prop := ∀ u, rcC Y τ u → rcC Y τ' u ∧ dC τ u ≤ dC τ' u
set_option maxRecDepth 16384 in
theorem MonC.rf {Y : Nat} {τ : tw_T} : MonC Y τ τ := fun u h => ⟨h, Int.le_refl _⟩
set_option maxRecDepth 16384 in
theorem MonC.tr {Y : Nat} {a b c : tw_T} (h : MonC Y a b) (g : MonC Y b c) : MonC Y a c := fun u hu => by
  obtain ⟨p, q⟩ := h u hu
  obtain ⟨r, s⟩ := g u p
  exact ⟨r, by omega⟩
set_option maxRecDepth 16384 in
theorem un_int : (-2147483648 : Int32).toInt = -2147483648 := rfl
set_option maxRecDepth 16384 in
theorem RSC.wide {cur Y : Nat} {τ0 τ : tw_T} {M M' : Int} (h : RSC cur Y τ0 M τ) (hM : M ≤ M') : RSC cur Y τ0 M' τ := ⟨h.1, h.2.1, fun z hz => (h.2.2 z hz).imp id (fun g => by omega)⟩
set_option maxRecDepth 16384 in
theorem RSC.ne {cur Y : Nat} {τ0 τ : tw_T} {M : Int} (h : RSC cur Y τ0 M τ) {z : Nat} (hz : rcC Y τ z) : -M ≤ dC τ z ∧ dC τ z ≤ M := (h.2.2 z hz.1).resolve_left hz.2
set_option maxRecDepth 16384 in
set_option maxHeartbeats 1000000 in
theorem RSC.relax {cur Y : Nat} {τ0 τ : tw_T} {M : Int} {v : Nat → Int} {y z t : Nat} {c : Int} {u : Int32} (h : RSC cur Y τ0 M τ) (hv : ∀ y z t c, EC Y τ0 y z t c → c ≤ v z - v y) (hM : M < 900000000) (hY : Y ≤ 6) (hy : rcC Y τ y) (hE : EC Y τ0 y z t c) (hu : u.toInt = dC τ y + c) (hu1 : -M ≤ u.toInt) (hu2 : u.toInt ≤ M) (himp : ¬ u ≤ gI τ 18 0 z) :
    RSC cur Y τ0 M (sI (sI τ 18 0 z u) 19 0 z (i32 y)) ∧ MonC Y τ (sI (sI τ 18 0 z u) 19 0 z (i32 y)) ∧ gI (sI (sI τ 18 0 z u) 19 0 z (i32 y)) 18 0 y = gI τ 18 0 y ∧
    (rcC Y (sI (sI τ 18 0 z u) 19 0 z (i32 y)) z ∧ dC τ y + c ≤ dC (sI (sI τ 18 0 z u) 19 0 z (i32 y)) z) := by
  obtain ⟨h1, h2, h3⟩ := h
  obtain ⟨e1, e2, e3, e4, e5, e6, e7⟩ := hE
  have hlt : (gI τ 18 0 z).toInt < u.toInt := by rw [Int32.le_iff_toInt_le] at himp; omega
  have h29 : gI τ 29 = gI τ0 29 := h1.2.2.2 29 (by decide)
  have g18 : ∀ i, gI (sI (sI τ 18 0 z u) 19 0 z (i32 y)) 18 0 i = if i = z then u else gI τ 18 0 i := fun i => by
    rw [row_sI (Or.inl (by decide)), gI_sI]
    by_cases e : i = z
    · rw [if_pos ⟨rfl, rfl, e⟩, if_pos e]
    · rw [if_neg (fun h => e h.2.2), if_neg e]
  have g19 : ∀ i, gI (sI (sI τ 18 0 z u) 19 0 z (i32 y)) 19 0 i = if i = z then i32 y else gI τ 19 0 i := fun i => by
    rw [gI_sI]
    by_cases e : i = z
    · rw [if_pos ⟨rfl, rfl, e⟩, if_pos e]
    · rw [if_neg (fun h => e h.2.2), if_neg e, row_sI (Or.inl (by decide))]
  have g29 : gI (sI (sI τ 18 0 z u) 19 0 z (i32 y)) 29 = gI τ0 29 := by rw [hI_n (by decide), hI_n (by decide), h29]
  have hune : u ≠ -2147483648 := fun h9 => by rw [h9, un_int] at hu1; omega
  have hr : rcC Y (sI (sI τ 18 0 z u) 19 0 z (i32 y)) = fun a => a = z ∨ rcC Y τ a := by
    funext a
    unfold rcC
    rw [g18]
    by_cases e : a = z
    · rw [if_pos e]; simp only [e, true_or, eq_iff_iff, iff_true]; exact ⟨e2, hune⟩
    · rw [if_neg e]; simp only [e, false_or]
  have hd : dC (sI (sI τ 18 0 z u) 19 0 z (i32 y)) = updZ (dC τ) z (dC τ y + c) := by
    funext a
    unfold dC updZ
    rw [g18]
    by_cases e : a = z
    · rw [if_pos e, if_pos e]; exact hu
    · rw [if_neg e, if_neg e]
  have hp : prC Y (sI (sI τ 18 0 z u) 19 0 z (i32 y)) = updO (prC Y τ) z (some y) := by
    funext a
    unfold prC updO
    rw [g19]
    by_cases e : a = z
    · rw [if_pos e, if_pos e, if_pos ⟨by omega, not_m1 (by omega)⟩, uN_i32 (by omega)]
    · rw [if_neg e, if_neg e]
  have ht : tgC cur Y (sI (sI τ 18 0 z u) 19 0 z (i32 y)) = updN (tgC cur Y τ) z t := by
    funext a
    unfold tgC updN
    rw [hp, g29, h29]
    unfold updO
    by_cases e : a = z
    · rw [if_pos e, if_pos e, e]; exact e6.symm
    · rw [if_neg e, if_neg e]
  have hB := h2.relax hv (y := y) (z := z) (t := t) (c := c) hy ⟨e1, e2, e3, e4, e5, e6, e7⟩ (by omega) (fun h9 => e3 h9.symm) (fun _ => by rw [← hu]; exact hlt)
  refine ⟨⟨(h1.s (by decide)).s (by decide), by rw [hr, hd, hp, ht]; exact hB, fun i hi => ?_⟩, fun a ha => ?_, ?_, ?_, ?_⟩
  · unfold dC
    rw [g18]
    by_cases e : i = z
    · rw [if_pos e]; exact Or.inr ⟨hu1, hu2⟩
    · rw [if_neg e]; exact h3 i hi
  · rw [hr, hd]
    refine ⟨Or.inr ha, ?_⟩
    unfold updZ
    by_cases e : a = z
    · rw [if_pos e, ← hu, e]; unfold dC; omega
    · rw [if_neg e]; exact Int.le_refl _
  · rw [g18, if_neg (fun h9 => e3 h9.symm)]
  · rw [hr]; exact Or.inl rfl
  · rw [hd]; unfold updZ; rw [if_pos rfl]; exact Int.le_refl _
section CH
variable {Y G cur : Nat} {τ0 : tw_T} {v : Nat → Int} {Q : tw_T → Prop}
set_option maxRecDepth 16384 in
theorem MVA.c (h : MVA Y G τ0) (hB : GB Y G τ0) {y z t : Nat} {c : Int} (hE : EC Y τ0 y z t c) : -210001 ≤ c ∧ c ≤ 210001 := by
  obtain ⟨e1, e2, e3, e4, e5, e6, e7⟩ := hE
  rcases h y z e1 e2 e4 with ⟨h1, -⟩ | ⟨t', h1, h2, h3, h4, h5, h6, h7⟩
  · exact absurd h1 e5
  · have := hB t' z h1 e2
    have := hB t' y h1 (by omega)
    omega
set_option maxRecDepth 16384 in
set_option maxHeartbeats 1000000 in
theorem xX_lengthen (hP : PLX Y G τ0) (hA : MVA Y G τ0) (hB : GB Y G τ0) (hv : ∀ y z t c, EC Y τ0 y z t c → c ≤ v z - v y) (hY : Y ≤ 6) {y : Nat} (hy : y < Y) (h0 : gI τ0 17 0 y = 0) {M : Int} (hM0 : 0 ≤ M) (hM : M + 210001 < 900000000) {EX : tw_T → Int32 → Prop} :
    ∀ (dd i : Nat) (τ : tw_T), i + dd = Y + 1 → RSC cur Y τ0 (M + 210001) τ → rcC Y τ y → (-M ≤ dC τ y ∧ dC τ y ≤ M) →
    (∀ τ' z', RSC cur Y τ0 (M + 210001) τ' → MonC Y τ τ' → (∀ z t c, i ≤ z → EC Y τ0 y z t c → rcC Y τ' z ∧ dC τ y + c ≤ dC τ' z) → EX τ' z') →
    L_X4_lengthenFrom_2 0 (i32 y) Q EX (dd + 1) τ (i32 i) := by
  intro dd
  induction dd with
  | zero =>
    intro i τ hi hR hr hb hE
    have hT := hP.fr hR.1 (by decide)
    have e1 : i32 Y < i32 i := (lt_i32 (by omega) (by omega)).mpr (by omega)
    rw [L_X4_lengthenFrom_2, hT.y]
    exact ⟨fun _ => hE τ _ hR MonC.rf (fun z t c h1 h2 => by have := h2.2.1; omega), fun h => absurd e1 h⟩
  | succ dd ih =>
    intro i τ hi hR hr hb hE
    have hT := hP.fr hR.1 (by decide)
    have e1 : ¬ i32 Y < i32 i := fun h => absurd ((lt_i32 (by omega) (by omega)).mp h) (by omega)
    have vi := vpin (show i < 7 by omega) (by decide)
    have ni := i32_nat (show i < 2147483648 by omega)
    have vy := vpin (show y < 7 by omega) (by decide)
    have vy6 := vpin (show y < 6 by omega) (by decide)
    have ny := i32_nat (show y < 2147483648 by omega)
    have h28 : gI τ 28 = gI τ0 28 := hR.1.2.2.2 28 (by decide)
    have h29 : gI τ 29 = gI τ0 29 := hR.1.2.2.2 29 (by decide)
    have skip : (∀ t c, EC Y τ0 y i t c → rcC Y τ i ∧ dC τ y + c ≤ dC τ i) → L_X4_lengthenFrom_2 0 (i32 y) Q EX (dd + 1) τ (i32 (i + 1)) := by
      intro hz
      refine ih (i + 1) τ (by omega) hR hr hb (fun τ' z' a1 a2 a4 => hE τ' z' a1 a2 (fun z t c b1 b2 => ?_))
      by_cases e : z = i
      · rw [e] at b2 ⊢
        obtain ⟨c1, c2⟩ := hz t c b2
        obtain ⟨d1, d2⟩ := a2 i c1
        exact ⟨d1, by omega⟩
      · exact a4 z t c (by omega) b2
    rw [L_X4_lengthenFrom_2, hT.y]
    unfold J_X4_lengthenFrom_74
    simp only [↓forall_eq, i32_succ]
    refine ⟨fun h => absurd h e1, fun _ => ⟨0, hT.o (by decide), vy6, y, by rw [ny]; exact hT.r25 (by omega), vi, ?_⟩⟩
    rw [ni, ny, h29]
    refine ⟨fun h9 => skip (fun t c hE => absurd h9 hE.2.2.2.2.1), fun h9 => ⟨0, hT.o (by decide), vy, 0, hT.o (by decide), vy6, y, hT.r24 (by omega), vi, 0, hT.o (by decide), vi, ?_⟩⟩
    rw [h28]
    have hne : i ≠ y := by
      rcases hA y i hy (by omega) h0 with ⟨h1, -⟩ | ⟨t', h1, h2, h3, h4, -⟩
      · exact absurd h1 h9
      · exact h4
    have hE2 : EC Y τ0 y i (uN (gI τ0 29 y i)) (gI τ0 28 y i).toInt := ⟨hy, by omega, hne, h0, h9, rfl, rfl⟩
    have hc := hA.c hB hE2
    have s1 : (gI τ 18 0 y + gI τ0 28 y i).toInt = dC τ y + (gI τ0 28 y i).toInt := by unfold dC at hb ⊢; rw [i32_add] <;> omega
    refine ⟨fun h7 => skip (fun t c hE3 => ?_), fun h7 => ⟨0, hT.o (by decide), 0, hT.o (by decide), vy, 0, hT.o (by decide), vy6, y, hT.r24 (by omega), vi, vi, 0, hT.o (by decide), vi, ?_⟩⟩
    · rw [Int32.le_iff_toInt_le, s1] at h7
      have : c = (gI τ0 28 y i).toInt := hE3.2.2.2.2.2.2
      refine ⟨⟨by omega, fun hf => ?_⟩, by unfold dC at *; omega⟩
      rw [hf, un_int] at h7
      omega
    · obtain ⟨k1, k2, k3, k4, k5⟩ := hR.relax (v := v) hv hM hY hr hE2 (u := gI τ 18 0 y + gI τ0 28 y i) s1 (by omega) (by omega) h7
      have hd : dC (sI (sI τ 18 0 i (gI τ 18 0 y + gI τ0 28 y i)) 19 0 i (i32 y)) y = dC τ y := by unfold dC; rw [k3]
      refine ih (i + 1) _ (by omega) k1 (k2 y hr).1 (by rw [hd]; exact hb) (fun τ' z' a1 a2 a4 => hE τ' z' a1 (k2.tr a2) (fun z t c b1 b2 => ?_))
      by_cases e : z = i
      · rw [e] at b2 ⊢
        have : c = (gI τ0 28 y i).toInt := b2.2.2.2.2.2.2
        obtain ⟨d1, d2⟩ := a2 i k4
        exact ⟨d1, by omega⟩
      · have := a4 z t c (by omega) b2
        rw [hd] at this; exact this
set_option maxRecDepth 16384 in
theorem xX_fc96 (hP : PLX Y G τ0) (hA : MVA Y G τ0) (hB : GB Y G τ0) (hv : ∀ y z t c, EC Y τ0 y z t c → c ≤ v z - v y) (hY : Y ≤ 6) {M : Int} (hM0 : 0 ≤ M) (hM : M + 210001 * 6 < 900000000) {u2 : Int32} {EX : tw_T → Int32 → Prop} :
    ∀ (dd i : Nat) (τ : tw_T), i + dd = Y → RSC cur Y τ0 (M + 210001 * i) τ →
    (∀ τ' z', RSC cur Y τ0 (M + 210001 * 6) τ' → MonC Y τ τ' → (∀ y z t c, i ≤ y → EC Y τ0 y z t c → rcC Y τ y → rcC Y τ' z ∧ dC τ y + c ≤ dC τ' z) → EX τ' z') →
    L_X4_findChains_96 0 u2 Q EX (dd + 1) τ (i32 i) := by
  intro dd
  induction dd with
  | zero =>
    intro i τ hi hR hE
    have hT := hP.fr hR.1 (by decide)
    have e1 : i32 Y ≤ i32 i := (le_i32 (by omega) (by omega)).mpr (by omega)
    rw [L_X4_findChains_96, hT.y]
    exact ⟨fun _ => hE τ _ (hR.wide (by omega)) MonC.rf (fun y z t c h1 h2 => by have := h2.1; omega), fun h => absurd e1 h⟩
  | succ dd ih =>
    intro i τ hi hR hE
    have hT := hP.fr hR.1 (by decide)
    have e1 : ¬ i32 Y ≤ i32 i := fun h => absurd ((le_i32 (by omega) (by omega)).mp h) (by omega)
    have vi := vpin (show i < 7 by omega) (by decide)
    have ni := i32_nat (show i < 2147483648 by omega)
    have h17 : gI τ 17 = gI τ0 17 := hR.1.2.2.2 17 (by decide)
    have skip : (∀ z t c, EC Y τ0 i z t c → rcC Y τ i → False) → L_X4_findChains_96 0 u2 Q EX (dd + 1) τ (i32 (i + 1)) := by
      intro hz
      refine ih (i + 1) τ (by omega) (hR.wide (by omega)) (fun τ' z' c1 c2 c3 => hE τ' z' c1 c2 (fun y z t c b1 b2 b3 => ?_))
      by_cases e : y = i
      · rw [e] at b2 b3; exact absurd b3 (hz z t c b2)
      · exact c3 y z t c (by omega) b2 b3
    rw [L_X4_findChains_96, hT.y]
    unfold J_X4_findChains_129
    simp only [↓forall_eq, i32_succ]
    refine ⟨fun h => absurd h e1, fun _ => ⟨0, hT.o (by decide), vi, ?_⟩⟩
    rw [ni, h17]
    refine ⟨fun h9 => skip (fun z t c hE _ => h9 hE.2.2.2.1), fun h9 => ⟨0, hT.o (by decide), vi, fun h8 => skip (fun z t c _ hr => hr.2 h8), fun h8 => ⟨Y + 2, ?_⟩⟩⟩
    have hr : rcC Y τ i := ⟨by omega, h8⟩
    refine xX_lengthen hP hA hB hv hY (show i < Y by omega) h9 (M := M + 210001 * i) (by omega) (by omega) (Y + 1) 0 τ (by omega) (hR.wide (by omega)) hr (hR.ne hr) (fun τ1 z' a1 a2 a4 => ?_)
    refine ih (i + 1) τ1 (by omega) (a1.wide (by omega)) (fun τ' z' c1 c2 c3 => hE τ' z' c1 (a2.tr c2) (fun y z t c b1 b2 b3 => ?_))
    by_cases e : y = i
    · rw [e] at b2 b3 ⊢
      obtain ⟨p1, p2⟩ := a4 z t c (by omega) b2
      obtain ⟨q1, q2⟩ := c2 z p1
      exact ⟨q1, by omega⟩
    · obtain ⟨p1, p2⟩ := a2 y b3
      obtain ⟨q1, q2⟩ := c3 y z t c (by omega) b2 p1
      exact ⟨q1, by omega⟩
set_option maxRecDepth 16384 in
theorem xX_fc86 (hP : PLX Y G τ0) (hA : MVA Y G τ0) (hB : GB Y G τ0) (hv : ∀ y z t c, EC Y τ0 y z t c → c ≤ v z - v y) (hY : Y ≤ 6) {EX : tw_T → Int32 → Prop} :
    ∀ (dd i : Nat) (τ : tw_T), i + dd = Y → RSC cur Y τ0 (210000 + 1260006 * i) τ → CK (SC cur Y τ0) (EC Y τ0) i (rcC Y τ) (dC τ) →
    (∀ τ' z', RSC cur Y τ0 7770036 τ' → CK (SC cur Y τ0) (EC Y τ0) Y (rcC Y τ') (dC τ') → EX τ' z') →
    L_X4_findChains_86 0 Q EX (dd + 1) τ (i32 i) := by
  intro dd
  induction dd with
  | zero =>
    intro i τ hi hR hC hE
    have hT := hP.fr hR.1 (by decide)
    have e1 : i32 Y ≤ i32 i := (le_i32 (by omega) (by omega)).mpr (by omega)
    have : i = Y := by omega
    rw [L_X4_findChains_86, hT.y]
    exact ⟨fun _ => hE τ _ (hR.wide (by omega)) (by rw [this] at hC; exact hC), fun h => absurd e1 h⟩
  | succ dd ih =>
    intro i τ hi hR hC hE
    have hT := hP.fr hR.1 (by decide)
    have e1 : ¬ i32 Y ≤ i32 i := fun h => absurd ((le_i32 (by omega) (by omega)).mp h) (by omega)
    rw [L_X4_findChains_86, hT.y]
    refine ⟨fun h => absurd h e1, fun _ => ⟨Y + 1, xX_fc96 hP hA hB hv hY (M := 210000 + 1260006 * i) (by omega) (by omega) Y 0 τ (by omega) (hR.wide (by omega)) (fun τ1 z' a1 a2 a3 => ?_)⟩⟩
    intro z hz
    subst hz
    rw [i32_succ]
    exact ih (i + 1) τ1 (by omega) (a1.wide (by omega)) (hC.round a2 (fun y z t c h1 h2 => a3 y z t c (by omega) h1 h2)) hE
end CH
