/-! ===== the class's chains ===== -/
section CH2
variable {Y G cur : Nat} {τ0 : tw_T} {v : Nat → Int} {Q : tw_T → Prop}
set_option maxRecDepth 16384 in
theorem xX_fc2 (hP : PLX Y G τ0) (hY : Y ≤ 6) (hG : G ≤ 30) (hc : cur < G) {EX : tw_T → Int32 → Prop} :
    ∀ (dd i : Nat) (τ : tw_T), i + dd = Y + 1 → FrL [18, 19] τ0 τ → (∀ z, z < i → gI τ 19 0 z = -1 ∧ gI τ 18 0 z = if gI τ0 26 cur z = -1 then -2147483648 else gI τ0 26 cur z) →
    (∀ τ' z', FrL [18, 19] τ0 τ' → (∀ z, z ≤ Y → gI τ' 19 0 z = -1 ∧ gI τ' 18 0 z = if gI τ0 26 cur z = -1 then -2147483648 else gI τ0 26 cur z) → EX τ' z') →
    L_X4_findChains_2 0 (i32 cur) Q EX (dd + 1) τ (i32 i) := by
  intro dd
  induction dd with
  | zero =>
    intro i τ hi hF hI hE
    have hT := hP.fr hF (by decide)
    have e1 : i32 Y < i32 i := (lt_i32 (by omega) (by omega)).mpr (by omega)
    rw [L_X4_findChains_2, hT.y]
    exact ⟨fun _ => hE τ _ hF (fun z hz => hI z (by omega)), fun h => absurd e1 h⟩
  | succ dd ih =>
    intro i τ hi hF hI hE
    have hT := hP.fr hF (by decide)
    have e1 : ¬ i32 Y < i32 i := fun h => absurd ((lt_i32 (by omega) (by omega)).mp h) (by omega)
    have vi := vpin (show i < 7 by omega) (by decide)
    have ni := i32_nat (show i < 2147483648 by omega)
    have vg := vpin (show cur < 30 by omega) (by decide)
    have ng := i32_nat (show cur < 2147483648 by omega)
    have h26 : gI τ 26 = gI τ0 26 := hF.2.2.2 26 (by decide)
    have go : ∀ u : Int32, u = (if gI τ0 26 cur i = -1 then -2147483648 else gI τ0 26 cur i) → J_X4_findChains_40 τ 0 (i32 cur) (i32 i) u (i32 i) 0 Q (fun t v2 => L_X4_findChains_2 0 (i32 cur) Q EX (dd + 1) t v2) EX := by
      intro u hu
      unfold J_X4_findChains_40
      rw [ni]
      refine ⟨vi, fun τ22 h22 => ?_⟩
      subst h22
      refine ⟨0, hT.o (by decide), vi, fun τ25 h25 z hz => ?_⟩
      subst h25
      rw [hz, i32_succ]
      refine ih (i + 1) _ (by omega) ((hF.s (by decide)).s (by decide)) (fun z hz => ?_) hE
      rw [gI_sI, row_sI (Or.inl (by decide)), row_sI (Or.inl (by decide)), gI_sI]
      by_cases e : z = i
      · rw [if_pos ⟨rfl, rfl, e⟩, if_pos ⟨rfl, rfl, e⟩, hu, e]; exact ⟨rfl, rfl⟩
      · rw [if_neg (fun h => e h.2.2), if_neg (fun h => e h.2.2)]; exact hI z (by omega)
    rw [L_X4_findChains_2, hT.y]
    refine ⟨fun h => absurd h e1, fun _ => ⟨0, hT.o (by decide), 0, hT.o (by decide), vg, cur, by rw [ng]; exact hT.r15 (by omega), vi, ?_⟩⟩
    rw [ni, ng, h26]
    exact ⟨fun h9 => ⟨0, hT.o (by decide), vg, cur, hT.r15 (by omega), vi, go _ (by rw [if_neg h9])⟩, fun h9 => go _ (by rw [if_pos h9])⟩
set_option maxRecDepth 16384 in
theorem xX_fc56 (hP : PLX Y G τ0) (hY : Y ≤ 6) (hG : G ≤ 30) (hB : GB Y G τ0) {EX : tw_T → Int32 → Prop} :
    ∀ (dd i : Nat) (τ : tw_T), i + dd = Y → FrL [28, 29] τ0 τ → (∀ y z, y < i → z ≤ Y → gI τ0 17 0 y = 0 → MV (gI τ0 26) (gI τ0 27) G y z (gI τ 29 y z) (gI τ 28 y z)) →
    (∀ τ' z', FrL [28, 29] τ0 τ' → MVA Y G τ' → EX τ' z') →
    L_X4_findChains_56 0 Q EX (dd + 1) τ (i32 i) := by
  intro dd
  induction dd with
  | zero =>
    intro i τ hi hF hI hE
    have hT := hP.fr hF (by decide)
    have e1 : i32 Y ≤ i32 i := (le_i32 (by omega) (by omega)).mpr (by omega)
    rw [L_X4_findChains_56, hT.y]
    refine ⟨fun _ => hE τ _ hF (fun y z h1 h2 h3 => ?_), fun h => absurd e1 h⟩
    rw [hF.2.2.2 17 (by decide)] at h3
    rw [hF.2.2.2 26 (by decide), hF.2.2.2 27 (by decide)]
    exact hI y z (by omega) h2 h3
  | succ dd ih =>
    intro i τ hi hF hI hE
    have hT := hP.fr hF (by decide)
    have e1 : ¬ i32 Y ≤ i32 i := fun h => absurd ((le_i32 (by omega) (by omega)).mp h) (by omega)
    have vi := vpin (show i < 7 by omega) (by decide)
    have ni := i32_nat (show i < 2147483648 by omega)
    have h26 : gI τ 26 = gI τ0 26 := hF.2.2.2 26 (by decide)
    have h27 : gI τ 27 = gI τ0 27 := hF.2.2.2 27 (by decide)
    have h17 : gI τ 17 = gI τ0 17 := hF.2.2.2 17 (by decide)
    rw [L_X4_findChains_56, hT.y]
    unfold J_X4_findChains_78
    simp only [↓forall_eq, i32_succ]
    refine ⟨fun h => absurd h e1, fun _ => ⟨0, hT.o (by decide), vi, ?_⟩⟩
    rw [ni, h17]
    refine ⟨fun h9 => ih (i + 1) τ (by omega) hF (fun y z h1 h2 h3 => ?_) hE, fun h9 => ?_⟩
    · by_cases e : y = i
      · rw [e] at h3; exact absurd h3 h9
      · exact hI y z (by omega) h2 h3
    · refine xX_findMovers hT hY hG (by unfold GB; rw [h26]; exact hB) (show i < Y by omega) (fun τ' a1 a2 => ?_)
      rw [h26, h27] at a2
      refine ih (i + 1) τ' (by omega) (hF.tr a1.l) (fun y z h1 h2 h3 => ?_) hE
      by_cases e : y = i
      · rw [e]; exact a2 z h2
      · rw [a1.2.2.2 29 y (by omega), a1.2.2.2 28 y (by omega)]
        exact hI y z (by omega) h2 h3
set_option maxRecDepth 16384 in
/-- the search has ended -/
def HC (cur Y G : Nat) (τ : tw_T) : Prop := MVA Y G τ ∧ BI (Y + 1) (SC cur Y τ) (EC Y τ) (rcC Y τ) (dC τ) (prC Y τ) (tgC cur Y τ) ∧ (∀ z, z ≤ Y → gI τ 18 0 z = -2147483648 ∨ (-7770036 ≤ dC τ z ∧ dC τ z ≤ 7770036)) ∧ CK (SC cur Y τ) (EC Y τ) Y (rcC Y τ) (dC τ)
set_option maxRecDepth 16384 in
def HVC (Y G : Nat) (τ : tw_T) (v : Nat → Int) : Prop := ∀ t y z, t < G → y < Y → z ≤ Y → 0 < (gI τ 27 t y).toInt → gI τ 26 t z ≠ -1 → (gI τ 26 t z).toInt - (gI τ 26 t y).toInt ≤ v z - v y
set_option maxRecDepth 16384 in
theorem HVC.e {τ : tw_T} (h : HVC Y G τ v) (hA : MVA Y G τ) : ∀ y z t c, EC Y τ y z t c → c ≤ v z - v y := by
  intro y z t c ⟨e1, e2, e3, e4, e5, e6, e7⟩
  rcases hA y z e1 e2 e4 with ⟨h1, -⟩ | ⟨t', h1, h2, h3, h4, h5, h6, h7⟩
  · exact absurd h1 e5
  · have := h t' y z h1 e1 e2 h3 h5
    omega
set_option maxRecDepth 16384 in
theorem HC.of {τ1 τ : tw_T} (hA : MVA Y G τ1) (h : RSC cur Y τ1 7770036 τ) (hc : CK (SC cur Y τ1) (EC Y τ1) Y (rcC Y τ) (dC τ)) : HC cur Y G τ := by
  have k : ∀ f, f ∉ [18, 19] → gI τ f = gI τ1 f := h.1.2.2.2
  have e1 : SC cur Y τ = SC cur Y τ1 := by funext a b c; unfold SC; rw [k 26 (by decide)]
  have e2 : EC Y τ = EC Y τ1 := by funext a b c d; unfold EC; rw [k 17 (by decide), k 28 (by decide), k 29 (by decide)]
  refine ⟨?_, by rw [e1, e2]; exact h.2.1, h.2.2, by rw [e1, e2]; exact hc⟩
  unfold MVA
  rw [k 17 (by decide), k 26 (by decide), k 27 (by decide), k 28 (by decide), k 29 (by decide)]
  exact hA
set_option maxRecDepth 16384 in
theorem xX_findChains (hP : PLX Y G τ0) (hY : Y ≤ 6) (hG : G ≤ 30) (hB : GB Y G τ0) (hc : cur < G) (hv : HVC Y G τ0 v)
    (hQ : ∀ τ', FrL [18, 19, 28, 29] τ0 τ' → HC cur Y G τ' → Q τ') : F_X4_findChains τ0 0 (i32 cur) Q := by
  refine ⟨Y + 2, xX_fc2 hP hY hG hc (Y + 1) 0 τ0 (by omega) FrL.rf (fun z hz => by omega) (fun τ1 z1 a1 a2 => ?_)⟩
  have hB1 : GB Y G τ1 := by unfold GB; rw [a1.2.2.2 26 (by decide)]; exact hB
  have hP1 := hP.fr a1 (by decide)
  refine ⟨Y + 1, xX_fc56 hP1 hY hG hB1 Y 0 τ1 (by omega) FrL.rf (fun y z hy => by omega) (fun τ2 z2 b1 b2 => ?_)⟩
  have k26 : gI τ2 26 = gI τ0 26 := by rw [b1.2.2.2 26 (by decide), a1.2.2.2 26 (by decide)]
  have k27 : gI τ2 27 = gI τ0 27 := by rw [b1.2.2.2 27 (by decide), a1.2.2.2 27 (by decide)]
  have hB2 : GB Y G τ2 := by unfold GB; rw [k26]; exact hB
  have hP2 := hP1.fr b1 (by decide)
  have hv2 : HVC Y G τ2 v := by unfold HVC; rw [k26, k27]; exact hv
  have hI : ∀ z, z ≤ Y → gI τ2 19 0 z = -1 ∧ gI τ2 18 0 z = if gI τ2 26 cur z = -1 then -2147483648 else gI τ2 26 cur z := fun z hz => by
    rw [b1.2.2.2 18 (by decide), b1.2.2.2 19 (by decide), k26]; exact a2 z hz
  have hp : ∀ z, prC Y τ2 z = none := fun z => by
    unfold prC
    rw [if_neg (fun h => h.2 (hI z h.1).1)]
  have hBI : BI (Y + 1) (SC cur Y τ2) (EC Y τ2) (rcC Y τ2) (dC τ2) (prC Y τ2) (tgC cur Y τ2) := by
    refine ⟨fun z hz _ => ?_, fun z y h => ?_, fun z _ => ⟨0, hp z⟩, fun z t s hs => ?_, fun z hz => by have := hz.1; omega⟩
    · have h1 := (hI z hz.1).2
      by_cases e : gI τ2 26 cur z = -1
      · rw [if_pos e] at h1; exact absurd h1 hz.2
      · rw [if_neg e] at h1
        refine ⟨hz.1, ?_, e, by unfold dC; rw [h1]⟩
        unfold tgC; rw [hp]
    · rw [hp] at h; cases h
    · obtain ⟨a, b, c, d⟩ := hs
      have h1 := (hI z a).2
      rw [if_neg c] at h1
      have h2 := hB2 cur z hc a
      refine ⟨⟨a, fun hf => ?_⟩, by unfold dC; rw [h1]; omega⟩
      rw [← h1, hf, un_int] at h2
      omega
  have hR : RSC cur Y τ2 210000 τ2 := by
    refine ⟨FrL.rf, hBI, fun z hz => ?_⟩
    have h1 := (hI z hz).2
    by_cases e : gI τ2 26 cur z = -1
    · rw [if_pos e] at h1; exact Or.inl h1
    · rw [if_neg e] at h1
      have h2 := hB2 cur z hc hz
      refine Or.inr ?_
      unfold dC
      rw [h1]; omega
  refine ⟨Y + 1, xX_fc86 hP2 b2 hB2 (hv2.e b2) hY Y 0 τ2 (by omega) (hR.wide (by omega)) hBI.ck0 (fun τ' z' c1 c2 => ?_)⟩
  refine hQ τ' ?_ (HC.of b2 c1 c2)
  exact (a1.mono (by simp)).tr ((b1.mono (by simp)).tr (c1.1.mono (by simp)))
set_option maxRecDepth 16384 in
theorem xX_bestLast {τ : tw_T} {Q : Int32 → tw_T → Prop} (hT : PLX Y G τ) (hY : Y ≤ 6) (hQ : ∀ e, e ≤ Y → (e = Y ∨ 0 < (gI τ 17 0 e).toInt) → dC τ Y ≤ dC τ e → (∀ y, y < Y → 0 < (gI τ 17 0 y).toInt → dC τ y ≤ dC τ e) → Q (i32 e) τ) : F_X4_bestLast τ 0 Q := by
  have z0 : (0 : Int32).toInt = 0 := rfl
  have key : ∀ (dd i e : Nat), i + dd = Y → e ≤ Y → (e = Y ∨ 0 < (gI τ 17 0 e).toInt) → dC τ Y ≤ dC τ e → (∀ y, y < i → 0 < (gI τ 17 0 y).toInt → dC τ y ≤ dC τ e) →
      L_X4_bestLast_7 0 Q (fun (τ13 : tw_T) (z14 : Int32) (z15 : Int32) => Q z14 τ13) (dd + 1) τ (i32 e) (i32 i) := by
    intro dd
    induction dd with
    | zero =>
      intro i e hi h1 h2 h3 h4
      have e1 : i32 Y ≤ i32 i := (le_i32 (by omega) (by omega)).mpr (by omega)
      rw [L_X4_bestLast_7, hT.y]
      exact ⟨fun _ => hQ e h1 h2 h3 (fun y hy => h4 y (by omega)), fun h => absurd e1 h⟩
    | succ dd ih =>
      intro i e hi h1 h2 h3 h4
      have e1 : ¬ i32 Y ≤ i32 i := fun h => absurd ((le_i32 (by omega) (by omega)).mp h) (by omega)
      have vi := vpin (show i < 7 by omega) (by decide)
      have ni := i32_nat (show i < 2147483648 by omega)
      have ve := vpin (show e < 7 by omega) (by decide)
      have ne := i32_nat (show e < 2147483648 by omega)
      rw [L_X4_bestLast_7, hT.y]
      unfold J_X4_bestLast_41
      simp only [↓forall_eq, i32_succ]
      refine ⟨fun h => absurd h e1, fun _ => ⟨0, hT.o (by decide), vi, ?_⟩⟩
      rw [ni, ne, Int32.le_iff_toInt_le, z0]
      refine ⟨fun h9 => ih (i + 1) e (by omega) h1 h2 h3 (fun y hy hr => ?_), fun h9 => ⟨0, hT.o (by decide), vi, 0, hT.o (by decide), ve, ?_⟩⟩
      · by_cases e' : y = i
        · rw [e'] at hr; omega
        · exact h4 y (by omega) hr
      · rw [Int32.le_iff_toInt_le]
        refine ⟨fun h8 => ih (i + 1) e (by omega) h1 h2 h3 (fun y hy hr => ?_), fun h8 => ih (i + 1) i (by omega) (by omega) (Or.inr (by omega)) (by unfold dC at *; omega) (fun y hy hr => ?_)⟩
        · by_cases e' : y = i
          · rw [e']; exact h8
          · exact h4 y (by omega) hr
        · by_cases e' : y = i
          · rw [e']; exact Int.le_refl _
          · have := h4 y (by omega) hr; unfold dC at *; omega
  intro z hz
  rw [hz, hT.y]
  exact ⟨Y + 1, key Y 0 Y (by omega) (Nat.le_refl _) (Or.inl rfl) (Int.le_refl _) (fun y hy => by omega)⟩
end CH2
