section PB2
variable {n nk nl no nt nd na ns Y G : Nat} {x m τ : tw_T} {R base : Int} {mg v : Nat → Int} {lg : Nat → Nat}
set_option maxRecDepth 16384 in
theorem RelA.gG_rng (hA : RelA n nk nl no nt nd na ns x m) {l y : Nat} (hl : l < nl) (hy : y < 7) : -1 ≤ (gG m l y).toInt ∧ (gG m l y).toInt ≤ 210000 := by
  have h := hA.wI_rng hl hy
  unfold gG
  unfold wI at h
  by_cases e : aB m l y = true
  · rw [if_pos e]; omega
  · rw [if_neg e]; decide
set_option maxRecDepth 16384 in
theorem RelA.gG_al (hA : RelA n nk nl no nt nd na ns x m) {l y : Nat} (hl : l < nl) (hy : y < 7) : (gG m l y ≠ -1 ↔ aB m l y = true) ∧ (aB m l y = true → (gG m l y).toInt = wI m l y) := by
  have h := hA.wI_rng hl hy
  unfold gG
  unfold wI at h ⊢
  by_cases e : aB m l y = true
  · rw [if_pos e]
    refine ⟨⟨fun _ => e, fun _ h9 => ?_⟩, fun _ => rfl⟩
    rw [h9] at h
    exact absurd h.1 (by decide)
  · rw [if_neg e]
    exact ⟨⟨fun h => absurd rfl h, fun h => absurd h e⟩, fun h => absurd h e⟩
set_option maxRecDepth 16384 in
set_option maxHeartbeats 1000000 in
theorem xX_gainOf (hA : RelA n nk nl no nt nd na ns τ m) (hY : Y ≤ 6) (hR : R ≤ 100) (hG : G < 30) (hC : CI Y G R τ v) (hL : LO Y G mg τ v) {l : Nat} (hl : l < nl) {B : Int32} (hB : 0 ≤ B.toInt ∧ B.toInt ≤ 12) (hms : sm mg G + B.toInt ≤ 360) (hGR : ∀ t y, t < G → y < Y → gI τ 26 t y = gG m (lg t) y) (h7 : gI τ 8 0 7 = yr (gI m 0 0 3)) (hb : base = vl (Y + 1) G (Wc τ) (FP τ)) (hb0 : 0 ≤ base) {Q : Int32 → tw_T → Prop}
    (hQ : ∀ more τ' v', FrL L8 τ τ' → CI Y (G + 1) R τ' v' → LO Y (G + 1) (updZ mg G B.toInt) τ' v' → (∀ t y, t < G + 1 → y < Y → gI τ' 26 t y = gG m (updN lg G l t) y) → gI τ' 8 0 7 = yr (gI m 0 0 3) → base + more.toInt = vl (Y + 1) (G + 1) (Wc τ') (FP τ') → 0 ≤ more.toInt → Q more τ') : F_X4_gainOf τ 0 l B Q := by
  have z0 : (0 : Int32).toInt = 0 := rfl
  have e30 : gI τ 8 0 8 < (30 : Int32) := by
    rw [hC.1.g]; exact (show i32 G < i32 30 ↔ _ from lt_i32 (by omega) (by omega)).mpr (by omega)
  refine ⟨fun _ z18 h18 => ?_, fun h => absurd e30 h⟩
  rw [hC.1.g] at h18
  subst h18
  refine xX_addGroup hA hC.1 hY hG hl h7 (fun τ1 a1 a2 a3 a4 a5 a6 a7 => ⟨13, ?_⟩)
  obtain ⟨c1, c2, c3, c4, c5, c6, c7, c8⟩ := hC
  have kr : ∀ t y, t < G → gI τ1 26 t y = gI τ 26 t y ∧ gI τ1 27 t y = gI τ 27 t y := fun t y ht => ⟨by rw [a2 26 t (Or.inl rfl) (by omega)], by rw [a2 27 t (Or.inr rfl) (by omega)]⟩
  have kF : ∀ t y, t < G → FP τ1 t y = FP τ t y := fun t y ht => by unfold FP; rw [(kr t y ht).2]
  have kW : ∀ t y, t < G → Wc τ1 t y = Wc τ t y := fun t y ht => by unfold Wc; rw [(kr t y ht).1]
  have kG : ∀ y, y < Y + 1 → FP τ1 G y = 0 := fun y hy => by unfold FP; rw [a5 y (by omega)]; rfl
  have kR : RM τ1 = RM τ := by funext y; unfold RM; rw [a1.2.2.2 17 (by decide)]
  have col : ∀ y, y < Y + 1 → sm (fun t => FP τ1 t y) (G + 1) = sm (fun t => FP τ t y) G := fun y hy => by
    simp only [sm]
    rw [kG y hy, sm_congr (h := fun t => FP τ t y) G (fun t ht => kF t y ht)]; omega
  have row : ∀ t, t < G → sm (FP τ1 t) (Y + 1) = sm (FP τ t) (Y + 1) := fun t ht => sm_congr (Y + 1) (fun y _ => kF t y ht)
  have rowG : sm (FP τ1 G) (Y + 1) = 0 := by rw [sm_congr (h := fun _ => 0) (Y + 1) kG, sm_zero]
  have hvl : vl (Y + 1) (G + 1) (Wc τ1) (FP τ1) = base := by
    rw [hb]
    unfold vl
    rw [sm, sm_congr (h := fun _ => 0) (Y + 1) (fun y hy => by rw [kG y hy, Int.zero_mul]), sm_zero, Int.add_zero]
    exact sm_congr G (fun t ht => sm_congr (Y + 1) (fun y _ => by rw [kF t y ht, kW t y ht]))
  have hC1 : CI Y (G + 1) R τ1 v := by
    refine ⟨a6, fun t z ht hz => ?_, fun t ht => ?_, fun t y ht hy => ?_, fun t y ht hy hf => ?_, fun y hy => ?_, ?_, c8⟩
    · by_cases e : t = G
      · rw [e]
        by_cases e2 : z = Y
        · rw [e2, a4, z0]; omega
        · rw [a3 z (by omega)]; exact hA.gG_rng hl (by omega)
      · rw [(kr t z (by omega)).1]; exact c2 t z (by omega) hz
    · by_cases e : t = G
      · rw [e]; exact a4
      · rw [(kr t Y (by omega)).1]; exact c3 t (by omega)
    · by_cases e : t = G
      · rw [e, kG y hy]; exact Int.le_refl _
      · rw [kF t y (by omega)]; exact c4 t y (by omega) hy
    · by_cases e : t = G
      · rw [e, kG y hy] at hf; omega
      · rw [kF t y (by omega)] at hf
        obtain ⟨q1, q2⟩ := c5 t y (by omega) hy hf
        refine ⟨by unfold ALc; rw [(kr t y (by omega)).1]; exact q1, fun z hz hz2 => ?_⟩
        rw [kW t z (by omega), kW t y (by omega)]
        unfold ALc at hz2
        rw [(kr t z (by omega)).1] at hz2
        exact q2 z hz hz2
    · rw [col y (by omega), kR]; exact c6 y hy
    · rw [col Y (by omega), kR]; exact c7
  have mu : ∀ t, t < G → updZ mg G B.toInt t = mg t := fun t ht => by unfold updZ; rw [if_neg (by omega)]
  have mG : updZ mg G B.toInt G = B.toInt := by unfold updZ; rw [if_pos rfl]
  have hL1 : LO Y G (updZ mg G B.toInt) τ1 v := fun t ht => by
    obtain ⟨q1, q2⟩ := hL t ht
    rw [row t ht, mu t ht]
    refine ⟨q1, fun h z hz hg => ?_⟩
    rw [(kr t z ht).1] at hg
    rw [kW t z ht]
    exact q2 h z hz hg
  refine xX_gain30 hY (by omega) hB mG (by rw [sm, mG, sm_congr G mu]; exact hms) hb0 hR (τ0 := τ1) (R := R) (fun τ' more _ _ v' d1 d2 d3 d4 d5 => ?_) 12 τ1 0 B 0 v (by omega) hB.1 (by omega) FrL.rf hC1 hL1 (by rw [rowG, mG]; omega) (by rw [hvl, z0]; omega) (by rw [z0]; omega)
  have k26 : gI τ' 26 = gI τ1 26 := d1.2.2.2 26 (by decide)
  refine hQ more τ' v' ((a1.mono (by simp [L8])).tr (d1.mono (by simp [L8]))) d2 d3 (fun t y ht hy => ?_) (by rw [d1.2.2.2 8 (by decide)]; exact a7) d4 d5
  rw [k26]
  unfold updN
  by_cases e : t = G
  · rw [if_pos e, e]; exact a3 y hy
  · rw [if_neg e, (kr t y (by omega)).1]; exact hGR t y (by omega) hy
set_option maxRecDepth 16384 in
/-- the plan at its end is the most -/
theorem CI.cert (hA : RelA n nk nl no nt nd na ns x m) (hY : Y ≤ 6) (hC : CI Y G R τ v) (hL : LO Y G mg τ v) (hlg : ∀ t, t < G → lg t < nl) (hGR : ∀ t y, t < G → y < Y → gI τ 26 t y = gG m (lg t) y) {s : Int} (hs : s = vl (Y + 1) G (Wc τ) (FP τ)) : Cert (wI m) (aB m) Y R G lg mg (FP τ) v s := by
  obtain ⟨c1, c2, c3, c4, c5, c6, c7, c8⟩ := hC
  have al : ∀ t y, t < G → y < Y → (ALc τ t y ↔ aB m (lg t) y = true) := fun t y ht hy => by
    unfold ALc; rw [hGR t y ht hy]; exact (hA.gG_al (hlg t ht) (by omega)).1
  have wv : ∀ t y, t < G → y < Y → aB m (lg t) y = true → Wc τ t y = wI m (lg t) y := fun t y ht hy h => by
    unfold Wc; rw [hGR t y ht hy]; exact (hA.gG_al (hlg t ht) (by omega)).2 h
  have wY : ∀ t, t < G → Wc τ t Y = 0 ∧ ALc τ t Y := fun t ht => by
    unfold Wc ALc; rw [c3 t ht]; exact ⟨rfl, by decide⟩
  refine ⟨fun t y ht hy => c4 t y ht (by omega), fun t y ht hy hf => (al t y ht hy).mp (c5 t y ht (by omega) hf).1, fun t ht => (hL t ht).1, fun y hy => ?_, fun y hy => (c6 y hy).2.2.1, fun t y ht hy hf => ?_, fun t ht ho z hz ha => ?_, ?_⟩
  · obtain ⟨q1, q2, q3, q4⟩ := c6 y hy
    exact ⟨by omega, fun h => q4 (by omega)⟩
  · obtain ⟨q1, q2⟩ := c5 t y ht (by omega) hf
    have hay := (al t y ht hy).mp q1
    have hw := wv t y ht hy hay
    have h1 := q2 Y (by omega) (wY t ht).2
    rw [(wY t ht).1, c8, hw] at h1
    refine ⟨by omega, fun z hz haz => ?_⟩
    have h2 := q2 z (by omega) ((al t z ht hz).mpr haz)
    rw [wv t z ht hz haz, hw] at h2
    exact h2
  · have haz := (al t z ht hz).mpr ha
    rw [← wv t z ht hz ha]
    rcases ho with ho | ho
    · have h1 := (c5 t Y ht (by omega) ho).2 z (by omega) haz
      rw [(wY t ht).1, c8] at h1
      exact h1
    · exact (hL t ht).2 ho z hz haz
  · rw [hs]
    unfold vl
    refine sm_congr G (fun t ht => ?_)
    rw [sm, (wY t ht).1, Int.mul_zero, Int.add_zero]
    refine sm_congr Y (fun y hy => ?_)
    by_cases e : FP τ t y = 0
    · rw [e, Int.zero_mul, Int.zero_mul]
    · have := c4 t y ht (by omega)
      rw [wv t y ht hy ((al t y ht hy).mp (c5 t y ht (by omega) (by omega)).1)]
end PB2
