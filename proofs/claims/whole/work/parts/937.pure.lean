/-! ===== the reference's plan, its rounds ===== -/
set_option maxRecDepth 16384 in
def LZ (τ : tw_T) (t : Nat) : Int := (gI τ 144 0 t).toInt
set_option maxRecDepth 16384 in
def RZ (τ : tw_T) (y : Nat) : Int := (gI τ 145 0 y).toInt
set_option maxRecDepth 16384 in
def AL (m : tw_T) (t y : Nat) : Prop := aB m t y = true
set_option maxRecDepth 16384 in
/-- a plan under way: v the years' prices, lam what the last bottle brought -/
def PI (m : tw_T) (nl Y : Nat) (R : Int) (b : Nat → Int) (τ : tw_T) (v : Nat → Int) (lam : Int) (s : Int) : Prop :=
  Fr6 m τ ∧ (∀ t y, t < nl → y < Y → 0 ≤ FZ Y τ t y) ∧ DOK Y nl (wI m) (AL m) (FZ Y τ) v ∧
  (∀ t, t < nl → 0 ≤ LZ τ t ∧ LZ τ t + sm (FZ Y τ t) Y = b t) ∧
  (∀ y, y < Y → 0 ≤ RZ τ y ∧ RZ τ y + sm (fun t => FZ Y τ t y) nl = R ∧ 0 ≤ v y ∧ (0 < RZ τ y → v y = 0)) ∧
  0 ≤ lam ∧ (∀ t y, t < nl → y < Y → 0 < FZ Y τ t y → lam ≤ wI m t y - v y) ∧
  (∀ t y, t < nl → y < Y → gI τ 144 0 t ≠ 0 → aB m t y = true → wI m t y - v y ≤ lam) ∧ s = vl Y nl (wI m) (FZ Y τ)
set_option maxRecDepth 16384 in
theorem PI.frS {m : tw_T} {nl Y : Nat} {R : Int} {b : Nat → Int} {τ τ' : tw_T} {v : Nat → Int} {lam s : Int} (h : PI m nl Y R b τ v lam s) (g : FrS τ τ') : PI m nl Y R b τ' v lam s := by
  have e1 : FZ Y τ' = FZ Y τ := FZ_same (g.2.2 143 (by decide) (by decide) (by decide))
  have e2 : LZ τ' = LZ τ := by funext t; unfold LZ; rw [g.2.2 144 (by decide) (by decide) (by decide)]
  have e3 : RZ τ' = RZ τ := by funext t; unfold RZ; rw [g.2.2 145 (by decide) (by decide) (by decide)]
  have e4 : gI τ' 144 = gI τ 144 := g.2.2 144 (by decide) (by decide) (by decide)
  obtain ⟨h1, h2⟩ := h
  refine ⟨g.six h1, ?_⟩
  rw [e1, e2, e3, e4]
  exact h2
set_option maxRecDepth 16384 in
theorem PI.hv {m : tw_T} {nl Y : Nat} {R : Int} {b : Nat → Int} {τ : tw_T} {v : Nat → Int} {lam s : Int} (h : PI m nl Y R b τ v lam s) : ∀ y z t c, EM m nl Y τ y z t c → c ≤ v z - v y := by
  intro y z t c ⟨e1, e2, e3, e4, e5, e6, e7⟩
  have h0 := h.2.1 t y e4 e1
  have hn : FZ Y τ t y ≠ 0 := fun h9 => e5 (by
    unfold FZ at h9; rw [if_pos e1] at h9
    exact i32_ext h9)
  obtain ⟨a1, a2⟩ := h.2.2.1 t y e4 e1 (by omega)
  have := a2 z e2 e6
  omega
set_option maxRecDepth 16384 in
theorem vl_le {N G : Nat} {W f : Nat → Nat → Int} {c : Int} {b : Nat → Int} (hW : ∀ t y, t < G → y < N → 0 ≤ W t y ∧ W t y ≤ c) (hf : ∀ t y, t < G → y < N → 0 ≤ f t y) (hb : ∀ t, t < G → sm (f t) N ≤ b t) (hc : 0 ≤ c) : 0 ≤ vl N G W f ∧ vl N G W f ≤ sm b G * c := by
  constructor
  · exact sm_nn G (fun t ht => sm_nn N (fun y hy => Int.mul_nonneg (hf t y ht hy) (hW t y ht hy).1))
  · unfold vl
    rw [← sm_mul']
    refine sm_le G (fun t ht => ?_)
    have h1 : sm (fun y => f t y * W t y) N ≤ sm (fun y => f t y * c) N := sm_le N (fun y hy => Int.mul_le_mul_of_nonneg_left (hW t y ht hy).2 (hf t y ht hy))
    rw [sm_mul'] at h1
    exact Int.le_trans h1 (mul_le_r (hb t ht) hc)
set_option maxRecDepth 16384 in
/-- the search has ended at τ -/
def HB (m : tw_T) (nl Y : Nat) (τ : tw_T) : Prop := BI Y (SM m nl Y τ) (EM m nl Y τ) (rcM Y τ) (dM τ) (prM Y τ) (tgR τ) ∧ BndM Y 7770000 τ ∧ CK (SM m nl Y τ) (EM m nl Y τ) Y (rcM Y τ) (dM τ)
set_option maxRecDepth 16384 in
theorem HB.of {m : tw_T} {nl Y : Nat} {τ0 τ : tw_T} (h : RS m nl Y τ0 7770000 τ) (hc : CK (SM m nl Y τ0) (EM m nl Y τ0) Y (rcM Y τ) (dM τ)) : HB m nl Y τ := by
  have e1 : SM m nl Y τ = SM m nl Y τ0 := by funext a b c; exact propext h.1.sm
  have e2 : EM m nl Y τ = EM m nl Y τ0 := by funext a b c d; exact propext h.1.em
  unfold HB
  rw [e1, e2]
  exact ⟨h.2.1, h.2.2, hc⟩
section PL2
variable {n nk nl no nt nd na ns Y : Nat} {x m : tw_T} {Q : Int32 → tw_T → Prop} {R : Int} {b : Nat → Int}
set_option maxRecDepth 16384 in
theorem PI.cert {τ : tw_T} {v : Nat → Int} {lam s : Int} (hY : Y ≤ 6) (h : PI m nl Y R b τ v lam s) (hH : HB m nl Y τ) (hB : BestR τ Y (-1)) : ∃ F v', Cert (wI m) (aB m) Y R nl (fun t => t) b F v' s := by
  have hhv := h.hv
  obtain ⟨p1, p2, p3, p4, p5, p6, p7, p8, p9⟩ := h
  obtain ⟨b1, b2, b3⟩ := hH
  have hfix := b1.fix hhv b3 (by omega) (fun y z t c hE => hE.2.1)
  have hlam := b1.le_lam (v := v) (lam := lam) hhv (fun z t s hs => by
    obtain ⟨c1, c2, c3, c4, c5⟩ := hs
    have := p8 t z c2 c1 c3 c4
    omega)
  obtain ⟨v', hv'⟩ := dual_up v (rcM Y τ) (dM τ) 0
  have hD := p3.up hv' (ex := fun _ => True) (fun _ _ _ _ => trivial) (fun t y z ht hy hz hf ha hzy _ hr => by
    refine hfix y z t _ ⟨hy, hz, hzy, ht, ?_, ha, rfl⟩ hr
    intro h9
    unfold FZ at hf
    rw [if_pos hy] at hf
    unfold flM at h9
    rw [h9] at hf
    exact absurd hf (by decide))
  have hbest : ∀ y, y < Y → 0 < RZ τ y → dM τ y ≤ 0 := by
    rcases hB with ⟨-, h2⟩ | ⟨e, h1, h2, -⟩
    · exact h2
    · intro y hy; exact absurd h2.symm (not_m1 (by omega))
  have hY0 : ∀ t, FZ Y τ t Y = 0 := fun t => if_neg (by omega)
  refine ⟨FZ Y τ, v', fun t y ht hy => ?_, fun t y ht hy hf => (p3 t y ht hy hf).1, fun t ht => ?_, fun y hy => ?_, fun y hy => ?_, fun t y ht hy hf => ⟨?_, (hD t y ht hy hf).2⟩, fun t ht ho z hz ha => ?_, p9⟩
  · by_cases e : y < Y
    · exact p2 t y ht e
    · have : y = Y := by omega
      rw [this, hY0]; exact Int.le_refl _
  · simp only [sm]; rw [hY0]; have := p4 t ht; omega
  · obtain ⟨q1, q2, q3, q4⟩ := p5 y hy
    refine ⟨by omega, fun hlt => ?_⟩
    have hr : 0 < RZ τ y := by omega
    have := hbest y hy hr
    have := q4 hr
    rcases (hv' y).2.2 with e | ⟨e1, e2, e3⟩ <;> omega
  · have := (p5 y hy).2.2.1
    have := (hv' y).1
    omega
  · have := p7 t y ht hy hf
    rcases (hv' y).2.2 with e | ⟨e1, e2, e3⟩
    · simp only; omega
    · have := hlam y e1
      simp only; omega
  · have hne : gI τ 144 0 t ≠ 0 := fun h9 => by
      have h0 : LZ τ t = 0 := by unfold LZ; rw [h9]; rfl
      have := p4 t ht
      rcases ho with ho | ho
      · rw [hY0] at ho; omega
      · simp only [sm] at ho; rw [hY0] at ho; omega
    obtain ⟨k1, k2⟩ := b1.2.2.2.1 z t _ ⟨hz, ht, hne, ha, rfl⟩
    have := (hv' z).2.1 k1
    simp only; omega
set_option maxRecDepth 16384 in
set_option maxHeartbeats 2000000 in
theorem eM_plan118 (hA : RelA n nk nl no nt nd na ns x m) (hY : Y ≤ 6) (hb : ∀ t, t < nl → b t ≤ 360) (hbs : sm b nl ≤ 360) (hR : R ≤ 100) {EX : tw_T → Int32 → Int32 → Prop} (hE : ∀ τ s r, Fr6 m τ → (∃ F v, Cert (wI m) (aB m) Y R nl (fun t => t) b F v s.toInt) → EX τ s r) :
    ∀ (nn : Nat) (τ : tw_T) (s r : Int32) (v : Nat → Int) (lam : Int), sm (LZ τ) nl ≤ nn → PI m nl Y R b τ v lam s.toInt → HB m nl Y τ → BestR τ Y r → L_X10_plan_118 0 (i32 Y) Q EX (nn + 1) τ s r := by
  have hnl := hA.2.2.2.1.1
  intro nn
  induction nn with
  | zero =>
    intro τ s r v lam hn hP hH hB
    rw [L_X10_plan_118]
    refine ⟨fun h => ?_, fun h => ?_⟩
    · rw [h] at hB; exact hE τ s r hP.1 (hP.cert hY hH hB)
    · exfalso
      rcases hB with ⟨h1, -⟩ | ⟨e, h1, h2, h3, h4, h5⟩
      · exact h h1
      · have hr : rcM Y τ e := ⟨h1, fun h9 => by unfold dM at h4; rw [h9] at h4; exact absurd h4 (by decide)⟩
        obtain ⟨k, hk⟩ := hH.1.2.2.1 e hr
        have hroot : ∀ k z, rcM Y τ z → Dep (prM Y τ) k z → ∃ t, t < nl ∧ gI τ 144 0 t ≠ 0 := by
          intro k
          induction k with
          | zero => intro z hz hd; have := hH.1.1 z hz hd; exact ⟨_, this.2.1, this.2.2.1⟩
          | succ k ih => intro z hz hd; obtain ⟨y, g1, g2⟩ := hd; exact ih y (hH.1.2.1 z y g1).2.1 g2
        obtain ⟨t, t1, t2⟩ := hroot k e hr hk
        have := sm_ge1 (g := LZ τ) nl t t1 (fun j hj => (hP.2.2.2.1 j hj).1)
        have h0 := (hP.2.2.2.1 t t1).1
        have : LZ τ t ≠ 0 := fun h9 => t2 (i32_ext h9)
        omega
  | succ nn ih =>
    intro τ s r v lam hn hP hH hB
    rw [L_X10_plan_118]
    refine ⟨fun h => ?_, fun h => ?_⟩
    · rw [h] at hB; exact hE τ s r hP.1 (hP.cert hY hH hB)
    obtain ⟨e, h1, h2, h3, h4, h5⟩ := hB.resolve_left (fun h9 => h h9.1)
    subst h2
    have hhv := hP.hv
    obtain ⟨p1, p2, p3, p4, p5, p6, p7, p8, p9⟩ := hP
    obtain ⟨b1, b2, b3⟩ := hH
    have hfix := b1.fix hhv b3 (by omega) (fun y z t c hE => hE.2.1)
    have hlam := b1.le_lam (v := v) (lam := lam) hhv (fun z t s hs => by
      obtain ⟨c1, c2, c3, c4, c5⟩ := hs
      have := p8 t z c2 c1 c3 c4
      omega)
    have hr : rcM Y τ e := ⟨h1, fun h9 => by unfold dM at h4; rw [h9] at h4; exact absurd h4 (by decide)⟩
    obtain ⟨β, hβ⟩ : ∃ β, dM τ e = β := ⟨_, rfl⟩
    obtain ⟨v', hv'⟩ := dual_up v (rcM Y τ) (dM τ) β
    have hve : v e = 0 := (p5 e h1).2.2.2 h3
    have hβl : β ≤ lam := by have := hlam e hr; omega
    have hne : ∀ t y, y < Y → 0 < FZ Y τ t y → flM τ t y ≠ 0 := fun t y hy hf h9 => by
      unfold FZ at hf
      rw [if_pos hy] at hf
      unfold flM at h9
      rw [h9] at hf
      exact absurd hf (by decide)
    have hF0 : ∀ t y, t < nl → y < Y → flM τ t y ≠ 0 → 1 ≤ FZ Y τ t y := fun t y ht hy hf => by
      have := p2 t y ht hy
      have : FZ Y τ t y ≠ 0 := fun h9 => hf (by unfold FZ at h9; rw [if_pos hy] at h9; exact i32_ext h9)
      omega
    have hD := p3.up hv' (ex := fun _ => True) (fun _ _ _ _ => trivial) (fun t y z ht hy hz hf ha hzy _ hr => hfix y z t _ ⟨hy, hz, hzy, ht, hne t y hy hf, ha, rfl⟩ hr)
    have hP0 : ∀ t y, t < nl → y < Y → 0 < FZ Y τ t y → Pr m Y v' β t y := fun t y ht hy hf => by
      refine ⟨(hD t y ht hy hf).1, (hD t y ht hy hf).2, ?_⟩
      have := p7 t y ht hy hf
      rcases (hv' y).2.2 with e' | ⟨e1, e2, e3⟩
      · omega
      · have := hlam y e1
        omega
    have hsum : ∀ t, t < nl → sm (FZ Y τ t) Y ≤ 360 := fun t ht => by have := p4 t ht; have := hb t ht; omega
    obtain ⟨k, hk⟩ := b1.2.2.1 e hr
    have ve := vpin (show e < 6 by omega) (by decide)
    have ne := i32_nat (show e < 2147483648 by omega)
    have dB := b2.ne (by omega) hr
    have hS : s.toInt ≤ 75600000 ∧ 0 ≤ s.toInt := by
      rw [p9]
      have := vl_le (N := Y) (G := nl) (W := wI m) (f := FZ Y τ) (c := 210000) (b := b) (fun t y ht hy => hA.wI_rng ht (by omega)) p2 (fun t ht => by have := p4 t ht; omega) (by omega)
      omega
    have hs' : (s + gI τ 146 0 e).toInt = s.toInt + β := by
      have : (gI τ 146 0 e).toInt = β := hβ
      rw [i32_add] <;> omega
    refine ⟨0, r6 p1.1 (by decide), ve, fun z24 h24 => ⟨0, r6 p1.1 (by decide), ve, ve, fun τ28 h28 => ?_⟩⟩
    rw [ne] at h24 h28
    have k45 : ∀ f, f ≠ 145 → gI τ28 f = gI τ f := fun f hf => by rw [h28, hI_n hf]
    have kr : rcM Y τ28 = rcM Y τ := by funext a; unfold rcM; rw [k45 146 (by decide)]
    have kd : dM τ28 = dM τ := by funext a; unfold dM; rw [k45 146 (by decide)]
    have kp : prM Y τ28 = prM Y τ := by funext a; unfold prM; rw [k45 147 (by decide)]
    have kt : tgR τ28 = tgR τ := by funext a; unfold tgR; rw [k45 148 (by decide)]
    have kF : FZ Y τ28 = FZ Y τ := FZ_same (k45 143 (by decide))
    have kM : gR τ28 = rM := by rw [h28]; exact p1.1
    refine ⟨k + 1, eM_chain (m := m) (nl := nl) (Y := Y) (τ0 := τ) (τs := τ28) (v := v) (v' := v') (β := β) (F0 := FZ Y τ) kM hnl hY (by rw [kr, kd, kp, kt]; exact b1) (by rw [kr, kd]; exact hfix) hhv (by rw [kr, kd]; exact hv') hF0 hP0 hsum (e := e) k e τ28 (by rw [kp]; exact hk) (by rw [kr]; exact hr) (by rw [kd]; omega) ⟨rfl, rfl, fun _ _ => rfl⟩ (by rw [kd, kp, kF]; exact WI.rf p2 hP0 hk) ?_⟩
    rw [kr, kd, kp]
    intro τ30 z g1 g2 g3 g4 g5
    have hz := g2.1
    have vz := vpin (show z < 6 by omega) (by decide)
    have nz := i32_nat (show z < 2147483648 by omega)
    have hroot := b1.1 z g2 g3
    obtain ⟨t, ht⟩ : ∃ t, tgR τ z = t := ⟨_, rfl⟩
    rw [ht] at hroot
    obtain ⟨-, f2, f3, f4, f5⟩ := hroot
    have k48 : gI τ30 148 = gI τ 148 := by rw [g1.2.2 148 (by decide), k45 148 (by decide)]
    have k44 : gI τ30 144 = gI τ 144 := by rw [g1.2.2 144 (by decide), k45 144 (by decide)]
    have k145 : gI τ30 145 = gI τ28 145 := g1.2.2 145 (by decide)
    have hc : gI τ30 148 0 z = i32 t := by rw [k48]; exact uN_eq ht
    have n6 := i32_nat (show 6 * t + z < 2147483648 by omega)
    have v6 := vpin (show 6 * t + z < 360 by omega) (by decide)
    have nt' := i32_nat (show t < 2147483648 by omega)
    have vt := vpin (show t < 60 by omega) (by decide)
    have pz := price_at hv' g2 g4
    have hPz : Pr m Y v' β t z := ⟨f4, fun u hu ha => by
      obtain ⟨q1, q2⟩ := b1.2.2.2.1 u t _ ⟨hu, f2, f3, ha, rfl⟩
      have := (hv' u).2.1 q1
      omega, by omega⟩
    obtain ⟨w1, w2, w3, w4, w5⟩ := g5.fin f2 hz hPz f5 (by omega)
    have g30 : gR τ30 = rM := g1.1.trans kM
    refine ⟨0, r6 g30 (by decide), 0, r6 g30 (by decide), vz, ?_⟩
    rw [nz, hc, ix6, n6]
    refine ⟨v6, v6, fun τ37 h37 => ?_⟩
    have k37 : ∀ f, f ≠ 143 → gI τ37 f = gI τ30 f := fun f hf => by rw [h37, hI_n hf]
    have g37 : gR τ37 = rM := by rw [h37]; exact g30
    have hc7 : gI τ37 148 0 z = i32 t := by rw [k37 148 (by decide)]; exact hc
    refine ⟨0, r6 g37 (by decide), 0, r6 g37 (by decide), vz, ?_⟩
    rw [hc7, nt']
    refine ⟨vt, vt, fun τ43 h43 => ?_⟩
    have k43 : ∀ f, f ≠ 144 → gI τ43 f = gI τ37 f := fun f hf => by rw [h43, hI_n hf]
    have hrow : 0 ≤ FZ Y τ30 t z ∧ FZ Y τ30 t z ≤ 360 := by
      have h1 := g5.1
      have h3 := g5.2.2.1 t f2
      have := sm_ge1 (g := FZ Y τ30 t) Y z hz (fun j hj => h1 t j f2 hj)
      have := hsum t f2
      exact ⟨h1 t z f2 hz, by omega⟩
    have ez : FZ Y τ30 t z = (gI τ30 143 0 (6 * t + z)).toInt := if_pos hz
    have az : (gI τ30 143 0 (6 * t + z) + 1).toInt = FZ Y τ30 t z + 1 := by rw [ez] at hrow ⊢; exact i32_add (by simp only [Int32.reduceToInt]; omega) (by simp only [Int32.reduceToInt]; omega)
    have kFn : FZ Y τ43 = upd2 (FZ Y τ30) t z (FZ Y τ30 t z + 1) := by
      rw [FZ_same (k43 143 (by decide)), h37, FZ_upd hY hz, az]
    rw [← kFn] at w1 w2 w3 w4 w5
    have h44 : ∀ i, gI τ37 144 0 i = gI τ 144 0 i := fun i => by rw [k37 144 (by decide), k44]
    have Lt := (p4 t f2).1
    have Lb : LZ τ t ≤ 360 := by
      have := (p4 t f2).2
      have := hb t f2
      have := sm_nn (g := FZ Y τ t) Y (fun j hj => p2 t j f2 hj)
      omega
    have Ln : LZ τ t ≠ 0 := fun h9 => f3 (i32_ext h9)
    have L' : ∀ i, LZ τ43 i = LZ τ i - (if i = t then 1 else 0) := fun i => by
      unfold LZ at Lt Lb ⊢
      rw [h43, gI_sI]
      by_cases e' : i = t
      · rw [if_pos ⟨rfl, rfl, e'⟩, if_pos e', h44, e', i32_sub] <;> simp only [Int32.reduceToInt] <;> omega
      · rw [if_neg (fun h => e' h.2.2), if_neg e', h44]; omega
    have R' : ∀ i, i < Y → RZ τ43 i = RZ τ i - (if i = e then 1 else 0) := fun i hi => by
      have q := p5 i hi
      have q0 := sm_nn (g := fun t => FZ Y τ t i) nl (fun j hj => p2 j i hj hi)
      unfold RZ at q ⊢
      rw [k43 145 (by decide), k37 145 (by decide), k145, h28, gI_sI]
      by_cases e' : i = e
      · rw [if_pos ⟨rfl, rfl, e'⟩, if_pos e', ← e', i32_sub] <;> simp only [Int32.reduceToInt] <;> omega
      · rw [if_neg (fun h => e' h.2.2), if_neg e']; omega
    have hF43 : Fr6 m τ43 := by
      refine ⟨by rw [h43]; exact g37, ?_, fun f hf => ?_⟩
      · rw [h43, h37]
        exact g1.2.1.trans (by rw [h28]; exact p1.2.1)
      · rw [k43 f (by omega), k37 f (by omega), g1.2.2 f (by omega), k45 f (by omega)]
        exact p1.2.2 f hf
    have hPI : PI m nl Y R b τ43 v' β z24.toInt := by
      refine ⟨hF43, w1, fun t' y' a1 a2 a3 => ⟨(w2 t' y' a1 a2 a3).1, (w2 t' y' a1 a2 a3).2.1⟩, fun t' a1 => ?_, fun y' a1 => ?_, by omega, fun t' y' a1 a2 a3 => (w2 t' y' a1 a2 a3).2.2, fun t' y' a1 a2 a3 a4 => ?_, ?_⟩
      · rw [w3 t' a1, L' t']
        have := p4 t' a1
        by_cases e' : t' = t
        · rw [if_pos e']
          rw [e'] at this ⊢
          omega
        · rw [if_neg e']; omega
      · rw [w4 y' a1, R' y' a1]
        obtain ⟨q1, q2, q3, q4⟩ := p5 y' a1
        have := (hv' y').1
        refine ⟨?_, ?_, by omega, fun hp => ?_⟩
        · by_cases e' : y' = e
          · rw [if_pos e', e']; unfold RZ; omega
          · rw [if_neg e']; omega
        · by_cases e' : y' = e
          · rw [if_pos e']; omega
          · rw [if_neg e']; omega
        · have hp' : 0 < RZ τ y' := by
            by_cases e' : y' = e
            · rw [if_pos e'] at hp; omega
            · rw [if_neg e'] at hp; omega
          have := q4 hp'
          have := h5 y' a1 hp'
          rcases (hv' y').2.2 with e' | ⟨e1, e2, e3⟩ <;> omega
      · have hn0 : gI τ 144 0 t' ≠ 0 := fun h9 => by
          by_cases e' : t' = t
          · rw [e'] at h9; exact f3 h9
          · apply a3
            rw [h43, gI_sI, if_neg (fun h => e' h.2.2), h44]; exact h9
        obtain ⟨q1, q2⟩ := b1.2.2.2.1 y' t' _ ⟨a2, a1, hn0, a4, rfl⟩
        have := (hv' y').2.1 q1
        omega
      · rw [h24, hs', w5, p9, hβ]; omega
    have hLs : sm (LZ τ43) nl ≤ nn := by
      have := sm_one (g := LZ τ) (h := LZ τ43) nl f2 (fun i hi => by rw [L', if_neg hi]; omega)
      rw [L' t, if_pos rfl] at this
      omega
    refine eM_bestWay hA hF43 (v := v') hPI.hv hY (fun r τ' c1 c2 c3 => ?_)
    have e44 : LZ τ' = LZ τ43 := by funext i; unfold LZ; rw [c1.1.2.2 144 (by decide) (by decide) (by decide)]
    exact ih τ' z24 r v' β (by rw [e44]; exact hLs) (hPI.frS c1.1) (HB.of c1 c2) c3
end PL2
