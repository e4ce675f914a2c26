/-! ===== the class's groups: how much more can be had ===== -/
set_option maxRecDepth 16384 in
def RM (τ : tw_T) (y : Nat) : Int := (gI τ 17 0 y).toInt
set_option maxRecDepth 16384 in
def ALc (τ : tw_T) (t y : Nat) : Prop := gI τ 26 t y ≠ -1
set_option maxRecDepth 16384 in
/-- a plan of the first G groups, v the years' prices -/
def CI (Y G : Nat) (R : Int) (τ : tw_T) (v : Nat → Int) : Prop :=
  PLX Y G τ ∧ GB Y G τ ∧ (∀ t, t < G → gI τ 26 t Y = 0) ∧ (∀ t y, t < G → y < Y + 1 → 0 ≤ FP τ t y) ∧ DOK (Y + 1) G (Wc τ) (ALc τ) (FP τ) v ∧
  (∀ y, y < Y → 0 ≤ RM τ y ∧ RM τ y + sm (fun t => FP τ t y) G = R ∧ 0 ≤ v y ∧ (0 < RM τ y → v y = 0)) ∧ RM τ Y + sm (fun t => FP τ t Y) G = 360 ∧ v Y = 0
set_option maxRecDepth 16384 in
/-- a group's bottles that found no year would bring nothing -/
def LO (Y G : Nat) (mg : Nat → Int) (τ : tw_T) (v : Nat → Int) : Prop := ∀ t, t < G → sm (FP τ t) (Y + 1) ≤ mg t ∧ (sm (FP τ t) (Y + 1) < mg t → ∀ z, z < Y → gI τ 26 t z ≠ -1 → Wc τ t z - v z ≤ 0)
set_option maxRecDepth 16384 in
theorem CI.hv {Y G : Nat} {R : Int} {τ : tw_T} {v : Nat → Int} (h : CI Y G R τ v) : HVC Y G τ v := by
  intro t y z ht hy hz hf hg
  have := (h.2.2.2.2.1 t y ht (by omega) hf).2 z (by omega) hg
  unfold Wc at this
  omega
set_option maxRecDepth 16384 in
theorem CI.fr {Y G : Nat} {R : Int} {τ τ' : tw_T} {v : Nat → Int} (h : CI Y G R τ v) (g : FrL [18, 19, 28, 29] τ τ') : CI Y G R τ' v := by
  obtain ⟨h1, h2⟩ := h
  refine ⟨h1.fr g (by decide), ?_⟩
  have e1 : FP τ' = FP τ := by funext a b; unfold FP; rw [g.2.2.2 27 (by decide)]
  have e2 : Wc τ' = Wc τ := by funext a b; unfold Wc; rw [g.2.2.2 26 (by decide)]
  have e3 : ALc τ' = ALc τ := by funext a b; unfold ALc; rw [g.2.2.2 26 (by decide)]
  have e4 : RM τ' = RM τ := by funext a; unfold RM; rw [g.2.2.2 17 (by decide)]
  unfold GB
  rw [e1, e2, e3, e4, g.2.2.2 26 (by decide)]
  exact h2
set_option maxRecDepth 16384 in
theorem LO.fr {Y G : Nat} {mg : Nat → Int} {τ τ' : tw_T} {v : Nat → Int} (h : LO Y G mg τ v) (g : FrL [18, 19, 28, 29] τ τ') : LO Y G mg τ' v := by
  have e1 : FP τ' = FP τ := by funext a b; unfold FP; rw [g.2.2.2 27 (by decide)]
  have e2 : Wc τ' = Wc τ := by funext a b; unfold Wc; rw [g.2.2.2 26 (by decide)]
  unfold LO
  rw [e1, e2, g.2.2.2 26 (by decide)]
  exact h
set_option maxRecDepth 16384 in
theorem LO.up {Y G : Nat} {mg : Nat → Int} {τ : tw_T} {v v' : Nat → Int} (h : LO Y G mg τ v) (hv : ∀ y, v y ≤ v' y) : LO Y G mg τ v' := fun t ht => ⟨(h t ht).1, fun h1 z hz hg => by
  have := (h t ht).2 h1 z hz hg
  have := hv z
  omega⟩
set_option maxRecDepth 16384 in
theorem vl_up {N G : Nat} {W f : Nat → Nat → Int} {c B : Int} (hW : ∀ t y, t < G → y < N → W t y ≤ c) (hf : ∀ t y, t < G → y < N → 0 ≤ f t y) (hb : sm (fun t => sm (f t) N) G ≤ B) (hc : 0 ≤ c) : vl N G W f ≤ B * c := by
  refine Int.le_trans ?_ (mul_le_r hb hc)
  unfold vl
  rw [← sm_mul']
  refine sm_le G (fun t ht => ?_)
  have h1 : sm (fun y => f t y * W t y) N ≤ sm (fun y => f t y * c) N := sm_le N (fun y hy => Int.mul_le_mul_of_nonneg_left (hW t y ht hy) (hf t y ht hy))
  rw [sm_mul'] at h1
  exact h1
section GN
variable {Y cur : Nat} {R base : Int} {mg : Nat → Int} {Q : Int32 → tw_T → Prop}
set_option maxRecDepth 16384 in
/-- the search ended with nothing to be had -/
theorem CI.stop {τ : tw_T} {v : Nat → Int} {e : Nat} (hY : Y ≤ 6) (hc : cur + 1 ≤ 30) (h : CI Y (cur + 1) R τ v) (hL : LO Y cur mg τ v) (hs : sm (FP τ cur) (Y + 1) ≤ mg cur) (hH : HC cur Y (cur + 1) τ) (he : dC τ Y ≤ dC τ e) (hb : ∀ y, y < Y → 0 < RM τ y → dC τ y ≤ dC τ e) (h0 : dC τ e ≤ 0) : ∃ v', CI Y (cur + 1) R τ v' ∧ LO Y (cur + 1) mg τ v' := by
  have hhv := h.hv.e hH.1
  obtain ⟨c1, c2, c3, c4, c5, c6, c7, c8⟩ := h
  obtain ⟨b0, b1, b2, b3⟩ := hH
  have hfix := b1.fix hhv b3 (by omega) (fun y z t c hE => by have := hE.2.1; omega)
  obtain ⟨v', hv'⟩ := dual_up v (rcC Y τ) (dC τ) 0
  have hvY : v' Y = 0 := by
    rcases (hv' Y).2.2 with e' | ⟨e1, e2, e3⟩ <;> omega
  have hD := c5.up hv' (ex := fun y => y < Y ∧ gI τ 17 0 y = 0) (fun y hy hr hlt => by
    by_cases e' : y = Y
    · rw [e'] at hlt; omega
    · have hy' : y < Y := by omega
      refine ⟨hy', ?_⟩
      obtain ⟨q1, q2, q3, q4⟩ := c6 y hy'
      by_cases e2 : 0 < RM τ y
      · have := q4 e2; have := hb y hy' e2; omega
      · exact i32_ext (by unfold RM at q1 e2; show _ = (0 : Int); omega)) (fun t y z ht hy hz hf ha hzy hex hr => by
    rcases b0 y z hex.1 (by omega) hex.2 with ⟨g1, g2⟩ | ⟨t', g1, g2, g3, g4, g5, g6, g7⟩
    · exact absurd (g2 t ht hf hzy) ha
    · have hm := g7 t ht hf ha
      obtain ⟨k1, k2⟩ := hfix y z t' _ ⟨hex.1, by omega, hzy, hex.2, by rw [g2]; exact not_m1 (by omega), by rw [g2]; exact (uN_i32 (by omega)).symm, rfl⟩ hr
      unfold Wc
      exact ⟨k1, by omega⟩)
  refine ⟨v', ⟨c1, c2, c3, c4, hD, fun y hy => ?_, c7, hvY⟩, fun t ht => ?_⟩
  · obtain ⟨q1, q2, q3, q4⟩ := c6 y hy
    have := (hv' y).1
    refine ⟨q1, q2, by omega, fun hr => ?_⟩
    have := q4 hr
    have := hb y hy hr
    rcases (hv' y).2.2 with e' | ⟨e1, e2, e3⟩ <;> omega
  · by_cases e' : t = cur
    · rw [e']
      refine ⟨hs, fun _ z hz hg => ?_⟩
      obtain ⟨k1, k2⟩ := b1.2.2.2.1 z cur _ ⟨by omega, rfl, hg, rfl⟩
      have := (hv' z).2.1 k1
      unfold Wc
      omega
    · exact (hL.up (fun y => (hv' y).1)) t (by omega)
set_option maxRecDepth 16384 in
set_option maxHeartbeats 2000000 in
theorem xX_gain30 (hY : Y ≤ 6) (hc : cur + 1 ≤ 30) {B : Int32} (hB : 0 ≤ B.toInt ∧ B.toInt ≤ 12) (hm : mg cur = B.toInt) (hms : sm mg (cur + 1) ≤ 360) (hb0 : 0 ≤ base) (hR : R ≤ 100) {τ0 : tw_T} {EX : tw_T → Int32 → Int32 → Int32 → Prop}
    (hE : ∀ τ more l r v, FrL [17, 18, 19, 27, 28, 29] τ0 τ → CI Y (cur + 1) R τ v → LO Y (cur + 1) mg τ v → base + more.toInt = vl (Y + 1) (cur + 1) (Wc τ) (FP τ) → 0 ≤ more.toInt → EX τ more l r) :
    ∀ (nn : Nat) (τ : tw_T) (more left : Int32) (rd : Nat) (v : Nat → Int), left.toInt ≤ nn → 0 ≤ left.toInt → left.toInt + rd ≤ B.toInt → FrL [17, 18, 19, 27, 28, 29] τ0 τ → CI Y (cur + 1) R τ v → LO Y cur mg τ v → sm (FP τ cur) (Y + 1) + left.toInt = mg cur → base + more.toInt = vl (Y + 1) (cur + 1) (Wc τ) (FP τ) → 0 ≤ more.toInt →
    L_X4_gainOf_30 0 B (i32 cur) Q EX (nn + 1) τ more left (i32 rd) := by
  have z0 : (0 : Int32).toInt = 0 := rfl
  intro nn
  induction nn with
  | zero =>
    intro τ more left rd v h1 h2 h3 hF hC hL hS hV hm0
    have hfull : LO Y (cur + 1) mg τ v := fun t ht => by
      by_cases e' : t = cur
      · rw [e']; exact ⟨by omega, fun h9 => by omega⟩
      · exact hL t (by omega)
    have hq := hE τ more left (i32 rd) v hF hC hfull hV hm0
    rw [L_X4_gainOf_30]
    exact ⟨fun _ => hq, fun _ => ⟨fun _ => hq, fun h => absurd (by rw [Int32.le_iff_toInt_le, z0]; omega) h⟩⟩
  | succ nn ih =>
    intro τ more left rd v h1 h2 h3 hF hC hL hS hV hm0
    have hfull : left.toInt = 0 → LO Y (cur + 1) mg τ v := fun h0 t ht => by
      by_cases e' : t = cur
      · rw [e']; exact ⟨by omega, fun h9 => by omega⟩
      · exact hL t (by omega)
    rw [L_X4_gainOf_30]
    refine ⟨fun h => hE τ more left _ v hF hC (hfull ?_) hV hm0, fun _ => ⟨fun h => hE τ more left _ v hF hC (hfull ?_) hV hm0, fun h => ?_⟩⟩
    · rw [Int32.le_iff_toInt_le, i32_int (by omega)] at h; omega
    · rw [Int32.le_iff_toInt_le, z0] at h; omega
    have hl1 : 1 ≤ left.toInt := by rw [Int32.le_iff_toInt_le, z0] at h; omega
    refine xX_findChains hC.1 hY hc hC.2.1 (show cur < cur + 1 by omega) hC.hv (fun τ3 f1 hH => ?_)
    have hC3 := hC.fr f1
    have hL3 := hL.fr f1
    have kF : FP τ3 = FP τ := by funext a b; unfold FP; rw [f1.2.2.2 27 (by decide)]
    have kW : Wc τ3 = Wc τ := by funext a b; unfold Wc; rw [f1.2.2.2 26 (by decide)]
    have hF3 : FrL [17, 18, 19, 27, 28, 29] τ0 τ3 := hF.tr (f1.mono (by simp))
    rw [← kF] at hS
    rw [← kF, ← kW] at hV
    refine xX_bestLast hC3.1 hY (fun e he hroom hnev hbest => ⟨0, hC3.1.o (by decide), vpin (show e < 7 by omega) (by decide), ?_⟩)
    have ne := i32_nat (show e < 2147483648 by omega)
    have ve := vpin (show e < 7 by omega) (by decide)
    rw [ne]
    refine ⟨fun hpos => ?_, fun hpos => ?_⟩
    · rw [Int32.lt_iff_toInt_lt, z0] at hpos
      have hhv := hC3.hv.e hH.1
      obtain ⟨c1, c2, c3, c4, c5, c6, c7, c8⟩ := hC3
      have hH0 := hH
      obtain ⟨b0, b1, b2, b3⟩ := hH
      have hfix := b1.fix hhv b3 (by omega) (fun y z t c hE => by have := hE.2.1; omega)
      obtain ⟨β, hβ⟩ : ∃ β, dC τ3 e = β := ⟨_, rfl⟩
      have hβ0 : 0 < β := by rw [← hβ]; exact hpos
      obtain ⟨v', hv'⟩ := dual_up v (rcC Y τ3) (dC τ3) β
      have hr : rcC Y τ3 e := ⟨he, fun h9 => by rw [h9, un_int] at hpos; omega⟩
      have dB := (b2 e he).resolve_left hr.2
      have hvY : v' Y = 0 := by
        rcases (hv' Y).2.2 with e' | ⟨e1, e2, e3⟩ <;> omega
      have hve : v e = 0 := by
        by_cases e' : e = Y
        · rw [e']; exact c8
        · exact (c6 e (by omega)).2.2.2 (hroom.resolve_left e')
      have hD := c5.up hv' (ex := fun y => y < Y ∧ gI τ3 17 0 y = 0) (fun y hy hr hlt => by
        by_cases e' : y = Y
        · rw [e'] at hlt; omega
        · have hy' : y < Y := by omega
          refine ⟨hy', ?_⟩
          obtain ⟨q1, q2, q3, q4⟩ := c6 y hy'
          by_cases e2 : 0 < RM τ3 y
          · have := q4 e2; have := hbest y hy' e2; omega
          · exact i32_ext (by unfold RM at q1 e2; show _ = (0 : Int); omega)) (fun t y z ht hy hz hf ha hzy hex hr => by
        rcases b0 y z hex.1 (by omega) hex.2 with ⟨g1, g2⟩ | ⟨t', g1, g2, g3, g4, g5, g6, g7⟩
        · exact absurd (g2 t ht hf hzy) ha
        · have hm := g7 t ht hf ha
          obtain ⟨k1, k2⟩ := hfix y z t' _ ⟨hex.1, by omega, hzy, hex.2, by rw [g2]; exact not_m1 (by omega), by rw [g2]; exact (uN_i32 (by omega)).symm, rfl⟩ hr
          unfold Wc
          exact ⟨k1, by omega⟩)
      have hP0 : ∀ t y, t < cur + 1 → y < Y + 1 → 0 < FP τ3 t y → Pc τ3 Y v' t y := fun t y ht hy hf => ⟨(hD t y ht hy hf).1, (hD t y ht hy hf).2⟩
      have hmn : ∀ t, t < cur → sm (FP τ3 t) (Y + 1) ≤ mg t := fun t ht => (hL3 t ht).1
      have hrow0 : ∀ t, t < cur + 1 → 0 ≤ sm (FP τ3 t) (Y + 1) := fun t ht => sm_nn (Y + 1) (fun y hy => c4 t y ht hy)
      have htot : sm (fun t => sm (FP τ3 t) (Y + 1)) (cur + 1) + left.toInt ≤ 360 := by
        have h5 := sm_le (g := fun t => sm (FP τ3 t) (Y + 1)) (h := mg) cur hmn
        simp only [sm] at hms ⊢
        simp only [sm] at hS h5
        omega
      have hsum : ∀ t, t < cur + 1 → sm (FP τ3 t) (Y + 1) ≤ 360 := fun t ht => by
        have := sm_ge1 (g := fun t => sm (FP τ3 t) (Y + 1)) (cur + 1) t ht hrow0
        omega
      have hroomE : left.toInt ≤ RM τ3 Y := by
        have h5 := sm_le (g := fun t => FP τ3 t Y) (h := fun t => sm (FP τ3 t) (Y + 1)) (cur + 1) (fun t ht => sm_ge1 (g := FP τ3 t) (Y + 1) Y (by omega) (fun y hy => c4 t y ht hy))
        omega
      have hre : 1 ≤ RM τ3 e ∧ RM τ3 e ≤ 1000000 := by
        by_cases e' : e = Y
        · have := sm_nn (g := fun t => FP τ3 t Y) (cur + 1) (fun t ht => c4 t Y ht (by omega))
          rw [e']; omega
        · have h6 := c6 e (by omega)
          have := sm_nn (g := fun t => FP τ3 t e) (cur + 1) (fun t ht => c4 t e ht (by omega))
          have := hroom.resolve_left e'
          unfold RM at *
          omega
      obtain ⟨k, hk⟩ := b1.2.2.1 e hr
      have hkY := b1.depth hr hk
      refine xX_widthOf c1 hY hc hH0 he hk (by omega) hl1 hre.1 (fun w w1 w2 w3 w4 => ?_)
      refine ⟨0, c1.o (by decide), ve, ve, fun τ38 h38 => ⟨k + 1, ?_⟩⟩
      rw [ne] at h38
      have g1 : FrL [17] τ3 τ38 := by rw [h38]; exact FrL.rf.s (by decide)
      have kF8 : FP τ38 = FP τ3 := by funext a b; unfold FP; rw [g1.2.2.2 27 (by decide)]
      refine xX_move16 c1 hY hc hH0 hfix hhv hv' g1 hP0 hsum w1 (by omega) (e := e) k e 0 τ38 hk hr (by omega) (by omega) w4 FrL.rf (by rw [kF8]; exact WI.rf c4 hP0 hk) (fun τ' z i' d1 d2 d3 d4 d5 => ?_)
      have hz := d2.1
      have vz := vpin (show z < 7 by omega) (by decide)
      have nz := i32_nat (show z < 2147483648 by omega)
      have vc := vpin (show cur < 30 by omega) (by decide)
      have nc := i32_nat (show cur < 2147483648 by omega)
      have hP' := (c1.fr g1 (by decide)).fr d1 (by decide)
      obtain ⟨-, s2, s3, s4⟩ := b1.1 z d2 d3
      have pz := price_at hv' d2 d4
      have hPz : Pc τ3 Y v' cur z := ⟨s3, fun u hu ha => by
        obtain ⟨q1, q2⟩ := b1.2.2.2.1 u cur _ ⟨by omega, rfl, ha, rfl⟩
        have := (hv' u).2.1 q1
        omega⟩
      obtain ⟨x1, x2, x3, x4, x5⟩ := d5.fin (show cur < cur + 1 by omega) (show z < Y + 1 by omega) hPz s4 (by omega)
      have hrowc : 0 ≤ FP τ' cur z ∧ FP τ' cur z ≤ 360 := by
        have h1 := d5.1
        have h3 := d5.2.2.1 cur (by omega)
        have := sm_ge1 (g := FP τ' cur) (Y + 1) z (by omega) (fun j hj => h1 cur j (by omega) hj)
        have := hsum cur (by omega)
        exact ⟨h1 cur z (by omega) (by omega), by omega⟩
      have az : (gI τ' 27 cur z + w).toInt = FP τ' cur z + w.toInt := by unfold FP at hrowc ⊢; exact i32_add (by omega) (by omega)
      refine ⟨0, hP'.o (by decide), vc, cur, by rw [nc]; exact hP'.r16 (by omega), vz, vz, fun τ6 h6 => ?_⟩
      rw [nz] at h6
      have kFn : FP τ6 = upd2 (FP τ') cur z (FP τ' cur z + w.toInt) := by rw [h6, FP_upd, az]
      rw [← kFn] at x1 x2 x3 x4 x5
      have d6 : FrL [27] τ38 τ6 := by rw [h6]; exact d1.s (by decide)
      have dall : FrL [17, 27] τ3 τ6 := (g1.mono (by simp)).tr (d6.mono (by simp))
      have k18 : gI τ6 18 = gI τ3 18 := dall.2.2.2 18 (by decide)
      have k26 : gI τ6 26 = gI τ3 26 := dall.2.2.2 26 (by decide)
      have kW6 : Wc τ6 = Wc τ3 := by funext a b; unfold Wc; rw [k26]
      have kA6 : ALc τ6 = ALc τ3 := by funext a b; unfold ALc; rw [k26]
      have hP6 := c1.fr dall (by decide)
      have R6 : ∀ i, RM τ6 i = RM τ3 i - (if i = e then w.toInt else 0) := fun i => by
        unfold RM
        rw [d6.2.2.2 17 (by decide), h38, gI_sI]
        by_cases e' : i = e
        · rw [if_pos ⟨rfl, rfl, e'⟩, if_pos e', e']
          unfold RM at hre
          rw [i32_sub] <;> omega
        · rw [if_neg (fun h => e' h.2.2), if_neg e']; omega
      refine ⟨0, hP6.o (by decide), ve, ?_⟩
      rw [k18]
      intro z14 h14 z15 h15 z16 h16
      rw [h16, i32_succ]
      have hw12 : w.toInt ≤ 12 := by omega
      have hdv : (gI τ3 18 0 e).toInt = β := hβ
      have hmul : (w * gI τ3 18 0 e).toInt = w.toInt * β := by
        have q1 : w.toInt * β ≤ 12 * β := mul_le_r hw12 (by omega)
        have q2 : 0 ≤ w.toInt * β := Int.mul_nonneg (by omega) (by omega)
        rw [i32_mul] <;> rw [hdv] <;> omega
      have hvl := vl_up (N := Y + 1) (G := cur + 1) (W := Wc τ3) (f := FP τ3) (c := 210000) (B := 360) (fun t y ht hy => (c2 t y ht (by omega)).2) c4 (by omega) (by omega)
      have q1 : w.toInt * β ≤ 12 * β := mul_le_r hw12 (by omega)
      have q2 : 0 ≤ w.toInt * β := Int.mul_nonneg (by omega) (by omega)
      have h14' : z14.toInt = more.toInt + w.toInt * β := by rw [h14, i32_add] <;> rw [hmul] <;> omega
      have h15' : z15.toInt = left.toInt - w.toInt := by rw [h15, i32_sub] <;> omega
      refine ih τ6 z14 z15 (rd + 1) v' (by omega) (by omega) (by omega) (hF3.tr (dall.mono (by simp))) ⟨hP6, by unfold GB; rw [k26]; exact c2, by rw [k26]; exact c3, x1, ?_, fun y hy => ?_, ?_, hvY⟩ (fun t ht => ?_) ?_ ?_ (by omega)
      · rw [kW6, kA6]
        exact fun t y ht hy hf => ⟨(x2 t y ht hy hf).1, (x2 t y ht hy hf).2⟩
      · rw [x4 y (by omega), R6]
        obtain ⟨r1, r2, r3, r4⟩ := c6 y hy
        have := (hv' y).1
        refine ⟨?_, ?_, by omega, fun hp => ?_⟩
        · by_cases e' : y = e
          · rw [if_pos e', e']; unfold RM; omega
          · rw [if_neg e']; omega
        · by_cases e' : y = e
          · rw [if_pos e']; omega
          · rw [if_neg e']; omega
        · have hp' : 0 < RM τ3 y := by
            by_cases e' : y = e
            · rw [if_pos e'] at hp; omega
            · rw [if_neg e'] at hp; omega
          have := r4 hp'
          have := hbest y hy hp'
          rcases (hv' y).2.2 with e' | ⟨e1, e2, e3⟩ <;> omega
      · rw [x4 Y (by omega), R6]
        by_cases e' : Y = e
        · rw [if_pos e']; omega
        · rw [if_neg e']; omega
      · rw [x3 t (by omega), if_neg (by omega), Int.add_zero, kW6, k26]
        exact (hL3.up (fun y => (hv' y).1)) t ht
      · rw [x3 cur (by omega), if_pos rfl]; omega
      · rw [kW6, x5, h14', ← hV, hβ]; omega
    · rw [Int32.lt_iff_toInt_lt, z0] at hpos
      obtain ⟨v', q1, q2⟩ := hC3.stop hY hc hL3 (by omega) hH hnev hbest (by unfold dC; omega)
      exact hE τ3 more left _ v' hF3 q1 q2 hV hm0
end GN
