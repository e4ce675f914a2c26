/-! ===== the reference's plan ===== -/
set_option maxRecDepth 16384 in
def FZ (Y : Nat) (τ : tw_T) (t y : Nat) : Int := if y < Y then (gI τ 143 0 (6 * t + y)).toInt else 0
set_option maxRecDepth 16384 in
theorem FZ_upd {Y t z : Nat} {τ : tw_T} {u : Int32} (hY : Y ≤ 6) (hz : z < Y) : FZ Y (sI τ 143 0 (6 * t + z) u) = upd2 (FZ Y τ) t z u.toInt := by
  funext t' y'
  unfold upd2 FZ
  rw [gI_sI]
  by_cases h : y' < Y
  · by_cases e : t' = t ∧ y' = z
    · rw [if_pos e, if_pos h, if_pos ⟨rfl, rfl, by rw [e.1, e.2]⟩]
    · rw [if_neg e, if_pos h, if_pos h, if_neg (by omega)]
  · rw [if_neg h, if_neg (by omega), if_neg h]
set_option maxRecDepth 16384 in
theorem FZ_same {Y : Nat} {τ τ' : tw_T} (h : gI τ' 143 = gI τ 143) : FZ Y τ' = FZ Y τ := by
  funext t y; unfold FZ; rw [h]
set_option maxRecDepth 16384 in
theorem BI.le_lam {N : Nat} {S : Nat → Nat → Int → Prop} {E : Nat → Nat → Nat → Int → Prop} {rc : Nat → Prop} {d : Nat → Int} {pr : Nat → Option Nat} {tg : Nat → Nat} (h : BI N S E rc d pr tg) {v : Nat → Int} {lam : Int} (hv : ∀ y z t c, E y z t c → c ≤ v z - v y) (hs : ∀ z t s, S z t s → s ≤ v z + lam) : ∀ z, rc z → d z ≤ v z + lam := by
  have key : ∀ k z, rc z → Dep pr k z → d z ≤ v z + lam := by
    intro k
    induction k with
    | zero => intro z hz hd; exact hs _ _ _ (h.1 z hz hd)
    | succ k ih =>
      intro z hz hd
      obtain ⟨y, h1, h2⟩ := hd
      obtain ⟨a1, a2, c, a3, a4⟩ := h.2.1 z y h1
      have := ih y a2 h2
      have := hv _ _ _ _ a3
      omega
  intro z hz
  obtain ⟨k, hk⟩ := h.2.2.1 z hz
  exact key k z hz hk
set_option maxRecDepth 16384 in
theorem ix6 (t y : Nat) : (6 : Int32) * i32 t + i32 y = i32 (6 * t + y) := by
  show _ = Int32.ofNat _
  rw [Int32.ofNat_add, Int32.ofNat_mul]; rfl
set_option maxRecDepth 16384 in
theorem sm_ge1 {g : Nat → Int} : ∀ n i, i < n → (∀ j, j < n → 0 ≤ g j) → g i ≤ sm g n := by
  intro n
  induction n with
  | zero => intro i hi; omega
  | succ n ih =>
    intro i hi h
    simp only [sm]
    by_cases e : i = n
    · rw [e]; have := sm_nn n (fun j hj => h j (by omega)); omega
    · have := ih i (by omega) (fun j hj => h j (by omega)); have := h n (by omega); omega
set_option maxRecDepth 16384 in
/-- what holds of a bottle placed, under the new prices -/
def Pr (m : tw_T) (Y : Nat) (v' : Nat → Int) (β : Int) (t y : Nat) : Prop := aB m t y = true ∧ (∀ u, u < Y → aB m t u = true → wI m t u - v' u ≤ wI m t y - v' y) ∧ β ≤ wI m t y - v' y
set_option maxRecDepth 16384 in
def FrF (τ τ' : tw_T) : Prop := gR τ' = gR τ ∧ gJ τ' = gJ τ ∧ ∀ f, f ≠ 143 → gI τ' f = gI τ f
set_option maxRecDepth 16384 in
theorem FrF.s {a b : tw_T} {k j : Nat} {v : Int32} (h : FrF a b) : FrF a (sI b 143 k j v) := ⟨h.1, h.2.1, fun g p => by rw [hI_n p]; exact h.2.2 g p⟩
section PL
variable {n nk nl no nt nd na ns Y : Nat} {x m τ0 τs : tw_T} {v v' : Nat → Int} {Q : Int32 → tw_T → Prop} {β : Int} {F0 : Nat → Nat → Int}
set_option maxRecDepth 16384 in
set_option maxHeartbeats 1000000 in
theorem eM_chain (hM : gR τs = rM) (hnl : nl ≤ 60) (hY : Y ≤ 6) (hB : BI Y (SM m nl Y τ0) (EM m nl Y τ0) (rcM Y τs) (dM τs) (prM Y τs) (tgR τs)) (hfix : ∀ y z t c, EM m nl Y τ0 y z t c → rcM Y τs y → rcM Y τs z ∧ dM τs y + c ≤ dM τs z)
    (hv : ∀ y z t c, EM m nl Y τ0 y z t c → c ≤ v z - v y) (hvv : ∀ y, v y ≤ v' y ∧ (rcM Y τs y → dM τs y - β ≤ v' y) ∧ (v' y = v y ∨ (rcM Y τs y ∧ v y < dM τs y - β ∧ v' y = dM τs y - β)))
    (hF0 : ∀ t y, t < nl → y < Y → flM τ0 t y ≠ 0 → 1 ≤ F0 t y) (hP0 : ∀ t y, t < nl → y < Y → 0 < F0 t y → Pr m Y v' β t y) (hsum : ∀ t, t < nl → sm (F0 t) Y ≤ 360) {e : Nat} {u1 u3 : Int32} {EX : tw_T → Int32 → Prop} :
    ∀ (k z : Nat) (τ : tw_T), Dep (prM Y τs) k z → rcM Y τs z → v z ≤ dM τs z - β → FrF τs τ → WI Y nl (wI m) (Pr m Y v' β) F0 (FZ Y τ) (dM τs) (prM Y τs) e z 1 →
    (∀ τ' z', FrF τs τ' → rcM Y τs z' → prM Y τs z' = none → v z' ≤ dM τs z' - β → WI Y nl (wI m) (Pr m Y v' β) F0 (FZ Y τ') (dM τs) (prM Y τs) e z' 1 → EX τ' (i32 z')) →
    L_X10_plan_149 0 u1 u3 Q EX (k + 1) τ (i32 z) := by
  intro k
  induction k with
  | zero =>
    intro z τ hd hr hvz hF hW hE
    have vz := vpin (show z < 6 by have := hr.1; omega) (by decide)
    have nz := i32_nat (show z < 2147483648 by have := hr.1; omega)
    have h47 : gI τ 147 = gI τs 147 := hF.2.2 147 (by decide)
    have hm1 : gI τs 147 0 z = -1 := by
      rw [Dep] at hd
      unfold prM at hd
      by_cases h : gI τs 147 0 z = -1
      · exact h
      · rw [if_pos ⟨hr.1, h⟩] at hd; cases hd
    rw [L_X10_plan_149]
    refine ⟨0, r6 (hF.1.trans hM) (by decide), vz, ?_⟩
    rw [nz, h47]
    exact ⟨fun _ => hE τ z hF hr hd hvz hW, fun h => absurd hm1 h⟩
  | succ k ih =>
    intro z τ hd hr hvz hF hW hE
    have hzY := hr.1
    have vz := vpin (show z < 6 by omega) (by decide)
    have nz := i32_nat (show z < 2147483648 by omega)
    have h47 : gI τ 147 = gI τs 147 := hF.2.2 147 (by decide)
    have h48 : gI τ 148 = gI τs 148 := hF.2.2 148 (by decide)
    have hd0 := hd
    obtain ⟨y, hp, hdy⟩ := hd
    obtain ⟨a1, a2, c, a3, a4⟩ := hB.2.1 z y hp
    obtain ⟨f1, f2, f3, f4, f5, f6, f7⟩ := a3
    have a5 := (hfix y z (tgR τs z) c ⟨f1, f2, f3, f4, f5, f6, f7⟩ a2).2
    have a6 := hv y z (tgR τs z) c ⟨f1, f2, f3, f4, f5, f6, f7⟩
    have hdz : dM τs z = dM τs y + (wI m (tgR τs z) z - wI m (tgR τs z) y) := by omega
    have hb : gI τs 147 0 z = i32 y := by
      unfold prM at hp
      by_cases h : z < Y ∧ gI τs 147 0 z ≠ -1
      · rw [if_pos h] at hp
        exact uN_eq (Option.some.inj hp)
      · rw [if_neg h] at hp; cases hp
    obtain ⟨t, ht⟩ : ∃ t, tgR τs z = t := ⟨_, rfl⟩
    have hc : gI τs 148 0 z = i32 t := uN_eq ht
    rw [ht] at f4 f5 f6 f7 hdz
    have n6 := i32_nat (show 6 * t + z < 2147483648 by omega)
    have v6 := vpin (show 6 * t + z < 360 by omega) (by decide)
    have n6y := i32_nat (show 6 * t + y < 2147483648 by omega)
    have v6y := vpin (show 6 * t + y < 360 by omega) (by decide)
    have hvy : v y ≤ dM τs y - β := by omega
    have pz := price_at hvv hr hvz
    have py := price_at hvv a2 hvy
    have hfy := hF0 t y f4 f1 f5
    have hPy := hP0 t y f4 f1 (by omega)
    have hPz : Pr m Y v' β t z := ⟨f6, fun u hu ha => by have := hPy.2.1 u hu ha; omega, by have := hPy.2.2; omega⟩
    have hW2 := hW.step hp f4 hzY f1 (fun h => f3 h.symm) hPz hdz (by omega) hfy
    have hrow : ∀ u, u < Y → 0 ≤ FZ Y τ t u ∧ FZ Y τ t u ≤ 360 := fun u hu => by
      have h1 := hW.1
      have h3 := hW.2.2.1 t f4
      have := sm_ge1 (g := FZ Y τ t) Y u hu (fun j hj => h1 t j f4 hj)
      have := hsum t f4
      exact ⟨h1 t u f4 hu, by omega⟩
    have rz := hrow z hzY
    have ry := hrow y f1
    have ez : FZ Y τ t z = (gI τ 143 0 (6 * t + z)).toInt := if_pos hzY
    have ey : FZ Y τ t y = (gI τ 143 0 (6 * t + y)).toInt := if_pos f1
    have az : (gI τ 143 0 (6 * t + z) + 1).toInt = FZ Y τ t z + 1 := by rw [ez] at rz ⊢; exact i32_add (by simp only [Int32.reduceToInt]; omega) (by simp only [Int32.reduceToInt]; omega)
    have gy : gI (sI τ 143 0 (6 * t + z) (gI τ 143 0 (6 * t + z) + 1)) 143 0 (6 * t + y) = gI τ 143 0 (6 * t + y) := by rw [gI_sI, if_neg (by omega)]
    have ay : (gI τ 143 0 (6 * t + y) - 1).toInt = FZ Y τ t y - 1 := by rw [ey] at ry ⊢; exact i32_sub (by simp only [Int32.reduceToInt]; omega) (by simp only [Int32.reduceToInt]; omega)
    have q48 : gI (sI τ 143 0 (6 * t + z) (gI τ 143 0 (6 * t + z) + 1)) 148 0 z = i32 t := by rw [hI_n (by decide), h48, hc]
    have q47 : gI (sI τ 143 0 (6 * t + z) (gI τ 143 0 (6 * t + z) + 1)) 147 0 z = i32 y := by rw [hI_n (by decide), h47, hb]
    have q47' : gI (sI (sI τ 143 0 (6 * t + z) (gI τ 143 0 (6 * t + z) + 1)) 143 0 (6 * t + y) (gI τ 143 0 (6 * t + y) - 1)) 147 0 z = i32 y := by rw [hI_n (by decide), q47]
    rw [L_X10_plan_149]
    refine ⟨0, r6 (hF.1.trans hM) (by decide), vz, ?_⟩
    rw [nz, h47, hb]
    refine ⟨fun h => absurd h (not_m1 (by omega)), fun _ => ⟨0, r6 (hF.1.trans hM) (by decide), 0, r6 (hF.1.trans hM) (by decide), vz, ?_⟩⟩
    rw [h48, hc, ix6, n6]
    refine ⟨v6, v6, fun τ9 h9 => ?_⟩
    subst h9
    refine ⟨0, r6 (hF.1.trans hM) (by decide), 0, r6 (hF.1.trans hM) (by decide), vz, 0, r6 (hF.1.trans hM) (by decide), vz, ?_⟩
    rw [q48, q47, ix6, n6y, gy]
    refine ⟨v6y, v6y, fun τ17 h17 => ?_⟩
    subst h17
    refine ⟨0, r6 (hF.1.trans hM) (by decide), vz, ?_⟩
    rw [q47']
    intro z20 h20
    subst h20
    refine ih y _ hdy a2 hvy hF.s.s ?_ hE
    rw [FZ_upd hY f1, FZ_upd hY hzY, az, ay]
    exact hW2
end PL
