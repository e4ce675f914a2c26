/-! ===== the reference's plan, from its start ===== -/
set_option maxRecDepth 16384 in
theorem bF_sm {cl cm : Nat → Int32} {l : Int32} : ∀ (d c : Nat) (acc : Int32), (∀ j, c ≤ j → j < c + d → 0 ≤ (cm j).toInt ∧ (cm j).toInt ≤ 12) → 0 ≤ acc.toInt → acc.toInt + 12 * d ≤ 1000000 →
    (bF cl cm l d c acc).toInt = acc.toInt + sm (fun i => if cl (c + i) = l then (cm (c + i)).toInt else 0) d := by
  intro d
  induction d with
  | zero => intro c acc _ _ _; simp only [bF, sm]; omega
  | succ d ih =>
    intro c acc h h0 h1
    obtain ⟨m1, m2⟩ := h c (Nat.le_refl c) (by omega)
    have hsh : ∀ (g : Nat → Int) k, sm g (k + 1) = g 0 + sm (fun i => g (i + 1)) k := by
      intro g k
      induction k with
      | zero => simp only [sm]; omega
      | succ k ihk => rw [sm, ihk]; simp only [sm]; omega
    have hcg : ∀ k, (fun i => if cl (c + (i + 1)) = l then (cm (c + (i + 1))).toInt else 0) k = (fun i => if cl (c + 1 + i) = l then (cm (c + 1 + i)).toInt else 0) k := fun k => by
      have : c + (k + 1) = c + 1 + k := by omega
      simp only [this]
    rw [bF, hsh, sm_congr d (fun i _ => hcg i)]
    simp only [Nat.add_zero]
    by_cases e : cl c = l
    · have hs : (acc + cm c).toInt = acc.toInt + (cm c).toInt := i32_add (by omega) (by omega)
      rw [if_pos e, if_pos e, ih (c + 1) (acc + cm c) (fun j h2 h3 => h j (by omega) (by omega)) (by omega) (by omega), hs]
      omega
    · rw [if_neg e, if_neg e, ih (c + 1) acc (fun j h2 h3 => h j (by omega) (by omega)) h0 (by omega)]
      omega
set_option maxRecDepth 16384 in
def bZ (m : tw_T) (t : Nat) : Int := (bF (gI m 123 0) (gI m 124 0) (i32 t) 30 0 0).toInt
set_option maxRecDepth 16384 in
def cz (m : tw_T) (c : Nat) : Int := (gI m 124 0 c).toInt
set_option maxRecDepth 16384 in
def ct (m : tw_T) (c : Nat) : Nat := uN (gI m 123 0 c)
set_option maxRecDepth 16384 in
theorem sm_pick {U : Nat → Int} {a : Int} {k : Nat} : ∀ n, sm (fun t => (if k = t then a else 0) * U t) n = if k < n then a * U k else 0 := by
  intro n
  induction n with
  | zero => rfl
  | succ n ih =>
    simp only [sm]
    rw [ih]
    by_cases e : k = n
    · rw [if_neg (by omega), if_pos e, if_pos (by omega), e]; omega
    · rw [if_neg e, Int.zero_mul]
      by_cases e2 : k < n
      · rw [if_pos e2, if_pos (by omega)]; omega
      · rw [if_neg e2, if_neg (by omega)]; omega
section PB
variable {n nk nl no nt nd na ns Y : Nat} {x m : tw_T} {Q : Int32 → tw_T → Prop}
set_option maxRecDepth 16384 in
theorem RelA.cz_rng (hA : RelA n nk nl no nt nd na ns x m) {c : Nat} (hc : c < 30) : 0 ≤ cz m c ∧ cz m c ≤ 12 ∧ (cz m c = 0 ∨ (ct m c < nl ∧ gI m 123 0 c = i32 (ct m c))) := by
  obtain ⟨hM, hX0, hK0, hL0, hC0, hO0, hG0, hT0, hD0, hW0⟩ := hA
  unfold cz ct
  rcases hC0.2.2 c hc with ⟨h1, h2⟩ | ⟨h1, h2, l, h3, h4⟩
  · rw [h1]; exact ⟨by decide, by decide, Or.inl rfl⟩
  · have := hL0.1
    rw [h4, uN_i32 (by omega)]
    exact ⟨by omega, h2, Or.inr ⟨h3, rfl⟩⟩
set_option maxRecDepth 16384 in
theorem RelA.bZ_sm (hA : RelA n nk nl no nt nd na ns x m) (t : Nat) : bZ m t = sm (fun c => if gI m 123 0 c = i32 t then cz m c else 0) 30 := by
  unfold bZ
  have z0 : (0 : Int32).toInt = 0 := rfl
  rw [bF_sm 30 0 0 (fun j _ hj => by have := hA.cz_rng (c := j) (by omega); unfold cz at this; omega) (by rw [z0]; omega) (by rw [z0]; omega), z0, Int.zero_add]
  exact sm_congr 30 (fun i _ => by simp only [Nat.zero_add]; rfl)
set_option maxRecDepth 16384 in
theorem RelA.bZ_U (hA : RelA n nk nl no nt nd na ns x m) (U : Nat → Int) : sm (fun t => bZ m t * U t) nl = sm (fun c => cz m c * U (ct m c)) 30 := by
  have hnl := hA.2.2.2.1.1
  rw [sm_congr (g := fun t => bZ m t * U t) (h := fun t => sm (fun c => (if gI m 123 0 c = i32 t then cz m c else 0) * U t) 30) nl (fun t _ => by simp only [hA.bZ_sm]; rw [← sm_mul']), sm_comm]
  refine sm_congr 30 (fun c hc => ?_)
  obtain ⟨c1, c2, c3⟩ := hA.cz_rng hc
  rcases c3 with c3 | ⟨c3, c4⟩
  · rw [c3, Int.zero_mul]
    rw [sm_congr (h := fun _ => 0) nl (fun t _ => by split <;> simp), sm_zero]
  · rw [sm_congr (h := fun t => (if ct m c = t then cz m c else 0) * U t) nl (fun t ht => by
      have : (gI m 123 0 c = i32 t) ↔ ct m c = t := by rw [c4]; exact i32_eq (by omega) (by omega)
      simp only [this]), sm_pick, if_pos c3]
set_option maxRecDepth 16384 in
theorem RelA.bZ_rng (hA : RelA n nk nl no nt nd na ns x m) : (∀ t, 0 ≤ bZ m t) ∧ (∀ t, bZ m t ≤ 360) ∧ sm (bZ m) nl ≤ 360 := by
  have s12 : sm (fun _ => (12 : Int)) 30 = 360 := by decide
  refine ⟨fun t => ?_, fun t => ?_, ?_⟩
  · rw [hA.bZ_sm]
    exact sm_nn 30 (fun c hc => by have := hA.cz_rng hc; split <;> omega)
  · rw [hA.bZ_sm, ← s12]
    exact sm_le 30 (fun c hc => by have := hA.cz_rng hc; split <;> omega)
  · have := hA.bZ_U (fun _ => 1)
    simp only [Int.mul_one] at this
    rw [show sm (bZ m) nl = sm (fun t => bZ m t) nl from rfl, this, ← s12]
    exact sm_le 30 (fun c hc => by have := hA.cz_rng hc; omega)
set_option maxRecDepth 16384 in
theorem eM_plan42 (hA : RelA n nk nl no nt nd na ns x m) {u1 u2 : Int32} {EX : tw_T → Int32 → Prop} : ∀ (dd i : Nat) (τ : tw_T), i + dd = 360 → Fr6 m τ → (∀ j, j < i → gI τ 143 0 j = 0) → (∀ τ' z', Fr6 m τ' → (∀ j, j < 360 → gI τ' 143 0 j = 0) → EX τ' z') → L_X10_plan_42 0 u1 u2 Q EX (dd + 1) τ (i32 i) := by
  intro dd
  induction dd with
  | zero =>
    intro i τ hi hF hI hE
    have e1 : (360 : Int32) ≤ i32 i := (show i32 360 ≤ i32 i ↔ _ from le_i32 (by omega) (by omega)).mpr (by omega)
    have : i = 360 := by omega
    rw [L_X10_plan_42]
    exact ⟨fun _ => hE τ _ hF (by rw [this] at hI; exact hI), fun h => absurd e1 h⟩
  | succ dd ih =>
    intro i τ hi hF hI hE
    have e1 : ¬ (360 : Int32) ≤ i32 i := fun h => absurd ((show i32 360 ≤ i32 i ↔ _ from le_i32 (by omega) (by omega)).mp h) (by omega)
    have vi := vpin (show i < 360 by omega) (by decide)
    have ni := i32_nat (show i < 2147483648 by omega)
    rw [L_X10_plan_42]
    refine ⟨fun h => absurd h e1, fun _ => ⟨0, r6 hF.1 (by decide), vi, fun τ1 h1 z hz => ?_⟩⟩
    rw [ni] at h1
    rw [hz, i32_succ, h1]
    refine ih (i + 1) _ (by omega) (hF.s (by decide)) (fun j hj => ?_) hE
    rw [gI_sI]
    by_cases e : j = i
    · rw [if_pos ⟨rfl, rfl, e⟩]
    · rw [if_neg (fun h => e h.2.2)]; exact hI j (by omega)
set_option maxRecDepth 16384 in
theorem eM_plan64 (hA : RelA n nk nl no nt nd na ns x m) {u1 u2 : Int32} {EX : tw_T → Int32 → Prop} : ∀ (dd i : Nat) (τ : tw_T), i + dd = nl → Fr6 m τ → (∀ j, j < 360 → gI τ 143 0 j = 0) → (∀ j, j < i → gI τ 144 0 j = bF (gI m 123 0) (gI m 124 0) (i32 j) 30 0 0) → (∀ τ' z', Fr6 m τ' → (∀ j, j < 360 → gI τ' 143 0 j = 0) → (∀ j, j < nl → LZ τ' j = bZ m j) → EX τ' z') → L_X10_plan_64 0 u1 u2 Q EX (dd + 1) τ (i32 i) := by
  have hnl := hA.2.2.2.1.1
  have hc := hA.2.2.2.1.2.2.1
  intro dd
  induction dd with
  | zero =>
    intro i τ hi hF h0 hI hE
    have e1 : i32 nl ≤ i32 i := (le_i32 (by omega) (by omega)).mpr (by omega)
    have : i = nl := by omega
    rw [L_X10_plan_64, hF.2.2 0 (by omega), hc]
    exact ⟨fun _ => hE τ _ hF h0 (fun j hj => by unfold LZ bZ; rw [hI j (by omega)]), fun h => absurd e1 h⟩
  | succ dd ih =>
    intro i τ hi hF h0 hI hE
    have e1 : ¬ i32 nl ≤ i32 i := fun h => absurd ((le_i32 (by omega) (by omega)).mp h) (by omega)
    have vi := vpin (show i < 60 by omega) (by decide)
    have ni := i32_nat (show i < 2147483648 by omega)
    rw [L_X10_plan_64, hF.2.2 0 (by omega), hc]
    refine ⟨fun h => absurd h e1, fun _ => ⟨0, r6 hF.1 (by decide), eM_bottlesOf hF.1 ⟨vi, fun τ1 h1 z hz => ?_⟩⟩⟩
    rw [ni, hF.2.2 123 (by omega), hF.2.2 124 (by omega)] at h1
    rw [hz, i32_succ, h1]
    refine ih (i + 1) _ (by omega) (hF.s (by decide)) (fun j hj => by rw [hI_n (by decide)]; exact h0 j hj) (fun j hj => ?_) hE
    rw [gI_sI]
    by_cases e : j = i
    · rw [if_pos ⟨rfl, rfl, e⟩, e]
    · rw [if_neg (fun h => e h.2.2)]; exact hI j (by omega)
set_option maxRecDepth 16384 in
theorem eM_plan91 (hA : RelA n nk nl no nt nd na ns x m) (hY : Y ≤ 6) {u2 : Int32} {EX : tw_T → Int32 → Prop} : ∀ (dd i : Nat) (τ : tw_T), i + dd = Y → Fr6 m τ → (∀ j, j < 360 → gI τ 143 0 j = 0) → (∀ j, j < nl → LZ τ j = bZ m j) → (∀ j, j < i → gI τ 145 0 j = u2) → (∀ τ' z', Fr6 m τ' → (∀ j, j < 360 → gI τ' 143 0 j = 0) → (∀ j, j < nl → LZ τ' j = bZ m j) → (∀ j, j < Y → gI τ' 145 0 j = u2) → EX τ' z') → L_X10_plan_91 0 (i32 Y) u2 Q EX (dd + 1) τ (i32 i) := by
  intro dd
  induction dd with
  | zero =>
    intro i τ hi hF h0 hL hI hE
    have e1 : i32 Y ≤ i32 i := (le_i32 (by omega) (by omega)).mpr (by omega)
    have : i = Y := by omega
    rw [L_X10_plan_91]
    exact ⟨fun _ => hE τ _ hF h0 hL (by rw [this] at hI; exact hI), fun h => absurd e1 h⟩
  | succ dd ih =>
    intro i τ hi hF h0 hL hI hE
    have e1 : ¬ i32 Y ≤ i32 i := fun h => absurd ((le_i32 (by omega) (by omega)).mp h) (by omega)
    have vi := vpin (show i < 6 by omega) (by decide)
    have ni := i32_nat (show i < 2147483648 by omega)
    rw [L_X10_plan_91]
    refine ⟨fun h => absurd h e1, fun _ => ⟨0, r6 hF.1 (by decide), vi, fun τ1 h1 z hz => ?_⟩⟩
    rw [ni] at h1
    rw [hz, i32_succ, h1]
    refine ih (i + 1) _ (by omega) (hF.s (by decide)) (fun j hj => by rw [hI_n (by decide)]; exact h0 j hj) (fun j hj => by unfold LZ; rw [hI_n (by decide)]; exact hL j hj) (fun j hj => ?_) hE
    rw [gI_sI]
    by_cases e : j = i
    · rw [if_pos ⟨rfl, rfl, e⟩]
    · rw [if_neg (fun h => e h.2.2)]; exact hI j (by omega)
set_option maxRecDepth 16384 in
set_option maxHeartbeats 1000000 in
/-- the reference's plan, its two numbers being in range -/
theorem eM_planJ (hA : RelA n nk nl no nt nd na ns x m) (h0 : gI m 0 0 0 = 0) (hY : Y ≤ 6) {R : Nat} (hR : R ≤ 100) (hQ : ∀ s τ, Fr6 m τ → (∃ F v, Cert (wI m) (aB m) Y R nl (fun t => t) (bZ m) F v s.toInt) → Q s τ) : J_X10_plan_31 m 0 (i32 Y) (i32 R) 1 0 Q := by
  obtain ⟨b1, b2, b3⟩ := hA.bZ_rng
  have hnl := hA.2.2.2.1.1
  unfold J_X10_plan_31
  rw [show (1 : Int32) = bz (0 = 0) from rfl, eM_may h0 (by decide)]
  refine ⟨fun _ => ⟨fun _ => ?_, fun h => absurd h (by decide)⟩, fun h => absurd rfl h⟩
  refine ⟨361, eM_plan42 hA 360 0 m (by omega) ⟨hA.1, rfl, fun _ _ => rfl⟩ (fun j hj => by omega) (fun τ1 z1 f1 f2 => ?_)⟩
  refine ⟨nl + 1, eM_plan64 hA nl 0 τ1 (by omega) f1 f2 (fun j hj => by omega) (fun τ2 z2 g1 g2 g3 => ?_)⟩
  refine ⟨Y + 1, eM_plan91 hA hY Y 0 τ2 (by omega) g1 g2 g3 (fun j hj => by omega) (fun τ z3 k1 k2 k3 k4 => ?_)⟩
  have z0 : (0 : Int32).toInt = 0 := rfl
  have hZ : ∀ t y, t < nl → y < Y → FZ Y τ t y = 0 := fun t y ht hy => by
    unfold FZ; rw [if_pos hy, k2 _ (by omega)]; rfl
  have hRr := i32_int (show R < 2147483648 by omega)
  have hPI : PI m nl Y R (bZ m) τ (fun _ => 0) 210000 (0 : Int32).toInt := by
    refine ⟨k1, fun t y ht hy => by rw [hZ t y ht hy]; exact Int.le_refl _, fun t y ht hy hf => by rw [hZ t y ht hy] at hf; omega, fun t ht => ?_, fun y hy => ?_, by omega, fun t y ht hy hf => by rw [hZ t y ht hy] at hf; omega, fun t y ht hy _ _ => ?_, ?_⟩
    · rw [k3 t ht, sm_congr (h := fun _ => 0) Y (fun y hy => hZ t y ht hy), sm_zero]
      exact ⟨b1 t, by omega⟩
    · rw [sm_congr (h := fun _ => 0) nl (fun t ht => hZ t y ht hy), sm_zero]
      unfold RZ
      rw [k4 y hy, hRr]
      exact ⟨by omega, by omega, Int.le_refl _, fun _ => rfl⟩
    · have := hA.wI_rng ht (show y < 7 by omega)
      simp only
      omega
    · unfold vl
      rw [sm_congr (h := fun _ => 0) nl (fun t ht => ?_), sm_zero, z0]
      rw [sm_congr (h := fun _ => 0) Y (fun y hy => by rw [hZ t y ht hy, Int.zero_mul]), sm_zero]
  refine eM_bestWay hA k1 (v := fun _ => 0) hPI.hv hY (fun r τ' c1 c2 c3 => ?_)
  have e44 : ∀ j, j < nl → LZ τ' j = bZ m j := fun j hj => by unfold LZ; rw [c1.1.2.2 144 (by decide) (by decide) (by decide)]; exact k3 j hj
  exact ⟨361, eM_plan118 hA hY (fun t _ => b2 t) b3 (R := R) (by omega) (fun τ s r q1 q2 => hQ s τ q1 q2) 360 τ' 0 r (fun _ => 0) 210000 (by rw [sm_congr nl e44]; exact b3) (hPI.frS c1.1) (HB.of c1 c2) c3⟩
end PB
