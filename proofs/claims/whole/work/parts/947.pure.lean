/-! ===== the start: both constructors ===== -/
set_option maxRecDepth 16384 in
def E0 (n : Nat) : tw_T := (fun _ _ _ => 0, fun _ _ _ => 0, fun _ _ _ => none, fun f => if f = 1000 then n else 0)
set_option maxRecDepth 16384 in
/-- the class behind its constructor -/
def XI (x : tw_T) : Prop := SX (gR x 0) (gR x 5) (gR x 6) (gR x 8) (gR x 15) (gR x 16) (gR x 24) (gR x 25) ∧ (gI x 0 0 11 = 0 ∧ gI x 0 0 12 = 0 ∧ gI x 0 0 13 = 0 ∧ gI x 0 0 14 = 0 ∧ gI x 0 0 15 = 0) ∧
  (gI x 12 0 = fun j => if j < 30 then -1 else 0) ∧ (gI x 13 0 = fun _ => 0) ∧ (gI x 14 0 = fun _ => 0) ∧ (gR x 3 0 = fun _ => none) ∧ (∀ f, 20 ≤ f → f ≤ 36 → (f < 24 ∨ 29 < f) → gN x f = 0) ∧ gI x 6 0 1 = 0 ∧ (∀ j, j < 7 → gI x 7 0 j = 0) ∧ gJ x 7 0 7 = 0 ∧ gN x 0 = 1 ∧ gN x 1000 = 8
set_option maxHeartbeats 2000000 in
set_option maxRecDepth 4000 in
theorem xX_init {Q : tw_T → Prop} (hQ : ∀ x, XI x → Q x) : F_X9_init (nW (E0 8) 0 1) 0 Q := by
  unfold F_X9_init F_X5_init F_X7_init F_X2_init F_X4_init
  simp only [↓forall_eq]
  refine ⟨0, rfl, xX_fillI (by decide) ?_⟩
  refine hQ _ ⟨⟨?_, ?_, ?_, ?_, ?_, ?_, ?_, ?_⟩, ⟨rfl, rfl, rfl, rfl, rfl⟩, ?_, ?_, ?_, ?_, ?_, rfl, ?_, rfl, rfl, rfl⟩
  · funext k j
    exact match k, j with
      | 0, 0 => rfl
      | 0, 1 => rfl
      | 0, 2 => rfl
      | 0, 3 => rfl
      | 0, 4 => rfl
      | 0, 5 => rfl
      | 0, 6 => rfl
      | 0, 7 => rfl
      | 0, 8 => rfl
      | 0, 9 => rfl
      | 0, 10 => rfl
      | 0, j + 11 => rfl
      | k + 1, j => rfl
  · funext k j
    exact match k, j with
      | 0, 0 => rfl
      | 0, 1 => rfl
      | 0, j + 2 => rfl
      | k + 1, j => rfl
  · funext k j
    exact match k, j with
      | 0, 0 => rfl
      | 0, j + 1 => rfl
      | k + 1, j => rfl
  · funext k j
    exact match k, j with
      | 0, 0 => rfl
      | 0, 1 => rfl
      | 0, 2 => rfl
      | 0, 3 => rfl
      | 0, 4 => rfl
      | 0, 5 => rfl
      | 0, 6 => rfl
      | 0, j + 7 => rfl
      | k + 1, j => rfl
  · funext k j
    match k with
    | 0 =>
      by_cases h : j < 30
      · refine (if_pos h : _ = some (0 + j)).trans ?_
        rw [Nat.zero_add]
        exact (rXd_at h).symm
      · refine (if_neg h).trans ?_
        unfold rXd
        rw [if_neg (fun h9 => h h9.2)]
    | k + 1 => rfl
  · funext k j
    match k with
    | 0 =>
      by_cases h : j < 30
      · refine (if_pos h : _ = some (0 + j)).trans ?_
        rw [Nat.zero_add]
        exact (rXd_at h).symm
      · refine (if_neg h).trans ?_
        unfold rXd
        rw [if_neg (fun h9 => h h9.2)]
    | k + 1 => rfl
  · funext k j
    match k with
    | 0 =>
      by_cases h : j < 6
      · refine (if_pos h : _ = some (0 + j)).trans ?_
        rw [Nat.zero_add]
        exact (rXd_at h).symm
      · refine (if_neg h).trans ?_
        unfold rXd
        rw [if_neg (fun h9 => h h9.2)]
    | k + 1 => rfl
  · funext k j
    match k with
    | 0 =>
      by_cases h : j < 6
      · refine (if_pos h : _ = some (0 + j)).trans ?_
        rw [Nat.zero_add]
        exact (rXd_at h).symm
      · refine (if_neg h).trans ?_
        unfold rXd
        rw [if_neg (fun h9 => h h9.2)]
    | k + 1 => rfl
  · funext j
    by_cases h : j < 30
    · exact (if_pos ⟨rfl, rfl, h⟩ : _ = (-1 : Int32)).trans (if_pos h).symm
    · exact (if_neg (fun h9 => h h9.2.2) : _ = (0 : Int32)).trans (if_neg h).symm
  · funext j; rfl
  · funext j; rfl
  · funext j; rfl
  · intro f h1 h2 h3
    have : f = 20 ∨ f = 21 ∨ f = 22 ∨ f = 23 ∨ f = 30 ∨ f = 31 ∨ f = 32 ∨ f = 33 ∨ f = 34 ∨ f = 35 ∨ f = 36 := by omega
    rcases this with rfl | rfl | rfl | rfl | rfl | rfl | rfl | rfl | rfl | rfl | rfl <;> rfl
  · intro j hj
    have : j = 0 ∨ j = 1 ∨ j = 2 ∨ j = 3 ∨ j = 4 ∨ j = 5 ∨ j = 6 := by omega
    rcases this with rfl | rfl | rfl | rfl | rfl | rfl | rfl <;> rfl
set_option maxRecDepth 16384 in
/-- the reference behind its constructor -/
def MI (m : tw_T) : Prop := gR m = rM ∧ (∀ j, gI m 0 0 j = 0) ∧ gJ m 0 0 4 = 0 ∧ (gI m 123 0 = fun j => if j < 30 then -1 else 0) ∧ (gI m 124 0 = fun _ => 0) ∧ (gI m 133 0 = fun _ => 0) ∧ (∀ r, r < 40 → gI m 141 0 r = -1) ∧ gN m 0 = 1
set_option maxRecDepth 16384 in
theorem Rel0 {x m : tw_T} (hx : XI x) (hm : MI m) : Rel 0 x m := by
  obtain ⟨x1, ⟨k11, k12, k13, k14, k15⟩, x12, x13, x14, x3, xN, x61, x7, xJ, -, -⟩ := hx
  obtain ⟨m1, m0, mJ, m123, m124, m133, m141, -⟩ := hm
  have z0 : (0 : Int32).toInt = 0 := rfl
  refine ⟨0, 0, 0, 0, 0, 0, 0, m1, x1, ⟨by omega, k11, m0 1, xN 20 (by omega) (by omega) (by omega), fun i hi => by omega⟩, ⟨by omega, k12, m0 2, xN 21 (by omega) (by omega) (by omega), fun i hi => by omega⟩, ⟨by rw [x12, m123], by rw [x13, m124], fun c hc => Or.inl ⟨by rw [m124], by rw [m123]; exact if_pos hc⟩⟩, ⟨m0 22, fun i hi => by omega, fun k hk => by omega, fun k k' hk => by omega, fun l hl => by omega, rfl⟩, ?_, ⟨by omega, x61, m0 28, by rw [x14, m133], fun i => by rw [m133]; exact (⟨by decide, by decide⟩ : 0 ≤ (0 : Int32).toInt ∧ (0 : Int32).toInt ≤ 255)⟩, ⟨by omega, k13, m0 29, Or.inl rfl, xN 22 (by omega) (by omega) (by omega), xN 30 (by omega) (by omega) (by omega), xN 31 (by omega) (by omega) (by omega), xN 32 (by omega) (by omega) (by omega), xN 33 (by omega) (by omega) (by omega), fun i hi => by omega, fun i hi => by rw [x3], fun i hi => by omega⟩, ⟨by omega, k14, m0 39, xN 23 (by omega) (by omega) (by omega), xN 34 (by omega) (by omega) (by omega), xN 35 (by omega) (by omega) (by omega), xN 36 (by omega) (by omega) (by omega), fun i hi => by omega, fun i k hi => by omega, fun r h1 h2 => m141 r h2⟩⟩
  rw [m0 3, m0 15, m0 16, m0 17, m0 18, m0 19, m0 20, m0 21, mJ, k15, x7 0 (by omega), x7 1 (by omega), x7 2 (by omega), x7 3 (by omega), x7 4 (by omega), x7 5 (by omega), x7 6 (by omega), xJ]
  exact ⟨rfl, by decide, by decide, rfl, rfl, rfl, rfl, rfl, rfl, rfl, rfl⟩
set_option maxRecDepth 16384 in
theorem eM_init_a {τ : tw_T} {Q : tw_T → Prop} {EX : tw_T → Int32 → Prop} (hr : gR τ 0 0 23 = some 0) : ∀ d i, i + d = 30 → (∀ z, EX (sRI τ 123 0 30 (-1)) z) → L_X10_init_252 0 Q EX (d + 1) (sRI τ 123 0 i (-1)) (i32 i) := by
  intro d
  induction d with
  | zero =>
    intro i hi hQ
    have e1 : (30 : Int32) ≤ i32 i := (show i32 30 ≤ i32 i ↔ _ from le_i32 (by omega) (by omega)).mpr (by omega)
    have : i = 30 := by omega
    rw [L_X10_init_252]
    exact ⟨fun _ => by rw [this]; exact hQ _, fun h => absurd e1 h⟩
  | succ d ih =>
    intro i hi hQ
    have e1 : ¬ (30 : Int32) ≤ i32 i := fun h => absurd ((show i32 30 ≤ i32 i ↔ _ from le_i32 (by omega) (by omega)).mp h) (by omega)
    have vi := vpin (show i < 30 by omega) (by decide)
    have ni := i32_nat (show i < 2147483648 by omega)
    rw [L_X10_init_252]
    refine ⟨fun h => absurd h e1, fun _ => ⟨0, hr, vi, fun τ1 h1 z hz => ?_⟩⟩
    rw [ni, sRI_step] at h1
    rw [h1, hz, i32_succ]
    exact ih (i + 1) (by omega) hQ
set_option maxRecDepth 16384 in
theorem eM_init_b {τ : tw_T} {Q : tw_T → Prop} {EX : tw_T → Int32 → Prop} (hr : gR τ 0 0 41 = some 0) : ∀ d i, i + d = 40 → (∀ z, EX (sRI τ 141 0 40 (-1)) z) → L_X10_init_273 0 Q EX (d + 1) (sRI τ 141 0 i (-1)) (i32 i) := by
  intro d
  induction d with
  | zero =>
    intro i hi hQ
    have e1 : (40 : Int32) ≤ i32 i := (show i32 40 ≤ i32 i ↔ _ from le_i32 (by omega) (by omega)).mpr (by omega)
    have : i = 40 := by omega
    rw [L_X10_init_273]
    exact ⟨fun _ => by rw [this]; exact hQ _, fun h => absurd e1 h⟩
  | succ d ih =>
    intro i hi hQ
    have e1 : ¬ (40 : Int32) ≤ i32 i := fun h => absurd ((show i32 40 ≤ i32 i ↔ _ from le_i32 (by omega) (by omega)).mp h) (by omega)
    have vi := vpin (show i < 40 by omega) (by decide)
    have ni := i32_nat (show i < 2147483648 by omega)
    rw [L_X10_init_273]
    refine ⟨fun h => absurd h e1, fun _ => ⟨0, hr, vi, fun τ1 h1 z hz => ?_⟩⟩
    rw [ni, sRI_step] at h1
    rw [h1, hz, i32_succ]
    exact ih (i + 1) (by omega) hQ
set_option maxRecDepth 16384 in
theorem eM_init_a' {τ : tw_T} {Q : tw_T → Prop} {EX : tw_T → Int32 → Prop} (hr : gR τ 0 0 23 = some 0) (hE : ∀ z, EX (sRI τ 123 0 30 (-1)) z) : L_X10_init_252 0 Q EX 31 τ 0 := by
  have := eM_init_a (Q := Q) hr 30 0 (by omega) hE
  rw [sRI_0] at this; exact this
set_option maxRecDepth 16384 in
theorem eM_init_b' {τ : tw_T} {Q : tw_T → Prop} {EX : tw_T → Int32 → Prop} (hr : gR τ 0 0 41 = some 0) (hE : ∀ z, EX (sRI τ 141 0 40 (-1)) z) : L_X10_init_273 0 Q EX 41 τ 0 := by
  have := eM_init_b (Q := Q) hr 40 0 (by omega) hE
  rw [sRI_0] at this; exact this
set_option maxRecDepth 16384 in
theorem nW_none {τ : tw_T} {g n f k j : Nat} (h : gR τ f k j = none) : gR (nW τ g n) f k j = none := by
  rw [gR_nW, h]; exact ite_self none
set_option maxRecDepth 16384 in
theorem sR_none {τ : tw_T} {j' : Nat} {v : Option Nat} {f k j : Nat} (h : gR τ (f + 1) k j = none) : gR (sR τ 0 0 j' v) (f + 1) k j = none := h
set_option maxHeartbeats 4000000 in
set_option maxRecDepth 10000 in
theorem eM_init {Q : tw_T → Prop} (hQ : ∀ m, MI m → Q m) : F_X10_init (nW (E0 0) 0 1) 0 Q := by
  unfold F_X10_init
  simp only [↓forall_eq]
  refine ⟨31, ?_⟩
  refine eM_init_a' rfl (fun z => ⟨41, ?_⟩)
  refine eM_init_b' rfl (fun z => hQ _ ⟨?_, fun j => rfl, rfl, ?_, funext fun j => rfl, funext fun j => rfl, fun r hr => if_pos ⟨rfl, rfl, hr⟩, rfl⟩)
  · funext f k j
    match f with
    | f + 1 =>
      refine Eq.trans (b := none) ?_ (if_neg (by omega)).symm
      show gR _ (f + 1) k j = none
      repeat (first | exact rfl | refine nW_none ?_ | refine sR_none ?_)
    | 0 =>
      exact match k, j with
      | 0, 0 => rfl
      | 0, 1 => rfl
      | 0, 2 => rfl
      | 0, 3 => rfl
      | 0, 4 => rfl
      | 0, 5 => rfl
      | 0, 6 => rfl
      | 0, 7 => rfl
      | 0, 8 => rfl
      | 0, 9 => rfl
      | 0, 10 => rfl
      | 0, 11 => rfl
      | 0, 12 => rfl
      | 0, 13 => rfl
      | 0, 14 => rfl
      | 0, 15 => rfl
      | 0, 16 => rfl
      | 0, 17 => rfl
      | 0, 18 => rfl
      | 0, 19 => rfl
      | 0, 20 => rfl
      | 0, 21 => rfl
      | 0, 22 => rfl
      | 0, 23 => rfl
      | 0, 24 => rfl
      | 0, 25 => rfl
      | 0, 26 => rfl
      | 0, 27 => rfl
      | 0, 28 => rfl
      | 0, 29 => rfl
      | 0, 30 => rfl
      | 0, 31 => rfl
      | 0, 32 => rfl
      | 0, 33 => rfl
      | 0, 34 => rfl
      | 0, 35 => rfl
      | 0, 36 => rfl
      | 0, 37 => rfl
      | 0, 38 => rfl
      | 0, 39 => rfl
      | 0, 40 => rfl
      | 0, 41 => rfl
      | 0, 42 => rfl
      | 0, 43 => rfl
      | 0, 44 => rfl
      | 0, 45 => rfl
      | 0, 46 => rfl
      | 0, 47 => rfl
      | 0, 48 => rfl
      | 0, j + 49 => rfl
      | k + 1, j => rfl
  · funext j
    by_cases h : j < 30
    · exact (if_pos ⟨rfl, rfl, h⟩ : _ = (-1 : Int32)).trans (if_pos h).symm
    · exact (if_neg (fun h9 => h h9.2.2) : _ = (0 : Int32)).trans (if_neg h).symm
