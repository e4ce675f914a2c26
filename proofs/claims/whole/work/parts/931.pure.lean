/-! ===== sums of whole numbers ===== -/
set_option maxRecDepth 16384 in
def sm (h : Nat → Int) : Nat → Int
  | 0 => 0
  | n + 1 => sm h n + h n
set_option maxRecDepth 16384 in
theorem sm_congr {g h : Nat → Int} : ∀ n, (∀ i, i < n → g i = h i) → sm g n = sm h n := by
  intro n
  induction n with
  | zero => intro _; rfl
  | succ n ih => intro hh; simp only [sm]; rw [ih (fun i hi => hh i (by omega)), hh n (by omega)]
set_option maxRecDepth 16384 in
theorem sm_le {g h : Nat → Int} : ∀ n, (∀ i, i < n → g i ≤ h i) → sm g n ≤ sm h n := by
  intro n
  induction n with
  | zero => intro _; exact Int.le_refl _
  | succ n ih =>
    intro hh; simp only [sm]
    have := ih (fun i hi => hh i (by omega))
    have := hh n (by omega)
    omega
set_option maxRecDepth 16384 in
theorem sm_zero : ∀ n, sm (fun _ => 0) n = 0 := by
  intro n
  induction n with
  | zero => rfl
  | succ n ih => simp only [sm]; omega
set_option maxRecDepth 16384 in
theorem sm_nn {g : Nat → Int} (n : Nat) (h : ∀ i, i < n → 0 ≤ g i) : 0 ≤ sm g n := by
  have := sm_le (g := fun _ => 0) (h := g) n h
  rw [sm_zero] at this; exact this
set_option maxRecDepth 16384 in
theorem sm_add {g h : Nat → Int} : ∀ n, sm (fun i => g i + h i) n = sm g n + sm h n := by
  intro n
  induction n with
  | zero => rfl
  | succ n ih => simp only [sm]; omega
set_option maxRecDepth 16384 in
theorem sm_mul {g : Nat → Int} {c : Int} : ∀ n, sm (fun i => c * g i) n = c * sm g n := by
  intro n
  induction n with
  | zero => simp only [sm]; rw [Int.mul_zero]
  | succ n ih => simp only [sm]; rw [ih, Int.mul_add]
set_option maxRecDepth 16384 in
theorem sm_mul' {g : Nat → Int} {c : Int} : ∀ n, sm (fun i => g i * c) n = sm g n * c := by
  intro n
  induction n with
  | zero => simp only [sm]; rw [Int.zero_mul]
  | succ n ih => simp only [sm]; rw [ih, Int.add_mul]
set_option maxRecDepth 16384 in
theorem sm_comm {g : Nat → Nat → Int} : ∀ n m, sm (fun i => sm (g i) m) n = sm (fun j => sm (fun i => g i j) n) m := by
  intro n
  induction n with
  | zero => intro m; simp only [sm]; exact (sm_zero m).symm
  | succ n ih =>
    intro m
    simp only [sm]
    rw [ih m, sm_add (g := fun j => sm (fun i => g i j) n) (h := g n) m]
set_option maxRecDepth 16384 in
/-- one place of a sum -/
theorem sm_one {g h : Nat → Int} {k : Nat} : ∀ n, k < n → (∀ i, i ≠ k → h i = g i) → sm h n = sm g n + (h k - g k) := by
  intro n
  induction n with
  | zero => intro hk; omega
  | succ n ih =>
    intro hk hh
    simp only [sm]
    by_cases e : k = n
    · subst e
      rw [sm_congr (g := h) (h := g) k (fun i hi => hh i (by omega))]; omega
    · rw [ih (by omega) hh, hh n (by omega)]; omega
/-! ===== the most, told by prices ===== -/
set_option maxRecDepth 16384 in
def mx (p : Nat → Int) : Nat → Int
  | 0 => 0
  | n + 1 => if mx p n < p n then p n else mx p n
set_option maxRecDepth 16384 in
theorem mx_nn {p : Nat → Int} : ∀ n, 0 ≤ mx p n := by
  intro n
  induction n with
  | zero => exact Int.le_refl _
  | succ n ih => simp only [mx]; split <;> omega
set_option maxRecDepth 16384 in
theorem mx_ge {p : Nat → Int} : ∀ n i, i < n → p i ≤ mx p n := by
  intro n
  induction n with
  | zero => intro i hi; omega
  | succ n ih =>
    intro i hi; simp only [mx]
    by_cases e : i = n
    · rw [e]; split <;> omega
    · have := ih i (by omega); split <;> omega
set_option maxRecDepth 16384 in
theorem mx_le {p : Nat → Int} {B : Int} : ∀ n, 0 ≤ B → (∀ i, i < n → p i ≤ B) → mx p n ≤ B := by
  intro n
  induction n with
  | zero => intro h _; exact h
  | succ n ih =>
    intro h hh; simp only [mx]
    have := ih h (fun i hi => hh i (by omega))
    have := hh n (by omega)
    split <;> omega
set_option maxRecDepth 16384 in
/-- what a bottle of lot l brings over the years' prices -/
def Uv (w : Nat → Nat → Int) (al : Nat → Nat → Bool) (Y : Nat) (v : Nat → Int) (l : Nat) : Int := mx (fun z => if al l z = true then w l z - v z else 0) Y
set_option maxRecDepth 16384 in
/-- a plan that is the most: f bottles of a group in a year, v the years' prices -/
def Cert (w : Nat → Nat → Int) (al : Nat → Nat → Bool) (Y : Nat) (R : Int) (G : Nat) (lg : Nat → Nat) (mg : Nat → Int) (f : Nat → Nat → Int) (v : Nat → Int) (val : Int) : Prop :=
  (∀ g y, g < G → y ≤ Y → 0 ≤ f g y) ∧ (∀ g y, g < G → y < Y → 0 < f g y → al (lg g) y = true) ∧ (∀ g, g < G → sm (f g) (Y + 1) ≤ mg g) ∧
  (∀ y, y < Y → sm (fun g => f g y) G ≤ R ∧ (sm (fun g => f g y) G < R → v y = 0)) ∧ (∀ y, y < Y → 0 ≤ v y) ∧
  (∀ g y, g < G → y < Y → 0 < f g y → 0 ≤ w (lg g) y - v y ∧ ∀ z, z < Y → al (lg g) z = true → w (lg g) z - v z ≤ w (lg g) y - v y) ∧
  (∀ g, g < G → (0 < f g Y ∨ sm (f g) (Y + 1) < mg g) → ∀ z, z < Y → al (lg g) z = true → w (lg g) z - v z ≤ 0) ∧
  val = sm (fun g => sm (fun y => f g y * w (lg g) y) Y) G
set_option maxRecDepth 16384 in
theorem mul_le_r {a b c : Int} (h : a ≤ b) (hc : 0 ≤ c) : a * c ≤ b * c := Int.mul_le_mul_of_nonneg_right h hc
set_option maxRecDepth 16384 in
theorem Cert.le {w : Nat → Nat → Int} {al : Nat → Nat → Bool} {Y : Nat} {R : Int} {G : Nat} {lg : Nat → Nat} {mg : Nat → Int} {f : Nat → Nat → Int} {v v' : Nat → Int} {val : Int} (h : Cert w al Y R G lg mg f v val) (hv : ∀ y, y < Y → 0 ≤ v' y) :
    val ≤ sm (fun g => mg g * Uv w al Y v' (lg g)) G + R * sm v' Y := by
  obtain ⟨c1, c2, c3, c4, c5, c6, c7, c8⟩ := h
  rw [c8]
  have h1 : sm (fun g => sm (fun y => f g y * w (lg g) y) Y) G ≤ sm (fun g => mg g * Uv w al Y v' (lg g) + sm (fun y => f g y * v' y) Y) G := by
    refine sm_le G (fun g hg => ?_)
    have h2 : sm (fun y => f g y * w (lg g) y) Y ≤ sm (fun y => f g y * Uv w al Y v' (lg g) + f g y * v' y) Y := by
      refine sm_le Y (fun y hy => ?_)
      have h0 := c1 g y hg (by omega)
      by_cases e : f g y = 0
      · rw [e]; simp
      · have ha := c2 g y hg hy (by omega)
        have hu : w (lg g) y - v' y ≤ Uv w al Y v' (lg g) := by
          have := mx_ge (p := fun z => if al (lg g) z = true then w (lg g) z - v' z else 0) Y y hy
          simp only [ha, if_true] at this; exact this
        rw [← Int.mul_add]
        exact Int.mul_le_mul_of_nonneg_left (by omega) h0
    rw [sm_add, sm_mul'] at h2
    have hun : 0 ≤ Uv w al Y v' (lg g) := mx_nn Y
    have h3 : sm (f g) Y ≤ mg g := by
      have := c3 g hg
      simp only [sm] at this
      have := c1 g Y hg (Nat.le_refl Y)
      omega
    have h4 := mul_le_r h3 hun
    omega
  rw [sm_add, sm_comm (g := fun g y => f g y * v' y) G Y] at h1
  have h5 : sm (fun j => sm (fun i => f i j * v' j) G) Y ≤ sm (fun j => R * v' j) Y := by
    refine sm_le Y (fun y hy => ?_)
    rw [sm_mul']
    exact mul_le_r (c4 y hy).1 (hv y hy)
  rw [sm_mul] at h5
  omega
set_option maxRecDepth 16384 in
theorem Cert.eq {w : Nat → Nat → Int} {al : Nat → Nat → Bool} {Y : Nat} {R : Int} {G : Nat} {lg : Nat → Nat} {mg : Nat → Int} {f : Nat → Nat → Int} {v : Nat → Int} {val : Int} (h : Cert w al Y R G lg mg f v val) :
    val = sm (fun g => mg g * Uv w al Y v (lg g)) G + R * sm v Y := by
  obtain ⟨c1, c2, c3, c4, c5, c6, c7, c8⟩ := h
  rw [c8]
  have h1 : sm (fun g => sm (fun y => f g y * w (lg g) y) Y) G = sm (fun g => mg g * Uv w al Y v (lg g) + sm (fun y => f g y * v y) Y) G := by
    refine sm_congr G (fun g hg => ?_)
    have h2 : sm (fun y => f g y * w (lg g) y) Y = sm (fun y => f g y * Uv w al Y v (lg g) + f g y * v y) Y := by
      refine sm_congr Y (fun y hy => ?_)
      by_cases e : f g y = 0
      · rw [e]; simp
      · have h0 := c1 g y hg (by omega)
        have ha := c2 g y hg hy (by omega)
        obtain ⟨k1, k2⟩ := c6 g y hg hy (by omega)
        have hu1 : w (lg g) y - v y ≤ Uv w al Y v (lg g) := by
          have := mx_ge (p := fun z => if al (lg g) z = true then w (lg g) z - v z else 0) Y y hy
          simp only [ha, if_true] at this; exact this
        have hu2 : Uv w al Y v (lg g) ≤ w (lg g) y - v y := by
          refine mx_le Y k1 (fun z hz => ?_)
          by_cases e2 : al (lg g) z = true
          · simp only [e2, if_true]; exact k2 z hz e2
          · simp only [e2]; exact k1
        rw [← Int.mul_add]
        congr 1
        omega
    rw [h2, sm_add, sm_mul']
    have h3 : sm (f g) Y * Uv w al Y v (lg g) = mg g * Uv w al Y v (lg g) := by
      by_cases e : 0 < f g Y ∨ sm (f g) (Y + 1) < mg g
      · have hz := c7 g hg e
        have hu : Uv w al Y v (lg g) ≤ 0 := by
          refine mx_le Y (Int.le_refl 0) (fun z hz' => ?_)
          by_cases e2 : al (lg g) z = true
          · simp only [e2, if_true]; exact hz z hz' e2
          · simp only [e2]; exact Int.le_refl 0
        have hu0 : 0 ≤ Uv w al Y v (lg g) := mx_nn Y
        have : Uv w al Y v (lg g) = 0 := by omega
        rw [this, Int.mul_zero, Int.mul_zero]
      · have h0 := c1 g Y hg (Nat.le_refl Y)
        have := c3 g hg
        have hs : sm (f g) (Y + 1) = sm (f g) Y + f g Y := rfl
        have : sm (f g) Y = mg g := by
          have e1 : ¬ 0 < f g Y := fun h => e (Or.inl h)
          have e2 : ¬ sm (f g) (Y + 1) < mg g := fun h => e (Or.inr h)
          omega
        rw [this]
    rw [h3]
  rw [h1, sm_add, sm_comm]
  congr 1
  have h5 : sm (fun j => sm (fun i => f i j * v j) G) Y = sm (fun j => R * v j) Y := by
    refine sm_congr Y (fun y hy => ?_)
    rw [sm_mul']
    obtain ⟨k1, k2⟩ := c4 y hy
    by_cases e : sm (fun g => f g y) G < R
    · rw [k2 e, Int.mul_zero, Int.mul_zero]
    · have : sm (fun i => f i y) G = R := by omega
      rw [this]
  rw [h5, sm_mul]
set_option maxRecDepth 16384 in
/-- two plans that are the most bring the same, if their groups are the same bottles -/
theorem Cert.same {w : Nat → Nat → Int} {al : Nat → Nat → Bool} {Y : Nat} {R : Int} {G G' : Nat} {lg lg' : Nat → Nat} {mg mg' : Nat → Int} {f f' : Nat → Nat → Int} {v v' : Nat → Int} {val val' : Int} (h : Cert w al Y R G lg mg f v val) (h' : Cert w al Y R G' lg' mg' f' v' val')
    (hg : ∀ U : Nat → Int, sm (fun g => mg g * U (lg g)) G = sm (fun g => mg' g * U (lg' g)) G') : val = val' := by
  have e1 := h.eq
  have e2 := h'.eq
  have l1 := h.le h'.2.2.2.2.1
  have l2 := h'.le h.2.2.2.2.1
  rw [hg (Uv w al Y v')] at l1
  rw [← hg (Uv w al Y v)] at l2
  omega
