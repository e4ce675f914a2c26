/-! ===== prices raised, bottles moved along a way ===== -/
set_option maxRecDepth 16384 in
theorem dual_up (v : Nat → Int) (rc : Nat → Prop) (d : Nat → Int) (β : Int) : ∃ v' : Nat → Int, ∀ y, v y ≤ v' y ∧ (rc y → d y - β ≤ v' y) ∧ (v' y = v y ∨ (rc y ∧ v y < d y - β ∧ v' y = d y - β)) := by
  refine ⟨fun y => @ite _ (rc y ∧ v y < d y - β) (Classical.propDecidable _) (d y - β) (v y), fun y => ?_⟩
  by_cases h : rc y ∧ v y < d y - β
  · have e : (@ite _ (rc y ∧ v y < d y - β) (Classical.propDecidable _) (d y - β) (v y)) = d y - β := if_pos h
    simp only [e]
    exact ⟨by omega, fun _ => Int.le_refl _, Or.inr ⟨h.1, h.2, trivial⟩⟩
  · have e : (@ite _ (rc y ∧ v y < d y - β) (Classical.propDecidable _) (d y - β) (v y)) = v y := if_neg h
    simp only [e]
    refine ⟨Int.le_refl _, fun hr => ?_, Or.inl trivial⟩
    have : ¬ v y < d y - β := fun h9 => h ⟨hr, h9⟩
    omega
set_option maxRecDepth 16384 in
/-- no bottle would bring more in another year, over the prices -/
def DOK (N G : Nat) (W : Nat → Nat → Int) (AL : Nat → Nat → Prop) (f : Nat → Nat → Int) (v : Nat → Int) : Prop := ∀ t y, t < G → y < N → 0 < f t y → AL t y ∧ ∀ z, z < N → AL t z → W t z - v z ≤ W t y - v y
set_option maxRecDepth 16384 in
theorem DOK.up {N G : Nat} {W : Nat → Nat → Int} {AL : Nat → Nat → Prop} {f : Nat → Nat → Int} {v v' : Nat → Int} {rc : Nat → Prop} {d : Nat → Int} {β : Int} {ex : Nat → Prop} (h : DOK N G W AL f v)
    (hv : ∀ y, v y ≤ v' y ∧ (rc y → d y - β ≤ v' y) ∧ (v' y = v y ∨ (rc y ∧ v y < d y - β ∧ v' y = d y - β))) (hex : ∀ y, y < N → rc y → v y < d y - β → ex y)
    (hfp : ∀ t y z, t < G → y < N → z < N → 0 < f t y → AL t z → z ≠ y → ex y → rc y → rc z ∧ d y + (W t z - W t y) ≤ d z) : DOK N G W AL f v' := by
  intro t y ht hy hf
  obtain ⟨a1, a2⟩ := h t y ht hy hf
  refine ⟨a1, fun z hz haz => ?_⟩
  rcases (hv y).2.2 with e | ⟨e1, e2, e3⟩
  · have := a2 z hz haz
    have := (hv z).1
    omega
  · by_cases e : z = y
    · rw [e]; exact Int.le_refl _
    · obtain ⟨b1, b2⟩ := hfp t y z ht hy hz hf haz e (hex y hy e1 e2) e1
      have := (hv z).2.1 b1
      omega
set_option maxRecDepth 16384 in
def vl (N G : Nat) (W f : Nat → Nat → Int) : Int := sm (fun t => sm (fun y => f t y * W t y) N) G
set_option maxRecDepth 16384 in
theorem u2_row' {f : Nat → Nat → Int} {t y t' N : Nat} {x : Int} (hy : y < N) : sm (upd2 f t y x t') N = sm (f t') N + (if t' = t then x - f t y else 0) := by
  by_cases e : t' = t
  · subst e
    rw [if_pos rfl, sm_one (g := f t') (h := upd2 f t' y x t') N hy (fun i hi => u2_j hi), u2_s]
  · rw [if_neg e, sm_congr (g := upd2 f t y x t') (h := f t') N (fun i _ => u2_k e)]; omega
set_option maxRecDepth 16384 in
theorem u2_col' {f : Nat → Nat → Int} {t y y' G : Nat} {x : Int} (ht : t < G) : sm (fun t' => upd2 f t y x t' y') G = sm (fun t' => f t' y') G + (if y' = y then x - f t y else 0) := by
  by_cases e : y' = y
  · subst e
    rw [if_pos rfl, sm_one (g := fun t' => f t' y') (h := fun t' => upd2 f t y' x t' y') G ht (fun i hi => u2_k hi), u2_s]
  · rw [if_neg e, sm_congr (g := fun t' => upd2 f t y x t' y') (h := fun t' => f t' y') G (fun i _ => u2_j e)]; omega
set_option maxRecDepth 16384 in
theorem u2_vl {f W : Nat → Nat → Int} {t y N G : Nat} {x : Int} (ht : t < G) (hy : y < N) : vl N G W (upd2 f t y x) = vl N G W f + (x - f t y) * W t y := by
  unfold vl
  rw [sm_one (g := fun t' => sm (fun y' => f t' y' * W t' y') N) (h := fun t' => sm (fun y' => upd2 f t y x t' y' * W t' y') N) G ht (fun i hi => sm_congr N (fun j _ => by rw [u2_k hi]))]
  congr 1
  rw [sm_one (g := fun y' => f t y' * W t y') (h := fun y' => upd2 f t y x t y' * W t y') N hy (fun i hi => by simp only [u2_j hi]), u2_s, Int.sub_mul]
  omega
set_option maxRecDepth 16384 in
/-- bottles moving along a way, wd of them, as far as the node 'to' -/
def WI (N G : Nat) (W : Nat → Nat → Int) (P : Nat → Nat → Prop) (f0 f : Nat → Nat → Int) (d : Nat → Int) (pr : Nat → Option Nat) (last to : Nat) (wd : Int) : Prop :=
  (∀ t y, t < G → y < N → 0 ≤ f t y) ∧ (∀ t y, t < G → y < N → 0 < f t y → P t y) ∧ (∀ t, t < G → sm (f t) N = sm (f0 t) N) ∧
  (∀ y, y < N → sm (fun t => f t y) G = sm (fun t => f0 t y) G + (if y = last then wd else 0) - (if y = to then wd else 0)) ∧ vl N G W f = vl N G W f0 + wd * (d last - d to) ∧
  (∃ k, Dep pr k to ∧ ∀ j y, j < k → Dep pr j y → ∀ t, f t y = f0 t y)
set_option maxRecDepth 16384 in
theorem WI.rf {N G : Nat} {W : Nat → Nat → Int} {P : Nat → Nat → Prop} {f0 : Nat → Nat → Int} {d : Nat → Int} {pr : Nat → Option Nat} {last k : Nat} {wd : Int} (h1 : ∀ t y, t < G → y < N → 0 ≤ f0 t y) (h2 : ∀ t y, t < G → y < N → 0 < f0 t y → P t y) (hk : Dep pr k last) : WI N G W P f0 f0 d pr last last wd :=
  ⟨h1, h2, fun _ _ => rfl, fun y _ => by omega, by rw [Int.sub_self, Int.mul_zero, Int.add_zero], k, hk, fun _ _ _ _ _ => rfl⟩
set_option maxRecDepth 16384 in
theorem WI.step {N G : Nat} {W : Nat → Nat → Int} {P : Nat → Nat → Prop} {f0 f : Nat → Nat → Int} {d : Nat → Int} {pr : Nat → Option Nat} {last z y t : Nat} {wd : Int} (h : WI N G W P f0 f d pr last z wd) (hp : pr z = some y) (ht : t < G) (hz : z < N) (hy : y < N) (hyz : y ≠ z) (hP : P t z) (hd : d z = d y + (W t z - W t y)) (hw0 : 0 ≤ wd) (hw : wd ≤ f0 t y) :
    WI N G W P f0 (upd2 (upd2 f t z (f t z + wd)) t y (f t y - wd)) d pr last y wd := by
  obtain ⟨h1, h2, h3, h4, h5, k, h6, h7⟩ := h
  cases k with
  | zero => rw [Dep] at h6; rw [h6] at hp; cases hp
  | succ k =>
    obtain ⟨y', g1, g2⟩ := h6
    rw [hp] at g1
    cases g1
    have hfy : f t y = f0 t y := h7 k y (by omega) g2 t
    have e1 : upd2 f t z (f t z + wd) t y = f t y := u2_j hyz
    refine ⟨fun t' y' a b => ?_, fun t' y' a b c => ?_, fun t' a => ?_, fun u hu => ?_, ?_, k, g2, fun j u hj hd t' => ?_⟩
    · unfold upd2
      by_cases e : t' = t ∧ y' = y
      · rw [if_pos e]; omega
      · rw [if_neg e]
        by_cases e' : t' = t ∧ y' = z
        · rw [if_pos e']; have := h1 t z ht hz; omega
        · rw [if_neg e']; exact h1 t' y' a b
    · unfold upd2 at c
      by_cases e : t' = t ∧ y' = y
      · rw [if_pos e] at c
        rw [e.1, e.2]; exact h2 t y ht hy (by omega)
      · rw [if_neg e] at c
        by_cases e' : t' = t ∧ y' = z
        · rw [e'.1, e'.2]; exact hP
        · rw [if_neg e'] at c; exact h2 t' y' a b c
    · rw [u2_row' hy, u2_row' hz, e1, h3 t' a]
      split <;> omega
    · rw [u2_col' ht, u2_col' ht, e1, h4 u hu]
      (repeat' split) <;> omega
    · rw [u2_vl ht hy, u2_vl ht hz, e1, h5]
      have q1 : f t z + wd - f t z = wd := by omega
      have q2 : f t y - wd - f t y = -wd := by omega
      rw [q1, q2, hd]
      have q3 : d last - (d y + (W t z - W t y)) = (d last - d y) - (W t z - W t y) := by omega
      rw [q3]
      simp only [Int.mul_sub, Int.neg_mul]
      omega
    · have n1 : u ≠ y := fun e => by rw [e] at hd; have := Dep_uniq _ _ _ hd g2; omega
      have n2 : u ≠ z := fun e => by rw [e] at hd; have := Dep_uniq _ _ _ hd (show Dep pr (k + 1) z from ⟨y, hp, g2⟩); omega
      rw [u2_j n1, u2_j n2]
      exact h7 j u (by omega) hd t'
set_option maxRecDepth 16384 in
theorem WI.fin {N G : Nat} {W : Nat → Nat → Int} {P : Nat → Nat → Prop} {f0 f : Nat → Nat → Int} {d : Nat → Int} {pr : Nat → Option Nat} {last to t : Nat} {wd : Int} (h : WI N G W P f0 f d pr last to wd) (ht : t < G) (hto : to < N) (hP : P t to) (hd : d to = W t to) (hw0 : 0 ≤ wd) :
    (∀ t' y, t' < G → y < N → 0 ≤ upd2 f t to (f t to + wd) t' y) ∧ (∀ t' y, t' < G → y < N → 0 < upd2 f t to (f t to + wd) t' y → P t' y) ∧ (∀ t', t' < G → sm (upd2 f t to (f t to + wd) t') N = sm (f0 t') N + (if t' = t then wd else 0)) ∧
    (∀ y, y < N → sm (fun t' => upd2 f t to (f t to + wd) t' y) G = sm (fun t' => f0 t' y) G + (if y = last then wd else 0)) ∧ vl N G W (upd2 f t to (f t to + wd)) = vl N G W f0 + wd * d last := by
  obtain ⟨h1, h2, h3, h4, h5, -⟩ := h
  refine ⟨fun t' y' a b => ?_, fun t' y' a b c => ?_, fun t' a => ?_, fun u hu => ?_, ?_⟩
  · unfold upd2
    by_cases e : t' = t ∧ y' = to
    · rw [if_pos e]; have := h1 t to ht hto; omega
    · rw [if_neg e]; exact h1 t' y' a b
  · unfold upd2 at c
    by_cases e : t' = t ∧ y' = to
    · rw [e.1, e.2]; exact hP
    · rw [if_neg e] at c; exact h2 t' y' a b c
  · rw [u2_row' hto, h3 t' a]
    split <;> omega
  · rw [u2_col' ht, h4 u hu]
    (repeat' split) <;> omega
  · rw [u2_vl ht hto, h5]
    have q1 : f t to + wd - f t to = wd := by omega
    rw [q1, ← hd, Int.mul_sub]
    omega
set_option maxRecDepth 16384 in
/-- a way's node: its price is its length over the best -/
theorem price_at {v v' : Nat → Int} {rc : Nat → Prop} {d : Nat → Int} {β : Int} {y : Nat} (hv : ∀ y, v y ≤ v' y ∧ (rc y → d y - β ≤ v' y) ∧ (v' y = v y ∨ (rc y ∧ v y < d y - β ∧ v' y = d y - β))) (hr : rc y) (h : v y ≤ d y - β) : v' y = d y - β := by
  have := (hv y).2.1 hr
  rcases (hv y).2.2 with e | ⟨-, -, e⟩
  · omega
  · exact e
