/-! ===== longest ways: relaxing edges under prices ===== -/
set_option maxRecDepth 16384 in
def Dep (pr : Nat → Option Nat) : Nat → Nat → Prop
  | 0, z => pr z = none
  | k + 1, z => ∃ y, pr z = some y ∧ Dep pr k y
set_option maxRecDepth 16384 in
def An (pr : Nat → Option Nat) : Nat → Nat → Nat → Prop
  | 0, y, z => y = z
  | k + 1, y, z => y = z ∨ ∃ u, pr y = some u ∧ An pr k u z
set_option maxRecDepth 16384 in
theorem Dep_uniq {pr : Nat → Option Nat} : ∀ k k' z, Dep pr k z → Dep pr k' z → k = k' := by
  intro k
  induction k with
  | zero =>
    intro k' z h h'
    cases k' with
    | zero => rfl
    | succ k' => obtain ⟨y, h1, -⟩ := h'; rw [Dep] at h; rw [h] at h1; cases h1
  | succ k ih =>
    intro k' z h h'
    obtain ⟨y, h1, h2⟩ := h
    cases k' with
    | zero => rw [Dep] at h'; rw [h'] at h1; cases h1
    | succ k' =>
      obtain ⟨y', h3, h4⟩ := h'
      rw [h1] at h3; cases h3
      rw [ih k' y h2 h4]
set_option maxRecDepth 16384 in
def chL (pr : Nat → Option Nat) : Nat → Nat → List Nat
  | 0, z => [z]
  | k + 1, z => z :: (match pr z with | none => [] | some y => chL pr k y)
set_option maxRecDepth 16384 in
theorem chL_len {pr : Nat → Option Nat} : ∀ k z, Dep pr k z → (chL pr k z).length = k + 1 := by
  intro k
  induction k with
  | zero => intro z _; rfl
  | succ k ih =>
    intro z h
    obtain ⟨y, h1, h2⟩ := h
    simp only [chL, h1, List.length_cons, ih y h2]
set_option maxRecDepth 16384 in
theorem chL_mem {pr : Nat → Option Nat} : ∀ k z u, Dep pr k z → u ∈ chL pr k z → An pr k z u ∧ ∃ j, j ≤ k ∧ Dep pr j u := by
  intro k
  induction k with
  | zero =>
    intro z u h hu
    simp only [chL, List.mem_singleton] at hu
    rw [hu]; exact ⟨rfl, 0, Nat.le_refl 0, h⟩
  | succ k ih =>
    intro z u h hu
    have h0 := h
    obtain ⟨y, h1, h2⟩ := h
    simp only [chL, h1, List.mem_cons] at hu
    rcases hu with hu | hu
    · rw [hu]; exact ⟨Or.inl rfl, k + 1, Nat.le_refl _, h0⟩
    · obtain ⟨a, j, b, c⟩ := ih y u h2 hu
      exact ⟨Or.inr ⟨y, h1, a⟩, j, by omega, c⟩
set_option maxRecDepth 16384 in
theorem chL_nodup {pr : Nat → Option Nat} : ∀ k z, Dep pr k z → (chL pr k z).Nodup := by
  intro k
  induction k with
  | zero => intro z _; simp only [chL]; exact List.nodup_cons.mpr ⟨List.not_mem_nil, List.nodup_nil⟩
  | succ k ih =>
    intro z h
    have h0 := h
    obtain ⟨y, h1, h2⟩ := h
    simp only [chL, h1]
    refine List.nodup_cons.mpr ⟨fun hm => ?_, ih y h2⟩
    obtain ⟨-, j, a, b⟩ := chL_mem k y z h2 hm
    have := Dep_uniq _ _ _ h0 b
    omega
set_option maxRecDepth 16384 in
theorem pigeon : ∀ (N : Nat) (l : List Nat), l.Nodup → (∀ a ∈ l, a < N) → l.length ≤ N := by
  intro N
  induction N with
  | zero =>
    intro l _ h
    cases l with
    | nil => exact Nat.le_refl 0
    | cons a l => exact absurd (h a List.mem_cons_self) (by omega)
  | succ N ih =>
    intro l hn h
    have h1 := ih (l.erase N) (hn.erase N) (fun a ha => by
      have h2 := (hn.mem_erase_iff).mp ha
      have := h a h2.2
      omega)
    have h2 : l.length ≤ (l.erase N).length + 1 := by
      rw [List.length_erase]; split <;> omega
    omega
set_option maxRecDepth 16384 in
/-- relaxing: reached nodes rc, their lengths d, the node ahead pr, the edge's tag tg; sources S, edges E, prices v -/
def BI (N : Nat) (S : Nat → Nat → Int → Prop) (E : Nat → Nat → Nat → Int → Prop) (rc : Nat → Prop) (d : Nat → Int) (pr : Nat → Option Nat) (tg : Nat → Nat) : Prop :=
  (∀ z, rc z → pr z = none → S z (tg z) (d z)) ∧ (∀ z y, pr z = some y → rc z ∧ rc y ∧ ∃ c, E y z (tg z) c ∧ d z ≤ d y + c) ∧ (∀ z, rc z → ∃ k, Dep pr k z) ∧ (∀ z t s, S z t s → rc z ∧ s ≤ d z) ∧ (∀ z, rc z → z < N)
set_option maxRecDepth 16384 in
theorem BI.an {N : Nat} {S : Nat → Nat → Int → Prop} {E : Nat → Nat → Nat → Int → Prop} {rc : Nat → Prop} {d : Nat → Int} {pr : Nat → Option Nat} {tg : Nat → Nat} (h : BI N S E rc d pr tg) {v : Nat → Int} (hv : ∀ y z t c, E y z t c → c ≤ v z - v y) : ∀ k y z, rc y → An pr k y z → rc z ∧ d y - v y ≤ d z - v z := by
  intro k
  induction k with
  | zero => intro y z hy ha; rw [An] at ha; rw [← ha]; exact ⟨hy, Int.le_refl _⟩
  | succ k ih =>
    intro y z hy ha
    rcases ha with ha | ⟨u, h1, h2⟩
    · rw [← ha]; exact ⟨hy, Int.le_refl _⟩
    · obtain ⟨a1, a2, c, a3, a4⟩ := h.2.1 y u h1
      obtain ⟨b1, b2⟩ := ih u z a2 h2
      have := hv _ _ _ _ a3
      exact ⟨b1, by omega⟩
set_option maxRecDepth 16384 in
def updO (f : Nat → Option Nat) (z : Nat) (v : Option Nat) : Nat → Option Nat := fun u => if u = z then v else f u
set_option maxRecDepth 16384 in
def updZ (f : Nat → Int) (z : Nat) (v : Int) : Nat → Int := fun u => if u = z then v else f u
set_option maxRecDepth 16384 in
def updN (f : Nat → Nat) (z : Nat) (v : Nat) : Nat → Nat := fun u => if u = z then v else f u
set_option maxRecDepth 16384 in
theorem Dep_keep {pr : Nat → Option Nat} {z : Nat} {o : Option Nat} : ∀ k u, Dep pr k u → (∀ j, ¬ An pr j u z) → Dep (updO pr z o) k u := by
  intro k
  induction k with
  | zero =>
    intro u h hn
    have : u ≠ z := hn 0
    simp only [Dep, updO, this, if_false]; exact h
  | succ k ih =>
    intro u h hn
    obtain ⟨y, h1, h2⟩ := h
    have : u ≠ z := hn 0
    exact ⟨y, by simp only [updO, this, if_false]; exact h1, ih y h2 (fun j hj => hn (j + 1) (Or.inr ⟨y, h1, hj⟩))⟩
set_option maxRecDepth 16384 in
theorem Dep_all {pr : Nat → Option Nat} {y z ky : Nat} (hy : Dep (updO pr z (some y)) ky y) : ∀ k u, Dep pr k u → ∃ k', Dep (updO pr z (some y)) k' u := by
  have hz : Dep (updO pr z (some y)) (ky + 1) z := ⟨y, by simp only [updO, if_true], hy⟩
  intro k
  induction k with
  | zero =>
    intro u h
    by_cases e : u = z
    · rw [e]; exact ⟨_, hz⟩
    · exact ⟨0, by simp only [Dep, updO, e, if_false]; exact h⟩
  | succ k ih =>
    intro u h
    by_cases e : u = z
    · rw [e]; exact ⟨_, hz⟩
    · obtain ⟨w, h1, h2⟩ := h
      obtain ⟨k', h3⟩ := ih w h2
      exact ⟨k' + 1, w, by simp only [updO, e, if_false]; exact h1, h3⟩
set_option maxRecDepth 16384 in
theorem BI.relax {N : Nat} {S : Nat → Nat → Int → Prop} {E : Nat → Nat → Nat → Int → Prop} {rc : Nat → Prop} {d : Nat → Int} {pr : Nat → Option Nat} {tg : Nat → Nat} (h : BI N S E rc d pr tg) {v : Nat → Int} (hv : ∀ y z t c, E y z t c → c ≤ v z - v y) {y z t : Nat} {c : Int} (hy : rc y) (hE : E y z t c) (hz : z < N) (hyz : y ≠ z)
    (himp : rc z → d z < d y + c) : BI N S E (fun u => u = z ∨ rc u) (updZ d z (d y + c)) (updO pr z (some y)) (updN tg z t) := by
  have hno : ∀ j, ¬ An pr j y z := by
    intro j hj
    obtain ⟨a1, a2⟩ := h.an hv j y z hy hj
    have := himp a1
    have := hv _ _ _ _ hE
    omega
  have hdy : updZ d z (d y + c) y = d y := by simp only [updZ, hyz, if_false]
  obtain ⟨b1, b2, b3, b4, b5⟩ := h
  obtain ⟨ky, hky⟩ := b3 y hy
  have hky' := Dep_keep (o := some y) ky y hky hno
  have hmono : ∀ u, rc u → d u ≤ updZ d z (d y + c) u := by
    intro u hu
    by_cases e : u = z
    · rw [e] at hu; rw [e]; simp only [updZ, if_true]; have := himp hu; omega
    · simp only [updZ, e, if_false]; exact Int.le_refl _
  refine ⟨fun u hu hp => ?_, fun u w hp => ?_, fun u hu => ?_, fun u t' s hs => ?_, fun u hu => ?_⟩
  · by_cases e : u = z
    · rw [e] at hp; simp only [updO, if_true] at hp; cases hp
    · simp only [updO, e, if_false] at hp
      simp only [updN, updZ, e, if_false]
      exact b1 u (hu.resolve_left e) hp
  · by_cases e : u = z
    · subst e
      simp only [updO, if_true] at hp
      cases hp
      refine ⟨Or.inl rfl, Or.inr hy, c, ?_, ?_⟩
      · simp only [updN, if_true]; exact hE
      · rw [hdy]; simp only [updZ, if_true]; exact Int.le_refl _
    · simp only [updO, e, if_false] at hp
      obtain ⟨a1, a2, c', a3, a4⟩ := b2 u w hp
      refine ⟨Or.inr a1, Or.inr a2, c', ?_, ?_⟩
      · simp only [updN, e, if_false]; exact a3
      · have := hmono w a2
        have e2 : updZ d z (d y + c) u = d u := by simp only [updZ, e, if_false]
        omega
  · rcases hu with hu | hu
    · rw [hu]; exact ⟨ky + 1, y, by simp only [updO, if_true], hky'⟩
    · obtain ⟨k, hk⟩ := b3 u hu
      exact Dep_all hky' k u hk
  · obtain ⟨a1, a2⟩ := b4 u t' s hs
    have := hmono u a1
    exact ⟨Or.inr a1, by omega⟩
  · rcases hu with hu | hu
    · rw [hu]; exact hz
    · exact b5 u hu
set_option maxRecDepth 16384 in
/-- ways of k edges -/
def Wk (S : Nat → Nat → Int → Prop) (E : Nat → Nat → Nat → Int → Prop) : Nat → Nat → Int → Prop
  | 0, z, W => ∃ t, S z t W
  | k + 1, z, W => ∃ y t c W', Wk S E k y W' ∧ E y z t c ∧ W = W' + c
set_option maxRecDepth 16384 in
def CK (S : Nat → Nat → Int → Prop) (E : Nat → Nat → Nat → Int → Prop) (K : Nat) (rc : Nat → Prop) (d : Nat → Int) : Prop := ∀ j z W, j ≤ K → Wk S E j z W → rc z ∧ W ≤ d z
set_option maxRecDepth 16384 in
theorem CK.mono {S : Nat → Nat → Int → Prop} {E : Nat → Nat → Nat → Int → Prop} {K : Nat} {rc rc' : Nat → Prop} {d d' : Nat → Int} (h : CK S E K rc d) (hm : ∀ u, rc u → rc' u ∧ d u ≤ d' u) : CK S E K rc' d' := by
  intro j z W hj hw
  obtain ⟨a, b⟩ := h j z W hj hw
  obtain ⟨c, e⟩ := hm z a
  exact ⟨c, by omega⟩
set_option maxRecDepth 16384 in
theorem CK.round {S : Nat → Nat → Int → Prop} {E : Nat → Nat → Nat → Int → Prop} {K : Nat} {rc rc' : Nat → Prop} {d d' : Nat → Int} (h : CK S E K rc d) (hm : ∀ u, rc u → rc' u ∧ d u ≤ d' u) (hr : ∀ y z t c, E y z t c → rc y → rc' z ∧ d y + c ≤ d' z) : CK S E (K + 1) rc' d' := by
  intro j z W hj hw
  cases j with
  | zero => exact (h.mono hm) 0 z W (by omega) hw
  | succ j =>
    obtain ⟨y, t, c, W', h1, h2, h3⟩ := hw
    obtain ⟨a, b⟩ := h j y W' (by omega) h1
    obtain ⟨e, g⟩ := hr y z t c h2 a
    exact ⟨e, by omega⟩
set_option maxRecDepth 16384 in
theorem BI.ck0 {N : Nat} {S : Nat → Nat → Int → Prop} {E : Nat → Nat → Nat → Int → Prop} {rc : Nat → Prop} {d : Nat → Int} {pr : Nat → Option Nat} {tg : Nat → Nat} (h : BI N S E rc d pr tg) : CK S E 0 rc d := by
  intro j z W hj hw
  have : j = 0 := by omega
  subst this
  obtain ⟨t, ht⟩ := hw
  exact h.2.2.2.1 z t W ht
set_option maxRecDepth 16384 in
theorem BI.walk {N : Nat} {S : Nat → Nat → Int → Prop} {E : Nat → Nat → Nat → Int → Prop} {rc : Nat → Prop} {d : Nat → Int} {pr : Nat → Option Nat} {tg : Nat → Nat} (h : BI N S E rc d pr tg) : ∀ k z, rc z → Dep pr k z → ∃ W, Wk S E k z W ∧ d z ≤ W := by
  intro k
  induction k with
  | zero => intro z hz hd; exact ⟨d z, ⟨tg z, h.1 z hz hd⟩, Int.le_refl _⟩
  | succ k ih =>
    intro z hz hd
    obtain ⟨y, h1, h2⟩ := hd
    obtain ⟨a1, a2, c, a3, a4⟩ := h.2.1 z y h1
    obtain ⟨W, b1, b2⟩ := ih y a2 h2
    exact ⟨W + c, ⟨y, tg z, c, W, b1, a3, rfl⟩, by omega⟩
set_option maxRecDepth 16384 in
theorem An_all {N : Nat} {S : Nat → Nat → Int → Prop} {E : Nat → Nat → Nat → Int → Prop} {rc : Nat → Prop} {d : Nat → Int} {pr : Nat → Option Nat} {tg : Nat → Nat} (h : BI N S E rc d pr tg) : ∀ k y z, rc y → An pr k y z → rc z := by
  intro k
  induction k with
  | zero => intro y z hy ha; rw [An] at ha; rw [← ha]; exact hy
  | succ k ih =>
    intro y z hy ha
    rcases ha with ha | ⟨u, h1, h2⟩
    · rw [← ha]; exact hy
    · exact ih u z (h.2.1 y u h1).2.1 h2
set_option maxRecDepth 16384 in
/-- a way is no longer than there are nodes -/
theorem BI.depth {N : Nat} {S : Nat → Nat → Int → Prop} {E : Nat → Nat → Nat → Int → Prop} {rc : Nat → Prop} {d : Nat → Int} {pr : Nat → Option Nat} {tg : Nat → Nat} (h : BI N S E rc d pr tg) {k z : Nat} (hz : rc z) (hd : Dep pr k z) : k + 1 ≤ N := by
  have := pigeon N (chL pr k z) (chL_nodup k z hd) (fun a ha => h.2.2.2.2 a (An_all h k z a hz (chL_mem k z a hd ha).1))
  rw [chL_len k z hd] at this; exact this
set_option maxRecDepth 16384 in
theorem BI.fix {N K : Nat} {S : Nat → Nat → Int → Prop} {E : Nat → Nat → Nat → Int → Prop} {rc : Nat → Prop} {d : Nat → Int} {pr : Nat → Option Nat} {tg : Nat → Nat} (h : BI N S E rc d pr tg) {v : Nat → Int} (hv : ∀ y z t c, E y z t c → c ≤ v z - v y) (hK : CK S E K rc d) (hN : N ≤ K + 1) (hEN : ∀ y z t c, E y z t c → z < N) :
    ∀ y z t c, E y z t c → rc y → rc z ∧ d y + c ≤ d z := by
  intro y z t c hE hy
  obtain ⟨k, hk⟩ := h.2.2.1 y hy
  by_cases ha : z ∈ chL pr k y
  · obtain ⟨a1, a2⟩ := h.an hv k y z hy (chL_mem k y z hk ha).1
    have := hv _ _ _ _ hE
    exact ⟨a1, by omega⟩
  · obtain ⟨W, w1, w2⟩ := h.walk k y hy hk
    have hp := pigeon N (z :: chL pr k y) (List.nodup_cons.mpr ⟨ha, chL_nodup k y hk⟩) (fun a hm => by
      rcases List.mem_cons.mp hm with hm | hm
      · rw [hm]; exact hEN _ _ _ _ hE
      · exact h.2.2.2.2 a (An_all h k y a hy (chL_mem k y a hk hm).1))
    rw [List.length_cons, chL_len k y hk] at hp
    obtain ⟨b1, b2⟩ := hK (k + 1) z (W + c) (by omega) ⟨y, t, c, W, w1, hE, rfl⟩
    exact ⟨b1, by omega⟩
