/-! ===== the class's planner: who may move ===== -/
set_option maxRecDepth 16384 in
def FrL (L : List Nat) (a b : tw_T) : Prop := gR b = gR a ∧ gJ b = gJ a ∧ gN b = gN a ∧ ∀ f, f ∉ L → gI b f = gI a f
set_option maxRecDepth 16384 in
theorem FrL.rf {L : List Nat} {a : tw_T} : FrL L a a := ⟨rfl, rfl, rfl, fun _ _ => rfl⟩
set_option maxRecDepth 16384 in
theorem FrL.tr {L : List Nat} {a b c : tw_T} (h : FrL L a b) (g : FrL L b c) : FrL L a c := ⟨g.1.trans h.1, g.2.1.trans h.2.1, g.2.2.1.trans h.2.2.1, fun f hf => (g.2.2.2 f hf).trans (h.2.2.2 f hf)⟩
set_option maxRecDepth 16384 in
theorem FrL.mono {L L' : List Nat} {a b : tw_T} (h : FrL L a b) (hl : ∀ f, f ∈ L → f ∈ L') : FrL L' a b := ⟨h.1, h.2.1, h.2.2.1, fun f hf => h.2.2.2 f (fun h9 => hf (hl f h9))⟩
set_option maxRecDepth 16384 in
theorem FrL.s {L : List Nat} {a b : tw_T} {f k j : Nat} {v : Int32} (h : FrL L a b) (hf : f ∈ L) : FrL L a (sI b f k j v) := ⟨h.1, h.2.1, h.2.2.1, fun g hg => by rw [hI_n (fun h9 => hg (by rw [h9]; exact hf))]; exact h.2.2.2 g hg⟩
set_option maxRecDepth 16384 in
/-- the planner's own references, its years and its groups -/
def PLX (Y G : Nat) (τ : tw_T) : Prop := gR τ 8 = rXs 7 ∧ gR τ 15 = rXd 30 ∧ gR τ 16 = rXd 30 ∧ gR τ 24 = rXd 6 ∧ gR τ 25 = rXd 6 ∧ gI τ 8 0 9 = i32 Y ∧ gI τ 8 0 8 = i32 G
set_option maxRecDepth 16384 in
theorem PLX.fr {L : List Nat} {Y G : Nat} {a b : tw_T} (h : PLX Y G a) (g : FrL L a b) (h8 : 8 ∉ L) : PLX Y G b := by
  unfold PLX at h ⊢
  rw [g.1, g.2.2.2 8 h8]; exact h
section PXs
variable {Y G j : Nat} {τ : tw_T}
set_option maxRecDepth 16384 in
theorem PLX.o (h : PLX Y G τ) (hj : j < 7) : gR τ 8 0 j = some 0 := by rw [h.1]; exact rXs_at hj
set_option maxRecDepth 16384 in
theorem PLX.r15 (h : PLX Y G τ) (hj : j < 30) : gR τ 15 0 j = some j := by rw [h.2.1]; exact rXd_at hj
set_option maxRecDepth 16384 in
theorem PLX.r16 (h : PLX Y G τ) (hj : j < 30) : gR τ 16 0 j = some j := by rw [h.2.2.1]; exact rXd_at hj
set_option maxRecDepth 16384 in
theorem PLX.r24 (h : PLX Y G τ) (hj : j < 6) : gR τ 24 0 j = some j := by rw [h.2.2.2.1]; exact rXd_at hj
set_option maxRecDepth 16384 in
theorem PLX.r25 (h : PLX Y G τ) (hj : j < 6) : gR τ 25 0 j = some j := by rw [h.2.2.2.2.1]; exact rXd_at hj
set_option maxRecDepth 16384 in
theorem PLX.y (h : PLX Y G τ) : gI τ 8 0 9 = i32 Y := h.2.2.2.2.2.1
set_option maxRecDepth 16384 in
theorem PLX.g (h : PLX Y G τ) : gI τ 8 0 8 = i32 G := h.2.2.2.2.2.2
end PXs
set_option maxRecDepth 16384 in
/-- who moves from y to z, of the first G groups -/
def MV (gz f : Nat → Nat → Int32) (G y z : Nat) (a b : Int32) : Prop :=
  (a = -1 ∧ ∀ t, t < G → 0 < (f t y).toInt → z ≠ y → gz t z = -1) ∨
  (∃ t, t < G ∧ a = i32 t ∧ 0 < (f t y).toInt ∧ z ≠ y ∧ gz t z ≠ -1 ∧ b.toInt = (gz t z).toInt - (gz t y).toInt ∧ ∀ t', t' < G → 0 < (f t' y).toInt → gz t' z ≠ -1 → (gz t' z).toInt - (gz t' y).toInt ≤ b.toInt)
set_option maxRecDepth 16384 in
theorem MV.keep {gz f : Nat → Nat → Int32} {G y z : Nat} {a b : Int32} (h : MV gz f G y z a b) (hk : 0 < (f G y).toInt → z ≠ y → gz G z ≠ -1 → a ≠ -1 ∧ (gz G z).toInt - (gz G y).toInt ≤ b.toInt) : MV gz f (G + 1) y z a b := by
  rcases h with ⟨h1, h2⟩ | ⟨t, h1, h2, h3, h4, h5, h6, h7⟩
  · refine Or.inl ⟨h1, fun t ht hf hz => ?_⟩
    by_cases e : t = G
    · rw [e] at hf ⊢
      by_cases e2 : gz G z = -1
      · exact e2
      · exact absurd h1 (hk hf hz e2).1
    · exact h2 t (by omega) hf hz
  · refine Or.inr ⟨t, by omega, h2, h3, h4, h5, h6, fun t' ht' hf hg => ?_⟩
    by_cases e : t' = G
    · rw [e] at hf hg ⊢; exact (hk hf h4 hg).2
    · exact h7 t' (by omega) hf hg
set_option maxRecDepth 16384 in
theorem MV.take {gz f : Nat → Nat → Int32} {G y z : Nat} {a b c : Int32} (h : MV gz f G y z a b) (hG : G < 2147483648) (hf : 0 < (f G y).toInt) (hz : z ≠ y) (hg : gz G z ≠ -1) (hab : a = -1 ∨ b.toInt < c.toInt) (hc : c.toInt = (gz G z).toInt - (gz G y).toInt) : MV gz f (G + 1) y z (i32 G) c := by
  refine Or.inr ⟨G, by omega, rfl, hf, hz, hg, hc, fun t' ht' hf' hg' => ?_⟩
  by_cases e : t' = G
  · rw [e]; omega
  · rcases h with ⟨h1, h2⟩ | ⟨t, h1, h2, h3, h4, h5, h6, h7⟩
    · exact absurd (h2 t' (by omega) hf' hz) hg'
    · rcases hab with hab | hab
      · rw [h2] at hab; exact absurd hab (not_m1 (by omega))
      · have := h7 t' (by omega) hf' hg'; omega
set_option maxRecDepth 16384 in
/-- only y's row of movers has changed -/
def FrR (y : Nat) (a b : tw_T) : Prop := gR b = gR a ∧ gJ b = gJ a ∧ gN b = gN a ∧ ∀ f k, ¬ ((f = 28 ∨ f = 29) ∧ k = y) → gI b f k = gI a f k
set_option maxRecDepth 16384 in
theorem FrR.s {y : Nat} {a b : tw_T} {f j : Nat} {v : Int32} (h : FrR y a b) (hf : f = 28 ∨ f = 29) : FrR y a (sI b f y j v) := ⟨h.1, h.2.1, h.2.2.1, fun g k hg => by rw [row_sI (by omega)]; exact h.2.2.2 g k hg⟩
set_option maxRecDepth 16384 in
theorem FrR.f {y : Nat} {a b : tw_T} {f : Nat} (h : FrR y a b) (h1 : f ≠ 28) (h2 : f ≠ 29) : gI b f = gI a f := by
  funext k; exact h.2.2.2 f k (by omega)
set_option maxRecDepth 16384 in
theorem FrR.l {y : Nat} {a b : tw_T} (h : FrR y a b) : FrL [28, 29] a b := ⟨h.1, h.2.1, h.2.2.1, fun f hf => h.f (fun h9 => hf (by rw [h9]; decide)) (fun h9 => hf (by rw [h9]; decide))⟩
set_option maxRecDepth 16384 in
theorem FrR.rf {y : Nat} {a : tw_T} : FrR y a a := ⟨rfl, rfl, rfl, fun _ _ _ => rfl⟩
section MVs
variable {Y G : Nat} {τ0 : tw_T} {Q : tw_T → Prop}
set_option maxRecDepth 16384 in
def GB (Y G : Nat) (τ : tw_T) : Prop := ∀ t z, t < G → z ≤ Y → -1 ≤ (gI τ 26 t z).toInt ∧ (gI τ 26 t z).toInt ≤ 210000
set_option maxRecDepth 16384 in
set_option maxHeartbeats 1000000 in
theorem xX_offer (hP : PLX Y G τ0) (hY : Y ≤ 6) (hG : G ≤ 30) (hB : GB Y G τ0) {g y : Nat} (hg : g < G) (hy : y < Y) (hf : 0 < (gI τ0 27 g y).toInt) {EX : tw_T → Int32 → Prop} :
    ∀ (dd i : Nat) (τ : tw_T), i + dd = Y + 1 → FrR y τ0 τ → (∀ z, z < i → MV (gI τ0 26) (gI τ0 27) (g + 1) y z (gI τ 29 y z) (gI τ 28 y z)) → (∀ z, i ≤ z → z ≤ Y → MV (gI τ0 26) (gI τ0 27) g y z (gI τ 29 y z) (gI τ 28 y z)) →
    (∀ τ' z', FrR y τ0 τ' → (∀ z, z ≤ Y → MV (gI τ0 26) (gI τ0 27) (g + 1) y z (gI τ' 29 y z) (gI τ' 28 y z)) → EX τ' z') →
    L_X4_offerMover_2 0 (i32 g) (i32 y) Q EX (dd + 1) τ (i32 i) := by
  intro dd
  induction dd with
  | zero =>
    intro i τ hi hF hA hN hE
    have hT := hP.fr hF.l (by decide)
    have e1 : i32 Y < i32 i := (lt_i32 (by omega) (by omega)).mpr (by omega)
    rw [L_X4_offerMover_2, hT.y]
    exact ⟨fun _ => hE τ _ hF (fun z hz => hA z (by omega)), fun h => absurd e1 h⟩
  | succ dd ih =>
    intro i τ hi hF hA hN hE
    have hT := hP.fr hF.l (by decide)
    have e1 : ¬ i32 Y < i32 i := fun h => absurd ((lt_i32 (by omega) (by omega)).mp h) (by omega)
    have e2 : (i32 i = i32 y) ↔ i = y := i32_eq (by omega) (by omega)
    have vi := vpin (show i < 7 by omega) (by decide)
    have ni := i32_nat (show i < 2147483648 by omega)
    have vy := vpin (show y < 7 by omega) (by decide)
    have vy6 := vpin (show y < 6 by omega) (by decide)
    have ny := i32_nat (show y < 2147483648 by omega)
    have vg := vpin (show g < 30 by omega) (by decide)
    have ng := i32_nat (show g < 2147483648 by omega)
    have h26 : gI τ 26 = gI τ0 26 := hF.f (by decide) (by decide)
    have bi := hB g i hg (by omega)
    have by' := hB g y hg (by omega)
    have hch : (gI τ0 26 g i - gI τ0 26 g y).toInt = (gI τ0 26 g i).toInt - (gI τ0 26 g y).toInt := i32_sub (by omega) (by omega)
    have skip : (i ≠ y → gI τ0 26 g i ≠ -1 → gI τ 29 y i ≠ -1 ∧ (gI τ0 26 g i).toInt - (gI τ0 26 g y).toInt ≤ (gI τ 28 y i).toInt) → J_X4_offerMover_93 τ 0 (i32 g) (i32 y) (i32 i) Q (fun t v3 => L_X4_offerMover_2 0 (i32 g) (i32 y) Q EX (dd + 1) t v3) EX := by
      intro hk
      unfold J_X4_offerMover_93
      intro z hz
      rw [hz, i32_succ]
      refine ih (i + 1) τ (by omega) hF (fun z hz => ?_) (fun z h1 h2 => hN z (by omega) h2) hE
      by_cases e : z = i
      · rw [e]; exact (hN i (by omega) (by omega)).keep (fun _ => hk)
      · exact hA z (by omega)
    have take : i ≠ y → gI τ0 26 g i ≠ -1 → (gI τ 29 y i = -1 ∨ (gI τ 28 y i).toInt < (gI τ0 26 g i - gI τ0 26 g y).toInt) → J_X4_offerMover_74 τ 0 (i32 g) (i32 y) (i32 i) (gI τ0 26 g i - gI τ0 26 g y) Q (fun t v3 => L_X4_offerMover_2 0 (i32 g) (i32 y) Q EX (dd + 1) t v3) EX := by
      intro h1 h2 h3
      unfold J_X4_offerMover_74
      refine ⟨0, hT.o (by decide), vy6, y, by rw [ny]; exact hT.r25 (by omega), vi, fun τ6 h6 => ?_⟩
      subst h6
      refine ⟨0, hT.o (by decide), vy6, y, by rw [ny]; exact hT.r24 (by omega), vi, fun τ11 h11 => ?_⟩
      subst h11
      rw [ni]
      unfold J_X4_offerMover_93
      intro z hz
      rw [hz, i32_succ]
      have q29 : ∀ z, gI (sI (sI τ 29 y i (i32 g)) 28 y i (gI τ0 26 g i - gI τ0 26 g y)) 29 y z = if z = i then i32 g else gI τ 29 y z := fun z => by
        rw [row_sI (Or.inl (by decide)), gI_sI]
        by_cases e : z = i
        · rw [if_pos ⟨rfl, rfl, e⟩, if_pos e]
        · rw [if_neg (fun h => e h.2.2), if_neg e]
      have q28 : ∀ z, gI (sI (sI τ 29 y i (i32 g)) 28 y i (gI τ0 26 g i - gI τ0 26 g y)) 28 y z = if z = i then gI τ0 26 g i - gI τ0 26 g y else gI τ 28 y z := fun z => by
        rw [gI_sI]
        by_cases e : z = i
        · rw [if_pos ⟨rfl, rfl, e⟩, if_pos e]
        · rw [if_neg (fun h => e h.2.2), if_neg e, row_sI (Or.inl (by decide))]
      refine ih (i + 1) _ (by omega) ((hF.s (Or.inr rfl)).s (Or.inl rfl)) (fun z hz => ?_) (fun z h1 h2 => ?_) hE
      · rw [q29, q28]
        by_cases e : z = i
        · rw [if_pos e, if_pos e, e]; exact (hN i (by omega) (by omega)).take (by omega) hf h1 h2 h3 hch
        · rw [if_neg e, if_neg e]; exact hA z (by omega)
      · rw [q29, q28, if_neg (by omega), if_neg (by omega)]
        exact hN z (by omega) h2
    rw [L_X4_offerMover_2, hT.y]
    refine ⟨fun h => absurd h e1, fun _ => ⟨0, hT.o (by decide), vg, g, by rw [ng]; exact hT.r15 (by omega), vi, 0, hT.o (by decide), vg, g, by rw [ng]; exact hT.r15 (by omega), vy, ?_⟩⟩
    rw [ni, ny, ng, h26]
    intro z21 h21
    subst h21
    rw [e2]
    refine ⟨fun h9 => skip (fun h => absurd h9 h), fun h9 => ⟨0, hT.o (by decide), vg, g, hT.r15 (by omega), vi, fun h8 => ⟨0, hT.o (by decide), vy6, y, hT.r25 (by omega), vi, fun h7 => take h9 h8 (Or.inl h7), fun h7 => ⟨0, hT.o (by decide), vy6, y, hT.r24 (by omega), vi, fun h6 => skip (fun _ _ => ⟨h7, ?_⟩), fun h6 => take h9 h8 (Or.inr ?_)⟩⟩, fun h8 => skip (fun _ h => absurd h8 h)⟩⟩
    · rw [Int32.le_iff_toInt_le, hch] at h6; exact h6
    · rw [Int32.le_iff_toInt_le] at h6; omega
set_option maxRecDepth 16384 in
theorem xX_movers12 (hP : PLX Y G τ0) (hY : Y ≤ 6) (hG : G ≤ 30) (hB : GB Y G τ0) {y : Nat} (hy : y < Y) {EX : tw_T → Int32 → Prop} :
    ∀ (dd i : Nat) (τ : tw_T), i + dd = G → FrR y τ0 τ → (∀ z, z ≤ Y → MV (gI τ0 26) (gI τ0 27) i y z (gI τ 29 y z) (gI τ 28 y z)) →
    (∀ τ' z', FrR y τ0 τ' → (∀ z, z ≤ Y → MV (gI τ0 26) (gI τ0 27) G y z (gI τ' 29 y z) (gI τ' 28 y z)) → EX τ' z') →
    L_X4_findMovers_12 0 (i32 y) Q EX (dd + 1) τ (i32 i) := by
  have z0 : (0 : Int32).toInt = 0 := rfl
  intro dd
  induction dd with
  | zero =>
    intro i τ hi hF hA hE
    have hT := hP.fr hF.l (by decide)
    have e1 : i32 G ≤ i32 i := (le_i32 (by omega) (by omega)).mpr (by omega)
    have : i = G := by omega
    rw [L_X4_findMovers_12, hT.g]
    exact ⟨fun _ => hE τ _ hF (by rw [this] at hA; exact hA), fun h => absurd e1 h⟩
  | succ dd ih =>
    intro i τ hi hF hA hE
    have hT := hP.fr hF.l (by decide)
    have e1 : ¬ i32 G ≤ i32 i := fun h => absurd ((le_i32 (by omega) (by omega)).mp h) (by omega)
    have vi := vpin (show i < 30 by omega) (by decide)
    have ni := i32_nat (show i < 2147483648 by omega)
    have vy := vpin (show y < 7 by omega) (by decide)
    have ny := i32_nat (show y < 2147483648 by omega)
    have h26 : gI τ 26 = gI τ0 26 := hF.f (by decide) (by decide)
    have h27 : gI τ 27 = gI τ0 27 := hF.f (by decide) (by decide)
    rw [L_X4_findMovers_12, hT.g]
    refine ⟨fun h => absurd h e1, fun _ => ⟨0, hT.o (by decide), vi, i, by rw [ni]; exact hT.r16 (by omega), vy, ?_⟩⟩
    rw [ny, h27, Int32.le_iff_toInt_le, z0]
    unfold J_X4_findMovers_37
    simp only [↓forall_eq, i32_succ]
    refine ⟨fun h9 => ih (i + 1) τ (by omega) hF (fun z hz => (hA z hz).keep (fun h => by omega)) hE, fun h9 => ⟨Y + 2, ?_⟩⟩
    refine xX_offer (τ0 := τ) hT hY hG (by unfold GB; rw [h26]; exact hB) (show i < G by omega) hy (by rw [h27]; omega) (Y + 1) 0 τ (by omega) FrR.rf (fun z hz => by omega) (fun z _ hz => by rw [h26, h27]; exact hA z hz) (fun τ' z' a1 a2 => ?_)
    rw [h26, h27] at a2
    exact ih (i + 1) τ' (by omega) ⟨a1.1.trans hF.1, a1.2.1.trans hF.2.1, a1.2.2.1.trans hF.2.2.1, fun f k h => (a1.2.2.2 f k h).trans (hF.2.2.2 f k h)⟩ a2 hE
set_option maxRecDepth 16384 in
theorem xX_findMovers (hP : PLX Y G τ0) (hY : Y ≤ 6) (hG : G ≤ 30) (hB : GB Y G τ0) {y : Nat} (hy : y < Y)
    (hQ : ∀ τ', FrR y τ0 τ' → (∀ z, z ≤ Y → MV (gI τ0 26) (gI τ0 27) G y z (gI τ' 29 y z) (gI τ' 28 y z)) → Q τ') : F_X4_findMovers τ0 0 (i32 y) Q := by
  have vy := vpin (show y < 6 by omega) (by decide)
  have ny := i32_nat (show y < 2147483648 by omega)
  refine ⟨0, hP.o (by decide), vy, y, by rw [ny]; exact hP.r25 (by omega), xX_fillI (by decide) ⟨G + 1, ?_⟩⟩
  have q : ∀ f k j, gI (sRI τ0 29 y 7 (-1)) f k j = if f = 29 ∧ k = y ∧ j < 7 then -1 else gI τ0 f k j := fun f k j => rfl
  refine xX_movers12 hP hY hG hB hy G 0 _ (by omega) ⟨rfl, rfl, rfl, fun f k h => by funext j; rw [q, if_neg (by omega)]⟩ (fun z hz => Or.inl ⟨by rw [q, if_pos ⟨rfl, rfl, by omega⟩], fun t ht => by omega⟩) (fun τ' z' a1 a2 => hQ τ' a1 a2)
end MVs
