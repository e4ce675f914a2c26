/-! ===== the class's plan ===== -/
set_option maxRecDepth 16384 in
def L8 : List Nat := [8, 17, 18, 19, 26, 27, 28, 29]
set_option maxRecDepth 16384 in
theorem RelA.frameP {n nk nl no nt nd na ns : Nat} {x x' m : tw_T} (hA : RelA n nk nl no nt nd na ns x m) (h : FrL L8 x x') : RelA n nk nl no nt nd na ns x' m := by
  obtain ⟨h1, h2, h3, h0⟩ := h
  have h4 : ∀ f, f ≠ 8 → f ≠ 17 → f ≠ 18 → f ≠ 19 → f ≠ 26 → f ≠ 27 → f ≠ 28 → f ≠ 29 → gI x' f = gI x f := fun f a b c d e g i j => h0 f (by simp only [L8, List.mem_cons, List.not_mem_nil, or_false]; omega)
  obtain ⟨hM, hX, hK, hL, hC, hO, hG, hT, hD, hW⟩ := hA
  refine ⟨hM, by rw [h1]; exact hX, ?_, ?_, ?_, ?_, ?_, ?_, ?_, ?_⟩
  · simpa only [h1, h2, h3, h4, ne_eq, Nat.reduceEqDiff, not_false_eq_true, reduceCtorEq] using hK
  · simpa only [h1, h2, h3, h4, ne_eq, Nat.reduceEqDiff, not_false_eq_true, reduceCtorEq] using hL
  · simpa only [h1, h2, h3, h4, ne_eq, Nat.reduceEqDiff, not_false_eq_true, reduceCtorEq] using hC
  · simpa only [h1, h2, h3, h4, ne_eq, Nat.reduceEqDiff, not_false_eq_true, reduceCtorEq] using hO
  · simpa only [h1, h2, h3, h4, ne_eq, Nat.reduceEqDiff, not_false_eq_true, reduceCtorEq] using hG
  · simpa only [h1, h2, h3, h4, ne_eq, Nat.reduceEqDiff, not_false_eq_true, reduceCtorEq] using hT
  · simpa only [h1, h2, h3, h4, ne_eq, Nat.reduceEqDiff, not_false_eq_true, reduceCtorEq] using hD
  · simpa only [h1, h2, h3, h4, ne_eq, Nat.reduceEqDiff, not_false_eq_true, reduceCtorEq] using hW
set_option maxRecDepth 16384 in
theorem RelA.frame6 {n nk nl no nt nd na ns : Nat} {x m m' : tw_T} (hA : RelA n nk nl no nt nd na ns x m) (h : Fr6 m m') : RelA n nk nl no nt nd na ns x m' := by
  obtain ⟨h1, h2, h0⟩ := h
  have h4 : ∀ f, f ≠ 143 → f ≠ 144 → f ≠ 145 → f ≠ 146 → f ≠ 147 → f ≠ 148 → gI m' f = gI m f := fun f a b c d e g => h0 f (by omega)
  obtain ⟨hM, hX, hK, hL, hC, hO, hG, hT, hD, hW⟩ := hA
  refine ⟨h1, hX, ?_, ?_, ?_, ?_, ?_, ?_, ?_, ?_⟩
  · simpa only [h2, h4, ne_eq, Nat.reduceEqDiff, not_false_eq_true, reduceCtorEq] using hK
  · simpa only [h2, h4, ne_eq, Nat.reduceEqDiff, not_false_eq_true, reduceCtorEq] using hL
  · simpa only [h2, h4, ne_eq, Nat.reduceEqDiff, not_false_eq_true, reduceCtorEq] using hC
  · simpa only [h2, h4, ne_eq, Nat.reduceEqDiff, not_false_eq_true, reduceCtorEq] using hO
  · simpa only [h2, h4, ne_eq, Nat.reduceEqDiff, not_false_eq_true, reduceCtorEq] using hG
  · simpa only [h2, h4, ne_eq, Nat.reduceEqDiff, not_false_eq_true, reduceCtorEq] using hT
  · simpa only [h2, h4, ne_eq, Nat.reduceEqDiff, not_false_eq_true, reduceCtorEq] using hD
  · simpa only [h2, h4, ne_eq, Nat.reduceEqDiff, not_false_eq_true, reduceCtorEq] using hW
set_option maxRecDepth 16384 in
/-- a group's gain in a year -/
def gG (m : tw_T) (l y : Nat) : Int32 := if aB m l y = true then wZ m l y else -1
set_option maxRecDepth 16384 in
/-- only group G's rows have changed -/
def FrG (G : Nat) (a b : tw_T) : Prop := gR b = gR a ∧ gJ b = gJ a ∧ gN b = gN a ∧ ∀ f k, ¬ ((f = 26 ∨ f = 27) ∧ k = G) → gI b f k = gI a f k
set_option maxRecDepth 16384 in
theorem FrG.s {G : Nat} {a b : tw_T} {f j : Nat} {v : Int32} (h : FrG G a b) (hf : f = 26 ∨ f = 27) : FrG G a (sI b f G j v) := ⟨h.1, h.2.1, h.2.2.1, fun g k hg => by rw [row_sI (by omega)]; exact h.2.2.2 g k hg⟩
set_option maxRecDepth 16384 in
theorem FrG.f {G : Nat} {a b : tw_T} {f : Nat} (h : FrG G a b) (h1 : f ≠ 26) (h2 : f ≠ 27) : gI b f = gI a f := by
  funext k; exact h.2.2.2 f k (by omega)
set_option maxRecDepth 16384 in
theorem FrG.l {G : Nat} {a b : tw_T} (h : FrG G a b) : FrL [26, 27] a b := ⟨h.1, h.2.1, h.2.2.1, fun f hf => h.f (fun h9 => hf (by rw [h9]; decide)) (fun h9 => hf (by rw [h9]; decide))⟩
set_option maxRecDepth 16384 in
theorem FrG.rf {G : Nat} {a : tw_T} : FrG G a a := ⟨rfl, rfl, rfl, fun _ _ _ => rfl⟩
section PA
variable {n nk nl no nt nd na ns Y G : Nat} {x m τ0 : tw_T} {Q : tw_T → Prop}
set_option maxRecDepth 16384 in
theorem xX_ag2 (hA : RelA n nk nl no nt nd na ns τ0 m) (hP : PLX Y G τ0) (hY : Y ≤ 6) (hG : G < 30) {l : Nat} (hl : l < nl) (h7 : gI τ0 8 0 7 = yr (gI m 0 0 3)) {EX : tw_T → Int32 → Prop} :
    ∀ (dd i : Nat) (τ : tw_T), i + dd = Y → FrG G τ0 τ → (∀ y, y < i → gI τ 26 G y = gG m l y) → (∀ τ' z', FrG G τ0 τ' → (∀ y, y < Y → gI τ' 26 G y = gG m l y) → EX τ' z') →
    L_X4_addGroup_2 0 l Q EX (dd + 1) τ (i32 i) := by
  intro dd
  induction dd with
  | zero =>
    intro i τ hi hF hI hE
    have hT := hP.fr hF.l (by decide)
    have e1 : i32 Y ≤ i32 i := (le_i32 (by omega) (by omega)).mpr (by omega)
    rw [L_X4_addGroup_2, hT.y]
    exact ⟨fun _ => hE τ _ hF (fun y hy => hI y (by omega)), fun h => absurd e1 h⟩
  | succ dd ih =>
    intro i τ hi hF hI hE
    have hT := hP.fr hF.l (by decide)
    have e1 : ¬ i32 Y ≤ i32 i := fun h => absurd ((le_i32 (by omega) (by omega)).mp h) (by omega)
    have vi := vpin (show i < 7 by omega) (by decide)
    have ni := i32_nat (show i < 2147483648 by omega)
    have vg := vpin hG (by decide)
    have ng := i32_nat (show G < 2147483648 by omega)
    have hAτ := hA.frameP (hF.l.mono (by simp [L8]))
    obtain ⟨q, q1, q2, q3, q4, q5, q6, q7, q8, q9, q10, q11, -⟩ := hAτ.lot hl
    have go : ∀ u : Int32, u = gG m l i → J_X4_addGroup_44 τ 0 l (i32 i) u (i32 i) G Q (fun t v2 => L_X4_addGroup_2 0 l Q EX (dd + 1) t v2) EX := by
      intro u hu
      unfold J_X4_addGroup_44
      rw [ni]
      refine ⟨vi, fun τ2 h2 z hz => ?_⟩
      rw [h2, hz, i32_succ]
      refine ih (i + 1) _ (by omega) (hF.s (Or.inl rfl)) (fun y hy => ?_) hE
      rw [gI_sI]
      by_cases e : y = i
      · rw [if_pos ⟨rfl, rfl, e⟩, hu, e]
      · rw [if_neg (fun h => e h.2.2)]; exact hI y (by omega)
    rw [L_X4_addGroup_2, hT.y]
    refine ⟨fun h => absurd h e1, fun _ z5 h5 => ⟨0, hT.o (by decide), ?_⟩⟩
    rw [hF.f (f := 8) (by decide) (by decide), h7] at h5
    rw [hT.g]
    refine ⟨vg, G, by rw [ng]; exact hT.r15 hG, ?_⟩
    rw [xX_good, q9, q10, h5]
    by_cases e : aB m l i = true
    · have e' := e
      unfold aB at e'
      rw [bz_t (of_decide_eq_true e')]
      refine ⟨fun h => absurd h (by decide), fun _ => ?_⟩
      rw [hAτ.wX hl q3 q2]
      refine go _ ?_
      unfold gG wZ
      rw [if_pos e, q3, i32_nat (by omega)]
    · have e' := e
      unfold aB at e'
      rw [bz_f (of_decide_eq_false (by simpa using e'))]
      refine ⟨fun _ => go _ ?_, fun h => absurd rfl h⟩
      unfold gG
      rw [if_neg e]
set_option maxRecDepth 16384 in
theorem xX_addGroup (hA : RelA n nk nl no nt nd na ns τ0 m) (hP : PLX Y G τ0) (hY : Y ≤ 6) (hG : G < 30) {l : Nat} (hl : l < nl) (h7 : gI τ0 8 0 7 = yr (gI m 0 0 3))
    (hQ : ∀ τ', FrL [8, 26, 27] τ0 τ' → (∀ f k, f = 26 ∨ f = 27 → k ≠ G → gI τ' f k = gI τ0 f k) → (∀ y, y < Y → gI τ' 26 G y = gG m l y) → gI τ' 26 G Y = 0 → (∀ y, y < 7 → gI τ' 27 G y = 0) → PLX Y (G + 1) τ' → gI τ' 8 0 7 = yr (gI m 0 0 3) → Q τ') : F_X4_addGroup τ0 0 l Q := by
  refine ⟨Y + 1, xX_ag2 hA hP hY hG hl h7 Y 0 τ0 (by omega) FrG.rf (fun y hy => by omega) (fun τ z' a1 a2 => ?_)⟩
  have hT := hP.fr a1.l (by decide)
  have vg := vpin hG (by decide)
  have ng := i32_nat (show G < 2147483648 by omega)
  have vY := vpin (show Y < 7 by omega) (by decide)
  have nY := i32_nat (show Y < 2147483648 by omega)
  refine ⟨0, hT.o (by decide), ?_⟩
  rw [hT.g, hT.y]
  refine ⟨vg, G, by rw [ng]; exact hT.r15 hG, vY, fun τ21 h21 => ?_⟩
  rw [nY] at h21
  have f21 : FrG G τ0 τ21 := by rw [h21]; exact a1.s (Or.inl rfl)
  have hT2 := hP.fr f21.l (by decide)
  refine ⟨0, hT2.o (by decide), ?_⟩
  rw [hT2.g]
  refine ⟨vg, G, by rw [ng]; exact hT2.r16 hG, xX_fillI (by decide) (fun τ26 h26 => ?_)⟩
  have q : ∀ f k j, gI (sRI τ21 27 G 7 0) f k j = if f = 27 ∧ k = G ∧ j < 7 then 0 else gI τ21 f k j := fun f k j => rfl
  have f25 : FrG G τ0 (sRI τ21 27 G 7 0) := ⟨f21.1, f21.2.1, f21.2.2.1, fun f k h => by funext j; rw [q, if_neg (by omega)]; rw [f21.2.2.2 f k h]⟩
  have hT5 := hP.fr f25.l (by decide)
  rw [hT5.g, i32_succ] at h26
  have k26 : ∀ f, f ≠ 8 → gI τ26 f = gI (sRI τ21 27 G 7 0) f := fun f hf => by rw [h26, hI_n hf]
  have r21 : ∀ y, gI τ21 26 G y = if y = Y then 0 else gI τ 26 G y := fun y => by
    rw [h21, gI_sI]
    by_cases e : y = Y
    · rw [if_pos ⟨rfl, rfl, e⟩, if_pos e]
    · rw [if_neg (fun h => e h.2.2), if_neg e]
  refine hQ τ26 ?_ (fun f k hf hk => ?_) (fun y hy => ?_) ?_ (fun y hy => ?_) ?_ ?_
  · rw [h26]; exact (f25.l.mono (by simp)).s (by decide)
  · rw [k26 f (by omega)]; exact f25.2.2.2 f k (by omega)
  · rw [k26 26 (by decide), q, if_neg (by omega), r21, if_neg (by omega)]; exact a2 y hy
  · rw [k26 26 (by decide), q, if_neg (by omega), r21, if_pos rfl]
  · rw [k26 27 (by decide), q, if_pos ⟨rfl, rfl, hy⟩]
  · unfold PLX
    rw [h26]
    refine ⟨hT5.1, hT5.2.1, hT5.2.2.1, hT5.2.2.2.1, hT5.2.2.2.2.1, ?_, ?_⟩
    · rw [gI_sI, if_neg (by omega)]; exact hT5.y
    · rw [gI_sI, if_pos ⟨rfl, rfl, rfl⟩]
  · rw [h26, gI_sI, if_neg (by omega), f25.f (by decide) (by decide)]; exact h7
end PA
