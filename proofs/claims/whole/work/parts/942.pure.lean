/-! ===== the class's chains walked ===== -/
set_option maxRecDepth 16384 in
def FP (τ : tw_T) (t y : Nat) : Int := (gI τ 27 t y).toInt
set_option maxRecDepth 16384 in
theorem FP_upd {t z : Nat} {τ : tw_T} {u : Int32} : FP (sI τ 27 t z u) = upd2 (FP τ) t z u.toInt := by
  funext t' y'
  unfold upd2 FP
  rw [gI_sI]
  by_cases e : t' = t ∧ y' = z
  · rw [if_pos e, if_pos ⟨rfl, e.1, e.2⟩]
  · rw [if_neg e, if_neg (fun h => e h.2)]
set_option maxRecDepth 16384 in
/-- no more than w can move along the chain, w being fit for each of its steps -/
def WOK (pr : Nat → Option Nat) (g : Nat → Nat → Int) (w : Int) : Nat → Nat → Prop
  | 0, _ => True
  | k + 1, z => ∀ y, pr z = some y → w ≤ g z y ∧ WOK pr g w k y
set_option maxRecDepth 16384 in
theorem prC_some {Y z y : Nat} {τ : tw_T} (h : prC Y τ z = some y) : z ≤ Y ∧ gI τ 19 0 z ≠ -1 ∧ gI τ 19 0 z = i32 y := by
  unfold prC at h
  by_cases h9 : z ≤ Y ∧ gI τ 19 0 z ≠ -1
  · rw [if_pos h9] at h
    exact ⟨h9.1, h9.2, uN_eq (Option.some.inj h)⟩
  · rw [if_neg h9] at h; cases h
set_option maxRecDepth 16384 in
theorem prC_none {Y z : Nat} {τ : tw_T} (h : prC Y τ z = none) (hz : z ≤ Y) : gI τ 19 0 z = -1 := by
  unfold prC at h
  by_cases h9 : gI τ 19 0 z = -1
  · exact h9
  · rw [if_pos ⟨hz, h9⟩] at h; cases h
section WD
variable {Y G cur : Nat} {τ : tw_T} {v : Nat → Int}
set_option maxRecDepth 16384 in
/-- a step of a chain -/
theorem HC.step (hH : HC cur Y G τ) (hY : Y ≤ 6) (hG : G ≤ 30) {z y : Nat} (hp : prC Y τ z = some y) : z ≤ Y ∧ y < Y ∧ z ≠ y ∧ rcC Y τ y ∧ gI τ 19 0 z ≠ -1 ∧ gI τ 19 0 z = i32 y ∧ gI τ 17 0 y = 0 ∧ ∃ t, t < G ∧ gI τ 29 y z = i32 t ∧ tgC cur Y τ z = t ∧ 0 < FP τ t y ∧ gI τ 26 t z ≠ -1 ∧ EC Y τ y z t ((gI τ 26 t z).toInt - (gI τ 26 t y).toInt) ∧ dC τ z ≤ dC τ y + ((gI τ 26 t z).toInt - (gI τ 26 t y).toInt) := by
  obtain ⟨h1, h2, h3⟩ := prC_some hp
  obtain ⟨a1, a2, c, a3, a4⟩ := hH.2.1.2.1 z y hp
  obtain ⟨f1, f2, f3, f4, f5, f6, f7⟩ := a3
  rcases hH.1 y z f1 f2 f4 with ⟨g1, -⟩ | ⟨t, g1, g2, g3, g4, g5, g6, g7⟩
  · exact absurd g1 f5
  · have ht : tgC cur Y τ z = t := by rw [f6, g2]; exact uN_i32 (by omega)
    exact ⟨h1, f1, f3, a2, h2, h3, f4, t, g1, g2, ht, g3, g5, ⟨f1, f2, f3, f4, f5, by rw [← f6, ht], by omega⟩, by omega⟩
set_option maxRecDepth 16384 in
theorem xX_width17 (hT : PLX Y G τ) (hY : Y ≤ 6) (hG : G ≤ 30) (hH : HC cur Y G τ) {Q : Int32 → tw_T → Prop} :
    ∀ (k z i : Nat) (w0 : Int32), Dep (prC Y τ) k z → z ≤ Y → i + k ≤ Y → 1 ≤ w0.toInt → (∀ w : Int32, 1 ≤ w.toInt → w.toInt ≤ w0.toInt → WOK (prC Y τ) (fun z y => FP τ (tgC cur Y τ z) y) w.toInt k z → Q w τ) →
    L_X4_widthOf_17 0 Q (fun (τ22 : tw_T) (z23 : Int32) (z24 : Int32) (z25 : Int32) => Q z23 τ22) (k + 1) τ w0 (i32 z) (i32 i) := by
  intro k
  induction k with
  | zero =>
    intro z i w0 hd hz hi hw hQ
    have vz := vpin (show z < 7 by omega) (by decide)
    have nz := i32_nat (show z < 2147483648 by omega)
    have hq := hQ w0 hw (Int.le_refl _) trivial
    rw [L_X4_widthOf_17, hT.y]
    refine ⟨fun _ => hq, fun _ => ⟨0, hT.o (by decide), vz, fun _ => hq, fun h => ?_⟩⟩
    rw [nz] at h
    exact absurd (prC_none hd hz) h
  | succ k ih =>
    intro z i w0 hd hz hi hw hQ
    obtain ⟨y, hp, hdy⟩ := hd
    obtain ⟨s1, s2, s3, s4, s5, s6, s7, t, s8, s9, s10, s11, s12, s13, s14⟩ := hH.step hY hG hp
    have e1 : ¬ i32 Y ≤ i32 i := fun h => absurd ((le_i32 (by omega) (by omega)).mp h) (by omega)
    have vz := vpin (show z < 7 by omega) (by decide)
    have nz := i32_nat (show z < 2147483648 by omega)
    have vy := vpin (show y < 7 by omega) (by decide)
    have vy6 := vpin (show y < 6 by omega) (by decide)
    have ny := i32_nat (show y < 2147483648 by omega)
    have vt := vpin (show t < 30 by omega) (by decide)
    have nt' := i32_nat (show t < 2147483648 by omega)
    rw [L_X4_widthOf_17, hT.y]
    refine ⟨fun h => absurd h e1, fun _ => ⟨0, hT.o (by decide), vz, ?_⟩⟩
    rw [nz]
    refine ⟨fun h => absurd h s5, fun _ => ⟨0, hT.o (by decide), vz, ?_⟩⟩
    rw [s6]
    intro z7 h7
    subst h7
    refine ⟨0, hT.o (by decide), 0, hT.o (by decide), vy6, y, by rw [ny]; exact hT.r25 (by omega), vz, ?_⟩
    rw [s9]
    refine ⟨vt, t, by rw [nt']; exact hT.r16 (by omega), vy, ?_⟩
    rw [ny]
    intro z16 h16 z17 h17
    rw [h17, i32_succ]
    have hz16 : 1 ≤ z16.toInt ∧ z16.toInt ≤ w0.toInt ∧ z16.toInt ≤ FP τ t y := by
      rw [h16]
      unfold FP at s11 ⊢
      by_cases e : gI τ 27 t y < w0
      · rw [if_pos e]; rw [Int32.lt_iff_toInt_lt] at e; omega
      · rw [if_neg e]; rw [Int32.lt_iff_toInt_lt] at e; omega
    refine ih y (i + 1) z16 hdy (by omega) (by omega) hz16.1 (fun w w1 w2 w3 => hQ w w1 (by omega) (fun y' hp' => ?_))
    rw [hp] at hp'
    cases hp'
    refine ⟨?_, w3⟩
    simp only [s10]
    omega
set_option maxRecDepth 16384 in
theorem xX_widthOf (hT : PLX Y G τ) (hY : Y ≤ 6) (hG : G ≤ 30) (hH : HC cur Y G τ) {Q : Int32 → tw_T → Prop} {e k : Nat} {left : Int32} (he : e ≤ Y) (hd : Dep (prC Y τ) k e) (hk : k ≤ Y) (hl : 1 ≤ left.toInt) (hr : 1 ≤ (gI τ 17 0 e).toInt)
    (hQ : ∀ w : Int32, 1 ≤ w.toInt → w.toInt ≤ left.toInt → w.toInt ≤ (gI τ 17 0 e).toInt → WOK (prC Y τ) (fun z y => FP τ (tgC cur Y τ z) y) w.toInt k e → Q w τ) : F_X4_widthOf τ 0 (i32 e) left Q := by
  have ve := vpin (show e < 7 by omega) (by decide)
  have ne := i32_nat (show e < 2147483648 by omega)
  refine ⟨0, hT.o (by decide), ve, fun z20 h20 => ⟨k + 1, ?_⟩⟩
  rw [ne] at h20
  have hz : 1 ≤ z20.toInt ∧ z20.toInt ≤ left.toInt ∧ z20.toInt ≤ (gI τ 17 0 e).toInt := by
    rw [h20]
    by_cases e' : gI τ 17 0 e < left
    · rw [if_pos e']; rw [Int32.lt_iff_toInt_lt] at e'; omega
    · rw [if_neg e']; rw [Int32.lt_iff_toInt_lt] at e'; omega
  exact xX_width17 hT hY hG hH k e 0 z20 hd he (by omega) hz.1 (fun w w1 w2 w3 => hQ w w1 (by omega) (by omega) w3)
set_option maxRecDepth 16384 in
/-- what holds of a bottle placed, under the new prices -/
def Pc (τ : tw_T) (Y : Nat) (v' : Nat → Int) (t y : Nat) : Prop := gI τ 26 t y ≠ -1 ∧ ∀ u, u < Y + 1 → gI τ 26 t u ≠ -1 → (gI τ 26 t u).toInt - v' u ≤ (gI τ 26 t y).toInt - v' y
set_option maxRecDepth 16384 in
def Wc (τ : tw_T) (t y : Nat) : Int := (gI τ 26 t y).toInt
set_option maxRecDepth 16384 in
set_option maxHeartbeats 1000000 in
theorem xX_move16 (hT : PLX Y G τ) (hY : Y ≤ 6) (hG : G ≤ 30) (hH : HC cur Y G τ) (hfix : ∀ y z t c, EC Y τ y z t c → rcC Y τ y → rcC Y τ z ∧ dC τ y + c ≤ dC τ z) (hv : ∀ y z t c, EC Y τ y z t c → c ≤ v z - v y) {v' : Nat → Int} {β : Int}
    (hvv : ∀ y, v y ≤ v' y ∧ (rcC Y τ y → dC τ y - β ≤ v' y) ∧ (v' y = v y ∨ (rcC Y τ y ∧ v y < dC τ y - β ∧ v' y = dC τ y - β))) {τ1 : tw_T} (h1 : FrL [17] τ τ1)
    (hP0 : ∀ t y, t < G → y < Y + 1 → 0 < FP τ t y → Pc τ Y v' t y) (hsum : ∀ t, t < G → sm (FP τ t) (Y + 1) ≤ 360) {w : Int32} (hw1 : 1 ≤ w.toInt) (hw2 : w.toInt ≤ 360) {e : Nat} {u1 : Int32} {Q : tw_T → Prop} {EX : tw_T → Int32 → Int32 → Prop} :
    ∀ (k z i : Nat) (τc : tw_T), Dep (prC Y τ) k z → rcC Y τ z → i + k ≤ Y → v z ≤ dC τ z - β → WOK (prC Y τ) (fun z y => FP τ (tgC cur Y τ z) y) w.toInt k z → FrL [27] τ1 τc → WI (Y + 1) G (Wc τ) (Pc τ Y v') (FP τ) (FP τc) (dC τ) (prC Y τ) e z w.toInt →
    (∀ τ' z' i', FrL [27] τ1 τ' → rcC Y τ z' → prC Y τ z' = none → v z' ≤ dC τ z' - β → WI (Y + 1) G (Wc τ) (Pc τ Y v') (FP τ) (FP τ') (dC τ) (prC Y τ) e z' w.toInt → EX τ' (i32 z') i') →
    L_X4_moveAlong_16 0 u1 w Q EX (k + 1) τc (i32 z) (i32 i) := by
  intro k
  induction k with
  | zero =>
    intro z i τc hd hr hi hvz hwo hF hW hE
    have hz := hr.1
    have hTc := (hT.fr h1 (by decide)).fr hF (by decide)
    have vz := vpin (show z < 7 by omega) (by decide)
    have nz := i32_nat (show z < 2147483648 by omega)
    have h19 : gI τc 19 = gI τ 19 := (hF.2.2.2 19 (by decide)).trans (h1.2.2.2 19 (by decide))
    have hq := hE τc z (i32 i) hF hr hd hvz hW
    rw [L_X4_moveAlong_16, hTc.y]
    refine ⟨fun _ => hq, fun _ => ⟨0, hTc.o (by decide), vz, fun _ => hq, fun h => ?_⟩⟩
    rw [nz, h19] at h
    exact absurd (prC_none hd hz) h
  | succ k ih =>
    intro z i τc hd hr hi hvz hwo hF hW hE
    have hz := hr.1
    have hTc := (hT.fr h1 (by decide)).fr hF (by decide)
    obtain ⟨y, hp, hdy⟩ := hd
    obtain ⟨s1, s2, s3, s4, s5, s6, s7, t, s8, s9, s10, s11, s12, s13, s14⟩ := hH.step hY hG hp
    obtain ⟨o1, o2⟩ := hwo y hp
    simp only [s10] at o1
    have e1 : ¬ i32 Y ≤ i32 i := fun h => absurd ((le_i32 (by omega) (by omega)).mp h) (by omega)
    have vz := vpin (show z < 7 by omega) (by decide)
    have nz := i32_nat (show z < 2147483648 by omega)
    have vy := vpin (show y < 7 by omega) (by decide)
    have vy6 := vpin (show y < 6 by omega) (by decide)
    have ny := i32_nat (show y < 2147483648 by omega)
    have vt := vpin (show t < 30 by omega) (by decide)
    have nt' := i32_nat (show t < 2147483648 by omega)
    have h19 : gI τc 19 = gI τ 19 := (hF.2.2.2 19 (by decide)).trans (h1.2.2.2 19 (by decide))
    have h29 : gI τc 29 = gI τ 29 := (hF.2.2.2 29 (by decide)).trans (h1.2.2.2 29 (by decide))
    have a5 := (hfix y z t _ s13 s4).2
    have a6 := hv y z t _ s13
    have hdz : dC τ z = dC τ y + (Wc τ t z - Wc τ t y) := by unfold Wc; omega
    have hvy : v y ≤ dC τ y - β := by omega
    have pz := price_at hvv hr hvz
    have py := price_at hvv s4 hvy
    have hPy := hP0 t y s8 (by omega) s11
    have hPz : Pc τ Y v' t z := ⟨s12, fun u hu ha => by have := hPy.2 u hu ha; omega⟩
    have hW2 := hW.step hp s8 (by omega) (by omega) (fun h => s3 h.symm) hPz hdz (by omega) o1
    have hrow : ∀ u, u < Y + 1 → 0 ≤ FP τc t u ∧ FP τc t u ≤ 360 := fun u hu => by
      have h1 := hW.1
      have h3 := hW.2.2.1 t s8
      have := sm_ge1 (g := FP τc t) (Y + 1) u hu (fun j hj => h1 t j s8 hj)
      have := hsum t s8
      exact ⟨h1 t u s8 hu, by omega⟩
    have rz := hrow z (by omega)
    have ry := hrow y (by omega)
    have az : (gI τc 27 t z + w).toInt = FP τc t z + w.toInt := by unfold FP at rz ⊢; exact i32_add (by omega) (by omega)
    have gy : gI (sI τc 27 t z (gI τc 27 t z + w)) 27 t y = gI τc 27 t y := by rw [gI_sI, if_neg (by omega)]
    have ay : (gI τc 27 t y - w).toInt = FP τc t y - w.toInt := by unfold FP at ry ⊢; exact i32_sub (by omega) (by omega)
    have q29 : gI (sI τc 27 t z (gI τc 27 t z + w)) 29 y z = i32 t := by rw [hI_n (by decide), h29, s9]
    rw [L_X4_moveAlong_16, hTc.y]
    refine ⟨fun h => absurd h e1, fun _ => ⟨0, hTc.o (by decide), vz, ?_⟩⟩
    rw [nz, h19]
    refine ⟨fun h => absurd h s5, fun _ => ⟨0, hTc.o (by decide), vz, ?_⟩⟩
    rw [s6]
    intro z13 h13
    subst h13
    refine ⟨0, hTc.o (by decide), 0, hTc.o (by decide), vy6, y, by rw [ny]; exact hTc.r25 (by omega), vz, ?_⟩
    rw [h29, s9]
    refine ⟨vt, t, by rw [nt']; exact hTc.r16 (by omega), vz, vz, fun τ23 h23 => ?_⟩
    subst h23
    refine ⟨0, hTc.o (by decide), 0, hTc.o (by decide), vy6, y, by rw [ny]; exact hTc.r25 (by omega), vz, ?_⟩
    rw [q29]
    refine ⟨vt, t, by rw [nt']; exact hTc.r16 (by omega), vy, vy, ?_⟩
    rw [ny, gy]
    intro τ33 h33 z34 h34
    rw [h33, h34, i32_succ]
    refine ih y (i + 1) _ hdy s4 (by omega) hvy o2 ((hF.s (by decide)).s (by decide)) ?_ hE
    rw [FP_upd, FP_upd, az, ay]
    exact hW2
end WD
