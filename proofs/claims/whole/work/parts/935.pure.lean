/-! ===== the reference's loops of the search ===== -/
section BW
variable {n nk nl no nt nd na ns Y : Nat} {x m τ0 : tw_T} {v : Nat → Int} {Q : Int32 → tw_T → Prop}
set_option maxRecDepth 16384 in
theorem r6 {τ : tw_T} {j : Nat} (h : gR τ = rM) (hj : 43 ≤ j ∧ j ≤ 48) : gR τ 0 0 j = some 0 := by rw [h]; exact rM_at (by omega)
set_option maxRecDepth 16384 in
set_option maxHeartbeats 1000000 in
theorem eM_bw181 (hA : RelA n nk nl no nt nd na ns x m) (hF : Fr6 m τ0) (hv : ∀ y z t c, EM m nl Y τ0 y z t c → c ≤ v z - v y) (hY : Y ≤ 6) {l y : Nat} (hl : l < nl) (hy : y < Y) (hfl : flM τ0 l y ≠ 0) {M : Int} (hM0 : 0 ≤ M) (hM : M + 210000 < 900000000) {u3 : Int32} {EX : tw_T → Int32 → Prop} :
    ∀ (dd i : Nat) (τ : tw_T), i + dd = Y → RS m nl Y τ0 (M + 210000) τ → rcM Y τ y → (-M ≤ dM τ y ∧ dM τ y ≤ M) →
    (∀ τ', RS m nl Y τ0 (M + 210000) τ' → MonM Y τ τ' → gI τ' 146 0 y = gI τ 146 0 y → (∀ z, i ≤ z → z < Y → z ≠ y → aB m l z = true → rcM Y τ' z ∧ dM τ y + (wI m l z - wI m l y) ≤ dM τ' z) → EX τ' (i32 Y)) →
    L_X10_bestWay_181 0 (i32 Y) (yr (gI m 0 0 3)) u3 (i32 y) (i32 l) Q EX (dd + 1) τ (i32 i) := by
  have hnl := hA.2.2.2.1.1
  intro dd
  induction dd with
  | zero =>
    intro i τ hi hR hr hb hE
    have e1 : i32 Y ≤ i32 i := (le_i32 (by omega) (by omega)).mpr (by omega)
    have : i = Y := by omega
    rw [L_X10_bestWay_181]
    refine ⟨fun _ => ?_, fun h => absurd e1 h⟩
    rw [this]
    exact hE τ hR MonM.rf rfl (fun z h1 h2 => by omega)
  | succ dd ih =>
    intro i τ hi hR hr hb hE
    have e1 : ¬ i32 Y ≤ i32 i := fun h => absurd ((le_i32 (by omega) (by omega)).mp h) (by omega)
    have e2 : (i32 i = i32 y) ↔ i = y := i32_eq (by omega) (by omega)
    have hT := hR.1.six hF
    have vy := vpin (show y < 6 by omega) (by decide)
    have ny := i32_nat (show y < 2147483648 by omega)
    have vi := vpin (show i < 6 by omega) (by decide)
    have ni := i32_nat (show i < 2147483648 by omega)
    have skip : (∀ z, z = i → z ≠ y → aB m l z = true → rcM Y τ z ∧ dM τ y + (wI m l z - wI m l y) ≤ dM τ z) → L_X10_bestWay_181 0 (i32 Y) (yr (gI m 0 0 3)) u3 (i32 y) (i32 l) Q EX (dd + 1) τ (i32 (i + 1)) := by
      intro hz
      refine ih (i + 1) τ (by omega) hR hr hb (fun τ' a1 a2 a3 a4 => hE τ' a1 a2 a3 (fun z b1 b2 b3 b4 => ?_))
      by_cases e : z = i
      · obtain ⟨c1, c2⟩ := hz z e b3 b4
        obtain ⟨d1, d2⟩ := a2 z c1
        exact ⟨d1, by omega⟩
      · exact a4 z (by omega) b2 b3 b4
    rw [L_X10_bestWay_181]
    refine ⟨fun h => absurd h e1, fun _ => ?_⟩
    rw [e2]
    refine ⟨fun h9 => ?_, fun h9 => ?_⟩
    · unfold J_X10_bestWay_283
      intro z hz
      subst hz
      rw [i32_succ]
      exact skip (fun z e b3 => absurd (e.trans h9) b3)
    · rw [hA.mayIn hT hl]
      simp only [bz_eq0]
      refine ⟨fun h8 => ?_, fun h8 => ?_⟩
      · have h8 := Decidable.of_not_not h8
        refine ⟨0, r6 hT.1 (by decide), vy, hA.wP hT hl (by omega) (hA.wP hT hl (by omega) ?_)⟩
        rw [ny]
        have wi := hA.wI_rng hl (show i < 7 by omega)
        have wy := hA.wI_rng hl (show y < 7 by omega)
        unfold wI at wi wy
        have s1 : (gI τ 146 0 y + wZ m l i).toInt = dM τ y + (wZ m l i).toInt := by unfold dM at hb ⊢; rw [i32_add] <;> omega
        have s2 : (gI τ 146 0 y + wZ m l i - wZ m l y).toInt = dM τ y + (wI m l i - wI m l y) := by unfold wI; rw [i32_sub] <;> rw [s1] <;> omega
        intro z29 hz29
        subst hz29
        refine ⟨0, r6 hT.1 (by decide), vi, ?_⟩
        rw [ni]
        have hE2 : EM m nl Y τ0 y i l (wI m l i - wI m l y) := ⟨hy, by omega, h9, hl, hfl, h8, rfl⟩
        unfold wI at s2
        refine ⟨fun h7 => ?_, fun h7 => ?_⟩
        · refine ⟨0, r6 hT.1 (by decide), vi, fun τ35 h35 => ?_⟩
          subst h35
          refine ⟨0, r6 hT.1 (by decide), vi, fun τ38 h38 => ?_⟩
          subst h38
          refine ⟨0, r6 hT.1 (by decide), vi, fun τ41 h41 => ?_⟩
          subst h41
          obtain ⟨k1, k2, k3, k4, k5⟩ := hR.relax (v := v) hv hM hY hnl hr hE2 (u := gI τ 146 0 y + wZ m l i - wZ m l y) (by unfold wI; exact s2) (by omega) (by omega) h7
          unfold J_X10_bestWay_283
          intro z hz
          subst hz
          rw [i32_succ]
          have hd : dM (sI (sI (sI τ 146 0 i (gI τ 146 0 y + wZ m l i - wZ m l y)) 147 0 i (i32 y)) 148 0 i (i32 l)) y = dM τ y := by unfold dM; rw [k3]
          refine ih (i + 1) _ (by omega) k1 (k2 y hr).1 (by rw [hd]; exact hb) (fun τ' a1 a2 a3 a4 => hE τ' a1 (k2.tr a2) (a3.trans k3) (fun z b1 b2 b3 b4 => ?_))
          by_cases e : z = i
          · rw [e]
            obtain ⟨d1, d2⟩ := a2 i k4
            exact ⟨d1, by omega⟩
          · have := a4 z (by omega) b2 b3 b4
            rw [hd] at this; exact this
        · unfold J_X10_bestWay_283
          intro z hz
          subst hz
          rw [i32_succ]
          refine skip (fun z e b3 b4 => ?_)
          rw [e]
          have h7' : ¬ (gI τ 146 0 i).toInt < (gI τ 146 0 y + wZ m l i - wZ m l y).toInt := fun h => h7 (Int32.lt_iff_toInt_lt.mpr h)
          rw [s2] at h7'
          refine ⟨⟨by omega, fun hf => ?_⟩, by unfold wI dM at *; omega⟩
          rw [hf, far_int] at h7'
          omega
      · unfold J_X10_bestWay_283
        intro z hz
        subst hz
        rw [i32_succ]
        exact skip (fun z e b3 b4 => by rw [e] at b4; exact absurd b4 h8)
set_option maxRecDepth 16384 in
theorem eM_bw137 (hA : RelA n nk nl no nt nd na ns x m) (hF : Fr6 m τ0) (hv : ∀ y z t c, EM m nl Y τ0 y z t c → c ≤ v z - v y) (hY : Y ≤ 6) {y : Nat} (hy : y < Y) {M : Int} (hM0 : 0 ≤ M) (hM : M + 210000 < 900000000) {u3 : Int32} {EX : tw_T → Int32 → Prop} :
    ∀ (dd i : Nat) (τ : tw_T), i + dd = nl → RS m nl Y τ0 (M + 210000) τ → (rcM Y τ y → -M ≤ dM τ y ∧ dM τ y ≤ M) →
    (∀ τ' z', RS m nl Y τ0 (M + 210000) τ' → MonM Y τ τ' → gI τ' 146 0 y = gI τ 146 0 y → (rcM Y τ y → ∀ l z, i ≤ l → l < nl → z < Y → z ≠ y → flM τ0 l y ≠ 0 → aB m l z = true → rcM Y τ' z ∧ dM τ y + (wI m l z - wI m l y) ≤ dM τ' z) → EX τ' z') →
    L_X10_bestWay_137 0 (i32 Y) (yr (gI m 0 0 3)) u3 (i32 y) Q EX (dd + 1) τ (i32 i) := by
  have hnl := hA.2.2.2.1.1
  have l3 := hA.2.2.2.1.2.2.1
  intro dd
  induction dd with
  | zero =>
    intro i τ hi hR hb hE
    have hT := hR.1.six hF
    have e1 : i32 nl ≤ i32 i := (le_i32 (by omega) (by omega)).mpr (by omega)
    rw [L_X10_bestWay_137, hT.2.2 0 (by omega), l3]
    exact ⟨fun _ => hE τ _ hR MonM.rf rfl (fun _ l z h1 h2 => by omega), fun h => absurd e1 h⟩
  | succ dd ih =>
    intro i τ hi hR hb hE
    have hT := hR.1.six hF
    have e1 : ¬ i32 nl ≤ i32 i := fun h => absurd ((le_i32 (by omega) (by omega)).mp h) (by omega)
    have vy := vpin (show y < 6 by omega) (by decide)
    have ny := i32_nat (show y < 2147483648 by omega)
    rw [L_X10_bestWay_137, hT.2.2 0 (by omega), l3]
    refine ⟨fun h => absurd h e1, fun _ => ⟨0, r6 hT.1 (by decide), vy, ?_⟩⟩
    rw [ny]
    by_cases hf : gI τ 146 0 y = -1000000000
    · refine ⟨fun _ => hE τ _ hR MonM.rf rfl (fun h => absurd hf h.2), fun h => absurd (by rw [hf]; decide) h⟩
    · have hr : rcM Y τ y := ⟨hy, hf⟩
      have hb' := hb hr
      have hgt : ¬ gI τ 146 0 y ≤ -1000000000 := fun h => by
        rw [Int32.le_iff_toInt_le, far_int] at h
        unfold dM at hb'
        omega
      refine ⟨fun h => absurd h hgt, fun _ => ⟨0, r6 hT.1 (by decide), ?_⟩⟩
      have ix : (6 : Int32) * i32 i + i32 y = i32 (6 * i + y) := by
        show _ = Int32.ofNat _
        rw [Int32.ofNat_add, Int32.ofNat_mul]; rfl
      rw [ix, i32_nat (show 6 * i + y < 2147483648 by omega)]
      refine ⟨vpin (show 6 * i + y < 360 by omega) (by decide), ?_⟩
      have hfl : gI τ 143 0 (6 * i + y) = flM τ0 i y := by unfold flM; rw [hR.1.2.2 143 (by decide) (by decide) (by decide)]
      rw [hfl]
      refine ⟨fun h9 => ⟨Y + 1, eM_bw181 hA hF hv hY (by omega) hy h9 hM0 hM Y 0 τ (by omega) hR hr hb' (fun τ1 a1 a2 a3 a4 => ?_)⟩, fun h9 => ?_⟩
      · unfold J_X10_bestWay_289
        intro z hz
        subst hz
        rw [i32_succ]
        have hd : dM τ1 y = dM τ y := by unfold dM; rw [a3]
        refine ih (i + 1) τ1 (by omega) a1 (fun _ => by rw [hd]; exact hb') (fun τ' z' c1 c2 c3 c4 => hE τ' z' c1 (a2.tr c2) (c3.trans a3) (fun _ l z b1 b2 b3 b4 b5 b6 => ?_))
        by_cases e : l = i
        · rw [e] at b6 ⊢
          obtain ⟨p1, p2⟩ := a4 z (by omega) b3 b4 b6
          obtain ⟨q1, q2⟩ := c2 z p1
          exact ⟨q1, by omega⟩
        · have := c4 (a2 y hr).1 l z (by omega) b2 b3 b4 b5 b6
          rw [hd] at this; exact this
      · unfold J_X10_bestWay_289
        intro z hz
        subst hz
        rw [i32_succ]
        refine ih (i + 1) τ (by omega) hR hb (fun τ' z' c1 c2 c3 c4 => hE τ' z' c1 c2 c3 (fun hr' l z b1 b2 b3 b4 b5 b6 => ?_))
        by_cases e : l = i
        · rw [e] at b5; exact absurd h9 b5
        · exact c4 hr' l z (by omega) b2 b3 b4 b5 b6
set_option maxRecDepth 16384 in
theorem eM_bw128 (hA : RelA n nk nl no nt nd na ns x m) (hF : Fr6 m τ0) (hv : ∀ y z t c, EM m nl Y τ0 y z t c → c ≤ v z - v y) (hY : Y ≤ 6) {M : Int} (hM0 : 0 ≤ M) (hM : M + 210000 * 6 < 900000000) {u3 : Int32} {EX : tw_T → Int32 → Prop} :
    ∀ (dd i : Nat) (τ : tw_T), i + dd = Y → RS m nl Y τ0 (M + 210000 * i) τ →
    (∀ τ', RS m nl Y τ0 (M + 210000 * 6) τ' → MonM Y τ τ' → (∀ y z t c, i ≤ y → EM m nl Y τ0 y z t c → rcM Y τ y → rcM Y τ' z ∧ dM τ y + c ≤ dM τ' z) → EX τ' (i32 Y)) →
    L_X10_bestWay_128 0 (i32 Y) (yr (gI m 0 0 3)) u3 Q EX (dd + 1) τ (i32 i) := by
  intro dd
  induction dd with
  | zero =>
    intro i τ hi hR hE
    have e1 : i32 Y ≤ i32 i := (le_i32 (by omega) (by omega)).mpr (by omega)
    have : i = Y := by omega
    rw [L_X10_bestWay_128]
    refine ⟨fun _ => ?_, fun h => absurd e1 h⟩
    rw [this]
    exact hE τ (hR.wide (by omega)) MonM.rf (fun y z t c h1 h2 => by have := h2.1; omega)
  | succ dd ih =>
    intro i τ hi hR hE
    have e1 : ¬ i32 Y ≤ i32 i := fun h => absurd ((le_i32 (by omega) (by omega)).mp h) (by omega)
    rw [L_X10_bestWay_128]
    refine ⟨fun h => absurd h e1, fun _ => ⟨nl + 1, ?_⟩⟩
    refine eM_bw137 hA hF hv hY (show i < Y by omega) (M := M + 210000 * i) (by omega) (by omega) nl 0 τ (by omega) (hR.wide (by omega)) (fun hr => hR.2.2.ne (by omega) hr) (fun τ1 z' a1 a2 a3 a4 => ?_)
    unfold J_X10_bestWay_295
    intro z hz
    subst hz
    rw [i32_succ]
    refine ih (i + 1) τ1 (by omega) (a1.wide (by omega)) (fun τ' c1 c2 c3 => hE τ' c1 (a2.tr c2) (fun y z t c b1 b2 b3 => ?_))
    by_cases e : y = i
    · rw [e] at b2 b3 ⊢
      obtain ⟨f1, f2, f3, f4, f5, f6, f7⟩ := b2
      obtain ⟨p1, p2⟩ := a4 b3 t z (by omega) f4 f2 f3 f5 f6
      obtain ⟨q1, q2⟩ := c2 z p1
      exact ⟨q1, by omega⟩
    · obtain ⟨p1, p2⟩ := a2 y b3
      obtain ⟨q1, q2⟩ := c3 y z t c (by omega) b2 p1
      exact ⟨q1, by omega⟩
set_option maxRecDepth 16384 in
theorem eM_bw120 (hA : RelA n nk nl no nt nd na ns x m) (hF : Fr6 m τ0) (hv : ∀ y z t c, EM m nl Y τ0 y z t c → c ≤ v z - v y) (hY : Y ≤ 6) {EX : tw_T → Int32 → Prop} :
    ∀ (dd i : Nat) (τ : tw_T), i + dd = Y → RS m nl Y τ0 (210000 + 1260000 * i) τ → CK (SM m nl Y τ0) (EM m nl Y τ0) i (rcM Y τ) (dM τ) →
    (∀ τ' z', RS m nl Y τ0 7770000 τ' → CK (SM m nl Y τ0) (EM m nl Y τ0) Y (rcM Y τ') (dM τ') → EX τ' z') →
    L_X10_bestWay_120 0 (i32 Y) (yr (gI m 0 0 3)) Q EX (dd + 1) τ (i32 i) := by
  intro dd
  induction dd with
  | zero =>
    intro i τ hi hR hC hE
    have e1 : i32 Y ≤ i32 i := (le_i32 (by omega) (by omega)).mpr (by omega)
    have : i = Y := by omega
    rw [L_X10_bestWay_120]
    refine ⟨fun _ => hE τ _ (hR.wide (by omega)) (by rw [this] at hC; exact hC), fun h => absurd e1 h⟩
  | succ dd ih =>
    intro i τ hi hR hC hE
    have e1 : ¬ i32 Y ≤ i32 i := fun h => absurd ((le_i32 (by omega) (by omega)).mp h) (by omega)
    rw [L_X10_bestWay_120]
    refine ⟨fun h => absurd h e1, fun _ => ⟨Y + 1, eM_bw128 hA hF hv hY (M := 210000 + 1260000 * i) (by omega) (by omega) Y 0 τ (by omega) (hR.wide (by omega)) (fun τ1 a1 a2 a3 => ?_)⟩⟩
    intro z hz
    subst hz
    rw [i32_succ]
    exact ih (i + 1) τ1 (by omega) (a1.wide (by omega)) (hC.round a2 (fun y z t c h1 h2 => a3 y z t c (by omega) h1 h2)) hE
set_option maxRecDepth 16384 in
/-- a year's first length: the best of the bottles that are left, of the lots below i -/
def InY (m τ0 : tw_T) (nl y i : Nat) (τ : tw_T) : Prop := gI τ 147 0 y = -1 ∧ (∀ t, t < i → gI τ0 144 0 t ≠ 0 → aB m t y = true → wI m t y ≤ dM τ y) ∧ (gI τ 146 0 y = -1000000000 ∨ (tgR τ y < nl ∧ gI τ0 144 0 (tgR τ y) ≠ 0 ∧ aB m (tgR τ y) y = true ∧ dM τ y = wI m (tgR τ y) y))
set_option maxRecDepth 16384 in
set_option maxHeartbeats 1000000 in
theorem eM_bw31 (hA : RelA n nk nl no nt nd na ns x m) (hF : Fr6 m τ0) (hY : Y ≤ 6) {y : Nat} (hy : y < Y) {EX : tw_T → Int32 → Prop} :
    ∀ (dd i : Nat) (τ : tw_T), i + dd = nl → FrS τ0 τ → InY m τ0 nl y i τ →
    (∀ τ' z', FrS τ0 τ' → InY m τ0 nl y nl τ' → (∀ f j, j ≠ y → gI τ' f 0 j = gI τ f 0 j) → EX τ' z') →
    L_X10_bestWay_31 0 (i32 Y) (yr (gI m 0 0 3)) (i32 y) Q EX (dd + 1) τ (i32 i) := by
  have hnl := hA.2.2.2.1.1
  have l3 := hA.2.2.2.1.2.2.1
  intro dd
  induction dd with
  | zero =>
    intro i τ hi hR hI hE
    have hT := hR.six hF
    have e1 : i32 nl ≤ i32 i := (le_i32 (by omega) (by omega)).mpr (by omega)
    have : i = nl := by omega
    rw [L_X10_bestWay_31, hT.2.2 0 (by omega), l3]
    refine ⟨fun _ => hE τ _ hR (by rw [this] at hI; exact hI) (fun _ _ _ => rfl), fun h => absurd e1 h⟩
  | succ dd ih =>
    intro i τ hi hR hI hE
    have hT := hR.six hF
    have e1 : ¬ i32 nl ≤ i32 i := fun h => absurd ((le_i32 (by omega) (by omega)).mp h) (by omega)
    have vy := vpin (show y < 6 by omega) (by decide)
    have ny := i32_nat (show y < 2147483648 by omega)
    have vi := vpin (show i < 60 by omega) (by decide)
    have ni := i32_nat (show i < 2147483648 by omega)
    have h144 : gI τ 144 = gI τ0 144 := hR.2.2 144 (by decide) (by decide) (by decide)
    have skip : (gI τ0 144 0 i ≠ 0 → aB m i y = true → wI m i y ≤ dM τ y) → L_X10_bestWay_31 0 (i32 Y) (yr (gI m 0 0 3)) (i32 y) Q EX (dd + 1) τ (i32 (i + 1)) := by
      intro hs
      refine ih (i + 1) τ (by omega) hR ⟨hI.1, fun t ht a b => ?_, hI.2.2⟩ hE
      by_cases e : t = i
      · rw [e] at a b ⊢; exact hs a b
      · exact hI.2.1 t (by omega) a b
    rw [L_X10_bestWay_31, hT.2.2 0 (by omega), l3]
    refine ⟨fun h => absurd h e1, fun _ => ⟨0, r6 hT.1 (by decide), vi, ?_⟩⟩
    rw [ni, h144]
    refine ⟨fun h9 => ?_, fun h9 => ?_⟩
    · unfold J_X10_bestWay_106
      intro z hz
      subst hz
      rw [i32_succ]
      exact skip (fun h => absurd h9 h)
    · rw [hA.mayIn hT (by omega)]
      simp only [bz_eq0]
      refine ⟨fun h8 => ?_, fun h8 => ?_⟩
      · unfold J_X10_bestWay_106
        intro z hz
        subst hz
        rw [i32_succ]
        exact skip (fun _ h => absurd h h8)
      · have h8 := Decidable.of_not_not h8
        refine hA.wP hT (by omega) (by omega) ⟨0, r6 hT.1 (by decide), vy, ?_⟩
        rw [ny]
        refine ⟨fun h7 => ⟨0, r6 hT.1 (by decide), hA.wP hT (by omega) (by omega) ⟨vy, fun τ78 h78 => ?_⟩⟩, fun h7 => ?_⟩
        · subst h78
          refine ⟨0, r6 hT.1 (by decide), vy, fun τ81 h81 => ?_⟩
          subst h81
          unfold J_X10_bestWay_106
          intro z hz
          subst hz
          rw [i32_succ]
          have h7' := Int32.lt_iff_toInt_lt.mp h7
          have g146 : gI (sI (sI τ 146 0 y (wZ m i y)) 148 0 y (i32 i)) 146 0 y = wZ m i y := by rw [row_sI (Or.inl (by decide)), gI_sI, if_pos ⟨rfl, rfl, rfl⟩]
          have g148 : tgR (sI (sI τ 146 0 y (wZ m i y)) 148 0 y (i32 i)) y = i := by unfold tgR; rw [gI_sI, if_pos ⟨rfl, rfl, rfl⟩]; exact uN_i32 (by omega)
          have hd : dM (sI (sI τ 146 0 y (wZ m i y)) 148 0 y (i32 i)) y = wI m i y := by unfold dM wI; rw [g146]
          refine ih (i + 1) _ (by omega) ((hR.s (Or.inl rfl)).s (Or.inr (Or.inr rfl))) ⟨?_, fun t ht a b => ?_, Or.inr ?_⟩ (fun τ' z' c1 c2 c3 => hE τ' z' c1 c2 (fun f j hj => ?_))
          · rw [row_sI (Or.inl (by decide)), row_sI (Or.inl (by decide))]; exact hI.1
          · rw [hd]
            by_cases e : t = i
            · rw [e]; exact Int.le_refl _
            · have := hI.2.1 t (by omega) a b
              unfold dM at this
              unfold wI at this ⊢
              omega
          · rw [g148, hd]; exact ⟨by omega, h9, h8, rfl⟩
          · rw [c3 f j hj, gI_sI, if_neg (fun h => hj h.2.2), gI_sI, if_neg (fun h => hj h.2.2)]
        · unfold J_X10_bestWay_106
          intro z hz
          subst hz
          rw [i32_succ]
          refine skip (fun _ _ => ?_)
          have h7' : ¬ (gI τ 146 0 y).toInt < (wZ m i y).toInt := fun h => h7 (Int32.lt_iff_toInt_lt.mpr h)
          unfold wI dM
          omega
set_option maxRecDepth 16384 in
theorem eM_bw7 (hA : RelA n nk nl no nt nd na ns x m) (hF : Fr6 m τ0) (hY : Y ≤ 6) {EX : tw_T → Int32 → Prop} :
    ∀ (dd i : Nat) (τ : tw_T), i + dd = Y → FrS τ0 τ → (∀ y, y < i → InY m τ0 nl y nl τ) →
    (∀ τ' z', FrS τ0 τ' → (∀ y, y < Y → InY m τ0 nl y nl τ') → EX τ' z') →
    L_X10_bestWay_7 0 (i32 Y) (yr (gI m 0 0 3)) Q EX (dd + 1) τ (i32 i) := by
  intro dd
  induction dd with
  | zero =>
    intro i τ hi hR hI hE
    have e1 : i32 Y ≤ i32 i := (le_i32 (by omega) (by omega)).mpr (by omega)
    have : i = Y := by omega
    rw [L_X10_bestWay_7]
    exact ⟨fun _ => hE τ _ hR (by rw [this] at hI; exact hI), fun h => absurd e1 h⟩
  | succ dd ih =>
    intro i τ hi hR hI hE
    have hT := hR.six hF
    have e1 : ¬ i32 Y ≤ i32 i := fun h => absurd ((le_i32 (by omega) (by omega)).mp h) (by omega)
    have vi := vpin (show i < 6 by omega) (by decide)
    have ni := i32_nat (show i < 2147483648 by omega)
    rw [L_X10_bestWay_7]
    refine ⟨fun h => absurd h e1, fun _ => ⟨0, r6 hT.1 (by decide), vi, fun τ85 h85 => ?_⟩⟩
    subst h85
    refine ⟨0, r6 hT.1 (by decide), vi, fun τ88 h88 => ?_⟩
    subst h88
    rw [ni]
    refine ⟨nl + 1, eM_bw31 hA hF hY (show i < Y by omega) nl 0 _ (by omega) ((hR.s (Or.inl rfl)).s (Or.inr (Or.inl rfl))) ⟨?_, fun t ht => by omega, Or.inl ?_⟩ (fun τ1 z' c1 c2 c3 => ?_)⟩
    · rw [gI_sI, if_pos ⟨rfl, rfl, rfl⟩]
    · rw [row_sI (Or.inl (by decide)), gI_sI, if_pos ⟨rfl, rfl, rfl⟩]
    intro z hz
    subst hz
    rw [i32_succ]
    refine ih (i + 1) τ1 (by omega) c1 (fun y hy => ?_) hE
    by_cases e : y = i
    · rw [e]; exact c2
    · have hj : ∀ f, gI τ1 f 0 y = gI τ f 0 y := fun f => by rw [c3 f y e, gI_sI, if_neg (fun h => e h.2.2), gI_sI, if_neg (fun h => e h.2.2)]
      have := hI y (by omega)
      unfold InY dM tgR at this ⊢
      rw [hj 147, hj 146, hj 148]
      exact this
set_option maxRecDepth 16384 in
theorem inY_RS (hA : RelA n nk nl no nt nd na ns x m) (hY : Y ≤ 6) {τ : tw_T} (hR : FrS τ0 τ) (hI : ∀ y, y < Y → InY m τ0 nl y nl τ) : RS m nl Y τ0 210000 τ ∧ CK (SM m nl Y τ0) (EM m nl Y τ0) 0 (rcM Y τ) (dM τ) := by
  have hp : ∀ z, prM Y τ z = none := fun z => by
    unfold prM
    rw [if_neg (fun h => h.2 (hI z h.1).1)]
  have hB : BI Y (SM m nl Y τ0) (EM m nl Y τ0) (rcM Y τ) (dM τ) (prM Y τ) (tgR τ) := by
    refine ⟨fun z hz _ => ?_, fun z y h => ?_, fun z _ => ⟨0, hp z⟩, fun z t s hs => ?_, fun z hz => hz.1⟩
    · obtain ⟨a, b, c, d⟩ := (hI z hz.1).2.2.resolve_left hz.2
      exact ⟨hz.1, a, b, c, d⟩
    · rw [hp] at h; cases h
    · obtain ⟨a, b, c, d, e⟩ := hs
      have h1 := (hI z a).2.1 t b c d
      have h2 := hA.wI_rng b (show z < 7 by omega)
      refine ⟨⟨a, fun hf => ?_⟩, by omega⟩
      unfold dM at h1
      rw [hf, far_int] at h1
      omega
  refine ⟨⟨hR, hB, fun z hz => ?_⟩, hB.ck0⟩
  rcases (hI z hz).2.2 with h | ⟨a, b, c, d⟩
  · exact Or.inl h
  · have h2 := hA.wI_rng a (show z < 7 by omega)
    exact Or.inr (by omega)
set_option maxRecDepth 16384 in
/-- the year with room that gains most, below i -/
def BestR (τ : tw_T) (i : Nat) (u : Int32) : Prop := (u = -1 ∧ ∀ y, y < i → 0 < (gI τ 145 0 y).toInt → dM τ y ≤ 0) ∨ ∃ e, e < i ∧ u = i32 e ∧ 0 < (gI τ 145 0 e).toInt ∧ 0 < dM τ e ∧ ∀ y, y < i → 0 < (gI τ 145 0 y).toInt → dM τ y ≤ dM τ e
set_option maxRecDepth 16384 in
theorem eM_bw312 {τ : tw_T} (hM : gR τ = rM) (hY : Y ≤ 6) {EX : tw_T → Int32 → Int32 → Prop} :
    ∀ (dd i : Nat) (u : Int32), i + dd = Y → BestR τ i u → (∀ u' z', BestR τ Y u' → EX τ u' z') → L_X10_bestWay_312 0 (i32 Y) Q EX (dd + 1) τ u (i32 i) := by
  have z0 : (0 : Int32).toInt = 0 := rfl
  intro dd
  induction dd with
  | zero =>
    intro i u hi hB hE
    have e1 : i32 Y ≤ i32 i := (le_i32 (by omega) (by omega)).mpr (by omega)
    have : i = Y := by omega
    rw [L_X10_bestWay_312]
    exact ⟨fun _ => hE u _ (by rw [this] at hB; exact hB), fun h => absurd e1 h⟩
  | succ dd ih =>
    intro i u hi hB hE
    have e1 : ¬ i32 Y ≤ i32 i := fun h => absurd ((le_i32 (by omega) (by omega)).mp h) (by omega)
    have vi := vpin (show i < 6 by omega) (by decide)
    have ni := i32_nat (show i < 2147483648 by omega)
    have skip : (0 < (gI τ 145 0 i).toInt → dM τ i ≤ 0 ∨ ∃ e, u = i32 e ∧ e < i ∧ dM τ i ≤ dM τ e) → L_X10_bestWay_312 0 (i32 Y) Q EX (dd + 1) τ u (i32 (i + 1)) := by
      intro hs
      refine ih (i + 1) u (by omega) ?_ hE
      rcases hB with ⟨h1, h2⟩ | ⟨e, h1, h2, h3, h4, h5⟩
      · refine Or.inl ⟨h1, fun y hy hr => ?_⟩
        by_cases ey : y = i
        · rw [ey] at hr ⊢
          rcases hs hr with h | ⟨e, k1, k2, -⟩
          · exact h
          · rw [h1] at k1; exact absurd k1.symm (not_m1 (by omega))
        · exact h2 y (by omega) hr
      · refine Or.inr ⟨e, by omega, h2, h3, h4, fun y hy hr => ?_⟩
        by_cases ey : y = i
        · rw [ey] at hr ⊢
          rcases hs hr with h | ⟨e', k1, k2, k3⟩
          · omega
          · have : e = e' := i32_inj (by omega) (by omega) (h2.symm.trans k1)
            rw [this]; exact k3
        · exact h5 y (by omega) hr
    have take : 0 < (gI τ 145 0 i).toInt → 0 < dM τ i → (∀ e, u = i32 e → e < i → dM τ e ≤ dM τ i) → L_X10_bestWay_312 0 (i32 Y) Q EX (dd + 1) τ (i32 i) (i32 (i + 1)) := by
      intro k1 k2 k3
      refine ih (i + 1) (i32 i) (by omega) (Or.inr ⟨i, by omega, rfl, k1, k2, fun y hy hr => ?_⟩) hE
      by_cases ey : y = i
      · rw [ey]; exact Int.le_refl _
      · rcases hB with ⟨h1, h2⟩ | ⟨e, h1, h2, h3, h4, h5⟩
        · have := h2 y (by omega) hr; omega
        · have := h5 y (by omega) hr
          have := k3 e h2 h1
          omega
    rw [L_X10_bestWay_312]
    refine ⟨fun h => absurd h e1, fun _ => ⟨0, r6 hM (by decide), vi, ?_⟩⟩
    rw [ni]
    unfold J_X10_bestWay_359 J_X10_bestWay_362
    simp only [↓forall_eq, i32_succ]
    refine ⟨fun h9 => skip (fun h => ?_), fun h9 => ⟨0, r6 hM (by decide), vi, fun h8 => skip (fun _ => Or.inl ?_), fun h8 => ⟨fun h7 => take ?_ ?_ ?_, fun h7 => ?_⟩⟩⟩
    · rw [Int32.le_iff_toInt_le, z0] at h9; omega
    · rw [Int32.le_iff_toInt_le, z0] at h8; exact h8
    · rw [Int32.le_iff_toInt_le, z0] at h9; omega
    · rw [Int32.le_iff_toInt_le, z0] at h8; unfold dM; omega
    · intro e k1; rw [h7] at k1; exact fun _ => absurd k1.symm (not_m1 (i := e) (by omega))
    · rcases hB with ⟨h1, h2⟩ | ⟨e, h1, h2, h3, h4, h5⟩
      · exact absurd h1 h7
      · rw [h2] at h7 ⊢
        rw [i32_nat (show e < 2147483648 by omega)]
        refine ⟨0, r6 hM (by decide), vi, 0, r6 hM (by decide), vpin (show e < 6 by omega) (by decide), fun h6 => ?_, fun h6 => ?_⟩
        · rw [← h2]
          refine skip (fun _ => Or.inr ⟨e, h2, h1, ?_⟩)
          rw [Int32.le_iff_toInt_le] at h6; exact h6
        · refine take ?_ ?_ (fun e' k1 k2 => ?_)
          · rw [Int32.le_iff_toInt_le, z0] at h9; omega
          · rw [Int32.le_iff_toInt_le, z0] at h8; unfold dM; omega
          · have : e = e' := i32_inj (by omega) (by omega) (h2.symm.trans k1)
            rw [← this]
            rw [Int32.le_iff_toInt_le] at h6
            unfold dM; omega
set_option maxRecDepth 16384 in
theorem eM_bestWay (hA : RelA n nk nl no nt nd na ns x m) (hF : Fr6 m τ0) (hv : ∀ y z t c, EM m nl Y τ0 y z t c → c ≤ v z - v y) (hY : Y ≤ 6)
    (hQ : ∀ r τ', RS m nl Y τ0 7770000 τ' → CK (SM m nl Y τ0) (EM m nl Y τ0) Y (rcM Y τ') (dM τ') → BestR τ' Y r → Q r τ') : F_X10_bestWay τ0 0 (i32 Y) Q := by
  unfold F_X10_bestWay
  rw [eM_year, hF.2.2 0 (by omega)]
  refine ⟨Y + 1, eM_bw7 hA hF hY Y 0 τ0 (by omega) FrS.rf (fun y hy => by omega) (fun τ1 z1 a1 a2 => ?_)⟩
  obtain ⟨b1, b2⟩ := inY_RS hA hY a1 a2
  refine ⟨Y + 1, eM_bw120 hA hF hv hY Y 0 τ1 (by omega) (b1.wide (by omega)) b2 (fun τ2 z2 c1 c2 => ?_)⟩
  exact ⟨Y + 1, eM_bw312 (c1.1.six hF).1 hY Y 0 (-1) (by omega) (Or.inl ⟨rfl, fun y hy => by omega⟩) (fun u' z' h => hQ u' τ2 c1 c2 h)⟩
end BW
