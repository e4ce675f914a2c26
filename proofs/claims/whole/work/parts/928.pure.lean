set_option maxRecDepth 16384 in
def TermR (x m : tw_T) (b : Nat → Int32) (s nd t k : Nat) (FX : (Int32 → tw_T → Prop) → Prop) (FM : (tw_T → Prop) → Prop) : Prop :=
  (∃ e m', e ≤ s ∧ (∀ Q : Int32 → tw_T → Prop, Q 0 (AX x e) → FX Q) ∧ (∀ Q : tw_T → Prop, Q m' → FM Q) ∧ gI m' 0 0 32 = i32 e ∧ FrM nd k m m') ∨
  (∃ e z sg lim v m', e ≤ s ∧ z < 8 ∧ -99999 ≤ v.toInt ∧ v.toInt ≤ 99999 ∧ (∀ Q : Int32 → tw_T → Prop, Q 1 (AX (TX x nd t z sg lim v) e) → FX Q) ∧ (∀ Q : tw_T → Prop, Q (AM m' e) → FM Q) ∧ FrM nd k m m' ∧ gI m' 0 0 32 = -1 ∧ gI m' 134 0 nd = i32 (t + 1) ∧ gI m' 135 0 k = i32 z ∧ gI m' 138 0 k = v ∧ (5 ≤ z → gI m' 136 0 k = sg ∧ gI m' 137 0 k = lim)) ∨
  (∃ e z sg lim v m', e < s ∧ z < 8 ∧ isD (b e) = true ∧ (∀ Q : Int32 → tw_T → Prop, Q 1 (AX (TX x nd t z sg lim v) e) → FX Q) ∧ (∀ Q : tw_T → Prop, Q m' → FM Q) ∧ gI m' 0 0 32 = i32 e ∧ FrM nd k m m')
set_option maxRecDepth 16384 in
theorem skp_stop {b : Nat → Int32} {s e : Nat} (h : b e ≠ 32) : skp b (s - e) e = e := by
  cases hd : s - e with
  | zero => rfl
  | succ d => simp only [skp]; rw [if_neg h]
set_option maxRecDepth 16384 in
theorem isD_not {v : Int32} (h : isD v = true) : v ≠ 32 ∧ v ≠ 43 ∧ v ≠ 45 ∧ v ≠ 44 ∧ v ≠ -1 := by
  have h1 := isD_iff.mp h
  refine ⟨fun h9 => ?_, fun h9 => ?_, fun h9 => ?_, fun h9 => ?_, fun h9 => ?_⟩ <;> rw [h9] at h1 <;> exact absurd h1 (by decide)
set_option maxRecDepth 16384 in
theorem pts_digit {x : tw_T} {b : Nat → Int32} {s nd t z e : Nat} {sg lim : Int32} {Q : Int32 → tw_T → Prop} (hX : CX x b s nd t) (hs : s ≤ 200) (he : e < s) (hd : isD (b e) = true) (hQ : Q 0 (AX x e)) : F_X7_readPoints (AX x e) 0 nd z sg lim Q := by
  obtain ⟨c1, c2, c3, -⟩ := hX
  obtain ⟨h1, h2, h3, -⟩ := isD_not hd
  unfold F_X7_readPoints
  refine xX_signHere c1 c2 c3 hs (by omega) ?_
  rw [skp_stop h1]
  have : chX b s e = b e := by unfold chX; rw [if_pos he]
  rw [this]
  exact ⟨fun h9 => absurd h9 h2, fun _ => ⟨fun h9 => absurd h9 h3, fun _ => hQ⟩⟩
set_option maxRecDepth 16384 in
theorem zm_lo {z : Nat} (h : z < 5) : zx_meas z = 0 := by
  have : z = 0 ∨ z = 1 ∨ z = 2 ∨ z = 3 ∨ z = 4 := by omega
  rcases this with rfl | rfl | rfl | rfl | rfl <;> rfl
set_option maxRecDepth 16384 in
theorem zm_hi {z : Nat} (h : 5 ≤ z) (h2 : z < 8) : zx_meas z = 1 := by
  have : z = 5 ∨ z = 6 ∨ z = 7 := by omega
  rcases this with rfl | rfl | rfl <;> rfl
set_option maxRecDepth 16384 in
theorem CM.set {m : tw_T} {b : Nat → Int32} {s nd t f j : Nat} {v : Int32} (h : CM m b s nd t) (hf : f = 135 ∨ f = 136 ∨ f = 137) : CM (sI m f 0 j v) b s nd t := by
  obtain ⟨d1, d2, d3, d4, d5, d6⟩ := h
  refine ⟨d1, ?_, ?_, ?_, ?_, ?_⟩
  · rw [gI_sI, if_neg (by omega)]; exact d2
  · rw [hI_n (by omega)]; exact d3
  · rw [gI_sI, if_neg (by omega)]; exact d4
  · rw [gI_sI, if_neg (by omega)]; exact d5
  · rw [gI_sI, if_neg (by omega)]; exact d6
set_option maxRecDepth 16384 in
/-- from points to a term -/
theorem PtsR.term {x m m1 : tw_T} {b : Nat → Int32} {s nd t k z : Nat} {sg lim : Int32} {FX FX' : (Int32 → tw_T → Prop) → Prop} {FM FM' : (tw_T → Prop) → Prop} (h : PtsR x m1 b s nd t k z sg lim FX FM) (hz : z < 8) (hF : FrM nd k m m1) (h135 : gI m1 135 0 k = i32 z) (h5 : 5 ≤ z → gI m1 136 0 k = sg ∧ gI m1 137 0 k = lim)
    (hX : ∀ Q : Int32 → tw_T → Prop, FX (fun r τ => tw_b r ∧ Q r τ) → FX' Q) (hM : ∀ Q : tw_T → Prop, FM Q → FM' Q) : TermR x m b s nd t k FX' FM' := by
  rcases h with ⟨e, m', h1, h2, h3, h4, h5'⟩ | ⟨e, v, m', h1, h2, h3, h4, h5', h6, h7, h8, h9, g1, g2, g3⟩ | ⟨e, v, m', h1, h2, h3, h4, h5', h6⟩
  · exact Or.inl ⟨e, m', h1, fun Q hQ => hX Q (h2 _ ⟨Or.inl rfl, hQ⟩), fun Q hQ => hM Q (h3 Q hQ), h4, hF.tr h5'⟩
  · exact Or.inr (Or.inl ⟨e, z, sg, lim, v, m', h1, hz, h2, h3, fun Q hQ => hX Q (h4 _ ⟨Or.inr rfl, hQ⟩), fun Q hQ => hM Q (h5' Q hQ), hF.tr h6, h7, h8, g1.trans h135, h9, fun h => ⟨g2.trans (h5 h).1, g3.trans (h5 h).2⟩⟩)
  · exact Or.inr (Or.inr ⟨e, z, sg, lim, v, m', h1, hz, h2, fun Q hQ => hX Q (h3 _ ⟨Or.inr rfl, hQ⟩), fun Q hQ => hM Q (h4 Q hQ), h5', hF.tr h6⟩)
set_option maxRecDepth 16384 in
set_option maxHeartbeats 2000000 in
theorem term {x m : tw_T} {b : Nat → Int32} {s nd t a : Nat} (hX : CX x b s nd t) (hM : CM m b s nd t) (hs : s ≤ 200) (ha : a ≤ s) (ht : t < 12) (hn : nd < 20) :
    TermR x m b s nd t (12 * nd + t) (fun Q => F_X7_readTerm (AX x a) 0 nd Q) (fun Q => F_X10_readTerm (AM m a) 0 Q) := by
  have hX0 := hX
  have hM0 := hM
  obtain ⟨c1, c2, c3, c4, c5, c6, c7, c8⟩ := hX
  obtain ⟨d1, d2, d3, d4, d5, d6⟩ := hM
  have hk : 12 * nd + t < 252 := by omega
  have hn21 : nd < 21 := by omega
  have e3 := vpin hk (by decide)
  have e4 := i32_nat (show 12 * nd + t < 2147483648 by omega)
  have e5 := vpin hn21 (by decide)
  have e6 := i32_nat (show nd < 2147483648 by omega)
  have am32 : ∀ (m' : tw_T) a, gI (AM m' a) 0 0 32 = gI m' 0 0 32 := fun m' a => AM_o (by decide)
  have r34 : ∀ τ : tw_T, gR τ = rM → gR τ 0 0 34 = some 0 := fun τ h => by rw [h]; exact rM_at (by decide)
  have r35 : ∀ τ : tw_T, gR τ = rM → gR τ 0 0 35 = some 0 := fun τ h => by rw [h]; exact rM_at (by decide)
  have r36 : ∀ τ : tw_T, gR τ = rM → gR τ 0 0 36 = some 0 := fun τ h => by rw [h]; exact rM_at (by decide)
  have r37 : ∀ τ : tw_T, gR τ = rM → gR τ 0 0 37 = some 0 := fun τ h => by rw [h]; exact rM_at (by decide)
  have hr := skp_rng (b := b) (s - a) a
  -- the reference's first steps
  have hMa : ∀ Q : tw_T → Prop, ((tz b (skp b (s - a) a) (wl b (s - skp b (s - a) a) (skp b (s - a) a)) = none → Q (sI (AM m (skp b (s - a) a)) 0 0 32 (i32 (skp b (s - a) a)))) ∧
      (∀ z, tz b (skp b (s - a) a) (wl b (s - skp b (s - a) a) (skp b (s - a) a)) = some z → J_X10_readTerm_79 (AM m (skp b (s - a) a + wl b (s - skp b (s - a) a) (skp b (s - a) a))) 0 (i32 (12 * nd + t)) (i32 z) Q)) → F_X10_readTerm (AM m a) 0 Q := by
    intro Q ⟨h0, h1⟩
    unfold F_X10_readTerm
    rw [AM_o (by decide), AM_n (by decide), d5, e6]
    refine ⟨0, r34 _ d1, e5, fun z54 hz54 => ?_⟩
    rw [d6, ix12] at hz54
    subst hz54
    refine eM_wordtest d1 d2 d3 hs ha ?_
    refine ⟨fun h9 => ?_, fun h9 => ?_⟩
    · cases hz : tz b (skp b (s - a) a) (wl b (s - skp b (s - a) a) (skp b (s - a) a)) with
      | none => rw [hz] at h9; exact absurd rfl h9
      | some z =>
        exact ⟨s - skp b (s - a) a + 1, eM_letters d1 d2 d3 hs (s - skp b (s - a) a) (skp b (s - a) a) (by omega) (h1 z hz)⟩
    · cases hz : tz b (skp b (s - a) a) (wl b (s - skp b (s - a) a) (skp b (s - a) a)) with
      | none =>
        rw [eM_wrong (by rw [am32]; exact d4), AM_31]
        exact h0 hz
      | some z =>
        rw [hz] at h9
        exact absurd h9 (not_m1 (by have := tz_lt hz; omega))
  have hwl := (wl_rng (b := b) (s - skp b (s - a) a) (skp b (s - a) a)).1
  cases hz : tz b (skp b (s - a) a) (wl b (s - skp b (s - a) a) (skp b (s - a) a)) with
  | none =>
    refine Or.inl ⟨skp b (s - a) a, sI (AM m (skp b (s - a) a)) 0 0 32 (i32 (skp b (s - a) a)), by omega, fun Q hQ => ?_, fun Q hQ => hMa Q ⟨fun _ => hQ, fun z h => by rw [hz] at h; cases h⟩, ?_, ?_⟩
    · unfold F_X7_readTerm
      exact xX_test c1 c2 c3 hs ha (fun _ => ⟨fun _ => hQ, fun q h => by cases h⟩) (fun q h => by rw [hz] at h; cases h)
    · rw [gI_sI, if_pos ⟨rfl, rfl, rfl⟩]
    · exact ((FrM.rf d1).am).set (Or.inl ⟨rfl, Or.inr rfl⟩)
  | some z =>
    have hz8 := tz_lt hz
    have hXa : ∀ Q : Int32 → tw_T → Prop, ((zx_meas z = 0 → J_X7_readTerm_72 (AX x (skp b (s - a) a + wl b (s - skp b (s - a) a) (skp b (s - a) a))) 0 nd z (-1) 0 Q) ∧ (¬ zx_meas z = 0 → F_X7_signHere (AX x (skp b (s - a) a + wl b (s - skp b (s - a) a) (skp b (s - a) a))) 0 (fun (r11 : Int32) (τ10 : tw_T) => (r11 = 60 → J_X7_readTerm_48 τ10 0 nd z r11 Q) ∧ (¬ r11 = 60 → (r11 = 62 → J_X7_readTerm_48 τ10 0 nd z r11 Q) ∧ (¬ r11 = 62 → (r11 = 61 → J_X7_readTerm_48 τ10 0 nd z r11 Q) ∧ (¬ r11 = 61 → Q 0 τ10)))))) → F_X7_readTerm (AX x a) 0 nd Q := by
      intro Q h
      unfold F_X7_readTerm
      refine xX_test c1 c2 c3 hs ha (fun h9 => by rw [hz] at h9; cases h9) (fun q h9 => ?_)
      rw [hz] at h9
      cases h9
      exact ⟨fun h9 => (by cases h9), fun q8 h8 => (by cases h8; exact h)⟩
    have hp : skp b (s - a) a + wl b (s - skp b (s - a) a) (skp b (s - a) a) ≤ s := by omega
    have hMb : ∀ Q : tw_T → Prop, J_X10_readTerm_79 (AM m (skp b (s - a) a + wl b (s - skp b (s - a) a) (skp b (s - a) a))) 0 (i32 (12 * nd + t)) (i32 z) Q → F_X10_readTerm (AM m a) 0 Q := fun Q h => hMa Q ⟨fun h9 => (by rw [hz] at h9; cases h9), fun z9 h9 => (by rw [hz] at h9; cases h9; exact h)⟩
    clear hMa
    generalize skp b (s - a) a + wl b (s - skp b (s - a) a) (skp b (s - a) a) = p at hMb hXa hp
    have hFr1 : FrM nd (12 * nd + t) m (sI m 135 0 (12 * nd + t) (i32 z)) := (FrM.rf d1).set (Or.inr (Or.inr ⟨Or.inl rfl, rfl⟩))
    have hC1 : CM (sI m 135 0 (12 * nd + t) (i32 z)) b s nd t := hM0.set (Or.inl rfl)
    have h135 : gI (sI m 135 0 (12 * nd + t) (i32 z)) 135 0 (12 * nd + t) = i32 z := by rw [gI_sI, if_pos ⟨rfl, rfl, rfl⟩]
    have hlt5 : (i32 z < (5 : Int32)) ↔ z < 5 := lt_i32 (c := 5) (by omega) (by decide)
    by_cases h5 : z < 5
    · refine (points (z := z) (sg := -1) (lim := 0) hX0 hC1 hs hp ht hn).term hz8 hFr1 h135 (fun h => by omega) (fun Q h => hXa Q ⟨fun _ => h, fun h9 => absurd (zm_lo h5) h9⟩) (fun Q h => hMb Q ?_)
      unfold J_X10_readTerm_79
      refine ⟨0, r35 _ d1, e3, fun τ37 h37 => ?_⟩
      subst h37
      rw [e4, AM_c (Or.inl (by decide)), hlt5]
      exact ⟨fun _ => h, fun h9 => absurd h5 h9⟩
    have hzm : ¬ zx_meas z = 0 := by rw [zm_hi (by omega) hz8]; decide
    have hXb : ∀ Q : Int32 → tw_T → Prop, (((chX b s (skp b (s - p) p) = 60 ∨ chX b s (skp b (s - p) p) = 62 ∨ chX b s (skp b (s - p) p) = 61) → J_X7_readTerm_48 (AX x (skp b (s - p) p)) 0 nd z (chX b s (skp b (s - p) p)) Q) ∧ (¬ (chX b s (skp b (s - p) p) = 60 ∨ chX b s (skp b (s - p) p) = 62 ∨ chX b s (skp b (s - p) p) = 61) → Q 0 (AX x (skp b (s - p) p)))) → F_X7_readTerm (AX x a) 0 nd Q := by
      intro Q ⟨h1, h2⟩
      refine hXa Q ⟨fun h9 => absurd h9 hzm, fun _ => xX_signHere c1 c2 c3 hs hp ?_⟩
      exact ⟨fun h => h1 (Or.inl h), fun g1 => ⟨fun h => h1 (Or.inr (Or.inl h)), fun g2 => ⟨fun h => h1 (Or.inr (Or.inr h)), fun g3 => h2 (fun h => h.elim g1 (fun h => h.elim g2 g3))⟩⟩⟩
    have hMc : ∀ Q : tw_T → Prop, (((chM b s (skp b (s - p) p) = 60 ∨ chM b s (skp b (s - p) p) = 62 ∨ chM b s (skp b (s - p) p) = 61) → J_X10_readTerm_123 (AM (sI m 135 0 (12 * nd + t) (i32 z)) (skp b (s - p) p)) 0 (i32 (12 * nd + t)) (chM b s (skp b (s - p) p)) Q) ∧ (¬ (chM b s (skp b (s - p) p) = 60 ∨ chM b s (skp b (s - p) p) = 62 ∨ chM b s (skp b (s - p) p) = 61) → Q (sI (AM (sI m 135 0 (12 * nd + t) (i32 z)) (skp b (s - p) p)) 0 0 32 (i32 (skp b (s - p) p))))) → F_X10_readTerm (AM m a) 0 Q := by
      intro Q ⟨h1, h2⟩
      refine hMb Q ?_
      unfold J_X10_readTerm_79
      refine ⟨0, r35 _ d1, e3, fun τ37 h37 => ?_⟩
      subst h37
      rw [e4, AM_c (Or.inl (by decide)), hlt5]
      refine ⟨fun h9 => absurd h9 h5, fun _ => eM_here hC1.1 hC1.2.1 hC1.2.2.1 hs hp ?_⟩
      refine ⟨fun h => h1 (Or.inl h), fun g1 => ⟨fun h => h1 (Or.inr (Or.inl h)), fun g2 => ⟨fun h => h1 (Or.inr (Or.inr h)), fun g3 => ?_⟩⟩⟩
      rw [eM_wrong (by rw [am32]; exact hC1.2.2.2.1), AM_31]
      exact h2 (fun h => h.elim g1 (fun h => h.elim g2 g3))
    have hr1 := skp_rng (b := b) (s - p) p
    generalize skp b (s - p) p = c at hr1 hXb hMc
    have n1 : ((60 : Int32) ≠ -1 ∧ (60 : Int32) ≠ 0) ∧ ((62 : Int32) ≠ -1 ∧ (62 : Int32) ≠ 0) ∧ ((61 : Int32) ≠ -1 ∧ (61 : Int32) ≠ 0) := by decide
    have q0 := ch_is (b := b) (s := s) (a := c) n1.1.1 n1.1.2
    have q2 := ch_is (b := b) (s := s) (a := c) n1.2.1.1 n1.2.1.2
    have q1 := ch_is (b := b) (s := s) (a := c) n1.2.2.1 n1.2.2.2
    by_cases hsg : chX b s c = 60 ∨ chX b s c = 62 ∨ chX b s c = 61
    rotate_left
    · have hsg' : ¬ (chM b s c = 60 ∨ chM b s c = 62 ∨ chM b s c = 61) := fun h => hsg (h.elim (fun h => Or.inl (q0.1.mpr h)) (fun h => h.elim (fun h => Or.inr (Or.inl (q2.1.mpr h))) (fun h => Or.inr (Or.inr (q1.1.mpr h)))))
      refine Or.inl ⟨c, sI (AM (sI m 135 0 (12 * nd + t) (i32 z)) c) 0 0 32 (i32 c), by omega, fun Q hQ => hXb Q ⟨fun h => absurd h hsg, fun _ => hQ⟩, fun Q hQ => hMc Q ⟨fun h => absurd h hsg', fun _ => hQ⟩, ?_, ?_⟩
      · rw [gI_sI, if_pos ⟨rfl, rfl, rfl⟩]
      · exact (hFr1.am).set (Or.inl ⟨rfl, Or.inr rfl⟩)
    have hcs : c < s := hsg.elim q0.2 (fun h => h.elim q2.2 q1.2)
    have hch : chX b s c = chM b s c := by unfold chX chM; rw [if_pos hcs, if_pos hcs]
    have hsg' : chM b s c = 60 ∨ chM b s c = 62 ∨ chM b s c = 61 := by rw [← hch]; exact hsg
    generalize hcc : chM b s c = ch at hsg' hMc hch
    rw [hch] at hXb
    have hC2 : CM (sI (sI m 135 0 (12 * nd + t) (i32 z)) 136 0 (12 * nd + t) ch) b s nd t := hC1.set (Or.inr (Or.inl rfl))
    have hFr2 : FrM nd (12 * nd + t) m (sI (sI m 135 0 (12 * nd + t) (i32 z)) 136 0 (12 * nd + t) ch) := hFr1.set (Or.inr (Or.inr ⟨Or.inr (Or.inl rfl), rfl⟩))
    have hr2 := skp_rng (b := b) (s - (c + 1)) (c + 1)
    have hdn := dn_rng (b := b) (s := s) 5 (skp b (s - (c + 1)) (c + 1)) (by omega)
    have hdv := dv_rng (b := b) (s := s) 5 (skp b (s - (c + 1)) (c + 1)) 0 (by omega) (by decide) (by decide)
    have hXc : ∀ Q : Int32 → tw_T → Prop, (dn b s 5 (skp b (s - (c + 1)) (c + 1)) = 0 → Q 0 (AX x (skp b (s - (c + 1)) (c + 1)))) → (dn b s 5 (skp b (s - (c + 1)) (c + 1)) ≠ 0 → J_X7_readTerm_72 (AX x (skp b (s - (c + 1)) (c + 1) + dn b s 5 (skp b (s - (c + 1)) (c + 1)))) 0 nd z ch (dv b s 5 (skp b (s - (c + 1)) (c + 1)) 0) Q) → F_X7_readTerm (AX x a) 0 nd Q := by
      intro Q h0 h1
      refine hXb Q ⟨fun _ => ?_, fun h => absurd hsg' h⟩
      unfold J_X7_readTerm_48
      intro τ3 h3
      subst h3
      rw [AX_2, i32_succ, AX_s]
      refine xX_number c1 c2 c3 hs (by omega) ?_
      generalize hdd : dv b s 5 (skp b (s - (c + 1)) (c + 1)) 0 = w at h1 hdv
      by_cases e0 : dn b s 5 (skp b (s - (c + 1)) (c + 1)) = 0
      · rw [if_pos e0, e0, Nat.add_zero]
        exact ⟨fun h9 => absurd rfl h9, fun _ => h0 e0⟩
      · rw [if_neg e0]
        have hw : ¬ w = -1 := fun h9 => by rw [h9] at hdv; exact absurd hdv.1 (by decide)
        exact ⟨fun _ => h1 e0, fun h9 => absurd h9 hw⟩
    have hMd : ∀ Q : tw_T → Prop, J_X10_readTerm_150 (sI (NM (sI (sI m 135 0 (12 * nd + t) (i32 z)) 136 0 (12 * nd + t) ch) b s (skp b (s - (c + 1)) (c + 1))) 137 0 (12 * nd + t) (dv b s 5 (skp b (s - (c + 1)) (c + 1)) 0)) 0 (i32 (12 * nd + t)) Q → F_X10_readTerm (AM m a) 0 Q := by
      intro Q h
      refine hMc Q ⟨fun _ => ?_, fun h => absurd hsg' h⟩
      unfold J_X10_readTerm_123
      refine ⟨0, r36 _ d1, e3, fun τ28 h28 => ?_⟩
      subst h28
      intro τ29 h29
      subst h29
      rw [e4, AM_c (Or.inl (by decide)), AM_31, i32_succ, AM_s]
      refine ⟨0, r37 _ d1, eM_digits hC2.1 hC2.2.1 hC2.2.2.1 hC2.2.2.2.1 hs (by omega) ⟨e3, fun τ34 h34 => ?_⟩⟩
      subst h34
      exact h
    generalize skp b (s - (c + 1)) (c + 1) = g at hr2 hdn hdv hXc hMd
    generalize hdd : dv b s 5 g 0 = w at hXc hMd hdv
    have hbad : ∀ e : Nat, e ≤ s → ∃ m', (∀ Q : tw_T → Prop, Q m' → J_X10_readTerm_150 (sI (sI (AM (sI (sI m 135 0 (12 * nd + t) (i32 z)) 136 0 (12 * nd + t) ch) e) 0 0 32 (i32 e)) 137 0 (12 * nd + t) w) 0 (i32 (12 * nd + t)) Q) ∧ gI m' 0 0 32 = i32 e ∧ FrM nd (12 * nd + t) m m' := by
      intro e he
      refine ⟨_, fun Q hQ => eM_bad150 (nd := nd) (t := t) (k := 12 * nd + t) ?_ ?_ ?_ hk hn21 ?_ hQ, ?_, ?_⟩
      · exact d1
      · rw [gI_sI, if_neg (by omega), gI_sI, if_neg (by decide), AM_o (by decide)]; exact hC2.2.2.2.2.1
      · rw [gI_sI, if_neg (by omega), gI_sI, if_neg (by omega), AM_n (by decide)]; exact hC2.2.2.2.2.2
      · rw [gI_sI, if_neg (by omega), gI_sI, if_pos ⟨rfl, rfl, rfl⟩]; exact not_m1 (by omega)
      · rw [gI_sI, if_neg (by omega), gI_sI, if_neg (by omega), gI_sI, if_neg (by decide), gI_sI, if_neg (by omega), gI_sI, if_pos ⟨rfl, rfl, rfl⟩]
      · exact (((((hFr2.am).set (Or.inl ⟨rfl, Or.inr rfl⟩)).set (Or.inr (Or.inr ⟨Or.inr (Or.inr (Or.inl rfl)), rfl⟩))).set (Or.inl ⟨rfl, Or.inl rfl⟩)).set (Or.inr (Or.inr ⟨Or.inr (Or.inr (Or.inr rfl)), rfl⟩))).set (Or.inr (Or.inl ⟨rfl, rfl⟩))
    by_cases e0 : dn b s 5 g = 0
    · obtain ⟨m', b1, b2, b3⟩ := hbad g (by omega)
      refine Or.inl ⟨g, m', by omega, fun Q hQ => hXc Q (fun _ => hQ) (fun h => absurd e0 h), fun Q hQ => hMd Q ?_, b2, b3⟩
      unfold NM
      rw [if_pos (Or.inl e0), e0, Nat.add_zero]
      exact b1 Q hQ
    by_cases e6 : nbd b s 5 g = true
    · have h6 := e6
      unfold nbd at h6
      rw [decide_eq_true_eq] at h6
      obtain ⟨m', b1, b2, b3⟩ := hbad (g + dn b s 5 g) (by omega)
      refine Or.inl ⟨g + dn b s 5 g, m', by omega, fun Q hQ => hXc Q (fun h => absurd h e0) (fun _ => ?_), fun Q hQ => hMd Q ?_, b2, b3⟩
      · unfold J_X7_readTerm_72
        exact pts_digit hX0 hs (by omega) (by rw [h6.1]; exact h6.2.2) ⟨Or.inl rfl, hQ⟩
      · unfold NM
        rw [if_pos (Or.inr e6)]
        exact b1 Q hQ
    · have hC3 : CM (sI (sI (sI m 135 0 (12 * nd + t) (i32 z)) 136 0 (12 * nd + t) ch) 137 0 (12 * nd + t) w) b s nd t := hC2.set (Or.inr (Or.inr rfl))
      have hFr3 : FrM nd (12 * nd + t) m (sI (sI (sI m 135 0 (12 * nd + t) (i32 z)) 136 0 (12 * nd + t) ch) 137 0 (12 * nd + t) w) := hFr2.set (Or.inr (Or.inr ⟨Or.inr (Or.inr (Or.inl rfl)), rfl⟩))
      refine (points (z := z) (sg := ch) (lim := w) hX0 hC3 hs (show g + dn b s 5 g ≤ s by omega) ht hn).term hz8 hFr3 ?_ (fun _ => ⟨?_, ?_⟩) (fun Q h => hXc Q (fun h9 => absurd h9 e0) (fun _ => h)) (fun Q h => hMd Q ?_)
      · rw [gI_sI, if_neg (by omega), gI_sI, if_neg (by omega)]; exact h135
      · rw [gI_sI, if_neg (by omega), gI_sI, if_pos ⟨rfl, rfl, rfl⟩]
      · rw [gI_sI, if_pos ⟨rfl, rfl, rfl⟩]
      · unfold NM
        rw [if_neg (fun h9 => h9.elim e0 e6), AM_c (Or.inl (by decide))]
        exact h
