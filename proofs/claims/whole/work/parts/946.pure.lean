section PB3
variable {n nk nl no nt nd na ns Y : Nat} {x m : tw_T} {R : Int}
set_option maxRecDepth 16384 in
set_option maxHeartbeats 1000000 in
theorem xX_plan53 (hA : RelA n nk nl no nt nd na ns x m) (hY : Y ≤ 6) (hR : R ≤ 100) {Q : Int32 → tw_T → Prop} {X : Nat → tw_T → Prop} {EX : tw_T → Int32 → Int32 → Prop}
    (hE : ∀ τ s r, FrL L8 x τ → (∃ G lg mg F v, Cert (wI m) (aB m) Y R G lg mg F v s.toInt ∧ ∀ U : Nat → Int, sm (fun t => mg t * U (lg t)) G = sm (fun c => cz m c * U (ct m c)) 30) → EX τ s r) :
    ∀ (dd i G : Nat) (τ : tw_T) (s : Int32) (v mg : Nat → Int) (lg : Nat → Nat), i + dd = 30 → G ≤ i → FrL L8 x τ → CI Y G R τ v → LO Y G mg τ v → (∀ t, t < G → lg t < nl) → (∀ t y, t < G → y < Y → gI τ 26 t y = gG m (lg t) y) → gI τ 8 0 7 = yr (gI m 0 0 3) → s.toInt = vl (Y + 1) G (Wc τ) (FP τ) → 0 ≤ s.toInt →
    (∀ U : Nat → Int, sm (fun t => mg t * U (lg t)) G = sm (fun c => cz m c * U (ct m c)) i) → L_X9_plan_53 0 Q X EX (dd + 1) τ s (i32 i) := by
  have z0 : (0 : Int32).toInt = 0 := rfl
  intro dd
  induction dd with
  | zero =>
    intro i G τ s v mg lg hi hGi hF hC hL hlg hGR h7 hs hs0 hU
    have e1 : (30 : Int32) ≤ i32 i := (show i32 30 ≤ i32 i ↔ _ from le_i32 (by omega) (by omega)).mpr (by omega)
    have : i = 30 := by omega
    rw [L_X9_plan_53]
    refine ⟨fun _ => hE τ s _ hF ⟨G, lg, mg, FP τ, v, hC.cert hA hY hL hlg hGR hs, by rw [this] at hU; exact hU⟩, fun h => absurd e1 h⟩
  | succ dd ih =>
    intro i G τ s v mg lg hi hGi hF hC hL hlg hGR h7 hs hs0 hU
    have e1 : ¬ (30 : Int32) ≤ i32 i := fun h => absurd ((show i32 30 ≤ i32 i ↔ _ from le_i32 (by omega) (by omega)).mp h) (by omega)
    have vi := vpin (show i < 30 by omega) (by decide)
    have ni := i32_nat (show i < 2147483648 by omega)
    have hAτ := hA.frameP hF
    obtain ⟨hM, hX, hK, hLo, hCe, hO, hG, hT, hD, hW⟩ := hAτ
    obtain ⟨x0, x5, -⟩ := hX
    obtain ⟨l1, l2, l3, l4, l5⟩ := hLo
    have hcz := hA.cz_rng (show i < 30 by omega)
    rw [L_X9_plan_53]
    unfold J_X9_plan_106
    simp only [↓forall_eq, i32_succ]
    refine ⟨fun h => absurd h e1, fun _ => ⟨0, by rw [x0]; exact rXs_at (by decide), ?_⟩⟩
    rw [xX_isEmpty x5 (by omega), hCe.2.1]
    by_cases e : gI m 124 0 i = 0
    · rw [bz_t e]
      refine ⟨fun _ => ih (i + 1) G τ s v mg lg (by omega) (by omega) hF hC hL hlg hGR h7 hs hs0 (fun U => ?_), fun h => absurd h (by decide)⟩
      have hz : cz m i = 0 := by unfold cz; rw [e]; rfl
      rw [hU U, sm, hz, Int.zero_mul, Int.add_zero]
    · rw [bz_f e]
      refine ⟨fun h => absurd rfl h, fun _ => ⟨0, by rw [x0]; exact rXs_at (by decide), 0, by rw [x0]; exact rXs_at (by decide), 0, by rw [x5]; exact rXs_at (by decide), vi, ?_⟩⟩
      have hcn : cz m i ≠ 0 := fun h9 => e (i32_ext h9)
      obtain ⟨k1, k2⟩ := hcz.2.2.resolve_left hcn
      rw [ni, hCe.1, k2, xX_lotAt x0 l2 l1 k1 (l5 _ k1).1]
      refine ⟨0, by rw [x0]; exact rXs_at (by decide), 0, by rw [x5]; exact rXs_at (by decide), vi, ?_⟩
      rw [hCe.2.1]
      have hsm : sm mg G = sm (fun c => cz m c) i := by
        have := hU (fun _ => 1)
        simp only [Int.mul_one] at this
        exact this
      have hsi : sm (fun c => cz m c) i ≤ 12 * i := by
        have h1 := sm_le (g := fun c => cz m c) (h := fun _ => 12) i (fun c hc => (hA.cz_rng (show c < 30 by omega)).2.1)
        have h2 : ∀ k : Nat, sm (fun _ => (12 : Int)) k = 12 * k := fun k => by
          induction k with
          | zero => rfl
          | succ k ihk => simp only [sm]; omega
        rw [h2] at h1; exact h1
      have hB : 0 ≤ (gI m 124 0 i).toInt ∧ (gI m 124 0 i).toInt ≤ 12 := ⟨hcz.1, hcz.2.1⟩
      refine xX_gainOf (hA.frameP hF) hY hR (show G < 30 by omega) hC hL k1 hB (by omega) hGR h7 hs hs0 (fun more τ' v' d1 d2 d3 d4 d5 d6 d7 => ?_)
      have mu : ∀ t, t < G → updZ mg G (gI m 124 0 i).toInt t = mg t := fun t ht => by unfold updZ; rw [if_neg (by omega)]
      have lu : ∀ t, t < G → updN lg G (ct m i) t = lg t := fun t ht => by unfold updN; rw [if_neg (by omega)]
      have mG : updZ mg G (gI m 124 0 i).toInt G = cz m i := by unfold updZ; rw [if_pos rfl]; rfl
      have lG : updN lg G (ct m i) G = ct m i := by unfold updN; rw [if_pos rfl]
      have hU' : ∀ U : Nat → Int, sm (fun t => updZ mg G (gI m 124 0 i).toInt t * U (updN lg G (ct m i) t)) (G + 1) = sm (fun c => cz m c * U (ct m c)) (i + 1) := fun U => by
        rw [sm, sm, mG, lG, ← hU U, sm_congr (h := fun t => mg t * U (lg t)) G (fun t ht => by rw [mu t ht, lu t ht])]
      have hle : vl (Y + 1) (G + 1) (Wc τ') (FP τ') ≤ 360 * 210000 := by
        refine vl_up (fun t y ht hy => (d2.2.1 t y ht (by omega)).2) d2.2.2.2.1 ?_ (by omega)
        have h1 := sm_le (g := fun t => sm (FP τ' t) (Y + 1)) (h := updZ mg G (gI m 124 0 i).toInt) (G + 1) (fun t ht => (d3 t ht).1)
        have h2 := hU' (fun _ => 1)
        simp only [Int.mul_one] at h2
        have h3 : sm (fun c => cz m c) (i + 1) = sm (fun c => cz m c) i + cz m i := rfl
        have h4 : sm (updZ mg G (gI m 124 0 i).toInt) (G + 1) = sm (fun t => updZ mg G (gI m 124 0 i).toInt t) (G + 1) := rfl
        omega
      have hadd : (s + more).toInt = s.toInt + more.toInt := by rw [i32_add] <;> omega
      refine ih (i + 1) (G + 1) τ' (s + more) v' _ _ (by omega) (by omega) (hF.tr d1) d2 d3 (fun t ht => ?_) d4 d5 (by rw [hadd]; exact d6) (by omega) hU'
      unfold updN
      by_cases e' : t = G
      · rw [if_pos e']; exact k1
      · rw [if_neg e']; exact hlg t (by omega)
end PB3
set_option maxRecDepth 16384 in
theorem eM_plan_bad {m : tw_T} {a b : Int32} {Q : Int32 → tw_T → Prop} (h : ¬ ((1 ≤ a.toInt ∧ a.toInt ≤ 6) ∧ (0 ≤ b.toInt ∧ b.toInt ≤ 100))) (hQ : Q 0 (sI (sI m 0 0 0 0) 0 0 0 1)) : F_X10_plan m 0 a b Q := by
  intro τ hτ
  subst hτ
  have hJ : J_X10_plan_30 (sI m 0 0 0 0) 0 a b 0 Q := by
    have := (eM_mayz (p := False) (c := 1) (τ := m) (Q := fun (r64 : Int32) (τ63 : tw_T) => (((¬ r64 = 0 → (∃ n66 : Nat, L_X10_plan_42 0 a b Q (fun (τ67 : tw_T) (z68 : Int32) => ∃ n69 : Nat, L_X10_plan_64 0 a b Q (fun (τ70 : tw_T) (z71 : Int32) => ∃ n72 : Nat, L_X10_plan_91 0 a b Q (fun (τ73 : tw_T) (z74 : Int32) => F_X10_bestWay τ73 0 a (fun (r76 : Int32) (τ75 : tw_T) => (∃ n77 : Nat, L_X10_plan_118 0 a Q (fun (τ78 : tw_T) (z79 : Int32) (z80 : Int32) => Q z79 τ78) n77 τ75 ((0 : Int32)) r76))) n72 τ70 ((0 : Int32))) n69 τ67 ((0 : Int32))) n66 τ63 ((0 : Int32)))) ∧ (r64 = 0 → (Q ((0 : Int32)) τ63))))) (by decide)).mpr ⟨fun h => h.elim, fun _ => ⟨fun h => absurd rfl h, fun _ => hQ⟩⟩
    exact this
  rw [eM_within]
  by_cases p1 : (1 : Int32).toInt ≤ a.toInt ∧ a.toInt ≤ (6 : Int32).toInt
  · rw [bz_t p1]
    refine ⟨fun h => absurd h (by decide), fun _ => ?_⟩
    rw [eM_within, bz_f (fun h9 : (0 : Int32).toInt ≤ b.toInt ∧ b.toInt ≤ (100 : Int32).toInt => h ⟨p1, h9⟩)]
    exact ⟨fun _ => hJ, fun h => absurd rfl h⟩
  · rw [bz_f p1]
    exact ⟨fun _ => hJ, fun h => absurd rfl h⟩
set_option maxRecDepth 16384 in
theorem eM_plan_good {m : tw_T} {a b : Int32} {Q : Int32 → tw_T → Prop} (p1 : 1 ≤ a.toInt ∧ a.toInt ≤ 6) (p2 : 0 ≤ b.toInt ∧ b.toInt ≤ 100) (hQ : J_X10_plan_31 (sI m 0 0 0 0) 0 a b 1 0 Q) : F_X10_plan m 0 a b Q := by
  intro τ hτ
  subst hτ
  rw [eM_within, bz_t (show (1 : Int32).toInt ≤ a.toInt ∧ a.toInt ≤ (6 : Int32).toInt from p1)]
  refine ⟨fun h => absurd h (by decide), fun _ => ?_⟩
  rw [eM_within, bz_t (show (0 : Int32).toInt ≤ b.toInt ∧ b.toInt ≤ (100 : Int32).toInt from p2)]
  exact ⟨fun h => absurd h (by decide), fun _ => hQ⟩
set_option maxRecDepth 16384 in
theorem xX_start {Y R : Nat} {x : tw_T} {y : Int32} {Q : tw_T → Prop} (hX : SX (gR x 0) (gR x 5) (gR x 6) (gR x 8) (gR x 15) (gR x 16) (gR x 24) (gR x 25)) (hY : Y ≤ 6) (hR : R ≤ 100) (hQ : ∀ τ, FrL L8 x τ → CI Y 0 R τ (fun _ => 0) → gI τ 8 0 7 = y → Q τ) : F_X4_start x 0 y (i32 Y) (i32 R) Q := by
  obtain ⟨x0, x5, x6, x8, x15, x16, x24, x25⟩ := hX
  have e6 : ¬ (6 : Int32) < i32 Y := fun h => absurd ((show i32 6 < i32 Y ↔ _ from lt_i32 (by omega) (by omega)).mp h) (by omega)
  intro τ1 h1 τ2 h2 τ3 h3
  rw [if_neg e6] at h3
  have g3 : gR τ3 = gR x := by rw [h3, h2, h1]; rfl
  have f3 : FrL L8 x τ3 := by rw [h3, h2, h1]; exact ((FrL.rf.s (by decide)).s (by decide)).s (by decide)
  have o : gR τ3 8 0 2 = some 0 := by rw [g3, x8]; exact rXs_at (by decide)
  have q : ∀ f k j, gI (sRI τ3 17 0 7 (i32 R)) f k j = if f = 17 ∧ k = 0 ∧ j < 7 then i32 R else gI τ3 f k j := fun f k j => rfl
  have k9 : gI (sRI τ3 17 0 7 (i32 R)) 8 0 9 = i32 Y := by rw [q, if_neg (by omega), h3, gI_sI, if_pos ⟨rfl, rfl, rfl⟩]
  have vY := vpin (show Y < 7 by omega) (by decide)
  have nY := i32_nat (show Y < 2147483648 by omega)
  refine ⟨0, o, xX_fillI (by decide) ⟨0, o, ?_⟩⟩
  rw [k9, nY]
  refine ⟨vY, fun τ8 h8 => ?_⟩
  have k8 : ∀ f, f ≠ 17 → gI τ8 f = gI τ3 f := fun f hf => by
    rw [h8, hI_n hf]; funext k j; rw [q, if_neg (by omega)]
  have r17 : ∀ y, y < 7 → gI τ8 17 0 y = if y = Y then 360 else i32 R := fun y hy => by
    rw [h8, gI_sI]
    by_cases e : y = Y
    · rw [if_pos ⟨rfl, rfl, e⟩, if_pos e]
    · rw [if_neg (fun h => e h.2.2), if_neg e, q, if_pos ⟨rfl, rfl, hy⟩]
  have g8 : gR τ8 = gR x := by rw [h8]; exact g3
  have hRi := i32_int (show R < 2147483648 by omega)
  refine hQ τ8 ⟨g8, by rw [h8]; exact f3.2.1, by rw [h8]; exact f3.2.2.1, fun f hf => by rw [k8 f (fun h9 => hf (by rw [h9]; decide))]; exact f3.2.2.2 f hf⟩ ⟨?_, fun t z ht => by omega, fun t ht => by omega, fun t y ht => by omega, fun t y ht => by omega, fun y hy => ?_, ?_, rfl⟩ ?_
  · unfold PLX
    rw [g8]
    refine ⟨x8, x15, x16, x24, x25, ?_, ?_⟩
    · rw [k8 8 (by decide), h3, gI_sI, if_pos ⟨rfl, rfl, rfl⟩]
    · rw [k8 8 (by decide), h3, gI_sI, if_neg (by decide), h2, gI_sI, if_pos ⟨rfl, rfl, rfl⟩]; rfl
  · unfold RM
    rw [r17 y (by omega), if_neg (by omega), hRi]
    exact ⟨by omega, by simp only [sm]; omega, Int.le_refl _, fun _ => rfl⟩
  · unfold RM
    rw [r17 Y (by omega), if_pos rfl]; rfl
  · rw [k8 8 (by decide), h3, gI_sI, if_neg (by decide), h2, gI_sI, if_neg (by decide), h1, gI_sI, if_pos ⟨rfl, rfl, rfl⟩]
set_option maxRecDepth 16384 in
set_option maxHeartbeats 1000000 in
theorem op_plan (n : Nat) (x m : tw_T) (a : Int32) (b : Int32) (v : Int64) (h : Rel n x m) :
    F_L_plan x 0 a b v (fun kk ww x9 => F_X10_plan m 0 a b (fun rr m9 => gI m9 0 0 0 = kk ∧ (kk = 0 → ww = rr.toInt64) ∧ Rel (n + 1) x9 m9)) := by
  have hr := h
  obtain ⟨nk, nl, no, nt, nd, na, ns, hA⟩ := h
  have hA0 := hA.t (t := 0)
  unfold F_L_plan F_X9_plan
  rw [eX_isWithin, Int32.toInt_toInt64]
  by_cases p1 : (1 : Int64).toInt ≤ a.toInt ∧ a.toInt ≤ (6 : Int64).toInt
  rotate_left
  · rw [bz_f p1]
    refine ⟨fun _ => ⟨rfl, eM_plan_bad (fun h => p1 h.1) ⟨by rw [gI_sI, if_pos ⟨rfl, rfl, rfl⟩], fun h => absurd h (by decide), hr.t.t.up⟩⟩, fun h => absurd rfl h⟩
  rw [bz_t p1]
  refine ⟨fun h => absurd h (by decide), fun _ => ?_⟩
  rw [eX_isWithin, Int32.toInt_toInt64]
  by_cases p2 : (0 : Int64).toInt ≤ b.toInt ∧ b.toInt ≤ (100 : Int64).toInt
  rotate_left
  · rw [bz_f p2]
    refine ⟨fun h => absurd rfl h, fun _ => ⟨rfl, eM_plan_bad (fun h => p2 h.2) ⟨by rw [gI_sI, if_pos ⟨rfl, rfl, rfl⟩], fun h => absurd h (by decide), hr.t.t.up⟩⟩⟩
  rw [bz_t p2]
  refine ⟨fun _ => ?_, fun h => absurd h (by decide)⟩
  have q1 : 1 ≤ a.toInt ∧ a.toInt ≤ 6 := p1
  have q2 : 0 ≤ b.toInt ∧ b.toInt ≤ 100 := p2
  obtain ⟨Y, rfl, hY1, hY2⟩ := i32_of (x := a) (by omega)
  obtain ⟨R, rfl, hR1, hR2⟩ := i32_of (x := b) q2.1
  have hYi := i32_int (show Y < 2147483648 by omega)
  have hRi := i32_int (show R < 2147483648 by omega)
  have hY : Y ≤ 6 := by omega
  have hR : R ≤ 100 := by omega
  obtain ⟨hM, hX, hK, hL, hC, hO, hG, hT, hD, hW⟩ := hA0
  have hA0 := hA.t (t := 0)
  refine ⟨0, by rw [hX.1]; exact rXs_at (by decide), ?_⟩
  rw [xX_year, hG.1]
  refine xX_start hX hY hR (fun τ f1 f2 f3 => ⟨31, ?_⟩)
  refine xX_plan53 hA0 hY (R := R) (by omega) (fun τ s r g1 g2 => ?_) 30 0 0 τ 0 (fun _ => 0) (fun _ => 0) (fun _ => 0) (by omega) (Nat.le_refl _) f1 f2 (fun t ht => by omega) (fun t ht => by omega) (fun t y ht => by omega) f3 rfl (by decide) (fun U => rfl)
  refine eM_plan_good q1 q2 (eM_planJ hA0 (by rw [gI_sI, if_pos ⟨rfl, rfl, rfl⟩]) hY hR (fun s' τm k1 k2 => ⟨by rw [k1.2.2 0 (by omega), gI_sI, if_pos ⟨rfl, rfl, rfl⟩], fun _ => ?_, Rel.up ⟨nk, nl, no, nt, nd, na, ns, (hA0.frameP g1).frame6 k1⟩⟩))
  obtain ⟨G, lg, mg, F, v, c1, c2⟩ := g2
  obtain ⟨F', v', c3⟩ := k2
  have := c1.same c3 (fun U => by rw [c2 U, hA0.bZ_U U])
  rw [i32_ext this]
