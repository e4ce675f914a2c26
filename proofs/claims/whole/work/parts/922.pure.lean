/-! ===== deliveries ===== -/
set_option maxRecDepth 16384 in
theorem i64_sub {x y : Int64} (h : -9223372036854775808 ≤ x.toInt - y.toInt) (h2 : x.toInt - y.toInt < 9223372036854775808) : (x - y).toInt = x.toInt - y.toInt := by
  rw [Int64.toInt_sub]
  have : ((2 : Nat) ^ 64) = 18446744073709551616 := by decide
  rw [this]; exact Int.bmod_eq_of_le (by omega) (by omega)
set_option maxRecDepth 16384 in
theorem i64_to {z : Int64} (h1 : 0 ≤ z.toInt) (h2 : z.toInt < 2147483648) : ∃ k : Nat, z.toInt32 = i32 k ∧ (k : Int) = z.toInt ∧ k < 2147483648 := by
  refine ⟨z.toInt.toNat, ?_, by omega, by omega⟩
  apply i32_ext
  rw [i32_int (by omega), Int64.toInt_toInt32, bm32 (by omega) (by omega)]; omega
set_option maxRecDepth 16384 in
theorem i64_to' {z : Int64} (h1 : 0 ≤ z.toInt) (h2 : z.toInt < 2147483648) : z.toInt32.toInt = z.toInt := by
  rw [Int64.toInt_toInt32, bm32 (by omega) (by omega)]
set_option maxRecDepth 16384 in
theorem eM_isNumber {m : tw_T} {j : Nat} {lo hi : Int64} {Q : Int32 → tw_T → Prop} (hM : gR m = rM) (hj : j < 1600) : F_X10_isNumber m 0 (i32 j) lo hi Q ↔ Q (bz (lo.toInt ≤ (gJ m 142 0 j).toInt ∧ (gJ m 142 0 j).toInt ≤ hi.toInt)) m := by
  have e3 := vpin hj (by decide)
  have e4 := i32_nat (show j < 2147483648 by omega)
  unfold F_X10_isNumber
  simp only [hM, e3, e4, cmp_lt0, cmp_gt0, ↓forall_eq, bz_b, gR_sI, gR_sJ, gJ_sI, gI_sJ, gN_sI, gN_sJ, gI_sR, gJ_sR, gN_sR, gI_sI, gJ_sJ, gR_sR, gI_nW, gR_nW, gN_nW, gJ_nW, rM_at, rXs_at, rXd_at, ex_s, true_and, and_true, false_and, and_false, or_true, true_or, or_false, false_or, if_true, if_false, not_true_eq_false, not_false_eq_true, forall_const, true_implies, false_implies, implies_true, Nat.reduceLeDiff, Nat.reduceEqDiff, reduceCtorEq, i32_succ, i32_pred, Nat.le_refl, Nat.lt_add_one, Nat.reduceLT, ne_eq, Nat.add_one_ne_zero]
  by_cases h : (gJ m 142 0 j).toInt < lo.toInt
  · rw [bz_f (by omega)]; simp [h]
  · by_cases h2 : hi.toInt < (gJ m 142 0 j).toInt
    · rw [bz_f (by omega)]; simp [h, h2]
    · rw [bz_t (by omega)]; simp [h, h2]
set_option maxRecDepth 16384 in
theorem RelA.putc {n nk nl no nt nd na ns c l : Nat} {x m : tw_T} {b v : Int32} (hA : RelA n nk nl no nt nd na ns x m) (hl : l < nl) (h1 : 1 ≤ b.toInt) (h2 : b.toInt ≤ 12) :
    RelA n nk nl no nt nd na ns (sI (sI (sI x 12 0 c (i32 l)) 13 0 c b) 7 0 0 (gI x 7 0 0 + v)) (sI (sI (sI m 124 0 c b) 123 0 c (i32 l)) 0 0 15 (gI m 0 0 15 + v)) := by
  obtain ⟨hM, hX0, hK0, hL0, hC0, hO0, hG0, hT0, hD0, hW0⟩ := hA
  refine ⟨(by simpa only [hI_s, hI_n, hJ_s, hJ_n, hR_s, hR_n, hIW_s, hIW_n, hJW_s, hJW_n, hRW_s, hRW_n, hNW_s, hNW_n, hRM_s, hRM_n, u2_s, u2_j, u2_row, u2_kk, gR_sI, gR_sJ, gJ_sI, gI_sJ, gN_sI, gN_sJ, gI_sR, gJ_sR, gN_sR, gI_sM, gJ_sM, gN_sM, ne_eq, Nat.reduceEqDiff, not_false_eq_true, reduceCtorEq, true_implies] using hM), (by simpa only [hI_s, hI_n, hJ_s, hJ_n, hR_s, hR_n, hIW_s, hIW_n, hJW_s, hJW_n, hRW_s, hRW_n, hNW_s, hNW_n, hRM_s, hRM_n, u2_s, u2_j, u2_row, u2_kk, gR_sI, gR_sJ, gJ_sI, gI_sJ, gN_sI, gN_sJ, gI_sR, gJ_sR, gN_sR, gI_sM, gJ_sM, gN_sM, ne_eq, Nat.reduceEqDiff, not_false_eq_true, reduceCtorEq, true_implies] using hX0), (by simpa only [hI_s, hI_n, hJ_s, hJ_n, hR_s, hR_n, hIW_s, hIW_n, hJW_s, hJW_n, hRW_s, hRW_n, hNW_s, hNW_n, hRM_s, hRM_n, u2_s, u2_j, u2_row, u2_kk, gR_sI, gR_sJ, gJ_sI, gI_sJ, gN_sI, gN_sJ, gI_sR, gJ_sR, gN_sR, gI_sM, gJ_sM, gN_sM, ne_eq, Nat.reduceEqDiff, not_false_eq_true, reduceCtorEq, true_implies] using hK0), (by simpa only [hI_s, hI_n, hJ_s, hJ_n, hR_s, hR_n, hIW_s, hIW_n, hJW_s, hJW_n, hRW_s, hRW_n, hNW_s, hNW_n, hRM_s, hRM_n, u2_s, u2_j, u2_row, u2_kk, gR_sI, gR_sJ, gJ_sI, gI_sJ, gN_sI, gN_sJ, gI_sR, gJ_sR, gN_sR, gI_sM, gJ_sM, gN_sM, ne_eq, Nat.reduceEqDiff, not_false_eq_true, reduceCtorEq, true_implies] using hL0), ?_, (by simpa only [hI_s, hI_n, hJ_s, hJ_n, hR_s, hR_n, hIW_s, hIW_n, hJW_s, hJW_n, hRW_s, hRW_n, hNW_s, hNW_n, hRM_s, hRM_n, u2_s, u2_j, u2_row, u2_kk, gR_sI, gR_sJ, gJ_sI, gI_sJ, gN_sI, gN_sJ, gI_sR, gJ_sR, gN_sR, gI_sM, gJ_sM, gN_sM, ne_eq, Nat.reduceEqDiff, not_false_eq_true, reduceCtorEq, true_implies] using hO0), ?_, (by simpa only [hI_s, hI_n, hJ_s, hJ_n, hR_s, hR_n, hIW_s, hIW_n, hJW_s, hJW_n, hRW_s, hRW_n, hNW_s, hNW_n, hRM_s, hRM_n, u2_s, u2_j, u2_row, u2_kk, gR_sI, gR_sJ, gJ_sI, gI_sJ, gN_sI, gN_sJ, gI_sR, gJ_sR, gN_sR, gI_sM, gJ_sM, gN_sM, ne_eq, Nat.reduceEqDiff, not_false_eq_true, reduceCtorEq, true_implies] using hT0), (by simpa only [hI_s, hI_n, hJ_s, hJ_n, hR_s, hR_n, hIW_s, hIW_n, hJW_s, hJW_n, hRW_s, hRW_n, hNW_s, hNW_n, hRM_s, hRM_n, u2_s, u2_j, u2_row, u2_kk, gR_sI, gR_sJ, gJ_sI, gI_sJ, gN_sI, gN_sJ, gI_sR, gJ_sR, gN_sR, gI_sM, gJ_sM, gN_sM, ne_eq, Nat.reduceEqDiff, not_false_eq_true, reduceCtorEq, true_implies] using hD0), (by simpa only [hI_s, hI_n, hJ_s, hJ_n, hR_s, hR_n, hIW_s, hIW_n, hJW_s, hJW_n, hRW_s, hRW_n, hNW_s, hNW_n, hRM_s, hRM_n, u2_s, u2_j, u2_row, u2_kk, gR_sI, gR_sJ, gJ_sI, gI_sJ, gN_sI, gN_sJ, gI_sR, gJ_sR, gN_sR, gI_sM, gJ_sM, gN_sM, ne_eq, Nat.reduceEqDiff, not_false_eq_true, reduceCtorEq, true_implies] using hW0)⟩
  · simp only [hI_s, hI_n, hJ_s, hJ_n, hR_s, hR_n, hIW_s, hIW_n, hJW_s, hJW_n, hRW_s, hRW_n, hNW_s, hNW_n, hRM_s, hRM_n, u2_s, u2_j, u2_row, u2_kk, gR_sI, gR_sJ, gJ_sI, gI_sJ, gN_sI, gN_sJ, gI_sR, gJ_sR, gN_sR, gI_sM, gJ_sM, gN_sM, ne_eq, Nat.reduceEqDiff, not_false_eq_true, reduceCtorEq, true_implies]; exact hC0.set (Or.inr ⟨h1, h2, l, hl, rfl⟩)
  · simp only [hI_s, hI_n, hJ_s, hJ_n, hR_s, hR_n, hIW_s, hIW_n, hJW_s, hJW_n, hRW_s, hRW_n, hNW_s, hNW_n, hRM_s, hRM_n, u2_s, u2_j, u2_row, u2_kk, gR_sI, gR_sJ, gJ_sI, gI_sJ, gN_sI, gN_sJ, gI_sR, gJ_sR, gN_sR, gI_sM, gJ_sM, gN_sM, ne_eq, Nat.reduceEqDiff, not_false_eq_true, reduceCtorEq, true_implies]
    obtain ⟨g1, g2, g3, g4, gr⟩ := hG0
    exact ⟨g1, g2, g3, by rw [g4], gr⟩
set_option maxRecDepth 16384 in
theorem i32_pn {i c : Nat} : i32 i + (Int32.ofNat c) = i32 (i + c) := (Int32.ofNat_add i c).symm
set_option maxRecDepth 16384 in
theorem ad1 {i : Nat} : i32 i + 1 = i32 (i + 1) := (Int32.ofNat_add i 1).symm
set_option maxRecDepth 16384 in
theorem ad2 {i : Nat} : i32 i + 2 = i32 (i + 2) := (Int32.ofNat_add i 2).symm
set_option maxRecDepth 16384 in
theorem ad3 {i : Nat} : i32 i + 3 = i32 (i + 3) := (Int32.ofNat_add i 3).symm
set_option maxRecDepth 16384 in
theorem ad4 {i : Nat} : i32 i + 4 = i32 (i + 4) := (Int32.ofNat_add i 4).symm
set_option maxRecDepth 16384 in
theorem ad5 {i : Nat} : i32 i + 5 = i32 (i + 5) := (Int32.ofNat_add i 5).symm
set_option maxRecDepth 16384 in
/-- the reference's five at B, all in their bounds -/
theorem eM_d156 {m : tw_T} {B nl q c : Nat} {u3 u4 u5 : Int32} {Q : Int32 → tw_T → Prop} {RC EX : tw_T → Int32 → Int32 → Prop} (hM : gR m = rM) (l3 : gI m 0 0 2 = i32 nl) (hB : B + 4 < 1600) (h0 : (gJ m 142 0 B).toInt32 = i32 q) (hq : q < 20) (hl : nl < 60) (h3 : (gJ m 142 0 (B + 3)).toInt32 = i32 c) (hc : c < 30)
    (k1 : gI m 123 0 c = -1 → RC (sI (sI (sI (ALm m nl q (gJ m 142 0 (B + 1)).toInt32 (gJ m 142 0 (B + 2)).toInt32) 124 0 c (gI (ALm m nl q (gJ m 142 0 (B + 1)).toInt32 (gJ m 142 0 (B + 2)).toInt32) 124 0 c + (gJ m 142 0 (B + 4)).toInt32)) 123 0 c (if gI (ALm m nl q (gJ m 142 0 (B + 1)).toInt32 (gJ m 142 0 (B + 2)).toInt32) 124 0 c + (gJ m 142 0 (B + 4)).toInt32 = 0 then -1 else i32 nl)) 0 0 15 (gI (ALm m nl q (gJ m 142 0 (B + 1)).toInt32 (gJ m 142 0 (B + 2)).toInt32) 0 0 15 + (gJ m 142 0 (B + 4)).toInt32)) (u4 + 1) (u5 + 5))
    (k2 : ¬ gI m 123 0 c = -1 → Q u4 m) : J_X10_deliver_156 m 0 u3 u4 u5 (i32 B) 1 Q RC EX := by
  have v0 := vpin (show B < 1600 by omega) (by decide)
  have v1 := vpin (show B + 1 < 1600 by omega) (by decide)
  have v2 := vpin (show B + 2 < 1600 by omega) (by decide)
  have v3 := vpin (show B + 3 < 1600 by omega) (by decide)
  have v4 := vpin (show B + 4 < 1600 by omega) (by decide)
  have n0 := i32_nat (show B < 2147483648 by omega)
  have n1 := i32_nat (show B + 1 < 2147483648 by omega)
  have n2 := i32_nat (show B + 2 < 2147483648 by omega)
  have n3 := i32_nat (show B + 3 < 2147483648 by omega)
  have n4 := i32_nat (show B + 4 < 2147483648 by omega)
  have ec := vpin hc (by decide)
  have ec2 := i32_nat (show c < 2147483648 by omega)
  have r23 : gR m 0 0 23 = some 0 := by rw [hM]; exact rM_at (by decide)
  have r42 : ∀ τ : tw_T, gR τ = rM → gR τ 0 0 42 = some 0 := fun τ h => by rw [h]; exact rM_at (by decide)
  unfold J_X10_deliver_156
  rw [ad1, ad2, ad3, ad4]
  refine ⟨fun h => absurd h (by decide), fun _ => ⟨0, r23, 0, r42 m hM, v3, ?_, ?_⟩⟩
  · rw [n3, h3]; exact ec
  rw [n3, h3, ec2]
  refine ⟨fun hcl => ⟨0, r42 m hM, v0, 0, r42 m hM, v1, 0, r42 m hM, v2, ?_⟩, k2⟩
  rw [n0, n1, n2, h0]
  refine (eM_newLot hM l3 hq hl).mpr ?_
  refine ⟨0, r42 _ hM, v3, 0, r42 _ hM, v4, ?_⟩
  rw [n4]
  show F_X10_adds (ALm m nl q (gJ m 142 0 (B + 1)).toInt32 (gJ m 142 0 (B + 2)).toInt32) 0 (gJ m 142 0 (B + 3)).toInt32 (i32 nl) (gJ m 142 0 (B + 4)).toInt32 _
  rw [h3]
  refine (eM_adds (show gR (ALm m nl q (gJ m 142 0 (B + 1)).toInt32 (gJ m 142 0 (B + 2)).toInt32) = rM from hM) hc).mpr ?_
  refine ⟨0, r42 _ hM, v4, ?_⟩
  intro τ22 h22 z23 h23 z24 h24
  subst h22; subst h23; subst h24
  exact k1 hcl
set_option maxHeartbeats 4000000 in
set_option maxRecDepth 100000 in
/-- five numbers: both take them, or neither does -/
theorem five {n nk nl no nt nd na ns s k i : Nat} {x m : tw_T} (hA : RelA n nk nl no nt nd na ns x m) (hs : s < ns) (hk : k < 10) (hi : i + 5 ≤ 40) (hrs : gI m 141 0 (10 * s + k) ≠ -1) :
    ((∀ Q : Int32 → tw_T → Prop, Q 0 x → F_X9_takesFive x 0 (10 * s + k) (i32 i) Q) ∧
      (∀ (Q : Int32 → tw_T → Prop) (EX : tw_T → Int32 → Int32 → Prop) (f : Nat) (u : Int32), (¬ gI m 141 0 (10 * s + k) < i32 (i + 5)) → Q u m → L_X10_deliver_41 0 (i32 (10 * s + k)) Q EX (f + 1) m u (i32 i))) ∨
    (∃ x9 m9, RelA n nk (nl + 1) no nt nd na ns x9 m9 ∧ gI m9 141 = gI m 141 ∧ gI m9 0 0 0 = gI m 0 0 0 ∧ (∀ Q : Int32 → tw_T → Prop, Q 1 x9 → F_X9_takesFive x 0 (10 * s + k) (i32 i) Q) ∧
      (∀ (Q : Int32 → tw_T → Prop) (EX : tw_T → Int32 → Int32 → Prop) (f : Nat) (u : Int32), (¬ gI m 141 0 (10 * s + k) < i32 (i + 5)) → L_X10_deliver_41 0 (i32 (10 * s + k)) Q EX f m9 (u + 1) (i32 (i + 5)) → L_X10_deliver_41 0 (i32 (10 * s + k)) Q EX (f + 1) m u (i32 i))) := by
  have hA0 := hA
  obtain ⟨hM, hX0, hK0, hL0, hC0, hO0, hG0, hT0, hD0, hW0⟩ := hA
  have x0 := hX0.1
  have x5 := hX0.2.1
  have k1 := hK0.1
  have k2 := hK0.2.1
  have k3 := hK0.2.2.1
  have l1 := hL0.1
  have l2 := hL0.2.1
  have l3 := hL0.2.2.1
  have l4 := hL0.2.2.2.1
  have c1 := hC0.1
  have c2 := hC0.2.1
  obtain ⟨w1, w2, w3, w4, w5, w6, w7, w8, w9, w10⟩ := hW0
  obtain ⟨b1, b2, b3, b4⟩ := w9 s k hs hk
  have a0 := b4 i (by omega) hrs
  have a1 := b4 (i + 1) (by omega) hrs
  have a2 := b4 (i + 2) (by omega) hrs
  have a3 := b4 (i + 3) (by omega) hrs
  have a4 := b4 (i + 4) (by omega) hrs
  have hr : 10 * s + k < 40 := by omega
  have v0 := vpin (show i < 40 by omega) (by decide)
  have v1 := vpin (show i + 1 < 40 by omega) (by decide)
  have v2 := vpin (show i + 2 < 40 by omega) (by decide)
  have v3 := vpin (show i + 3 < 40 by omega) (by decide)
  have v4 := vpin (show i + 4 < 40 by omega) (by decide)
  have n0 := i32_nat (show i < 2147483648 by omega)
  have n1 := i32_nat (show i + 1 < 2147483648 by omega)
  have n2 := i32_nat (show i + 2 < 2147483648 by omega)
  have n3 := i32_nat (show i + 3 < 2147483648 by omega)
  have n4 := i32_nat (show i + 4 < 2147483648 by omega)
  generalize hz0 : gJ m 142 0 (40 * (10 * s + k) + i) = z0 at a0
  generalize hz1 : gJ m 142 0 (40 * (10 * s + k) + (i + 1)) = z1 at a1
  generalize hz2 : gJ m 142 0 (40 * (10 * s + k) + (i + 2)) = z2 at a2
  generalize hz3 : gJ m 142 0 (40 * (10 * s + k) + (i + 3)) = z3 at a3
  generalize hz4 : gJ m 142 0 (40 * (10 * s + k) + (i + 4)) = z4 at a4
  have o1 : (1 : Int32).toInt = 1 := rfl
  have ek : (i32 nk - 1).toInt = nk - 1 := by rw [i32_sub] <;> rw [i32_int (by omega), o1] <;> omega
  have ek2 : ((i32 nk).toInt64 - 1).toInt = nk - 1 := by
    have o2 : (1 : Int64).toInt = 1 := rfl
    rw [i64_sub] <;> rw [Int32.toInt_toInt64, i32_int (by omega), o2] <;> omega
  have t1 : tw_b 1 := Or.inr rfl
  have t0 : tw_b 0 := Or.inl rfl
  have hl60 : (i32 nl < (60 : Int32)) ↔ nl < 60 := lt_i32 (c := 60) (by omega) (by decide)
  have hl60' : ((60 : Int32) ≤ i32 nl) ↔ 60 ≤ nl := le_i32 (k := 60) (by decide) (by omega)
  have r5 := vpin hr (by decide)
  have r6 := i32_nat (show 10 * s + k < 2147483648 by omega)
  have hMs : ∀ (Q : Int32 → tw_T → Prop) (EX : tw_T → Int32 → Int32 → Prop) (f : Nat) (u : Int32), (¬ gI m 141 0 (10 * s + k) < i32 (i + 5)) →
      ((nl < 60 ∧ (0 ≤ z0.toInt ∧ z0.toInt ≤ (nk : Int) - 1) ∧ (1900 ≤ z1.toInt ∧ z1.toInt ≤ 2100) ∧ (1 ≤ z2.toInt ∧ z2.toInt ≤ 10000) ∧ (0 ≤ z3.toInt ∧ z3.toInt ≤ 29) ∧ (1 ≤ z4.toInt ∧ z4.toInt ≤ 12)) → J_X10_deliver_156 m 0 (i32 (10 * s + k)) u (i32 i) (i32 (40 * (10 * s + k) + i)) 1 Q (fun t v4 v5 => L_X10_deliver_41 0 (i32 (10 * s + k)) Q EX f t v4 v5) EX) →
      (¬ (nl < 60 ∧ (0 ≤ z0.toInt ∧ z0.toInt ≤ (nk : Int) - 1) ∧ (1900 ≤ z1.toInt ∧ z1.toInt ≤ 2100) ∧ (1 ≤ z2.toInt ∧ z2.toInt ≤ 10000) ∧ (0 ≤ z3.toInt ∧ z3.toInt ≤ 29) ∧ (1 ≤ z4.toInt ∧ z4.toInt ≤ 12)) → Q u m) → L_X10_deliver_41 0 (i32 (10 * s + k)) Q EX (f + 1) m u (i32 i) := by
    intro Q EX f u hlen h1 h2
    rw [L_X10_deliver_41]
    simp only [hM, r5, r6, ad5, hlen, ix4, l3, hl60', ↓forall_eq, bz_b, gR_sI, gR_sJ, gJ_sI, gI_sJ, gN_sI, gN_sJ, gI_sR, gJ_sR, gN_sR, gI_sI, gJ_sJ, gR_sR, gI_nW, gR_nW, gN_nW, gJ_nW, rM_at, rXs_at, rXd_at, ex_s, true_and, and_true, false_and, and_false, or_true, true_or, or_false, false_or, if_true, if_false, not_true_eq_false, not_false_eq_true, forall_const, true_implies, false_implies, implies_true, Nat.reduceLeDiff, Nat.reduceEqDiff, reduceCtorEq, i32_succ, i32_pred, Nat.le_refl, Nat.lt_add_one, Nat.reduceLT, ne_eq, Nat.add_one_ne_zero]
    have hq : ∀ R : tw_T → Int32 → Int32 → Prop, Q u m → J_X10_deliver_155 m 0 (i32 (10 * s + k)) u (i32 i) (i32 (40 * (10 * s + k) + i)) Q R EX := fun R h => ⟨fun _ => h, fun h9 => absurd rfl h9⟩
    refine ⟨fun h9 => hq _ (h2 (fun h8 => by omega)), fun h9 => ?_⟩
    rw [eM_isNumber hM (by omega), hz0, k3, ek2]
    simp only [bz_eq0, Int64.reduceToInt]
    refine ⟨fun h8 => hq _ (h2 (fun h => h8 h.2.1)), fun h8 => ?_⟩
    have h8 := Decidable.of_not_not h8
    rw [eM_isNumber hM (by omega), Nat.add_assoc, hz1]
    simp only [bz_eq0, Int64.reduceToInt]
    refine ⟨fun h7 => hq _ (h2 (fun h => h7 h.2.2.1)), fun h7 => ?_⟩
    have h7 := Decidable.of_not_not h7
    rw [ad2, eM_isNumber hM (by omega), Nat.add_assoc, hz2]
    simp only [bz_eq0, Int64.reduceToInt]
    refine ⟨fun h6 => hq _ (h2 (fun h => h6 h.2.2.2.1)), fun h6 => ?_⟩
    have h6 := Decidable.of_not_not h6
    rw [ad3, eM_isNumber hM (by omega), Nat.add_assoc, hz3]
    simp only [bz_eq0, Int64.reduceToInt]
    refine ⟨fun h5 => hq _ (h2 (fun h => h5 h.2.2.2.2.1)), fun h5 => ?_⟩
    have h5 := Decidable.of_not_not h5
    rw [ad4, eM_isNumber hM (by omega), Nat.add_assoc, hz4]
    simp only [bz_eq0, Int64.reduceToInt]
    refine ⟨fun h4 => hq _ (h2 (fun h => h4 h.2.2.2.2.2)), fun h4 => ?_⟩
    have h4 := Decidable.of_not_not h4
    exact h1 ⟨by omega, h8, h7, h6, h5, h4⟩
  by_cases P : nl < 60 ∧ (0 ≤ z0.toInt ∧ z0.toInt ≤ (nk : Int) - 1) ∧ (1900 ≤ z1.toInt ∧ z1.toInt ≤ 2100) ∧ (1 ≤ z2.toInt ∧ z2.toInt ≤ 10000) ∧ (0 ≤ z3.toInt ∧ z3.toInt ≤ 29) ∧ (1 ≤ z4.toInt ∧ z4.toInt ≤ 12)
  rotate_left
  · refine Or.inl ⟨fun Q hQ => ?_, fun Q EX f u hlen hQ => hMs Q EX f u hlen (fun h => absurd h P) (fun _ => hQ)⟩
    simp only [F_X9_takesFive, F_X9_isVintage, F_X9_isPrice, v0, v1, v2, v3, v4, n0, n1, n2, n3, n4, ad1, ad2, ad3, ad4, a0, a1, a2, a3, a4, eX_isWithin, Int64.reduceToInt, Int32.toInt_toInt64, k2, ek, bz_eq0, ↓forall_eq, bz_b, gR_sI, gR_sJ, gJ_sI, gI_sJ, gN_sI, gN_sJ, gI_sR, gJ_sR, gN_sR, gI_sI, gJ_sJ, gR_sR, gI_nW, gR_nW, gN_nW, gJ_nW, rM_at, rXs_at, rXd_at, ex_s, true_and, and_true, false_and, and_false, or_true, true_or, or_false, false_or, if_true, if_false, not_true_eq_false, not_false_eq_true, forall_const, true_implies, false_implies, implies_true, Nat.reduceLeDiff, Nat.reduceEqDiff, reduceCtorEq, i32_succ, i32_pred, Nat.le_refl, Nat.lt_add_one, Nat.reduceLT, ne_eq, Nat.add_one_ne_zero]
    refine ⟨fun _ => hQ, fun h8 => ⟨fun _ => hQ, fun h7 => ⟨fun h6 => ⟨fun _ => hQ, fun h5 => ⟨fun h4 => ?_, fun _ => hQ⟩⟩, fun _ => hQ⟩⟩⟩
    have h8 := Decidable.of_not_not h8
    have h7 := Decidable.of_not_not h7
    have h6 := Decidable.of_not_not h6
    have h5 := Decidable.of_not_not h5
    have h4 := Decidable.of_not_not h4
    obtain ⟨c, hc1, hc2, hc3⟩ := i64_to (z := z3) h5.1 (by omega)
    simp only [x0, hc1, xX_isEmpty x5 (show c < 30 by omega), bz_eq0, l2, hl60, ↓forall_eq, bz_b, gR_sI, gR_sJ, gJ_sI, gI_sJ, gN_sI, gN_sJ, gI_sR, gJ_sR, gN_sR, gI_sI, gJ_sJ, gR_sR, gI_nW, gR_nW, gN_nW, gJ_nW, rM_at, rXs_at, rXd_at, ex_s, true_and, and_true, false_and, and_false, or_true, true_or, or_false, false_or, if_true, if_false, not_true_eq_false, not_false_eq_true, forall_const, true_implies, false_implies, implies_true, Nat.reduceLeDiff, Nat.reduceEqDiff, reduceCtorEq, i32_succ, i32_pred, Nat.le_refl, Nat.lt_add_one, Nat.reduceLT, ne_eq, Nat.add_one_ne_zero]
    refine ⟨fun _ => hQ, fun _ => ⟨fun h3 => absurd ⟨h3, h8, h7, h6, h5, h4⟩ P, fun _ => hQ⟩⟩
  obtain ⟨p0, p1, p2, p3, p4, p5⟩ := P
  obtain ⟨q, hq1, hq2, hq3⟩ := i64_to (z := z0) p1.1 (by omega)
  obtain ⟨c, hc1, hc2, hc3⟩ := i64_to (z := z3) p4.1 (by omega)
  have hc : c < 30 := by omega
  have hv1 := i64_to' (z := z1) (by omega) (by omega)
  have hv2 := i64_to' (z := z2) (by omega) (by omega)
  have hv4 := i64_to' (z := z4) (by omega) (by omega)
  have hkq : gR x 1 0 q = some q := (hK0.2.2.2.2 q (by omega)).1
  have u3 := vpin (show 40 * (10 * s + k) + (i + 3) < 1600 by omega) (by decide)
  have u4 := vpin (show 40 * (10 * s + k) + (i + 4) < 1600 by omega) (by decide)
  have u0 := vpin (show 40 * (10 * s + k) + i < 1600 by omega) (by decide)
  have u1 := vpin (show 40 * (10 * s + k) + (i + 1) < 1600 by omega) (by decide)
  have u2 := vpin (show 40 * (10 * s + k) + (i + 2) < 1600 by omega) (by decide)
  have y0 := i32_nat (show 40 * (10 * s + k) + i < 2147483648 by omega)
  have y1 := i32_nat (show 40 * (10 * s + k) + (i + 1) < 2147483648 by omega)
  have y2 := i32_nat (show 40 * (10 * s + k) + (i + 2) < 2147483648 by omega)
  have y3 := i32_nat (show 40 * (10 * s + k) + (i + 3) < 2147483648 by omega)
  have y4 := i32_nat (show 40 * (10 * s + k) + (i + 4) < 2147483648 by omega)
  have ec := vpin hc (by decide)
  have ec2 := i32_nat (show c < 2147483648 by omega)
  by_cases P2 : gI m 124 0 c = 0
  rotate_left
  · have hcl : ¬ gI m 123 0 c = -1 := by
      obtain ⟨-, -, l, hl, hl2⟩ := hC0.full hc P2
      rw [hl2]; exact not_m1 (by omega)
    refine Or.inl ⟨fun Q hQ => ?_, fun Q EX f u hlen hQ => hMs Q EX f u hlen (fun _ => ?_) (fun _ => hQ)⟩
    · simp only [F_X9_takesFive, F_X9_isVintage, F_X9_isPrice, v0, v1, v2, v3, v4, n0, n1, n2, n3, n4, ad1, ad2, ad3, ad4, a0, a1, a2, a3, a4, eX_isWithin, Int64.reduceToInt, Int32.toInt_toInt64, k2, ek, bz_eq0, p1, p2, p3, p4, p5, bz_b, x0, hc1, xX_isEmpty x5 hc, c2, P2, ↓forall_eq, bz_b, gR_sI, gR_sJ, gJ_sI, gI_sJ, gN_sI, gN_sJ, gI_sR, gJ_sR, gN_sR, gI_sI, gJ_sJ, gR_sR, gI_nW, gR_nW, gN_nW, gJ_nW, rM_at, rXs_at, rXd_at, ex_s, true_and, and_true, false_and, and_false, or_true, true_or, or_false, false_or, if_true, if_false, not_true_eq_false, not_false_eq_true, forall_const, true_implies, false_implies, implies_true, Nat.reduceLeDiff, Nat.reduceEqDiff, reduceCtorEq, i32_succ, i32_pred, Nat.le_refl, Nat.lt_add_one, Nat.reduceLT, ne_eq, Nat.add_one_ne_zero]
      exact hQ
    · exact eM_d156 (nl := nl) (q := q) (c := c) hM l3 (by omega) (by rw [hz0]; exact hq1) (by omega) p0 (by rw [Nat.add_assoc, hz3]; exact hc1) hc (fun h9 => absurd h9 hcl) (fun _ => hQ)
  have hcl : gI m 123 0 c = -1 := hC0.none hc P2
  have hb0 : ¬ z4.toInt32 = 0 := by rw [i32_eq0, hv4]; omega
  have hA1 := hA0.addLot (vi := z1.toInt32) (pr := z2.toInt32) p0 (show q < nk by omega) (by omega) (by omega) (by omega) (by omega)
  have hA2 := hA1.putc (c := c) (l := nl) (b := z4.toInt32) (v := z4.toInt32) (by omega) (by omega) (by omega)
  refine Or.inr ⟨_, _, hA2, ?_, ?_, fun Q hQ => ?_, fun Q EX f u hlen hQ => hMs Q EX f u hlen (fun _ => ?_) (fun h9 => absurd ⟨p0, p1, p2, p3, p4, p5⟩ h9)⟩
  · unfold ALm; simp only [hI_s, hI_n, hJ_s, hJ_n, hR_s, hR_n, hIW_s, hIW_n, hJW_s, hJW_n, hRW_s, hRW_n, hNW_s, hNW_n, hRM_s, hRM_n, u2_s, u2_j, u2_row, u2_kk, gR_sI, gR_sJ, gJ_sI, gI_sJ, gN_sI, gN_sJ, gI_sR, gJ_sR, gN_sR, gI_sM, gJ_sM, gN_sM, ne_eq, Nat.reduceEqDiff, not_false_eq_true, reduceCtorEq, true_implies]
  · unfold ALm; simp only [hI_s, hI_n, hJ_s, hJ_n, hR_s, hR_n, hIW_s, hIW_n, hJW_s, hJW_n, hRW_s, hRW_n, hNW_s, hNW_n, hRM_s, hRM_n, u2_s, u2_j, u2_row, u2_kk, gR_sI, gR_sJ, gJ_sI, gI_sJ, gN_sI, gN_sJ, gI_sR, gJ_sR, gN_sR, gI_sM, gJ_sM, gN_sM, ne_eq, Nat.reduceEqDiff, not_false_eq_true, reduceCtorEq, true_implies]
  · have y5 : gR (ALx x nl q z1.toInt32 z2.toInt32) 5 = rXs 2 := x5
    have y0' : gR (ALx x nl q z1.toInt32 z2.toInt32) 0 = rXs 11 := x0
    have g13 : gI (ALx x nl q z1.toInt32 z2.toInt32) 13 0 c = 0 := by
      unfold ALx; simp only [hI_s, hI_n, hJ_s, hJ_n, hR_s, hR_n, hIW_s, hIW_n, hJW_s, hJW_n, hRW_s, hRW_n, hNW_s, hNW_n, hRM_s, hRM_n, u2_s, u2_j, u2_row, u2_kk, gR_sI, gR_sJ, gJ_sI, gI_sJ, gN_sI, gN_sJ, gI_sR, gJ_sR, gN_sR, gI_sM, gJ_sM, gN_sM, ne_eq, Nat.reduceEqDiff, not_false_eq_true, reduceCtorEq, true_implies, c2]; exact P2
    have hadd : F_X9_addLot x 0 z0.toInt32 z1.toInt32 z2.toInt32 (fun (r32 : Int32) (τ31 : tw_T) => (∃ o33 : Nat, gR τ31 0 0 4 = some o33 ∧ (F_X5_add τ31 o33 (i32 c) r32 z4.toInt32 (fun (τ34 : tw_T) => (∃ o35 : Nat, gR τ34 0 0 6 = some o35 ∧ (∀ τ36 : tw_T, τ36 = sI τ34 7 o35 0 ((gI τ34 7 o35 0) + z4.toInt32) → (Q ((1 : Int32)) τ36))))))) := by
      rw [hq1]
      refine (xX_addLot x0 l2 l4 hkq (show q < 20 by omega) p0).mpr ?_
      refine ⟨0, by rw [y0']; exact rXs_at (by decide), ?_⟩
      refine (xX_add y5 hc).mpr ?_
      refine ⟨0, by show gR (ALx x nl q z1.toInt32 z2.toInt32) 0 0 6 = some 0; rw [y0']; exact rXs_at (by decide), ?_⟩
      intro τ36 h36
      subst h36
      rw [g13, Int32.zero_add, hI_n (by decide), hI_n (by decide)]
      exact hQ
    unfold F_X9_takesFive F_X9_isVintage F_X9_isPrice
    rw [ad1, ad2, ad3, ad4, n0, n1, n2, n3, n4, a0, a1, a2, a3, a4]
    refine ⟨v0, fun _ w0 => ⟨v1, fun _ w1 => ⟨v2, fun _ w2 => ⟨v3, fun _ w3 => ⟨v4, fun _ w4 => ?_⟩⟩⟩⟩⟩
    subst w0; subst w1; subst w2; subst w3; subst w4
    rw [eX_isWithin, Int32.toInt_toInt64, k2, ek]
    refine ⟨fun h9 => absurd p1 (bz_eq0.mp h9), fun _ => eX_isWithin.mpr ⟨bz_b, fun h9 => absurd p2 (bz_eq0.mp h9), fun _ => eX_isWithin.mpr ⟨bz_b, fun _ => eX_isWithin.mpr ⟨fun h9 => absurd p4 (bz_eq0.mp h9), fun _ => eX_isWithin.mpr ⟨fun _ => ⟨0, by rw [x0]; exact rXs_at (by decide), ?_⟩, fun h9 => absurd p5 (bz_eq0.mp h9)⟩⟩, fun h9 => absurd p3 (bz_eq0.mp h9)⟩⟩⟩
    rw [hc1, xX_isEmpty x5 hc, c2]
    exact ⟨fun h9 => absurd P2 (bz_eq0.mp h9), fun _ => ⟨fun _ => hadd, fun h9 => absurd (by rw [l2, hl60]; exact p0) h9⟩⟩
  · have g124 : gI (ALm m nl q z1.toInt32 z2.toInt32) 124 0 c = 0 := by
      unfold ALm; simp only [hI_s, hI_n, hJ_s, hJ_n, hR_s, hR_n, hIW_s, hIW_n, hJW_s, hJW_n, hRW_s, hRW_n, hNW_s, hNW_n, hRM_s, hRM_n, u2_s, u2_j, u2_row, u2_kk, gR_sI, gR_sJ, gJ_sI, gI_sJ, gN_sI, gN_sJ, gI_sR, gJ_sR, gN_sR, gI_sM, gJ_sM, gN_sM, ne_eq, Nat.reduceEqDiff, not_false_eq_true, reduceCtorEq, true_implies]; exact P2
    refine eM_d156 (nl := nl) (q := q) (c := c) hM l3 (by omega) (by rw [hz0]; exact hq1) (by omega) p0 (by rw [Nat.add_assoc, hz3]; exact hc1) hc (fun _ => ?_) (fun h9 => absurd hcl h9)
    rw [Nat.add_assoc, Nat.add_assoc, Nat.add_assoc, hz1, hz2, hz4, g124, Int32.zero_add, if_neg hb0, ad5]
    exact hQ
set_option maxRecDepth 16384 in
theorem deliver_l {s k : Nat} (hk : k < 10) : ∀ (d i n nk nl no nt nd na ns L : Nat) (x m : tw_T), RelA n nk nl no nt nd na ns x m → s < ns → gI m 141 0 (10 * s + k) = i32 L → L ≤ 40 → i ≤ L → L < i + 5 * (d + 1) →
    ∃ c x' m', Rel n x' m' ∧ gI m' 0 0 0 = gI m 0 0 0 ∧ (∀ (Q : Int32 → tw_T → Prop) (X : Nat → tw_T → Prop) (u : Int32), Q (u + i32 c) x' → L_X9_deliver_25 0 (i32 k) s Q X (fun (τ18 : tw_T) (z19 : Int32) (z20 : Int32) => Q z19 τ18) (d + 1) x u (i32 i)) ∧
      (∀ (Q : Int32 → tw_T → Prop) (u : Int32), Q (u + i32 c) m' → L_X10_deliver_41 0 (i32 (10 * s + k)) Q (fun (τ54 : tw_T) (z55 : Int32) (z56 : Int32) => Q z55 τ54) (d + 1) m u (i32 i)) := by
  intro d
  induction d with
  | zero =>
    intro i n nk nl no nt nd na ns L x m hA hs hL h40 hiL hd
    have hA0 := hA
    obtain ⟨hM, hX0, hK0, hL0, hC0, hO0, hG0, hT0, hD0, hW0⟩ := hA
    obtain ⟨w1, w2, w3, w4, w5, w6, w7, w8, w9, w10⟩ := hW0
    obtain ⟨a1, a2, a3, a4, a5, a6⟩ := w8 s hs
    obtain ⟨b1, b2, b3, b4⟩ := w9 s k hs hk
    have e3 := vpin hk (by decide)
    have e4 := i32_nat (show k < 2147483648 by omega)
    have r5 := vpin (show 10 * s + k < 40 by omega) (by decide)
    have r6 := i32_nat (show 10 * s + k < 2147483648 by omega)
    have hlt : i32 L < i32 (i + 5) := (lt_i32 (by omega) (by omega)).mpr (by omega)
    refine ⟨0, x, m, hA0.rel, rfl, fun Q X u hQ => ?_, fun Q u hQ => ?_⟩
    · have z0 : u + i32 0 = u := Int32.add_zero u
      rw [z0] at hQ
      rw [L_X9_deliver_25]; simp only [a3, e3, e4, b2, hL, ad5, hlt, ↓forall_eq, bz_b, gR_sI, gR_sJ, gJ_sI, gI_sJ, gN_sI, gN_sJ, gI_sR, gJ_sR, gN_sR, gI_sI, gJ_sJ, gR_sR, gI_nW, gR_nW, gN_nW, gJ_nW, rM_at, rXs_at, rXd_at, ex_s, true_and, and_true, false_and, and_false, or_true, true_or, or_false, false_or, if_true, if_false, not_true_eq_false, not_false_eq_true, forall_const, true_implies, false_implies, implies_true, Nat.reduceLeDiff, Nat.reduceEqDiff, reduceCtorEq, i32_succ, i32_pred, Nat.le_refl, Nat.lt_add_one, Nat.reduceLT, ne_eq, Nat.add_one_ne_zero]; exact hQ
    · have z0 : u + i32 0 = u := Int32.add_zero u
      rw [z0] at hQ
      rw [L_X10_deliver_41]; simp only [hM, r5, r6, hL, ad5, hlt, ↓forall_eq, bz_b, gR_sI, gR_sJ, gJ_sI, gI_sJ, gN_sI, gN_sJ, gI_sR, gJ_sR, gN_sR, gI_sI, gJ_sJ, gR_sR, gI_nW, gR_nW, gN_nW, gJ_nW, rM_at, rXs_at, rXd_at, ex_s, true_and, and_true, false_and, and_false, or_true, true_or, or_false, false_or, if_true, if_false, not_true_eq_false, not_false_eq_true, forall_const, true_implies, false_implies, implies_true, Nat.reduceLeDiff, Nat.reduceEqDiff, reduceCtorEq, i32_succ, i32_pred, Nat.le_refl, Nat.lt_add_one, Nat.reduceLT, ne_eq, Nat.add_one_ne_zero]; exact hQ
  | succ d ih =>
    intro i n nk nl no nt nd na ns L x m hA hs hL h40 hiL hd
    have hA0 := hA
    obtain ⟨hM, hX0, hK0, hL0, hC0, hO0, hG0, hT0, hD0, hW0⟩ := hA
    obtain ⟨w1, w2, w3, w4, w5, w6, w7, w8, w9, w10⟩ := hW0
    obtain ⟨a1, a2, a3, a4, a5, a6⟩ := w8 s hs
    obtain ⟨b1, b2, b3, b4⟩ := w9 s k hs hk
    have e3 := vpin hk (by decide)
    have e4 := i32_nat (show k < 2147483648 by omega)
    have r5 := vpin (show 10 * s + k < 40 by omega) (by decide)
    have r6 := i32_nat (show 10 * s + k < 2147483648 by omega)
    have z0 : ∀ u : Int32, u + i32 0 = u := fun u => Int32.add_zero u
    by_cases hlt0 : L < i + 5
    · have hlt : i32 L < i32 (i + 5) := (lt_i32 (by omega) (by omega)).mpr hlt0
      refine ⟨0, x, m, hA0.rel, rfl, fun Q X u hQ => ?_, fun Q u hQ => ?_⟩
      · rw [z0] at hQ
        rw [L_X9_deliver_25]; simp only [a3, e3, e4, b2, hL, ad5, hlt, ↓forall_eq, bz_b, gR_sI, gR_sJ, gJ_sI, gI_sJ, gN_sI, gN_sJ, gI_sR, gJ_sR, gN_sR, gI_sI, gJ_sJ, gR_sR, gI_nW, gR_nW, gN_nW, gJ_nW, rM_at, rXs_at, rXd_at, ex_s, true_and, and_true, false_and, and_false, or_true, true_or, or_false, false_or, if_true, if_false, not_true_eq_false, not_false_eq_true, forall_const, true_implies, false_implies, implies_true, Nat.reduceLeDiff, Nat.reduceEqDiff, reduceCtorEq, i32_succ, i32_pred, Nat.le_refl, Nat.lt_add_one, Nat.reduceLT, ne_eq, Nat.add_one_ne_zero]; exact hQ
      · rw [z0] at hQ
        rw [L_X10_deliver_41]; simp only [hM, r5, r6, hL, ad5, hlt, ↓forall_eq, bz_b, gR_sI, gR_sJ, gJ_sI, gI_sJ, gN_sI, gN_sJ, gI_sR, gJ_sR, gN_sR, gI_sI, gJ_sJ, gR_sR, gI_nW, gR_nW, gN_nW, gJ_nW, rM_at, rXs_at, rXd_at, ex_s, true_and, and_true, false_and, and_false, or_true, true_or, or_false, false_or, if_true, if_false, not_true_eq_false, not_false_eq_true, forall_const, true_implies, false_implies, implies_true, Nat.reduceLeDiff, Nat.reduceEqDiff, reduceCtorEq, i32_succ, i32_pred, Nat.le_refl, Nat.lt_add_one, Nat.reduceLT, ne_eq, Nat.add_one_ne_zero]; exact hQ
    · have hlt : ¬ i32 L < i32 (i + 5) := fun h => hlt0 ((lt_i32 (by omega) (by omega)).mp h)
      have hne : gI m 141 0 (10 * s + k) ≠ -1 := by rw [hL]; exact not_m1 (by omega)
      rcases five (k := k) hA0 hs hk (show i + 5 ≤ 40 by omega) hne with ⟨f1, f2⟩ | ⟨x9, m9, hA9, q1, q2, f1, f2⟩
      · refine ⟨0, x, m, hA0.rel, rfl, fun Q X u hQ => ?_, fun Q u hQ => ?_⟩
        · rw [z0] at hQ
          rw [L_X9_deliver_25]; simp only [a2, a3, e3, e4, b1, b2, hL, ad5, hlt, ↓forall_eq, bz_b, gR_sI, gR_sJ, gJ_sI, gI_sJ, gN_sI, gN_sJ, gI_sR, gJ_sR, gN_sR, gI_sI, gJ_sJ, gR_sR, gI_nW, gR_nW, gN_nW, gJ_nW, rM_at, rXs_at, rXd_at, ex_s, true_and, and_true, false_and, and_false, or_true, true_or, or_false, false_or, if_true, if_false, not_true_eq_false, not_false_eq_true, forall_const, true_implies, false_implies, implies_true, Nat.reduceLeDiff, Nat.reduceEqDiff, reduceCtorEq, i32_succ, i32_pred, Nat.le_refl, Nat.lt_add_one, Nat.reduceLT, ne_eq, Nat.add_one_ne_zero]
          exact f1 _ ⟨fun h9 => absurd rfl h9, fun _ => hQ⟩
        · rw [z0] at hQ
          exact f2 Q _ _ u (by rw [hL]; exact hlt) hQ
      · obtain ⟨c, x', m', R, z, g1, g2⟩ := ih (i + 5) n nk (nl + 1) no nt nd na ns L x9 m9 hA9 hs (by rw [q1]; exact hL) h40 (by omega) (by omega)
        have hu : ∀ u : Int32, u + 1 + i32 c = u + i32 (c + 1) := fun u => by rw [Int32.add_assoc, Int32.add_comm 1, i32_succ]
        refine ⟨c + 1, x', m', R, z.trans q2, fun Q X u hQ => ?_, fun Q u hQ => ?_⟩
        · rw [L_X9_deliver_25]; simp only [a2, a3, e3, e4, b1, b2, hL, ad5, hlt, ↓forall_eq, bz_b, gR_sI, gR_sJ, gJ_sI, gI_sJ, gN_sI, gN_sJ, gI_sR, gJ_sR, gN_sR, gI_sI, gJ_sJ, gR_sR, gI_nW, gR_nW, gN_nW, gJ_nW, rM_at, rXs_at, rXd_at, ex_s, true_and, and_true, false_and, and_false, or_true, true_or, or_false, false_or, if_true, if_false, not_true_eq_false, not_false_eq_true, forall_const, true_implies, false_implies, implies_true, Nat.reduceLeDiff, Nat.reduceEqDiff, reduceCtorEq, i32_succ, i32_pred, Nat.le_refl, Nat.lt_add_one, Nat.reduceLT, ne_eq, Nat.add_one_ne_zero]
          refine f1 _ ⟨fun _ => ?_, fun h9 => absurd h9 (by decide)⟩
          exact g1 Q X (u + 1) (by rw [hu]; exact hQ)
        · exact f2 Q _ _ u (by rw [hL]; exact hlt) (g2 Q (u + 1) (by rw [hu]; exact hQ))
set_option maxRecDepth 16384 in
set_option maxHeartbeats 1000000 in
theorem op_deliver (n : Nat) (x m : tw_T) (a : Int32) (b : Int32) (v : Int64) (h : Rel n x m) :
    F_L_deliver x 0 a b v (fun kk ww x9 => F_X10_deliver m 0 a b (fun rr m9 => gI m9 0 0 0 = kk ∧ (kk = 0 → ww = rr.toInt64) ∧ Rel (n + 1) x9 m9)) := by
  have hr := h
  obtain ⟨nk, nl, no, nt, nd, na, ns, hA⟩ := h
  have hA0 := hA
  obtain ⟨hM, hX0, hK0, hL0, hC0, hO0, hG0, hT0, hD0, hW0⟩ := hA
  have x0 := hX0.1
  have hW := hW0
  obtain ⟨w1, w2, w3, w4, w5, w6, w7, w8, w9, w10⟩ := hW
  by_cases p1 : (0 ≤ a.toInt ∧ a.toInt < ns) ∧ 0 ≤ b.toInt ∧ b.toInt < 10
  rotate_left
  · simp only [F_L_deliver, F_X9_deliver, xX_sheetAt_bad w2 w1 p1, F_X10_deliver, eM_isRow w3 w1, p1, pu_00, pu_10, ↓forall_eq, bz_b, gR_sI, gR_sJ, gJ_sI, gI_sJ, gN_sI, gN_sJ, gI_sR, gJ_sR, gN_sR, gI_sI, gJ_sJ, gR_sR, gI_nW, gR_nW, gN_nW, gJ_nW, rM_at, rXs_at, rXd_at, ex_s, true_and, and_true, false_and, and_false, or_true, true_or, or_false, false_or, if_true, if_false, not_true_eq_false, not_false_eq_true, forall_const, true_implies, false_implies, implies_true, Nat.reduceLeDiff, Nat.reduceEqDiff, reduceCtorEq, i32_succ, i32_pred, Nat.le_refl, Nat.lt_add_one, Nat.reduceLT, ne_eq, Nat.add_one_ne_zero]
    exact hr.t.t.up
  obtain ⟨s, rfl, hs1, hs2⟩ := i32_of (x := a) p1.1.1
  obtain ⟨k, rfl, hk1, hk2⟩ := i32_of (x := b) p1.2.1
  have hs : s < ns := by omega
  have hk : k < 10 := by omega
  obtain ⟨a1, a2, a3, a4, a5, a6⟩ := w8 s hs
  obtain ⟨b1, b2, b3, b4⟩ := w9 s k hs hk
  have e3 := vpin hk (by decide)
  have e4 := i32_nat (show k < 2147483648 by omega)
  have e5 := vpin (show 10 * s + k < 40 by omega) (by decide)
  have e6 := i32_nat (show 10 * s + k < 2147483648 by omega)
  by_cases p2 : gI m 141 0 (10 * s + k) = -1
  · simp only [F_L_deliver, F_X9_deliver, xX_sheetAt x0 w2 w1 hs hk a1, a3, e3, e4, b2, p2, F_X10_deliver, eM_isRow w3 w1, p1, ix10, hM, e5, e6, pu_00, pu_10, ↓forall_eq, bz_b, gR_sI, gR_sJ, gJ_sI, gI_sJ, gN_sI, gN_sJ, gI_sR, gJ_sR, gN_sR, gI_sI, gJ_sJ, gR_sR, gI_nW, gR_nW, gN_nW, gJ_nW, rM_at, rXs_at, rXd_at, ex_s, true_and, and_true, false_and, and_false, or_true, true_or, or_false, false_or, if_true, if_false, not_true_eq_false, not_false_eq_true, forall_const, true_implies, false_implies, implies_true, Nat.reduceLeDiff, Nat.reduceEqDiff, reduceCtorEq, i32_succ, i32_pred, Nat.le_refl, Nat.lt_add_one, Nat.reduceLT, ne_eq, Nat.add_one_ne_zero]
    exact hr.t.up
  have b3 := b3.resolve_left p2
  obtain ⟨L, hL1, hL2, hL3⟩ := i32_of (x := gI m 141 0 (10 * s + k)) b3.1
  obtain ⟨c, x', m', R, z, f1, f2⟩ := deliver_l (s := s) hk 8 0 n nk nl no nt nd na ns L x (sI m 0 0 0 0) (hA0.t (t := 0)) hs (by simpa only [hI_s, hI_n, hJ_s, hJ_n, hR_s, hR_n, hIW_s, hIW_n, hJW_s, hJW_n, hRW_s, hRW_n, hNW_s, hNW_n, hRM_s, hRM_n, u2_s, u2_j, u2_row, u2_kk, gR_sI, gR_sJ, gJ_sI, gI_sJ, gN_sI, gN_sJ, gI_sR, gJ_sR, gN_sR, gI_sM, gJ_sM, gN_sM, ne_eq, Nat.reduceEqDiff, not_false_eq_true, reduceCtorEq, true_implies] using hL1) (by omega) (by omega) (by omega)
  simp only [F_L_deliver, F_X9_deliver, xX_sheetAt x0 w2 w1 hs hk a1, a3, e3, e4, b2, p2, ↓forall_eq, bz_b, gR_sI, gR_sJ, gJ_sI, gI_sJ, gN_sI, gN_sJ, gI_sR, gJ_sR, gN_sR, gI_sI, gJ_sJ, gR_sR, gI_nW, gR_nW, gN_nW, gJ_nW, rM_at, rXs_at, rXd_at, ex_s, true_and, and_true, false_and, and_false, or_true, true_or, or_false, false_or, if_true, if_false, not_true_eq_false, not_false_eq_true, forall_const, true_implies, false_implies, implies_true, Nat.reduceLeDiff, Nat.reduceEqDiff, reduceCtorEq, i32_succ, i32_pred, Nat.le_refl, Nat.lt_add_one, Nat.reduceLT, ne_eq, Nat.add_one_ne_zero]
  refine ⟨9, Nat.le_refl 9, f1 _ _ 0 ?_⟩
  simp only [F_X10_deliver, eM_isRow w3 w1, p1, p2, ix10, hM, e5, e6, pu_00, pu_10, ↓forall_eq, bz_b, gR_sI, gR_sJ, gJ_sI, gI_sJ, gN_sI, gN_sJ, gI_sR, gJ_sR, gN_sR, gI_sI, gJ_sJ, gR_sR, gI_nW, gR_nW, gN_nW, gJ_nW, rM_at, rXs_at, rXd_at, ex_s, true_and, and_true, false_and, and_false, or_true, true_or, or_false, false_or, if_true, if_false, not_true_eq_false, not_false_eq_true, forall_const, true_implies, false_implies, implies_true, Nat.reduceLeDiff, Nat.reduceEqDiff, reduceCtorEq, i32_succ, i32_pred, Nat.le_refl, Nat.lt_add_one, Nat.reduceLT, ne_eq, Nat.add_one_ne_zero]
  refine ⟨9, f2 _ 0 ?_⟩
  have z' : gI m' 0 0 0 = 0 := z.trans (by simp [gI_sI])
  first | exact ⟨z', fun _ => rfl, R.up⟩ | exact ⟨z', rfl, R.up⟩ | exact ⟨z', R.up⟩
