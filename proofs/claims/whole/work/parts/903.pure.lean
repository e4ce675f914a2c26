set_option maxRecDepth 16384 in
theorem Rel.t {n : Nat} {x m : tw_T} {t : Int32} (h : Rel n x m) : Rel n x (sI m 0 0 0 t) := by
  obtain ⟨nk, nl, no, nt, nd, na, ns, hM, hX, hK, hL, hC, hO, hG, hT, hD, hW⟩ := h
  refine ⟨nk, nl, no, nt, nd, na, ns, hM, hX, ?_, ?_, ?_, ?_, ?_, ?_, ?_, ?_⟩
  · simpa only [hI_s, hI_n, hJ_s, hJ_n, hR_s, hR_n, hIW_s, hIW_n, hJW_s, hJW_n, hRW_s, hRW_n, hNW_s, hNW_n, hRM_s, hRM_n, u2_s, u2_j, u2_row, u2_kk, gR_sI, gR_sJ, gJ_sI, gI_sJ, gN_sI, gN_sJ, gI_sR, gJ_sR, gN_sR, gI_sM, gJ_sM, gN_sM, ne_eq, Nat.reduceEqDiff, not_false_eq_true, reduceCtorEq, true_implies] using hK
  · simpa only [hI_s, hI_n, hJ_s, hJ_n, hR_s, hR_n, hIW_s, hIW_n, hJW_s, hJW_n, hRW_s, hRW_n, hNW_s, hNW_n, hRM_s, hRM_n, u2_s, u2_j, u2_row, u2_kk, gR_sI, gR_sJ, gJ_sI, gI_sJ, gN_sI, gN_sJ, gI_sR, gJ_sR, gN_sR, gI_sM, gJ_sM, gN_sM, ne_eq, Nat.reduceEqDiff, not_false_eq_true, reduceCtorEq, true_implies] using hL
  · simpa only [hI_s, hI_n, hJ_s, hJ_n, hR_s, hR_n, hIW_s, hIW_n, hJW_s, hJW_n, hRW_s, hRW_n, hNW_s, hNW_n, hRM_s, hRM_n, u2_s, u2_j, u2_row, u2_kk, gR_sI, gR_sJ, gJ_sI, gI_sJ, gN_sI, gN_sJ, gI_sR, gJ_sR, gN_sR, gI_sM, gJ_sM, gN_sM, ne_eq, Nat.reduceEqDiff, not_false_eq_true, reduceCtorEq, true_implies] using hC
  · simpa only [hI_s, hI_n, hJ_s, hJ_n, hR_s, hR_n, hIW_s, hIW_n, hJW_s, hJW_n, hRW_s, hRW_n, hNW_s, hNW_n, hRM_s, hRM_n, u2_s, u2_j, u2_row, u2_kk, gR_sI, gR_sJ, gJ_sI, gI_sJ, gN_sI, gN_sJ, gI_sR, gJ_sR, gN_sR, gI_sM, gJ_sM, gN_sM, ne_eq, Nat.reduceEqDiff, not_false_eq_true, reduceCtorEq, true_implies] using hO
  · simpa only [hI_s, hI_n, hJ_s, hJ_n, hR_s, hR_n, hIW_s, hIW_n, hJW_s, hJW_n, hRW_s, hRW_n, hNW_s, hNW_n, hRM_s, hRM_n, u2_s, u2_j, u2_row, u2_kk, gR_sI, gR_sJ, gJ_sI, gI_sJ, gN_sI, gN_sJ, gI_sR, gJ_sR, gN_sR, gI_sM, gJ_sM, gN_sM, ne_eq, Nat.reduceEqDiff, not_false_eq_true, reduceCtorEq, true_implies] using hG
  · simpa only [hI_s, hI_n, hJ_s, hJ_n, hR_s, hR_n, hIW_s, hIW_n, hJW_s, hJW_n, hRW_s, hRW_n, hNW_s, hNW_n, hRM_s, hRM_n, u2_s, u2_j, u2_row, u2_kk, gR_sI, gR_sJ, gJ_sI, gI_sJ, gN_sI, gN_sJ, gI_sR, gJ_sR, gN_sR, gI_sM, gJ_sM, gN_sM, ne_eq, Nat.reduceEqDiff, not_false_eq_true, reduceCtorEq, true_implies] using hT
  · simpa only [hI_s, hI_n, hJ_s, hJ_n, hR_s, hR_n, hIW_s, hIW_n, hJW_s, hJW_n, hRW_s, hRW_n, hNW_s, hNW_n, hRM_s, hRM_n, u2_s, u2_j, u2_row, u2_kk, gR_sI, gR_sJ, gJ_sI, gI_sJ, gN_sI, gN_sJ, gI_sR, gJ_sR, gN_sR, gI_sM, gJ_sM, gN_sM, ne_eq, Nat.reduceEqDiff, not_false_eq_true, reduceCtorEq, true_implies] using hD
  · simpa only [hI_s, hI_n, hJ_s, hJ_n, hR_s, hR_n, hIW_s, hIW_n, hJW_s, hJW_n, hRW_s, hRW_n, hNW_s, hNW_n, hRM_s, hRM_n, u2_s, u2_j, u2_row, u2_kk, gR_sI, gR_sJ, gJ_sI, gI_sJ, gN_sI, gN_sJ, gI_sR, gJ_sR, gN_sR, gI_sM, gJ_sM, gN_sM, ne_eq, Nat.reduceEqDiff, not_false_eq_true, reduceCtorEq, true_implies] using hW
set_option maxRecDepth 16384 in
theorem RLo.up {n nk nl : Nat} {xc mc : Int32} {xN : Nat} {xr : Nat → Option Nat} {xl : Nat → Nat → Int32} {xq : Nat → Nat → Option Nat} {kd vi pr fr un : Nat → Int32} (h : RLo n nk nl xc mc xN xr xl xq kd vi pr fr un) : RLo (n + 1) nk nl xc mc xN xr xl xq kd vi pr fr un := by
  obtain ⟨l1, l2, l3, l4, l5⟩ := h
  refine ⟨l1, l2, l3, l4, fun i hi => ?_⟩
  obtain ⟨a1, a2, a3, a4, a5, a6, a7, a8, a9, b1, b2, b3, b4, b5⟩ := l5 i hi
  exact ⟨a1, a2, a3, a4, a5, a6, a7, a8, a9, b1, b2, b3, b4, by omega⟩
set_option maxRecDepth 16384 in
theorem Rel.up {n : Nat} {x m : tw_T} (h : Rel n x m) : Rel (n + 1) x m := by
  obtain ⟨nk, nl, no, nt, nd, na, ns, hM, hX, hK, hL, hC, hO, hG, hT, hD, hW⟩ := h
  exact ⟨nk, nl, no, nt, nd, na, ns, hM, hX, hK, hL.up, hC, hO, hG, hT, hD, hW⟩
set_option maxRecDepth 16384 in
theorem pu_10 : ((1 : Int32) = 0) ↔ False := by decide
set_option maxRecDepth 16384 in
theorem pu_00 : ((0 : Int32) = 0) ↔ True := by decide
set_option maxRecDepth 16384 in
theorem eM_may0 {τ : tw_T} {c : Int32} {Q : Int32 → tw_T → Prop} : F_X10_may (sI τ 0 0 0 0) 0 0 c Q ↔ (c ≠ 0 → Q 0 (sI (sI τ 0 0 0 0) 0 0 0 c)) ∧ (c = 0 → Q 1 (sI (sI τ 0 0 0 0) 0 0 0 c)) := by
  unfold F_X10_may J_X10_may_16
  simp [gI_sI]
set_option maxRecDepth 16384 in
theorem eM_may1 {τ : tw_T} {c : Int32} {Q : Int32 → tw_T → Prop} : F_X10_may (sI τ 0 0 0 0) 0 1 c Q ↔ Q 1 (sI τ 0 0 0 0) := by
  unfold F_X10_may J_X10_may_16
  simp [gI_sI]
set_option maxRecDepth 16384 in
/-- the reference's check: true, or its number in 'thrown' -/
theorem eM_mayz {τ : tw_T} {p : Prop} [Decidable p] {c : Int32} {Q : Int32 → tw_T → Prop} (hc : c ≠ 0) : F_X10_may (sI τ 0 0 0 0) 0 (bz p) c Q ↔ ((p → Q 1 (sI τ 0 0 0 0)) ∧ (¬ p → Q 0 (sI (sI τ 0 0 0 0) 0 0 0 c))) := eM_may (by simp [gI_sI]) hc
set_option maxRecDepth 16384 in
theorem i32_eq {a b : Nat} (ha : a < 2147483648) (hb : b < 2147483648) : i32 a = i32 b ↔ a = b := ⟨i32_inj ha hb, fun h => by rw [h]⟩
set_option maxRecDepth 16384 in
/-- what a refused call leaves -/
theorem bad {n : Nat} {x m : tw_T} {c : Int32} {w : Int64} {r : Int32} (h : Rel n x m) (hc : c ≠ 0) : gI (sI (sI m 0 0 0 0) 0 0 0 c) 0 0 0 = c ∧ (c = 0 → w = r.toInt64) ∧ Rel (n + 1) x (sI (sI m 0 0 0 0) 0 0 0 c) :=
  ⟨by simp [gI_sI], fun h0 => absurd h0 hc, h.t.t.up⟩
set_option maxRecDepth 16384 in
/-- a call that answers and changes nothing -/
theorem same {n : Nat} {x m : tw_T} {r : Int32} (h : Rel n x m) : gI (sI m 0 0 0 0) 0 0 0 = 0 ∧ ((0 : Int32) = 0 → r.toInt64 = r.toInt64) ∧ Rel (n + 1) x (sI m 0 0 0 0) :=
  ⟨by simp [gI_sI], fun _ => rfl, h.t.up⟩
