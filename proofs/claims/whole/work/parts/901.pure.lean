/-! ===== numbers ===== -/
set_option maxRecDepth 16384 in
abbrev i32 (n : Nat) : Int32 := Int32.ofNat n
set_option maxRecDepth 16384 in
theorem i32_int {n : Nat} (h : n < 2147483648) : (i32 n).toInt = n := Int32.toInt_ofNat_of_lt h
set_option maxRecDepth 16384 in
theorem i32_nat {n : Nat} (h : n < 2147483648) : (i32 n).toNatClampNeg = n := Int32.toNatClampNeg_ofNat_of_lt h
set_option maxRecDepth 16384 in
theorem i32_succ (n : Nat) : i32 n + 1 = i32 (n + 1) := (Int32.ofNat_add n 1).symm
set_option maxRecDepth 16384 in
theorem i32_pred (n : Nat) : i32 (n + 1) - 1 = i32 n := by rw [← i32_succ, Int32.add_sub_cancel]
set_option maxRecDepth 16384 in
theorem i32_ext {x y : Int32} (h : x.toInt = y.toInt) : x = y := Int32.toInt_inj.mp h
set_option maxRecDepth 16384 in
theorem i32_inj {a b : Nat} (ha : a < 2147483648) (hb : b < 2147483648) (h : i32 a = i32 b) : a = b := by
  have := congrArg Int32.toInt h
  rw [i32_int ha, i32_int hb] at this
  omega
set_option maxRecDepth 16384 in
theorem i32_of {x : Int32} (h : 0 ≤ x.toInt) : ∃ n : Nat, x = i32 n ∧ (n : Int) = x.toInt ∧ n < 2147483648 := by
  have h2 : x.toInt < 2147483648 := x.toInt_lt
  refine ⟨x.toInt.toNat, ?_, by omega, by omega⟩
  apply i32_ext
  rw [i32_int (by omega)]; omega
set_option maxRecDepth 16384 in
theorem i32_bnd (x : Int32) : -2147483648 ≤ x.toInt ∧ x.toInt < 2147483648 := ⟨x.le_toInt, x.toInt_lt⟩
set_option maxRecDepth 16384 in
theorem bm32 {z : Int} (h : -2147483648 ≤ z) (h2 : z < 2147483648) : z.bmod (2 ^ 32) = z := by
  have : ((2 : Nat) ^ 32) = 4294967296 := by decide
  rw [this]; exact Int.bmod_eq_of_le (by omega) (by omega)
set_option maxRecDepth 16384 in
theorem i32_add {x y : Int32} (h : -2147483648 ≤ x.toInt + y.toInt) (h2 : x.toInt + y.toInt < 2147483648) : (x + y).toInt = x.toInt + y.toInt := by rw [Int32.toInt_add]; exact bm32 h h2
set_option maxRecDepth 16384 in
theorem i32_sub {x y : Int32} (h : -2147483648 ≤ x.toInt - y.toInt) (h2 : x.toInt - y.toInt < 2147483648) : (x - y).toInt = x.toInt - y.toInt := by rw [Int32.toInt_sub]; exact bm32 h h2
set_option maxRecDepth 16384 in
theorem i32_mul {x y : Int32} (h : -2147483648 ≤ x.toInt * y.toInt) (h2 : x.toInt * y.toInt < 2147483648) : (x * y).toInt = x.toInt * y.toInt := by rw [Int32.toInt_mul]; exact bm32 h h2
set_option maxRecDepth 16384 in
theorem i32_neg {x : Int32} (h : -2147483648 < x.toInt) : (-x).toInt = -x.toInt := by
  have := x.toInt_lt
  rw [Int32.toInt_neg]; exact bm32 (by omega) (by omega)
set_option maxRecDepth 16384 in
theorem vpin {n k : Nat} (hk : k < n) (h : n ≤ 2147483648) : vp_in (i32 k) n := by
  have e := i32_int (n := k) (by omega)
  have e2 := i32_nat (n := k) (by omega)
  unfold vp_in
  rw [Int32.lt_iff_toInt_lt, e, e2]
  have : (0 : Int32).toInt = 0 := rfl
  omega
set_option maxRecDepth 16384 in
theorem vpin_iff {x : Int32} {n : Nat} (h : n ≤ 2147483648) : vp_in x n ↔ 0 ≤ x.toInt ∧ x.toInt < n := by
  constructor
  · intro hv
    unfold vp_in at hv
    rw [Int32.lt_iff_toInt_lt] at hv
    have z : (0 : Int32).toInt = 0 := rfl
    rw [z] at hv
    have h0 : 0 ≤ x.toInt := by omega
    obtain ⟨k, rfl, hk, hk2⟩ := i32_of h0
    rw [i32_nat hk2] at hv
    omega
  · rintro ⟨h0, h1⟩
    obtain ⟨k, rfl, hk, hk2⟩ := i32_of h0
    exact vpin (by omega) h
set_option maxRecDepth 16384 in
theorem cmp_lt0 {x y : Int64} : lg_cmp x y < 0 ↔ x.toInt < y.toInt := by
  unfold lg_cmp
  by_cases h : x > y
  · rw [if_pos h]
    have := Int64.lt_iff_toInt_lt.mp h
    constructor
    · intro h2; exact absurd h2 (by decide)
    · intro h2; omega
  · rw [if_neg h]
    have h' : ¬ y.toInt < x.toInt := fun h2 => h (Int64.lt_iff_toInt_lt.mpr h2)
    by_cases e : x = y
    · rw [if_pos e, e]; constructor
      · intro h2; exact absurd h2 (by decide)
      · intro h2; omega
    · rw [if_neg e]
      have : x.toInt ≠ y.toInt := fun h2 => e (Int64.toInt_inj.mp h2)
      constructor
      · intro _; omega
      · intro _; decide
set_option maxRecDepth 16384 in
theorem cmp_gt0 {x y : Int64} : 0 < lg_cmp x y ↔ y.toInt < x.toInt := by
  unfold lg_cmp
  by_cases h : x > y
  · rw [if_pos h]
    have := Int64.lt_iff_toInt_lt.mp h
    constructor
    · intro _; exact this
    · intro _; decide
  · rw [if_neg h]
    have h' : ¬ y.toInt < x.toInt := fun h2 => h (Int64.lt_iff_toInt_lt.mpr h2)
    by_cases e : x = y
    · rw [if_pos e, e]; constructor
      · intro h2; exact absurd h2 (by decide)
      · intro h2; omega
    · rw [if_neg e]; constructor
      · intro h2; exact absurd h2 (by decide)
      · intro h2; omega
set_option maxRecDepth 16384 in
/-- a truth value's number -/
def bz (p : Prop) [Decidable p] : Int32 := if p then 1 else 0
set_option maxRecDepth 16384 in
theorem bz_t {p : Prop} [Decidable p] (h : p) : bz p = 1 := if_pos h
set_option maxRecDepth 16384 in
theorem bz_f {p : Prop} [Decidable p] (h : ¬ p) : bz p = 0 := if_neg h
set_option maxRecDepth 16384 in
theorem bz_eq0 {p : Prop} [Decidable p] : bz p = 0 ↔ ¬ p := by unfold bz; split <;> simp_all
set_option maxRecDepth 16384 in
theorem bz_congr {p q : Prop} [Decidable p] [Decidable q] (h : p ↔ q) : bz p = bz q := by unfold bz; simp [h]
set_option maxRecDepth 16384 in
theorem bz_b {p : Prop} [Decidable p] : tw_b (bz p) := by unfold bz tw_b; split <;> simp
/-! ===== heaps ===== -/
set_option maxRecDepth 16384 in
def upd2 {α : Type} (g : Nat → Nat → α) (k j : Nat) (v : α) : Nat → Nat → α := fun k' j' => if k' = k ∧ j' = j then v else g k' j'
set_option maxRecDepth 16384 in
def zer2 {α : Type} (g : Nat → Nat → α) (b n : Nat) (z : α) : Nat → Nat → α := fun k' j' => if b ≤ k' ∧ k' < b + n then z else g k' j'
set_option maxRecDepth 16384 in
def row2 (g : Nat → Nat → Option Nat) (k b n : Nat) : Nat → Nat → Option Nat := fun k' j' => if k' = k then (if j' < n then some (b + j') else none) else g k' j'
set_option maxRecDepth 16384 in
theorem hI_s {τ : tw_T} {f k j : Nat} {v : Int32} : gI (sI τ f k j v) f = upd2 (gI τ f) k j v := by
  funext a b; simp [gI_sI, upd2]
set_option maxRecDepth 16384 in
theorem hI_n {τ : tw_T} {f k j f' : Nat} {v : Int32} (h : f' ≠ f) : gI (sI τ f k j v) f' = gI τ f' := by
  funext a b; simp [gI_sI, h]
set_option maxRecDepth 16384 in
theorem hJ_s {τ : tw_T} {f k j : Nat} {v : Int64} : gJ (sJ τ f k j v) f = upd2 (gJ τ f) k j v := by
  funext a b; simp [gJ_sJ, upd2]
set_option maxRecDepth 16384 in
theorem hJ_n {τ : tw_T} {f k j f' : Nat} {v : Int64} (h : f' ≠ f) : gJ (sJ τ f k j v) f' = gJ τ f' := by
  funext a b; simp [gJ_sJ, h]
set_option maxRecDepth 16384 in
theorem hR_s {τ : tw_T} {f k j : Nat} {v : Option Nat} : gR (sR τ f k j v) f = upd2 (gR τ f) k j v := by
  funext a b; simp [gR_sR, upd2]
set_option maxRecDepth 16384 in
theorem hR_n {τ : tw_T} {f k j f' : Nat} {v : Option Nat} (h : f' ≠ f) : gR (sR τ f k j v) f' = gR τ f' := by
  funext a b; simp [gR_sR, h]
set_option maxRecDepth 16384 in
theorem hIW_s {τ : tw_T} {f n : Nat} : gI (nW τ f n) f = zer2 (gI τ f) (gN τ f) n 0 := by
  funext a b; simp [gI_nW, zer2]
set_option maxRecDepth 16384 in
theorem hIW_n {τ : tw_T} {f n f' : Nat} (h : f' ≠ f) : gI (nW τ f n) f' = gI τ f' := by
  funext a b; simp [gI_nW, h]
set_option maxRecDepth 16384 in
theorem hJW_s {τ : tw_T} {f n : Nat} : gJ (nW τ f n) f = zer2 (gJ τ f) (gN τ f) n 0 := by
  funext a b; simp [gJ_nW, zer2]
set_option maxRecDepth 16384 in
theorem hJW_n {τ : tw_T} {f n f' : Nat} (h : f' ≠ f) : gJ (nW τ f n) f' = gJ τ f' := by
  funext a b; simp [gJ_nW, h]
set_option maxRecDepth 16384 in
theorem hRW_s {τ : tw_T} {f n : Nat} : gR (nW τ f n) f = zer2 (gR τ f) (gN τ f) n none := by
  funext a b; simp [gR_nW, zer2]
set_option maxRecDepth 16384 in
theorem hRW_n {τ : tw_T} {f n f' : Nat} (h : f' ≠ f) : gR (nW τ f n) f' = gR τ f' := by
  funext a b; simp [gR_nW, h]
set_option maxRecDepth 16384 in
theorem hNW_s {τ : tw_T} {f n : Nat} : gN (nW τ f n) f = gN τ f + n := by simp [gN_nW]
set_option maxRecDepth 16384 in
theorem hNW_n {τ : tw_T} {f n f' : Nat} (h : f' ≠ f) : gN (nW τ f n) f' = gN τ f' := by simp [gN_nW, h]
set_option maxRecDepth 16384 in
theorem hRM_s {τ : tw_T} {f k b n : Nat} : gR (sM τ f k b n) f = row2 (gR τ f) k b n := by
  funext x y; simp [gR_sM, row2]
set_option maxRecDepth 16384 in
theorem hRM_n {τ : tw_T} {f k b n f' : Nat} (h : f' ≠ f) : gR (sM τ f k b n) f' = gR τ f' := by
  funext x y; simp [gR_sM, h]
set_option maxRecDepth 16384 in
theorem u2_s {α : Type} {g : Nat → Nat → α} {k j : Nat} {v : α} : upd2 g k j v k j = v := by simp [upd2]
set_option maxRecDepth 16384 in
theorem u2_k {α : Type} {g : Nat → Nat → α} {k j k' j' : Nat} {v : α} (h : k' ≠ k) : upd2 g k j v k' j' = g k' j' := by simp [upd2, h]
set_option maxRecDepth 16384 in
theorem u2_j {α : Type} {g : Nat → Nat → α} {k j k' j' : Nat} {v : α} (h : j' ≠ j) : upd2 g k j v k' j' = g k' j' := by simp [upd2, h]
set_option maxRecDepth 16384 in
theorem u2_kk {α : Type} {g : Nat → Nat → α} {k j k' : Nat} {v : α} (h : k' ≠ k) : upd2 g k j v k' = g k' := by funext x; simp [upd2, h]
set_option maxRecDepth 16384 in
theorem u2_row {g : Nat → Nat → Int32} {k j : Nat} {v : Int32} : upd2 g k j v k = upd (g k) j v := by funext x; by_cases h : x = j <;> simp [upd2, upd, h]
set_option maxRecDepth 16384 in
theorem z2_n {α : Type} {g : Nat → Nat → α} {b n k j : Nat} {z : α} (h : k < b) : zer2 g b n z k j = g k j := by simp [zer2, Nat.not_le.mpr h]
set_option maxRecDepth 16384 in
theorem z2_s {α : Type} {g : Nat → Nat → α} {b n k j : Nat} {z : α} (h : b ≤ k) (h2 : k < b + n) : zer2 g b n z k j = z := by simp [zer2, h, h2]
