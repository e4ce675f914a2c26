/-! ===== what class and reference hold in common ===== -/
set_option maxRecDepth 16384 in
def rM : Nat → Nat → Nat → Option Nat := fun f k j => if f = 0 ∧ k = 0 ∧ (5 ≤ j ∧ j ≤ 14 ∨ 23 ≤ j ∧ j ≤ 27 ∨ 33 ≤ j ∧ j ≤ 38 ∨ 40 ≤ j ∧ j ≤ 48) then some 0 else none
set_option maxRecDepth 16384 in
def rXs (n : Nat) : Nat → Nat → Option Nat := fun k j => if k = 0 ∧ j < n then some 0 else none
set_option maxRecDepth 16384 in
def rXd (n : Nat) : Nat → Nat → Option Nat := fun k j => if k = 0 ∧ j < n then some j else none
set_option maxRecDepth 16384 in
/-- the class's cells that never change their place -/
def SX (r0 r5 r6 r8 r15 r16 r24 r25 : Nat → Nat → Option Nat) : Prop :=
  r0 = rXs 11 ∧ r5 = rXs 2 ∧ r6 = rXs 1 ∧ r8 = rXs 7 ∧ r15 = rXd 30 ∧ r16 = rXd 30 ∧ r24 = rXd 6 ∧ r25 = rXd 6
set_option maxRecDepth 16384 in
/-- kinds -/
def RK (nk : Nat) (xc mc : Int32) (xN : Nat) (xr : Nat → Option Nat) (xk : Nat → Nat → Int32) (s b r y o : Nat → Int32) : Prop :=
  nk ≤ 20 ∧ xc = i32 nk ∧ mc = i32 nk ∧ xN = nk ∧ ∀ i, i < nk → xr i = some i ∧ xk i 0 = s i ∧ xk i 1 = b i ∧ xk i 2 = r i ∧ xk i 3 = y i ∧ xk i 4 = o i ∧
    0 ≤ (s i).toInt ∧ (s i).toInt ≤ 2 ∧ tw_b (r i) ∧ 0 ≤ (y i).toInt ∧ (y i).toInt ≤ (o i).toInt ∧ (o i).toInt ≤ 60
set_option maxRecDepth 16384 in
/-- lots; n calls are behind us -/
def RLo (n nk nl : Nat) (xc mc : Int32) (xN : Nat) (xr : Nat → Option Nat) (xl : Nat → Nat → Int32) (xq : Nat → Nat → Option Nat) (kd vi pr fr un : Nat → Int32) : Prop :=
  nl ≤ 60 ∧ xc = i32 nl ∧ mc = i32 nl ∧ xN = nl ∧ ∀ i, i < nl → xr i = some i ∧ (∃ q, q < nk ∧ kd i = i32 q ∧ xq i 1 = some q) ∧ xl i 0 = kd i ∧ xl i 2 = vi i ∧ xl i 3 = pr i ∧ xl i 4 = fr i ∧ xl i 5 = un i ∧
    1900 ≤ (vi i).toInt ∧ (vi i).toInt ≤ 2100 ∧ 1 ≤ (pr i).toInt ∧ (pr i).toInt ≤ 10000 ∧ 1900 ≤ (fr i).toInt ∧ (fr i).toInt ≤ (un i).toInt ∧ (un i).toInt ≤ 2160 + 2 * (n : Int)
set_option maxRecDepth 16384 in
/-- cells -/
def RC (nl : Nat) (xl xb cl cm : Nat → Int32) : Prop :=
  xl = cl ∧ xb = cm ∧ ∀ c, c < 30 → (cm c = 0 ∧ cl c = -1) ∨ (1 ≤ (cm c).toInt ∧ (cm c).toInt ≤ 12 ∧ ∃ l, l < nl ∧ cl c = i32 l)
set_option maxRecDepth 16384 in
/-- how many of the first n hold -/
def cnt (p : Nat → Bool) : Nat → Nat
  | 0 => 0
  | n + 1 => cnt p n + (if p n then 1 else 0)
set_option maxRecDepth 16384 in
/-- open bottles: at of them in a list, by lot -/
def RO (nl : Nat) (hour : Int32) (no : Nat) (xl : Nat → Nat → Int32) (op : Int32) (ol oh of : Nat → Int32) : Prop :=
  op = i32 no ∧ (∀ i, i < nl → 0 ≤ (xl i 7).toInt ∧ (xl i 7).toInt ≤ 6 ∧ 0 ≤ (xl i 6).toInt ∧ (xl i 6).toInt ≤ hour.toInt) ∧
  (∀ k, k < no → ∃ l, l < nl ∧ ol k = i32 l ∧ of k = xl l 7 ∧ oh k = xl l 6 ∧ 1 ≤ (of k).toInt) ∧
  (∀ k k', k < no → k' < no → ol k = ol k' → k = k') ∧
  (∀ l, l < nl → 1 ≤ (xl l 7).toInt → ∃ k, k < no ∧ ol k = i32 l) ∧
  no = cnt (fun l => decide (1 ≤ (xl l 7).toInt)) nl
set_option maxRecDepth 16384 in
/-- the hour and what has come and gone -/
def RG (xh mh b b' f f' s s' e e' k k' p p' q q' : Int32) (t t' : Int64) : Prop :=
  xh = mh ∧ 0 ≤ mh.toInt ∧ mh.toInt ≤ 1000000 ∧ b = b' ∧ f = f' ∧ s = s' ∧ e = e' ∧ k = k' ∧ p = p' ∧ q = q' ∧ t = t'
set_option maxRecDepth 16384 in
/-- the tape -/
def RT (nt : Nat) (xt : Int32) (xb : Nat → Int32) (mt : Int32) (mb : Nat → Int32) : Prop :=
  nt ≤ 200 ∧ xt = i32 nt ∧ mt = i32 nt ∧ xb = mb ∧ ∀ i, 0 ≤ (mb i).toInt ∧ (mb i).toInt ≤ 255
set_option maxRecDepth 16384 in
/-- dishes: nd of them, and cells for nd or for one more -/
def RD (nd na : Nat) (xc mc : Int32) (x22 x30 x31 x32 x33 : Nat) (xr : Nat → Option Nat) (xd : Nat → Nat → Int32) (xq xt : Nat → Nat → Option Nat) (xs xl xp : Nat → Nat → Int32) (tm tt ts tn tp : Nat → Int32) : Prop :=
  nd ≤ 20 ∧ xc = i32 nd ∧ mc = i32 nd ∧ (na = nd ∨ na = nd + 1 ∧ nd < 20) ∧ x22 = na ∧ x30 = na ∧ x31 = na ∧ x32 = na ∧ x33 = na ∧
  (∀ i, i < na → xr i = some i ∧ xq i 0 = some i ∧ xq i 1 = some i ∧ xq i 2 = some i ∧ xq i 3 = some i) ∧ (∀ i, na ≤ i → xr i = none) ∧
  ∀ i, i < nd → ∃ nt, nt ≤ 12 ∧ xd i 4 = i32 nt ∧ tm i = i32 nt ∧ ∀ t, t < nt → ∃ z, z < 8 ∧ xt i t = some z ∧ tt (12 * i + t) = i32 z ∧ xp i t = tp (12 * i + t) ∧ -99999 ≤ (tp (12 * i + t)).toInt ∧ (tp (12 * i + t)).toInt ≤ 99999 ∧ (5 ≤ z → xs i t = ts (12 * i + t) ∧ xl i t = tn (12 * i + t))
set_option maxRecDepth 16384 in
/-- sheets -/
def RW (ns : Nat) (xc mc : Int32) (x23 x34 x35 x36 : Nat) (xr : Nat → Option Nat) (xq xo : Nat → Nat → Option Nat) (xw xz : Nat → Nat → Int32) (xn : Nat → Nat → Int64) (wd rs : Nat → Int32) (nu : Nat → Int64) : Prop :=
  ns ≤ 4 ∧ xc = i32 ns ∧ mc = i32 ns ∧ x23 = ns ∧ x34 = ns ∧ x35 = ns ∧ x36 = 10 * ns ∧
  (∀ i, i < ns → xr i = some i ∧ xq i 0 = some i ∧ xq i 1 = some i ∧ xw i 2 = wd i ∧ 0 ≤ (wd i).toInt ∧ (wd i).toInt ≤ 2) ∧
  (∀ i k, i < ns → k < 10 → xo i k = some (10 * i + k) ∧ xz i k = rs (10 * i + k) ∧ (rs (10 * i + k) = -1 ∨ 0 ≤ (rs (10 * i + k)).toInt ∧ (rs (10 * i + k)).toInt ≤ 40) ∧ ∀ j, j < 40 → rs (10 * i + k) ≠ -1 → xn (10 * i + k) j = nu (40 * (10 * i + k) + j)) ∧
  ∀ r, 10 * ns ≤ r → r < 40 → rs r = -1
set_option maxRecDepth 16384 in
/-- all of it -/
def RelA (n nk nl no nt nd na ns : Nat) (x m : tw_T) : Prop :=
  gR m = rM ∧
  SX (gR x 0) (gR x 5) (gR x 6) (gR x 8) (gR x 15) (gR x 16) (gR x 24) (gR x 25) ∧
  RK nk (gI x 0 0 11) (gI m 0 0 1) (gN x 20) (gR x 1 0) (gI x 20) (gI m 105 0) (gI m 106 0) (gI m 107 0) (gI m 108 0) (gI m 109 0) ∧
  RLo n nk nl (gI x 0 0 12) (gI m 0 0 2) (gN x 21) (gR x 2 0) (gI x 21) (gR x 21) (gI m 110 0) (gI m 111 0) (gI m 112 0) (gI m 113 0) (gI m 114 0) ∧
  RC nl (gI x 12 0) (gI x 13 0) (gI m 123 0) (gI m 124 0) ∧
  RO nl (gI x 0 0 15) no (gI x 21) (gI m 0 0 22) (gI m 125 0) (gI m 126 0) (gI m 127 0) ∧
  RG (gI x 0 0 15) (gI m 0 0 3) (gI x 7 0 0) (gI m 0 0 15) (gI x 7 0 1) (gI m 0 0 16) (gI x 7 0 2) (gI m 0 0 17) (gI x 7 0 3) (gI m 0 0 18) (gI x 7 0 4) (gI m 0 0 19) (gI x 7 0 5) (gI m 0 0 20) (gI x 7 0 6) (gI m 0 0 21) (gJ x 7 0 7) (gJ m 0 0 4) ∧
  RT nt (gI x 6 0 1) (gI x 14 0) (gI m 0 0 28) (gI m 133 0) ∧
  RD nd na (gI x 0 0 13) (gI m 0 0 29) (gN x 22) (gN x 30) (gN x 31) (gN x 32) (gN x 33) (gR x 3 0) (gI x 22) (gR x 22) (gR x 30) (gI x 31) (gI x 32) (gI x 33) (gI m 134 0) (gI m 135 0) (gI m 136 0) (gI m 137 0) (gI m 138 0) ∧
  RW ns (gI x 0 0 14) (gI m 0 0 39) (gN x 23) (gN x 34) (gN x 35) (gN x 36) (gR x 4 0) (gR x 23) (gR x 34) (gI x 23) (gI x 35) (gJ x 36) (gI m 140 0) (gI m 141 0) (gJ m 142 0)
set_option maxRecDepth 16384 in
def Rel (n : Nat) (x m : tw_T) : Prop := ∃ nk nl no nt nd na ns : Nat, RelA n nk nl no nt nd na ns x m
/-! ===== the reference's small methods ===== -/
set_option maxRecDepth 16384 in
theorem eM_within {τ : tw_T} {x a b : Int32} {Q : Int32 → tw_T → Prop} : F_X10_within τ x a b Q ↔ Q (bz (a.toInt ≤ x.toInt ∧ x.toInt ≤ b.toInt)) τ := by
  unfold F_X10_within
  rw [Int32.lt_iff_toInt_lt, Int32.lt_iff_toInt_lt]
  by_cases h : x.toInt < a.toInt
  · rw [bz_f (by omega)]; simp [h]
  · by_cases h2 : b.toInt < x.toInt
    · rw [bz_f (by omega)]; simp [h, h2]
    · rw [bz_t (by omega)]; simp [h, h2]
set_option maxRecDepth 16384 in
theorem eM_may {τ : tw_T} {p : Prop} [Decidable p] {c : Int32} {Q : Int32 → tw_T → Prop} (h0 : gI τ 0 0 0 = 0) (hc : c ≠ 0) : F_X10_may τ 0 (bz p) c Q ↔ ((p → Q 1 τ) ∧ (¬ p → Q 0 (sI τ 0 0 0 c))) := by
  unfold F_X10_may J_X10_may_16
  by_cases h : p
  · rw [bz_t h]; simp [h, h0]
  · rw [bz_f h]; simp [h, h0, gI_sI, hc]
set_option maxRecDepth 16384 in
theorem eX_isWithin {τ : tw_T} {x a b : Int64} {Q : Int32 → tw_T → Prop} : F_X9_isWithin τ x a b Q ↔ Q (bz (a.toInt ≤ x.toInt ∧ x.toInt ≤ b.toInt)) τ := by
  unfold F_X9_isWithin
  rw [cmp_lt0, cmp_gt0]
  by_cases h : x.toInt < a.toInt
  · rw [bz_f (by omega)]; simp [h]
  · by_cases h2 : b.toInt < x.toInt
    · rw [bz_f (by omega)]; simp [h, h2]
    · rw [bz_t (by omega)]; simp [h, h2]
set_option maxRecDepth 16384 in
theorem rM_at {j : Nat} (h : (5 ≤ j ∧ j ≤ 14 ∨ 23 ≤ j ∧ j ≤ 27 ∨ 33 ≤ j ∧ j ≤ 38 ∨ 40 ≤ j ∧ j ≤ 48)) : rM 0 0 j = some 0 := by simp [rM, h]
set_option maxRecDepth 16384 in
theorem rXs_at {n j : Nat} (h : j < n) : rXs n 0 j = some 0 := by simp [rXs, h]
set_option maxRecDepth 16384 in
theorem rXd_at {n j : Nat} (h : j < n) : rXd n 0 j = some j := by simp [rXd, h]
set_option maxRecDepth 16384 in
theorem ex_s {P : Nat → Prop} {k : Nat} : (∃ o, some k = some o ∧ P o) ↔ P k := by simp
