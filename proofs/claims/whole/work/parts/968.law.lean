set_option maxRecDepth 16384
set_option linter.unusedVariables false
def lwF : List Cond := flatC (Jvm.Cond.and given_1 narrow_1)
def zx_k : List Nat := [62, 68, 71, 74, 77, 80, 83, 86]
def zx_t (i : Nat) : Term := .string RX8 (zx_k.getD i 0)
def zx_e (i : Nat) : Term := .static RX8 (zx_nm.getD i "") "LWineCellar$Test;"
def zx_v (i : Nat) : Term := .field (zx_t i) "java/lang/String" "value" "[B"
theorem lw_m1 : ∀ i, i < 8 → Cond.laysStatic RX8 (zx_nm.getD i "") "LWineCellar$Test;" ∈ lw_tbl := by decide +kernel
theorem lw_m2 : ∀ i, i < 8 → Cond.exactly (zx_e i) RX8 ∈ lwF := by decide +kernel
theorem lw_m3 : ∀ q ∈ zx_F, ∀ i, i < 8 → Cond.eq (.field (zx_e i) q.1 q.2.1 q.2.2.1) (.int (q.2.2.2.getD i 0)) ∈ lwF := by decide +kernel
theorem lw_m4 : ∀ i, i < 8 → ∀ j, j < 8 → i ≠ j → Cond.not (.eq (zx_e i) (zx_e j)) ∈ lwF ∨ Cond.not (.eq (zx_e j) (zx_e i)) ∈ lwF := by decide +kernel
theorem lw_m5 : ∀ i, i < 8 → Cond.exactly (zx_t i) "java/lang/String" ∈ lwF := by decide +kernel
theorem lw_m6 : ∀ i, i < 8 → Cond.eq (.field (zx_t i) "java/lang/String" "coder" "B") (.int 0) ∈ lwF := by decide +kernel
theorem lw_m7 : ∀ i, i < 8 → Cond.arrayOf (zx_v i) .byte ∈ lwF := by decide +kernel
theorem lw_m8 : ∀ i, i < 8 → Cond.eq (.length (zx_v i)) (.int (Int32.ofNat (zx_len.getD i 0))) ∈ lwF := by decide +kernel
theorem lw_m9 : ∀ i, i < 8 → ∀ j, j < zx_len.getD i 0 → Cond.eq (.elem (zx_v i) (.int (Int32.ofNat j))) (.int ((zx_byt.getD i []).getD j 0)) ∈ lwF := by decide +kernel
theorem lw_m10 : ∀ i, i < 8 → Cond.eq (.field (zx_e i) RX8 "word" "Ljava/lang/String;") (zx_t i) ∈ lwF := by decide +kernel
theorem lw_m11 : ∀ i, i < 8 → ∀ j, j < 8 → i ≠ j → ¬ (zx_len.getD i 0 = zx_len.getD j 0 ∧ (zx_byt.getD i []).getD 0 0 = (zx_byt.getD j []).getD 0 0 ∧ (zx_byt.getD i []).getD 1 0 = (zx_byt.getD j []).getD 1 0) := by decide +kernel
theorem lw_m12 : ∀ q ∈ zx_st, Cond.stringRef RX9 q.1 q.2.1 ∈ lw_tbl := by decide +kernel
theorem lw_m13 : ∀ q ∈ zx_st, Cond.exactly (.string RX9 q.1) "java/lang/String" ∈ lwF := by decide +kernel
theorem lw_m14 : ∀ a, a < 4 → ∀ b, b < 4 → a ≠ b → Cond.not (.castable (exn a) (exn b)) ∈ lwF := by decide +kernel
theorem lw_m15 : ∀ j, j < 3 → Cond.eq (.elem (.static RX9 "KEPT_HOURS" "[I") (.int (Int32.ofNat j))) (.int (([48, 12, 240] : List Int32).getD j 0)) ∈ lwF := by decide +kernel
theorem lw_m16 : ∀ j, j < 8 → Cond.eq (.elem (.static RX7 "TESTS" "[LWineCellar$Test;") (.int (Int32.ofNat j))) (zx_e j) ∈ lwF := by decide +kernel
theorem lw_m17 : ∀ i, i < 8 → 1 < zx_len.getD i 0 := by decide +kernel
