set_option maxRecDepth 16384 in
def lwF : List Cond := flatC (Jvm.Cond.and given_1 narrow_1)
set_option maxRecDepth 16384 in
def zx_k : List Nat := [62, 68, 71, 74, 77, 80, 83, 86]
set_option maxRecDepth 16384 in
def zx_t (i : Nat) : Term := .string RX8 (zx_k.getD i 0)
set_option maxRecDepth 16384 in
def zx_e (i : Nat) : Term := .static RX8 (zx_nm.getD i "") "LWineCellar$Test;"
set_option maxRecDepth 16384 in
def zx_v (i : Nat) : Term := .field (zx_t i) "java/lang/String" "value" "[B" 
set_option maxRecDepth 16384 in
theorem lw_m1_x : ∀ i, i < 8 → lw_tbl[([847, 849, 1409, 1410, 1411, 839, 841, 1412] : List Nat).getD i 0]? = some (Cond.laysStatic RX8 (zx_nm.getD i "") "LWineCellar$Test;") := by decide +kernel
set_option maxRecDepth 16384 in
theorem lw_m1 : ∀ i, i < 8 → Cond.laysStatic RX8 (zx_nm.getD i "") "LWineCellar$Test;" ∈ lw_tbl := fun i hi => List.mem_of_getElem? (lw_m1_x i hi)
set_option maxRecDepth 16384 in
theorem lw_m2_x : ∀ i, i < 8 → lwF[([41, 48, 56, 65, 75, 30, 35, 86] : List Nat).getD i 0]? = some (Cond.exactly (zx_e i) RX8) := by decide +kernel
set_option maxRecDepth 16384 in
theorem lw_m2 : ∀ i, i < 8 → Cond.exactly (zx_e i) RX8 ∈ lwF := fun i hi => List.mem_of_getElem? (lw_m2_x i hi)
set_option maxRecDepth 16384 in
theorem lw_m3a_x : ∀ i, i < 8 → lwF[([44, 51, 59, 68, 78, 33, 38, 89] : List Nat).getD i 0]? = some (Cond.eq (.field (zx_e i) RX8 "sort" "I") (.int (([-1, -1, 0, 1, 2, -1, -1, -1] : List Int32).getD i 0))) := by decide +kernel
set_option maxRecDepth 16384 in
theorem lw_m3a : ∀ i, i < 8 → Cond.eq (.field (zx_e i) RX8 "sort" "I") (.int (([-1, -1, 0, 1, 2, -1, -1, -1] : List Int32).getD i 0)) ∈ lwF := fun i hi => List.mem_of_getElem? (lw_m3a_x i hi)
set_option maxRecDepth 16384 in
theorem lw_m3b_x : ∀ i, i < 8 → lwF[([45, 52, 60, 69, 79, 34, 39, 90] : List Nat).getD i 0]? = some (Cond.eq (.field (zx_e i) RX8 "measures" "Z") (.int (([0, 0, 0, 0, 0, 1, 1, 1] : List Int32).getD i 0))) := by decide +kernel
set_option maxRecDepth 16384 in
theorem lw_m3b : ∀ i, i < 8 → Cond.eq (.field (zx_e i) RX8 "measures" "Z") (.int (([0, 0, 0, 0, 0, 1, 1, 1] : List Int32).getD i 0)) ∈ lwF := fun i hi => List.mem_of_getElem? (lw_m3b_x i hi)
set_option maxRecDepth 16384 in
theorem lw_m4_x : ∀ i, i < 8 → ∀ j, j < 8 → i ≠ j → lwF[(([[0, 55, 63, 72, 82, 46, 47, 93], [55, 0, 64, 73, 83, 53, 54, 94], [63, 64, 0, 74, 84, 61, 62, 95], [72, 73, 74, 0, 85, 70, 71, 96], [82, 83, 84, 85, 0, 80, 81, 97], [46, 53, 61, 70, 80, 0, 40, 91], [47, 54, 62, 71, 81, 40, 0, 92], [93, 94, 95, 96, 97, 91, 92, 0]] : List (List Nat)).getD i []).getD j 0]? = some (Cond.not (.eq (zx_e i) (zx_e j))) ∨ lwF[(([[0, 55, 63, 72, 82, 46, 47, 93], [55, 0, 64, 73, 83, 53, 54, 94], [63, 64, 0, 74, 84, 61, 62, 95], [72, 73, 74, 0, 85, 70, 71, 96], [82, 83, 84, 85, 0, 80, 81, 97], [46, 53, 61, 70, 80, 0, 40, 91], [47, 54, 62, 71, 81, 40, 0, 92], [93, 94, 95, 96, 97, 91, 92, 0]] : List (List Nat)).getD i []).getD j 0]? = some (Cond.not (.eq (zx_e j) (zx_e i))) := by decide +kernel
set_option maxRecDepth 16384 in
theorem lw_m4 : ∀ i, i < 8 → ∀ j, j < 8 → i ≠ j → Cond.not (.eq (zx_e i) (zx_e j)) ∈ lwF ∨ Cond.not (.eq (zx_e j) (zx_e i)) ∈ lwF := fun i hi j hj h => (lw_m4_x i hi j hj h).imp List.mem_of_getElem? List.mem_of_getElem?
set_option maxRecDepth 16384 in
theorem lw_m5_x : ∀ i, i < 8 → lwF[([572, 579, 588, 597, 605, 557, 565, 614] : List Nat).getD i 0]? = some (Cond.exactly (zx_t i) "java/lang/String") := by decide +kernel
set_option maxRecDepth 16384 in
theorem lw_m5 : ∀ i, i < 8 → Cond.exactly (zx_t i) "java/lang/String" ∈ lwF := fun i hi => List.mem_of_getElem? (lw_m5_x i hi)
set_option maxRecDepth 16384 in
theorem lw_m6_x : ∀ i, i < 8 → lwF[([573, 580, 589, 598, 606, 558, 566, 615] : List Nat).getD i 0]? = some (Cond.eq (.field (zx_t i) "java/lang/String" "coder" "B") (.int 0)) := by decide +kernel
set_option maxRecDepth 16384 in
theorem lw_m6 : ∀ i, i < 8 → Cond.eq (.field (zx_t i) "java/lang/String" "coder" "B") (.int 0) ∈ lwF := fun i hi => List.mem_of_getElem? (lw_m6_x i hi)
set_option maxRecDepth 16384 in
theorem lw_m7_x : ∀ i, i < 8 → lwF[([574, 581, 590, 599, 607, 559, 567, 616] : List Nat).getD i 0]? = some (Cond.arrayOf (zx_v i) .byte) := by decide +kernel
set_option maxRecDepth 16384 in
theorem lw_m7 : ∀ i, i < 8 → Cond.arrayOf (zx_v i) .byte ∈ lwF := fun i hi => List.mem_of_getElem? (lw_m7_x i hi)
set_option maxRecDepth 16384 in
theorem lw_m8_x : ∀ i, i < 8 → lwF[([575, 582, 591, 600, 608, 560, 568, 617] : List Nat).getD i 0]? = some (Cond.eq (.length (zx_v i)) (.int (Int32.ofNat (zx_len.getD i 0)))) := by decide +kernel
set_option maxRecDepth 16384 in
theorem lw_m8 : ∀ i, i < 8 → Cond.eq (.length (zx_v i)) (.int (Int32.ofNat (zx_len.getD i 0))) ∈ lwF := fun i hi => List.mem_of_getElem? (lw_m8_x i hi)
set_option maxRecDepth 16384 in
theorem lw_m9_x : ∀ i, i < 8 → ∀ j, j < zx_len.getD i 0 → lwF[(([[576, 577, 578], [583, 584, 585, 586, 587], [592, 593, 594, 595, 596], [601, 602, 603, 604], [609, 610, 611, 612, 613], [561, 562, 563, 564], [569, 570, 571], [618, 619, 620, 621, 622]] : List (List Nat)).getD i []).getD j 0]? = some (Cond.eq (.elem (zx_v i) (.int (Int32.ofNat j))) (.int ((zx_byt.getD i []).getD j 0))) := by decide +kernel
set_option maxRecDepth 16384 in
theorem lw_m9 : ∀ i, i < 8 → ∀ j, j < zx_len.getD i 0 → Cond.eq (.elem (zx_v i) (.int (Int32.ofNat j))) (.int ((zx_byt.getD i []).getD j 0)) ∈ lwF := fun i hi j hj => List.mem_of_getElem? (lw_m9_x i hi j hj)
set_option maxRecDepth 16384 in
theorem lw_m10_x : ∀ i, i < 8 → lwF[([43, 50, 58, 67, 77, 32, 37, 88] : List Nat).getD i 0]? = some (Cond.eq (.field (zx_e i) RX8 "word" "Ljava/lang/String;") (zx_t i)) := by decide +kernel
set_option maxRecDepth 16384 in
theorem lw_m10 : ∀ i, i < 8 → Cond.eq (.field (zx_e i) RX8 "word" "Ljava/lang/String;") (zx_t i) ∈ lwF := fun i hi => List.mem_of_getElem? (lw_m10_x i hi)
set_option maxRecDepth 16384 in
theorem lw_m11 : ∀ i, i < 8 → ∀ j, j < 8 → i ≠ j → ¬ (zx_len.getD i 0 = zx_len.getD j 0 ∧ (zx_byt.getD i []).getD 0 0 = (zx_byt.getD j []).getD 0 0 ∧ (zx_byt.getD i []).getD 1 0 = (zx_byt.getD j []).getD 1 0) := by decide +kernel
set_option maxRecDepth 16384 in
theorem lw_m12_x : ∀ i, i < 19 → lw_tbl[([348, 376, 421, 437, 491, 496, 505, 540, 561, 569, 593, 666, 677, 698, 699, 826, 876, 909, 950] : List Nat).getD i 0]? = some (Cond.stringRef RX9 (zx_st.getD i (0, "", 0)).1 (zx_st.getD i (0, "", 0)).2.1) := by decide +kernel
set_option maxRecDepth 16384 in
theorem lw_m12 : ∀ i, i < 19 → Cond.stringRef RX9 (zx_st.getD i (0, "", 0)).1 (zx_st.getD i (0, "", 0)).2.1 ∈ lw_tbl := fun i hi => List.mem_of_getElem? (lw_m12_x i hi)
set_option maxRecDepth 16384 in
theorem lw_m13_x : ∀ i, i < 19 → lwF[([154, 183, 208, 224, 252, 267, 283, 299, 318, 334, 363, 379, 406, 426, 453, 472, 488, 505, 529] : List Nat).getD i 0]? = some (Cond.exactly (.string RX9 (zx_st.getD i (0, "", 0)).1) "java/lang/String") := by decide +kernel
set_option maxRecDepth 16384 in
theorem lw_m13 : ∀ i, i < 19 → Cond.exactly (.string RX9 (zx_st.getD i (0, "", 0)).1) "java/lang/String" ∈ lwF := fun i hi => List.mem_of_getElem? (lw_m13_x i hi)
set_option maxRecDepth 16384 in
theorem lw_m14_x : ∀ a, a < 4 → ∀ b, b < 4 → a ≠ b → lwF[(([[0, 118, 146, 132], [105, 0, 148, 134], [108, 122, 0, 136], [107, 121, 150, 0]] : List (List Nat)).getD a []).getD b 0]? = some (Cond.not (.castable (exn a) (exn b))) := by decide +kernel
set_option maxRecDepth 16384 in
theorem lw_m14 : ∀ a, a < 4 → ∀ b, b < 4 → a ≠ b → Cond.not (.castable (exn a) (exn b)) ∈ lwF := fun a ha b hb h => List.mem_of_getElem? (lw_m14_x a ha b hb h)
set_option maxRecDepth 16384 in
theorem lw_m15_x : ∀ i, i < 3 → lwF[([9, 10, 11] : List Nat).getD i 0]? = some (Cond.eq (.elem (.static RX9 "KEPT_HOURS" "[I") (.int (Int32.ofNat i))) (.int (([48, 12, 240] : List Int32).getD i 0))) := by decide +kernel
set_option maxRecDepth 16384 in
theorem lw_m15 : ∀ i, i < 3 → Cond.eq (.elem (.static RX9 "KEPT_HOURS" "[I") (.int (Int32.ofNat i))) (.int (([48, 12, 240] : List Int32).getD i 0)) ∈ lwF := fun i hi => List.mem_of_getElem? (lw_m15_x i hi)
set_option maxRecDepth 16384 in
theorem lw_m16_x : ∀ i, i < 8 → lwF[([17, 18, 19, 20, 21, 22, 23, 24] : List Nat).getD i 0]? = some (Cond.eq (.elem (.static RX7 "TESTS" "[LWineCellar$Test;") (.int (Int32.ofNat i))) (zx_e i)) := by decide +kernel
set_option maxRecDepth 16384 in
theorem lw_m16 : ∀ i, i < 8 → Cond.eq (.elem (.static RX7 "TESTS" "[LWineCellar$Test;") (.int (Int32.ofNat i))) (zx_e i) ∈ lwF := fun i hi => List.mem_of_getElem? (lw_m16_x i hi)
set_option maxRecDepth 16384 in
theorem lw_m17 : ∀ i, i < 8 → 1 < zx_len.getD i 0 := by decide +kernel
set_option maxRecDepth 16384 in
theorem lw_s1 : Cond.arrayOf (.static RX9 "KEPT_HOURS" "[I") .int ∈ lwF := List.mem_of_getElem? (i := 7) (by decide +kernel)
set_option maxRecDepth 16384 in
theorem lw_s2 : Cond.eq (.length (.static RX9 "KEPT_HOURS" "[I")) (.int 3) ∈ lwF := List.mem_of_getElem? (i := 8) (by decide +kernel)
set_option maxRecDepth 16384 in
theorem lw_s3 : Cond.arrayOf (.static RX7 "TESTS" "[LWineCellar$Test;") (.object RX8) ∈ lwF := List.mem_of_getElem? (i := 14) (by decide +kernel)
set_option maxRecDepth 16384 in
theorem lw_s4 : Cond.eq (.length (.static RX7 "TESTS" "[LWineCellar$Test;")) (.int 8) ∈ lwF := List.mem_of_getElem? (i := 15) (by decide +kernel)
set_option maxRecDepth 16384 in
theorem lw_s5 : Cond.eq (.static RJ0 "COMPACT_STRINGS" "Z") (.int 1) ∈ lwF := List.mem_of_getElem? (i := 25) (by decide +kernel)
set_option maxRecDepth 16384 in
theorem lw_s6 : Cond.isRef (.static "jdk/internal/util/Preconditions" "SIOOBE_FORMATTER" "Ljava/util/function/BiFunction;") ∈ lwF := List.mem_of_getElem? (i := 26) (by decide +kernel)
set_option maxRecDepth 16384 in
theorem lw_s7 : Cond.isRef (.static Bundle.tN "UNASSIGNED_STACK" Bundle.steD) ∈ lwF := List.mem_of_getElem? (i := 4) (by decide +kernel)
set_option maxRecDepth 16384 in
theorem lw_s8 : Cond.isRef (.static Bundle.tN "SUPPRESSED_SENTINEL" Bundle.listD) ∈ lwF := List.mem_of_getElem? (i := 5) (by decide +kernel)
