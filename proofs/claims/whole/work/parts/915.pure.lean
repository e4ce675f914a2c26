/-! ===== literals apart ===== -/
set_option maxRecDepth 16384 in
theorem pe_0_1 : ((0 : Int32) = 1) ↔ False := by decide
set_option maxRecDepth 16384 in
theorem pe_0_2 : ((0 : Int32) = 2) ↔ False := by decide
set_option maxRecDepth 16384 in
theorem pe_0_3 : ((0 : Int32) = 3) ↔ False := by decide
set_option maxRecDepth 16384 in
theorem pe_0_4 : ((0 : Int32) = 4) ↔ False := by decide
set_option maxRecDepth 16384 in
theorem pe_0_5 : ((0 : Int32) = 5) ↔ False := by decide
set_option maxRecDepth 16384 in
theorem pe_0_6 : ((0 : Int32) = 6) ↔ False := by decide
set_option maxRecDepth 16384 in
theorem pe_0_7 : ((0 : Int32) = 7) ↔ False := by decide
set_option maxRecDepth 16384 in
theorem pe_0_8 : ((0 : Int32) = 8) ↔ False := by decide
set_option maxRecDepth 16384 in
theorem pe_0_9 : ((0 : Int32) = 9) ↔ False := by decide
set_option maxRecDepth 16384 in
theorem pe_0_10 : ((0 : Int32) = 10) ↔ False := by decide
set_option maxRecDepth 16384 in
theorem pe_0_11 : ((0 : Int32) = 11) ↔ False := by decide
set_option maxRecDepth 16384 in
theorem pe_0_12 : ((0 : Int32) = 12) ↔ False := by decide
set_option maxRecDepth 16384 in
theorem pe_0_13 : ((0 : Int32) = 13) ↔ False := by decide
set_option maxRecDepth 16384 in
theorem pe_0_14 : ((0 : Int32) = 14) ↔ False := by decide
set_option maxRecDepth 16384 in
theorem pe_1_0 : ((1 : Int32) = 0) ↔ False := by decide
set_option maxRecDepth 16384 in
theorem pe_1_2 : ((1 : Int32) = 2) ↔ False := by decide
set_option maxRecDepth 16384 in
theorem pe_1_3 : ((1 : Int32) = 3) ↔ False := by decide
set_option maxRecDepth 16384 in
theorem pe_1_4 : ((1 : Int32) = 4) ↔ False := by decide
set_option maxRecDepth 16384 in
theorem pe_1_5 : ((1 : Int32) = 5) ↔ False := by decide
set_option maxRecDepth 16384 in
theorem pe_1_6 : ((1 : Int32) = 6) ↔ False := by decide
set_option maxRecDepth 16384 in
theorem pe_1_7 : ((1 : Int32) = 7) ↔ False := by decide
set_option maxRecDepth 16384 in
theorem pe_1_8 : ((1 : Int32) = 8) ↔ False := by decide
set_option maxRecDepth 16384 in
theorem pe_1_9 : ((1 : Int32) = 9) ↔ False := by decide
set_option maxRecDepth 16384 in
theorem pe_1_10 : ((1 : Int32) = 10) ↔ False := by decide
set_option maxRecDepth 16384 in
theorem pe_1_11 : ((1 : Int32) = 11) ↔ False := by decide
set_option maxRecDepth 16384 in
theorem pe_1_12 : ((1 : Int32) = 12) ↔ False := by decide
set_option maxRecDepth 16384 in
theorem pe_1_13 : ((1 : Int32) = 13) ↔ False := by decide
set_option maxRecDepth 16384 in
theorem pe_1_14 : ((1 : Int32) = 14) ↔ False := by decide
set_option maxRecDepth 16384 in
theorem pe_2_0 : ((2 : Int32) = 0) ↔ False := by decide
set_option maxRecDepth 16384 in
theorem pe_2_1 : ((2 : Int32) = 1) ↔ False := by decide
set_option maxRecDepth 16384 in
theorem pe_2_3 : ((2 : Int32) = 3) ↔ False := by decide
set_option maxRecDepth 16384 in
theorem pe_2_4 : ((2 : Int32) = 4) ↔ False := by decide
set_option maxRecDepth 16384 in
theorem pe_2_5 : ((2 : Int32) = 5) ↔ False := by decide
set_option maxRecDepth 16384 in
theorem pe_2_6 : ((2 : Int32) = 6) ↔ False := by decide
set_option maxRecDepth 16384 in
theorem pe_2_7 : ((2 : Int32) = 7) ↔ False := by decide
set_option maxRecDepth 16384 in
theorem pe_2_8 : ((2 : Int32) = 8) ↔ False := by decide
set_option maxRecDepth 16384 in
theorem pe_2_9 : ((2 : Int32) = 9) ↔ False := by decide
set_option maxRecDepth 16384 in
theorem pe_2_10 : ((2 : Int32) = 10) ↔ False := by decide
set_option maxRecDepth 16384 in
theorem pe_2_11 : ((2 : Int32) = 11) ↔ False := by decide
set_option maxRecDepth 16384 in
theorem pe_2_12 : ((2 : Int32) = 12) ↔ False := by decide
set_option maxRecDepth 16384 in
theorem pe_2_13 : ((2 : Int32) = 13) ↔ False := by decide
set_option maxRecDepth 16384 in
theorem pe_2_14 : ((2 : Int32) = 14) ↔ False := by decide
set_option maxRecDepth 16384 in
theorem pe_3_0 : ((3 : Int32) = 0) ↔ False := by decide
set_option maxRecDepth 16384 in
theorem pe_3_1 : ((3 : Int32) = 1) ↔ False := by decide
set_option maxRecDepth 16384 in
theorem pe_3_2 : ((3 : Int32) = 2) ↔ False := by decide
set_option maxRecDepth 16384 in
theorem pe_3_4 : ((3 : Int32) = 4) ↔ False := by decide
set_option maxRecDepth 16384 in
theorem pe_3_5 : ((3 : Int32) = 5) ↔ False := by decide
set_option maxRecDepth 16384 in
theorem pe_3_6 : ((3 : Int32) = 6) ↔ False := by decide
set_option maxRecDepth 16384 in
theorem pe_3_7 : ((3 : Int32) = 7) ↔ False := by decide
set_option maxRecDepth 16384 in
theorem pe_3_8 : ((3 : Int32) = 8) ↔ False := by decide
set_option maxRecDepth 16384 in
theorem pe_3_9 : ((3 : Int32) = 9) ↔ False := by decide
set_option maxRecDepth 16384 in
theorem pe_3_10 : ((3 : Int32) = 10) ↔ False := by decide
set_option maxRecDepth 16384 in
theorem pe_3_11 : ((3 : Int32) = 11) ↔ False := by decide
set_option maxRecDepth 16384 in
theorem pe_3_12 : ((3 : Int32) = 12) ↔ False := by decide
set_option maxRecDepth 16384 in
theorem pe_3_13 : ((3 : Int32) = 13) ↔ False := by decide
set_option maxRecDepth 16384 in
theorem pe_3_14 : ((3 : Int32) = 14) ↔ False := by decide
set_option maxRecDepth 16384 in
theorem pe_4_0 : ((4 : Int32) = 0) ↔ False := by decide
set_option maxRecDepth 16384 in
theorem pe_4_1 : ((4 : Int32) = 1) ↔ False := by decide
set_option maxRecDepth 16384 in
theorem pe_4_2 : ((4 : Int32) = 2) ↔ False := by decide
set_option maxRecDepth 16384 in
theorem pe_4_3 : ((4 : Int32) = 3) ↔ False := by decide
set_option maxRecDepth 16384 in
theorem pe_4_5 : ((4 : Int32) = 5) ↔ False := by decide
set_option maxRecDepth 16384 in
theorem pe_4_6 : ((4 : Int32) = 6) ↔ False := by decide
set_option maxRecDepth 16384 in
theorem pe_4_7 : ((4 : Int32) = 7) ↔ False := by decide
set_option maxRecDepth 16384 in
theorem pe_4_8 : ((4 : Int32) = 8) ↔ False := by decide
set_option maxRecDepth 16384 in
theorem pe_4_9 : ((4 : Int32) = 9) ↔ False := by decide
set_option maxRecDepth 16384 in
theorem pe_4_10 : ((4 : Int32) = 10) ↔ False := by decide
set_option maxRecDepth 16384 in
theorem pe_4_11 : ((4 : Int32) = 11) ↔ False := by decide
set_option maxRecDepth 16384 in
theorem pe_4_12 : ((4 : Int32) = 12) ↔ False := by decide
set_option maxRecDepth 16384 in
theorem pe_4_13 : ((4 : Int32) = 13) ↔ False := by decide
set_option maxRecDepth 16384 in
theorem pe_4_14 : ((4 : Int32) = 14) ↔ False := by decide
set_option maxRecDepth 16384 in
theorem pe_5_0 : ((5 : Int32) = 0) ↔ False := by decide
set_option maxRecDepth 16384 in
theorem pe_5_1 : ((5 : Int32) = 1) ↔ False := by decide
set_option maxRecDepth 16384 in
theorem pe_5_2 : ((5 : Int32) = 2) ↔ False := by decide
set_option maxRecDepth 16384 in
theorem pe_5_3 : ((5 : Int32) = 3) ↔ False := by decide
set_option maxRecDepth 16384 in
theorem pe_5_4 : ((5 : Int32) = 4) ↔ False := by decide
set_option maxRecDepth 16384 in
theorem pe_5_6 : ((5 : Int32) = 6) ↔ False := by decide
set_option maxRecDepth 16384 in
theorem pe_5_7 : ((5 : Int32) = 7) ↔ False := by decide
set_option maxRecDepth 16384 in
theorem pe_5_8 : ((5 : Int32) = 8) ↔ False := by decide
set_option maxRecDepth 16384 in
theorem pe_5_9 : ((5 : Int32) = 9) ↔ False := by decide
set_option maxRecDepth 16384 in
theorem pe_5_10 : ((5 : Int32) = 10) ↔ False := by decide
set_option maxRecDepth 16384 in
theorem pe_5_11 : ((5 : Int32) = 11) ↔ False := by decide
set_option maxRecDepth 16384 in
theorem pe_5_12 : ((5 : Int32) = 12) ↔ False := by decide
set_option maxRecDepth 16384 in
theorem pe_5_13 : ((5 : Int32) = 13) ↔ False := by decide
set_option maxRecDepth 16384 in
theorem pe_5_14 : ((5 : Int32) = 14) ↔ False := by decide
set_option maxRecDepth 16384 in
theorem pe_6_0 : ((6 : Int32) = 0) ↔ False := by decide
set_option maxRecDepth 16384 in
theorem pe_6_1 : ((6 : Int32) = 1) ↔ False := by decide
set_option maxRecDepth 16384 in
theorem pe_6_2 : ((6 : Int32) = 2) ↔ False := by decide
set_option maxRecDepth 16384 in
theorem pe_6_3 : ((6 : Int32) = 3) ↔ False := by decide
set_option maxRecDepth 16384 in
theorem pe_6_4 : ((6 : Int32) = 4) ↔ False := by decide
set_option maxRecDepth 16384 in
theorem pe_6_5 : ((6 : Int32) = 5) ↔ False := by decide
set_option maxRecDepth 16384 in
theorem pe_6_7 : ((6 : Int32) = 7) ↔ False := by decide
set_option maxRecDepth 16384 in
theorem pe_6_8 : ((6 : Int32) = 8) ↔ False := by decide
set_option maxRecDepth 16384 in
theorem pe_6_9 : ((6 : Int32) = 9) ↔ False := by decide
set_option maxRecDepth 16384 in
theorem pe_6_10 : ((6 : Int32) = 10) ↔ False := by decide
set_option maxRecDepth 16384 in
theorem pe_6_11 : ((6 : Int32) = 11) ↔ False := by decide
set_option maxRecDepth 16384 in
theorem pe_6_12 : ((6 : Int32) = 12) ↔ False := by decide
set_option maxRecDepth 16384 in
theorem pe_6_13 : ((6 : Int32) = 13) ↔ False := by decide
set_option maxRecDepth 16384 in
theorem pe_6_14 : ((6 : Int32) = 14) ↔ False := by decide
set_option maxRecDepth 16384 in
theorem pe_7_0 : ((7 : Int32) = 0) ↔ False := by decide
set_option maxRecDepth 16384 in
theorem pe_7_1 : ((7 : Int32) = 1) ↔ False := by decide
set_option maxRecDepth 16384 in
theorem pe_7_2 : ((7 : Int32) = 2) ↔ False := by decide
set_option maxRecDepth 16384 in
theorem pe_7_3 : ((7 : Int32) = 3) ↔ False := by decide
set_option maxRecDepth 16384 in
theorem pe_7_4 : ((7 : Int32) = 4) ↔ False := by decide
set_option maxRecDepth 16384 in
theorem pe_7_5 : ((7 : Int32) = 5) ↔ False := by decide
set_option maxRecDepth 16384 in
theorem pe_7_6 : ((7 : Int32) = 6) ↔ False := by decide
set_option maxRecDepth 16384 in
theorem pe_7_8 : ((7 : Int32) = 8) ↔ False := by decide
set_option maxRecDepth 16384 in
theorem pe_7_9 : ((7 : Int32) = 9) ↔ False := by decide
set_option maxRecDepth 16384 in
theorem pe_7_10 : ((7 : Int32) = 10) ↔ False := by decide
set_option maxRecDepth 16384 in
theorem pe_7_11 : ((7 : Int32) = 11) ↔ False := by decide
set_option maxRecDepth 16384 in
theorem pe_7_12 : ((7 : Int32) = 12) ↔ False := by decide
set_option maxRecDepth 16384 in
theorem pe_7_13 : ((7 : Int32) = 13) ↔ False := by decide
set_option maxRecDepth 16384 in
theorem pe_7_14 : ((7 : Int32) = 14) ↔ False := by decide
set_option maxRecDepth 16384 in
theorem pe_8_0 : ((8 : Int32) = 0) ↔ False := by decide
set_option maxRecDepth 16384 in
theorem pe_8_1 : ((8 : Int32) = 1) ↔ False := by decide
set_option maxRecDepth 16384 in
theorem pe_8_2 : ((8 : Int32) = 2) ↔ False := by decide
set_option maxRecDepth 16384 in
theorem pe_8_3 : ((8 : Int32) = 3) ↔ False := by decide
set_option maxRecDepth 16384 in
theorem pe_8_4 : ((8 : Int32) = 4) ↔ False := by decide
set_option maxRecDepth 16384 in
theorem pe_8_5 : ((8 : Int32) = 5) ↔ False := by decide
set_option maxRecDepth 16384 in
theorem pe_8_6 : ((8 : Int32) = 6) ↔ False := by decide
set_option maxRecDepth 16384 in
theorem pe_8_7 : ((8 : Int32) = 7) ↔ False := by decide
set_option maxRecDepth 16384 in
theorem pe_8_9 : ((8 : Int32) = 9) ↔ False := by decide
set_option maxRecDepth 16384 in
theorem pe_8_10 : ((8 : Int32) = 10) ↔ False := by decide
set_option maxRecDepth 16384 in
theorem pe_8_11 : ((8 : Int32) = 11) ↔ False := by decide
set_option maxRecDepth 16384 in
theorem pe_8_12 : ((8 : Int32) = 12) ↔ False := by decide
set_option maxRecDepth 16384 in
theorem pe_8_13 : ((8 : Int32) = 13) ↔ False := by decide
set_option maxRecDepth 16384 in
theorem pe_8_14 : ((8 : Int32) = 14) ↔ False := by decide
set_option maxRecDepth 16384 in
theorem pe_9_0 : ((9 : Int32) = 0) ↔ False := by decide
set_option maxRecDepth 16384 in
theorem pe_9_1 : ((9 : Int32) = 1) ↔ False := by decide
set_option maxRecDepth 16384 in
theorem pe_9_2 : ((9 : Int32) = 2) ↔ False := by decide
set_option maxRecDepth 16384 in
theorem pe_9_3 : ((9 : Int32) = 3) ↔ False := by decide
set_option maxRecDepth 16384 in
theorem pe_9_4 : ((9 : Int32) = 4) ↔ False := by decide
set_option maxRecDepth 16384 in
theorem pe_9_5 : ((9 : Int32) = 5) ↔ False := by decide
set_option maxRecDepth 16384 in
theorem pe_9_6 : ((9 : Int32) = 6) ↔ False := by decide
set_option maxRecDepth 16384 in
theorem pe_9_7 : ((9 : Int32) = 7) ↔ False := by decide
set_option maxRecDepth 16384 in
theorem pe_9_8 : ((9 : Int32) = 8) ↔ False := by decide
set_option maxRecDepth 16384 in
theorem pe_9_10 : ((9 : Int32) = 10) ↔ False := by decide
set_option maxRecDepth 16384 in
theorem pe_9_11 : ((9 : Int32) = 11) ↔ False := by decide
set_option maxRecDepth 16384 in
theorem pe_9_12 : ((9 : Int32) = 12) ↔ False := by decide
set_option maxRecDepth 16384 in
theorem pe_9_13 : ((9 : Int32) = 13) ↔ False := by decide
set_option maxRecDepth 16384 in
theorem pe_9_14 : ((9 : Int32) = 14) ↔ False := by decide
set_option maxRecDepth 16384 in
theorem pe_10_0 : ((10 : Int32) = 0) ↔ False := by decide
set_option maxRecDepth 16384 in
theorem pe_10_1 : ((10 : Int32) = 1) ↔ False := by decide
set_option maxRecDepth 16384 in
theorem pe_10_2 : ((10 : Int32) = 2) ↔ False := by decide
set_option maxRecDepth 16384 in
theorem pe_10_3 : ((10 : Int32) = 3) ↔ False := by decide
set_option maxRecDepth 16384 in
theorem pe_10_4 : ((10 : Int32) = 4) ↔ False := by decide
set_option maxRecDepth 16384 in
theorem pe_10_5 : ((10 : Int32) = 5) ↔ False := by decide
set_option maxRecDepth 16384 in
theorem pe_10_6 : ((10 : Int32) = 6) ↔ False := by decide
set_option maxRecDepth 16384 in
theorem pe_10_7 : ((10 : Int32) = 7) ↔ False := by decide
set_option maxRecDepth 16384 in
theorem pe_10_8 : ((10 : Int32) = 8) ↔ False := by decide
set_option maxRecDepth 16384 in
theorem pe_10_9 : ((10 : Int32) = 9) ↔ False := by decide
set_option maxRecDepth 16384 in
theorem pe_10_11 : ((10 : Int32) = 11) ↔ False := by decide
set_option maxRecDepth 16384 in
theorem pe_10_12 : ((10 : Int32) = 12) ↔ False := by decide
set_option maxRecDepth 16384 in
theorem pe_10_13 : ((10 : Int32) = 13) ↔ False := by decide
set_option maxRecDepth 16384 in
theorem pe_10_14 : ((10 : Int32) = 14) ↔ False := by decide
set_option maxRecDepth 16384 in
theorem pe_11_0 : ((11 : Int32) = 0) ↔ False := by decide
set_option maxRecDepth 16384 in
theorem pe_11_1 : ((11 : Int32) = 1) ↔ False := by decide
set_option maxRecDepth 16384 in
theorem pe_11_2 : ((11 : Int32) = 2) ↔ False := by decide
set_option maxRecDepth 16384 in
theorem pe_11_3 : ((11 : Int32) = 3) ↔ False := by decide
set_option maxRecDepth 16384 in
theorem pe_11_4 : ((11 : Int32) = 4) ↔ False := by decide
set_option maxRecDepth 16384 in
theorem pe_11_5 : ((11 : Int32) = 5) ↔ False := by decide
set_option maxRecDepth 16384 in
theorem pe_11_6 : ((11 : Int32) = 6) ↔ False := by decide
set_option maxRecDepth 16384 in
theorem pe_11_7 : ((11 : Int32) = 7) ↔ False := by decide
set_option maxRecDepth 16384 in
theorem pe_11_8 : ((11 : Int32) = 8) ↔ False := by decide
set_option maxRecDepth 16384 in
theorem pe_11_9 : ((11 : Int32) = 9) ↔ False := by decide
set_option maxRecDepth 16384 in
theorem pe_11_10 : ((11 : Int32) = 10) ↔ False := by decide
set_option maxRecDepth 16384 in
theorem pe_11_12 : ((11 : Int32) = 12) ↔ False := by decide
set_option maxRecDepth 16384 in
theorem pe_11_13 : ((11 : Int32) = 13) ↔ False := by decide
set_option maxRecDepth 16384 in
theorem pe_11_14 : ((11 : Int32) = 14) ↔ False := by decide
set_option maxRecDepth 16384 in
theorem pe_12_0 : ((12 : Int32) = 0) ↔ False := by decide
set_option maxRecDepth 16384 in
theorem pe_12_1 : ((12 : Int32) = 1) ↔ False := by decide
set_option maxRecDepth 16384 in
theorem pe_12_2 : ((12 : Int32) = 2) ↔ False := by decide
set_option maxRecDepth 16384 in
theorem pe_12_3 : ((12 : Int32) = 3) ↔ False := by decide
set_option maxRecDepth 16384 in
theorem pe_12_4 : ((12 : Int32) = 4) ↔ False := by decide
set_option maxRecDepth 16384 in
theorem pe_12_5 : ((12 : Int32) = 5) ↔ False := by decide
set_option maxRecDepth 16384 in
theorem pe_12_6 : ((12 : Int32) = 6) ↔ False := by decide
set_option maxRecDepth 16384 in
theorem pe_12_7 : ((12 : Int32) = 7) ↔ False := by decide
set_option maxRecDepth 16384 in
theorem pe_12_8 : ((12 : Int32) = 8) ↔ False := by decide
set_option maxRecDepth 16384 in
theorem pe_12_9 : ((12 : Int32) = 9) ↔ False := by decide
set_option maxRecDepth 16384 in
theorem pe_12_10 : ((12 : Int32) = 10) ↔ False := by decide
set_option maxRecDepth 16384 in
theorem pe_12_11 : ((12 : Int32) = 11) ↔ False := by decide
set_option maxRecDepth 16384 in
theorem pe_12_13 : ((12 : Int32) = 13) ↔ False := by decide
set_option maxRecDepth 16384 in
theorem pe_12_14 : ((12 : Int32) = 14) ↔ False := by decide
set_option maxRecDepth 16384 in
theorem pe_13_0 : ((13 : Int32) = 0) ↔ False := by decide
set_option maxRecDepth 16384 in
theorem pe_13_1 : ((13 : Int32) = 1) ↔ False := by decide
set_option maxRecDepth 16384 in
theorem pe_13_2 : ((13 : Int32) = 2) ↔ False := by decide
set_option maxRecDepth 16384 in
theorem pe_13_3 : ((13 : Int32) = 3) ↔ False := by decide
set_option maxRecDepth 16384 in
theorem pe_13_4 : ((13 : Int32) = 4) ↔ False := by decide
set_option maxRecDepth 16384 in
theorem pe_13_5 : ((13 : Int32) = 5) ↔ False := by decide
set_option maxRecDepth 16384 in
theorem pe_13_6 : ((13 : Int32) = 6) ↔ False := by decide
set_option maxRecDepth 16384 in
theorem pe_13_7 : ((13 : Int32) = 7) ↔ False := by decide
set_option maxRecDepth 16384 in
theorem pe_13_8 : ((13 : Int32) = 8) ↔ False := by decide
set_option maxRecDepth 16384 in
theorem pe_13_9 : ((13 : Int32) = 9) ↔ False := by decide
set_option maxRecDepth 16384 in
theorem pe_13_10 : ((13 : Int32) = 10) ↔ False := by decide
set_option maxRecDepth 16384 in
theorem pe_13_11 : ((13 : Int32) = 11) ↔ False := by decide
set_option maxRecDepth 16384 in
theorem pe_13_12 : ((13 : Int32) = 12) ↔ False := by decide
set_option maxRecDepth 16384 in
theorem pe_13_14 : ((13 : Int32) = 14) ↔ False := by decide
set_option maxRecDepth 16384 in
theorem pe_14_0 : ((14 : Int32) = 0) ↔ False := by decide
set_option maxRecDepth 16384 in
theorem pe_14_1 : ((14 : Int32) = 1) ↔ False := by decide
set_option maxRecDepth 16384 in
theorem pe_14_2 : ((14 : Int32) = 2) ↔ False := by decide
set_option maxRecDepth 16384 in
theorem pe_14_3 : ((14 : Int32) = 3) ↔ False := by decide
set_option maxRecDepth 16384 in
theorem pe_14_4 : ((14 : Int32) = 4) ↔ False := by decide
set_option maxRecDepth 16384 in
theorem pe_14_5 : ((14 : Int32) = 5) ↔ False := by decide
set_option maxRecDepth 16384 in
theorem pe_14_6 : ((14 : Int32) = 6) ↔ False := by decide
set_option maxRecDepth 16384 in
theorem pe_14_7 : ((14 : Int32) = 7) ↔ False := by decide
set_option maxRecDepth 16384 in
theorem pe_14_8 : ((14 : Int32) = 8) ↔ False := by decide
set_option maxRecDepth 16384 in
theorem pe_14_9 : ((14 : Int32) = 9) ↔ False := by decide
set_option maxRecDepth 16384 in
theorem pe_14_10 : ((14 : Int32) = 10) ↔ False := by decide
set_option maxRecDepth 16384 in
theorem pe_14_11 : ((14 : Int32) = 11) ↔ False := by decide
set_option maxRecDepth 16384 in
theorem pe_14_12 : ((14 : Int32) = 12) ↔ False := by decide
set_option maxRecDepth 16384 in
theorem pe_14_13 : ((14 : Int32) = 13) ↔ False := by decide
