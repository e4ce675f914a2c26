set_option maxRecDepth 20000 in
theorem ggX7_readTerm_X7_readTest : GoodIn wsX7_readTerm wsX7_readTest := goodIn_r _ [7, 2, 8, 9, 10, 11, 12, 13, 14, 6, 15, 16, 17, 18, 19, 20, 21, 22, 23, 24, 25, 26, 27, 28, 29, 30, 31, 32, 33, 34, 35, 36, 37, 38, 39, 40, 41, 42, 43, 44, 45, 46, 47, 48, 49, 50, 51, 52, 53, 54, 55, 56, 57, 58, 59, 60, 61, 62, 63, 64, 65, 66, 67, 68, 91, 92, 93, 94] (by decide +kernel) (by decide +kernel)
set_option maxRecDepth 20000 in
theorem gX7_readTerm_X7_readTest : GoodIn wsX7_readTerm (wsV RX7 48 RX7 yX7_readTest wsX7_readTest) := goodIn_app (goodIn_of _ (by decide +kernel)) ggX7_readTerm_X7_readTest
set_option maxRecDepth 20000 in
theorem ggX7_readTerm_X7_signHere : GoodIn wsX7_readTerm wsX7_signHere := goodIn_r _ [15, 2, 8, 9, 91, 92, 93, 94] (by decide +kernel) (by decide +kernel)
set_option maxRecDepth 20000 in
theorem gX7_readTerm_X7_signHere : GoodIn wsX7_readTerm (wsV RX7 40 RX7 yX7_signHere wsX7_signHere) := goodIn_app (goodIn_of _ (by decide +kernel)) ggX7_readTerm_X7_signHere
set_option maxRecDepth 20000 in
theorem ggX7_readTerm_X7_readNumber : GoodIn wsX7_readTerm wsX7_readNumber := goodIn_r _ [72, 2, 8, 9, 12, 13, 14, 6, 15, 91, 92, 93, 94] (by decide +kernel) (by decide +kernel)
set_option maxRecDepth 20000 in
theorem gX7_readTerm_X7_readNumber : GoodIn wsX7_readTerm (wsV RX7 58 RX7 yX7_readNumber wsX7_readNumber) := goodIn_app (goodIn_of _ (by decide +kernel)) ggX7_readTerm_X7_readNumber
set_option maxRecDepth 20000 in
theorem ggX7_readTerm_X7_readPoints : GoodIn wsX7_readTerm wsX7_readPoints := goodIn_r _ [76, 2, 12, 13, 14, 6, 15, 8, 9, 69, 70, 71, 72, 77, 78, 79, 80, 81, 82, 83, 84, 85, 86, 87, 88, 89, 90, 91, 92, 93, 94, 95, 96, 97, 98, 99] (by decide +kernel) (by decide +kernel)
set_option maxRecDepth 20000 in
theorem gX7_readTerm_X7_readPoints : GoodIn wsX7_readTerm (wsV RX7 61 RX7 yX7_readPoints wsX7_readPoints) := goodIn_app (goodIn_of _ (by decide +kernel)) ggX7_readTerm_X7_readPoints
theorem dX7_readTerm_0 : decode cX7_readTerm 0 = .ok (.aload_n 0, 1) := by decide +kernel
theorem dX7_readTerm_1 : decode cX7_readTerm 1 = .ok (.invokevirtual 48, 3) := by decide +kernel
theorem dX7_readTerm_4 : decode cX7_readTerm 4 = .ok (.astore_n 2, 1) := by decide +kernel
theorem dX7_readTerm_5 : decode cX7_readTerm 5 = .ok (.aload_n 2, 1) := by decide +kernel
theorem dX7_readTerm_6 : decode cX7_readTerm 6 = .ok (.ifnonnull 5, 3) := by decide +kernel
theorem dX7_readTerm_9 : decode cX7_readTerm 9 = .ok (.iconst 0, 1) := by decide +kernel
theorem dX7_readTerm_10 : decode cX7_readTerm 10 = .ok (.ireturn, 1) := by decide +kernel
theorem dX7_readTerm_11 : decode cX7_readTerm 11 = .ok (.iconst (-1), 1) := by decide +kernel
theorem dX7_readTerm_12 : decode cX7_readTerm 12 = .ok (.istore_n 3, 1) := by decide +kernel
theorem dX7_readTerm_13 : decode cX7_readTerm 13 = .ok (.iconst 0, 1) := by decide +kernel
theorem dX7_readTerm_14 : decode cX7_readTerm 14 = .ok (.istore 4, 2) := by decide +kernel
theorem dX7_readTerm_16 : decode cX7_readTerm 16 = .ok (.aload_n 2, 1) := by decide +kernel
theorem dX7_readTerm_17 : decode cX7_readTerm 17 = .ok (.getfield 52, 3) := by decide +kernel
theorem dX7_readTerm_20 : decode cX7_readTerm 20 = .ok (.ifCond .eq 52, 3) := by decide +kernel
theorem dX7_readTerm_23 : decode cX7_readTerm 23 = .ok (.aload_n 0, 1) := by decide +kernel
theorem dX7_readTerm_24 : decode cX7_readTerm 24 = .ok (.invokevirtual 40, 3) := by decide +kernel
theorem dX7_readTerm_27 : decode cX7_readTerm 27 = .ok (.istore_n 3, 1) := by decide +kernel
theorem dX7_readTerm_28 : decode cX7_readTerm 28 = .ok (.iload_n 3, 1) := by decide +kernel
theorem dX7_readTerm_29 : decode cX7_readTerm 29 = .ok (.bipush 60, 2) := by decide +kernel
theorem dX7_readTerm_31 : decode cX7_readTerm 31 = .ok (.if_icmp .eq 17, 3) := by decide +kernel
theorem dX7_readTerm_34 : decode cX7_readTerm 34 = .ok (.iload_n 3, 1) := by decide +kernel
theorem dX7_readTerm_35 : decode cX7_readTerm 35 = .ok (.bipush 62, 2) := by decide +kernel
theorem dX7_readTerm_37 : decode cX7_readTerm 37 = .ok (.if_icmp .eq 11, 3) := by decide +kernel
theorem dX7_readTerm_40 : decode cX7_readTerm 40 = .ok (.iload_n 3, 1) := by decide +kernel
theorem dX7_readTerm_41 : decode cX7_readTerm 41 = .ok (.bipush 61, 2) := by decide +kernel
theorem dX7_readTerm_43 : decode cX7_readTerm 43 = .ok (.if_icmp .eq 5, 3) := by decide +kernel
theorem dX7_readTerm_46 : decode cX7_readTerm 46 = .ok (.iconst 0, 1) := by decide +kernel
theorem dX7_readTerm_47 : decode cX7_readTerm 47 = .ok (.ireturn, 1) := by decide +kernel
theorem dX7_readTerm_48 : decode cX7_readTerm 48 = .ok (.aload_n 0, 1) := by decide +kernel
theorem dX7_readTerm_49 : decode cX7_readTerm 49 = .ok (.dup, 1) := by decide +kernel
theorem dX7_readTerm_50 : decode cX7_readTerm 50 = .ok (.getfield 19, 3) := by decide +kernel
theorem dX7_readTerm_53 : decode cX7_readTerm 53 = .ok (.iconst 1, 1) := by decide +kernel
theorem dX7_readTerm_54 : decode cX7_readTerm 54 = .ok (.iadd, 1) := by decide +kernel
theorem dX7_readTerm_55 : decode cX7_readTerm 55 = .ok (.putfield 19, 3) := by decide +kernel
theorem dX7_readTerm_58 : decode cX7_readTerm 58 = .ok (.aload_n 0, 1) := by decide +kernel
theorem dX7_readTerm_59 : decode cX7_readTerm 59 = .ok (.invokevirtual 58, 3) := by decide +kernel
theorem dX7_readTerm_62 : decode cX7_readTerm 62 = .ok (.istore 4, 2) := by decide +kernel
theorem dX7_readTerm_64 : decode cX7_readTerm 64 = .ok (.iload 4, 2) := by decide +kernel
theorem dX7_readTerm_66 : decode cX7_readTerm 66 = .ok (.iconst (-1), 1) := by decide +kernel
theorem dX7_readTerm_67 : decode cX7_readTerm 67 = .ok (.if_icmp .ne 5, 3) := by decide +kernel
theorem dX7_readTerm_70 : decode cX7_readTerm 70 = .ok (.iconst 0, 1) := by decide +kernel
theorem dX7_readTerm_71 : decode cX7_readTerm 71 = .ok (.ireturn, 1) := by decide +kernel
theorem dX7_readTerm_72 : decode cX7_readTerm 72 = .ok (.aload_n 0, 1) := by decide +kernel
theorem dX7_readTerm_73 : decode cX7_readTerm 73 = .ok (.aload_n 1, 1) := by decide +kernel
theorem dX7_readTerm_74 : decode cX7_readTerm 74 = .ok (.aload_n 2, 1) := by decide +kernel
theorem dX7_readTerm_75 : decode cX7_readTerm 75 = .ok (.iload_n 3, 1) := by decide +kernel
theorem dX7_readTerm_76 : decode cX7_readTerm 76 = .ok (.iload 4, 2) := by decide +kernel
theorem dX7_readTerm_78 : decode cX7_readTerm 78 = .ok (.invokevirtual 61, 3) := by decide +kernel
theorem dX7_readTerm_81 : decode cX7_readTerm 81 = .ok (.ireturn, 1) := by decide +kernel
set_option maxRecDepth 20000 in
theorem ggX7_readPoints_X7_signHere : GoodIn wsX7_readPoints wsX7_signHere := goodIn_r _ [6, 1, 7, 8, 27, 28, 29, 30] (by decide +kernel) (by decide +kernel)
set_option maxRecDepth 20000 in
theorem gX7_readPoints_X7_signHere : GoodIn wsX7_readPoints (wsV RX7 40 RX7 yX7_signHere wsX7_signHere) := goodIn_app (goodIn_of _ (by decide +kernel)) ggX7_readPoints_X7_signHere
set_option maxRecDepth 20000 in
theorem ggX7_readPoints_X7_readNumber : GoodIn wsX7_readPoints wsX7_readNumber := goodIn_r _ [12, 1, 7, 8, 2, 3, 4, 5, 6, 27, 28, 29, 30] (by decide +kernel) (by decide +kernel)
set_option maxRecDepth 20000 in
theorem gX7_readPoints_X7_readNumber : GoodIn wsX7_readPoints (wsV RX7 58 RX7 yX7_readNumber wsX7_readNumber) := goodIn_app (goodIn_of _ (by decide +kernel)) ggX7_readPoints_X7_readNumber
set_option maxRecDepth 20000 in
theorem ggX7_readPoints_X0_addTerm : GoodIn wsX7_readPoints wsX0_addTerm := goodIn_r _ [17, 18, 19, 20, 21, 22, 23, 24, 25, 16, 26, 31, 32, 33, 34, 35] (by decide +kernel) (by decide +kernel)
set_option maxRecDepth 20000 in
theorem gX7_readPoints_X0_addTerm : GoodIn wsX7_readPoints (wsV RX7 65 RX0 yX0_addTerm wsX0_addTerm) := goodIn_app (goodIn_of _ (by decide +kernel)) ggX7_readPoints_X0_addTerm
theorem dX7_readPoints_0 : decode cX7_readPoints 0 = .ok (.aload_n 0, 1) := by decide +kernel
theorem dX7_readPoints_1 : decode cX7_readPoints 1 = .ok (.invokevirtual 40, 3) := by decide +kernel
theorem dX7_readPoints_4 : decode cX7_readPoints 4 = .ok (.istore 5, 2) := by decide +kernel
theorem dX7_readPoints_6 : decode cX7_readPoints 6 = .ok (.iload 5, 2) := by decide +kernel
theorem dX7_readPoints_8 : decode cX7_readPoints 8 = .ok (.bipush 43, 2) := by decide +kernel
theorem dX7_readPoints_10 : decode cX7_readPoints 10 = .ok (.if_icmp .eq 12, 3) := by decide +kernel
theorem dX7_readPoints_13 : decode cX7_readPoints 13 = .ok (.iload 5, 2) := by decide +kernel
theorem dX7_readPoints_15 : decode cX7_readPoints 15 = .ok (.bipush 45, 2) := by decide +kernel
theorem dX7_readPoints_17 : decode cX7_readPoints 17 = .ok (.if_icmp .eq 5, 3) := by decide +kernel
theorem dX7_readPoints_20 : decode cX7_readPoints 20 = .ok (.iconst 0, 1) := by decide +kernel
theorem dX7_readPoints_21 : decode cX7_readPoints 21 = .ok (.ireturn, 1) := by decide +kernel
theorem dX7_readPoints_22 : decode cX7_readPoints 22 = .ok (.aload_n 0, 1) := by decide +kernel
theorem dX7_readPoints_23 : decode cX7_readPoints 23 = .ok (.dup, 1) := by decide +kernel
theorem dX7_readPoints_24 : decode cX7_readPoints 24 = .ok (.getfield 19, 3) := by decide +kernel
theorem dX7_readPoints_27 : decode cX7_readPoints 27 = .ok (.iconst 1, 1) := by decide +kernel
theorem dX7_readPoints_28 : decode cX7_readPoints 28 = .ok (.iadd, 1) := by decide +kernel
theorem dX7_readPoints_29 : decode cX7_readPoints 29 = .ok (.putfield 19, 3) := by decide +kernel
theorem dX7_readPoints_32 : decode cX7_readPoints 32 = .ok (.aload_n 0, 1) := by decide +kernel
theorem dX7_readPoints_33 : decode cX7_readPoints 33 = .ok (.invokevirtual 58, 3) := by decide +kernel
theorem dX7_readPoints_36 : decode cX7_readPoints 36 = .ok (.istore 6, 2) := by decide +kernel
theorem dX7_readPoints_38 : decode cX7_readPoints 38 = .ok (.iload 6, 2) := by decide +kernel
theorem dX7_readPoints_40 : decode cX7_readPoints 40 = .ok (.iconst (-1), 1) := by decide +kernel
theorem dX7_readPoints_41 : decode cX7_readPoints 41 = .ok (.if_icmp .ne 5, 3) := by decide +kernel
theorem dX7_readPoints_44 : decode cX7_readPoints 44 = .ok (.iconst 0, 1) := by decide +kernel
theorem dX7_readPoints_45 : decode cX7_readPoints 45 = .ok (.ireturn, 1) := by decide +kernel
theorem dX7_readPoints_46 : decode cX7_readPoints 46 = .ok (.aload_n 1, 1) := by decide +kernel
theorem dX7_readPoints_47 : decode cX7_readPoints 47 = .ok (.aload_n 2, 1) := by decide +kernel
theorem dX7_readPoints_48 : decode cX7_readPoints 48 = .ok (.iload_n 3, 1) := by decide +kernel
theorem dX7_readPoints_49 : decode cX7_readPoints 49 = .ok (.iload 4, 2) := by decide +kernel
theorem dX7_readPoints_51 : decode cX7_readPoints 51 = .ok (.iload 5, 2) := by decide +kernel
theorem dX7_readPoints_53 : decode cX7_readPoints 53 = .ok (.bipush 43, 2) := by decide +kernel
theorem dX7_readPoints_55 : decode cX7_readPoints 55 = .ok (.if_icmp .ne 8, 3) := by decide +kernel
theorem dX7_readPoints_58 : decode cX7_readPoints 58 = .ok (.iload 6, 2) := by decide +kernel
theorem dX7_readPoints_60 : decode cX7_readPoints 60 = .ok (.goto 6, 3) := by decide +kernel
theorem dX7_readPoints_63 : decode cX7_readPoints 63 = .ok (.iload 6, 2) := by decide +kernel
theorem dX7_readPoints_65 : decode cX7_readPoints 65 = .ok (.ineg, 1) := by decide +kernel
theorem dX7_readPoints_66 : decode cX7_readPoints 66 = .ok (.invokevirtual 65, 3) := by decide +kernel
theorem dX7_readPoints_69 : decode cX7_readPoints 69 = .ok (.iconst 1, 1) := by decide +kernel
theorem dX7_readPoints_70 : decode cX7_readPoints 70 = .ok (.ireturn, 1) := by decide +kernel
theorem dX7_signHere_0 : decode cX7_signHere 0 = .ok (.aload_n 0, 1) := by decide +kernel
theorem dX7_signHere_1 : decode cX7_signHere 1 = .ok (.getfield 19, 3) := by decide +kernel
theorem dX7_signHere_4 : decode cX7_signHere 4 = .ok (.aload_n 0, 1) := by decide +kernel
theorem dX7_signHere_5 : decode cX7_signHere 5 = .ok (.getfield 22, 3) := by decide +kernel
theorem dX7_signHere_8 : decode cX7_signHere 8 = .ok (.if_icmp .ge 30, 3) := by decide +kernel
theorem dX7_signHere_11 : decode cX7_signHere 11 = .ok (.aload_n 0, 1) := by decide +kernel
theorem dX7_signHere_12 : decode cX7_signHere 12 = .ok (.getfield 11, 3) := by decide +kernel
theorem dX7_signHere_15 : decode cX7_signHere 15 = .ok (.aload_n 0, 1) := by decide +kernel
theorem dX7_signHere_16 : decode cX7_signHere 16 = .ok (.getfield 19, 3) := by decide +kernel
theorem dX7_signHere_19 : decode cX7_signHere 19 = .ok (.iaload, 1) := by decide +kernel
theorem dX7_signHere_20 : decode cX7_signHere 20 = .ok (.bipush 32, 2) := by decide +kernel
theorem dX7_signHere_22 : decode cX7_signHere 22 = .ok (.if_icmp .ne 16, 3) := by decide +kernel
theorem dX7_signHere_25 : decode cX7_signHere 25 = .ok (.aload_n 0, 1) := by decide +kernel
theorem dX7_signHere_26 : decode cX7_signHere 26 = .ok (.dup, 1) := by decide +kernel
theorem dX7_signHere_27 : decode cX7_signHere 27 = .ok (.getfield 19, 3) := by decide +kernel
theorem dX7_signHere_30 : decode cX7_signHere 30 = .ok (.iconst 1, 1) := by decide +kernel
theorem dX7_signHere_31 : decode cX7_signHere 31 = .ok (.iadd, 1) := by decide +kernel
theorem dX7_signHere_32 : decode cX7_signHere 32 = .ok (.putfield 19, 3) := by decide +kernel
theorem dX7_signHere_35 : decode cX7_signHere 35 = .ok (.goto (-35), 3) := by decide +kernel
theorem dX7_signHere_38 : decode cX7_signHere 38 = .ok (.aload_n 0, 1) := by decide +kernel
theorem dX7_signHere_39 : decode cX7_signHere 39 = .ok (.getfield 19, 3) := by decide +kernel
theorem dX7_signHere_42 : decode cX7_signHere 42 = .ok (.aload_n 0, 1) := by decide +kernel
theorem dX7_signHere_43 : decode cX7_signHere 43 = .ok (.getfield 22, 3) := by decide +kernel
theorem dX7_signHere_46 : decode cX7_signHere 46 = .ok (.if_icmp .ge 15, 3) := by decide +kernel
theorem dX7_signHere_49 : decode cX7_signHere 49 = .ok (.aload_n 0, 1) := by decide +kernel
theorem dX7_signHere_50 : decode cX7_signHere 50 = .ok (.getfield 11, 3) := by decide +kernel
theorem dX7_signHere_53 : decode cX7_signHere 53 = .ok (.aload_n 0, 1) := by decide +kernel
theorem dX7_signHere_54 : decode cX7_signHere 54 = .ok (.getfield 19, 3) := by decide +kernel
theorem dX7_signHere_57 : decode cX7_signHere 57 = .ok (.iaload, 1) := by decide +kernel
theorem dX7_signHere_58 : decode cX7_signHere 58 = .ok (.goto 4, 3) := by decide +kernel
theorem dX7_signHere_61 : decode cX7_signHere 61 = .ok (.iconst (-1), 1) := by decide +kernel
theorem dX7_signHere_62 : decode cX7_signHere 62 = .ok (.ireturn, 1) := by decide +kernel
set_option maxRecDepth 20000 in
theorem ggX7_readTest_X7_signHere : GoodIn wsX7_readTest wsX7_signHere := goodIn_r _ [10, 1, 2, 3, 64, 65, 66, 67] (by decide +kernel) (by decide +kernel)
set_option maxRecDepth 20000 in
theorem gX7_readTest_X7_signHere : GoodIn wsX7_readTest (wsV RX7 40 RX7 yX7_signHere wsX7_signHere) := goodIn_app (goodIn_of _ (by decide +kernel)) ggX7_readTest_X7_signHere
set_option maxRecDepth 20000 in
theorem ggX7_readTest_X7_isWord : GoodIn wsX7_readTest wsX7_isWord := goodIn_r _ [14, 1, 3, 15, 16, 17, 18, 19, 20, 21, 22, 23, 24, 25, 26, 27, 28, 29, 30, 31, 32, 33, 34, 35, 36, 37, 38, 39, 40, 41, 42, 43, 44, 45, 46, 47, 48, 49, 50, 51, 52, 53, 54, 55, 56, 57, 58, 59, 60, 61, 62, 63, 64, 65, 66, 67] (by decide +kernel) (by decide +kernel)
set_option maxRecDepth 20000 in
theorem gX7_readTest_X7_isWord : GoodIn wsX7_readTest (wsV RX7 77 RX7 yX7_isWord wsX7_isWord) := goodIn_app (goodIn_of _ (by decide +kernel)) ggX7_readTest_X7_isWord
theorem dX7_readTest_0 : decode cX7_readTest 0 = .ok (.aload_n 0, 1) := by decide +kernel
theorem dX7_readTest_1 : decode cX7_readTest 1 = .ok (.invokevirtual 40, 3) := by decide +kernel
theorem dX7_readTest_4 : decode cX7_readTest 4 = .ok (.pop, 1) := by decide +kernel
theorem dX7_readTest_5 : decode cX7_readTest 5 = .ok (.aload_n 0, 1) := by decide +kernel
theorem dX7_readTest_6 : decode cX7_readTest 6 = .ok (.getfield 19, 3) := by decide +kernel
theorem dX7_readTest_9 : decode cX7_readTest 9 = .ok (.istore_n 1, 1) := by decide +kernel
theorem dX7_readTest_10 : decode cX7_readTest 10 = .ok (.iload_n 1, 1) := by decide +kernel
theorem dX7_readTest_11 : decode cX7_readTest 11 = .ok (.aload_n 0, 1) := by decide +kernel
theorem dX7_readTest_12 : decode cX7_readTest 12 = .ok (.getfield 22, 3) := by decide +kernel
theorem dX7_readTest_15 : decode cX7_readTest 15 = .ok (.if_icmp .ge 31, 3) := by decide +kernel
theorem dX7_readTest_18 : decode cX7_readTest 18 = .ok (.aload_n 0, 1) := by decide +kernel
theorem dX7_readTest_19 : decode cX7_readTest 19 = .ok (.getfield 11, 3) := by decide +kernel
theorem dX7_readTest_22 : decode cX7_readTest 22 = .ok (.iload_n 1, 1) := by decide +kernel
theorem dX7_readTest_23 : decode cX7_readTest 23 = .ok (.iaload, 1) := by decide +kernel
theorem dX7_readTest_24 : decode cX7_readTest 24 = .ok (.bipush 97, 2) := by decide +kernel
theorem dX7_readTest_26 : decode cX7_readTest 26 = .ok (.if_icmp .lt 20, 3) := by decide +kernel
theorem dX7_readTest_29 : decode cX7_readTest 29 = .ok (.aload_n 0, 1) := by decide +kernel
theorem dX7_readTest_30 : decode cX7_readTest 30 = .ok (.getfield 11, 3) := by decide +kernel
theorem dX7_readTest_33 : decode cX7_readTest 33 = .ok (.iload_n 1, 1) := by decide +kernel
theorem dX7_readTest_34 : decode cX7_readTest 34 = .ok (.iaload, 1) := by decide +kernel
theorem dX7_readTest_35 : decode cX7_readTest 35 = .ok (.bipush 122, 2) := by decide +kernel
theorem dX7_readTest_37 : decode cX7_readTest 37 = .ok (.if_icmp .gt 9, 3) := by decide +kernel
theorem dX7_readTest_40 : decode cX7_readTest 40 = .ok (.iinc 1 1, 3) := by decide +kernel
theorem dX7_readTest_43 : decode cX7_readTest 43 = .ok (.goto (-33), 3) := by decide +kernel
theorem dX7_readTest_46 : decode cX7_readTest 46 = .ok (.iconst 0, 1) := by decide +kernel
theorem dX7_readTest_47 : decode cX7_readTest 47 = .ok (.istore_n 2, 1) := by decide +kernel
theorem dX7_readTest_48 : decode cX7_readTest 48 = .ok (.iload_n 2, 1) := by decide +kernel
theorem dX7_readTest_49 : decode cX7_readTest 49 = .ok (.getstatic 69, 3) := by decide +kernel
theorem dX7_readTest_52 : decode cX7_readTest 52 = .ok (.arraylength, 1) := by decide +kernel
theorem dX7_readTest_53 : decode cX7_readTest 53 = .ok (.if_icmp .ge 36, 3) := by decide +kernel
theorem dX7_readTest_56 : decode cX7_readTest 56 = .ok (.aload_n 0, 1) := by decide +kernel
theorem dX7_readTest_57 : decode cX7_readTest 57 = .ok (.getstatic 69, 3) := by decide +kernel
theorem dX7_readTest_60 : decode cX7_readTest 60 = .ok (.iload_n 2, 1) := by decide +kernel
theorem dX7_readTest_61 : decode cX7_readTest 61 = .ok (.aaload, 1) := by decide +kernel
theorem dX7_readTest_62 : decode cX7_readTest 62 = .ok (.getfield 73, 3) := by decide +kernel
theorem dX7_readTest_65 : decode cX7_readTest 65 = .ok (.iload_n 1, 1) := by decide +kernel
theorem dX7_readTest_66 : decode cX7_readTest 66 = .ok (.invokevirtual 77, 3) := by decide +kernel
theorem dX7_readTest_69 : decode cX7_readTest 69 = .ok (.ifCond .eq 14, 3) := by decide +kernel
theorem dX7_readTest_72 : decode cX7_readTest 72 = .ok (.aload_n 0, 1) := by decide +kernel
theorem dX7_readTest_73 : decode cX7_readTest 73 = .ok (.iload_n 1, 1) := by decide +kernel
theorem dX7_readTest_74 : decode cX7_readTest 74 = .ok (.putfield 19, 3) := by decide +kernel
theorem dX7_readTest_77 : decode cX7_readTest 77 = .ok (.getstatic 69, 3) := by decide +kernel
theorem dX7_readTest_80 : decode cX7_readTest 80 = .ok (.iload_n 2, 1) := by decide +kernel
theorem dX7_readTest_81 : decode cX7_readTest 81 = .ok (.aaload, 1) := by decide +kernel
theorem dX7_readTest_82 : decode cX7_readTest 82 = .ok (.areturn, 1) := by decide +kernel
theorem dX7_readTest_83 : decode cX7_readTest 83 = .ok (.iinc 2 1, 3) := by decide +kernel
theorem dX7_readTest_86 : decode cX7_readTest 86 = .ok (.goto (-38), 3) := by decide +kernel
theorem dX7_readTest_89 : decode cX7_readTest 89 = .ok (.aconst_null, 1) := by decide +kernel
theorem dX7_readTest_90 : decode cX7_readTest 90 = .ok (.areturn, 1) := by decide +kernel
set_option maxRecDepth 20000 in
theorem ggX7_isWord_J0_length_8abf5 : GoodIn wsX7_isWord wsJ0_length_8abf5 := goodIn_r _ [7, 8, 9, 10, 11, 6, 12, 13, 14] (by decide +kernel) (by decide +kernel)
set_option maxRecDepth 20000 in
theorem gX7_isWord_J0_length_8abf5 : GoodIn wsX7_isWord (wsV RX7 81 RJ0 yJ0_length_8abf5 wsJ0_length_8abf5) := goodIn_app (goodIn_of _ (by decide +kernel)) ggX7_isWord_J0_length_8abf5
set_option maxRecDepth 20000 in
theorem ggX7_isWord_J0_charAt_5068e : GoodIn wsX7_isWord wsJ0_charAt_5068e := goodIn_r _ [18, 8, 19, 20, 21, 6, 22, 13, 14, 23, 24, 25, 26, 27, 28, 29, 30, 31, 32, 33, 34, 35, 36, 37, 38, 39, 40, 41, 42, 43, 44, 45, 46, 47, 48, 49, 50, 51] (by decide +kernel) (by decide +kernel)
set_option maxRecDepth 20000 in
theorem gX7_isWord_J0_charAt_5068e : GoodIn wsX7_isWord (wsV RX7 85 RJ0 yJ0_charAt_5068e wsJ0_charAt_5068e) := goodIn_app (goodIn_of _ (by decide +kernel)) ggX7_isWord_J0_charAt_5068e
theorem dX7_isWord_0 : decode cX7_isWord 0 = .ok (.aload_n 1, 1) := by decide +kernel
theorem dX7_isWord_1 : decode cX7_isWord 1 = .ok (.invokevirtual 81, 3) := by decide +kernel
theorem dX7_isWord_4 : decode cX7_isWord 4 = .ok (.iload_n 2, 1) := by decide +kernel
theorem dX7_isWord_5 : decode cX7_isWord 5 = .ok (.aload_n 0, 1) := by decide +kernel
theorem dX7_isWord_6 : decode cX7_isWord 6 = .ok (.getfield 19, 3) := by decide +kernel
theorem dX7_isWord_9 : decode cX7_isWord 9 = .ok (.isub, 1) := by decide +kernel
theorem dX7_isWord_10 : decode cX7_isWord 10 = .ok (.if_icmp .eq 5, 3) := by decide +kernel
theorem dX7_isWord_13 : decode cX7_isWord 13 = .ok (.iconst 0, 1) := by decide +kernel
theorem dX7_isWord_14 : decode cX7_isWord 14 = .ok (.ireturn, 1) := by decide +kernel
theorem dX7_isWord_15 : decode cX7_isWord 15 = .ok (.iconst 0, 1) := by decide +kernel
theorem dX7_isWord_16 : decode cX7_isWord 16 = .ok (.istore_n 3, 1) := by decide +kernel
theorem dX7_isWord_17 : decode cX7_isWord 17 = .ok (.iload_n 3, 1) := by decide +kernel
theorem dX7_isWord_18 : decode cX7_isWord 18 = .ok (.aload_n 1, 1) := by decide +kernel
theorem dX7_isWord_19 : decode cX7_isWord 19 = .ok (.invokevirtual 81, 3) := by decide +kernel
theorem dX7_isWord_22 : decode cX7_isWord 22 = .ok (.if_icmp .ge 30, 3) := by decide +kernel
theorem dX7_isWord_25 : decode cX7_isWord 25 = .ok (.aload_n 0, 1) := by decide +kernel
theorem dX7_isWord_26 : decode cX7_isWord 26 = .ok (.getfield 11, 3) := by decide +kernel
theorem dX7_isWord_29 : decode cX7_isWord 29 = .ok (.aload_n 0, 1) := by decide +kernel
theorem dX7_isWord_30 : decode cX7_isWord 30 = .ok (.getfield 19, 3) := by decide +kernel
theorem dX7_isWord_33 : decode cX7_isWord 33 = .ok (.iload_n 3, 1) := by decide +kernel
theorem dX7_isWord_34 : decode cX7_isWord 34 = .ok (.iadd, 1) := by decide +kernel
theorem dX7_isWord_35 : decode cX7_isWord 35 = .ok (.iaload, 1) := by decide +kernel
theorem dX7_isWord_36 : decode cX7_isWord 36 = .ok (.aload_n 1, 1) := by decide +kernel
theorem dX7_isWord_37 : decode cX7_isWord 37 = .ok (.iload_n 3, 1) := by decide +kernel
theorem dX7_isWord_38 : decode cX7_isWord 38 = .ok (.invokevirtual 85, 3) := by decide +kernel
theorem dX7_isWord_41 : decode cX7_isWord 41 = .ok (.if_icmp .eq 5, 3) := by decide +kernel
theorem dX7_isWord_44 : decode cX7_isWord 44 = .ok (.iconst 0, 1) := by decide +kernel
theorem dX7_isWord_45 : decode cX7_isWord 45 = .ok (.ireturn, 1) := by decide +kernel
theorem dX7_isWord_46 : decode cX7_isWord 46 = .ok (.iinc 3 1, 3) := by decide +kernel
theorem dX7_isWord_49 : decode cX7_isWord 49 = .ok (.goto (-32), 3) := by decide +kernel
theorem dX7_isWord_52 : decode cX7_isWord 52 = .ok (.iconst 1, 1) := by decide +kernel
theorem dX7_isWord_53 : decode cX7_isWord 53 = .ok (.ireturn, 1) := by decide +kernel
set_option maxRecDepth 20000 in
theorem ggX7_readNumber_X7_signHere : GoodIn wsX7_readNumber wsX7_signHere := goodIn_r _ [8, 1, 2, 3, 9, 10, 11, 12] (by decide +kernel) (by decide +kernel)
set_option maxRecDepth 20000 in
theorem gX7_readNumber_X7_signHere : GoodIn wsX7_readNumber (wsV RX7 40 RX7 yX7_signHere wsX7_signHere) := goodIn_app (goodIn_of _ (by decide +kernel)) ggX7_readNumber_X7_signHere
theorem dX7_readNumber_0 : decode cX7_readNumber 0 = .ok (.aload_n 0, 1) := by decide +kernel
theorem dX7_readNumber_1 : decode cX7_readNumber 1 = .ok (.invokevirtual 40, 3) := by decide +kernel
theorem dX7_readNumber_4 : decode cX7_readNumber 4 = .ok (.pop, 1) := by decide +kernel
theorem dX7_readNumber_5 : decode cX7_readNumber 5 = .ok (.iconst 0, 1) := by decide +kernel
theorem dX7_readNumber_6 : decode cX7_readNumber 6 = .ok (.istore_n 1, 1) := by decide +kernel
theorem dX7_readNumber_7 : decode cX7_readNumber 7 = .ok (.iconst 0, 1) := by decide +kernel
theorem dX7_readNumber_8 : decode cX7_readNumber 8 = .ok (.istore_n 2, 1) := by decide +kernel
theorem dX7_readNumber_9 : decode cX7_readNumber 9 = .ok (.iload_n 2, 1) := by decide +kernel
theorem dX7_readNumber_10 : decode cX7_readNumber 10 = .ok (.iconst 5, 1) := by decide +kernel
theorem dX7_readNumber_11 : decode cX7_readNumber 11 = .ok (.if_icmp .ge 76, 3) := by decide +kernel
theorem dX7_readNumber_14 : decode cX7_readNumber 14 = .ok (.aload_n 0, 1) := by decide +kernel
theorem dX7_readNumber_15 : decode cX7_readNumber 15 = .ok (.getfield 19, 3) := by decide +kernel
theorem dX7_readNumber_18 : decode cX7_readNumber 18 = .ok (.aload_n 0, 1) := by decide +kernel
theorem dX7_readNumber_19 : decode cX7_readNumber 19 = .ok (.getfield 22, 3) := by decide +kernel
theorem dX7_readNumber_22 : decode cX7_readNumber 22 = .ok (.if_icmp .ge 65, 3) := by decide +kernel
theorem dX7_readNumber_25 : decode cX7_readNumber 25 = .ok (.aload_n 0, 1) := by decide +kernel
theorem dX7_readNumber_26 : decode cX7_readNumber 26 = .ok (.getfield 11, 3) := by decide +kernel
theorem dX7_readNumber_29 : decode cX7_readNumber 29 = .ok (.aload_n 0, 1) := by decide +kernel
theorem dX7_readNumber_30 : decode cX7_readNumber 30 = .ok (.getfield 19, 3) := by decide +kernel
theorem dX7_readNumber_33 : decode cX7_readNumber 33 = .ok (.iaload, 1) := by decide +kernel
theorem dX7_readNumber_34 : decode cX7_readNumber 34 = .ok (.bipush 48, 2) := by decide +kernel
theorem dX7_readNumber_36 : decode cX7_readNumber 36 = .ok (.if_icmp .lt 51, 3) := by decide +kernel
theorem dX7_readNumber_39 : decode cX7_readNumber 39 = .ok (.aload_n 0, 1) := by decide +kernel
theorem dX7_readNumber_40 : decode cX7_readNumber 40 = .ok (.getfield 11, 3) := by decide +kernel
theorem dX7_readNumber_43 : decode cX7_readNumber 43 = .ok (.aload_n 0, 1) := by decide +kernel
theorem dX7_readNumber_44 : decode cX7_readNumber 44 = .ok (.getfield 19, 3) := by decide +kernel
theorem dX7_readNumber_47 : decode cX7_readNumber 47 = .ok (.iaload, 1) := by decide +kernel
theorem dX7_readNumber_48 : decode cX7_readNumber 48 = .ok (.bipush 57, 2) := by decide +kernel
theorem dX7_readNumber_50 : decode cX7_readNumber 50 = .ok (.if_icmp .gt 37, 3) := by decide +kernel
theorem dX7_readNumber_53 : decode cX7_readNumber 53 = .ok (.iload_n 1, 1) := by decide +kernel
theorem dX7_readNumber_54 : decode cX7_readNumber 54 = .ok (.bipush 10, 2) := by decide +kernel
theorem dX7_readNumber_56 : decode cX7_readNumber 56 = .ok (.imul, 1) := by decide +kernel
theorem dX7_readNumber_57 : decode cX7_readNumber 57 = .ok (.aload_n 0, 1) := by decide +kernel
theorem dX7_readNumber_58 : decode cX7_readNumber 58 = .ok (.getfield 11, 3) := by decide +kernel
theorem dX7_readNumber_61 : decode cX7_readNumber 61 = .ok (.aload_n 0, 1) := by decide +kernel
theorem dX7_readNumber_62 : decode cX7_readNumber 62 = .ok (.getfield 19, 3) := by decide +kernel
theorem dX7_readNumber_65 : decode cX7_readNumber 65 = .ok (.iaload, 1) := by decide +kernel
theorem dX7_readNumber_66 : decode cX7_readNumber 66 = .ok (.iadd, 1) := by decide +kernel
theorem dX7_readNumber_67 : decode cX7_readNumber 67 = .ok (.bipush 48, 2) := by decide +kernel
theorem dX7_readNumber_69 : decode cX7_readNumber 69 = .ok (.isub, 1) := by decide +kernel
theorem dX7_readNumber_70 : decode cX7_readNumber 70 = .ok (.istore_n 1, 1) := by decide +kernel
theorem dX7_readNumber_71 : decode cX7_readNumber 71 = .ok (.iinc 2 1, 3) := by decide +kernel
theorem dX7_readNumber_74 : decode cX7_readNumber 74 = .ok (.aload_n 0, 1) := by decide +kernel
theorem dX7_readNumber_75 : decode cX7_readNumber 75 = .ok (.dup, 1) := by decide +kernel
theorem dX7_readNumber_76 : decode cX7_readNumber 76 = .ok (.getfield 19, 3) := by decide +kernel
theorem dX7_readNumber_79 : decode cX7_readNumber 79 = .ok (.iconst 1, 1) := by decide +kernel
theorem dX7_readNumber_80 : decode cX7_readNumber 80 = .ok (.iadd, 1) := by decide +kernel
theorem dX7_readNumber_81 : decode cX7_readNumber 81 = .ok (.putfield 19, 3) := by decide +kernel
theorem dX7_readNumber_84 : decode cX7_readNumber 84 = .ok (.goto (-75), 3) := by decide +kernel
theorem dX7_readNumber_87 : decode cX7_readNumber 87 = .ok (.iload_n 2, 1) := by decide +kernel
theorem dX7_readNumber_88 : decode cX7_readNumber 88 = .ok (.ifCond .ne 7, 3) := by decide +kernel
theorem dX7_readNumber_91 : decode cX7_readNumber 91 = .ok (.iconst (-1), 1) := by decide +kernel
theorem dX7_readNumber_92 : decode cX7_readNumber 92 = .ok (.goto 4, 3) := by decide +kernel
theorem dX7_readNumber_95 : decode cX7_readNumber 95 = .ok (.iload_n 1, 1) := by decide +kernel
theorem dX7_readNumber_96 : decode cX7_readNumber 96 = .ok (.ireturn, 1) := by decide +kernel
set_option maxRecDepth 20000 in
theorem ggX9_init_X5_init : GoodIn wsX9_init wsX5_init := goodIn_r _ [40, 41, 2, 3, 28, 42, 43, 44, 45, 46, 47, 96, 97] (by decide +kernel) (by decide +kernel)
set_option maxRecDepth 20000 in
theorem gX9_init_X5_init : GoodIn wsX9_init (wsX5_init) := ggX9_init_X5_init
set_option maxRecDepth 20000 in
theorem ggX9_init_X7_init : GoodIn wsX9_init wsX7_init := goodIn_r _ [49, 50, 2, 3, 28, 51, 52, 53, 54, 98, 99, 100, 101] (by decide +kernel) (by decide +kernel)
set_option maxRecDepth 20000 in
theorem gX9_init_X7_init_n42 : GoodIn wsX9_init (wsX7_init) := ggX9_init_X7_init
set_option maxRecDepth 20000 in
theorem ggX9_init_X2_init : GoodIn wsX9_init wsX2_init := goodIn_r _ [56, 57, 2, 3, 58, 59, 60, 61, 62, 63, 64, 65, 102, 103, 104, 105, 106, 107, 108, 109] (by decide +kernel) (by decide +kernel)
set_option maxRecDepth 20000 in
theorem gX9_init_X2_init_n49 : GoodIn wsX9_init (wsX2_init) := ggX9_init_X2_init
set_option maxRecDepth 20000 in
theorem ggX9_init_X4_init : GoodIn wsX9_init wsX4_init := goodIn_r _ [67, 68, 2, 3, 69, 28, 70, 71, 72, 73, 74, 75, 76, 77, 78, 79, 110, 111, 112, 113, 114, 115, 116, 117, 118, 119] (by decide +kernel) (by decide +kernel)
set_option maxRecDepth 20000 in
theorem gX9_init_X4_init_n56 : GoodIn wsX9_init (wsX4_init) := ggX9_init_X4_init
theorem dX9_init_0 : decode cX9_init 0 = .ok (.aload_n 0, 1) := by decide +kernel
theorem dX9_init_1 : decode cX9_init 1 = .ok (.invokespecial 1, 3) := by decide +kernel
theorem dX9_init_4 : decode cX9_init 4 = .ok (.aload_n 0, 1) := by decide +kernel
theorem dX9_init_5 : decode cX9_init 5 = .ok (.bipush 20, 2) := by decide +kernel
theorem dX9_init_7 : decode cX9_init 7 = .ok (.anewarray 9, 3) := by decide +kernel
theorem dX9_init_10 : decode cX9_init 10 = .ok (.putfield 11, 3) := by decide +kernel
theorem dX9_init_13 : decode cX9_init 13 = .ok (.aload_n 0, 1) := by decide +kernel
theorem dX9_init_14 : decode cX9_init 14 = .ok (.bipush 60, 2) := by decide +kernel
theorem dX9_init_16 : decode cX9_init 16 = .ok (.anewarray 15, 3) := by decide +kernel
theorem dX9_init_19 : decode cX9_init 19 = .ok (.putfield 17, 3) := by decide +kernel
theorem dX9_init_22 : decode cX9_init 22 = .ok (.aload_n 0, 1) := by decide +kernel
theorem dX9_init_23 : decode cX9_init 23 = .ok (.bipush 20, 2) := by decide +kernel
theorem dX9_init_25 : decode cX9_init 25 = .ok (.anewarray 21, 3) := by decide +kernel
theorem dX9_init_28 : decode cX9_init 28 = .ok (.putfield 23, 3) := by decide +kernel
theorem dX9_init_31 : decode cX9_init 31 = .ok (.aload_n 0, 1) := by decide +kernel
theorem dX9_init_32 : decode cX9_init 32 = .ok (.iconst 4, 1) := by decide +kernel
theorem dX9_init_33 : decode cX9_init 33 = .ok (.anewarray 27, 3) := by decide +kernel
theorem dX9_init_36 : decode cX9_init 36 = .ok (.putfield 29, 3) := by decide +kernel
theorem dX9_init_39 : decode cX9_init 39 = .ok (.aload_n 0, 1) := by decide +kernel
theorem dX9_init_40 : decode cX9_init 40 = .ok (.new 33, 3) := by decide +kernel
theorem dX9_init_43 : decode cX9_init 43 = .ok (.dup, 1) := by decide +kernel
theorem dX9_init_44 : decode cX9_init 44 = .ok (.invokespecial 35, 3) := by decide +kernel
theorem dX9_init_47 : decode cX9_init 47 = .ok (.putfield 36, 3) := by decide +kernel
theorem dX9_init_50 : decode cX9_init 50 = .ok (.aload_n 0, 1) := by decide +kernel
theorem dX9_init_51 : decode cX9_init 51 = .ok (.new 40, 3) := by decide +kernel
theorem dX9_init_54 : decode cX9_init 54 = .ok (.dup, 1) := by decide +kernel
theorem dX9_init_55 : decode cX9_init 55 = .ok (.invokespecial 42, 3) := by decide +kernel
theorem dX9_init_58 : decode cX9_init 58 = .ok (.putfield 43, 3) := by decide +kernel
theorem dX9_init_61 : decode cX9_init 61 = .ok (.aload_n 0, 1) := by decide +kernel
theorem dX9_init_62 : decode cX9_init 62 = .ok (.new 47, 3) := by decide +kernel
theorem dX9_init_65 : decode cX9_init 65 = .ok (.dup, 1) := by decide +kernel
theorem dX9_init_66 : decode cX9_init 66 = .ok (.invokespecial 49, 3) := by decide +kernel
theorem dX9_init_69 : decode cX9_init 69 = .ok (.putfield 50, 3) := by decide +kernel
theorem dX9_init_72 : decode cX9_init 72 = .ok (.aload_n 0, 1) := by decide +kernel
theorem dX9_init_73 : decode cX9_init 73 = .ok (.new 54, 3) := by decide +kernel
theorem dX9_init_76 : decode cX9_init 76 = .ok (.dup, 1) := by decide +kernel
theorem dX9_init_77 : decode cX9_init 77 = .ok (.invokespecial 56, 3) := by decide +kernel
theorem dX9_init_80 : decode cX9_init 80 = .ok (.putfield 57, 3) := by decide +kernel
theorem dX9_init_83 : decode cX9_init 83 = .ok (.aload_n 0, 1) := by decide +kernel
theorem dX9_init_84 : decode cX9_init 84 = .ok (.bipush 60, 2) := by decide +kernel
theorem dX9_init_86 : decode cX9_init 86 = .ok (.newarray .int, 2) := by decide +kernel
theorem dX9_init_88 : decode cX9_init 88 = .ok (.putfield 61, 3) := by decide +kernel
theorem dX9_init_91 : decode cX9_init 91 = .ok (.aload_n 0, 1) := by decide +kernel
theorem dX9_init_92 : decode cX9_init 92 = .ok (.bipush 60, 2) := by decide +kernel
theorem dX9_init_94 : decode cX9_init 94 = .ok (.newarray .int, 2) := by decide +kernel
theorem dX9_init_96 : decode cX9_init 96 = .ok (.putfield 65, 3) := by decide +kernel
theorem dX9_init_99 : decode cX9_init 99 = .ok (.aload_n 0, 1) := by decide +kernel
theorem dX9_init_100 : decode cX9_init 100 = .ok (.bipush 60, 2) := by decide +kernel
theorem dX9_init_102 : decode cX9_init 102 = .ok (.newarray .boolean, 2) := by decide +kernel
theorem dX9_init_104 : decode cX9_init 104 = .ok (.putfield 68, 3) := by decide +kernel
theorem dX9_init_107 : decode cX9_init 107 = .ok (.aload_n 0, 1) := by decide +kernel
theorem dX9_init_108 : decode cX9_init 108 = .ok (.iconst 0, 1) := by decide +kernel
theorem dX9_init_109 : decode cX9_init 109 = .ok (.putfield 72, 3) := by decide +kernel
theorem dX9_init_112 : decode cX9_init 112 = .ok (.aload_n 0, 1) := by decide +kernel
theorem dX9_init_113 : decode cX9_init 113 = .ok (.iconst 0, 1) := by decide +kernel
theorem dX9_init_114 : decode cX9_init 114 = .ok (.putfield 76, 3) := by decide +kernel
theorem dX9_init_117 : decode cX9_init 117 = .ok (.aload_n 0, 1) := by decide +kernel
theorem dX9_init_118 : decode cX9_init 118 = .ok (.iconst 0, 1) := by decide +kernel
theorem dX9_init_119 : decode cX9_init 119 = .ok (.putfield 79, 3) := by decide +kernel
theorem dX9_init_122 : decode cX9_init 122 = .ok (.aload_n 0, 1) := by decide +kernel
theorem dX9_init_123 : decode cX9_init 123 = .ok (.iconst 0, 1) := by decide +kernel
theorem dX9_init_124 : decode cX9_init 124 = .ok (.putfield 82, 3) := by decide +kernel
theorem dX9_init_127 : decode cX9_init 127 = .ok (.aload_n 0, 1) := by decide +kernel
theorem dX9_init_128 : decode cX9_init 128 = .ok (.iconst 0, 1) := by decide +kernel
theorem dX9_init_129 : decode cX9_init 129 = .ok (.putfield 85, 3) := by decide +kernel
theorem dX9_init_132 : decode cX9_init 132 = .ok (.return_, 1) := by decide +kernel
set_option maxRecDepth 20000 in
theorem ggX9_kind_X9_isWithin : GoodIn wsX9_kind wsX9_isWithin := goodIn_r _ [14] (by decide +kernel) (by decide +kernel)
set_option maxRecDepth 20000 in
theorem gX9_kind_X9_isWithin : GoodIn wsX9_kind (va_wsS RX9 90 yX9_isWithin wsX9_isWithin) := goodIn_app (goodIn_of _ (by decide +kernel)) ggX9_kind_X9_isWithin
set_option maxRecDepth 20000 in
theorem ggX9_kind_X1_init : GoodIn wsX9_kind wsX1_init := goodIn_r _ [17, 18, 19, 20, 21, 22, 23, 24, 25, 42, 43, 44, 45, 46] (by decide +kernel) (by decide +kernel)
set_option maxRecDepth 20000 in
theorem gX9_kind_X1_init : GoodIn wsX9_kind (wsX1_init) := ggX9_kind_X1_init
theorem dX9_kind_0 : decode cX9_kind 0 = .ok (.iload_n 1, 1) := by decide +kernel
theorem dX9_kind_1 : decode cX9_kind 1 = .ok (.i2l, 1) := by decide +kernel
theorem dX9_kind_2 : decode cX9_kind 2 = .ok (.lconst 0, 1) := by decide +kernel
theorem dX9_kind_3 : decode cX9_kind 3 = .ok (.ldc2_w 88, 3) := by decide +kernel
theorem dX9_kind_6 : decode cX9_kind 6 = .ok (.invokestatic 90, 3) := by decide +kernel
theorem dX9_kind_9 : decode cX9_kind 9 = .ok (.ifCond .eq 25, 3) := by decide +kernel
theorem dX9_kind_12 : decode cX9_kind 12 = .ok (.iload_n 2, 1) := by decide +kernel
theorem dX9_kind_13 : decode cX9_kind 13 = .ok (.i2l, 1) := by decide +kernel
theorem dX9_kind_14 : decode cX9_kind 14 = .ok (.lconst 1, 1) := by decide +kernel
theorem dX9_kind_15 : decode cX9_kind 15 = .ok (.ldc2_w 94, 3) := by decide +kernel
theorem dX9_kind_18 : decode cX9_kind 18 = .ok (.invokestatic 90, 3) := by decide +kernel
theorem dX9_kind_21 : decode cX9_kind 21 = .ok (.ifCond .eq 13, 3) := by decide +kernel
theorem dX9_kind_24 : decode cX9_kind 24 = .ok (.iload_n 3, 1) := by decide +kernel
theorem dX9_kind_25 : decode cX9_kind 25 = .ok (.i2l, 1) := by decide +kernel
theorem dX9_kind_26 : decode cX9_kind 26 = .ok (.lconst 0, 1) := by decide +kernel
theorem dX9_kind_27 : decode cX9_kind 27 = .ok (.lconst 1, 1) := by decide +kernel
theorem dX9_kind_28 : decode cX9_kind 28 = .ok (.invokestatic 90, 3) := by decide +kernel
theorem dX9_kind_31 : decode cX9_kind 31 = .ok (.ifCond .ne 13, 3) := by decide +kernel
theorem dX9_kind_34 : decode cX9_kind 34 = .ok (.new 96, 3) := by decide +kernel
theorem dX9_kind_37 : decode cX9_kind 37 = .ok (.dup, 1) := by decide +kernel
theorem dX9_kind_38 : decode cX9_kind 38 = .ok (.ldc 98, 2) := by decide +kernel
theorem dX9_kind_40 : decode cX9_kind 40 = .ok (.invokespecial 100, 3) := by decide +kernel
theorem dX9_kind_43 : decode cX9_kind 43 = .ok (.athrow, 1) := by decide +kernel
theorem dX9_kind_44 : decode cX9_kind 44 = .ok (.iload 4, 2) := by decide +kernel
theorem dX9_kind_46 : decode cX9_kind 46 = .ok (.i2l, 1) := by decide +kernel
theorem dX9_kind_47 : decode cX9_kind 47 = .ok (.lconst 0, 1) := by decide +kernel
theorem dX9_kind_48 : decode cX9_kind 48 = .ok (.ldc2_w 103, 3) := by decide +kernel
theorem dX9_kind_51 : decode cX9_kind 51 = .ok (.invokestatic 90, 3) := by decide +kernel
theorem dX9_kind_54 : decode cX9_kind 54 = .ok (.ifCond .eq 23, 3) := by decide +kernel
theorem dX9_kind_57 : decode cX9_kind 57 = .ok (.iload 5, 2) := by decide +kernel
theorem dX9_kind_59 : decode cX9_kind 59 = .ok (.i2l, 1) := by decide +kernel
theorem dX9_kind_60 : decode cX9_kind 60 = .ok (.lconst 0, 1) := by decide +kernel
theorem dX9_kind_61 : decode cX9_kind 61 = .ok (.ldc2_w 103, 3) := by decide +kernel
theorem dX9_kind_64 : decode cX9_kind 64 = .ok (.invokestatic 90, 3) := by decide +kernel
theorem dX9_kind_67 : decode cX9_kind 67 = .ok (.ifCond .eq 10, 3) := by decide +kernel
theorem dX9_kind_70 : decode cX9_kind 70 = .ok (.iload 4, 2) := by decide +kernel
theorem dX9_kind_72 : decode cX9_kind 72 = .ok (.iload 5, 2) := by decide +kernel
theorem dX9_kind_74 : decode cX9_kind 74 = .ok (.if_icmp .le 13, 3) := by decide +kernel
theorem dX9_kind_77 : decode cX9_kind 77 = .ok (.new 96, 3) := by decide +kernel
theorem dX9_kind_80 : decode cX9_kind 80 = .ok (.dup, 1) := by decide +kernel
theorem dX9_kind_81 : decode cX9_kind 81 = .ok (.ldc 105, 2) := by decide +kernel
theorem dX9_kind_83 : decode cX9_kind 83 = .ok (.invokespecial 100, 3) := by decide +kernel
theorem dX9_kind_86 : decode cX9_kind 86 = .ok (.athrow, 1) := by decide +kernel
theorem dX9_kind_87 : decode cX9_kind 87 = .ok (.aload_n 0, 1) := by decide +kernel
theorem dX9_kind_88 : decode cX9_kind 88 = .ok (.getfield 72, 3) := by decide +kernel
theorem dX9_kind_91 : decode cX9_kind 91 = .ok (.bipush 20, 2) := by decide +kernel
theorem dX9_kind_93 : decode cX9_kind 93 = .ok (.if_icmp .lt 5, 3) := by decide +kernel
theorem dX9_kind_96 : decode cX9_kind 96 = .ok (.iconst (-1), 1) := by decide +kernel
theorem dX9_kind_97 : decode cX9_kind 97 = .ok (.ireturn, 1) := by decide +kernel
theorem dX9_kind_98 : decode cX9_kind 98 = .ok (.aload_n 0, 1) := by decide +kernel
theorem dX9_kind_99 : decode cX9_kind 99 = .ok (.getfield 11, 3) := by decide +kernel
theorem dX9_kind_102 : decode cX9_kind 102 = .ok (.aload_n 0, 1) := by decide +kernel
theorem dX9_kind_103 : decode cX9_kind 103 = .ok (.getfield 72, 3) := by decide +kernel
theorem dX9_kind_106 : decode cX9_kind 106 = .ok (.new 9, 3) := by decide +kernel
theorem dX9_kind_109 : decode cX9_kind 109 = .ok (.dup, 1) := by decide +kernel
theorem dX9_kind_110 : decode cX9_kind 110 = .ok (.iload_n 1, 1) := by decide +kernel
theorem dX9_kind_111 : decode cX9_kind 111 = .ok (.iload_n 2, 1) := by decide +kernel
theorem dX9_kind_112 : decode cX9_kind 112 = .ok (.iload_n 3, 1) := by decide +kernel
theorem dX9_kind_113 : decode cX9_kind 113 = .ok (.iconst 1, 1) := by decide +kernel
theorem dX9_kind_114 : decode cX9_kind 114 = .ok (.if_icmp .ne 7, 3) := by decide +kernel
theorem dX9_kind_117 : decode cX9_kind 117 = .ok (.iconst 1, 1) := by decide +kernel
theorem dX9_kind_118 : decode cX9_kind 118 = .ok (.goto 4, 3) := by decide +kernel
theorem dX9_kind_121 : decode cX9_kind 121 = .ok (.iconst 0, 1) := by decide +kernel
theorem dX9_kind_122 : decode cX9_kind 122 = .ok (.iload 4, 2) := by decide +kernel
theorem dX9_kind_124 : decode cX9_kind 124 = .ok (.iload 5, 2) := by decide +kernel
theorem dX9_kind_126 : decode cX9_kind 126 = .ok (.invokespecial 107, 3) := by decide +kernel
theorem dX9_kind_129 : decode cX9_kind 129 = .ok (.aastore, 1) := by decide +kernel
theorem dX9_kind_130 : decode cX9_kind 130 = .ok (.aload_n 0, 1) := by decide +kernel
theorem dX9_kind_131 : decode cX9_kind 131 = .ok (.dup, 1) := by decide +kernel
theorem dX9_kind_132 : decode cX9_kind 132 = .ok (.getfield 72, 3) := by decide +kernel
theorem dX9_kind_135 : decode cX9_kind 135 = .ok (.iconst 1, 1) := by decide +kernel
theorem dX9_kind_136 : decode cX9_kind 136 = .ok (.iadd, 1) := by decide +kernel
theorem dX9_kind_137 : decode cX9_kind 137 = .ok (.putfield 72, 3) := by decide +kernel
theorem dX9_kind_140 : decode cX9_kind 140 = .ok (.aload_n 0, 1) := by decide +kernel
theorem dX9_kind_141 : decode cX9_kind 141 = .ok (.getfield 72, 3) := by decide +kernel
theorem dX9_kind_144 : decode cX9_kind 144 = .ok (.iconst 1, 1) := by decide +kernel
theorem dX9_kind_145 : decode cX9_kind 145 = .ok (.isub, 1) := by decide +kernel
theorem dX9_kind_146 : decode cX9_kind 146 = .ok (.ireturn, 1) := by decide +kernel
set_option maxRecDepth 20000 in
theorem ggX9_lot_X9_isVintage : GoodIn wsX9_lot wsX9_isVintage := goodIn_r _ [10, 11, 12, 13, 14, 9, 15] (by decide +kernel) (by decide +kernel)
set_option maxRecDepth 20000 in
theorem gX9_lot_X9_isVintage : GoodIn wsX9_lot (va_wsS RX9 115 yX9_isVintage wsX9_isVintage) := goodIn_app (goodIn_of _ (by decide +kernel)) ggX9_lot_X9_isVintage
set_option maxRecDepth 20000 in
theorem ggX9_lot_X9_isPrice : GoodIn wsX9_lot wsX9_isPrice := goodIn_r _ [18, 19, 13, 14, 9, 15] (by decide +kernel) (by decide +kernel)
set_option maxRecDepth 20000 in
theorem gX9_lot_X9_isPrice : GoodIn wsX9_lot (va_wsS RX9 119 yX9_isPrice wsX9_isPrice) := goodIn_app (goodIn_of _ (by decide +kernel)) ggX9_lot_X9_isPrice
set_option maxRecDepth 20000 in
theorem ggX9_lot_X9_addLot : GoodIn wsX9_lot wsX9_addLot := goodIn_r _ [23, 24, 6, 25, 26, 27, 28, 29, 30, 31, 32, 33, 34, 35, 36, 37, 38, 39, 40, 41, 42, 43, 44, 45, 46, 47, 48, 49, 50, 51, 52, 53, 54, 55, 56, 57, 58, 59, 60, 61, 62, 63, 64, 65, 66, 67, 68, 69, 70, 71, 72, 73] (by decide +kernel) (by decide +kernel)
set_option maxRecDepth 20000 in
theorem gX9_lot_X9_addLot : GoodIn wsX9_lot (wsV RX9 124 RX9 yX9_addLot wsX9_addLot) := goodIn_app (goodIn_of _ (by decide +kernel)) ggX9_lot_X9_addLot
theorem dX9_lot_0 : decode cX9_lot 0 = .ok (.iload_n 1, 1) := by decide +kernel
theorem dX9_lot_1 : decode cX9_lot 1 = .ok (.ifCond .lt 11, 3) := by decide +kernel
theorem dX9_lot_4 : decode cX9_lot 4 = .ok (.iload_n 1, 1) := by decide +kernel
theorem dX9_lot_5 : decode cX9_lot 5 = .ok (.aload_n 0, 1) := by decide +kernel
theorem dX9_lot_6 : decode cX9_lot 6 = .ok (.getfield 72, 3) := by decide +kernel
theorem dX9_lot_9 : decode cX9_lot 9 = .ok (.if_icmp .lt 13, 3) := by decide +kernel
theorem dX9_lot_12 : decode cX9_lot 12 = .ok (.new 110, 3) := by decide +kernel
theorem dX9_lot_15 : decode cX9_lot 15 = .ok (.dup, 1) := by decide +kernel
theorem dX9_lot_16 : decode cX9_lot 16 = .ok (.ldc 112, 2) := by decide +kernel
theorem dX9_lot_18 : decode cX9_lot 18 = .ok (.invokespecial 114, 3) := by decide +kernel
theorem dX9_lot_21 : decode cX9_lot 21 = .ok (.athrow, 1) := by decide +kernel
theorem dX9_lot_22 : decode cX9_lot 22 = .ok (.iload_n 2, 1) := by decide +kernel
theorem dX9_lot_23 : decode cX9_lot 23 = .ok (.i2l, 1) := by decide +kernel
theorem dX9_lot_24 : decode cX9_lot 24 = .ok (.invokestatic 115, 3) := by decide +kernel
theorem dX9_lot_27 : decode cX9_lot 27 = .ok (.ifCond .eq 11, 3) := by decide +kernel
theorem dX9_lot_30 : decode cX9_lot 30 = .ok (.iload_n 3, 1) := by decide +kernel
theorem dX9_lot_31 : decode cX9_lot 31 = .ok (.i2l, 1) := by decide +kernel
theorem dX9_lot_32 : decode cX9_lot 32 = .ok (.invokestatic 119, 3) := by decide +kernel
theorem dX9_lot_35 : decode cX9_lot 35 = .ok (.ifCond .ne 13, 3) := by decide +kernel
theorem dX9_lot_38 : decode cX9_lot 38 = .ok (.new 96, 3) := by decide +kernel
theorem dX9_lot_41 : decode cX9_lot 41 = .ok (.dup, 1) := by decide +kernel
theorem dX9_lot_42 : decode cX9_lot 42 = .ok (.ldc 122, 2) := by decide +kernel
theorem dX9_lot_44 : decode cX9_lot 44 = .ok (.invokespecial 100, 3) := by decide +kernel
theorem dX9_lot_47 : decode cX9_lot 47 = .ok (.athrow, 1) := by decide +kernel
theorem dX9_lot_48 : decode cX9_lot 48 = .ok (.aload_n 0, 1) := by decide +kernel
theorem dX9_lot_49 : decode cX9_lot 49 = .ok (.getfield 76, 3) := by decide +kernel
theorem dX9_lot_52 : decode cX9_lot 52 = .ok (.bipush 60, 2) := by decide +kernel
theorem dX9_lot_54 : decode cX9_lot 54 = .ok (.if_icmp .lt 5, 3) := by decide +kernel
theorem dX9_lot_57 : decode cX9_lot 57 = .ok (.iconst (-1), 1) := by decide +kernel
theorem dX9_lot_58 : decode cX9_lot 58 = .ok (.ireturn, 1) := by decide +kernel
theorem dX9_lot_59 : decode cX9_lot 59 = .ok (.aload_n 0, 1) := by decide +kernel
theorem dX9_lot_60 : decode cX9_lot 60 = .ok (.iload_n 1, 1) := by decide +kernel
theorem dX9_lot_61 : decode cX9_lot 61 = .ok (.iload_n 2, 1) := by decide +kernel
theorem dX9_lot_62 : decode cX9_lot 62 = .ok (.iload_n 3, 1) := by decide +kernel
theorem dX9_lot_63 : decode cX9_lot 63 = .ok (.invokevirtual 124, 3) := by decide +kernel
theorem dX9_lot_66 : decode cX9_lot 66 = .ok (.ireturn, 1) := by decide +kernel
set_option maxRecDepth 20000 in
theorem ggX9_told_X9_lotAt : GoodIn wsX9_told wsX9_lotAt := goodIn_ca (goodIn_r _ [14, 15, 16, 17, 18, 40, 41, 42, 43, 44, 45, 46, 47, 48, 49, 50, 51, 52, 53, 54, 55] (by decide +kernel) (by decide +kernel)) (goodIn_sub (fun _ h => List.mem_cons_of_mem _ (List.mem_append_right _ h)) (by decide +kernel))
set_option maxRecDepth 20000 in
theorem gX9_told_X9_lotAt : GoodIn wsX9_told (wsV RX9 128 RX9 yX9_lotAt wsX9_lotAt) := goodIn_app (goodIn_of _ (by decide +kernel)) ggX9_told_X9_lotAt
set_option maxRecDepth 20000 in
theorem ggX9_told_X5_bottlesOf : GoodIn wsX9_told wsX5_bottlesOf := goodIn_r _ [23, 24, 25, 56, 57] (by decide +kernel) (by decide +kernel)
set_option maxRecDepth 20000 in
theorem gX9_told_X5_bottlesOf : GoodIn wsX9_told (wsV RX9 147 RX5 yX5_bottlesOf wsX5_bottlesOf) := goodIn_app (goodIn_of _ (by decide +kernel)) ggX9_told_X5_bottlesOf
set_option maxRecDepth 20000 in
theorem ggX9_told_X3_isOpen : GoodIn wsX9_told wsX3_isOpen := goodIn_r _ [30, 31, 32, 33, 34, 35, 36, 37, 38, 39] (by decide +kernel) (by decide +kernel)
set_option maxRecDepth 20000 in
theorem gX9_told_X3_isOpen : GoodIn wsX9_told (wsV RX9 151 RX3 yX3_isOpen wsX3_isOpen) := goodIn_app (goodIn_of _ (by decide +kernel)) ggX9_told_X3_isOpen
theorem dX9_told_0 : decode cX9_told 0 = .ok (.aload_n 0, 1) := by decide +kernel
theorem dX9_told_1 : decode cX9_told 1 = .ok (.iload_n 1, 1) := by decide +kernel
theorem dX9_told_2 : decode cX9_told 2 = .ok (.invokevirtual 128, 3) := by decide +kernel
theorem dX9_told_5 : decode cX9_told 5 = .ok (.astore_n 3, 1) := by decide +kernel
theorem dX9_told_6 : decode cX9_told 6 = .ok (.iload_n 2, 1) := by decide +kernel
theorem dX9_told_7 : decode cX9_told 7 = .ok (.tableswitch 97 0 7 #[45, 50, 55, 60, 65, 70, 79, 92], 45) := by decide +kernel
theorem dX9_told_52 : decode cX9_told 52 = .ok (.aload_n 3, 1) := by decide +kernel
theorem dX9_told_53 : decode cX9_told 53 = .ok (.getfield 132, 3) := by decide +kernel
theorem dX9_told_56 : decode cX9_told 56 = .ok (.ireturn, 1) := by decide +kernel
theorem dX9_told_57 : decode cX9_told 57 = .ok (.aload_n 3, 1) := by decide +kernel
theorem dX9_told_58 : decode cX9_told 58 = .ok (.getfield 135, 3) := by decide +kernel
theorem dX9_told_61 : decode cX9_told 61 = .ok (.ireturn, 1) := by decide +kernel
theorem dX9_told_62 : decode cX9_told 62 = .ok (.aload_n 3, 1) := by decide +kernel
theorem dX9_told_63 : decode cX9_told 63 = .ok (.getfield 138, 3) := by decide +kernel
theorem dX9_told_66 : decode cX9_told 66 = .ok (.ireturn, 1) := by decide +kernel
theorem dX9_told_67 : decode cX9_told 67 = .ok (.aload_n 3, 1) := by decide +kernel
theorem dX9_told_68 : decode cX9_told 68 = .ok (.getfield 141, 3) := by decide +kernel
theorem dX9_told_71 : decode cX9_told 71 = .ok (.ireturn, 1) := by decide +kernel
theorem dX9_told_72 : decode cX9_told 72 = .ok (.aload_n 3, 1) := by decide +kernel
theorem dX9_told_73 : decode cX9_told 73 = .ok (.getfield 144, 3) := by decide +kernel
theorem dX9_told_76 : decode cX9_told 76 = .ok (.ireturn, 1) := by decide +kernel
theorem dX9_told_77 : decode cX9_told 77 = .ok (.aload_n 0, 1) := by decide +kernel
theorem dX9_told_78 : decode cX9_told 78 = .ok (.getfield 36, 3) := by decide +kernel
theorem dX9_told_81 : decode cX9_told 81 = .ok (.iload_n 1, 1) := by decide +kernel
theorem dX9_told_82 : decode cX9_told 82 = .ok (.invokevirtual 147, 3) := by decide +kernel
theorem dX9_told_85 : decode cX9_told 85 = .ok (.ireturn, 1) := by decide +kernel
theorem dX9_told_86 : decode cX9_told 86 = .ok (.aload_n 3, 1) := by decide +kernel
theorem dX9_told_87 : decode cX9_told 87 = .ok (.invokevirtual 151, 3) := by decide +kernel
theorem dX9_told_90 : decode cX9_told 90 = .ok (.ifCond .eq 7, 3) := by decide +kernel
theorem dX9_told_93 : decode cX9_told 93 = .ok (.iconst 1, 1) := by decide +kernel
theorem dX9_told_94 : decode cX9_told 94 = .ok (.goto 4, 3) := by decide +kernel
theorem dX9_told_97 : decode cX9_told 97 = .ok (.iconst 0, 1) := by decide +kernel
theorem dX9_told_98 : decode cX9_told 98 = .ok (.ireturn, 1) := by decide +kernel
theorem dX9_told_99 : decode cX9_told 99 = .ok (.aload_n 3, 1) := by decide +kernel
theorem dX9_told_100 : decode cX9_told 100 = .ok (.getfield 155, 3) := by decide +kernel
theorem dX9_told_103 : decode cX9_told 103 = .ok (.ireturn, 1) := by decide +kernel
theorem dX9_told_104 : decode cX9_told 104 = .ok (.new 96, 3) := by decide +kernel
theorem dX9_told_107 : decode cX9_told 107 = .ok (.dup, 1) := by decide +kernel
theorem dX9_told_108 : decode cX9_told 108 = .ok (.ldc 158, 2) := by decide +kernel
theorem dX9_told_110 : decode cX9_told 110 = .ok (.invokespecial 100, 3) := by decide +kernel
theorem dX9_told_113 : decode cX9_told 113 = .ok (.athrow, 1) := by decide +kernel
set_option maxRecDepth 20000 in
theorem ggX9_worth_X9_lotAt : GoodIn wsX9_worth wsX9_lotAt := goodIn_ca (goodIn_r _ [9, 10, 11, 12, 13, 31, 32, 33, 34, 35, 36, 37, 38, 39, 40, 41, 42, 43, 44, 45, 46] (by decide +kernel) (by decide +kernel)) (goodIn_sub (fun _ h => List.mem_cons_of_mem _ (List.mem_append_right _ h)) (by decide +kernel))
set_option maxRecDepth 20000 in
theorem gX9_worth_X9_lotAt : GoodIn wsX9_worth (wsV RX9 128 RX9 yX9_lotAt wsX9_lotAt) := goodIn_app (goodIn_of _ (by decide +kernel)) ggX9_worth_X9_lotAt
set_option maxRecDepth 20000 in
theorem ggX9_worth_X9_isWithin : GoodIn wsX9_worth wsX9_isWithin := goodIn_r _ [16] (by decide +kernel) (by decide +kernel)
set_option maxRecDepth 20000 in
theorem gX9_worth_X9_isWithin : GoodIn wsX9_worth (va_wsS RX9 90 yX9_isWithin wsX9_isWithin) := goodIn_app (goodIn_of _ (by decide +kernel)) ggX9_worth_X9_isWithin
set_option maxRecDepth 20000 in
theorem ggX9_worth_X3_worthIn : GoodIn wsX9_worth wsX3_worthIn := goodIn_r _ [21, 22, 23, 24, 25, 26, 27, 28, 29, 30, 47, 48, 49, 50, 51, 52, 53, 54, 55, 56, 57, 58, 59] (by decide +kernel) (by decide +kernel)
set_option maxRecDepth 20000 in
theorem gX9_worth_X3_worthIn : GoodIn wsX9_worth (wsV RX9 166 RX3 yX3_worthIn wsX3_worthIn) := goodIn_app (goodIn_of _ (by decide +kernel)) ggX9_worth_X3_worthIn
theorem dX9_worth_0 : decode cX9_worth 0 = .ok (.aload_n 0, 1) := by decide +kernel
theorem dX9_worth_1 : decode cX9_worth 1 = .ok (.iload_n 1, 1) := by decide +kernel
theorem dX9_worth_2 : decode cX9_worth 2 = .ok (.invokevirtual 128, 3) := by decide +kernel
theorem dX9_worth_5 : decode cX9_worth 5 = .ok (.astore_n 3, 1) := by decide +kernel
theorem dX9_worth_6 : decode cX9_worth 6 = .ok (.iload_n 2, 1) := by decide +kernel
theorem dX9_worth_7 : decode cX9_worth 7 = .ok (.i2l, 1) := by decide +kernel
theorem dX9_worth_8 : decode cX9_worth 8 = .ok (.ldc2_w 160, 3) := by decide +kernel
theorem dX9_worth_11 : decode cX9_worth 11 = .ok (.ldc2_w 162, 3) := by decide +kernel
theorem dX9_worth_14 : decode cX9_worth 14 = .ok (.invokestatic 90, 3) := by decide +kernel
theorem dX9_worth_17 : decode cX9_worth 17 = .ok (.ifCond .ne 13, 3) := by decide +kernel
theorem dX9_worth_20 : decode cX9_worth 20 = .ok (.new 96, 3) := by decide +kernel
theorem dX9_worth_23 : decode cX9_worth 23 = .ok (.dup, 1) := by decide +kernel
theorem dX9_worth_24 : decode cX9_worth 24 = .ok (.ldc 164, 2) := by decide +kernel
theorem dX9_worth_26 : decode cX9_worth 26 = .ok (.invokespecial 100, 3) := by decide +kernel
theorem dX9_worth_29 : decode cX9_worth 29 = .ok (.athrow, 1) := by decide +kernel
theorem dX9_worth_30 : decode cX9_worth 30 = .ok (.aload_n 3, 1) := by decide +kernel
theorem dX9_worth_31 : decode cX9_worth 31 = .ok (.iload_n 2, 1) := by decide +kernel
theorem dX9_worth_32 : decode cX9_worth 32 = .ok (.invokevirtual 166, 3) := by decide +kernel
theorem dX9_worth_35 : decode cX9_worth 35 = .ok (.ireturn, 1) := by decide +kernel
set_option maxRecDepth 20000 in
theorem ggX9_taste_X9_lotAt : GoodIn wsX9_taste wsX9_lotAt := goodIn_ca (goodIn_r _ [9, 10, 11, 12, 13, 50, 51, 52, 53, 54, 55, 56, 57, 58, 59, 60, 61, 62, 63, 64, 65] (by decide +kernel) (by decide +kernel)) (goodIn_sub (fun _ h => List.mem_cons_of_mem _ (List.mem_append_right _ h)) (by decide +kernel))
set_option maxRecDepth 20000 in
theorem gX9_taste_X9_lotAt : GoodIn wsX9_taste (wsV RX9 128 RX9 yX9_lotAt wsX9_lotAt) := goodIn_app (goodIn_of _ (by decide +kernel)) ggX9_taste_X9_lotAt
set_option maxRecDepth 20000 in
theorem ggX9_taste_X3_tastedYoung : GoodIn wsX9_taste wsX3_tastedYoung := goodIn_r _ [18, 19, 20, 21, 22, 23, 24, 42, 43, 44, 45, 46, 47, 48, 49] (by decide +kernel) (by decide +kernel)
set_option maxRecDepth 20000 in
theorem gX9_taste_X3_tastedYoung : GoodIn wsX9_taste (wsV RX9 169 RX3 yX3_tastedYoung wsX3_tastedYoung) := goodIn_app (goodIn_of _ (by decide +kernel)) ggX9_taste_X3_tastedYoung
set_option maxRecDepth 20000 in
theorem ggX9_taste_X9_yearNow : GoodIn wsX9_taste wsX9_yearNow := goodIn_r _ [28, 29, 50, 51, 52, 53, 54, 55, 56, 57, 58, 59, 60, 61, 62, 63, 64, 65] (by decide +kernel) (by decide +kernel)
set_option maxRecDepth 20000 in
theorem gX9_taste_X9_yearNow : GoodIn wsX9_taste (wsV RX9 172 RX9 yX9_yearNow wsX9_yearNow) := goodIn_app (goodIn_of _ (by decide +kernel)) ggX9_taste_X9_yearNow
set_option maxRecDepth 20000 in
theorem ggX9_taste_X3_tastedReady : GoodIn wsX9_taste wsX3_tastedReady := goodIn_r _ [33, 19, 21, 22, 23, 24, 42, 43, 44, 45, 46, 47, 48, 49] (by decide +kernel) (by decide +kernel)
set_option maxRecDepth 20000 in
theorem gX9_taste_X3_tastedReady : GoodIn wsX9_taste (wsV RX9 176 RX3 yX3_tastedReady wsX3_tastedReady) := goodIn_app (goodIn_of _ (by decide +kernel)) ggX9_taste_X3_tastedReady
set_option maxRecDepth 20000 in
theorem ggX9_taste_X3_tastedTired : GoodIn wsX9_taste wsX3_tastedTired := goodIn_r _ [37, 20, 21, 22, 23, 24, 19, 42, 43, 44, 45, 46, 47, 48, 49] (by decide +kernel) (by decide +kernel)
set_option maxRecDepth 20000 in
theorem gX9_taste_X3_tastedTired : GoodIn wsX9_taste (wsV RX9 180 RX3 yX3_tastedTired wsX3_tastedTired) := goodIn_app (goodIn_of _ (by decide +kernel)) ggX9_taste_X3_tastedTired
set_option maxRecDepth 20000 in
theorem ggX9_taste_X3_tastedFine : GoodIn wsX9_taste wsX3_tastedFine := goodIn_r _ [41, 20, 42, 43, 44, 45, 46, 47, 48, 49] (by decide +kernel) (by decide +kernel)
set_option maxRecDepth 20000 in
theorem gX9_taste_X3_tastedFine : GoodIn wsX9_taste (wsV RX9 183 RX3 yX3_tastedFine wsX3_tastedFine) := goodIn_app (goodIn_of _ (by decide +kernel)) ggX9_taste_X3_tastedFine
theorem dX9_taste_0 : decode cX9_taste 0 = .ok (.aload_n 0, 1) := by decide +kernel
theorem dX9_taste_1 : decode cX9_taste 1 = .ok (.iload_n 1, 1) := by decide +kernel
theorem dX9_taste_2 : decode cX9_taste 2 = .ok (.invokevirtual 128, 3) := by decide +kernel
theorem dX9_taste_5 : decode cX9_taste 5 = .ok (.astore_n 3, 1) := by decide +kernel
theorem dX9_taste_6 : decode cX9_taste 6 = .ok (.aload_n 3, 1) := by decide +kernel
theorem dX9_taste_7 : decode cX9_taste 7 = .ok (.getfield 141, 3) := by decide +kernel
theorem dX9_taste_10 : decode cX9_taste 10 = .ok (.istore 4, 2) := by decide +kernel
theorem dX9_taste_12 : decode cX9_taste 12 = .ok (.aload_n 3, 1) := by decide +kernel
theorem dX9_taste_13 : decode cX9_taste 13 = .ok (.getfield 144, 3) := by decide +kernel
theorem dX9_taste_16 : decode cX9_taste 16 = .ok (.istore 5, 2) := by decide +kernel
theorem dX9_taste_18 : decode cX9_taste 18 = .ok (.iload_n 2, 1) := by decide +kernel
theorem dX9_taste_19 : decode cX9_taste 19 = .ok (.tableswitch 65 0 3 #[29, 36, 47, 58], 29) := by decide +kernel
theorem dX9_taste_48 : decode cX9_taste 48 = .ok (.aload_n 3, 1) := by decide +kernel
theorem dX9_taste_49 : decode cX9_taste 49 = .ok (.invokevirtual 169, 3) := by decide +kernel
theorem dX9_taste_52 : decode cX9_taste 52 = .ok (.goto 42, 3) := by decide +kernel
theorem dX9_taste_55 : decode cX9_taste 55 = .ok (.aload_n 3, 1) := by decide +kernel
theorem dX9_taste_56 : decode cX9_taste 56 = .ok (.aload_n 0, 1) := by decide +kernel
theorem dX9_taste_57 : decode cX9_taste 57 = .ok (.invokevirtual 172, 3) := by decide +kernel
theorem dX9_taste_60 : decode cX9_taste 60 = .ok (.invokevirtual 176, 3) := by decide +kernel
theorem dX9_taste_63 : decode cX9_taste 63 = .ok (.goto 31, 3) := by decide +kernel
theorem dX9_taste_66 : decode cX9_taste 66 = .ok (.aload_n 3, 1) := by decide +kernel
theorem dX9_taste_67 : decode cX9_taste 67 = .ok (.aload_n 0, 1) := by decide +kernel
theorem dX9_taste_68 : decode cX9_taste 68 = .ok (.invokevirtual 172, 3) := by decide +kernel
theorem dX9_taste_71 : decode cX9_taste 71 = .ok (.invokevirtual 180, 3) := by decide +kernel
theorem dX9_taste_74 : decode cX9_taste 74 = .ok (.goto 20, 3) := by decide +kernel
theorem dX9_taste_77 : decode cX9_taste 77 = .ok (.aload_n 3, 1) := by decide +kernel
theorem dX9_taste_78 : decode cX9_taste 78 = .ok (.invokevirtual 183, 3) := by decide +kernel
theorem dX9_taste_81 : decode cX9_taste 81 = .ok (.goto 13, 3) := by decide +kernel
theorem dX9_taste_84 : decode cX9_taste 84 = .ok (.new 96, 3) := by decide +kernel
theorem dX9_taste_87 : decode cX9_taste 87 = .ok (.dup, 1) := by decide +kernel
theorem dX9_taste_88 : decode cX9_taste 88 = .ok (.ldc 186, 2) := by decide +kernel
theorem dX9_taste_90 : decode cX9_taste 90 = .ok (.invokespecial 100, 3) := by decide +kernel
theorem dX9_taste_93 : decode cX9_taste 93 = .ok (.athrow, 1) := by decide +kernel
theorem dX9_taste_94 : decode cX9_taste 94 = .ok (.aload_n 3, 1) := by decide +kernel
theorem dX9_taste_95 : decode cX9_taste 95 = .ok (.getfield 141, 3) := by decide +kernel
theorem dX9_taste_98 : decode cX9_taste 98 = .ok (.iload 4, 2) := by decide +kernel
theorem dX9_taste_100 : decode cX9_taste 100 = .ok (.if_icmp .ne 12, 3) := by decide +kernel
theorem dX9_taste_103 : decode cX9_taste 103 = .ok (.aload_n 3, 1) := by decide +kernel
theorem dX9_taste_104 : decode cX9_taste 104 = .ok (.getfield 144, 3) := by decide +kernel
theorem dX9_taste_107 : decode cX9_taste 107 = .ok (.iload 5, 2) := by decide +kernel
theorem dX9_taste_109 : decode cX9_taste 109 = .ok (.if_icmp .eq 7, 3) := by decide +kernel
theorem dX9_taste_112 : decode cX9_taste 112 = .ok (.iconst 1, 1) := by decide +kernel
theorem dX9_taste_113 : decode cX9_taste 113 = .ok (.goto 4, 3) := by decide +kernel
theorem dX9_taste_116 : decode cX9_taste 116 = .ok (.iconst 0, 1) := by decide +kernel
theorem dX9_taste_117 : decode cX9_taste 117 = .ok (.ireturn, 1) := by decide +kernel
set_option maxRecDepth 20000 in
theorem ggX9_put_X9_requireCell : GoodIn wsX9_put wsX9_requireCell := goodIn_ca (goodIn_r _ [11, 12, 13] (by decide +kernel) (by decide +kernel)) (goodIn_sub (fun _ h => List.mem_cons_of_mem _ (List.mem_append_left _ (List.mem_append_right _ h))) (by decide +kernel))
set_option maxRecDepth 20000 in
theorem gX9_put_X9_requireCell : GoodIn wsX9_put (va_wsS RX9 188 yX9_requireCell wsX9_requireCell) := goodIn_app (goodIn_of _ (by decide +kernel)) ggX9_put_X9_requireCell
set_option maxRecDepth 20000 in
theorem ggX9_put_X9_lotAt : GoodIn wsX9_put wsX9_lotAt := goodIn_ca (goodIn_r _ [17, 18, 19, 20, 21, 44, 45, 46, 47, 48, 49, 50, 51, 52, 53, 54, 55, 56, 57, 58, 59] (by decide +kernel) (by decide +kernel)) (goodIn_sub (fun _ h => List.mem_cons_of_mem _ (List.mem_append_right _ h)) (by decide +kernel))
set_option maxRecDepth 20000 in
theorem gX9_put_X9_lotAt : GoodIn wsX9_put (wsV RX9 128 RX9 yX9_lotAt wsX9_lotAt) := goodIn_app (goodIn_of _ (by decide +kernel)) ggX9_put_X9_lotAt
set_option maxRecDepth 20000 in
theorem ggX9_put_X9_isWithin : GoodIn wsX9_put wsX9_isWithin := goodIn_r _ [24] (by decide +kernel) (by decide +kernel)
set_option maxRecDepth 20000 in
theorem gX9_put_X9_isWithin : GoodIn wsX9_put (va_wsS RX9 90 yX9_isWithin wsX9_isWithin) := goodIn_app (goodIn_of _ (by decide +kernel)) ggX9_put_X9_isWithin
set_option maxRecDepth 20000 in
theorem ggX9_put_X5_takesLot : GoodIn wsX9_put wsX5_takesLot := goodIn_r _ [29, 30, 31, 32, 33, 28, 34, 35, 68, 69] (by decide +kernel) (by decide +kernel)
set_option maxRecDepth 20000 in
theorem gX9_put_X5_takesLot : GoodIn wsX9_put (wsV RX9 195 RX5 yX5_takesLot wsX5_takesLot) := goodIn_app (goodIn_of _ (by decide +kernel)) ggX9_put_X5_takesLot
set_option maxRecDepth 20000 in
theorem ggX9_put_X5_hasRoom : GoodIn wsX9_put wsX5_hasRoom := goodIn_r _ [39, 35, 68, 69] (by decide +kernel) (by decide +kernel)
set_option maxRecDepth 20000 in
theorem gX9_put_X5_hasRoom : GoodIn wsX9_put (wsV RX9 199 RX5 yX5_hasRoom wsX5_hasRoom) := goodIn_app (goodIn_of _ (by decide +kernel)) ggX9_put_X5_hasRoom
set_option maxRecDepth 20000 in
theorem ggX9_put_X5_add : GoodIn wsX9_put wsX5_add := goodIn_r _ [43, 30, 35, 68, 69] (by decide +kernel) (by decide +kernel)
set_option maxRecDepth 20000 in
theorem gX9_put_X5_add : GoodIn wsX9_put (wsV RX9 202 RX5 yX5_add wsX5_add) := goodIn_app (goodIn_of _ (by decide +kernel)) ggX9_put_X5_add
theorem dX9_put_0 : decode cX9_put 0 = .ok (.iload_n 1, 1) := by decide +kernel
theorem dX9_put_1 : decode cX9_put 1 = .ok (.invokestatic 188, 3) := by decide +kernel
theorem dX9_put_4 : decode cX9_put 4 = .ok (.aload_n 0, 1) := by decide +kernel
theorem dX9_put_5 : decode cX9_put 5 = .ok (.iload_n 2, 1) := by decide +kernel
theorem dX9_put_6 : decode cX9_put 6 = .ok (.invokevirtual 128, 3) := by decide +kernel
theorem dX9_put_9 : decode cX9_put 9 = .ok (.pop, 1) := by decide +kernel
theorem dX9_put_10 : decode cX9_put 10 = .ok (.iload_n 3, 1) := by decide +kernel
theorem dX9_put_11 : decode cX9_put 11 = .ok (.i2l, 1) := by decide +kernel
theorem dX9_put_12 : decode cX9_put 12 = .ok (.lconst 1, 1) := by decide +kernel
theorem dX9_put_13 : decode cX9_put 13 = .ok (.ldc2_w 191, 3) := by decide +kernel
theorem dX9_put_16 : decode cX9_put 16 = .ok (.invokestatic 90, 3) := by decide +kernel
theorem dX9_put_19 : decode cX9_put 19 = .ok (.ifCond .ne 13, 3) := by decide +kernel
theorem dX9_put_22 : decode cX9_put 22 = .ok (.new 96, 3) := by decide +kernel
theorem dX9_put_25 : decode cX9_put 25 = .ok (.dup, 1) := by decide +kernel
theorem dX9_put_26 : decode cX9_put 26 = .ok (.ldc 193, 2) := by decide +kernel
theorem dX9_put_28 : decode cX9_put 28 = .ok (.invokespecial 100, 3) := by decide +kernel
theorem dX9_put_31 : decode cX9_put 31 = .ok (.athrow, 1) := by decide +kernel
theorem dX9_put_32 : decode cX9_put 32 = .ok (.aload_n 0, 1) := by decide +kernel
theorem dX9_put_33 : decode cX9_put 33 = .ok (.getfield 36, 3) := by decide +kernel
theorem dX9_put_36 : decode cX9_put 36 = .ok (.iload_n 1, 1) := by decide +kernel
theorem dX9_put_37 : decode cX9_put 37 = .ok (.iload_n 2, 1) := by decide +kernel
theorem dX9_put_38 : decode cX9_put 38 = .ok (.invokevirtual 195, 3) := by decide +kernel
theorem dX9_put_41 : decode cX9_put 41 = .ok (.ifCond .ne 5, 3) := by decide +kernel
theorem dX9_put_44 : decode cX9_put 44 = .ok (.iconst (-1), 1) := by decide +kernel
theorem dX9_put_45 : decode cX9_put 45 = .ok (.ireturn, 1) := by decide +kernel
theorem dX9_put_46 : decode cX9_put 46 = .ok (.aload_n 0, 1) := by decide +kernel
theorem dX9_put_47 : decode cX9_put 47 = .ok (.getfield 36, 3) := by decide +kernel
theorem dX9_put_50 : decode cX9_put 50 = .ok (.iload_n 1, 1) := by decide +kernel
theorem dX9_put_51 : decode cX9_put 51 = .ok (.iload_n 3, 1) := by decide +kernel
theorem dX9_put_52 : decode cX9_put 52 = .ok (.invokevirtual 199, 3) := by decide +kernel
theorem dX9_put_55 : decode cX9_put 55 = .ok (.ifCond .ne 6, 3) := by decide +kernel
theorem dX9_put_58 : decode cX9_put 58 = .ok (.bipush (-2), 2) := by decide +kernel
theorem dX9_put_60 : decode cX9_put 60 = .ok (.ireturn, 1) := by decide +kernel
theorem dX9_put_61 : decode cX9_put 61 = .ok (.aload_n 0, 1) := by decide +kernel
theorem dX9_put_62 : decode cX9_put 62 = .ok (.getfield 36, 3) := by decide +kernel
theorem dX9_put_65 : decode cX9_put 65 = .ok (.iload_n 1, 1) := by decide +kernel
theorem dX9_put_66 : decode cX9_put 66 = .ok (.iload_n 2, 1) := by decide +kernel
theorem dX9_put_67 : decode cX9_put 67 = .ok (.iload_n 3, 1) := by decide +kernel
theorem dX9_put_68 : decode cX9_put 68 = .ok (.invokevirtual 202, 3) := by decide +kernel
theorem dX9_put_71 : decode cX9_put 71 = .ok (.aload_n 0, 1) := by decide +kernel
theorem dX9_put_72 : decode cX9_put 72 = .ok (.getfield 50, 3) := by decide +kernel
theorem dX9_put_75 : decode cX9_put 75 = .ok (.dup, 1) := by decide +kernel
theorem dX9_put_76 : decode cX9_put 76 = .ok (.getfield 206, 3) := by decide +kernel
theorem dX9_put_79 : decode cX9_put 79 = .ok (.iload_n 3, 1) := by decide +kernel
theorem dX9_put_80 : decode cX9_put 80 = .ok (.iadd, 1) := by decide +kernel
theorem dX9_put_81 : decode cX9_put 81 = .ok (.putfield 206, 3) := by decide +kernel
theorem dX9_put_84 : decode cX9_put 84 = .ok (.aload_n 0, 1) := by decide +kernel
theorem dX9_put_85 : decode cX9_put 85 = .ok (.getfield 36, 3) := by decide +kernel
theorem dX9_put_88 : decode cX9_put 88 = .ok (.getfield 209, 3) := by decide +kernel
theorem dX9_put_91 : decode cX9_put 91 = .ok (.iload_n 1, 1) := by decide +kernel
theorem dX9_put_92 : decode cX9_put 92 = .ok (.iaload, 1) := by decide +kernel
theorem dX9_put_93 : decode cX9_put 93 = .ok (.ireturn, 1) := by decide +kernel
set_option maxRecDepth 20000 in
theorem ggX9_move_X9_requireCell : GoodIn wsX9_move wsX9_requireCell := goodIn_ca (goodIn_r _ [9, 10, 11] (by decide +kernel) (by decide +kernel)) (goodIn_sub (fun _ h => List.mem_cons_of_mem _ (List.mem_append_right _ h)) (by decide +kernel))
set_option maxRecDepth 20000 in
theorem gX9_move_X9_requireCell : GoodIn wsX9_move (va_wsS RX9 188 yX9_requireCell wsX9_requireCell) := goodIn_app (goodIn_of _ (by decide +kernel)) ggX9_move_X9_requireCell
set_option maxRecDepth 20000 in
theorem ggX9_move_X5_takesLot : GoodIn wsX9_move wsX5_takesLot := goodIn_r _ [16, 17, 18, 19, 20, 15, 21, 22, 51, 52] (by decide +kernel) (by decide +kernel)
set_option maxRecDepth 20000 in
theorem gX9_move_X5_takesLot : GoodIn wsX9_move (wsV RX9 195 RX5 yX5_takesLot wsX5_takesLot) := goodIn_app (goodIn_of _ (by decide +kernel)) ggX9_move_X5_takesLot
set_option maxRecDepth 20000 in
theorem ggX9_move_X5_hasRoom : GoodIn wsX9_move wsX5_hasRoom := goodIn_r _ [26, 22, 51, 52] (by decide +kernel) (by decide +kernel)
set_option maxRecDepth 20000 in
theorem gX9_move_X5_hasRoom : GoodIn wsX9_move (wsV RX9 199 RX5 yX5_hasRoom wsX5_hasRoom) := goodIn_app (goodIn_of _ (by decide +kernel)) ggX9_move_X5_hasRoom
set_option maxRecDepth 20000 in
theorem ggX9_move_X5_remove : GoodIn wsX9_move wsX5_remove := goodIn_r _ [30, 22, 17, 51, 52] (by decide +kernel) (by decide +kernel)
set_option maxRecDepth 20000 in
theorem gX9_move_X5_remove : GoodIn wsX9_move (wsV RX9 216 RX5 yX5_remove wsX5_remove) := goodIn_app (goodIn_of _ (by decide +kernel)) ggX9_move_X5_remove
set_option maxRecDepth 20000 in
theorem ggX9_move_X5_add : GoodIn wsX9_move wsX5_add := goodIn_r _ [34, 17, 22, 51, 52] (by decide +kernel) (by decide +kernel)
set_option maxRecDepth 20000 in
theorem gX9_move_X5_add : GoodIn wsX9_move (wsV RX9 202 RX5 yX5_add wsX5_add) := goodIn_app (goodIn_of _ (by decide +kernel)) ggX9_move_X5_add
theorem dX9_move_0 : decode cX9_move 0 = .ok (.iload_n 1, 1) := by decide +kernel
theorem dX9_move_1 : decode cX9_move 1 = .ok (.invokestatic 188, 3) := by decide +kernel
theorem dX9_move_4 : decode cX9_move 4 = .ok (.iload_n 2, 1) := by decide +kernel
theorem dX9_move_5 : decode cX9_move 5 = .ok (.invokestatic 188, 3) := by decide +kernel
theorem dX9_move_8 : decode cX9_move 8 = .ok (.iload_n 1, 1) := by decide +kernel
theorem dX9_move_9 : decode cX9_move 9 = .ok (.iload_n 2, 1) := by decide +kernel
theorem dX9_move_10 : decode cX9_move 10 = .ok (.if_icmp .eq 8, 3) := by decide +kernel
theorem dX9_move_13 : decode cX9_move 13 = .ok (.iload_n 3, 1) := by decide +kernel
theorem dX9_move_14 : decode cX9_move 14 = .ok (.iconst 1, 1) := by decide +kernel
theorem dX9_move_15 : decode cX9_move 15 = .ok (.if_icmp .ge 13, 3) := by decide +kernel
theorem dX9_move_18 : decode cX9_move 18 = .ok (.new 96, 3) := by decide +kernel
theorem dX9_move_21 : decode cX9_move 21 = .ok (.dup, 1) := by decide +kernel
theorem dX9_move_22 : decode cX9_move 22 = .ok (.ldc 212, 2) := by decide +kernel
theorem dX9_move_24 : decode cX9_move 24 = .ok (.invokespecial 100, 3) := by decide +kernel
theorem dX9_move_27 : decode cX9_move 27 = .ok (.athrow, 1) := by decide +kernel
theorem dX9_move_28 : decode cX9_move 28 = .ok (.aload_n 0, 1) := by decide +kernel
theorem dX9_move_29 : decode cX9_move 29 = .ok (.getfield 36, 3) := by decide +kernel
theorem dX9_move_32 : decode cX9_move 32 = .ok (.getfield 209, 3) := by decide +kernel
theorem dX9_move_35 : decode cX9_move 35 = .ok (.iload_n 1, 1) := by decide +kernel
theorem dX9_move_36 : decode cX9_move 36 = .ok (.iaload, 1) := by decide +kernel
theorem dX9_move_37 : decode cX9_move 37 = .ok (.iload_n 3, 1) := by decide +kernel
theorem dX9_move_38 : decode cX9_move 38 = .ok (.if_icmp .ge 5, 3) := by decide +kernel
theorem dX9_move_41 : decode cX9_move 41 = .ok (.iconst (-1), 1) := by decide +kernel
theorem dX9_move_42 : decode cX9_move 42 = .ok (.ireturn, 1) := by decide +kernel
theorem dX9_move_43 : decode cX9_move 43 = .ok (.aload_n 0, 1) := by decide +kernel
theorem dX9_move_44 : decode cX9_move 44 = .ok (.getfield 36, 3) := by decide +kernel
theorem dX9_move_47 : decode cX9_move 47 = .ok (.getfield 214, 3) := by decide +kernel
theorem dX9_move_50 : decode cX9_move 50 = .ok (.iload_n 1, 1) := by decide +kernel
theorem dX9_move_51 : decode cX9_move 51 = .ok (.iaload, 1) := by decide +kernel
theorem dX9_move_52 : decode cX9_move 52 = .ok (.istore 4, 2) := by decide +kernel
theorem dX9_move_54 : decode cX9_move 54 = .ok (.aload_n 0, 1) := by decide +kernel
theorem dX9_move_55 : decode cX9_move 55 = .ok (.getfield 36, 3) := by decide +kernel
theorem dX9_move_58 : decode cX9_move 58 = .ok (.iload_n 2, 1) := by decide +kernel
theorem dX9_move_59 : decode cX9_move 59 = .ok (.iload 4, 2) := by decide +kernel
theorem dX9_move_61 : decode cX9_move 61 = .ok (.invokevirtual 195, 3) := by decide +kernel
theorem dX9_move_64 : decode cX9_move 64 = .ok (.ifCond .ne 6, 3) := by decide +kernel
theorem dX9_move_67 : decode cX9_move 67 = .ok (.bipush (-2), 2) := by decide +kernel
theorem dX9_move_69 : decode cX9_move 69 = .ok (.ireturn, 1) := by decide +kernel
theorem dX9_move_70 : decode cX9_move 70 = .ok (.aload_n 0, 1) := by decide +kernel
theorem dX9_move_71 : decode cX9_move 71 = .ok (.getfield 36, 3) := by decide +kernel
theorem dX9_move_74 : decode cX9_move 74 = .ok (.iload_n 2, 1) := by decide +kernel
theorem dX9_move_75 : decode cX9_move 75 = .ok (.iload_n 3, 1) := by decide +kernel
theorem dX9_move_76 : decode cX9_move 76 = .ok (.invokevirtual 199, 3) := by decide +kernel
theorem dX9_move_79 : decode cX9_move 79 = .ok (.ifCond .ne 6, 3) := by decide +kernel
theorem dX9_move_82 : decode cX9_move 82 = .ok (.bipush (-3), 2) := by decide +kernel
theorem dX9_move_84 : decode cX9_move 84 = .ok (.ireturn, 1) := by decide +kernel
theorem dX9_move_85 : decode cX9_move 85 = .ok (.aload_n 0, 1) := by decide +kernel
theorem dX9_move_86 : decode cX9_move 86 = .ok (.getfield 36, 3) := by decide +kernel
theorem dX9_move_89 : decode cX9_move 89 = .ok (.iload_n 1, 1) := by decide +kernel
theorem dX9_move_90 : decode cX9_move 90 = .ok (.iload_n 3, 1) := by decide +kernel
theorem dX9_move_91 : decode cX9_move 91 = .ok (.invokevirtual 216, 3) := by decide +kernel
theorem dX9_move_94 : decode cX9_move 94 = .ok (.aload_n 0, 1) := by decide +kernel
theorem dX9_move_95 : decode cX9_move 95 = .ok (.getfield 36, 3) := by decide +kernel
theorem dX9_move_98 : decode cX9_move 98 = .ok (.iload_n 2, 1) := by decide +kernel
theorem dX9_move_99 : decode cX9_move 99 = .ok (.iload 4, 2) := by decide +kernel
theorem dX9_move_101 : decode cX9_move 101 = .ok (.iload_n 3, 1) := by decide +kernel
theorem dX9_move_102 : decode cX9_move 102 = .ok (.invokevirtual 202, 3) := by decide +kernel
theorem dX9_move_105 : decode cX9_move 105 = .ok (.aload_n 0, 1) := by decide +kernel
theorem dX9_move_106 : decode cX9_move 106 = .ok (.getfield 36, 3) := by decide +kernel
theorem dX9_move_109 : decode cX9_move 109 = .ok (.getfield 209, 3) := by decide +kernel
theorem dX9_move_112 : decode cX9_move 112 = .ok (.iload_n 2, 1) := by decide +kernel
theorem dX9_move_113 : decode cX9_move 113 = .ok (.iaload, 1) := by decide +kernel
theorem dX9_move_114 : decode cX9_move 114 = .ok (.ireturn, 1) := by decide +kernel
set_option maxRecDepth 20000 in
theorem ggX9_cell_X9_requireCell : GoodIn wsX9_cell wsX9_requireCell := goodIn_ca (goodIn_r _ [9, 10, 11] (by decide +kernel) (by decide +kernel)) (goodIn_sub (fun _ h => List.mem_cons_of_mem _ (List.mem_append_right _ h)) (by decide +kernel))
set_option maxRecDepth 20000 in
theorem gX9_cell_X9_requireCell : GoodIn wsX9_cell (va_wsS RX9 188 yX9_requireCell wsX9_requireCell) := goodIn_app (goodIn_of _ (by decide +kernel)) ggX9_cell_X9_requireCell
set_option maxRecDepth 20000 in
theorem ggX9_cell_X9_isWithin : GoodIn wsX9_cell wsX9_isWithin := goodIn_r _ [14] (by decide +kernel) (by decide +kernel)
set_option maxRecDepth 20000 in
theorem gX9_cell_X9_isWithin : GoodIn wsX9_cell (va_wsS RX9 90 yX9_isWithin wsX9_isWithin) := goodIn_app (goodIn_of _ (by decide +kernel)) ggX9_cell_X9_isWithin
theorem dX9_cell_0 : decode cX9_cell 0 = .ok (.iload_n 1, 1) := by decide +kernel
theorem dX9_cell_1 : decode cX9_cell 1 = .ok (.invokestatic 188, 3) := by decide +kernel
theorem dX9_cell_4 : decode cX9_cell 4 = .ok (.iload_n 2, 1) := by decide +kernel
theorem dX9_cell_5 : decode cX9_cell 5 = .ok (.i2l, 1) := by decide +kernel
theorem dX9_cell_6 : decode cX9_cell 6 = .ok (.lconst 0, 1) := by decide +kernel
theorem dX9_cell_7 : decode cX9_cell 7 = .ok (.lconst 1, 1) := by decide +kernel
theorem dX9_cell_8 : decode cX9_cell 8 = .ok (.invokestatic 90, 3) := by decide +kernel
theorem dX9_cell_11 : decode cX9_cell 11 = .ok (.ifCond .ne 13, 3) := by decide +kernel
theorem dX9_cell_14 : decode cX9_cell 14 = .ok (.new 96, 3) := by decide +kernel
theorem dX9_cell_17 : decode cX9_cell 17 = .ok (.dup, 1) := by decide +kernel
theorem dX9_cell_18 : decode cX9_cell 18 = .ok (.ldc 158, 2) := by decide +kernel
theorem dX9_cell_20 : decode cX9_cell 20 = .ok (.invokespecial 100, 3) := by decide +kernel
theorem dX9_cell_23 : decode cX9_cell 23 = .ok (.athrow, 1) := by decide +kernel
theorem dX9_cell_24 : decode cX9_cell 24 = .ok (.iload_n 2, 1) := by decide +kernel
theorem dX9_cell_25 : decode cX9_cell 25 = .ok (.ifCond .ne 15, 3) := by decide +kernel
theorem dX9_cell_28 : decode cX9_cell 28 = .ok (.aload_n 0, 1) := by decide +kernel
theorem dX9_cell_29 : decode cX9_cell 29 = .ok (.getfield 36, 3) := by decide +kernel
theorem dX9_cell_32 : decode cX9_cell 32 = .ok (.getfield 214, 3) := by decide +kernel
theorem dX9_cell_35 : decode cX9_cell 35 = .ok (.iload_n 1, 1) := by decide +kernel
theorem dX9_cell_36 : decode cX9_cell 36 = .ok (.iaload, 1) := by decide +kernel
theorem dX9_cell_37 : decode cX9_cell 37 = .ok (.goto 12, 3) := by decide +kernel
theorem dX9_cell_40 : decode cX9_cell 40 = .ok (.aload_n 0, 1) := by decide +kernel
theorem dX9_cell_41 : decode cX9_cell 41 = .ok (.getfield 36, 3) := by decide +kernel
theorem dX9_cell_44 : decode cX9_cell 44 = .ok (.getfield 209, 3) := by decide +kernel
theorem dX9_cell_47 : decode cX9_cell 47 = .ok (.iload_n 1, 1) := by decide +kernel
theorem dX9_cell_48 : decode cX9_cell 48 = .ok (.iaload, 1) := by decide +kernel
theorem dX9_cell_49 : decode cX9_cell 49 = .ok (.ireturn, 1) := by decide +kernel
set_option maxRecDepth 20000 in
theorem ggX9_find_X9_lotAt : GoodIn wsX9_find wsX9_lotAt := goodIn_ca (goodIn_r _ [6, 7, 8, 9, 10, 17, 18, 19, 20, 21, 22, 23, 24, 25, 26, 27, 28, 29, 30, 31, 32] (by decide +kernel) (by decide +kernel)) (goodIn_sub (fun _ h => List.mem_cons_of_mem _ (List.mem_append_right _ h)) (by decide +kernel))
set_option maxRecDepth 20000 in
theorem gX9_find_X9_lotAt : GoodIn wsX9_find (wsV RX9 128 RX9 yX9_lotAt wsX9_lotAt) := goodIn_app (goodIn_of _ (by decide +kernel)) ggX9_find_X9_lotAt
set_option maxRecDepth 20000 in
theorem ggX9_find_X5_cellOf : GoodIn wsX9_find wsX5_cellOf := goodIn_r _ [15, 16, 33, 34] (by decide +kernel) (by decide +kernel)
set_option maxRecDepth 20000 in
theorem gX9_find_X5_cellOf : GoodIn wsX9_find (wsV RX9 220 RX5 yX5_cellOf wsX5_cellOf) := goodIn_app (goodIn_of _ (by decide +kernel)) ggX9_find_X5_cellOf
theorem dX9_find_0 : decode cX9_find 0 = .ok (.aload_n 0, 1) := by decide +kernel
theorem dX9_find_1 : decode cX9_find 1 = .ok (.iload_n 1, 1) := by decide +kernel
theorem dX9_find_2 : decode cX9_find 2 = .ok (.invokevirtual 128, 3) := by decide +kernel
theorem dX9_find_5 : decode cX9_find 5 = .ok (.pop, 1) := by decide +kernel
theorem dX9_find_6 : decode cX9_find 6 = .ok (.aload_n 0, 1) := by decide +kernel
theorem dX9_find_7 : decode cX9_find 7 = .ok (.getfield 36, 3) := by decide +kernel
theorem dX9_find_10 : decode cX9_find 10 = .ok (.iload_n 1, 1) := by decide +kernel
theorem dX9_find_11 : decode cX9_find 11 = .ok (.iload_n 2, 1) := by decide +kernel
theorem dX9_find_12 : decode cX9_find 12 = .ok (.invokevirtual 220, 3) := by decide +kernel
theorem dX9_find_15 : decode cX9_find 15 = .ok (.ireturn, 1) := by decide +kernel
set_option maxRecDepth 20000 in
theorem ggX9_sell_X9_requireCell : GoodIn wsX9_sell wsX9_requireCell := goodIn_ca (goodIn_r _ [9, 10, 11] (by decide +kernel) (by decide +kernel)) (goodIn_sub (fun _ h => List.mem_cons_of_mem _ (List.mem_append_left _ (List.mem_append_right _ h))) (by decide +kernel))
set_option maxRecDepth 20000 in
theorem gX9_sell_X9_requireCell : GoodIn wsX9_sell (va_wsS RX9 188 yX9_requireCell wsX9_requireCell) := goodIn_app (goodIn_of _ (by decide +kernel)) ggX9_sell_X9_requireCell
set_option maxRecDepth 20000 in
theorem ggX9_sell_X5_isEmpty : GoodIn wsX9_sell wsX5_isEmpty := goodIn_r _ [16, 17, 70, 71] (by decide +kernel) (by decide +kernel)
set_option maxRecDepth 20000 in
theorem gX9_sell_X5_isEmpty : GoodIn wsX9_sell (wsV RX9 224 RX5 yX5_isEmpty wsX5_isEmpty) := goodIn_app (goodIn_of _ (by decide +kernel)) ggX9_sell_X5_isEmpty
set_option maxRecDepth 20000 in
theorem ggX9_sell_X9_lotAt : GoodIn wsX9_sell wsX9_lotAt := goodIn_ca (goodIn_r _ [21, 22, 23, 24, 25, 54, 55, 56, 57, 58, 59, 60, 61, 62, 63, 64, 65, 66, 67, 68, 69] (by decide +kernel) (by decide +kernel)) (goodIn_sub (fun _ h => List.mem_cons_of_mem _ (List.mem_append_right _ h)) (by decide +kernel))
set_option maxRecDepth 20000 in
theorem gX9_sell_X9_lotAt : GoodIn wsX9_sell (wsV RX9 128 RX9 yX9_lotAt wsX9_lotAt) := goodIn_app (goodIn_of _ (by decide +kernel)) ggX9_sell_X9_lotAt
set_option maxRecDepth 20000 in
theorem ggX9_sell_X9_yearNow : GoodIn wsX9_sell wsX9_yearNow := goodIn_r _ [29, 30, 54, 55, 56, 57, 58, 59, 60, 61, 62, 63, 64, 65, 66, 67, 68, 69] (by decide +kernel) (by decide +kernel)
set_option maxRecDepth 20000 in
theorem gX9_sell_X9_yearNow : GoodIn wsX9_sell (wsV RX9 172 RX9 yX9_yearNow wsX9_yearNow) := goodIn_app (goodIn_of _ (by decide +kernel)) ggX9_sell_X9_yearNow
set_option maxRecDepth 20000 in
theorem ggX9_sell_X3_maySellIn : GoodIn wsX9_sell wsX3_maySellIn := goodIn_r _ [35, 36, 37, 38, 39, 80, 81, 82, 83, 84, 85, 86, 87, 88, 89, 90, 91, 92] (by decide +kernel) (by decide +kernel)
set_option maxRecDepth 20000 in
theorem gX9_sell_X3_maySellIn : GoodIn wsX9_sell (wsV RX9 228 RX3 yX3_maySellIn wsX3_maySellIn) := goodIn_app (goodIn_of _ (by decide +kernel)) ggX9_sell_X3_maySellIn
set_option maxRecDepth 20000 in
theorem ggX9_sell_X3_worthIn : GoodIn wsX9_sell wsX3_worthIn := goodIn_r _ [43, 36, 44, 37, 45, 46, 47, 48, 38, 39, 80, 81, 82, 83, 84, 85, 86, 87, 88, 89, 90, 91, 92] (by decide +kernel) (by decide +kernel)
set_option maxRecDepth 20000 in
theorem gX9_sell_X3_worthIn : GoodIn wsX9_sell (wsV RX9 166 RX3 yX3_worthIn wsX3_worthIn) := goodIn_app (goodIn_of _ (by decide +kernel)) ggX9_sell_X3_worthIn
set_option maxRecDepth 20000 in
theorem ggX9_sell_X5_remove : GoodIn wsX9_sell wsX5_remove := goodIn_r _ [52, 17, 53, 70, 71] (by decide +kernel) (by decide +kernel)
set_option maxRecDepth 20000 in
theorem gX9_sell_X5_remove : GoodIn wsX9_sell (wsV RX9 216 RX5 yX5_remove wsX5_remove) := goodIn_app (goodIn_of _ (by decide +kernel)) ggX9_sell_X5_remove
theorem dX9_sell_0 : decode cX9_sell 0 = .ok (.iload_n 1, 1) := by decide +kernel
theorem dX9_sell_1 : decode cX9_sell 1 = .ok (.invokestatic 188, 3) := by decide +kernel
theorem dX9_sell_4 : decode cX9_sell 4 = .ok (.aload_n 0, 1) := by decide +kernel
theorem dX9_sell_5 : decode cX9_sell 5 = .ok (.getfield 36, 3) := by decide +kernel
theorem dX9_sell_8 : decode cX9_sell 8 = .ok (.iload_n 1, 1) := by decide +kernel
theorem dX9_sell_9 : decode cX9_sell 9 = .ok (.invokevirtual 224, 3) := by decide +kernel
theorem dX9_sell_12 : decode cX9_sell 12 = .ok (.ifCond .eq 5, 3) := by decide +kernel
theorem dX9_sell_15 : decode cX9_sell 15 = .ok (.iconst (-1), 1) := by decide +kernel
theorem dX9_sell_16 : decode cX9_sell 16 = .ok (.ireturn, 1) := by decide +kernel
theorem dX9_sell_17 : decode cX9_sell 17 = .ok (.aload_n 0, 1) := by decide +kernel
theorem dX9_sell_18 : decode cX9_sell 18 = .ok (.aload_n 0, 1) := by decide +kernel
theorem dX9_sell_19 : decode cX9_sell 19 = .ok (.getfield 36, 3) := by decide +kernel
theorem dX9_sell_22 : decode cX9_sell 22 = .ok (.getfield 214, 3) := by decide +kernel
theorem dX9_sell_25 : decode cX9_sell 25 = .ok (.iload_n 1, 1) := by decide +kernel
theorem dX9_sell_26 : decode cX9_sell 26 = .ok (.iaload, 1) := by decide +kernel
theorem dX9_sell_27 : decode cX9_sell 27 = .ok (.invokevirtual 128, 3) := by decide +kernel
theorem dX9_sell_30 : decode cX9_sell 30 = .ok (.astore_n 2, 1) := by decide +kernel
theorem dX9_sell_31 : decode cX9_sell 31 = .ok (.aload_n 2, 1) := by decide +kernel
theorem dX9_sell_32 : decode cX9_sell 32 = .ok (.aload_n 0, 1) := by decide +kernel
theorem dX9_sell_33 : decode cX9_sell 33 = .ok (.invokevirtual 172, 3) := by decide +kernel
theorem dX9_sell_36 : decode cX9_sell 36 = .ok (.invokevirtual 228, 3) := by decide +kernel
theorem dX9_sell_39 : decode cX9_sell 39 = .ok (.ifCond .ne 6, 3) := by decide +kernel
theorem dX9_sell_42 : decode cX9_sell 42 = .ok (.bipush (-2), 2) := by decide +kernel
theorem dX9_sell_44 : decode cX9_sell 44 = .ok (.ireturn, 1) := by decide +kernel
theorem dX9_sell_45 : decode cX9_sell 45 = .ok (.aload_n 2, 1) := by decide +kernel
theorem dX9_sell_46 : decode cX9_sell 46 = .ok (.aload_n 0, 1) := by decide +kernel
theorem dX9_sell_47 : decode cX9_sell 47 = .ok (.invokevirtual 172, 3) := by decide +kernel
theorem dX9_sell_50 : decode cX9_sell 50 = .ok (.invokevirtual 166, 3) := by decide +kernel
theorem dX9_sell_53 : decode cX9_sell 53 = .ok (.istore_n 3, 1) := by decide +kernel
theorem dX9_sell_54 : decode cX9_sell 54 = .ok (.aload_n 0, 1) := by decide +kernel
theorem dX9_sell_55 : decode cX9_sell 55 = .ok (.getfield 36, 3) := by decide +kernel
theorem dX9_sell_58 : decode cX9_sell 58 = .ok (.iload_n 1, 1) := by decide +kernel
theorem dX9_sell_59 : decode cX9_sell 59 = .ok (.iconst 1, 1) := by decide +kernel
theorem dX9_sell_60 : decode cX9_sell 60 = .ok (.invokevirtual 216, 3) := by decide +kernel
theorem dX9_sell_63 : decode cX9_sell 63 = .ok (.aload_n 0, 1) := by decide +kernel
theorem dX9_sell_64 : decode cX9_sell 64 = .ok (.getfield 50, 3) := by decide +kernel
theorem dX9_sell_67 : decode cX9_sell 67 = .ok (.dup, 1) := by decide +kernel
theorem dX9_sell_68 : decode cX9_sell 68 = .ok (.getfield 231, 3) := by decide +kernel
theorem dX9_sell_71 : decode cX9_sell 71 = .ok (.iconst 1, 1) := by decide +kernel
theorem dX9_sell_72 : decode cX9_sell 72 = .ok (.iadd, 1) := by decide +kernel
theorem dX9_sell_73 : decode cX9_sell 73 = .ok (.putfield 231, 3) := by decide +kernel
theorem dX9_sell_76 : decode cX9_sell 76 = .ok (.aload_n 0, 1) := by decide +kernel
theorem dX9_sell_77 : decode cX9_sell 77 = .ok (.getfield 50, 3) := by decide +kernel
theorem dX9_sell_80 : decode cX9_sell 80 = .ok (.dup, 1) := by decide +kernel
theorem dX9_sell_81 : decode cX9_sell 81 = .ok (.getfield 234, 3) := by decide +kernel
theorem dX9_sell_84 : decode cX9_sell 84 = .ok (.iload_n 3, 1) := by decide +kernel
theorem dX9_sell_85 : decode cX9_sell 85 = .ok (.i2l, 1) := by decide +kernel
theorem dX9_sell_86 : decode cX9_sell 86 = .ok (.ladd, 1) := by decide +kernel
theorem dX9_sell_87 : decode cX9_sell 87 = .ok (.putfield 234, 3) := by decide +kernel
theorem dX9_sell_90 : decode cX9_sell 90 = .ok (.iload_n 3, 1) := by decide +kernel
theorem dX9_sell_91 : decode cX9_sell 91 = .ok (.ireturn, 1) := by decide +kernel
set_option maxRecDepth 20000 in
theorem ggX9_broken_X9_requireCell : GoodIn wsX9_broken wsX9_requireCell := goodIn_ca (goodIn_r _ [8, 9, 10] (by decide +kernel) (by decide +kernel)) (goodIn_sub (fun _ h => List.mem_cons_of_mem _ (List.mem_append_right _ h)) (by decide +kernel))
set_option maxRecDepth 20000 in
theorem gX9_broken_X9_requireCell : GoodIn wsX9_broken (va_wsS RX9 188 yX9_requireCell wsX9_requireCell) := goodIn_app (goodIn_of _ (by decide +kernel)) ggX9_broken_X9_requireCell
set_option maxRecDepth 20000 in
theorem ggX9_broken_X5_isEmpty : GoodIn wsX9_broken wsX5_isEmpty := goodIn_r _ [15, 16, 46, 47] (by decide +kernel) (by decide +kernel)
set_option maxRecDepth 20000 in
theorem gX9_broken_X5_isEmpty : GoodIn wsX9_broken (wsV RX9 224 RX5 yX5_isEmpty wsX5_isEmpty) := goodIn_app (goodIn_of _ (by decide +kernel)) ggX9_broken_X5_isEmpty
set_option maxRecDepth 20000 in
theorem ggX9_broken_X5_remove : GoodIn wsX9_broken wsX5_remove := goodIn_r _ [20, 16, 21, 46, 47] (by decide +kernel) (by decide +kernel)
set_option maxRecDepth 20000 in
theorem gX9_broken_X5_remove : GoodIn wsX9_broken (wsV RX9 216 RX5 yX5_remove wsX5_remove) := goodIn_app (goodIn_of _ (by decide +kernel)) ggX9_broken_X5_remove
theorem dX9_broken_0 : decode cX9_broken 0 = .ok (.iload_n 1, 1) := by decide +kernel
theorem dX9_broken_1 : decode cX9_broken 1 = .ok (.invokestatic 188, 3) := by decide +kernel
theorem dX9_broken_4 : decode cX9_broken 4 = .ok (.aload_n 0, 1) := by decide +kernel
theorem dX9_broken_5 : decode cX9_broken 5 = .ok (.getfield 36, 3) := by decide +kernel
theorem dX9_broken_8 : decode cX9_broken 8 = .ok (.iload_n 1, 1) := by decide +kernel
theorem dX9_broken_9 : decode cX9_broken 9 = .ok (.invokevirtual 224, 3) := by decide +kernel
theorem dX9_broken_12 : decode cX9_broken 12 = .ok (.ifCond .eq 5, 3) := by decide +kernel
theorem dX9_broken_15 : decode cX9_broken 15 = .ok (.iconst (-1), 1) := by decide +kernel
theorem dX9_broken_16 : decode cX9_broken 16 = .ok (.ireturn, 1) := by decide +kernel
theorem dX9_broken_17 : decode cX9_broken 17 = .ok (.aload_n 0, 1) := by decide +kernel
theorem dX9_broken_18 : decode cX9_broken 18 = .ok (.getfield 36, 3) := by decide +kernel
theorem dX9_broken_21 : decode cX9_broken 21 = .ok (.iload_n 1, 1) := by decide +kernel
theorem dX9_broken_22 : decode cX9_broken 22 = .ok (.iconst 1, 1) := by decide +kernel
theorem dX9_broken_23 : decode cX9_broken 23 = .ok (.invokevirtual 216, 3) := by decide +kernel
theorem dX9_broken_26 : decode cX9_broken 26 = .ok (.aload_n 0, 1) := by decide +kernel
theorem dX9_broken_27 : decode cX9_broken 27 = .ok (.getfield 50, 3) := by decide +kernel
theorem dX9_broken_30 : decode cX9_broken 30 = .ok (.dup, 1) := by decide +kernel
theorem dX9_broken_31 : decode cX9_broken 31 = .ok (.getfield 238, 3) := by decide +kernel
theorem dX9_broken_34 : decode cX9_broken 34 = .ok (.iconst 1, 1) := by decide +kernel
theorem dX9_broken_35 : decode cX9_broken 35 = .ok (.iadd, 1) := by decide +kernel
theorem dX9_broken_36 : decode cX9_broken 36 = .ok (.putfield 238, 3) := by decide +kernel
theorem dX9_broken_39 : decode cX9_broken 39 = .ok (.aload_n 0, 1) := by decide +kernel
theorem dX9_broken_40 : decode cX9_broken 40 = .ok (.getfield 36, 3) := by decide +kernel
theorem dX9_broken_43 : decode cX9_broken 43 = .ok (.getfield 209, 3) := by decide +kernel
theorem dX9_broken_46 : decode cX9_broken 46 = .ok (.iload_n 1, 1) := by decide +kernel
theorem dX9_broken_47 : decode cX9_broken 47 = .ok (.iaload, 1) := by decide +kernel
theorem dX9_broken_48 : decode cX9_broken 48 = .ok (.ireturn, 1) := by decide +kernel
set_option maxRecDepth 20000 in
theorem ggX9_counted_X9_requireCell : GoodIn wsX9_counted wsX9_requireCell := goodIn_ca (goodIn_r _ [13, 14, 15] (by decide +kernel) (by decide +kernel)) (goodIn_sub (fun _ h => List.mem_cons_of_mem _ (List.mem_append_right _ h)) (by decide +kernel))
set_option maxRecDepth 20000 in
theorem gX9_counted_X9_requireCell : GoodIn wsX9_counted (va_wsS RX9 188 yX9_requireCell wsX9_requireCell) := goodIn_app (goodIn_of _ (by decide +kernel)) ggX9_counted_X9_requireCell
set_option maxRecDepth 20000 in
theorem ggX9_counted_X9_isWithin : GoodIn wsX9_counted wsX9_isWithin := goodIn_r _ [18] (by decide +kernel) (by decide +kernel)
set_option maxRecDepth 20000 in
theorem gX9_counted_X9_isWithin : GoodIn wsX9_counted (va_wsS RX9 90 yX9_isWithin wsX9_isWithin) := goodIn_app (goodIn_of _ (by decide +kernel)) ggX9_counted_X9_isWithin
set_option maxRecDepth 20000 in
theorem ggX9_counted_X5_isEmpty : GoodIn wsX9_counted wsX5_isEmpty := goodIn_r _ [23, 24, 50, 51] (by decide +kernel) (by decide +kernel)
set_option maxRecDepth 20000 in
theorem gX9_counted_X5_isEmpty : GoodIn wsX9_counted (wsV RX9 224 RX5 yX5_isEmpty wsX5_isEmpty) := goodIn_app (goodIn_of _ (by decide +kernel)) ggX9_counted_X5_isEmpty
set_option maxRecDepth 20000 in
theorem ggX9_counted_X5_add : GoodIn wsX9_counted wsX5_add := goodIn_r _ [28, 29, 24, 50, 51] (by decide +kernel) (by decide +kernel)
set_option maxRecDepth 20000 in
theorem gX9_counted_X5_add : GoodIn wsX9_counted (wsV RX9 202 RX5 yX5_add wsX5_add) := goodIn_app (goodIn_of _ (by decide +kernel)) ggX9_counted_X5_add
set_option maxRecDepth 20000 in
theorem ggX9_counted_X5_remove : GoodIn wsX9_counted wsX5_remove := goodIn_r _ [33, 24, 29, 50, 51] (by decide +kernel) (by decide +kernel)
set_option maxRecDepth 20000 in
theorem gX9_counted_X5_remove : GoodIn wsX9_counted (wsV RX9 216 RX5 yX5_remove wsX5_remove) := goodIn_app (goodIn_of _ (by decide +kernel)) ggX9_counted_X5_remove
theorem dX9_counted_0 : decode cX9_counted 0 = .ok (.iload_n 1, 1) := by decide +kernel
theorem dX9_counted_1 : decode cX9_counted 1 = .ok (.invokestatic 188, 3) := by decide +kernel
theorem dX9_counted_4 : decode cX9_counted 4 = .ok (.iload_n 2, 1) := by decide +kernel
theorem dX9_counted_5 : decode cX9_counted 5 = .ok (.i2l, 1) := by decide +kernel
theorem dX9_counted_6 : decode cX9_counted 6 = .ok (.lconst 0, 1) := by decide +kernel
theorem dX9_counted_7 : decode cX9_counted 7 = .ok (.ldc2_w 191, 3) := by decide +kernel
theorem dX9_counted_10 : decode cX9_counted 10 = .ok (.invokestatic 90, 3) := by decide +kernel
theorem dX9_counted_13 : decode cX9_counted 13 = .ok (.ifCond .ne 13, 3) := by decide +kernel
theorem dX9_counted_16 : decode cX9_counted 16 = .ok (.new 96, 3) := by decide +kernel
theorem dX9_counted_19 : decode cX9_counted 19 = .ok (.dup, 1) := by decide +kernel
theorem dX9_counted_20 : decode cX9_counted 20 = .ok (.ldc 193, 2) := by decide +kernel
theorem dX9_counted_22 : decode cX9_counted 22 = .ok (.invokespecial 100, 3) := by decide +kernel
theorem dX9_counted_25 : decode cX9_counted 25 = .ok (.athrow, 1) := by decide +kernel
theorem dX9_counted_26 : decode cX9_counted 26 = .ok (.aload_n 0, 1) := by decide +kernel
theorem dX9_counted_27 : decode cX9_counted 27 = .ok (.getfield 36, 3) := by decide +kernel
theorem dX9_counted_30 : decode cX9_counted 30 = .ok (.iload_n 1, 1) := by decide +kernel
theorem dX9_counted_31 : decode cX9_counted 31 = .ok (.invokevirtual 224, 3) := by decide +kernel
theorem dX9_counted_34 : decode cX9_counted 34 = .ok (.ifCond .eq 6, 3) := by decide +kernel
theorem dX9_counted_37 : decode cX9_counted 37 = .ok (.bipush (-100), 2) := by decide +kernel
theorem dX9_counted_39 : decode cX9_counted 39 = .ok (.ireturn, 1) := by decide +kernel
theorem dX9_counted_40 : decode cX9_counted 40 = .ok (.iload_n 2, 1) := by decide +kernel
theorem dX9_counted_41 : decode cX9_counted 41 = .ok (.aload_n 0, 1) := by decide +kernel
theorem dX9_counted_42 : decode cX9_counted 42 = .ok (.getfield 36, 3) := by decide +kernel
theorem dX9_counted_45 : decode cX9_counted 45 = .ok (.getfield 209, 3) := by decide +kernel
theorem dX9_counted_48 : decode cX9_counted 48 = .ok (.iload_n 1, 1) := by decide +kernel
theorem dX9_counted_49 : decode cX9_counted 49 = .ok (.iaload, 1) := by decide +kernel
theorem dX9_counted_50 : decode cX9_counted 50 = .ok (.isub, 1) := by decide +kernel
theorem dX9_counted_51 : decode cX9_counted 51 = .ok (.istore_n 3, 1) := by decide +kernel
theorem dX9_counted_52 : decode cX9_counted 52 = .ok (.iload_n 3, 1) := by decide +kernel
theorem dX9_counted_53 : decode cX9_counted 53 = .ok (.ifCond .le 37, 3) := by decide +kernel
theorem dX9_counted_56 : decode cX9_counted 56 = .ok (.aload_n 0, 1) := by decide +kernel
theorem dX9_counted_57 : decode cX9_counted 57 = .ok (.getfield 36, 3) := by decide +kernel
theorem dX9_counted_60 : decode cX9_counted 60 = .ok (.iload_n 1, 1) := by decide +kernel
theorem dX9_counted_61 : decode cX9_counted 61 = .ok (.aload_n 0, 1) := by decide +kernel
theorem dX9_counted_62 : decode cX9_counted 62 = .ok (.getfield 36, 3) := by decide +kernel
theorem dX9_counted_65 : decode cX9_counted 65 = .ok (.getfield 214, 3) := by decide +kernel
theorem dX9_counted_68 : decode cX9_counted 68 = .ok (.iload_n 1, 1) := by decide +kernel
theorem dX9_counted_69 : decode cX9_counted 69 = .ok (.iaload, 1) := by decide +kernel
theorem dX9_counted_70 : decode cX9_counted 70 = .ok (.iload_n 3, 1) := by decide +kernel
theorem dX9_counted_71 : decode cX9_counted 71 = .ok (.invokevirtual 202, 3) := by decide +kernel
theorem dX9_counted_74 : decode cX9_counted 74 = .ok (.aload_n 0, 1) := by decide +kernel
theorem dX9_counted_75 : decode cX9_counted 75 = .ok (.getfield 50, 3) := by decide +kernel
theorem dX9_counted_78 : decode cX9_counted 78 = .ok (.dup, 1) := by decide +kernel
theorem dX9_counted_79 : decode cX9_counted 79 = .ok (.getfield 241, 3) := by decide +kernel
theorem dX9_counted_82 : decode cX9_counted 82 = .ok (.iload_n 3, 1) := by decide +kernel
theorem dX9_counted_83 : decode cX9_counted 83 = .ok (.iadd, 1) := by decide +kernel
theorem dX9_counted_84 : decode cX9_counted 84 = .ok (.putfield 241, 3) := by decide +kernel
theorem dX9_counted_87 : decode cX9_counted 87 = .ok (.goto 26, 3) := by decide +kernel
theorem dX9_counted_90 : decode cX9_counted 90 = .ok (.aload_n 0, 1) := by decide +kernel
theorem dX9_counted_91 : decode cX9_counted 91 = .ok (.getfield 36, 3) := by decide +kernel
theorem dX9_counted_94 : decode cX9_counted 94 = .ok (.iload_n 1, 1) := by decide +kernel
theorem dX9_counted_95 : decode cX9_counted 95 = .ok (.iload_n 3, 1) := by decide +kernel
theorem dX9_counted_96 : decode cX9_counted 96 = .ok (.ineg, 1) := by decide +kernel
theorem dX9_counted_97 : decode cX9_counted 97 = .ok (.invokevirtual 216, 3) := by decide +kernel
theorem dX9_counted_100 : decode cX9_counted 100 = .ok (.aload_n 0, 1) := by decide +kernel
theorem dX9_counted_101 : decode cX9_counted 101 = .ok (.getfield 50, 3) := by decide +kernel
theorem dX9_counted_104 : decode cX9_counted 104 = .ok (.dup, 1) := by decide +kernel
theorem dX9_counted_105 : decode cX9_counted 105 = .ok (.getfield 238, 3) := by decide +kernel
theorem dX9_counted_108 : decode cX9_counted 108 = .ok (.iload_n 3, 1) := by decide +kernel
theorem dX9_counted_109 : decode cX9_counted 109 = .ok (.isub, 1) := by decide +kernel
theorem dX9_counted_110 : decode cX9_counted 110 = .ok (.putfield 238, 3) := by decide +kernel
theorem dX9_counted_113 : decode cX9_counted 113 = .ok (.iload_n 3, 1) := by decide +kernel
theorem dX9_counted_114 : decode cX9_counted 114 = .ok (.ireturn, 1) := by decide +kernel
set_option maxRecDepth 20000 in
theorem ggX9_glass_X9_lotAt : GoodIn wsX9_glass wsX9_lotAt := goodIn_ca (goodIn_r _ [7, 8, 9, 10, 11, 68, 69, 70, 71, 72, 73, 74, 75, 76, 77, 78, 79, 80, 81, 82, 83] (by decide +kernel) (by decide +kernel)) (goodIn_sub (fun _ h => List.mem_cons_of_mem _ (List.mem_append_right _ h)) (by decide +kernel))
set_option maxRecDepth 20000 in
theorem gX9_glass_X9_lotAt : GoodIn wsX9_glass (wsV RX9 128 RX9 yX9_lotAt wsX9_lotAt) := goodIn_app (goodIn_of _ (by decide +kernel)) ggX9_glass_X9_lotAt
set_option maxRecDepth 20000 in
theorem ggX9_glass_X9_yearNow : GoodIn wsX9_glass wsX9_yearNow := goodIn_r _ [15, 2, 68, 69, 70, 71, 72, 73, 74, 75, 76, 77, 78, 79, 80, 81, 82, 83] (by decide +kernel) (by decide +kernel)
set_option maxRecDepth 20000 in
theorem gX9_glass_X9_yearNow : GoodIn wsX9_glass (wsV RX9 172 RX9 yX9_yearNow wsX9_yearNow) := goodIn_app (goodIn_of _ (by decide +kernel)) ggX9_glass_X9_yearNow
set_option maxRecDepth 20000 in
theorem ggX9_glass_X3_maySellIn : GoodIn wsX9_glass wsX3_maySellIn := goodIn_r _ [20, 21, 22, 23, 24, 84, 85, 86, 87, 88, 89, 90, 91, 92, 93, 94, 95, 96] (by decide +kernel) (by decide +kernel)
set_option maxRecDepth 20000 in
theorem gX9_glass_X3_maySellIn : GoodIn wsX9_glass (wsV RX9 228 RX3 yX3_maySellIn wsX3_maySellIn) := goodIn_app (goodIn_of _ (by decide +kernel)) ggX9_glass_X3_maySellIn
set_option maxRecDepth 20000 in
theorem ggX9_glass_X3_isOpen : GoodIn wsX9_glass wsX3_isOpen := goodIn_r _ [28, 29, 84, 85, 86, 87, 88, 89, 90, 91] (by decide +kernel) (by decide +kernel)
set_option maxRecDepth 20000 in
theorem gX9_glass_X3_isOpen : GoodIn wsX9_glass (wsV RX9 151 RX3 yX3_isOpen wsX3_isOpen) := goodIn_app (goodIn_of _ (by decide +kernel)) ggX9_glass_X3_isOpen
set_option maxRecDepth 20000 in
theorem ggX9_glass_X5_cellOf : GoodIn wsX9_glass wsX5_cellOf := goodIn_r _ [34, 35, 97, 98] (by decide +kernel) (by decide +kernel)
set_option maxRecDepth 20000 in
theorem gX9_glass_X5_cellOf : GoodIn wsX9_glass (wsV RX9 220 RX5 yX5_cellOf wsX5_cellOf) := goodIn_app (goodIn_of _ (by decide +kernel)) ggX9_glass_X5_cellOf
set_option maxRecDepth 20000 in
theorem ggX9_glass_X9_openBottles : GoodIn wsX9_glass wsX9_openBottles := goodIn_r _ [39, 10, 11, 25, 26, 27, 19, 28, 29, 68, 69, 70, 71, 72, 73, 74, 75, 76, 77, 78, 79, 80, 81, 82, 83, 84, 85, 86, 87, 88, 89, 90, 91] (by decide +kernel) (by decide +kernel)
set_option maxRecDepth 20000 in
theorem gX9_glass_X9_openBottles : GoodIn wsX9_glass (wsV RX9 244 RX9 yX9_openBottles wsX9_openBottles) := goodIn_app (goodIn_of _ (by decide +kernel)) ggX9_glass_X9_openBottles
set_option maxRecDepth 20000 in
theorem ggX9_glass_X5_remove : GoodIn wsX9_glass wsX5_remove := goodIn_r _ [43, 44, 35, 97, 98] (by decide +kernel) (by decide +kernel)
set_option maxRecDepth 20000 in
theorem gX9_glass_X5_remove : GoodIn wsX9_glass (wsV RX9 216 RX5 yX5_remove wsX5_remove) := goodIn_app (goodIn_of _ (by decide +kernel)) ggX9_glass_X5_remove
set_option maxRecDepth 20000 in
theorem ggX9_glass_X3_open : GoodIn wsX9_glass wsX3_open := goodIn_r _ [48, 49, 29, 84, 85, 86, 87, 88, 89, 90, 91] (by decide +kernel) (by decide +kernel)
set_option maxRecDepth 20000 in
theorem gX9_glass_X3_open : GoodIn wsX9_glass (wsV RX9 247 RX3 yX3_open wsX3_open) := goodIn_app (goodIn_of _ (by decide +kernel)) ggX9_glass_X3_open
set_option maxRecDepth 20000 in
theorem ggX9_glass_X9_pour : GoodIn wsX9_glass wsX9_pour := goodIn_r _ [53, 54, 55, 56, 57, 58, 25, 26, 27, 19, 28, 29, 12, 13, 14, 6, 15, 2, 59, 60, 61, 62, 21, 63, 22, 64, 65, 66, 67, 23, 24, 84, 85, 86, 87, 88, 89, 90, 91, 68, 69, 70, 71, 72, 73, 74, 75, 76, 77, 78, 79, 80, 81, 82, 83, 99, 100, 101, 102, 103, 104, 105, 106, 92, 93, 94, 95, 96] (by decide +kernel) (by decide +kernel)
set_option maxRecDepth 20000 in
theorem gX9_glass_X9_pour : GoodIn wsX9_glass (wsV RX9 250 RX9 yX9_pour wsX9_pour) := goodIn_app (goodIn_of _ (by decide +kernel)) ggX9_glass_X9_pour
theorem dX9_glass_0 : decode cX9_glass 0 = .ok (.aload_n 0, 1) := by decide +kernel
theorem dX9_glass_1 : decode cX9_glass 1 = .ok (.iload_n 1, 1) := by decide +kernel
theorem dX9_glass_2 : decode cX9_glass 2 = .ok (.invokevirtual 128, 3) := by decide +kernel
theorem dX9_glass_5 : decode cX9_glass 5 = .ok (.astore_n 2, 1) := by decide +kernel
theorem dX9_glass_6 : decode cX9_glass 6 = .ok (.aload_n 2, 1) := by decide +kernel
theorem dX9_glass_7 : decode cX9_glass 7 = .ok (.aload_n 0, 1) := by decide +kernel
theorem dX9_glass_8 : decode cX9_glass 8 = .ok (.invokevirtual 172, 3) := by decide +kernel
theorem dX9_glass_11 : decode cX9_glass 11 = .ok (.invokevirtual 228, 3) := by decide +kernel
theorem dX9_glass_14 : decode cX9_glass 14 = .ok (.ifCond .ne 5, 3) := by decide +kernel
theorem dX9_glass_17 : decode cX9_glass 17 = .ok (.iconst (-1), 1) := by decide +kernel
theorem dX9_glass_18 : decode cX9_glass 18 = .ok (.ireturn, 1) := by decide +kernel
theorem dX9_glass_19 : decode cX9_glass 19 = .ok (.aload_n 2, 1) := by decide +kernel
theorem dX9_glass_20 : decode cX9_glass 20 = .ok (.invokevirtual 151, 3) := by decide +kernel
theorem dX9_glass_23 : decode cX9_glass 23 = .ok (.ifCond .ne 50, 3) := by decide +kernel
theorem dX9_glass_26 : decode cX9_glass 26 = .ok (.aload_n 0, 1) := by decide +kernel
theorem dX9_glass_27 : decode cX9_glass 27 = .ok (.getfield 36, 3) := by decide +kernel
theorem dX9_glass_30 : decode cX9_glass 30 = .ok (.iload_n 1, 1) := by decide +kernel
theorem dX9_glass_31 : decode cX9_glass 31 = .ok (.iconst 0, 1) := by decide +kernel
theorem dX9_glass_32 : decode cX9_glass 32 = .ok (.invokevirtual 220, 3) := by decide +kernel
theorem dX9_glass_35 : decode cX9_glass 35 = .ok (.istore_n 3, 1) := by decide +kernel
theorem dX9_glass_36 : decode cX9_glass 36 = .ok (.iload_n 3, 1) := by decide +kernel
theorem dX9_glass_37 : decode cX9_glass 37 = .ok (.iconst (-1), 1) := by decide +kernel
theorem dX9_glass_38 : decode cX9_glass 38 = .ok (.if_icmp .ne 6, 3) := by decide +kernel
theorem dX9_glass_41 : decode cX9_glass 41 = .ok (.bipush (-2), 2) := by decide +kernel
theorem dX9_glass_43 : decode cX9_glass 43 = .ok (.ireturn, 1) := by decide +kernel
theorem dX9_glass_44 : decode cX9_glass 44 = .ok (.aload_n 0, 1) := by decide +kernel
theorem dX9_glass_45 : decode cX9_glass 45 = .ok (.invokevirtual 244, 3) := by decide +kernel
theorem dX9_glass_48 : decode cX9_glass 48 = .ok (.bipush 60, 2) := by decide +kernel
theorem dX9_glass_50 : decode cX9_glass 50 = .ok (.if_icmp .lt 6, 3) := by decide +kernel
theorem dX9_glass_53 : decode cX9_glass 53 = .ok (.bipush (-3), 2) := by decide +kernel
theorem dX9_glass_55 : decode cX9_glass 55 = .ok (.ireturn, 1) := by decide +kernel
theorem dX9_glass_56 : decode cX9_glass 56 = .ok (.aload_n 0, 1) := by decide +kernel
theorem dX9_glass_57 : decode cX9_glass 57 = .ok (.getfield 36, 3) := by decide +kernel
theorem dX9_glass_60 : decode cX9_glass 60 = .ok (.iload_n 3, 1) := by decide +kernel
theorem dX9_glass_61 : decode cX9_glass 61 = .ok (.iconst 1, 1) := by decide +kernel
theorem dX9_glass_62 : decode cX9_glass 62 = .ok (.invokevirtual 216, 3) := by decide +kernel
theorem dX9_glass_65 : decode cX9_glass 65 = .ok (.aload_n 2, 1) := by decide +kernel
theorem dX9_glass_66 : decode cX9_glass 66 = .ok (.aload_n 0, 1) := by decide +kernel
theorem dX9_glass_67 : decode cX9_glass 67 = .ok (.getfield 85, 3) := by decide +kernel
theorem dX9_glass_70 : decode cX9_glass 70 = .ok (.invokevirtual 247, 3) := by decide +kernel
theorem dX9_glass_73 : decode cX9_glass 73 = .ok (.aload_n 0, 1) := by decide +kernel
theorem dX9_glass_74 : decode cX9_glass 74 = .ok (.aload_n 2, 1) := by decide +kernel
theorem dX9_glass_75 : decode cX9_glass 75 = .ok (.invokevirtual 250, 3) := by decide +kernel
theorem dX9_glass_78 : decode cX9_glass 78 = .ok (.ireturn, 1) := by decide +kernel
set_option maxRecDepth 20000 in
theorem ggX9_wait_X9_isWithin : GoodIn wsX9_wait wsX9_isWithin := goodIn_r _ [17] (by decide +kernel) (by decide +kernel)
set_option maxRecDepth 20000 in
theorem gX9_wait_X9_isWithin : GoodIn wsX9_wait (va_wsS RX9 90 yX9_isWithin wsX9_isWithin) := goodIn_app (goodIn_of _ (by decide +kernel)) ggX9_wait_X9_isWithin
set_option maxRecDepth 20000 in
theorem ggX9_wait_X3_isOverdue : GoodIn wsX9_wait wsX3_isOverdue := goodIn_r _ [22, 23, 24, 25, 26, 27, 28, 21, 29, 30, 55, 56, 57, 58, 59, 60, 61, 62, 63, 64, 65, 66, 67] (by decide +kernel) (by decide +kernel)
set_option maxRecDepth 20000 in
theorem gX9_wait_X3_isOverdue : GoodIn wsX9_wait (wsV RX9 264 RX3 yX3_isOverdue wsX3_isOverdue) := goodIn_app (goodIn_of _ (by decide +kernel)) ggX9_wait_X3_isOverdue
theorem dX9_wait_0 : decode cX9_wait 0 = .ok (.iload_n 1, 1) := by decide +kernel
theorem dX9_wait_1 : decode cX9_wait 1 = .ok (.i2l, 1) := by decide +kernel
theorem dX9_wait_2 : decode cX9_wait 2 = .ok (.lconst 0, 1) := by decide +kernel
theorem dX9_wait_3 : decode cX9_wait 3 = .ok (.ldc2_w 254, 3) := by decide +kernel
theorem dX9_wait_6 : decode cX9_wait 6 = .ok (.invokestatic 90, 3) := by decide +kernel
theorem dX9_wait_9 : decode cX9_wait 9 = .ok (.ifCond .ne 14, 3) := by decide +kernel
theorem dX9_wait_12 : decode cX9_wait 12 = .ok (.new 96, 3) := by decide +kernel
theorem dX9_wait_15 : decode cX9_wait 15 = .ok (.dup, 1) := by decide +kernel
theorem dX9_wait_16 : decode cX9_wait 16 = .ok (.ldc_w 256, 3) := by decide +kernel
theorem dX9_wait_19 : decode cX9_wait 19 = .ok (.invokespecial 100, 3) := by decide +kernel
theorem dX9_wait_22 : decode cX9_wait 22 = .ok (.athrow, 1) := by decide +kernel
theorem dX9_wait_23 : decode cX9_wait 23 = .ok (.aload_n 0, 1) := by decide +kernel
theorem dX9_wait_24 : decode cX9_wait 24 = .ok (.getfield 85, 3) := by decide +kernel
theorem dX9_wait_27 : decode cX9_wait 27 = .ok (.iload_n 1, 1) := by decide +kernel
theorem dX9_wait_28 : decode cX9_wait 28 = .ok (.iadd, 1) := by decide +kernel
theorem dX9_wait_29 : decode cX9_wait 29 = .ok (.ldc_w 258, 3) := by decide +kernel
theorem dX9_wait_32 : decode cX9_wait 32 = .ok (.if_icmp .le 14, 3) := by decide +kernel
theorem dX9_wait_35 : decode cX9_wait 35 = .ok (.new 259, 3) := by decide +kernel
theorem dX9_wait_38 : decode cX9_wait 38 = .ok (.dup, 1) := by decide +kernel
theorem dX9_wait_39 : decode cX9_wait 39 = .ok (.ldc_w 261, 3) := by decide +kernel
theorem dX9_wait_42 : decode cX9_wait 42 = .ok (.invokespecial 263, 3) := by decide +kernel
theorem dX9_wait_45 : decode cX9_wait 45 = .ok (.athrow, 1) := by decide +kernel
theorem dX9_wait_46 : decode cX9_wait 46 = .ok (.aload_n 0, 1) := by decide +kernel
