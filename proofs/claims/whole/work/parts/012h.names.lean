set_option maxRecDepth 20000 in
theorem ggX10_isAhead_X10_worthOf : GoodIn wsX10_isAhead wsX10_worthOf := goodIn_r _ [28, 29, 30, 31, 15, 12, 32, 33, 34, 35, 36, 37, 38, 39, 40, 41, 42, 43, 44, 45, 46, 47, 48, 49, 50, 51, 52, 53, 54, 55, 56, 57, 58, 59, 60, 61, 62, 63, 64, 65, 66, 67, 68, 69, 70, 71, 72, 73, 74, 75, 76, 77, 78, 79, 80] (by decide +kernel) (by decide +kernel)
set_option maxRecDepth 20000 in
theorem gX10_isAhead_X10_worthOf : GoodIn wsX10_isAhead (wsV RX10 130 RX10 yX10_worthOf wsX10_worthOf) := goodIn_app (goodIn_of _ (by decide +kernel)) ggX10_isAhead_X10_worthOf
theorem dX10_isAhead_0 : decode cX10_isAhead 0 = .ok (.aload_n 0, 1) := by decide +kernel
theorem dX10_isAhead_1 : decode cX10_isAhead 1 = .ok (.iload_n 1, 1) := by decide +kernel
theorem dX10_isAhead_2 : decode cX10_isAhead 2 = .ok (.iload_n 2, 1) := by decide +kernel
theorem dX10_isAhead_3 : decode cX10_isAhead 3 = .ok (.invokevirtual 245, 3) := by decide +kernel
theorem dX10_isAhead_6 : decode cX10_isAhead 6 = .ok (.aload_n 0, 1) := by decide +kernel
theorem dX10_isAhead_7 : decode cX10_isAhead 7 = .ok (.iload_n 1, 1) := by decide +kernel
theorem dX10_isAhead_8 : decode cX10_isAhead 8 = .ok (.iload_n 3, 1) := by decide +kernel
theorem dX10_isAhead_9 : decode cX10_isAhead 9 = .ok (.invokevirtual 245, 3) := by decide +kernel
theorem dX10_isAhead_12 : decode cX10_isAhead 12 = .ok (.isub, 1) := by decide +kernel
theorem dX10_isAhead_13 : decode cX10_isAhead 13 = .ok (.istore 4, 2) := by decide +kernel
theorem dX10_isAhead_15 : decode cX10_isAhead 15 = .ok (.iload 4, 2) := by decide +kernel
theorem dX10_isAhead_17 : decode cX10_isAhead 17 = .ok (.ifCond .eq 14, 3) := by decide +kernel
theorem dX10_isAhead_20 : decode cX10_isAhead 20 = .ok (.iload 4, 2) := by decide +kernel
theorem dX10_isAhead_22 : decode cX10_isAhead 22 = .ok (.ifCond .le 7, 3) := by decide +kernel
theorem dX10_isAhead_25 : decode cX10_isAhead 25 = .ok (.iconst 1, 1) := by decide +kernel
theorem dX10_isAhead_26 : decode cX10_isAhead 26 = .ok (.goto 4, 3) := by decide +kernel
theorem dX10_isAhead_29 : decode cX10_isAhead 29 = .ok (.iconst 0, 1) := by decide +kernel
theorem dX10_isAhead_30 : decode cX10_isAhead 30 = .ok (.ireturn, 1) := by decide +kernel
theorem dX10_isAhead_31 : decode cX10_isAhead 31 = .ok (.aload_n 0, 1) := by decide +kernel
theorem dX10_isAhead_32 : decode cX10_isAhead 32 = .ok (.iload_n 2, 1) := by decide +kernel
theorem dX10_isAhead_33 : decode cX10_isAhead 33 = .ok (.aload_n 0, 1) := by decide +kernel
theorem dX10_isAhead_34 : decode cX10_isAhead 34 = .ok (.invokevirtual 134, 3) := by decide +kernel
theorem dX10_isAhead_37 : decode cX10_isAhead 37 = .ok (.invokevirtual 130, 3) := by decide +kernel
theorem dX10_isAhead_40 : decode cX10_isAhead 40 = .ok (.aload_n 0, 1) := by decide +kernel
theorem dX10_isAhead_41 : decode cX10_isAhead 41 = .ok (.iload_n 3, 1) := by decide +kernel
theorem dX10_isAhead_42 : decode cX10_isAhead 42 = .ok (.aload_n 0, 1) := by decide +kernel
theorem dX10_isAhead_43 : decode cX10_isAhead 43 = .ok (.invokevirtual 134, 3) := by decide +kernel
theorem dX10_isAhead_46 : decode cX10_isAhead 46 = .ok (.invokevirtual 130, 3) := by decide +kernel
theorem dX10_isAhead_49 : decode cX10_isAhead 49 = .ok (.isub, 1) := by decide +kernel
theorem dX10_isAhead_50 : decode cX10_isAhead 50 = .ok (.istore 4, 2) := by decide +kernel
theorem dX10_isAhead_52 : decode cX10_isAhead 52 = .ok (.iload 4, 2) := by decide +kernel
theorem dX10_isAhead_54 : decode cX10_isAhead 54 = .ok (.ifCond .eq 16, 3) := by decide +kernel
theorem dX10_isAhead_57 : decode cX10_isAhead 57 = .ok (.iload 4, 2) := by decide +kernel
theorem dX10_isAhead_59 : decode cX10_isAhead 59 = .ok (.ifCond .ge 7, 3) := by decide +kernel
theorem dX10_isAhead_62 : decode cX10_isAhead 62 = .ok (.iconst 1, 1) := by decide +kernel
theorem dX10_isAhead_63 : decode cX10_isAhead 63 = .ok (.goto 17, 3) := by decide +kernel
theorem dX10_isAhead_66 : decode cX10_isAhead 66 = .ok (.iconst 0, 1) := by decide +kernel
theorem dX10_isAhead_67 : decode cX10_isAhead 67 = .ok (.goto 13, 3) := by decide +kernel
theorem dX10_isAhead_70 : decode cX10_isAhead 70 = .ok (.iload_n 2, 1) := by decide +kernel
theorem dX10_isAhead_71 : decode cX10_isAhead 71 = .ok (.iload_n 3, 1) := by decide +kernel
theorem dX10_isAhead_72 : decode cX10_isAhead 72 = .ok (.if_icmp .ge 7, 3) := by decide +kernel
theorem dX10_isAhead_75 : decode cX10_isAhead 75 = .ok (.iconst 1, 1) := by decide +kernel
theorem dX10_isAhead_76 : decode cX10_isAhead 76 = .ok (.goto 4, 3) := by decide +kernel
theorem dX10_isAhead_79 : decode cX10_isAhead 79 = .ok (.iconst 0, 1) := by decide +kernel
theorem dX10_isAhead_80 : decode cX10_isAhead 80 = .ok (.ireturn, 1) := by decide +kernel
set_option maxRecDepth 20000 in
theorem ggX10_match_X10_isDish : GoodIn wsX10_match wsX10_isDish := goodIn_r _ [7, 8, 9, 10, 6, 11, 12, 13, 14, 15, 1, 60, 61, 62, 63, 64, 65, 66, 67, 68, 69, 70, 71, 72, 73, 74, 75, 76, 77, 78, 79, 80, 81, 82, 83, 84, 85, 86, 87, 88, 89, 90, 91, 92, 93, 94, 95, 96, 97, 98, 99, 100, 101, 102, 103, 104, 105, 106, 107, 108] (by decide +kernel) (by decide +kernel)
set_option maxRecDepth 20000 in
theorem gX10_match_X10_isDish : GoodIn wsX10_match (wsV RX10 242 RX10 yX10_isDish wsX10_isDish) := goodIn_app (goodIn_of _ (by decide +kernel)) ggX10_match_X10_isDish
set_option maxRecDepth 20000 in
theorem ggX10_match_X10_matches : GoodIn wsX10_match wsX10_matches := goodIn_r _ [19, 20, 21, 22, 23, 24, 6, 25, 26, 27, 28, 29, 30, 31, 32, 60, 61, 62, 63, 64, 65, 66, 67, 68, 69, 70, 71, 72, 73, 74, 75, 76, 77, 78, 79, 80, 81, 82, 83, 84, 85, 86, 87, 88, 89, 90, 91, 92, 93, 94, 95, 96, 97, 98, 99, 100, 101, 102, 103, 104, 105, 106, 107, 108] (by decide +kernel) (by decide +kernel)
set_option maxRecDepth 20000 in
theorem gX10_match_X10_matches : GoodIn wsX10_match (wsV RX10 248 RX10 yX10_matches wsX10_matches) := goodIn_app (goodIn_of _ (by decide +kernel)) ggX10_match_X10_matches
set_option maxRecDepth 20000 in
theorem ggX10_match_X10_isAhead : GoodIn wsX10_match wsX10_isAhead := goodIn_r _ [36, 37, 38, 39, 6, 40, 41, 42, 43, 44, 45, 46, 47, 48, 49, 50, 51, 52, 53, 54, 28, 29, 30, 31, 32, 55, 56, 57, 58, 20, 59, 21, 60, 61, 62, 63, 64, 65, 66, 67, 68, 69, 70, 71, 72, 73, 74, 75, 76, 77, 78, 79, 80, 81, 82, 83, 84, 85, 86, 87, 88, 89, 90, 91, 92, 93, 94, 95, 96, 97, 98, 99, 100, 101, 102, 103, 104, 105, 106, 107, 108] (by decide +kernel) (by decide +kernel)
set_option maxRecDepth 20000 in
theorem gX10_match_X10_isAhead : GoodIn wsX10_match (wsV RX10 251 RX10 yX10_isAhead wsX10_isAhead) := goodIn_app (goodIn_of _ (by decide +kernel)) ggX10_match_X10_isAhead
theorem dX10_match_0 : decode cX10_match 0 = .ok (.aload_n 0, 1) := by decide +kernel
theorem dX10_match_1 : decode cX10_match 1 = .ok (.iconst 0, 1) := by decide +kernel
theorem dX10_match_2 : decode cX10_match 2 = .ok (.putfield 1, 3) := by decide +kernel
theorem dX10_match_5 : decode cX10_match 5 = .ok (.aload_n 0, 1) := by decide +kernel
theorem dX10_match_6 : decode cX10_match 6 = .ok (.iload_n 1, 1) := by decide +kernel
theorem dX10_match_7 : decode cX10_match 7 = .ok (.invokevirtual 242, 3) := by decide +kernel
theorem dX10_match_10 : decode cX10_match 10 = .ok (.ifCond .ne 5, 3) := by decide +kernel
theorem dX10_match_13 : decode cX10_match 13 = .ok (.iconst 0, 1) := by decide +kernel
theorem dX10_match_14 : decode cX10_match 14 = .ok (.ireturn, 1) := by decide +kernel
theorem dX10_match_15 : decode cX10_match 15 = .ok (.iconst 0, 1) := by decide +kernel
theorem dX10_match_16 : decode cX10_match 16 = .ok (.istore_n 3, 1) := by decide +kernel
theorem dX10_match_17 : decode cX10_match 17 = .ok (.iload_n 3, 1) := by decide +kernel
theorem dX10_match_18 : decode cX10_match 18 = .ok (.aload_n 0, 1) := by decide +kernel
theorem dX10_match_19 : decode cX10_match 19 = .ok (.getfield 119, 3) := by decide +kernel
theorem dX10_match_22 : decode cX10_match 22 = .ok (.if_icmp .ge 85, 3) := by decide +kernel
theorem dX10_match_25 : decode cX10_match 25 = .ok (.aload_n 0, 1) := by decide +kernel
theorem dX10_match_26 : decode cX10_match 26 = .ok (.iload_n 3, 1) := by decide +kernel
theorem dX10_match_27 : decode cX10_match 27 = .ok (.invokevirtual 248, 3) := by decide +kernel
theorem dX10_match_30 : decode cX10_match 30 = .ok (.ifCond .ne 6, 3) := by decide +kernel
theorem dX10_match_33 : decode cX10_match 33 = .ok (.goto 68, 3) := by decide +kernel
theorem dX10_match_36 : decode cX10_match 36 = .ok (.iconst 0, 1) := by decide +kernel
theorem dX10_match_37 : decode cX10_match 37 = .ok (.istore 4, 2) := by decide +kernel
theorem dX10_match_39 : decode cX10_match 39 = .ok (.iconst 0, 1) := by decide +kernel
theorem dX10_match_40 : decode cX10_match 40 = .ok (.istore 5, 2) := by decide +kernel
theorem dX10_match_42 : decode cX10_match 42 = .ok (.iload 5, 2) := by decide +kernel
theorem dX10_match_44 : decode cX10_match 44 = .ok (.aload_n 0, 1) := by decide +kernel
theorem dX10_match_45 : decode cX10_match 45 = .ok (.getfield 119, 3) := by decide +kernel
theorem dX10_match_48 : decode cX10_match 48 = .ok (.if_icmp .ge 45, 3) := by decide +kernel
theorem dX10_match_51 : decode cX10_match 51 = .ok (.iload 4, 2) := by decide +kernel
theorem dX10_match_53 : decode cX10_match 53 = .ok (.iload 5, 2) := by decide +kernel
theorem dX10_match_55 : decode cX10_match 55 = .ok (.iload_n 3, 1) := by decide +kernel
theorem dX10_match_56 : decode cX10_match 56 = .ok (.if_icmp .eq 27, 3) := by decide +kernel
theorem dX10_match_59 : decode cX10_match 59 = .ok (.aload_n 0, 1) := by decide +kernel
theorem dX10_match_60 : decode cX10_match 60 = .ok (.iload 5, 2) := by decide +kernel
theorem dX10_match_62 : decode cX10_match 62 = .ok (.invokevirtual 248, 3) := by decide +kernel
theorem dX10_match_65 : decode cX10_match 65 = .ok (.ifCond .eq 18, 3) := by decide +kernel
theorem dX10_match_68 : decode cX10_match 68 = .ok (.aload_n 0, 1) := by decide +kernel
theorem dX10_match_69 : decode cX10_match 69 = .ok (.iload_n 1, 1) := by decide +kernel
theorem dX10_match_70 : decode cX10_match 70 = .ok (.iload 5, 2) := by decide +kernel
theorem dX10_match_72 : decode cX10_match 72 = .ok (.iload_n 3, 1) := by decide +kernel
theorem dX10_match_73 : decode cX10_match 73 = .ok (.invokevirtual 251, 3) := by decide +kernel
theorem dX10_match_76 : decode cX10_match 76 = .ok (.ifCond .eq 7, 3) := by decide +kernel
theorem dX10_match_79 : decode cX10_match 79 = .ok (.iconst 1, 1) := by decide +kernel
theorem dX10_match_80 : decode cX10_match 80 = .ok (.goto 4, 3) := by decide +kernel
theorem dX10_match_83 : decode cX10_match 83 = .ok (.iconst 0, 1) := by decide +kernel
theorem dX10_match_84 : decode cX10_match 84 = .ok (.iadd, 1) := by decide +kernel
theorem dX10_match_85 : decode cX10_match 85 = .ok (.istore 4, 2) := by decide +kernel
theorem dX10_match_87 : decode cX10_match 87 = .ok (.iinc 5 1, 3) := by decide +kernel
theorem dX10_match_90 : decode cX10_match 90 = .ok (.goto (-48), 3) := by decide +kernel
theorem dX10_match_93 : decode cX10_match 93 = .ok (.iload 4, 2) := by decide +kernel
theorem dX10_match_95 : decode cX10_match 95 = .ok (.iload_n 2, 1) := by decide +kernel
theorem dX10_match_96 : decode cX10_match 96 = .ok (.if_icmp .ne 5, 3) := by decide +kernel
theorem dX10_match_99 : decode cX10_match 99 = .ok (.iload_n 3, 1) := by decide +kernel
theorem dX10_match_100 : decode cX10_match 100 = .ok (.ireturn, 1) := by decide +kernel
theorem dX10_match_101 : decode cX10_match 101 = .ok (.iinc 3 1, 3) := by decide +kernel
theorem dX10_match_104 : decode cX10_match 104 = .ok (.goto (-87), 3) := by decide +kernel
theorem dX10_match_107 : decode cX10_match 107 = .ok (.iconst (-1), 1) := by decide +kernel
theorem dX10_match_108 : decode cX10_match 108 = .ok (.ireturn, 1) := by decide +kernel
set_option maxRecDepth 20000 in
theorem ggX10_sheet_X10_within : GoodIn wsX10_sheet wsX10_within := goodIn_r _ [7] (by decide +kernel) (by decide +kernel)
set_option maxRecDepth 20000 in
theorem gX10_sheet_X10_within : GoodIn wsX10_sheet (va_wsS RX10 108 yX10_within wsX10_within) := goodIn_app (goodIn_of _ (by decide +kernel)) ggX10_sheet_X10_within
set_option maxRecDepth 20000 in
theorem ggX10_sheet_X10_may : GoodIn wsX10_sheet wsX10_may := goodIn_r _ [11, 1, 12, 13, 14, 15, 16, 17, 18, 19, 20, 21, 22, 23, 24, 25, 26, 27, 28, 29, 30, 31, 32, 33, 34, 35, 36, 37, 38, 39, 40, 41, 42, 43, 44, 45, 46, 47, 48, 49, 50, 51, 52, 53, 54, 55, 56, 57, 58, 59, 60] (by decide +kernel) (by decide +kernel)
set_option maxRecDepth 20000 in
theorem gX10_sheet_X10_may : GoodIn wsX10_sheet (wsV RX10 112 RX10 yX10_may wsX10_may) := goodIn_app (goodIn_of _ (by decide +kernel)) ggX10_sheet_X10_may
theorem dX10_sheet_0 : decode cX10_sheet 0 = .ok (.aload_n 0, 1) := by decide +kernel
theorem dX10_sheet_1 : decode cX10_sheet 1 = .ok (.iconst 0, 1) := by decide +kernel
theorem dX10_sheet_2 : decode cX10_sheet 2 = .ok (.putfield 1, 3) := by decide +kernel
theorem dX10_sheet_5 : decode cX10_sheet 5 = .ok (.aload_n 0, 1) := by decide +kernel
theorem dX10_sheet_6 : decode cX10_sheet 6 = .ok (.iload_n 1, 1) := by decide +kernel
theorem dX10_sheet_7 : decode cX10_sheet 7 = .ok (.iconst 0, 1) := by decide +kernel
theorem dX10_sheet_8 : decode cX10_sheet 8 = .ok (.iconst 2, 1) := by decide +kernel
theorem dX10_sheet_9 : decode cX10_sheet 9 = .ok (.invokestatic 108, 3) := by decide +kernel
theorem dX10_sheet_12 : decode cX10_sheet 12 = .ok (.iconst 1, 1) := by decide +kernel
theorem dX10_sheet_13 : decode cX10_sheet 13 = .ok (.invokevirtual 112, 3) := by decide +kernel
theorem dX10_sheet_16 : decode cX10_sheet 16 = .ok (.ifCond .ne 5, 3) := by decide +kernel
theorem dX10_sheet_19 : decode cX10_sheet 19 = .ok (.iconst 0, 1) := by decide +kernel
theorem dX10_sheet_20 : decode cX10_sheet 20 = .ok (.ireturn, 1) := by decide +kernel
theorem dX10_sheet_21 : decode cX10_sheet 21 = .ok (.aload_n 0, 1) := by decide +kernel
theorem dX10_sheet_22 : decode cX10_sheet 22 = .ok (.getfield 254, 3) := by decide +kernel
theorem dX10_sheet_25 : decode cX10_sheet 25 = .ok (.iconst 4, 1) := by decide +kernel
theorem dX10_sheet_26 : decode cX10_sheet 26 = .ok (.if_icmp .ne 5, 3) := by decide +kernel
theorem dX10_sheet_29 : decode cX10_sheet 29 = .ok (.iconst (-1), 1) := by decide +kernel
theorem dX10_sheet_30 : decode cX10_sheet 30 = .ok (.ireturn, 1) := by decide +kernel
theorem dX10_sheet_31 : decode cX10_sheet 31 = .ok (.aload_n 0, 1) := by decide +kernel
theorem dX10_sheet_32 : decode cX10_sheet 32 = .ok (.getfield 77, 3) := by decide +kernel
theorem dX10_sheet_35 : decode cX10_sheet 35 = .ok (.aload_n 0, 1) := by decide +kernel
theorem dX10_sheet_36 : decode cX10_sheet 36 = .ok (.getfield 254, 3) := by decide +kernel
theorem dX10_sheet_39 : decode cX10_sheet 39 = .ok (.iload_n 1, 1) := by decide +kernel
theorem dX10_sheet_40 : decode cX10_sheet 40 = .ok (.iastore, 1) := by decide +kernel
theorem dX10_sheet_41 : decode cX10_sheet 41 = .ok (.aload_n 0, 1) := by decide +kernel
theorem dX10_sheet_42 : decode cX10_sheet 42 = .ok (.dup, 1) := by decide +kernel
theorem dX10_sheet_43 : decode cX10_sheet 43 = .ok (.getfield 254, 3) := by decide +kernel
theorem dX10_sheet_46 : decode cX10_sheet 46 = .ok (.iconst 1, 1) := by decide +kernel
theorem dX10_sheet_47 : decode cX10_sheet 47 = .ok (.iadd, 1) := by decide +kernel
theorem dX10_sheet_48 : decode cX10_sheet 48 = .ok (.putfield 254, 3) := by decide +kernel
theorem dX10_sheet_51 : decode cX10_sheet 51 = .ok (.aload_n 0, 1) := by decide +kernel
theorem dX10_sheet_52 : decode cX10_sheet 52 = .ok (.getfield 254, 3) := by decide +kernel
theorem dX10_sheet_55 : decode cX10_sheet 55 = .ok (.iconst 1, 1) := by decide +kernel
theorem dX10_sheet_56 : decode cX10_sheet 56 = .ok (.isub, 1) := by decide +kernel
theorem dX10_sheet_57 : decode cX10_sheet 57 = .ok (.ireturn, 1) := by decide +kernel
set_option maxRecDepth 20000 in
theorem ggX10_isRow_X10_within : GoodIn wsX10_isRow wsX10_within := goodIn_r _ [5] (by decide +kernel) (by decide +kernel)
set_option maxRecDepth 20000 in
theorem gX10_isRow_X10_within : GoodIn wsX10_isRow (va_wsS RX10 108 yX10_within wsX10_within) := goodIn_app (goodIn_of _ (by decide +kernel)) ggX10_isRow_X10_within
set_option maxRecDepth 20000 in
theorem ggX10_isRow_X10_may : GoodIn wsX10_isRow wsX10_may := goodIn_r _ [9, 10, 11, 12, 13, 14, 15, 16, 17, 18, 19, 20, 21, 22, 23, 24, 25, 26, 27, 28, 29, 30, 31, 32, 33, 34, 35, 36, 37, 38, 39, 40, 41, 42, 43, 44, 45, 46, 47, 48, 49, 50, 51, 52, 53, 54, 55, 56, 57, 58, 59] (by decide +kernel) (by decide +kernel)
set_option maxRecDepth 20000 in
theorem gX10_isRow_X10_may : GoodIn wsX10_isRow (wsV RX10 112 RX10 yX10_may wsX10_may) := goodIn_app (goodIn_of _ (by decide +kernel)) ggX10_isRow_X10_may
theorem dX10_isRow_0 : decode cX10_isRow 0 = .ok (.aload_n 0, 1) := by decide +kernel
theorem dX10_isRow_1 : decode cX10_isRow 1 = .ok (.iload_n 1, 1) := by decide +kernel
theorem dX10_isRow_2 : decode cX10_isRow 2 = .ok (.iconst 0, 1) := by decide +kernel
theorem dX10_isRow_3 : decode cX10_isRow 3 = .ok (.aload_n 0, 1) := by decide +kernel
theorem dX10_isRow_4 : decode cX10_isRow 4 = .ok (.getfield 254, 3) := by decide +kernel
theorem dX10_isRow_7 : decode cX10_isRow 7 = .ok (.iconst 1, 1) := by decide +kernel
theorem dX10_isRow_8 : decode cX10_isRow 8 = .ok (.isub, 1) := by decide +kernel
theorem dX10_isRow_9 : decode cX10_isRow 9 = .ok (.invokestatic 108, 3) := by decide +kernel
theorem dX10_isRow_12 : decode cX10_isRow 12 = .ok (.ifCond .eq 17, 3) := by decide +kernel
theorem dX10_isRow_15 : decode cX10_isRow 15 = .ok (.iload_n 2, 1) := by decide +kernel
theorem dX10_isRow_16 : decode cX10_isRow 16 = .ok (.iconst 0, 1) := by decide +kernel
theorem dX10_isRow_17 : decode cX10_isRow 17 = .ok (.bipush 9, 2) := by decide +kernel
theorem dX10_isRow_19 : decode cX10_isRow 19 = .ok (.invokestatic 108, 3) := by decide +kernel
theorem dX10_isRow_22 : decode cX10_isRow 22 = .ok (.ifCond .eq 7, 3) := by decide +kernel
theorem dX10_isRow_25 : decode cX10_isRow 25 = .ok (.iconst 1, 1) := by decide +kernel
theorem dX10_isRow_26 : decode cX10_isRow 26 = .ok (.goto 4, 3) := by decide +kernel
theorem dX10_isRow_29 : decode cX10_isRow 29 = .ok (.iconst 0, 1) := by decide +kernel
theorem dX10_isRow_30 : decode cX10_isRow 30 = .ok (.iconst 1, 1) := by decide +kernel
theorem dX10_isRow_31 : decode cX10_isRow 31 = .ok (.invokevirtual 112, 3) := by decide +kernel
theorem dX10_isRow_34 : decode cX10_isRow 34 = .ok (.ireturn, 1) := by decide +kernel
set_option maxRecDepth 20000 in
theorem ggX10_row_X10_isRow : GoodIn wsX10_row wsX10_isRow := goodIn_r _ [8, 9, 10, 11, 7, 12, 13, 14, 15, 16, 1, 17, 18, 19, 20, 21, 22, 23, 24, 25, 26, 27, 28, 29, 30, 31, 32, 33, 34, 35, 36, 37, 38, 39, 40, 41, 42, 43, 44, 45, 46, 47, 48, 49, 50, 51, 52, 53, 54, 55, 56, 57, 58, 59, 60, 61, 62, 63, 64, 65] (by decide +kernel) (by decide +kernel)
set_option maxRecDepth 20000 in
theorem gX10_row_X10_isRow : GoodIn wsX10_row (wsV RX10 257 RX10 yX10_isRow wsX10_isRow) := goodIn_app (goodIn_of _ (by decide +kernel)) ggX10_row_X10_isRow
set_option maxRecDepth 20000 in
theorem ggX10_row_X10_within : GoodIn wsX10_row wsX10_within := goodIn_r _ [12] (by decide +kernel) (by decide +kernel)
set_option maxRecDepth 20000 in
theorem gX10_row_X10_within : GoodIn wsX10_row (va_wsS RX10 108 yX10_within wsX10_within) := goodIn_app (goodIn_of _ (by decide +kernel)) ggX10_row_X10_within
theorem dX10_row_0 : decode cX10_row 0 = .ok (.aload_n 0, 1) := by decide +kernel
theorem dX10_row_1 : decode cX10_row 1 = .ok (.iconst 0, 1) := by decide +kernel
theorem dX10_row_2 : decode cX10_row 2 = .ok (.putfield 1, 3) := by decide +kernel
theorem dX10_row_5 : decode cX10_row 5 = .ok (.aload_n 0, 1) := by decide +kernel
theorem dX10_row_6 : decode cX10_row 6 = .ok (.iload_n 1, 1) := by decide +kernel
theorem dX10_row_7 : decode cX10_row 7 = .ok (.iload_n 2, 1) := by decide +kernel
theorem dX10_row_8 : decode cX10_row 8 = .ok (.invokevirtual 257, 3) := by decide +kernel
theorem dX10_row_11 : decode cX10_row 11 = .ok (.ifCond .ne 5, 3) := by decide +kernel
theorem dX10_row_14 : decode cX10_row 14 = .ok (.iconst 0, 1) := by decide +kernel
theorem dX10_row_15 : decode cX10_row 15 = .ok (.ireturn, 1) := by decide +kernel
theorem dX10_row_16 : decode cX10_row 16 = .ok (.iload_n 3, 1) := by decide +kernel
theorem dX10_row_17 : decode cX10_row 17 = .ok (.iconst 0, 1) := by decide +kernel
theorem dX10_row_18 : decode cX10_row 18 = .ok (.bipush 40, 2) := by decide +kernel
theorem dX10_row_20 : decode cX10_row 20 = .ok (.invokestatic 108, 3) := by decide +kernel
theorem dX10_row_23 : decode cX10_row 23 = .ok (.ifCond .ne 5, 3) := by decide +kernel
theorem dX10_row_26 : decode cX10_row 26 = .ok (.iconst (-1), 1) := by decide +kernel
theorem dX10_row_27 : decode cX10_row 27 = .ok (.ireturn, 1) := by decide +kernel
theorem dX10_row_28 : decode cX10_row 28 = .ok (.aload_n 0, 1) := by decide +kernel
theorem dX10_row_29 : decode cX10_row 29 = .ok (.getfield 80, 3) := by decide +kernel
theorem dX10_row_32 : decode cX10_row 32 = .ok (.bipush 10, 2) := by decide +kernel
theorem dX10_row_34 : decode cX10_row 34 = .ok (.iload_n 1, 1) := by decide +kernel
theorem dX10_row_35 : decode cX10_row 35 = .ok (.imul, 1) := by decide +kernel
theorem dX10_row_36 : decode cX10_row 36 = .ok (.iload_n 2, 1) := by decide +kernel
theorem dX10_row_37 : decode cX10_row 37 = .ok (.iadd, 1) := by decide +kernel
theorem dX10_row_38 : decode cX10_row 38 = .ok (.iload_n 3, 1) := by decide +kernel
theorem dX10_row_39 : decode cX10_row 39 = .ok (.iastore, 1) := by decide +kernel
theorem dX10_row_40 : decode cX10_row 40 = .ok (.iconst 0, 1) := by decide +kernel
theorem dX10_row_41 : decode cX10_row 41 = .ok (.istore 4, 2) := by decide +kernel
theorem dX10_row_43 : decode cX10_row 43 = .ok (.iload 4, 2) := by decide +kernel
theorem dX10_row_45 : decode cX10_row 45 = .ok (.bipush 40, 2) := by decide +kernel
theorem dX10_row_47 : decode cX10_row 47 = .ok (.if_icmp .ge 27, 3) := by decide +kernel
theorem dX10_row_50 : decode cX10_row 50 = .ok (.aload_n 0, 1) := by decide +kernel
theorem dX10_row_51 : decode cX10_row 51 = .ok (.getfield 83, 3) := by decide +kernel
theorem dX10_row_54 : decode cX10_row 54 = .ok (.bipush 40, 2) := by decide +kernel
theorem dX10_row_56 : decode cX10_row 56 = .ok (.bipush 10, 2) := by decide +kernel
theorem dX10_row_58 : decode cX10_row 58 = .ok (.iload_n 1, 1) := by decide +kernel
theorem dX10_row_59 : decode cX10_row 59 = .ok (.imul, 1) := by decide +kernel
theorem dX10_row_60 : decode cX10_row 60 = .ok (.iload_n 2, 1) := by decide +kernel
theorem dX10_row_61 : decode cX10_row 61 = .ok (.iadd, 1) := by decide +kernel
theorem dX10_row_62 : decode cX10_row 62 = .ok (.imul, 1) := by decide +kernel
theorem dX10_row_63 : decode cX10_row 63 = .ok (.iload 4, 2) := by decide +kernel
theorem dX10_row_65 : decode cX10_row 65 = .ok (.iadd, 1) := by decide +kernel
theorem dX10_row_66 : decode cX10_row 66 = .ok (.lconst 0, 1) := by decide +kernel
theorem dX10_row_67 : decode cX10_row 67 = .ok (.lastore, 1) := by decide +kernel
theorem dX10_row_68 : decode cX10_row 68 = .ok (.iinc 4 1, 3) := by decide +kernel
theorem dX10_row_71 : decode cX10_row 71 = .ok (.goto (-28), 3) := by decide +kernel
theorem dX10_row_74 : decode cX10_row 74 = .ok (.iload_n 3, 1) := by decide +kernel
theorem dX10_row_75 : decode cX10_row 75 = .ok (.ireturn, 1) := by decide +kernel
set_option maxRecDepth 20000 in
theorem ggX10_set_X10_isRow : GoodIn wsX10_set wsX10_isRow := goodIn_r _ [9, 10, 11, 12, 8, 13, 14, 15, 16, 17, 1, 18, 19, 20, 21, 22, 23, 24, 25, 26, 27, 28, 29, 30, 31, 32, 33, 34, 35, 36, 37, 38, 39, 40, 41, 42, 43, 44, 45, 46, 47, 48, 49, 50, 51, 52, 53, 54, 55, 56, 57, 58, 59, 60, 61, 62, 63, 64, 65, 66] (by decide +kernel) (by decide +kernel)
set_option maxRecDepth 20000 in
theorem gX10_set_X10_isRow : GoodIn wsX10_set (wsV RX10 257 RX10 yX10_isRow wsX10_isRow) := goodIn_app (goodIn_of _ (by decide +kernel)) ggX10_set_X10_isRow
set_option maxRecDepth 20000 in
theorem ggX10_set_X10_within : GoodIn wsX10_set wsX10_within := goodIn_r _ [13] (by decide +kernel) (by decide +kernel)
set_option maxRecDepth 20000 in
theorem gX10_set_X10_within : GoodIn wsX10_set (va_wsS RX10 108 yX10_within wsX10_within) := goodIn_app (goodIn_of _ (by decide +kernel)) ggX10_set_X10_within
theorem dX10_set_0 : decode cX10_set 0 = .ok (.aload_n 0, 1) := by decide +kernel
theorem dX10_set_1 : decode cX10_set 1 = .ok (.iconst 0, 1) := by decide +kernel
theorem dX10_set_2 : decode cX10_set 2 = .ok (.putfield 1, 3) := by decide +kernel
theorem dX10_set_5 : decode cX10_set 5 = .ok (.aload_n 0, 1) := by decide +kernel
theorem dX10_set_6 : decode cX10_set 6 = .ok (.iload_n 1, 1) := by decide +kernel
theorem dX10_set_7 : decode cX10_set 7 = .ok (.iload_n 2, 1) := by decide +kernel
theorem dX10_set_8 : decode cX10_set 8 = .ok (.invokevirtual 257, 3) := by decide +kernel
theorem dX10_set_11 : decode cX10_set 11 = .ok (.ifCond .ne 5, 3) := by decide +kernel
theorem dX10_set_14 : decode cX10_set 14 = .ok (.iconst 0, 1) := by decide +kernel
theorem dX10_set_15 : decode cX10_set 15 = .ok (.ireturn, 1) := by decide +kernel
theorem dX10_set_16 : decode cX10_set 16 = .ok (.bipush 10, 2) := by decide +kernel
theorem dX10_set_18 : decode cX10_set 18 = .ok (.iload_n 1, 1) := by decide +kernel
theorem dX10_set_19 : decode cX10_set 19 = .ok (.imul, 1) := by decide +kernel
theorem dX10_set_20 : decode cX10_set 20 = .ok (.iload_n 2, 1) := by decide +kernel
theorem dX10_set_21 : decode cX10_set 21 = .ok (.iadd, 1) := by decide +kernel
theorem dX10_set_22 : decode cX10_set 22 = .ok (.istore 6, 2) := by decide +kernel
theorem dX10_set_24 : decode cX10_set 24 = .ok (.aload_n 0, 1) := by decide +kernel
theorem dX10_set_25 : decode cX10_set 25 = .ok (.getfield 80, 3) := by decide +kernel
theorem dX10_set_28 : decode cX10_set 28 = .ok (.iload 6, 2) := by decide +kernel
theorem dX10_set_30 : decode cX10_set 30 = .ok (.iaload, 1) := by decide +kernel
theorem dX10_set_31 : decode cX10_set 31 = .ok (.iconst (-1), 1) := by decide +kernel
theorem dX10_set_32 : decode cX10_set 32 = .ok (.if_icmp .ne 5, 3) := by decide +kernel
theorem dX10_set_35 : decode cX10_set 35 = .ok (.iconst (-1), 1) := by decide +kernel
theorem dX10_set_36 : decode cX10_set 36 = .ok (.ireturn, 1) := by decide +kernel
theorem dX10_set_37 : decode cX10_set 37 = .ok (.iload_n 3, 1) := by decide +kernel
theorem dX10_set_38 : decode cX10_set 38 = .ok (.iconst 0, 1) := by decide +kernel
theorem dX10_set_39 : decode cX10_set 39 = .ok (.aload_n 0, 1) := by decide +kernel
theorem dX10_set_40 : decode cX10_set 40 = .ok (.getfield 80, 3) := by decide +kernel
theorem dX10_set_43 : decode cX10_set 43 = .ok (.iload 6, 2) := by decide +kernel
theorem dX10_set_45 : decode cX10_set 45 = .ok (.iaload, 1) := by decide +kernel
theorem dX10_set_46 : decode cX10_set 46 = .ok (.iconst 1, 1) := by decide +kernel
theorem dX10_set_47 : decode cX10_set 47 = .ok (.isub, 1) := by decide +kernel
theorem dX10_set_48 : decode cX10_set 48 = .ok (.invokestatic 108, 3) := by decide +kernel
theorem dX10_set_51 : decode cX10_set 51 = .ok (.ifCond .ne 6, 3) := by decide +kernel
theorem dX10_set_54 : decode cX10_set 54 = .ok (.bipush (-2), 2) := by decide +kernel
theorem dX10_set_56 : decode cX10_set 56 = .ok (.ireturn, 1) := by decide +kernel
theorem dX10_set_57 : decode cX10_set 57 = .ok (.aload_n 0, 1) := by decide +kernel
theorem dX10_set_58 : decode cX10_set 58 = .ok (.getfield 83, 3) := by decide +kernel
theorem dX10_set_61 : decode cX10_set 61 = .ok (.bipush 40, 2) := by decide +kernel
theorem dX10_set_63 : decode cX10_set 63 = .ok (.iload 6, 2) := by decide +kernel
theorem dX10_set_65 : decode cX10_set 65 = .ok (.imul, 1) := by decide +kernel
theorem dX10_set_66 : decode cX10_set 66 = .ok (.iload_n 3, 1) := by decide +kernel
theorem dX10_set_67 : decode cX10_set 67 = .ok (.iadd, 1) := by decide +kernel
theorem dX10_set_68 : decode cX10_set 68 = .ok (.aload_n 0, 1) := by decide +kernel
theorem dX10_set_69 : decode cX10_set 69 = .ok (.getfield 77, 3) := by decide +kernel
theorem dX10_set_72 : decode cX10_set 72 = .ok (.iload_n 1, 1) := by decide +kernel
theorem dX10_set_73 : decode cX10_set 73 = .ok (.iaload, 1) := by decide +kernel
theorem dX10_set_74 : decode cX10_set 74 = .ok (.ifCond .ne 11, 3) := by decide +kernel
theorem dX10_set_77 : decode cX10_set 77 = .ok (.lload 4, 2) := by decide +kernel
theorem dX10_set_79 : decode cX10_set 79 = .ok (.l2i, 1) := by decide +kernel
theorem dX10_set_80 : decode cX10_set 80 = .ok (.i2s, 1) := by decide +kernel
theorem dX10_set_81 : decode cX10_set 81 = .ok (.i2l, 1) := by decide +kernel
theorem dX10_set_82 : decode cX10_set 82 = .ok (.goto 22, 3) := by decide +kernel
theorem dX10_set_85 : decode cX10_set 85 = .ok (.aload_n 0, 1) := by decide +kernel
theorem dX10_set_86 : decode cX10_set 86 = .ok (.getfield 77, 3) := by decide +kernel
theorem dX10_set_89 : decode cX10_set 89 = .ok (.iload_n 1, 1) := by decide +kernel
theorem dX10_set_90 : decode cX10_set 90 = .ok (.iaload, 1) := by decide +kernel
theorem dX10_set_91 : decode cX10_set 91 = .ok (.iconst 1, 1) := by decide +kernel
theorem dX10_set_92 : decode cX10_set 92 = .ok (.if_icmp .ne 10, 3) := by decide +kernel
theorem dX10_set_95 : decode cX10_set 95 = .ok (.lload 4, 2) := by decide +kernel
theorem dX10_set_97 : decode cX10_set 97 = .ok (.l2i, 1) := by decide +kernel
theorem dX10_set_98 : decode cX10_set 98 = .ok (.i2l, 1) := by decide +kernel
theorem dX10_set_99 : decode cX10_set 99 = .ok (.goto 5, 3) := by decide +kernel
theorem dX10_set_102 : decode cX10_set 102 = .ok (.lload 4, 2) := by decide +kernel
theorem dX10_set_104 : decode cX10_set 104 = .ok (.lastore, 1) := by decide +kernel
theorem dX10_set_105 : decode cX10_set 105 = .ok (.iconst 1, 1) := by decide +kernel
theorem dX10_set_106 : decode cX10_set 106 = .ok (.ireturn, 1) := by decide +kernel
theorem dX10_isNumber_0 : decode cX10_isNumber 0 = .ok (.aload_n 0, 1) := by decide +kernel
theorem dX10_isNumber_1 : decode cX10_isNumber 1 = .ok (.getfield 83, 3) := by decide +kernel
theorem dX10_isNumber_4 : decode cX10_isNumber 4 = .ok (.iload_n 1, 1) := by decide +kernel
theorem dX10_isNumber_5 : decode cX10_isNumber 5 = .ok (.laload, 1) := by decide +kernel
theorem dX10_isNumber_6 : decode cX10_isNumber 6 = .ok (.lload_n 2, 1) := by decide +kernel
theorem dX10_isNumber_7 : decode cX10_isNumber 7 = .ok (.lcmp, 1) := by decide +kernel
theorem dX10_isNumber_8 : decode cX10_isNumber 8 = .ok (.ifCond .lt 19, 3) := by decide +kernel
theorem dX10_isNumber_11 : decode cX10_isNumber 11 = .ok (.aload_n 0, 1) := by decide +kernel
theorem dX10_isNumber_12 : decode cX10_isNumber 12 = .ok (.getfield 83, 3) := by decide +kernel
theorem dX10_isNumber_15 : decode cX10_isNumber 15 = .ok (.iload_n 1, 1) := by decide +kernel
theorem dX10_isNumber_16 : decode cX10_isNumber 16 = .ok (.laload, 1) := by decide +kernel
theorem dX10_isNumber_17 : decode cX10_isNumber 17 = .ok (.lload 4, 2) := by decide +kernel
theorem dX10_isNumber_19 : decode cX10_isNumber 19 = .ok (.lcmp, 1) := by decide +kernel
theorem dX10_isNumber_20 : decode cX10_isNumber 20 = .ok (.ifCond .gt 7, 3) := by decide +kernel
theorem dX10_isNumber_23 : decode cX10_isNumber 23 = .ok (.iconst 1, 1) := by decide +kernel
theorem dX10_isNumber_24 : decode cX10_isNumber 24 = .ok (.goto 4, 3) := by decide +kernel
theorem dX10_isNumber_27 : decode cX10_isNumber 27 = .ok (.iconst 0, 1) := by decide +kernel
theorem dX10_isNumber_28 : decode cX10_isNumber 28 = .ok (.ireturn, 1) := by decide +kernel
set_option maxRecDepth 20000 in
theorem ggX10_deliver_X10_isRow : GoodIn wsX10_deliver wsX10_isRow := goodIn_r _ [17, 18, 19, 20, 16, 21, 22, 23, 24, 25, 1, 46, 47, 48, 49, 50, 51, 52, 53, 54, 55, 56, 57, 58, 59, 60, 61, 62, 63, 64, 65, 66, 67, 68, 69, 70, 71, 72, 73, 74, 75, 76, 77, 78, 79, 80, 81, 82, 83, 84, 85, 86, 87, 88, 89, 90, 91, 92, 93, 94] (by decide +kernel) (by decide +kernel)
set_option maxRecDepth 20000 in
theorem gX10_deliver_X10_isRow : GoodIn wsX10_deliver (wsV RX10 257 RX10 yX10_isRow wsX10_isRow) := goodIn_app (goodIn_of _ (by decide +kernel)) ggX10_deliver_X10_isRow
set_option maxRecDepth 20000 in
theorem ggX10_deliver_X10_isNumber : GoodIn wsX10_deliver wsX10_isNumber := goodIn_r _ [29, 11, 46, 47, 48, 49, 50, 51, 52, 53, 54, 55, 56, 57, 58, 59, 60, 61, 62, 63, 64, 65, 66, 67, 68, 69, 70, 71, 72, 73, 74, 75, 76, 77, 78, 79, 80, 81, 82, 83, 84, 85, 86, 87, 88, 89, 90, 91, 92, 93, 94] (by decide +kernel) (by decide +kernel)
set_option maxRecDepth 20000 in
theorem gX10_deliver_X10_isNumber : GoodIn wsX10_deliver (wsV RX10 260 RX10 yX10_isNumber wsX10_isNumber) := goodIn_app (goodIn_of _ (by decide +kernel)) ggX10_deliver_X10_isNumber
set_option maxRecDepth 20000 in
theorem ggX10_deliver_X10_newLot : GoodIn wsX10_deliver wsX10_newLot := goodIn_r _ [33, 34, 3, 35, 36, 37, 38, 39, 40, 46, 47, 48, 49, 50, 51, 52, 53, 54, 55, 56, 57, 58, 59, 60, 61, 62, 63, 64, 65, 66, 67, 68, 69, 70, 71, 72, 73, 74, 75, 76, 77, 78, 79, 80, 81, 82, 83, 84, 85, 86, 87, 88, 89, 90, 91, 92, 93, 94] (by decide +kernel) (by decide +kernel)
set_option maxRecDepth 20000 in
theorem gX10_deliver_X10_newLot : GoodIn wsX10_deliver (wsV RX10 122 RX10 yX10_newLot wsX10_newLot) := goodIn_app (goodIn_of _ (by decide +kernel)) ggX10_deliver_X10_newLot
set_option maxRecDepth 20000 in
theorem ggX10_deliver_X10_adds : GoodIn wsX10_deliver wsX10_adds := goodIn_r _ [44, 45, 10, 46, 47, 48, 49, 50, 51, 52, 53, 54, 55, 56, 57, 58, 59, 60, 61, 62, 63, 64, 65, 66, 67, 68, 69, 70, 71, 72, 73, 74, 75, 76, 77, 78, 79, 80, 81, 82, 83, 84, 85, 86, 87, 88, 89, 90, 91, 92, 93, 94] (by decide +kernel) (by decide +kernel)
set_option maxRecDepth 20000 in
theorem gX10_deliver_X10_adds : GoodIn wsX10_deliver (wsV RX10 142 RX10 yX10_adds wsX10_adds) := goodIn_app (goodIn_of _ (by decide +kernel)) ggX10_deliver_X10_adds
theorem dX10_deliver_0 : decode cX10_deliver 0 = .ok (.aload_n 0, 1) := by decide +kernel
theorem dX10_deliver_1 : decode cX10_deliver 1 = .ok (.iconst 0, 1) := by decide +kernel
theorem dX10_deliver_2 : decode cX10_deliver 2 = .ok (.putfield 1, 3) := by decide +kernel
theorem dX10_deliver_5 : decode cX10_deliver 5 = .ok (.aload_n 0, 1) := by decide +kernel
theorem dX10_deliver_6 : decode cX10_deliver 6 = .ok (.iload_n 1, 1) := by decide +kernel
theorem dX10_deliver_7 : decode cX10_deliver 7 = .ok (.iload_n 2, 1) := by decide +kernel
theorem dX10_deliver_8 : decode cX10_deliver 8 = .ok (.invokevirtual 257, 3) := by decide +kernel
theorem dX10_deliver_11 : decode cX10_deliver 11 = .ok (.ifCond .ne 5, 3) := by decide +kernel
theorem dX10_deliver_14 : decode cX10_deliver 14 = .ok (.iconst 0, 1) := by decide +kernel
theorem dX10_deliver_15 : decode cX10_deliver 15 = .ok (.ireturn, 1) := by decide +kernel
theorem dX10_deliver_16 : decode cX10_deliver 16 = .ok (.bipush 10, 2) := by decide +kernel
theorem dX10_deliver_18 : decode cX10_deliver 18 = .ok (.iload_n 1, 1) := by decide +kernel
theorem dX10_deliver_19 : decode cX10_deliver 19 = .ok (.imul, 1) := by decide +kernel
theorem dX10_deliver_20 : decode cX10_deliver 20 = .ok (.iload_n 2, 1) := by decide +kernel
theorem dX10_deliver_21 : decode cX10_deliver 21 = .ok (.iadd, 1) := by decide +kernel
theorem dX10_deliver_22 : decode cX10_deliver 22 = .ok (.istore_n 3, 1) := by decide +kernel
theorem dX10_deliver_23 : decode cX10_deliver 23 = .ok (.aload_n 0, 1) := by decide +kernel
theorem dX10_deliver_24 : decode cX10_deliver 24 = .ok (.getfield 80, 3) := by decide +kernel
theorem dX10_deliver_27 : decode cX10_deliver 27 = .ok (.iload_n 3, 1) := by decide +kernel
theorem dX10_deliver_28 : decode cX10_deliver 28 = .ok (.iaload, 1) := by decide +kernel
theorem dX10_deliver_29 : decode cX10_deliver 29 = .ok (.iconst (-1), 1) := by decide +kernel
theorem dX10_deliver_30 : decode cX10_deliver 30 = .ok (.if_icmp .ne 5, 3) := by decide +kernel
theorem dX10_deliver_33 : decode cX10_deliver 33 = .ok (.iconst (-1), 1) := by decide +kernel
theorem dX10_deliver_34 : decode cX10_deliver 34 = .ok (.ireturn, 1) := by decide +kernel
theorem dX10_deliver_35 : decode cX10_deliver 35 = .ok (.iconst 0, 1) := by decide +kernel
theorem dX10_deliver_36 : decode cX10_deliver 36 = .ok (.istore 4, 2) := by decide +kernel
theorem dX10_deliver_38 : decode cX10_deliver 38 = .ok (.iconst 0, 1) := by decide +kernel
theorem dX10_deliver_39 : decode cX10_deliver 39 = .ok (.istore 5, 2) := by decide +kernel
theorem dX10_deliver_41 : decode cX10_deliver 41 = .ok (.iload 5, 2) := by decide +kernel
theorem dX10_deliver_43 : decode cX10_deliver 43 = .ok (.iconst 5, 1) := by decide +kernel
theorem dX10_deliver_44 : decode cX10_deliver 44 = .ok (.iadd, 1) := by decide +kernel
theorem dX10_deliver_45 : decode cX10_deliver 45 = .ok (.aload_n 0, 1) := by decide +kernel
theorem dX10_deliver_46 : decode cX10_deliver 46 = .ok (.getfield 80, 3) := by decide +kernel
theorem dX10_deliver_49 : decode cX10_deliver 49 = .ok (.iload_n 3, 1) := by decide +kernel
theorem dX10_deliver_50 : decode cX10_deliver 50 = .ok (.iaload, 1) := by decide +kernel
theorem dX10_deliver_51 : decode cX10_deliver 51 = .ok (.if_icmp .gt 222, 3) := by decide +kernel
theorem dX10_deliver_54 : decode cX10_deliver 54 = .ok (.bipush 40, 2) := by decide +kernel
theorem dX10_deliver_56 : decode cX10_deliver 56 = .ok (.iload_n 3, 1) := by decide +kernel
theorem dX10_deliver_57 : decode cX10_deliver 57 = .ok (.imul, 1) := by decide +kernel
theorem dX10_deliver_58 : decode cX10_deliver 58 = .ok (.iload 5, 2) := by decide +kernel
theorem dX10_deliver_60 : decode cX10_deliver 60 = .ok (.iadd, 1) := by decide +kernel
theorem dX10_deliver_61 : decode cX10_deliver 61 = .ok (.istore 6, 2) := by decide +kernel
theorem dX10_deliver_63 : decode cX10_deliver 63 = .ok (.aload_n 0, 1) := by decide +kernel
theorem dX10_deliver_64 : decode cX10_deliver 64 = .ok (.getfield 119, 3) := by decide +kernel
theorem dX10_deliver_67 : decode cX10_deliver 67 = .ok (.bipush 60, 2) := by decide +kernel
theorem dX10_deliver_69 : decode cX10_deliver 69 = .ok (.if_icmp .ge 86, 3) := by decide +kernel
theorem dX10_deliver_72 : decode cX10_deliver 72 = .ok (.aload_n 0, 1) := by decide +kernel
theorem dX10_deliver_73 : decode cX10_deliver 73 = .ok (.iload 6, 2) := by decide +kernel
theorem dX10_deliver_75 : decode cX10_deliver 75 = .ok (.lconst 0, 1) := by decide +kernel
theorem dX10_deliver_76 : decode cX10_deliver 76 = .ok (.aload_n 0, 1) := by decide +kernel
theorem dX10_deliver_77 : decode cX10_deliver 77 = .ok (.getfield 116, 3) := by decide +kernel
theorem dX10_deliver_80 : decode cX10_deliver 80 = .ok (.i2l, 1) := by decide +kernel
theorem dX10_deliver_81 : decode cX10_deliver 81 = .ok (.lconst 1, 1) := by decide +kernel
theorem dX10_deliver_82 : decode cX10_deliver 82 = .ok (.lsub, 1) := by decide +kernel
theorem dX10_deliver_83 : decode cX10_deliver 83 = .ok (.invokevirtual 260, 3) := by decide +kernel
theorem dX10_deliver_86 : decode cX10_deliver 86 = .ok (.ifCond .eq 69, 3) := by decide +kernel
theorem dX10_deliver_89 : decode cX10_deliver 89 = .ok (.aload_n 0, 1) := by decide +kernel
theorem dX10_deliver_90 : decode cX10_deliver 90 = .ok (.iload 6, 2) := by decide +kernel
theorem dX10_deliver_92 : decode cX10_deliver 92 = .ok (.iconst 1, 1) := by decide +kernel
theorem dX10_deliver_93 : decode cX10_deliver 93 = .ok (.iadd, 1) := by decide +kernel
theorem dX10_deliver_94 : decode cX10_deliver 94 = .ok (.ldc2_w 264, 3) := by decide +kernel
theorem dX10_deliver_97 : decode cX10_deliver 97 = .ok (.ldc2_w 266, 3) := by decide +kernel
theorem dX10_deliver_100 : decode cX10_deliver 100 = .ok (.invokevirtual 260, 3) := by decide +kernel
theorem dX10_deliver_103 : decode cX10_deliver 103 = .ok (.ifCond .eq 52, 3) := by decide +kernel
theorem dX10_deliver_106 : decode cX10_deliver 106 = .ok (.aload_n 0, 1) := by decide +kernel
theorem dX10_deliver_107 : decode cX10_deliver 107 = .ok (.iload 6, 2) := by decide +kernel
theorem dX10_deliver_109 : decode cX10_deliver 109 = .ok (.iconst 2, 1) := by decide +kernel
theorem dX10_deliver_110 : decode cX10_deliver 110 = .ok (.iadd, 1) := by decide +kernel
theorem dX10_deliver_111 : decode cX10_deliver 111 = .ok (.lconst 1, 1) := by decide +kernel
theorem dX10_deliver_112 : decode cX10_deliver 112 = .ok (.ldc2_w 268, 3) := by decide +kernel
theorem dX10_deliver_115 : decode cX10_deliver 115 = .ok (.invokevirtual 260, 3) := by decide +kernel
theorem dX10_deliver_118 : decode cX10_deliver 118 = .ok (.ifCond .eq 37, 3) := by decide +kernel
theorem dX10_deliver_121 : decode cX10_deliver 121 = .ok (.aload_n 0, 1) := by decide +kernel
theorem dX10_deliver_122 : decode cX10_deliver 122 = .ok (.iload 6, 2) := by decide +kernel
theorem dX10_deliver_124 : decode cX10_deliver 124 = .ok (.iconst 3, 1) := by decide +kernel
theorem dX10_deliver_125 : decode cX10_deliver 125 = .ok (.iadd, 1) := by decide +kernel
theorem dX10_deliver_126 : decode cX10_deliver 126 = .ok (.lconst 0, 1) := by decide +kernel
theorem dX10_deliver_127 : decode cX10_deliver 127 = .ok (.ldc2_w 270, 3) := by decide +kernel
theorem dX10_deliver_130 : decode cX10_deliver 130 = .ok (.invokevirtual 260, 3) := by decide +kernel
theorem dX10_deliver_133 : decode cX10_deliver 133 = .ok (.ifCond .eq 22, 3) := by decide +kernel
theorem dX10_deliver_136 : decode cX10_deliver 136 = .ok (.aload_n 0, 1) := by decide +kernel
theorem dX10_deliver_137 : decode cX10_deliver 137 = .ok (.iload 6, 2) := by decide +kernel
theorem dX10_deliver_139 : decode cX10_deliver 139 = .ok (.iconst 4, 1) := by decide +kernel
theorem dX10_deliver_140 : decode cX10_deliver 140 = .ok (.iadd, 1) := by decide +kernel
theorem dX10_deliver_141 : decode cX10_deliver 141 = .ok (.lconst 1, 1) := by decide +kernel
theorem dX10_deliver_142 : decode cX10_deliver 142 = .ok (.ldc2_w 272, 3) := by decide +kernel
theorem dX10_deliver_145 : decode cX10_deliver 145 = .ok (.invokevirtual 260, 3) := by decide +kernel
theorem dX10_deliver_148 : decode cX10_deliver 148 = .ok (.ifCond .eq 7, 3) := by decide +kernel
theorem dX10_deliver_151 : decode cX10_deliver 151 = .ok (.iconst 1, 1) := by decide +kernel
theorem dX10_deliver_152 : decode cX10_deliver 152 = .ok (.goto 4, 3) := by decide +kernel
theorem dX10_deliver_155 : decode cX10_deliver 155 = .ok (.iconst 0, 1) := by decide +kernel
theorem dX10_deliver_156 : decode cX10_deliver 156 = .ok (.istore 7, 2) := by decide +kernel
theorem dX10_deliver_158 : decode cX10_deliver 158 = .ok (.iload 7, 2) := by decide +kernel
theorem dX10_deliver_160 : decode cX10_deliver 160 = .ok (.ifCond .eq 22, 3) := by decide +kernel
theorem dX10_deliver_163 : decode cX10_deliver 163 = .ok (.aload_n 0, 1) := by decide +kernel
theorem dX10_deliver_164 : decode cX10_deliver 164 = .ok (.getfield 44, 3) := by decide +kernel
theorem dX10_deliver_167 : decode cX10_deliver 167 = .ok (.aload_n 0, 1) := by decide +kernel
theorem dX10_deliver_168 : decode cX10_deliver 168 = .ok (.getfield 83, 3) := by decide +kernel
theorem dX10_deliver_171 : decode cX10_deliver 171 = .ok (.iload 6, 2) := by decide +kernel
theorem dX10_deliver_173 : decode cX10_deliver 173 = .ok (.iconst 3, 1) := by decide +kernel
theorem dX10_deliver_174 : decode cX10_deliver 174 = .ok (.iadd, 1) := by decide +kernel
theorem dX10_deliver_175 : decode cX10_deliver 175 = .ok (.laload, 1) := by decide +kernel
theorem dX10_deliver_176 : decode cX10_deliver 176 = .ok (.l2i, 1) := by decide +kernel
theorem dX10_deliver_177 : decode cX10_deliver 177 = .ok (.iaload, 1) := by decide +kernel
theorem dX10_deliver_178 : decode cX10_deliver 178 = .ok (.iconst (-1), 1) := by decide +kernel
theorem dX10_deliver_179 : decode cX10_deliver 179 = .ok (.if_icmp .eq 6, 3) := by decide +kernel
theorem dX10_deliver_182 : decode cX10_deliver 182 = .ok (.iload 4, 2) := by decide +kernel
theorem dX10_deliver_184 : decode cX10_deliver 184 = .ok (.ireturn, 1) := by decide +kernel
theorem dX10_deliver_185 : decode cX10_deliver 185 = .ok (.aload_n 0, 1) := by decide +kernel
theorem dX10_deliver_186 : decode cX10_deliver 186 = .ok (.aload_n 0, 1) := by decide +kernel
theorem dX10_deliver_187 : decode cX10_deliver 187 = .ok (.getfield 83, 3) := by decide +kernel
theorem dX10_deliver_190 : decode cX10_deliver 190 = .ok (.iload 6, 2) := by decide +kernel
theorem dX10_deliver_192 : decode cX10_deliver 192 = .ok (.laload, 1) := by decide +kernel
theorem dX10_deliver_193 : decode cX10_deliver 193 = .ok (.l2i, 1) := by decide +kernel
theorem dX10_deliver_194 : decode cX10_deliver 194 = .ok (.aload_n 0, 1) := by decide +kernel
theorem dX10_deliver_195 : decode cX10_deliver 195 = .ok (.getfield 83, 3) := by decide +kernel
theorem dX10_deliver_198 : decode cX10_deliver 198 = .ok (.iload 6, 2) := by decide +kernel
theorem dX10_deliver_200 : decode cX10_deliver 200 = .ok (.iconst 1, 1) := by decide +kernel
theorem dX10_deliver_201 : decode cX10_deliver 201 = .ok (.iadd, 1) := by decide +kernel
theorem dX10_deliver_202 : decode cX10_deliver 202 = .ok (.laload, 1) := by decide +kernel
theorem dX10_deliver_203 : decode cX10_deliver 203 = .ok (.l2i, 1) := by decide +kernel
theorem dX10_deliver_204 : decode cX10_deliver 204 = .ok (.aload_n 0, 1) := by decide +kernel
theorem dX10_deliver_205 : decode cX10_deliver 205 = .ok (.getfield 83, 3) := by decide +kernel
theorem dX10_deliver_208 : decode cX10_deliver 208 = .ok (.iload 6, 2) := by decide +kernel
theorem dX10_deliver_210 : decode cX10_deliver 210 = .ok (.iconst 2, 1) := by decide +kernel
theorem dX10_deliver_211 : decode cX10_deliver 211 = .ok (.iadd, 1) := by decide +kernel
theorem dX10_deliver_212 : decode cX10_deliver 212 = .ok (.laload, 1) := by decide +kernel
theorem dX10_deliver_213 : decode cX10_deliver 213 = .ok (.l2i, 1) := by decide +kernel
theorem dX10_deliver_214 : decode cX10_deliver 214 = .ok (.invokevirtual 122, 3) := by decide +kernel
theorem dX10_deliver_217 : decode cX10_deliver 217 = .ok (.istore 8, 2) := by decide +kernel
theorem dX10_deliver_219 : decode cX10_deliver 219 = .ok (.aload_n 0, 1) := by decide +kernel
theorem dX10_deliver_220 : decode cX10_deliver 220 = .ok (.aload_n 0, 1) := by decide +kernel
theorem dX10_deliver_221 : decode cX10_deliver 221 = .ok (.getfield 83, 3) := by decide +kernel
theorem dX10_deliver_224 : decode cX10_deliver 224 = .ok (.iload 6, 2) := by decide +kernel
theorem dX10_deliver_226 : decode cX10_deliver 226 = .ok (.iconst 3, 1) := by decide +kernel
theorem dX10_deliver_227 : decode cX10_deliver 227 = .ok (.iadd, 1) := by decide +kernel
theorem dX10_deliver_228 : decode cX10_deliver 228 = .ok (.laload, 1) := by decide +kernel
theorem dX10_deliver_229 : decode cX10_deliver 229 = .ok (.l2i, 1) := by decide +kernel
theorem dX10_deliver_230 : decode cX10_deliver 230 = .ok (.iload 8, 2) := by decide +kernel
theorem dX10_deliver_232 : decode cX10_deliver 232 = .ok (.aload_n 0, 1) := by decide +kernel
theorem dX10_deliver_233 : decode cX10_deliver 233 = .ok (.getfield 83, 3) := by decide +kernel
theorem dX10_deliver_236 : decode cX10_deliver 236 = .ok (.iload 6, 2) := by decide +kernel
theorem dX10_deliver_238 : decode cX10_deliver 238 = .ok (.iconst 4, 1) := by decide +kernel
theorem dX10_deliver_239 : decode cX10_deliver 239 = .ok (.iadd, 1) := by decide +kernel
theorem dX10_deliver_240 : decode cX10_deliver 240 = .ok (.laload, 1) := by decide +kernel
theorem dX10_deliver_241 : decode cX10_deliver 241 = .ok (.l2i, 1) := by decide +kernel
theorem dX10_deliver_242 : decode cX10_deliver 242 = .ok (.invokevirtual 142, 3) := by decide +kernel
theorem dX10_deliver_245 : decode cX10_deliver 245 = .ok (.aload_n 0, 1) := by decide +kernel
theorem dX10_deliver_246 : decode cX10_deliver 246 = .ok (.dup, 1) := by decide +kernel
theorem dX10_deliver_247 : decode cX10_deliver 247 = .ok (.getfield 146, 3) := by decide +kernel
theorem dX10_deliver_250 : decode cX10_deliver 250 = .ok (.aload_n 0, 1) := by decide +kernel
theorem dX10_deliver_251 : decode cX10_deliver 251 = .ok (.getfield 83, 3) := by decide +kernel
theorem dX10_deliver_254 : decode cX10_deliver 254 = .ok (.iload 6, 2) := by decide +kernel
theorem dX10_deliver_256 : decode cX10_deliver 256 = .ok (.iconst 4, 1) := by decide +kernel
theorem dX10_deliver_257 : decode cX10_deliver 257 = .ok (.iadd, 1) := by decide +kernel
theorem dX10_deliver_258 : decode cX10_deliver 258 = .ok (.laload, 1) := by decide +kernel
theorem dX10_deliver_259 : decode cX10_deliver 259 = .ok (.l2i, 1) := by decide +kernel
theorem dX10_deliver_260 : decode cX10_deliver 260 = .ok (.iadd, 1) := by decide +kernel
theorem dX10_deliver_261 : decode cX10_deliver 261 = .ok (.putfield 146, 3) := by decide +kernel
theorem dX10_deliver_264 : decode cX10_deliver 264 = .ok (.iinc 4 1, 3) := by decide +kernel
theorem dX10_deliver_267 : decode cX10_deliver 267 = .ok (.iinc 5 5, 3) := by decide +kernel
theorem dX10_deliver_270 : decode cX10_deliver 270 = .ok (.goto (-229), 3) := by decide +kernel
theorem dX10_deliver_273 : decode cX10_deliver 273 = .ok (.iload 4, 2) := by decide +kernel
theorem dX10_deliver_275 : decode cX10_deliver 275 = .ok (.ireturn, 1) := by decide +kernel
theorem dX10_mayIn_0 : decode cX10_mayIn 0 = .ok (.iload_n 2, 1) := by decide +kernel
theorem dX10_mayIn_1 : decode cX10_mayIn 1 = .ok (.aload_n 0, 1) := by decide +kernel
theorem dX10_mayIn_2 : decode cX10_mayIn 2 = .ok (.getfield 38, 3) := by decide +kernel
theorem dX10_mayIn_5 : decode cX10_mayIn 5 = .ok (.iload_n 1, 1) := by decide +kernel
theorem dX10_mayIn_6 : decode cX10_mayIn 6 = .ok (.iaload, 1) := by decide +kernel
theorem dX10_mayIn_7 : decode cX10_mayIn 7 = .ok (.if_icmp .lt 17, 3) := by decide +kernel
theorem dX10_mayIn_10 : decode cX10_mayIn 10 = .ok (.iload_n 2, 1) := by decide +kernel
theorem dX10_mayIn_11 : decode cX10_mayIn 11 = .ok (.aload_n 0, 1) := by decide +kernel
theorem dX10_mayIn_12 : decode cX10_mayIn 12 = .ok (.getfield 41, 3) := by decide +kernel
theorem dX10_mayIn_15 : decode cX10_mayIn 15 = .ok (.iload_n 1, 1) := by decide +kernel
theorem dX10_mayIn_16 : decode cX10_mayIn 16 = .ok (.iaload, 1) := by decide +kernel
theorem dX10_mayIn_17 : decode cX10_mayIn 17 = .ok (.if_icmp .gt 7, 3) := by decide +kernel
theorem dX10_mayIn_20 : decode cX10_mayIn 20 = .ok (.iconst 1, 1) := by decide +kernel
theorem dX10_mayIn_21 : decode cX10_mayIn 21 = .ok (.goto 4, 3) := by decide +kernel
theorem dX10_mayIn_24 : decode cX10_mayIn 24 = .ok (.iconst 0, 1) := by decide +kernel
theorem dX10_mayIn_25 : decode cX10_mayIn 25 = .ok (.ireturn, 1) := by decide +kernel
set_option maxRecDepth 20000 in
theorem ggX10_bestWay_X10_year : GoodIn wsX10_bestWay wsX10_year := goodIn_r _ [13, 14, 28, 29, 30, 31, 32, 33, 34, 35, 36, 37, 38, 39, 40, 41, 42, 43, 44, 45, 46, 47, 48, 49, 50, 51, 52, 53, 54, 55, 56, 57, 58, 59, 60, 61, 62, 63, 64, 65, 66, 67, 68, 69, 70, 71, 72, 73, 74, 75, 76] (by decide +kernel) (by decide +kernel)
set_option maxRecDepth 20000 in
theorem gX10_bestWay_X10_year : GoodIn wsX10_bestWay (wsV RX10 134 RX10 yX10_year wsX10_year) := goodIn_app (goodIn_of _ (by decide +kernel)) ggX10_bestWay_X10_year
set_option maxRecDepth 20000 in
theorem ggX10_bestWay_X10_mayIn : GoodIn wsX10_bestWay wsX10_mayIn := goodIn_r _ [18, 19, 20, 28, 29, 30, 31, 32, 33, 34, 35, 36, 37, 38, 39, 40, 41, 42, 43, 44, 45, 46, 47, 48, 49, 50, 51, 52, 53, 54, 55, 56, 57, 58, 59, 60, 61, 62, 63, 64, 65, 66, 67, 68, 69, 70, 71, 72, 73, 74, 75, 76] (by decide +kernel) (by decide +kernel)
set_option maxRecDepth 20000 in
theorem gX10_bestWay_X10_mayIn : GoodIn wsX10_bestWay (wsV RX10 275 RX10 yX10_mayIn wsX10_mayIn) := goodIn_app (goodIn_of _ (by decide +kernel)) ggX10_bestWay_X10_mayIn
set_option maxRecDepth 20000 in
theorem ggX10_bestWay_X10_worthOf : GoodIn wsX10_bestWay wsX10_worthOf := goodIn_r _ [24, 19, 25, 20, 26, 27, 28, 29, 30, 31, 32, 33, 34, 35, 36, 37, 38, 39, 40, 41, 42, 43, 44, 45, 46, 47, 48, 49, 50, 51, 52, 53, 54, 55, 56, 57, 58, 59, 60, 61, 62, 63, 64, 65, 66, 67, 68, 69, 70, 71, 72, 73, 74, 75, 76] (by decide +kernel) (by decide +kernel)
set_option maxRecDepth 20000 in
theorem gX10_bestWay_X10_worthOf : GoodIn wsX10_bestWay (wsV RX10 130 RX10 yX10_worthOf wsX10_worthOf) := goodIn_app (goodIn_of _ (by decide +kernel)) ggX10_bestWay_X10_worthOf
theorem dX10_bestWay_0 : decode cX10_bestWay 0 = .ok (.aload_n 0, 1) := by decide +kernel
theorem dX10_bestWay_1 : decode cX10_bestWay 1 = .ok (.invokevirtual 134, 3) := by decide +kernel
theorem dX10_bestWay_4 : decode cX10_bestWay 4 = .ok (.istore_n 2, 1) := by decide +kernel
theorem dX10_bestWay_5 : decode cX10_bestWay 5 = .ok (.iconst 0, 1) := by decide +kernel
theorem dX10_bestWay_6 : decode cX10_bestWay 6 = .ok (.istore_n 3, 1) := by decide +kernel
theorem dX10_bestWay_7 : decode cX10_bestWay 7 = .ok (.iload_n 3, 1) := by decide +kernel
theorem dX10_bestWay_8 : decode cX10_bestWay 8 = .ok (.iload_n 1, 1) := by decide +kernel
theorem dX10_bestWay_9 : decode cX10_bestWay 9 = .ok (.if_icmp .ge 109, 3) := by decide +kernel
theorem dX10_bestWay_12 : decode cX10_bestWay 12 = .ok (.aload_n 0, 1) := by decide +kernel
theorem dX10_bestWay_13 : decode cX10_bestWay 13 = .ok (.getfield 96, 3) := by decide +kernel
theorem dX10_bestWay_16 : decode cX10_bestWay 16 = .ok (.iload_n 3, 1) := by decide +kernel
theorem dX10_bestWay_17 : decode cX10_bestWay 17 = .ok (.ldc_w 274, 3) := by decide +kernel
theorem dX10_bestWay_20 : decode cX10_bestWay 20 = .ok (.iastore, 1) := by decide +kernel
theorem dX10_bestWay_21 : decode cX10_bestWay 21 = .ok (.aload_n 0, 1) := by decide +kernel
theorem dX10_bestWay_22 : decode cX10_bestWay 22 = .ok (.getfield 99, 3) := by decide +kernel
theorem dX10_bestWay_25 : decode cX10_bestWay 25 = .ok (.iload_n 3, 1) := by decide +kernel
theorem dX10_bestWay_26 : decode cX10_bestWay 26 = .ok (.iconst (-1), 1) := by decide +kernel
theorem dX10_bestWay_27 : decode cX10_bestWay 27 = .ok (.iastore, 1) := by decide +kernel
theorem dX10_bestWay_28 : decode cX10_bestWay 28 = .ok (.iconst 0, 1) := by decide +kernel
theorem dX10_bestWay_29 : decode cX10_bestWay 29 = .ok (.istore 4, 2) := by decide +kernel
theorem dX10_bestWay_31 : decode cX10_bestWay 31 = .ok (.iload 4, 2) := by decide +kernel
theorem dX10_bestWay_33 : decode cX10_bestWay 33 = .ok (.aload_n 0, 1) := by decide +kernel
theorem dX10_bestWay_34 : decode cX10_bestWay 34 = .ok (.getfield 119, 3) := by decide +kernel
theorem dX10_bestWay_37 : decode cX10_bestWay 37 = .ok (.if_icmp .ge 75, 3) := by decide +kernel
theorem dX10_bestWay_40 : decode cX10_bestWay 40 = .ok (.aload_n 0, 1) := by decide +kernel
theorem dX10_bestWay_41 : decode cX10_bestWay 41 = .ok (.getfield 90, 3) := by decide +kernel
theorem dX10_bestWay_44 : decode cX10_bestWay 44 = .ok (.iload 4, 2) := by decide +kernel
theorem dX10_bestWay_46 : decode cX10_bestWay 46 = .ok (.iaload, 1) := by decide +kernel
theorem dX10_bestWay_47 : decode cX10_bestWay 47 = .ok (.ifCond .eq 59, 3) := by decide +kernel
theorem dX10_bestWay_50 : decode cX10_bestWay 50 = .ok (.aload_n 0, 1) := by decide +kernel
theorem dX10_bestWay_51 : decode cX10_bestWay 51 = .ok (.iload 4, 2) := by decide +kernel
theorem dX10_bestWay_53 : decode cX10_bestWay 53 = .ok (.iload_n 2, 1) := by decide +kernel
theorem dX10_bestWay_54 : decode cX10_bestWay 54 = .ok (.iload_n 3, 1) := by decide +kernel
theorem dX10_bestWay_55 : decode cX10_bestWay 55 = .ok (.iadd, 1) := by decide +kernel
theorem dX10_bestWay_56 : decode cX10_bestWay 56 = .ok (.invokevirtual 275, 3) := by decide +kernel
theorem dX10_bestWay_59 : decode cX10_bestWay 59 = .ok (.ifCond .eq 47, 3) := by decide +kernel
theorem dX10_bestWay_62 : decode cX10_bestWay 62 = .ok (.aload_n 0, 1) := by decide +kernel
theorem dX10_bestWay_63 : decode cX10_bestWay 63 = .ok (.iload 4, 2) := by decide +kernel
theorem dX10_bestWay_65 : decode cX10_bestWay 65 = .ok (.iload_n 2, 1) := by decide +kernel
theorem dX10_bestWay_66 : decode cX10_bestWay 66 = .ok (.iload_n 3, 1) := by decide +kernel
theorem dX10_bestWay_67 : decode cX10_bestWay 67 = .ok (.iadd, 1) := by decide +kernel
theorem dX10_bestWay_68 : decode cX10_bestWay 68 = .ok (.invokevirtual 130, 3) := by decide +kernel
theorem dX10_bestWay_71 : decode cX10_bestWay 71 = .ok (.aload_n 0, 1) := by decide +kernel
theorem dX10_bestWay_72 : decode cX10_bestWay 72 = .ok (.getfield 96, 3) := by decide +kernel
theorem dX10_bestWay_75 : decode cX10_bestWay 75 = .ok (.iload_n 3, 1) := by decide +kernel
theorem dX10_bestWay_76 : decode cX10_bestWay 76 = .ok (.iaload, 1) := by decide +kernel
theorem dX10_bestWay_77 : decode cX10_bestWay 77 = .ok (.if_icmp .gt 6, 3) := by decide +kernel
theorem dX10_bestWay_80 : decode cX10_bestWay 80 = .ok (.goto 26, 3) := by decide +kernel
theorem dX10_bestWay_83 : decode cX10_bestWay 83 = .ok (.aload_n 0, 1) := by decide +kernel
theorem dX10_bestWay_84 : decode cX10_bestWay 84 = .ok (.getfield 96, 3) := by decide +kernel
theorem dX10_bestWay_87 : decode cX10_bestWay 87 = .ok (.iload_n 3, 1) := by decide +kernel
theorem dX10_bestWay_88 : decode cX10_bestWay 88 = .ok (.aload_n 0, 1) := by decide +kernel
theorem dX10_bestWay_89 : decode cX10_bestWay 89 = .ok (.iload 4, 2) := by decide +kernel
theorem dX10_bestWay_91 : decode cX10_bestWay 91 = .ok (.iload_n 2, 1) := by decide +kernel
theorem dX10_bestWay_92 : decode cX10_bestWay 92 = .ok (.iload_n 3, 1) := by decide +kernel
theorem dX10_bestWay_93 : decode cX10_bestWay 93 = .ok (.iadd, 1) := by decide +kernel
theorem dX10_bestWay_94 : decode cX10_bestWay 94 = .ok (.invokevirtual 130, 3) := by decide +kernel
theorem dX10_bestWay_97 : decode cX10_bestWay 97 = .ok (.iastore, 1) := by decide +kernel
theorem dX10_bestWay_98 : decode cX10_bestWay 98 = .ok (.aload_n 0, 1) := by decide +kernel
theorem dX10_bestWay_99 : decode cX10_bestWay 99 = .ok (.getfield 102, 3) := by decide +kernel
theorem dX10_bestWay_102 : decode cX10_bestWay 102 = .ok (.iload_n 3, 1) := by decide +kernel
theorem dX10_bestWay_103 : decode cX10_bestWay 103 = .ok (.iload 4, 2) := by decide +kernel
theorem dX10_bestWay_105 : decode cX10_bestWay 105 = .ok (.iastore, 1) := by decide +kernel
theorem dX10_bestWay_106 : decode cX10_bestWay 106 = .ok (.iinc 4 1, 3) := by decide +kernel
theorem dX10_bestWay_109 : decode cX10_bestWay 109 = .ok (.goto (-78), 3) := by decide +kernel
theorem dX10_bestWay_112 : decode cX10_bestWay 112 = .ok (.iinc 3 1, 3) := by decide +kernel
theorem dX10_bestWay_115 : decode cX10_bestWay 115 = .ok (.goto (-108), 3) := by decide +kernel
theorem dX10_bestWay_118 : decode cX10_bestWay 118 = .ok (.iconst 0, 1) := by decide +kernel
theorem dX10_bestWay_119 : decode cX10_bestWay 119 = .ok (.istore_n 3, 1) := by decide +kernel
theorem dX10_bestWay_120 : decode cX10_bestWay 120 = .ok (.iload_n 3, 1) := by decide +kernel
theorem dX10_bestWay_121 : decode cX10_bestWay 121 = .ok (.iload_n 1, 1) := by decide +kernel
theorem dX10_bestWay_122 : decode cX10_bestWay 122 = .ok (.if_icmp .ge 185, 3) := by decide +kernel
theorem dX10_bestWay_125 : decode cX10_bestWay 125 = .ok (.iconst 0, 1) := by decide +kernel
theorem dX10_bestWay_126 : decode cX10_bestWay 126 = .ok (.istore 4, 2) := by decide +kernel
theorem dX10_bestWay_128 : decode cX10_bestWay 128 = .ok (.iload 4, 2) := by decide +kernel
theorem dX10_bestWay_130 : decode cX10_bestWay 130 = .ok (.iload_n 1, 1) := by decide +kernel
theorem dX10_bestWay_131 : decode cX10_bestWay 131 = .ok (.if_icmp .ge 170, 3) := by decide +kernel
theorem dX10_bestWay_134 : decode cX10_bestWay 134 = .ok (.iconst 0, 1) := by decide +kernel
theorem dX10_bestWay_135 : decode cX10_bestWay 135 = .ok (.istore 5, 2) := by decide +kernel
theorem dX10_bestWay_137 : decode cX10_bestWay 137 = .ok (.iload 5, 2) := by decide +kernel
theorem dX10_bestWay_139 : decode cX10_bestWay 139 = .ok (.aload_n 0, 1) := by decide +kernel
theorem dX10_bestWay_140 : decode cX10_bestWay 140 = .ok (.getfield 119, 3) := by decide +kernel
theorem dX10_bestWay_143 : decode cX10_bestWay 143 = .ok (.if_icmp .ge 152, 3) := by decide +kernel
theorem dX10_bestWay_146 : decode cX10_bestWay 146 = .ok (.aload_n 0, 1) := by decide +kernel
theorem dX10_bestWay_147 : decode cX10_bestWay 147 = .ok (.getfield 96, 3) := by decide +kernel
theorem dX10_bestWay_150 : decode cX10_bestWay 150 = .ok (.iload 4, 2) := by decide +kernel
theorem dX10_bestWay_152 : decode cX10_bestWay 152 = .ok (.iaload, 1) := by decide +kernel
theorem dX10_bestWay_153 : decode cX10_bestWay 153 = .ok (.ldc_w 274, 3) := by decide +kernel
theorem dX10_bestWay_156 : decode cX10_bestWay 156 = .ok (.if_icmp .le 139, 3) := by decide +kernel
theorem dX10_bestWay_159 : decode cX10_bestWay 159 = .ok (.aload_n 0, 1) := by decide +kernel
theorem dX10_bestWay_160 : decode cX10_bestWay 160 = .ok (.getfield 87, 3) := by decide +kernel
theorem dX10_bestWay_163 : decode cX10_bestWay 163 = .ok (.bipush 6, 2) := by decide +kernel
theorem dX10_bestWay_165 : decode cX10_bestWay 165 = .ok (.iload 5, 2) := by decide +kernel
theorem dX10_bestWay_167 : decode cX10_bestWay 167 = .ok (.imul, 1) := by decide +kernel
theorem dX10_bestWay_168 : decode cX10_bestWay 168 = .ok (.iload 4, 2) := by decide +kernel
theorem dX10_bestWay_170 : decode cX10_bestWay 170 = .ok (.iadd, 1) := by decide +kernel
theorem dX10_bestWay_171 : decode cX10_bestWay 171 = .ok (.iaload, 1) := by decide +kernel
theorem dX10_bestWay_172 : decode cX10_bestWay 172 = .ok (.ifCond .ne 6, 3) := by decide +kernel
theorem dX10_bestWay_175 : decode cX10_bestWay 175 = .ok (.goto 114, 3) := by decide +kernel
theorem dX10_bestWay_178 : decode cX10_bestWay 178 = .ok (.iconst 0, 1) := by decide +kernel
theorem dX10_bestWay_179 : decode cX10_bestWay 179 = .ok (.istore 6, 2) := by decide +kernel
theorem dX10_bestWay_181 : decode cX10_bestWay 181 = .ok (.iload 6, 2) := by decide +kernel
theorem dX10_bestWay_183 : decode cX10_bestWay 183 = .ok (.iload_n 1, 1) := by decide +kernel
theorem dX10_bestWay_184 : decode cX10_bestWay 184 = .ok (.if_icmp .ge 105, 3) := by decide +kernel
theorem dX10_bestWay_187 : decode cX10_bestWay 187 = .ok (.iload 6, 2) := by decide +kernel
theorem dX10_bestWay_189 : decode cX10_bestWay 189 = .ok (.iload 4, 2) := by decide +kernel
theorem dX10_bestWay_191 : decode cX10_bestWay 191 = .ok (.if_icmp .eq 92, 3) := by decide +kernel
theorem dX10_bestWay_194 : decode cX10_bestWay 194 = .ok (.aload_n 0, 1) := by decide +kernel
theorem dX10_bestWay_195 : decode cX10_bestWay 195 = .ok (.iload 5, 2) := by decide +kernel
theorem dX10_bestWay_197 : decode cX10_bestWay 197 = .ok (.iload_n 2, 1) := by decide +kernel
theorem dX10_bestWay_198 : decode cX10_bestWay 198 = .ok (.iload 6, 2) := by decide +kernel
theorem dX10_bestWay_200 : decode cX10_bestWay 200 = .ok (.iadd, 1) := by decide +kernel
theorem dX10_bestWay_201 : decode cX10_bestWay 201 = .ok (.invokevirtual 275, 3) := by decide +kernel
theorem dX10_bestWay_204 : decode cX10_bestWay 204 = .ok (.ifCond .ne 6, 3) := by decide +kernel
theorem dX10_bestWay_207 : decode cX10_bestWay 207 = .ok (.goto 76, 3) := by decide +kernel
theorem dX10_bestWay_210 : decode cX10_bestWay 210 = .ok (.aload_n 0, 1) := by decide +kernel
theorem dX10_bestWay_211 : decode cX10_bestWay 211 = .ok (.getfield 96, 3) := by decide +kernel
theorem dX10_bestWay_214 : decode cX10_bestWay 214 = .ok (.iload 4, 2) := by decide +kernel
theorem dX10_bestWay_216 : decode cX10_bestWay 216 = .ok (.iaload, 1) := by decide +kernel
theorem dX10_bestWay_217 : decode cX10_bestWay 217 = .ok (.aload_n 0, 1) := by decide +kernel
theorem dX10_bestWay_218 : decode cX10_bestWay 218 = .ok (.iload 5, 2) := by decide +kernel
theorem dX10_bestWay_220 : decode cX10_bestWay 220 = .ok (.iload_n 2, 1) := by decide +kernel
theorem dX10_bestWay_221 : decode cX10_bestWay 221 = .ok (.iload 6, 2) := by decide +kernel
theorem dX10_bestWay_223 : decode cX10_bestWay 223 = .ok (.iadd, 1) := by decide +kernel
theorem dX10_bestWay_224 : decode cX10_bestWay 224 = .ok (.invokevirtual 130, 3) := by decide +kernel
theorem dX10_bestWay_227 : decode cX10_bestWay 227 = .ok (.iadd, 1) := by decide +kernel
theorem dX10_bestWay_228 : decode cX10_bestWay 228 = .ok (.aload_n 0, 1) := by decide +kernel
theorem dX10_bestWay_229 : decode cX10_bestWay 229 = .ok (.iload 5, 2) := by decide +kernel
theorem dX10_bestWay_231 : decode cX10_bestWay 231 = .ok (.iload_n 2, 1) := by decide +kernel
theorem dX10_bestWay_232 : decode cX10_bestWay 232 = .ok (.iload 4, 2) := by decide +kernel
theorem dX10_bestWay_234 : decode cX10_bestWay 234 = .ok (.iadd, 1) := by decide +kernel
theorem dX10_bestWay_235 : decode cX10_bestWay 235 = .ok (.invokevirtual 130, 3) := by decide +kernel
theorem dX10_bestWay_238 : decode cX10_bestWay 238 = .ok (.isub, 1) := by decide +kernel
theorem dX10_bestWay_239 : decode cX10_bestWay 239 = .ok (.istore 7, 2) := by decide +kernel
theorem dX10_bestWay_241 : decode cX10_bestWay 241 = .ok (.iload 7, 2) := by decide +kernel
theorem dX10_bestWay_243 : decode cX10_bestWay 243 = .ok (.aload_n 0, 1) := by decide +kernel
theorem dX10_bestWay_244 : decode cX10_bestWay 244 = .ok (.getfield 96, 3) := by decide +kernel
theorem dX10_bestWay_247 : decode cX10_bestWay 247 = .ok (.iload 6, 2) := by decide +kernel
theorem dX10_bestWay_249 : decode cX10_bestWay 249 = .ok (.iaload, 1) := by decide +kernel
theorem dX10_bestWay_250 : decode cX10_bestWay 250 = .ok (.if_icmp .gt 6, 3) := by decide +kernel
theorem dX10_bestWay_253 : decode cX10_bestWay 253 = .ok (.goto 30, 3) := by decide +kernel
theorem dX10_bestWay_256 : decode cX10_bestWay 256 = .ok (.aload_n 0, 1) := by decide +kernel
theorem dX10_bestWay_257 : decode cX10_bestWay 257 = .ok (.getfield 96, 3) := by decide +kernel
theorem dX10_bestWay_260 : decode cX10_bestWay 260 = .ok (.iload 6, 2) := by decide +kernel
theorem dX10_bestWay_262 : decode cX10_bestWay 262 = .ok (.iload 7, 2) := by decide +kernel
theorem dX10_bestWay_264 : decode cX10_bestWay 264 = .ok (.iastore, 1) := by decide +kernel
theorem dX10_bestWay_265 : decode cX10_bestWay 265 = .ok (.aload_n 0, 1) := by decide +kernel
theorem dX10_bestWay_266 : decode cX10_bestWay 266 = .ok (.getfield 99, 3) := by decide +kernel
theorem dX10_bestWay_269 : decode cX10_bestWay 269 = .ok (.iload 6, 2) := by decide +kernel
theorem dX10_bestWay_271 : decode cX10_bestWay 271 = .ok (.iload 4, 2) := by decide +kernel
theorem dX10_bestWay_273 : decode cX10_bestWay 273 = .ok (.iastore, 1) := by decide +kernel
theorem dX10_bestWay_274 : decode cX10_bestWay 274 = .ok (.aload_n 0, 1) := by decide +kernel
theorem dX10_bestWay_275 : decode cX10_bestWay 275 = .ok (.getfield 102, 3) := by decide +kernel
theorem dX10_bestWay_278 : decode cX10_bestWay 278 = .ok (.iload 6, 2) := by decide +kernel
theorem dX10_bestWay_280 : decode cX10_bestWay 280 = .ok (.iload 5, 2) := by decide +kernel
theorem dX10_bestWay_282 : decode cX10_bestWay 282 = .ok (.iastore, 1) := by decide +kernel
theorem dX10_bestWay_283 : decode cX10_bestWay 283 = .ok (.iinc 6 1, 3) := by decide +kernel
theorem dX10_bestWay_286 : decode cX10_bestWay 286 = .ok (.goto (-105), 3) := by decide +kernel
theorem dX10_bestWay_289 : decode cX10_bestWay 289 = .ok (.iinc 5 1, 3) := by decide +kernel
theorem dX10_bestWay_292 : decode cX10_bestWay 292 = .ok (.goto (-155), 3) := by decide +kernel
theorem dX10_bestWay_295 : decode cX10_bestWay 295 = .ok (.iinc 4 1, 3) := by decide +kernel
theorem dX10_bestWay_298 : decode cX10_bestWay 298 = .ok (.goto (-170), 3) := by decide +kernel
theorem dX10_bestWay_301 : decode cX10_bestWay 301 = .ok (.iinc 3 1, 3) := by decide +kernel
theorem dX10_bestWay_304 : decode cX10_bestWay 304 = .ok (.goto (-184), 3) := by decide +kernel
theorem dX10_bestWay_307 : decode cX10_bestWay 307 = .ok (.iconst (-1), 1) := by decide +kernel
theorem dX10_bestWay_308 : decode cX10_bestWay 308 = .ok (.istore_n 3, 1) := by decide +kernel
theorem dX10_bestWay_309 : decode cX10_bestWay 309 = .ok (.iconst 0, 1) := by decide +kernel
theorem dX10_bestWay_310 : decode cX10_bestWay 310 = .ok (.istore 4, 2) := by decide +kernel
theorem dX10_bestWay_312 : decode cX10_bestWay 312 = .ok (.iload 4, 2) := by decide +kernel
theorem dX10_bestWay_314 : decode cX10_bestWay 314 = .ok (.iload_n 1, 1) := by decide +kernel
theorem dX10_bestWay_315 : decode cX10_bestWay 315 = .ok (.if_icmp .ge 53, 3) := by decide +kernel
theorem dX10_bestWay_318 : decode cX10_bestWay 318 = .ok (.aload_n 0, 1) := by decide +kernel
theorem dX10_bestWay_319 : decode cX10_bestWay 319 = .ok (.getfield 93, 3) := by decide +kernel
theorem dX10_bestWay_322 : decode cX10_bestWay 322 = .ok (.iload 4, 2) := by decide +kernel
theorem dX10_bestWay_324 : decode cX10_bestWay 324 = .ok (.iaload, 1) := by decide +kernel
theorem dX10_bestWay_325 : decode cX10_bestWay 325 = .ok (.ifCond .le 37, 3) := by decide +kernel
theorem dX10_bestWay_328 : decode cX10_bestWay 328 = .ok (.aload_n 0, 1) := by decide +kernel
theorem dX10_bestWay_329 : decode cX10_bestWay 329 = .ok (.getfield 96, 3) := by decide +kernel
theorem dX10_bestWay_332 : decode cX10_bestWay 332 = .ok (.iload 4, 2) := by decide +kernel
theorem dX10_bestWay_334 : decode cX10_bestWay 334 = .ok (.iaload, 1) := by decide +kernel
theorem dX10_bestWay_335 : decode cX10_bestWay 335 = .ok (.ifCond .le 27, 3) := by decide +kernel
theorem dX10_bestWay_338 : decode cX10_bestWay 338 = .ok (.iload_n 3, 1) := by decide +kernel
theorem dX10_bestWay_339 : decode cX10_bestWay 339 = .ok (.iconst (-1), 1) := by decide +kernel
theorem dX10_bestWay_340 : decode cX10_bestWay 340 = .ok (.if_icmp .eq 19, 3) := by decide +kernel
theorem dX10_bestWay_343 : decode cX10_bestWay 343 = .ok (.aload_n 0, 1) := by decide +kernel
theorem dX10_bestWay_344 : decode cX10_bestWay 344 = .ok (.getfield 96, 3) := by decide +kernel
theorem dX10_bestWay_347 : decode cX10_bestWay 347 = .ok (.iload 4, 2) := by decide +kernel
theorem dX10_bestWay_349 : decode cX10_bestWay 349 = .ok (.iaload, 1) := by decide +kernel
theorem dX10_bestWay_350 : decode cX10_bestWay 350 = .ok (.aload_n 0, 1) := by decide +kernel
theorem dX10_bestWay_351 : decode cX10_bestWay 351 = .ok (.getfield 96, 3) := by decide +kernel
theorem dX10_bestWay_354 : decode cX10_bestWay 354 = .ok (.iload_n 3, 1) := by decide +kernel
theorem dX10_bestWay_355 : decode cX10_bestWay 355 = .ok (.iaload, 1) := by decide +kernel
theorem dX10_bestWay_356 : decode cX10_bestWay 356 = .ok (.if_icmp .le 6, 3) := by decide +kernel
theorem dX10_bestWay_359 : decode cX10_bestWay 359 = .ok (.iload 4, 2) := by decide +kernel
theorem dX10_bestWay_361 : decode cX10_bestWay 361 = .ok (.istore_n 3, 1) := by decide +kernel
theorem dX10_bestWay_362 : decode cX10_bestWay 362 = .ok (.iinc 4 1, 3) := by decide +kernel
theorem dX10_bestWay_365 : decode cX10_bestWay 365 = .ok (.goto (-53), 3) := by decide +kernel
theorem dX10_bestWay_368 : decode cX10_bestWay 368 = .ok (.iload_n 3, 1) := by decide +kernel
theorem dX10_bestWay_369 : decode cX10_bestWay 369 = .ok (.ireturn, 1) := by decide +kernel
set_option maxRecDepth 20000 in
theorem ggX10_plan_X10_within : GoodIn wsX10_plan wsX10_within := goodIn_r _ [12] (by decide +kernel) (by decide +kernel)
set_option maxRecDepth 20000 in
theorem gX10_plan_X10_within : GoodIn wsX10_plan (va_wsS RX10 108 yX10_within wsX10_within) := goodIn_app (goodIn_of _ (by decide +kernel)) ggX10_plan_X10_within
set_option maxRecDepth 20000 in
theorem ggX10_plan_X10_may : GoodIn wsX10_plan wsX10_may := goodIn_r _ [16, 1, 46, 47, 48, 49, 50, 51, 52, 53, 54, 55, 56, 57, 58, 59, 60, 61, 62, 63, 64, 65, 66, 67, 68, 69, 70, 71, 72, 73, 74, 75, 76, 77, 78, 79, 80, 81, 82, 83, 84, 85, 86, 87, 88, 89, 90, 91, 92, 93, 94] (by decide +kernel) (by decide +kernel)
set_option maxRecDepth 20000 in
theorem gX10_plan_X10_may : GoodIn wsX10_plan (wsV RX10 112 RX10 yX10_may wsX10_may) := goodIn_app (goodIn_of _ (by decide +kernel)) ggX10_plan_X10_may
set_option maxRecDepth 20000 in
theorem ggX10_plan_X10_bottlesOf : GoodIn wsX10_plan wsX10_bottlesOf := goodIn_r _ [20, 21, 22, 46, 47, 48, 49, 50, 51, 52, 53, 54, 55, 56, 57, 58, 59, 60, 61, 62, 63, 64, 65, 66, 67, 68, 69, 70, 71, 72, 73, 74, 75, 76, 77, 78, 79, 80, 81, 82, 83, 84, 85, 86, 87, 88, 89, 90, 91, 92, 93, 94] (by decide +kernel) (by decide +kernel)
set_option maxRecDepth 20000 in
theorem gX10_plan_X10_bottlesOf : GoodIn wsX10_plan (wsV RX10 152 RX10 yX10_bottlesOf wsX10_bottlesOf) := goodIn_app (goodIn_of _ (by decide +kernel)) ggX10_plan_X10_bottlesOf
set_option maxRecDepth 20000 in
theorem ggX10_plan_X10_bestWay : GoodIn wsX10_plan wsX10_bestWay := goodIn_r _ [26, 6, 27, 7, 3, 4, 8, 2, 5, 28, 29, 30, 11, 31, 32, 33, 34, 35, 36, 37, 38, 39, 40, 41, 42, 43, 44, 45, 46, 47, 48, 49, 50, 51, 52, 53, 54, 55, 56, 57, 58, 59, 60, 61, 62, 63, 64, 65, 66, 67, 68, 69, 70, 71, 72, 73, 74, 75, 76, 77, 78, 79, 80, 81, 82, 83, 84, 85, 86, 87, 88, 89, 90, 91, 92, 93, 94] (by decide +kernel) (by decide +kernel)
set_option maxRecDepth 20000 in
theorem gX10_plan_X10_bestWay : GoodIn wsX10_plan (wsV RX10 278 RX10 yX10_bestWay wsX10_bestWay) := goodIn_app (goodIn_of _ (by decide +kernel)) ggX10_plan_X10_bestWay
theorem dX10_plan_0 : decode cX10_plan 0 = .ok (.aload_n 0, 1) := by decide +kernel
theorem dX10_plan_1 : decode cX10_plan 1 = .ok (.iconst 0, 1) := by decide +kernel
theorem dX10_plan_2 : decode cX10_plan 2 = .ok (.putfield 1, 3) := by decide +kernel
theorem dX10_plan_5 : decode cX10_plan 5 = .ok (.aload_n 0, 1) := by decide +kernel
theorem dX10_plan_6 : decode cX10_plan 6 = .ok (.iload_n 1, 1) := by decide +kernel
theorem dX10_plan_7 : decode cX10_plan 7 = .ok (.iconst 1, 1) := by decide +kernel
theorem dX10_plan_8 : decode cX10_plan 8 = .ok (.bipush 6, 2) := by decide +kernel
theorem dX10_plan_10 : decode cX10_plan 10 = .ok (.invokestatic 108, 3) := by decide +kernel
theorem dX10_plan_13 : decode cX10_plan 13 = .ok (.ifCond .eq 17, 3) := by decide +kernel
theorem dX10_plan_16 : decode cX10_plan 16 = .ok (.iload_n 2, 1) := by decide +kernel
theorem dX10_plan_17 : decode cX10_plan 17 = .ok (.iconst 0, 1) := by decide +kernel
theorem dX10_plan_18 : decode cX10_plan 18 = .ok (.bipush 100, 2) := by decide +kernel
theorem dX10_plan_20 : decode cX10_plan 20 = .ok (.invokestatic 108, 3) := by decide +kernel
theorem dX10_plan_23 : decode cX10_plan 23 = .ok (.ifCond .eq 7, 3) := by decide +kernel
theorem dX10_plan_26 : decode cX10_plan 26 = .ok (.iconst 1, 1) := by decide +kernel
theorem dX10_plan_27 : decode cX10_plan 27 = .ok (.goto 4, 3) := by decide +kernel
theorem dX10_plan_30 : decode cX10_plan 30 = .ok (.iconst 0, 1) := by decide +kernel
theorem dX10_plan_31 : decode cX10_plan 31 = .ok (.iconst 1, 1) := by decide +kernel
theorem dX10_plan_32 : decode cX10_plan 32 = .ok (.invokevirtual 112, 3) := by decide +kernel
theorem dX10_plan_35 : decode cX10_plan 35 = .ok (.ifCond .ne 5, 3) := by decide +kernel
theorem dX10_plan_38 : decode cX10_plan 38 = .ok (.iconst 0, 1) := by decide +kernel
theorem dX10_plan_39 : decode cX10_plan 39 = .ok (.ireturn, 1) := by decide +kernel
theorem dX10_plan_40 : decode cX10_plan 40 = .ok (.iconst 0, 1) := by decide +kernel
theorem dX10_plan_41 : decode cX10_plan 41 = .ok (.istore_n 3, 1) := by decide +kernel
theorem dX10_plan_42 : decode cX10_plan 42 = .ok (.iload_n 3, 1) := by decide +kernel
theorem dX10_plan_43 : decode cX10_plan 43 = .ok (.sipush 360, 3) := by decide +kernel
theorem dX10_plan_46 : decode cX10_plan 46 = .ok (.if_icmp .ge 16, 3) := by decide +kernel
theorem dX10_plan_49 : decode cX10_plan 49 = .ok (.aload_n 0, 1) := by decide +kernel
theorem dX10_plan_50 : decode cX10_plan 50 = .ok (.getfield 87, 3) := by decide +kernel
theorem dX10_plan_53 : decode cX10_plan 53 = .ok (.iload_n 3, 1) := by decide +kernel
theorem dX10_plan_54 : decode cX10_plan 54 = .ok (.iconst 0, 1) := by decide +kernel
theorem dX10_plan_55 : decode cX10_plan 55 = .ok (.iastore, 1) := by decide +kernel
theorem dX10_plan_56 : decode cX10_plan 56 = .ok (.iinc 3 1, 3) := by decide +kernel
theorem dX10_plan_59 : decode cX10_plan 59 = .ok (.goto (-17), 3) := by decide +kernel
theorem dX10_plan_62 : decode cX10_plan 62 = .ok (.iconst 0, 1) := by decide +kernel
theorem dX10_plan_63 : decode cX10_plan 63 = .ok (.istore_n 3, 1) := by decide +kernel
theorem dX10_plan_64 : decode cX10_plan 64 = .ok (.iload_n 3, 1) := by decide +kernel
theorem dX10_plan_65 : decode cX10_plan 65 = .ok (.aload_n 0, 1) := by decide +kernel
theorem dX10_plan_66 : decode cX10_plan 66 = .ok (.getfield 119, 3) := by decide +kernel
theorem dX10_plan_69 : decode cX10_plan 69 = .ok (.if_icmp .ge 20, 3) := by decide +kernel
theorem dX10_plan_72 : decode cX10_plan 72 = .ok (.aload_n 0, 1) := by decide +kernel
theorem dX10_plan_73 : decode cX10_plan 73 = .ok (.getfield 90, 3) := by decide +kernel
theorem dX10_plan_76 : decode cX10_plan 76 = .ok (.iload_n 3, 1) := by decide +kernel
theorem dX10_plan_77 : decode cX10_plan 77 = .ok (.aload_n 0, 1) := by decide +kernel
theorem dX10_plan_78 : decode cX10_plan 78 = .ok (.iload_n 3, 1) := by decide +kernel
theorem dX10_plan_79 : decode cX10_plan 79 = .ok (.invokevirtual 152, 3) := by decide +kernel
theorem dX10_plan_82 : decode cX10_plan 82 = .ok (.iastore, 1) := by decide +kernel
theorem dX10_plan_83 : decode cX10_plan 83 = .ok (.iinc 3 1, 3) := by decide +kernel
theorem dX10_plan_86 : decode cX10_plan 86 = .ok (.goto (-22), 3) := by decide +kernel
theorem dX10_plan_89 : decode cX10_plan 89 = .ok (.iconst 0, 1) := by decide +kernel
theorem dX10_plan_90 : decode cX10_plan 90 = .ok (.istore_n 3, 1) := by decide +kernel
theorem dX10_plan_91 : decode cX10_plan 91 = .ok (.iload_n 3, 1) := by decide +kernel
theorem dX10_plan_92 : decode cX10_plan 92 = .ok (.iload_n 1, 1) := by decide +kernel
theorem dX10_plan_93 : decode cX10_plan 93 = .ok (.if_icmp .ge 16, 3) := by decide +kernel
theorem dX10_plan_96 : decode cX10_plan 96 = .ok (.aload_n 0, 1) := by decide +kernel
theorem dX10_plan_97 : decode cX10_plan 97 = .ok (.getfield 93, 3) := by decide +kernel
theorem dX10_plan_100 : decode cX10_plan 100 = .ok (.iload_n 3, 1) := by decide +kernel
theorem dX10_plan_101 : decode cX10_plan 101 = .ok (.iload_n 2, 1) := by decide +kernel
theorem dX10_plan_102 : decode cX10_plan 102 = .ok (.iastore, 1) := by decide +kernel
theorem dX10_plan_103 : decode cX10_plan 103 = .ok (.iinc 3 1, 3) := by decide +kernel
theorem dX10_plan_106 : decode cX10_plan 106 = .ok (.goto (-15), 3) := by decide +kernel
theorem dX10_plan_109 : decode cX10_plan 109 = .ok (.iconst 0, 1) := by decide +kernel
theorem dX10_plan_110 : decode cX10_plan 110 = .ok (.istore_n 3, 1) := by decide +kernel
theorem dX10_plan_111 : decode cX10_plan 111 = .ok (.aload_n 0, 1) := by decide +kernel
theorem dX10_plan_112 : decode cX10_plan 112 = .ok (.iload_n 1, 1) := by decide +kernel
theorem dX10_plan_113 : decode cX10_plan 113 = .ok (.invokevirtual 278, 3) := by decide +kernel
theorem dX10_plan_116 : decode cX10_plan 116 = .ok (.istore 4, 2) := by decide +kernel
theorem dX10_plan_118 : decode cX10_plan 118 = .ok (.iload 4, 2) := by decide +kernel
theorem dX10_plan_120 : decode cX10_plan 120 = .ok (.iconst (-1), 1) := by decide +kernel
theorem dX10_plan_121 : decode cX10_plan 121 = .ok (.if_icmp .eq 148, 3) := by decide +kernel
theorem dX10_plan_124 : decode cX10_plan 124 = .ok (.iload_n 3, 1) := by decide +kernel
theorem dX10_plan_125 : decode cX10_plan 125 = .ok (.aload_n 0, 1) := by decide +kernel
theorem dX10_plan_126 : decode cX10_plan 126 = .ok (.getfield 96, 3) := by decide +kernel
theorem dX10_plan_129 : decode cX10_plan 129 = .ok (.iload 4, 2) := by decide +kernel
theorem dX10_plan_131 : decode cX10_plan 131 = .ok (.iaload, 1) := by decide +kernel
theorem dX10_plan_132 : decode cX10_plan 132 = .ok (.iadd, 1) := by decide +kernel
theorem dX10_plan_133 : decode cX10_plan 133 = .ok (.istore_n 3, 1) := by decide +kernel
theorem dX10_plan_134 : decode cX10_plan 134 = .ok (.aload_n 0, 1) := by decide +kernel
theorem dX10_plan_135 : decode cX10_plan 135 = .ok (.getfield 93, 3) := by decide +kernel
theorem dX10_plan_138 : decode cX10_plan 138 = .ok (.iload 4, 2) := by decide +kernel
theorem dX10_plan_140 : decode cX10_plan 140 = .ok (.dup2, 1) := by decide +kernel
theorem dX10_plan_141 : decode cX10_plan 141 = .ok (.iaload, 1) := by decide +kernel
theorem dX10_plan_142 : decode cX10_plan 142 = .ok (.iconst 1, 1) := by decide +kernel
theorem dX10_plan_143 : decode cX10_plan 143 = .ok (.isub, 1) := by decide +kernel
theorem dX10_plan_144 : decode cX10_plan 144 = .ok (.iastore, 1) := by decide +kernel
theorem dX10_plan_145 : decode cX10_plan 145 = .ok (.iload 4, 2) := by decide +kernel
theorem dX10_plan_147 : decode cX10_plan 147 = .ok (.istore 5, 2) := by decide +kernel
theorem dX10_plan_149 : decode cX10_plan 149 = .ok (.aload_n 0, 1) := by decide +kernel
theorem dX10_plan_150 : decode cX10_plan 150 = .ok (.getfield 99, 3) := by decide +kernel
theorem dX10_plan_153 : decode cX10_plan 153 = .ok (.iload 5, 2) := by decide +kernel
theorem dX10_plan_155 : decode cX10_plan 155 = .ok (.iaload, 1) := by decide +kernel
theorem dX10_plan_156 : decode cX10_plan 156 = .ok (.iconst (-1), 1) := by decide +kernel
theorem dX10_plan_157 : decode cX10_plan 157 = .ok (.if_icmp .eq 64, 3) := by decide +kernel
theorem dX10_plan_160 : decode cX10_plan 160 = .ok (.aload_n 0, 1) := by decide +kernel
theorem dX10_plan_161 : decode cX10_plan 161 = .ok (.getfield 87, 3) := by decide +kernel
theorem dX10_plan_164 : decode cX10_plan 164 = .ok (.bipush 6, 2) := by decide +kernel
theorem dX10_plan_166 : decode cX10_plan 166 = .ok (.aload_n 0, 1) := by decide +kernel
theorem dX10_plan_167 : decode cX10_plan 167 = .ok (.getfield 102, 3) := by decide +kernel
theorem dX10_plan_170 : decode cX10_plan 170 = .ok (.iload 5, 2) := by decide +kernel
theorem dX10_plan_172 : decode cX10_plan 172 = .ok (.iaload, 1) := by decide +kernel
theorem dX10_plan_173 : decode cX10_plan 173 = .ok (.imul, 1) := by decide +kernel
theorem dX10_plan_174 : decode cX10_plan 174 = .ok (.iload 5, 2) := by decide +kernel
theorem dX10_plan_176 : decode cX10_plan 176 = .ok (.iadd, 1) := by decide +kernel
theorem dX10_plan_177 : decode cX10_plan 177 = .ok (.dup2, 1) := by decide +kernel
theorem dX10_plan_178 : decode cX10_plan 178 = .ok (.iaload, 1) := by decide +kernel
theorem dX10_plan_179 : decode cX10_plan 179 = .ok (.iconst 1, 1) := by decide +kernel
theorem dX10_plan_180 : decode cX10_plan 180 = .ok (.iadd, 1) := by decide +kernel
theorem dX10_plan_181 : decode cX10_plan 181 = .ok (.iastore, 1) := by decide +kernel
theorem dX10_plan_182 : decode cX10_plan 182 = .ok (.aload_n 0, 1) := by decide +kernel
theorem dX10_plan_183 : decode cX10_plan 183 = .ok (.getfield 87, 3) := by decide +kernel
theorem dX10_plan_186 : decode cX10_plan 186 = .ok (.bipush 6, 2) := by decide +kernel
theorem dX10_plan_188 : decode cX10_plan 188 = .ok (.aload_n 0, 1) := by decide +kernel
theorem dX10_plan_189 : decode cX10_plan 189 = .ok (.getfield 102, 3) := by decide +kernel
theorem dX10_plan_192 : decode cX10_plan 192 = .ok (.iload 5, 2) := by decide +kernel
theorem dX10_plan_194 : decode cX10_plan 194 = .ok (.iaload, 1) := by decide +kernel
theorem dX10_plan_195 : decode cX10_plan 195 = .ok (.imul, 1) := by decide +kernel
theorem dX10_plan_196 : decode cX10_plan 196 = .ok (.aload_n 0, 1) := by decide +kernel
theorem dX10_plan_197 : decode cX10_plan 197 = .ok (.getfield 99, 3) := by decide +kernel
theorem dX10_plan_200 : decode cX10_plan 200 = .ok (.iload 5, 2) := by decide +kernel
theorem dX10_plan_202 : decode cX10_plan 202 = .ok (.iaload, 1) := by decide +kernel
theorem dX10_plan_203 : decode cX10_plan 203 = .ok (.iadd, 1) := by decide +kernel
theorem dX10_plan_204 : decode cX10_plan 204 = .ok (.dup2, 1) := by decide +kernel
theorem dX10_plan_205 : decode cX10_plan 205 = .ok (.iaload, 1) := by decide +kernel
theorem dX10_plan_206 : decode cX10_plan 206 = .ok (.iconst 1, 1) := by decide +kernel
theorem dX10_plan_207 : decode cX10_plan 207 = .ok (.isub, 1) := by decide +kernel
theorem dX10_plan_208 : decode cX10_plan 208 = .ok (.iastore, 1) := by decide +kernel
theorem dX10_plan_209 : decode cX10_plan 209 = .ok (.aload_n 0, 1) := by decide +kernel
theorem dX10_plan_210 : decode cX10_plan 210 = .ok (.getfield 99, 3) := by decide +kernel
theorem dX10_plan_213 : decode cX10_plan 213 = .ok (.iload 5, 2) := by decide +kernel
theorem dX10_plan_215 : decode cX10_plan 215 = .ok (.iaload, 1) := by decide +kernel
theorem dX10_plan_216 : decode cX10_plan 216 = .ok (.istore 5, 2) := by decide +kernel
theorem dX10_plan_218 : decode cX10_plan 218 = .ok (.goto (-69), 3) := by decide +kernel
theorem dX10_plan_221 : decode cX10_plan 221 = .ok (.aload_n 0, 1) := by decide +kernel
theorem dX10_plan_222 : decode cX10_plan 222 = .ok (.getfield 87, 3) := by decide +kernel
theorem dX10_plan_225 : decode cX10_plan 225 = .ok (.bipush 6, 2) := by decide +kernel
theorem dX10_plan_227 : decode cX10_plan 227 = .ok (.aload_n 0, 1) := by decide +kernel
theorem dX10_plan_228 : decode cX10_plan 228 = .ok (.getfield 102, 3) := by decide +kernel
theorem dX10_plan_231 : decode cX10_plan 231 = .ok (.iload 5, 2) := by decide +kernel
theorem dX10_plan_233 : decode cX10_plan 233 = .ok (.iaload, 1) := by decide +kernel
theorem dX10_plan_234 : decode cX10_plan 234 = .ok (.imul, 1) := by decide +kernel
theorem dX10_plan_235 : decode cX10_plan 235 = .ok (.iload 5, 2) := by decide +kernel
theorem dX10_plan_237 : decode cX10_plan 237 = .ok (.iadd, 1) := by decide +kernel
theorem dX10_plan_238 : decode cX10_plan 238 = .ok (.dup2, 1) := by decide +kernel
theorem dX10_plan_239 : decode cX10_plan 239 = .ok (.iaload, 1) := by decide +kernel
theorem dX10_plan_240 : decode cX10_plan 240 = .ok (.iconst 1, 1) := by decide +kernel
theorem dX10_plan_241 : decode cX10_plan 241 = .ok (.iadd, 1) := by decide +kernel
theorem dX10_plan_242 : decode cX10_plan 242 = .ok (.iastore, 1) := by decide +kernel
theorem dX10_plan_243 : decode cX10_plan 243 = .ok (.aload_n 0, 1) := by decide +kernel
theorem dX10_plan_244 : decode cX10_plan 244 = .ok (.getfield 90, 3) := by decide +kernel
theorem dX10_plan_247 : decode cX10_plan 247 = .ok (.aload_n 0, 1) := by decide +kernel
theorem dX10_plan_248 : decode cX10_plan 248 = .ok (.getfield 102, 3) := by decide +kernel
theorem dX10_plan_251 : decode cX10_plan 251 = .ok (.iload 5, 2) := by decide +kernel
theorem dX10_plan_253 : decode cX10_plan 253 = .ok (.iaload, 1) := by decide +kernel
theorem dX10_plan_254 : decode cX10_plan 254 = .ok (.dup2, 1) := by decide +kernel
theorem dX10_plan_255 : decode cX10_plan 255 = .ok (.iaload, 1) := by decide +kernel
theorem dX10_plan_256 : decode cX10_plan 256 = .ok (.iconst 1, 1) := by decide +kernel
theorem dX10_plan_257 : decode cX10_plan 257 = .ok (.isub, 1) := by decide +kernel
theorem dX10_plan_258 : decode cX10_plan 258 = .ok (.iastore, 1) := by decide +kernel
theorem dX10_plan_259 : decode cX10_plan 259 = .ok (.aload_n 0, 1) := by decide +kernel
theorem dX10_plan_260 : decode cX10_plan 260 = .ok (.iload_n 1, 1) := by decide +kernel
theorem dX10_plan_261 : decode cX10_plan 261 = .ok (.invokevirtual 278, 3) := by decide +kernel
theorem dX10_plan_264 : decode cX10_plan 264 = .ok (.istore 4, 2) := by decide +kernel
theorem dX10_plan_266 : decode cX10_plan 266 = .ok (.goto (-148), 3) := by decide +kernel
theorem dX10_plan_269 : decode cX10_plan 269 = .ok (.iload_n 3, 1) := by decide +kernel
theorem dX10_plan_270 : decode cX10_plan 270 = .ok (.ireturn, 1) := by decide +kernel
theorem dX10_count_0 : decode cX10_count 0 = .ok (.aload_n 0, 1) := by decide +kernel
theorem dX10_count_1 : decode cX10_count 1 = .ok (.iconst 0, 1) := by decide +kernel
theorem dX10_count_2 : decode cX10_count 2 = .ok (.putfield 1, 3) := by decide +kernel
theorem dX10_count_5 : decode cX10_count 5 = .ok (.iload_n 1, 1) := by decide +kernel
theorem dX10_count_6 : decode cX10_count 6 = .ok (.tableswitch 171 0 14 #[74, 79, 84, 111, 116, 121, 126, 131, 136, 141, 146, 151, 156, 161, 166], 74) := by decide +kernel
theorem dX10_count_80 : decode cX10_count 80 = .ok (.aload_n 0, 1) := by decide +kernel
theorem dX10_count_81 : decode cX10_count 81 = .ok (.getfield 146, 3) := by decide +kernel
theorem dX10_count_84 : decode cX10_count 84 = .ok (.ireturn, 1) := by decide +kernel
theorem dX10_count_85 : decode cX10_count 85 = .ok (.aload_n 0, 1) := by decide +kernel
theorem dX10_count_86 : decode cX10_count 86 = .ok (.getfield 169, 3) := by decide +kernel
theorem dX10_count_89 : decode cX10_count 89 = .ok (.ireturn, 1) := by decide +kernel
theorem dX10_count_90 : decode cX10_count 90 = .ok (.iconst 0, 1) := by decide +kernel
theorem dX10_count_91 : decode cX10_count 91 = .ok (.istore_n 2, 1) := by decide +kernel
theorem dX10_count_92 : decode cX10_count 92 = .ok (.iconst 0, 1) := by decide +kernel
theorem dX10_count_93 : decode cX10_count 93 = .ok (.istore_n 3, 1) := by decide +kernel
theorem dX10_count_94 : decode cX10_count 94 = .ok (.iload_n 3, 1) := by decide +kernel
theorem dX10_count_95 : decode cX10_count 95 = .ok (.bipush 30, 2) := by decide +kernel
theorem dX10_count_97 : decode cX10_count 97 = .ok (.if_icmp .ge 18, 3) := by decide +kernel
theorem dX10_count_100 : decode cX10_count 100 = .ok (.iload_n 2, 1) := by decide +kernel
theorem dX10_count_101 : decode cX10_count 101 = .ok (.aload_n 0, 1) := by decide +kernel
theorem dX10_count_102 : decode cX10_count 102 = .ok (.getfield 47, 3) := by decide +kernel
theorem dX10_count_105 : decode cX10_count 105 = .ok (.iload_n 3, 1) := by decide +kernel
theorem dX10_count_106 : decode cX10_count 106 = .ok (.iaload, 1) := by decide +kernel
theorem dX10_count_107 : decode cX10_count 107 = .ok (.iadd, 1) := by decide +kernel
theorem dX10_count_108 : decode cX10_count 108 = .ok (.istore_n 2, 1) := by decide +kernel
theorem dX10_count_109 : decode cX10_count 109 = .ok (.iinc 3 1, 3) := by decide +kernel
theorem dX10_count_112 : decode cX10_count 112 = .ok (.goto (-18), 3) := by decide +kernel
theorem dX10_count_115 : decode cX10_count 115 = .ok (.iload_n 2, 1) := by decide +kernel
theorem dX10_count_116 : decode cX10_count 116 = .ok (.ireturn, 1) := by decide +kernel
theorem dX10_count_117 : decode cX10_count 117 = .ok (.aload_n 0, 1) := by decide +kernel
theorem dX10_count_118 : decode cX10_count 118 = .ok (.getfield 149, 3) := by decide +kernel
theorem dX10_count_121 : decode cX10_count 121 = .ok (.ireturn, 1) := by decide +kernel
theorem dX10_count_122 : decode cX10_count 122 = .ok (.aload_n 0, 1) := by decide +kernel
theorem dX10_count_123 : decode cX10_count 123 = .ok (.getfield 159, 3) := by decide +kernel
theorem dX10_count_126 : decode cX10_count 126 = .ok (.ireturn, 1) := by decide +kernel
theorem dX10_count_127 : decode cX10_count 127 = .ok (.aload_n 0, 1) := by decide +kernel
theorem dX10_count_128 : decode cX10_count 128 = .ok (.getfield 172, 3) := by decide +kernel
theorem dX10_count_131 : decode cX10_count 131 = .ok (.ireturn, 1) := by decide +kernel
theorem dX10_count_132 : decode cX10_count 132 = .ok (.aload_n 0, 1) := by decide +kernel
theorem dX10_count_133 : decode cX10_count 133 = .ok (.getfield 166, 3) := by decide +kernel
theorem dX10_count_136 : decode cX10_count 136 = .ok (.ireturn, 1) := by decide +kernel
theorem dX10_count_137 : decode cX10_count 137 = .ok (.aload_n 0, 1) := by decide +kernel
theorem dX10_count_138 : decode cX10_count 138 = .ok (.getfield 178, 3) := by decide +kernel
theorem dX10_count_141 : decode cX10_count 141 = .ok (.ireturn, 1) := by decide +kernel
theorem dX10_count_142 : decode cX10_count 142 = .ok (.aload_n 0, 1) := by decide +kernel
theorem dX10_count_143 : decode cX10_count 143 = .ok (.getfield 175, 3) := by decide +kernel
theorem dX10_count_146 : decode cX10_count 146 = .ok (.ireturn, 1) := by decide +kernel
theorem dX10_count_147 : decode cX10_count 147 = .ok (.aload_n 0, 1) := by decide +kernel
theorem dX10_count_148 : decode cX10_count 148 = .ok (.getfield 116, 3) := by decide +kernel
theorem dX10_count_151 : decode cX10_count 151 = .ok (.ireturn, 1) := by decide +kernel
theorem dX10_count_152 : decode cX10_count 152 = .ok (.aload_n 0, 1) := by decide +kernel
theorem dX10_count_153 : decode cX10_count 153 = .ok (.getfield 119, 3) := by decide +kernel
theorem dX10_count_156 : decode cX10_count 156 = .ok (.ireturn, 1) := by decide +kernel
theorem dX10_count_157 : decode cX10_count 157 = .ok (.aload_n 0, 1) := by decide +kernel
theorem dX10_count_158 : decode cX10_count 158 = .ok (.getfield 224, 3) := by decide +kernel
theorem dX10_count_161 : decode cX10_count 161 = .ok (.ireturn, 1) := by decide +kernel
theorem dX10_count_162 : decode cX10_count 162 = .ok (.aload_n 0, 1) := by decide +kernel
theorem dX10_count_163 : decode cX10_count 163 = .ok (.getfield 254, 3) := by decide +kernel
theorem dX10_count_166 : decode cX10_count 166 = .ok (.ireturn, 1) := by decide +kernel
theorem dX10_count_167 : decode cX10_count 167 = .ok (.aload_n 0, 1) := by decide +kernel
theorem dX10_count_168 : decode cX10_count 168 = .ok (.getfield 105, 3) := by decide +kernel
theorem dX10_count_171 : decode cX10_count 171 = .ok (.ireturn, 1) := by decide +kernel
theorem dX10_count_172 : decode cX10_count 172 = .ok (.aload_n 0, 1) := by decide +kernel
theorem dX10_count_173 : decode cX10_count 173 = .ok (.getfield 190, 3) := by decide +kernel
theorem dX10_count_176 : decode cX10_count 176 = .ok (.ireturn, 1) := by decide +kernel
theorem dX10_count_177 : decode cX10_count 177 = .ok (.iconst (-1), 1) := by decide +kernel
theorem dX10_count_178 : decode cX10_count 178 = .ok (.ireturn, 1) := by decide +kernel
theorem dX10_till_0 : decode cX10_till 0 = .ok (.aload_n 0, 1) := by decide +kernel
theorem dX10_till_1 : decode cX10_till 1 = .ok (.iconst 0, 1) := by decide +kernel
theorem dX10_till_2 : decode cX10_till 2 = .ok (.putfield 1, 3) := by decide +kernel
theorem dX10_till_5 : decode cX10_till 5 = .ok (.aload_n 0, 1) := by decide +kernel
theorem dX10_till_6 : decode cX10_till 6 = .ok (.getfield 162, 3) := by decide +kernel
theorem dX10_till_9 : decode cX10_till 9 = .ok (.lreturn, 1) := by decide +kernel
theorem dJ9_min_7cf53_0 : decode cJ9_min_7cf53 0 = .ok (.iload_n 0, 1) := by decide +kernel
theorem dJ9_min_7cf53_1 : decode cJ9_min_7cf53 1 = .ok (.iload_n 1, 1) := by decide +kernel
theorem dJ9_min_7cf53_2 : decode cJ9_min_7cf53 2 = .ok (.if_icmp .gt 7, 3) := by decide +kernel
theorem dJ9_min_7cf53_5 : decode cJ9_min_7cf53 5 = .ok (.iload_n 0, 1) := by decide +kernel
theorem dJ9_min_7cf53_6 : decode cJ9_min_7cf53 6 = .ok (.goto 4, 3) := by decide +kernel
theorem dJ9_min_7cf53_9 : decode cJ9_min_7cf53 9 = .ok (.iload_n 1, 1) := by decide +kernel
theorem dJ9_min_7cf53_10 : decode cJ9_min_7cf53 10 = .ok (.ireturn, 1) := by decide +kernel
set_option maxRecDepth 20000 in
theorem ggJ0_length_8abf5_J0_coder_7d493 : GoodIn wsJ0_length_8abf5 wsJ0_coder_7d493 := goodIn_r _ [6, 7, 8] (by decide +kernel) (by decide +kernel)
set_option maxRecDepth 20000 in
theorem gJ0_length_8abf5_J0_coder_7d493 : GoodIn wsJ0_length_8abf5 (wsV RJ0 335 RJ0 yJ0_coder_7d493 wsJ0_coder_7d493) := goodIn_app (goodIn_of _ (by decide +kernel)) ggJ0_length_8abf5_J0_coder_7d493
theorem dJ0_length_8abf5_0 : decode cJ0_length_8abf5 0 = .ok (.aload_n 0, 1) := by decide +kernel
theorem dJ0_length_8abf5_1 : decode cJ0_length_8abf5 1 = .ok (.getfield 9, 3) := by decide +kernel
theorem dJ0_length_8abf5_4 : decode cJ0_length_8abf5 4 = .ok (.arraylength, 1) := by decide +kernel
theorem dJ0_length_8abf5_5 : decode cJ0_length_8abf5 5 = .ok (.aload_n 0, 1) := by decide +kernel
theorem dJ0_length_8abf5_6 : decode cJ0_length_8abf5 6 = .ok (.invokevirtual 335, 3) := by decide +kernel
theorem dJ0_length_8abf5_9 : decode cJ0_length_8abf5 9 = .ok (.ishr, 1) := by decide +kernel
theorem dJ0_length_8abf5_10 : decode cJ0_length_8abf5 10 = .ok (.ireturn, 1) := by decide +kernel
set_option maxRecDepth 20000 in
theorem ggJ0_charAt_5068e_J0_isLatin1_aae02 : GoodIn wsJ0_charAt_5068e wsJ0_isLatin1_aae02 := goodIn_r _ [6, 7, 8] (by decide +kernel) (by decide +kernel)
set_option maxRecDepth 20000 in
theorem gJ0_charAt_5068e_J0_isLatin1_aae02 : GoodIn wsJ0_charAt_5068e (wsV RJ0 492 RJ0 yJ0_isLatin1_aae02 wsJ0_isLatin1_aae02) := goodIn_app (goodIn_of _ (by decide +kernel)) ggJ0_charAt_5068e_J0_isLatin1_aae02
set_option maxRecDepth 20000 in
theorem ggJ0_charAt_5068e_J1_charAt_3b067 : GoodIn wsJ0_charAt_5068e wsJ1_charAt_3b067 := goodIn_r _ [12, 13, 14, 5, 15, 16, 17, 18, 19, 20] (by decide +kernel) (by decide +kernel)
set_option maxRecDepth 20000 in
theorem gJ0_charAt_5068e_J1_charAt_3b067 : GoodIn wsJ0_charAt_5068e (va_wsS RJ0 495 yJ1_charAt_3b067 wsJ1_charAt_3b067) := goodIn_app (goodIn_of _ (by decide +kernel)) ggJ0_charAt_5068e_J1_charAt_3b067
set_option maxRecDepth 20000 in
theorem ggJ0_charAt_5068e_J2_charAt_3b067 : GoodIn wsJ0_charAt_5068e wsJ2_charAt_3b067 := goodIn_r _ [24, 25, 26, 23, 27, 28, 29, 30, 31, 14, 5, 15, 16, 17, 18, 19, 20, 32, 33, 34, 35, 36, 37] (by decide +kernel) (by decide +kernel)
set_option maxRecDepth 20000 in
theorem gJ0_charAt_5068e_J2_charAt_3b067 : GoodIn wsJ0_charAt_5068e (va_wsS RJ0 498 yJ2_charAt_3b067 wsJ2_charAt_3b067) := goodIn_app (goodIn_of _ (by decide +kernel)) ggJ0_charAt_5068e_J2_charAt_3b067
theorem dJ0_charAt_5068e_0 : decode cJ0_charAt_5068e 0 = .ok (.aload_n 0, 1) := by decide +kernel
theorem dJ0_charAt_5068e_1 : decode cJ0_charAt_5068e 1 = .ok (.invokevirtual 492, 3) := by decide +kernel
theorem dJ0_charAt_5068e_4 : decode cJ0_charAt_5068e 4 = .ok (.ifCond .eq 12, 3) := by decide +kernel
theorem dJ0_charAt_5068e_7 : decode cJ0_charAt_5068e 7 = .ok (.aload_n 0, 1) := by decide +kernel
theorem dJ0_charAt_5068e_8 : decode cJ0_charAt_5068e 8 = .ok (.getfield 9, 3) := by decide +kernel
theorem dJ0_charAt_5068e_11 : decode cJ0_charAt_5068e 11 = .ok (.iload_n 1, 1) := by decide +kernel
theorem dJ0_charAt_5068e_12 : decode cJ0_charAt_5068e 12 = .ok (.invokestatic 495, 3) := by decide +kernel
theorem dJ0_charAt_5068e_15 : decode cJ0_charAt_5068e 15 = .ok (.ireturn, 1) := by decide +kernel
theorem dJ0_charAt_5068e_16 : decode cJ0_charAt_5068e 16 = .ok (.aload_n 0, 1) := by decide +kernel
theorem dJ0_charAt_5068e_17 : decode cJ0_charAt_5068e 17 = .ok (.getfield 9, 3) := by decide +kernel
theorem dJ0_charAt_5068e_20 : decode cJ0_charAt_5068e 20 = .ok (.iload_n 1, 1) := by decide +kernel
theorem dJ0_charAt_5068e_21 : decode cJ0_charAt_5068e 21 = .ok (.invokestatic 498, 3) := by decide +kernel
theorem dJ0_charAt_5068e_24 : decode cJ0_charAt_5068e 24 = .ok (.ireturn, 1) := by decide +kernel
theorem dJ0_coder_7d493_0 : decode cJ0_coder_7d493 0 = .ok (.getstatic 38, 3) := by decide +kernel
theorem dJ0_coder_7d493_3 : decode cJ0_coder_7d493 3 = .ok (.ifCond .eq 10, 3) := by decide +kernel
theorem dJ0_coder_7d493_6 : decode cJ0_coder_7d493 6 = .ok (.aload_n 0, 1) := by decide +kernel
theorem dJ0_coder_7d493_7 : decode cJ0_coder_7d493 7 = .ok (.getfield 15, 3) := by decide +kernel
theorem dJ0_coder_7d493_10 : decode cJ0_coder_7d493 10 = .ok (.goto 4, 3) := by decide +kernel
theorem dJ0_coder_7d493_13 : decode cJ0_coder_7d493 13 = .ok (.iconst 1, 1) := by decide +kernel
theorem dJ0_coder_7d493_14 : decode cJ0_coder_7d493 14 = .ok (.ireturn, 1) := by decide +kernel
theorem dJ0_isLatin1_aae02_0 : decode cJ0_isLatin1_aae02 0 = .ok (.getstatic 38, 3) := by decide +kernel
theorem dJ0_isLatin1_aae02_3 : decode cJ0_isLatin1_aae02 3 = .ok (.ifCond .eq 14, 3) := by decide +kernel
theorem dJ0_isLatin1_aae02_6 : decode cJ0_isLatin1_aae02 6 = .ok (.aload_n 0, 1) := by decide +kernel
theorem dJ0_isLatin1_aae02_7 : decode cJ0_isLatin1_aae02 7 = .ok (.getfield 15, 3) := by decide +kernel
theorem dJ0_isLatin1_aae02_10 : decode cJ0_isLatin1_aae02 10 = .ok (.ifCond .ne 7, 3) := by decide +kernel
theorem dJ0_isLatin1_aae02_13 : decode cJ0_isLatin1_aae02 13 = .ok (.iconst 1, 1) := by decide +kernel
theorem dJ0_isLatin1_aae02_14 : decode cJ0_isLatin1_aae02 14 = .ok (.goto 4, 3) := by decide +kernel
theorem dJ0_isLatin1_aae02_17 : decode cJ0_isLatin1_aae02 17 = .ok (.iconst 0, 1) := by decide +kernel
theorem dJ0_isLatin1_aae02_18 : decode cJ0_isLatin1_aae02 18 = .ok (.ireturn, 1) := by decide +kernel
set_option maxRecDepth 20000 in
theorem ggJ0_checkIndex_df160_J3_checkIndex_8e157 : GoodIn wsJ0_checkIndex_df160 wsJ3_checkIndex_8e157 := goodIn_r _ [5] (by decide +kernel) (by decide +kernel)
set_option maxRecDepth 20000 in
theorem gJ0_checkIndex_df160_J3_checkIndex_8e157 : GoodIn wsJ0_checkIndex_df160 (va_wsS RJ0 1059 yJ3_checkIndex_8e157 wsJ3_checkIndex_8e157) := goodIn_app (goodIn_of _ (by decide +kernel)) ggJ0_checkIndex_df160_J3_checkIndex_8e157
theorem dJ0_checkIndex_df160_0 : decode cJ0_checkIndex_df160 0 = .ok (.iload_n 0, 1) := by decide +kernel
theorem dJ0_checkIndex_df160_1 : decode cJ0_checkIndex_df160 1 = .ok (.iload_n 1, 1) := by decide +kernel
theorem dJ0_checkIndex_df160_2 : decode cJ0_checkIndex_df160 2 = .ok (.getstatic 1053, 3) := by decide +kernel
theorem dJ0_checkIndex_df160_5 : decode cJ0_checkIndex_df160 5 = .ok (.invokestatic 1059, 3) := by decide +kernel
theorem dJ0_checkIndex_df160_8 : decode cJ0_checkIndex_df160 8 = .ok (.pop, 1) := by decide +kernel
theorem dJ0_checkIndex_df160_9 : decode cJ0_checkIndex_df160 9 = .ok (.return_, 1) := by decide +kernel
set_option maxRecDepth 20000 in
theorem ggJ1_charAt_3b067_J0_checkIndex_df160 : GoodIn wsJ1_charAt_3b067 wsJ0_checkIndex_df160 := goodIn_r _ [4, 5, 6, 7, 8, 9] (by decide +kernel) (by decide +kernel)
set_option maxRecDepth 20000 in
theorem gJ1_charAt_3b067_J0_checkIndex_df160 : GoodIn wsJ1_charAt_3b067 (va_wsS RJ1 9 yJ0_checkIndex_df160 wsJ0_checkIndex_df160) := goodIn_app (goodIn_of _ (by decide +kernel)) ggJ1_charAt_3b067_J0_checkIndex_df160
theorem dJ1_charAt_3b067_0 : decode cJ1_charAt_3b067 0 = .ok (.iload_n 1, 1) := by decide +kernel
theorem dJ1_charAt_3b067_1 : decode cJ1_charAt_3b067 1 = .ok (.aload_n 0, 1) := by decide +kernel
theorem dJ1_charAt_3b067_2 : decode cJ1_charAt_3b067 2 = .ok (.arraylength, 1) := by decide +kernel
theorem dJ1_charAt_3b067_3 : decode cJ1_charAt_3b067 3 = .ok (.invokestatic 9, 3) := by decide +kernel
theorem dJ1_charAt_3b067_6 : decode cJ1_charAt_3b067 6 = .ok (.aload_n 0, 1) := by decide +kernel
theorem dJ1_charAt_3b067_7 : decode cJ1_charAt_3b067 7 = .ok (.iload_n 1, 1) := by decide +kernel
theorem dJ1_charAt_3b067_8 : decode cJ1_charAt_3b067 8 = .ok (.baload, 1) := by decide +kernel
theorem dJ1_charAt_3b067_9 : decode cJ1_charAt_3b067 9 = .ok (.sipush 255, 3) := by decide +kernel
theorem dJ1_charAt_3b067_12 : decode cJ1_charAt_3b067 12 = .ok (.iand, 1) := by decide +kernel
theorem dJ1_charAt_3b067_13 : decode cJ1_charAt_3b067 13 = .ok (.i2c, 1) := by decide +kernel
theorem dJ1_charAt_3b067_14 : decode cJ1_charAt_3b067 14 = .ok (.ireturn, 1) := by decide +kernel
set_option maxRecDepth 20000 in
theorem ggJ2_getChar_3b067_J2_length_9d52b : GoodIn wsJ2_getChar_3b067 wsJ2_length_9d52b := goodIn_r _ [7] (by decide +kernel) (by decide +kernel)
set_option maxRecDepth 20000 in
theorem gJ2_getChar_3b067_J2_length_9d52b : GoodIn wsJ2_getChar_3b067 (va_wsS RJ2 48 yJ2_length_9d52b wsJ2_length_9d52b) := goodIn_app (goodIn_of _ (by decide +kernel)) ggJ2_getChar_3b067_J2_length_9d52b
theorem dJ2_getChar_3b067_0 : decode cJ2_getChar_3b067 0 = .ok (.getstatic 44, 3) := by decide +kernel
theorem dJ2_getChar_3b067_3 : decode cJ2_getChar_3b067 3 = .ok (.ifCond .ne 25, 3) := by decide +kernel
theorem dJ2_getChar_3b067_6 : decode cJ2_getChar_3b067 6 = .ok (.iload_n 1, 1) := by decide +kernel
theorem dJ2_getChar_3b067_7 : decode cJ2_getChar_3b067 7 = .ok (.ifCond .lt 11, 3) := by decide +kernel
theorem dJ2_getChar_3b067_10 : decode cJ2_getChar_3b067 10 = .ok (.iload_n 1, 1) := by decide +kernel
theorem dJ2_getChar_3b067_11 : decode cJ2_getChar_3b067 11 = .ok (.aload_n 0, 1) := by decide +kernel
theorem dJ2_getChar_3b067_12 : decode cJ2_getChar_3b067 12 = .ok (.invokestatic 48, 3) := by decide +kernel
theorem dJ2_getChar_3b067_15 : decode cJ2_getChar_3b067 15 = .ok (.if_icmp .lt 13, 3) := by decide +kernel
theorem dJ2_getChar_3b067_18 : decode cJ2_getChar_3b067 18 = .ok (.new 52, 3) := by decide +kernel
theorem dJ2_getChar_3b067_21 : decode cJ2_getChar_3b067 21 = .ok (.dup, 1) := by decide +kernel
theorem dJ2_getChar_3b067_22 : decode cJ2_getChar_3b067 22 = .ok (.ldc 54, 2) := by decide +kernel
theorem dJ2_getChar_3b067_24 : decode cJ2_getChar_3b067 24 = .ok (.invokespecial 56, 3) := by decide +kernel
theorem dJ2_getChar_3b067_27 : decode cJ2_getChar_3b067 27 = .ok (.athrow, 1) := by decide +kernel
theorem dJ2_getChar_3b067_28 : decode cJ2_getChar_3b067 28 = .ok (.iload_n 1, 1) := by decide +kernel
theorem dJ2_getChar_3b067_29 : decode cJ2_getChar_3b067 29 = .ok (.iconst 1, 1) := by decide +kernel
theorem dJ2_getChar_3b067_30 : decode cJ2_getChar_3b067 30 = .ok (.ishl, 1) := by decide +kernel
theorem dJ2_getChar_3b067_31 : decode cJ2_getChar_3b067 31 = .ok (.istore_n 1, 1) := by decide +kernel
theorem dJ2_getChar_3b067_32 : decode cJ2_getChar_3b067 32 = .ok (.aload_n 0, 1) := by decide +kernel
theorem dJ2_getChar_3b067_33 : decode cJ2_getChar_3b067 33 = .ok (.iload_n 1, 1) := by decide +kernel
theorem dJ2_getChar_3b067_34 : decode cJ2_getChar_3b067 34 = .ok (.iinc 1 1, 3) := by decide +kernel
theorem dJ2_getChar_3b067_37 : decode cJ2_getChar_3b067 37 = .ok (.baload, 1) := by decide +kernel
theorem dJ2_getChar_3b067_38 : decode cJ2_getChar_3b067 38 = .ok (.sipush 255, 3) := by decide +kernel
theorem dJ2_getChar_3b067_41 : decode cJ2_getChar_3b067 41 = .ok (.iand, 1) := by decide +kernel
theorem dJ2_getChar_3b067_42 : decode cJ2_getChar_3b067 42 = .ok (.getstatic 59, 3) := by decide +kernel
theorem dJ2_getChar_3b067_45 : decode cJ2_getChar_3b067 45 = .ok (.ishl, 1) := by decide +kernel
theorem dJ2_getChar_3b067_46 : decode cJ2_getChar_3b067 46 = .ok (.aload_n 0, 1) := by decide +kernel
theorem dJ2_getChar_3b067_47 : decode cJ2_getChar_3b067 47 = .ok (.iload_n 1, 1) := by decide +kernel
theorem dJ2_getChar_3b067_48 : decode cJ2_getChar_3b067 48 = .ok (.baload, 1) := by decide +kernel
theorem dJ2_getChar_3b067_49 : decode cJ2_getChar_3b067 49 = .ok (.sipush 255, 3) := by decide +kernel
theorem dJ2_getChar_3b067_52 : decode cJ2_getChar_3b067 52 = .ok (.iand, 1) := by decide +kernel
theorem dJ2_getChar_3b067_53 : decode cJ2_getChar_3b067 53 = .ok (.getstatic 63, 3) := by decide +kernel
theorem dJ2_getChar_3b067_56 : decode cJ2_getChar_3b067 56 = .ok (.ishl, 1) := by decide +kernel
theorem dJ2_getChar_3b067_57 : decode cJ2_getChar_3b067 57 = .ok (.ior, 1) := by decide +kernel
theorem dJ2_getChar_3b067_58 : decode cJ2_getChar_3b067 58 = .ok (.i2c, 1) := by decide +kernel
theorem dJ2_getChar_3b067_59 : decode cJ2_getChar_3b067 59 = .ok (.ireturn, 1) := by decide +kernel
theorem dJ2_length_9d52b_0 : decode cJ2_length_9d52b 0 = .ok (.aload_n 0, 1) := by decide +kernel
theorem dJ2_length_9d52b_1 : decode cJ2_length_9d52b 1 = .ok (.arraylength, 1) := by decide +kernel
theorem dJ2_length_9d52b_2 : decode cJ2_length_9d52b 2 = .ok (.iconst 1, 1) := by decide +kernel
theorem dJ2_length_9d52b_3 : decode cJ2_length_9d52b 3 = .ok (.ishr, 1) := by decide +kernel
theorem dJ2_length_9d52b_4 : decode cJ2_length_9d52b 4 = .ok (.ireturn, 1) := by decide +kernel
set_option maxRecDepth 20000 in
theorem ggJ2_charAt_3b067_J2_checkIndex_2214a : GoodIn wsJ2_charAt_3b067 wsJ2_checkIndex_2214a := goodIn_r _ [4, 5, 6, 3, 7, 8, 9, 10, 11, 12, 13, 14, 15, 16] (by decide +kernel) (by decide +kernel)
set_option maxRecDepth 20000 in
theorem gJ2_charAt_3b067_J2_checkIndex_2214a : GoodIn wsJ2_charAt_3b067 (va_wsS RJ2 67 yJ2_checkIndex_2214a wsJ2_checkIndex_2214a) := goodIn_app (goodIn_of _ (by decide +kernel)) ggJ2_charAt_3b067_J2_checkIndex_2214a
set_option maxRecDepth 20000 in
theorem ggJ2_charAt_3b067_J2_getChar_3b067 : GoodIn wsJ2_charAt_3b067 wsJ2_getChar_3b067 := goodIn_r _ [19, 20, 21, 22, 5, 6, 3, 7] (by decide +kernel) (by decide +kernel)
set_option maxRecDepth 20000 in
theorem gJ2_charAt_3b067_J2_getChar_3b067 : GoodIn wsJ2_charAt_3b067 (va_wsS RJ2 71 yJ2_getChar_3b067 wsJ2_getChar_3b067) := goodIn_app (goodIn_of _ (by decide +kernel)) ggJ2_charAt_3b067_J2_getChar_3b067
theorem dJ2_charAt_3b067_0 : decode cJ2_charAt_3b067 0 = .ok (.iload_n 1, 1) := by decide +kernel
theorem dJ2_charAt_3b067_1 : decode cJ2_charAt_3b067 1 = .ok (.aload_n 0, 1) := by decide +kernel
theorem dJ2_charAt_3b067_2 : decode cJ2_charAt_3b067 2 = .ok (.invokestatic 67, 3) := by decide +kernel
theorem dJ2_charAt_3b067_5 : decode cJ2_charAt_3b067 5 = .ok (.aload_n 0, 1) := by decide +kernel
theorem dJ2_charAt_3b067_6 : decode cJ2_charAt_3b067 6 = .ok (.iload_n 1, 1) := by decide +kernel
theorem dJ2_charAt_3b067_7 : decode cJ2_charAt_3b067 7 = .ok (.invokestatic 71, 3) := by decide +kernel
theorem dJ2_charAt_3b067_10 : decode cJ2_charAt_3b067 10 = .ok (.ireturn, 1) := by decide +kernel
set_option maxRecDepth 20000 in
theorem ggJ2_checkIndex_2214a_J2_length_9d52b : GoodIn wsJ2_checkIndex_2214a wsJ2_length_9d52b := goodIn_r _ [4] (by decide +kernel) (by decide +kernel)
set_option maxRecDepth 20000 in
theorem gJ2_checkIndex_2214a_J2_length_9d52b : GoodIn wsJ2_checkIndex_2214a (va_wsS RJ2 48 yJ2_length_9d52b wsJ2_length_9d52b) := goodIn_app (goodIn_of _ (by decide +kernel)) ggJ2_checkIndex_2214a_J2_length_9d52b
set_option maxRecDepth 20000 in
theorem ggJ2_checkIndex_2214a_J0_checkIndex_df160 : GoodIn wsJ2_checkIndex_2214a wsJ0_checkIndex_df160 := goodIn_r _ [8, 9, 10, 11, 12, 13] (by decide +kernel) (by decide +kernel)
set_option maxRecDepth 20000 in
theorem gJ2_checkIndex_2214a_J0_checkIndex_df160 : GoodIn wsJ2_checkIndex_2214a (va_wsS RJ2 414 yJ0_checkIndex_df160 wsJ0_checkIndex_df160) := goodIn_app (goodIn_of _ (by decide +kernel)) ggJ2_checkIndex_2214a_J0_checkIndex_df160
theorem dJ2_checkIndex_2214a_0 : decode cJ2_checkIndex_2214a 0 = .ok (.iload_n 0, 1) := by decide +kernel
theorem dJ2_checkIndex_2214a_1 : decode cJ2_checkIndex_2214a 1 = .ok (.aload_n 1, 1) := by decide +kernel
theorem dJ2_checkIndex_2214a_2 : decode cJ2_checkIndex_2214a 2 = .ok (.invokestatic 48, 3) := by decide +kernel
theorem dJ2_checkIndex_2214a_5 : decode cJ2_checkIndex_2214a 5 = .ok (.invokestatic 414, 3) := by decide +kernel
theorem dJ2_checkIndex_2214a_8 : decode cJ2_checkIndex_2214a 8 = .ok (.return_, 1) := by decide +kernel
