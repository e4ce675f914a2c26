theorem dX9_wait_47 : decode cX9_wait 47 = .ok (.dup, 1) := by decide +kernel
theorem dX9_wait_48 : decode cX9_wait 48 = .ok (.getfield 85, 3) := by decide +kernel
theorem dX9_wait_51 : decode cX9_wait 51 = .ok (.iload_n 1, 1) := by decide +kernel
theorem dX9_wait_52 : decode cX9_wait 52 = .ok (.iadd, 1) := by decide +kernel
theorem dX9_wait_53 : decode cX9_wait 53 = .ok (.putfield 85, 3) := by decide +kernel
theorem dX9_wait_56 : decode cX9_wait 56 = .ok (.iconst 0, 1) := by decide +kernel
theorem dX9_wait_57 : decode cX9_wait 57 = .ok (.istore_n 2, 1) := by decide +kernel
theorem dX9_wait_58 : decode cX9_wait 58 = .ok (.iload_n 2, 1) := by decide +kernel
theorem dX9_wait_59 : decode cX9_wait 59 = .ok (.aload_n 0, 1) := by decide +kernel
theorem dX9_wait_60 : decode cX9_wait 60 = .ok (.getfield 76, 3) := by decide +kernel
theorem dX9_wait_63 : decode cX9_wait 63 = .ok (.if_icmp .ge 69, 3) := by decide +kernel
theorem dX9_wait_66 : decode cX9_wait 66 = .ok (.aload_n 0, 1) := by decide +kernel
theorem dX9_wait_67 : decode cX9_wait 67 = .ok (.getfield 17, 3) := by decide +kernel
theorem dX9_wait_70 : decode cX9_wait 70 = .ok (.iload_n 2, 1) := by decide +kernel
theorem dX9_wait_71 : decode cX9_wait 71 = .ok (.aaload, 1) := by decide +kernel
theorem dX9_wait_72 : decode cX9_wait 72 = .ok (.aload_n 0, 1) := by decide +kernel
theorem dX9_wait_73 : decode cX9_wait 73 = .ok (.getfield 85, 3) := by decide +kernel
theorem dX9_wait_76 : decode cX9_wait 76 = .ok (.invokevirtual 264, 3) := by decide +kernel
theorem dX9_wait_79 : decode cX9_wait 79 = .ok (.ifCond .eq 47, 3) := by decide +kernel
theorem dX9_wait_82 : decode cX9_wait 82 = .ok (.aload_n 0, 1) := by decide +kernel
theorem dX9_wait_83 : decode cX9_wait 83 = .ok (.getfield 50, 3) := by decide +kernel
theorem dX9_wait_86 : decode cX9_wait 86 = .ok (.dup, 1) := by decide +kernel
theorem dX9_wait_87 : decode cX9_wait 87 = .ok (.getfield 267, 3) := by decide +kernel
theorem dX9_wait_90 : decode cX9_wait 90 = .ok (.aload_n 0, 1) := by decide +kernel
theorem dX9_wait_91 : decode cX9_wait 91 = .ok (.getfield 17, 3) := by decide +kernel
theorem dX9_wait_94 : decode cX9_wait 94 = .ok (.iload_n 2, 1) := by decide +kernel
theorem dX9_wait_95 : decode cX9_wait 95 = .ok (.aaload, 1) := by decide +kernel
theorem dX9_wait_96 : decode cX9_wait 96 = .ok (.getfield 155, 3) := by decide +kernel
theorem dX9_wait_99 : decode cX9_wait 99 = .ok (.iadd, 1) := by decide +kernel
theorem dX9_wait_100 : decode cX9_wait 100 = .ok (.putfield 267, 3) := by decide +kernel
theorem dX9_wait_103 : decode cX9_wait 103 = .ok (.aload_n 0, 1) := by decide +kernel
theorem dX9_wait_104 : decode cX9_wait 104 = .ok (.getfield 50, 3) := by decide +kernel
theorem dX9_wait_107 : decode cX9_wait 107 = .ok (.dup, 1) := by decide +kernel
theorem dX9_wait_108 : decode cX9_wait 108 = .ok (.getfield 270, 3) := by decide +kernel
theorem dX9_wait_111 : decode cX9_wait 111 = .ok (.iconst 1, 1) := by decide +kernel
theorem dX9_wait_112 : decode cX9_wait 112 = .ok (.iadd, 1) := by decide +kernel
theorem dX9_wait_113 : decode cX9_wait 113 = .ok (.putfield 270, 3) := by decide +kernel
theorem dX9_wait_116 : decode cX9_wait 116 = .ok (.aload_n 0, 1) := by decide +kernel
theorem dX9_wait_117 : decode cX9_wait 117 = .ok (.getfield 17, 3) := by decide +kernel
theorem dX9_wait_120 : decode cX9_wait 120 = .ok (.iload_n 2, 1) := by decide +kernel
theorem dX9_wait_121 : decode cX9_wait 121 = .ok (.aaload, 1) := by decide +kernel
theorem dX9_wait_122 : decode cX9_wait 122 = .ok (.iconst 0, 1) := by decide +kernel
theorem dX9_wait_123 : decode cX9_wait 123 = .ok (.putfield 155, 3) := by decide +kernel
theorem dX9_wait_126 : decode cX9_wait 126 = .ok (.iinc 2 1, 3) := by decide +kernel
theorem dX9_wait_129 : decode cX9_wait 129 = .ok (.goto (-71), 3) := by decide +kernel
theorem dX9_wait_132 : decode cX9_wait 132 = .ok (.aload_n 0, 1) := by decide +kernel
theorem dX9_wait_133 : decode cX9_wait 133 = .ok (.getfield 85, 3) := by decide +kernel
theorem dX9_wait_136 : decode cX9_wait 136 = .ok (.ireturn, 1) := by decide +kernel
set_option maxRecDepth 20000 in
theorem ggX9_feed_X7_hasRoomForFive : GoodIn wsX9_feed wsX7_hasRoomForFive := goodIn_r _ [7, 8, 30, 31, 32, 33] (by decide +kernel) (by decide +kernel)
set_option maxRecDepth 20000 in
theorem gX9_feed_X7_hasRoomForFive : GoodIn wsX9_feed (wsV RX9 273 RX7 yX7_hasRoomForFive wsX7_hasRoomForFive) := goodIn_app (goodIn_of _ (by decide +kernel)) ggX9_feed_X7_hasRoomForFive
set_option maxRecDepth 20000 in
theorem ggX9_feed_X7_append : GoodIn wsX9_feed wsX7_append := goodIn_r _ [12, 8, 13, 30, 31, 32, 33] (by decide +kernel) (by decide +kernel)
set_option maxRecDepth 20000 in
theorem gX9_feed_X7_append : GoodIn wsX9_feed (wsV RX9 276 RX7 yX7_append wsX7_append) := goodIn_app (goodIn_of _ (by decide +kernel)) ggX9_feed_X7_append
theorem dX9_feed_0 : decode cX9_feed 0 = .ok (.aload_n 0, 1) := by decide +kernel
theorem dX9_feed_1 : decode cX9_feed 1 = .ok (.getfield 43, 3) := by decide +kernel
theorem dX9_feed_4 : decode cX9_feed 4 = .ok (.invokevirtual 273, 3) := by decide +kernel
theorem dX9_feed_7 : decode cX9_feed 7 = .ok (.ifCond .ne 5, 3) := by decide +kernel
theorem dX9_feed_10 : decode cX9_feed 10 = .ok (.iconst (-1), 1) := by decide +kernel
theorem dX9_feed_11 : decode cX9_feed 11 = .ok (.ireturn, 1) := by decide +kernel
theorem dX9_feed_12 : decode cX9_feed 12 = .ok (.aload_n 0, 1) := by decide +kernel
theorem dX9_feed_13 : decode cX9_feed 13 = .ok (.getfield 43, 3) := by decide +kernel
theorem dX9_feed_16 : decode cX9_feed 16 = .ok (.iload_n 1, 1) := by decide +kernel
theorem dX9_feed_17 : decode cX9_feed 17 = .ok (.invokevirtual 276, 3) := by decide +kernel
theorem dX9_feed_20 : decode cX9_feed 20 = .ok (.aload_n 0, 1) := by decide +kernel
theorem dX9_feed_21 : decode cX9_feed 21 = .ok (.getfield 43, 3) := by decide +kernel
theorem dX9_feed_24 : decode cX9_feed 24 = .ok (.iload_n 2, 1) := by decide +kernel
theorem dX9_feed_25 : decode cX9_feed 25 = .ok (.invokevirtual 276, 3) := by decide +kernel
theorem dX9_feed_28 : decode cX9_feed 28 = .ok (.aload_n 0, 1) := by decide +kernel
theorem dX9_feed_29 : decode cX9_feed 29 = .ok (.getfield 43, 3) := by decide +kernel
theorem dX9_feed_32 : decode cX9_feed 32 = .ok (.iload_n 3, 1) := by decide +kernel
theorem dX9_feed_33 : decode cX9_feed 33 = .ok (.invokevirtual 276, 3) := by decide +kernel
theorem dX9_feed_36 : decode cX9_feed 36 = .ok (.aload_n 0, 1) := by decide +kernel
theorem dX9_feed_37 : decode cX9_feed 37 = .ok (.getfield 43, 3) := by decide +kernel
theorem dX9_feed_40 : decode cX9_feed 40 = .ok (.iload 4, 2) := by decide +kernel
theorem dX9_feed_42 : decode cX9_feed 42 = .ok (.invokevirtual 276, 3) := by decide +kernel
theorem dX9_feed_45 : decode cX9_feed 45 = .ok (.aload_n 0, 1) := by decide +kernel
theorem dX9_feed_46 : decode cX9_feed 46 = .ok (.getfield 43, 3) := by decide +kernel
theorem dX9_feed_49 : decode cX9_feed 49 = .ok (.iload 5, 2) := by decide +kernel
theorem dX9_feed_51 : decode cX9_feed 51 = .ok (.invokevirtual 276, 3) := by decide +kernel
theorem dX9_feed_54 : decode cX9_feed 54 = .ok (.aload_n 0, 1) := by decide +kernel
theorem dX9_feed_55 : decode cX9_feed 55 = .ok (.getfield 43, 3) := by decide +kernel
theorem dX9_feed_58 : decode cX9_feed 58 = .ok (.getfield 279, 3) := by decide +kernel
theorem dX9_feed_61 : decode cX9_feed 61 = .ok (.ireturn, 1) := by decide +kernel
set_option maxRecDepth 20000 in
theorem ggX9_dish_X9_isWithin : GoodIn wsX9_dish wsX9_isWithin := goodIn_r _ [15] (by decide +kernel) (by decide +kernel)
set_option maxRecDepth 20000 in
theorem gX9_dish_X9_isWithin : GoodIn wsX9_dish (va_wsS RX9 90 yX9_isWithin wsX9_isWithin) := goodIn_app (goodIn_of _ (by decide +kernel)) ggX9_dish_X9_isWithin
set_option maxRecDepth 20000 in
theorem ggX9_dish_X0_init : GoodIn wsX9_dish wsX0_init := goodIn_r _ [17, 18, 19, 20, 21, 22, 23, 24, 25, 26, 27, 150, 151, 152, 153, 154] (by decide +kernel) (by decide +kernel)
set_option maxRecDepth 20000 in
theorem gX9_dish_X0_init_n286 : GoodIn wsX9_dish (wsX0_init) := ggX9_dish_X0_init
set_option maxRecDepth 20000 in
theorem ggX9_dish_X7_readDish : GoodIn wsX9_dish wsX7_readDish := goodIn_r _ [32, 33, 34, 35, 36, 37, 38, 39, 40, 41, 42, 11, 43, 27, 44, 45, 46, 31, 47, 48, 49, 50, 51, 52, 53, 54, 55, 56, 57, 58, 59, 60, 61, 62, 63, 64, 65, 66, 67, 68, 69, 70, 71, 72, 73, 74, 75, 76, 77, 78, 79, 80, 81, 82, 83, 84, 85, 86, 87, 88, 89, 90, 91, 92, 93, 94, 95, 96, 97, 98, 99, 100, 101, 102, 103, 104, 105, 106, 107, 108, 109, 110, 111, 112, 113, 114, 115, 116, 117, 118, 119, 120, 121, 122, 123, 124, 22, 24, 25, 26, 125, 126, 127, 128, 129, 146, 147, 148, 149, 150, 151, 152, 153, 154] (by decide +kernel) (by decide +kernel)
set_option maxRecDepth 20000 in
theorem gX9_dish_X7_readDish : GoodIn wsX9_dish (wsV RX9 287 RX7 yX7_readDish wsX7_readDish) := goodIn_app (goodIn_of _ (by decide +kernel)) ggX9_dish_X7_readDish
theorem dX9_dish_0 : decode cX9_dish 0 = .ok (.iload_n 1, 1) := by decide +kernel
theorem dX9_dish_1 : decode cX9_dish 1 = .ok (.i2l, 1) := by decide +kernel
theorem dX9_dish_2 : decode cX9_dish 2 = .ok (.lconst 0, 1) := by decide +kernel
theorem dX9_dish_3 : decode cX9_dish 3 = .ok (.aload_n 0, 1) := by decide +kernel
theorem dX9_dish_4 : decode cX9_dish 4 = .ok (.getfield 43, 3) := by decide +kernel
theorem dX9_dish_7 : decode cX9_dish 7 = .ok (.getfield 279, 3) := by decide +kernel
theorem dX9_dish_10 : decode cX9_dish 10 = .ok (.i2l, 1) := by decide +kernel
theorem dX9_dish_11 : decode cX9_dish 11 = .ok (.invokestatic 90, 3) := by decide +kernel
theorem dX9_dish_14 : decode cX9_dish 14 = .ok (.ifCond .ne 14, 3) := by decide +kernel
theorem dX9_dish_17 : decode cX9_dish 17 = .ok (.new 96, 3) := by decide +kernel
theorem dX9_dish_20 : decode cX9_dish 20 = .ok (.dup, 1) := by decide +kernel
theorem dX9_dish_21 : decode cX9_dish 21 = .ok (.ldc_w 282, 3) := by decide +kernel
theorem dX9_dish_24 : decode cX9_dish 24 = .ok (.invokespecial 100, 3) := by decide +kernel
theorem dX9_dish_27 : decode cX9_dish 27 = .ok (.athrow, 1) := by decide +kernel
theorem dX9_dish_28 : decode cX9_dish 28 = .ok (.aload_n 0, 1) := by decide +kernel
theorem dX9_dish_29 : decode cX9_dish 29 = .ok (.getfield 79, 3) := by decide +kernel
theorem dX9_dish_32 : decode cX9_dish 32 = .ok (.bipush 20, 2) := by decide +kernel
theorem dX9_dish_34 : decode cX9_dish 34 = .ok (.if_icmp .lt 14, 3) := by decide +kernel
theorem dX9_dish_37 : decode cX9_dish 37 = .ok (.new 259, 3) := by decide +kernel
theorem dX9_dish_40 : decode cX9_dish 40 = .ok (.dup, 1) := by decide +kernel
theorem dX9_dish_41 : decode cX9_dish 41 = .ok (.ldc_w 284, 3) := by decide +kernel
theorem dX9_dish_44 : decode cX9_dish 44 = .ok (.invokespecial 263, 3) := by decide +kernel
theorem dX9_dish_47 : decode cX9_dish 47 = .ok (.athrow, 1) := by decide +kernel
theorem dX9_dish_48 : decode cX9_dish 48 = .ok (.aload_n 0, 1) := by decide +kernel
theorem dX9_dish_49 : decode cX9_dish 49 = .ok (.getfield 23, 3) := by decide +kernel
theorem dX9_dish_52 : decode cX9_dish 52 = .ok (.aload_n 0, 1) := by decide +kernel
theorem dX9_dish_53 : decode cX9_dish 53 = .ok (.getfield 79, 3) := by decide +kernel
theorem dX9_dish_56 : decode cX9_dish 56 = .ok (.aaload, 1) := by decide +kernel
theorem dX9_dish_57 : decode cX9_dish 57 = .ok (.ifnonnull 19, 3) := by decide +kernel
theorem dX9_dish_60 : decode cX9_dish 60 = .ok (.aload_n 0, 1) := by decide +kernel
theorem dX9_dish_61 : decode cX9_dish 61 = .ok (.getfield 23, 3) := by decide +kernel
theorem dX9_dish_64 : decode cX9_dish 64 = .ok (.aload_n 0, 1) := by decide +kernel
theorem dX9_dish_65 : decode cX9_dish 65 = .ok (.getfield 79, 3) := by decide +kernel
theorem dX9_dish_68 : decode cX9_dish 68 = .ok (.new 21, 3) := by decide +kernel
theorem dX9_dish_71 : decode cX9_dish 71 = .ok (.dup, 1) := by decide +kernel
theorem dX9_dish_72 : decode cX9_dish 72 = .ok (.invokespecial 286, 3) := by decide +kernel
theorem dX9_dish_75 : decode cX9_dish 75 = .ok (.aastore, 1) := by decide +kernel
theorem dX9_dish_76 : decode cX9_dish 76 = .ok (.aload_n 0, 1) := by decide +kernel
theorem dX9_dish_77 : decode cX9_dish 77 = .ok (.getfield 43, 3) := by decide +kernel
theorem dX9_dish_80 : decode cX9_dish 80 = .ok (.aload_n 0, 1) := by decide +kernel
theorem dX9_dish_81 : decode cX9_dish 81 = .ok (.getfield 23, 3) := by decide +kernel
theorem dX9_dish_84 : decode cX9_dish 84 = .ok (.aload_n 0, 1) := by decide +kernel
theorem dX9_dish_85 : decode cX9_dish 85 = .ok (.getfield 79, 3) := by decide +kernel
theorem dX9_dish_88 : decode cX9_dish 88 = .ok (.aaload, 1) := by decide +kernel
theorem dX9_dish_89 : decode cX9_dish 89 = .ok (.iload_n 1, 1) := by decide +kernel
theorem dX9_dish_90 : decode cX9_dish 90 = .ok (.invokevirtual 287, 3) := by decide +kernel
theorem dX9_dish_93 : decode cX9_dish 93 = .ok (.istore_n 2, 1) := by decide +kernel
theorem dX9_dish_94 : decode cX9_dish 94 = .ok (.aload_n 0, 1) := by decide +kernel
theorem dX9_dish_95 : decode cX9_dish 95 = .ok (.getfield 43, 3) := by decide +kernel
theorem dX9_dish_98 : decode cX9_dish 98 = .ok (.iconst 0, 1) := by decide +kernel
theorem dX9_dish_99 : decode cX9_dish 99 = .ok (.putfield 279, 3) := by decide +kernel
theorem dX9_dish_102 : decode cX9_dish 102 = .ok (.iload_n 2, 1) := by decide +kernel
theorem dX9_dish_103 : decode cX9_dish 103 = .ok (.iconst (-1), 1) := by decide +kernel
theorem dX9_dish_104 : decode cX9_dish 104 = .ok (.if_icmp .eq 8, 3) := by decide +kernel
theorem dX9_dish_107 : decode cX9_dish 107 = .ok (.bipush (-2), 2) := by decide +kernel
theorem dX9_dish_109 : decode cX9_dish 109 = .ok (.iload_n 2, 1) := by decide +kernel
theorem dX9_dish_110 : decode cX9_dish 110 = .ok (.isub, 1) := by decide +kernel
theorem dX9_dish_111 : decode cX9_dish 111 = .ok (.ireturn, 1) := by decide +kernel
theorem dX9_dish_112 : decode cX9_dish 112 = .ok (.aload_n 0, 1) := by decide +kernel
theorem dX9_dish_113 : decode cX9_dish 113 = .ok (.dup, 1) := by decide +kernel
theorem dX9_dish_114 : decode cX9_dish 114 = .ok (.getfield 79, 3) := by decide +kernel
theorem dX9_dish_117 : decode cX9_dish 117 = .ok (.iconst 1, 1) := by decide +kernel
theorem dX9_dish_118 : decode cX9_dish 118 = .ok (.iadd, 1) := by decide +kernel
theorem dX9_dish_119 : decode cX9_dish 119 = .ok (.putfield 79, 3) := by decide +kernel
theorem dX9_dish_122 : decode cX9_dish 122 = .ok (.aload_n 0, 1) := by decide +kernel
theorem dX9_dish_123 : decode cX9_dish 123 = .ok (.getfield 79, 3) := by decide +kernel
theorem dX9_dish_126 : decode cX9_dish 126 = .ok (.iconst 1, 1) := by decide +kernel
theorem dX9_dish_127 : decode cX9_dish 127 = .ok (.isub, 1) := by decide +kernel
theorem dX9_dish_128 : decode cX9_dish 128 = .ok (.ireturn, 1) := by decide +kernel
set_option maxRecDepth 20000 in
theorem ggX9_score_X9_dishAt : GoodIn wsX9_score wsX9_dishAt := goodIn_ca (goodIn_r _ [5, 6, 7, 8, 9, 68, 69, 70, 71, 72, 73, 74, 75, 76, 77, 78, 79, 80, 81, 82, 83] (by decide +kernel) (by decide +kernel)) (goodIn_sub (fun _ h => List.mem_cons_of_mem _ (List.mem_append_left _ (List.mem_append_right _ h))) (by decide +kernel))
set_option maxRecDepth 20000 in
theorem gX9_score_X9_dishAt : GoodIn wsX9_score (wsV RX9 291 RX9 yX9_dishAt wsX9_dishAt) := goodIn_app (goodIn_of _ (by decide +kernel)) ggX9_score_X9_dishAt
set_option maxRecDepth 20000 in
theorem ggX9_score_X9_lotAt : GoodIn wsX9_score wsX9_lotAt := goodIn_ca (goodIn_r _ [13, 14, 15, 16, 17, 68, 69, 70, 71, 72, 73, 74, 75, 76, 77, 78, 79, 80, 81, 82, 83] (by decide +kernel) (by decide +kernel)) (goodIn_sub (fun _ h => List.mem_cons_of_mem _ (List.mem_append_right _ h)) (by decide +kernel))
set_option maxRecDepth 20000 in
theorem gX9_score_X9_lotAt : GoodIn wsX9_score (wsV RX9 128 RX9 yX9_lotAt wsX9_lotAt) := goodIn_app (goodIn_of _ (by decide +kernel)) ggX9_score_X9_lotAt
set_option maxRecDepth 20000 in
theorem ggX9_score_X9_yearNow : GoodIn wsX9_score wsX9_yearNow := goodIn_r _ [21, 22, 68, 69, 70, 71, 72, 73, 74, 75, 76, 77, 78, 79, 80, 81, 82, 83] (by decide +kernel) (by decide +kernel)
set_option maxRecDepth 20000 in
theorem gX9_score_X9_yearNow : GoodIn wsX9_score (wsV RX9 172 RX9 yX9_yearNow wsX9_yearNow) := goodIn_app (goodIn_of _ (by decide +kernel)) ggX9_score_X9_yearNow
set_option maxRecDepth 20000 in
theorem ggX9_score_X0_scoreOf : GoodIn wsX9_score wsX0_scoreOf := goodIn_r _ [27, 28, 29, 30, 31, 32, 26, 33, 34, 35, 36, 37, 38, 39, 40, 41, 42, 43, 44, 45, 46, 47, 48, 49, 50, 51, 52, 53, 54, 55, 56, 57, 58, 59, 60, 61, 62, 63, 64, 65, 66, 67, 84, 85, 86, 87, 88, 89, 90, 91, 92, 93, 94, 95, 96, 97, 98, 99, 100, 101] (by decide +kernel) (by decide +kernel)
set_option maxRecDepth 20000 in
theorem gX9_score_X0_scoreOf : GoodIn wsX9_score (wsV RX9 295 RX0 yX0_scoreOf wsX0_scoreOf) := goodIn_app (goodIn_of _ (by decide +kernel)) ggX9_score_X0_scoreOf
theorem dX9_score_0 : decode cX9_score 0 = .ok (.aload_n 0, 1) := by decide +kernel
theorem dX9_score_1 : decode cX9_score 1 = .ok (.iload_n 1, 1) := by decide +kernel
theorem dX9_score_2 : decode cX9_score 2 = .ok (.invokevirtual 291, 3) := by decide +kernel
theorem dX9_score_5 : decode cX9_score 5 = .ok (.astore_n 3, 1) := by decide +kernel
theorem dX9_score_6 : decode cX9_score 6 = .ok (.aload_n 3, 1) := by decide +kernel
theorem dX9_score_7 : decode cX9_score 7 = .ok (.aload_n 0, 1) := by decide +kernel
theorem dX9_score_8 : decode cX9_score 8 = .ok (.iload_n 2, 1) := by decide +kernel
theorem dX9_score_9 : decode cX9_score 9 = .ok (.invokevirtual 128, 3) := by decide +kernel
theorem dX9_score_12 : decode cX9_score 12 = .ok (.aload_n 0, 1) := by decide +kernel
theorem dX9_score_13 : decode cX9_score 13 = .ok (.invokevirtual 172, 3) := by decide +kernel
theorem dX9_score_16 : decode cX9_score 16 = .ok (.invokevirtual 295, 3) := by decide +kernel
theorem dX9_score_19 : decode cX9_score 19 = .ok (.ireturn, 1) := by decide +kernel
set_option maxRecDepth 20000 in
theorem ggX9_match_X9_dishAt : GoodIn wsX9_match wsX9_dishAt := goodIn_ca (goodIn_r _ [11, 12, 13, 14, 15, 85, 86, 87, 88, 89, 90, 91, 92, 93, 94, 95, 96, 97, 98, 99, 100] (by decide +kernel) (by decide +kernel)) (goodIn_sub (fun _ h => List.mem_cons_of_mem _ (List.mem_append_right _ h)) (by decide +kernel))
set_option maxRecDepth 20000 in
theorem gX9_match_X9_dishAt : GoodIn wsX9_match (wsV RX9 291 RX9 yX9_dishAt wsX9_dishAt) := goodIn_app (goodIn_of _ (by decide +kernel)) ggX9_match_X9_dishAt
set_option maxRecDepth 20000 in
theorem ggX9_match_X9_yearNow : GoodIn wsX9_match wsX9_yearNow := goodIn_r _ [19, 20, 85, 86, 87, 88, 89, 90, 91, 92, 93, 94, 95, 96, 97, 98, 99, 100] (by decide +kernel) (by decide +kernel)
set_option maxRecDepth 20000 in
theorem gX9_match_X9_yearNow : GoodIn wsX9_match (wsV RX9 172 RX9 yX9_yearNow wsX9_yearNow) := goodIn_app (goodIn_of _ (by decide +kernel)) ggX9_match_X9_yearNow
set_option maxRecDepth 20000 in
theorem ggX9_match_X3_isGoodIn : GoodIn wsX9_match wsX3_isGoodIn := goodIn_r _ [25, 26, 27, 101, 102, 103, 104, 105, 106, 107, 108] (by decide +kernel) (by decide +kernel)
set_option maxRecDepth 20000 in
theorem gX9_match_X3_isGoodIn : GoodIn wsX9_match (wsV RX9 299 RX3 yX3_isGoodIn wsX3_isGoodIn) := goodIn_app (goodIn_of _ (by decide +kernel)) ggX9_match_X3_isGoodIn
set_option maxRecDepth 20000 in
theorem ggX9_match_X5_cellOf : GoodIn wsX9_match wsX5_cellOf := goodIn_r _ [32, 33, 109, 110] (by decide +kernel) (by decide +kernel)
set_option maxRecDepth 20000 in
theorem gX9_match_X5_cellOf : GoodIn wsX9_match (wsV RX9 220 RX5 yX5_cellOf wsX5_cellOf) := goodIn_app (goodIn_of _ (by decide +kernel)) ggX9_match_X5_cellOf
set_option maxRecDepth 20000 in
theorem ggX9_match_X0_scoreOf : GoodIn wsX9_match wsX0_scoreOf := goodIn_r _ [38, 39, 40, 41, 42, 43, 37, 44, 45, 46, 47, 48, 49, 50, 51, 52, 53, 54, 55, 56, 57, 58, 59, 60, 61, 62, 63, 64, 24, 65, 26, 66, 27, 67, 68, 69, 70, 71, 72, 73, 74, 75, 111, 112, 113, 114, 115, 101, 102, 103, 104, 105, 106, 107, 108, 116, 117, 118, 119, 120] (by decide +kernel) (by decide +kernel)
set_option maxRecDepth 20000 in
theorem gX9_match_X0_scoreOf : GoodIn wsX9_match (wsV RX9 295 RX0 yX0_scoreOf wsX0_scoreOf) := goodIn_app (goodIn_of _ (by decide +kernel)) ggX9_match_X0_scoreOf
set_option maxRecDepth 20000 in
theorem ggX9_match_X3_worthIn : GoodIn wsX9_match wsX3_worthIn := goodIn_r _ [65, 26, 66, 27, 67, 68, 69, 70, 71, 72, 101, 102, 103, 104, 105, 106, 107, 108, 116, 117, 118, 119, 120] (by decide +kernel) (by decide +kernel)
set_option maxRecDepth 20000 in
theorem gX9_match_X3_worthIn : GoodIn wsX9_match (wsV RX9 166 RX3 yX3_worthIn wsX3_worthIn) := goodIn_app (goodIn_of _ (by decide +kernel)) ggX9_match_X3_worthIn
set_option maxRecDepth 20000 in
theorem ggX9_match_X9_matchedAhead : GoodIn wsX9_match wsX9_matchedAhead := goodIn_r _ [80, 1, 2, 81, 82, 83, 10, 84, 5, 6, 85, 86, 87, 88, 89, 90, 91, 92, 93, 94, 95, 96, 97, 98, 99, 100] (by decide +kernel) (by decide +kernel)
set_option maxRecDepth 20000 in
theorem gX9_match_X9_matchedAhead : GoodIn wsX9_match (wsV RX9 302 RX9 yX9_matchedAhead wsX9_matchedAhead) := goodIn_app (goodIn_of _ (by decide +kernel)) ggX9_match_X9_matchedAhead
theorem dX9_match_0 : decode cX9_match 0 = .ok (.aload_n 0, 1) := by decide +kernel
theorem dX9_match_1 : decode cX9_match 1 = .ok (.iload_n 1, 1) := by decide +kernel
theorem dX9_match_2 : decode cX9_match 2 = .ok (.invokevirtual 291, 3) := by decide +kernel
theorem dX9_match_5 : decode cX9_match 5 = .ok (.astore_n 3, 1) := by decide +kernel
theorem dX9_match_6 : decode cX9_match 6 = .ok (.aload_n 0, 1) := by decide +kernel
theorem dX9_match_7 : decode cX9_match 7 = .ok (.invokevirtual 172, 3) := by decide +kernel
theorem dX9_match_10 : decode cX9_match 10 = .ok (.istore 4, 2) := by decide +kernel
theorem dX9_match_12 : decode cX9_match 12 = .ok (.iconst 0, 1) := by decide +kernel
theorem dX9_match_13 : decode cX9_match 13 = .ok (.istore 5, 2) := by decide +kernel
theorem dX9_match_15 : decode cX9_match 15 = .ok (.iload 5, 2) := by decide +kernel
theorem dX9_match_17 : decode cX9_match 17 = .ok (.aload_n 0, 1) := by decide +kernel
theorem dX9_match_18 : decode cX9_match 18 = .ok (.getfield 76, 3) := by decide +kernel
theorem dX9_match_21 : decode cX9_match 21 = .ok (.if_icmp .ge 89, 3) := by decide +kernel
theorem dX9_match_24 : decode cX9_match 24 = .ok (.aload_n 0, 1) := by decide +kernel
theorem dX9_match_25 : decode cX9_match 25 = .ok (.getfield 68, 3) := by decide +kernel
theorem dX9_match_28 : decode cX9_match 28 = .ok (.iload 5, 2) := by decide +kernel
theorem dX9_match_30 : decode cX9_match 30 = .ok (.aload_n 0, 1) := by decide +kernel
theorem dX9_match_31 : decode cX9_match 31 = .ok (.getfield 17, 3) := by decide +kernel
theorem dX9_match_34 : decode cX9_match 34 = .ok (.iload 5, 2) := by decide +kernel
theorem dX9_match_36 : decode cX9_match 36 = .ok (.aaload, 1) := by decide +kernel
theorem dX9_match_37 : decode cX9_match 37 = .ok (.iload 4, 2) := by decide +kernel
theorem dX9_match_39 : decode cX9_match 39 = .ok (.invokevirtual 299, 3) := by decide +kernel
theorem dX9_match_42 : decode cX9_match 42 = .ok (.ifCond .eq 21, 3) := by decide +kernel
theorem dX9_match_45 : decode cX9_match 45 = .ok (.aload_n 0, 1) := by decide +kernel
theorem dX9_match_46 : decode cX9_match 46 = .ok (.getfield 36, 3) := by decide +kernel
theorem dX9_match_49 : decode cX9_match 49 = .ok (.iload 5, 2) := by decide +kernel
theorem dX9_match_51 : decode cX9_match 51 = .ok (.iconst 0, 1) := by decide +kernel
theorem dX9_match_52 : decode cX9_match 52 = .ok (.invokevirtual 220, 3) := by decide +kernel
theorem dX9_match_55 : decode cX9_match 55 = .ok (.iconst (-1), 1) := by decide +kernel
theorem dX9_match_56 : decode cX9_match 56 = .ok (.if_icmp .eq 7, 3) := by decide +kernel
theorem dX9_match_59 : decode cX9_match 59 = .ok (.iconst 1, 1) := by decide +kernel
theorem dX9_match_60 : decode cX9_match 60 = .ok (.goto 4, 3) := by decide +kernel
theorem dX9_match_63 : decode cX9_match 63 = .ok (.iconst 0, 1) := by decide +kernel
theorem dX9_match_64 : decode cX9_match 64 = .ok (.bastore, 1) := by decide +kernel
theorem dX9_match_65 : decode cX9_match 65 = .ok (.aload_n 0, 1) := by decide +kernel
theorem dX9_match_66 : decode cX9_match 66 = .ok (.getfield 61, 3) := by decide +kernel
theorem dX9_match_69 : decode cX9_match 69 = .ok (.iload 5, 2) := by decide +kernel
theorem dX9_match_71 : decode cX9_match 71 = .ok (.aload_n 3, 1) := by decide +kernel
theorem dX9_match_72 : decode cX9_match 72 = .ok (.aload_n 0, 1) := by decide +kernel
theorem dX9_match_73 : decode cX9_match 73 = .ok (.getfield 17, 3) := by decide +kernel
theorem dX9_match_76 : decode cX9_match 76 = .ok (.iload 5, 2) := by decide +kernel
theorem dX9_match_78 : decode cX9_match 78 = .ok (.aaload, 1) := by decide +kernel
theorem dX9_match_79 : decode cX9_match 79 = .ok (.iload 4, 2) := by decide +kernel
theorem dX9_match_81 : decode cX9_match 81 = .ok (.invokevirtual 295, 3) := by decide +kernel
theorem dX9_match_84 : decode cX9_match 84 = .ok (.iastore, 1) := by decide +kernel
theorem dX9_match_85 : decode cX9_match 85 = .ok (.aload_n 0, 1) := by decide +kernel
theorem dX9_match_86 : decode cX9_match 86 = .ok (.getfield 65, 3) := by decide +kernel
theorem dX9_match_89 : decode cX9_match 89 = .ok (.iload 5, 2) := by decide +kernel
theorem dX9_match_91 : decode cX9_match 91 = .ok (.aload_n 0, 1) := by decide +kernel
theorem dX9_match_92 : decode cX9_match 92 = .ok (.getfield 17, 3) := by decide +kernel
theorem dX9_match_95 : decode cX9_match 95 = .ok (.iload 5, 2) := by decide +kernel
theorem dX9_match_97 : decode cX9_match 97 = .ok (.aaload, 1) := by decide +kernel
theorem dX9_match_98 : decode cX9_match 98 = .ok (.iload 4, 2) := by decide +kernel
theorem dX9_match_100 : decode cX9_match 100 = .ok (.invokevirtual 166, 3) := by decide +kernel
theorem dX9_match_103 : decode cX9_match 103 = .ok (.iastore, 1) := by decide +kernel
theorem dX9_match_104 : decode cX9_match 104 = .ok (.iinc 5 1, 3) := by decide +kernel
theorem dX9_match_107 : decode cX9_match 107 = .ok (.goto (-92), 3) := by decide +kernel
theorem dX9_match_110 : decode cX9_match 110 = .ok (.iconst 0, 1) := by decide +kernel
theorem dX9_match_111 : decode cX9_match 111 = .ok (.istore 5, 2) := by decide +kernel
theorem dX9_match_113 : decode cX9_match 113 = .ok (.iload 5, 2) := by decide +kernel
theorem dX9_match_115 : decode cX9_match 115 = .ok (.aload_n 0, 1) := by decide +kernel
theorem dX9_match_116 : decode cX9_match 116 = .ok (.getfield 76, 3) := by decide +kernel
theorem dX9_match_119 : decode cX9_match 119 = .ok (.if_icmp .ge 32, 3) := by decide +kernel
theorem dX9_match_122 : decode cX9_match 122 = .ok (.aload_n 0, 1) := by decide +kernel
theorem dX9_match_123 : decode cX9_match 123 = .ok (.getfield 68, 3) := by decide +kernel
theorem dX9_match_126 : decode cX9_match 126 = .ok (.iload 5, 2) := by decide +kernel
theorem dX9_match_128 : decode cX9_match 128 = .ok (.baload, 1) := by decide +kernel
theorem dX9_match_129 : decode cX9_match 129 = .ok (.ifCond .eq 16, 3) := by decide +kernel
theorem dX9_match_132 : decode cX9_match 132 = .ok (.aload_n 0, 1) := by decide +kernel
theorem dX9_match_133 : decode cX9_match 133 = .ok (.iload 5, 2) := by decide +kernel
theorem dX9_match_135 : decode cX9_match 135 = .ok (.invokevirtual 302, 3) := by decide +kernel
theorem dX9_match_138 : decode cX9_match 138 = .ok (.iload_n 2, 1) := by decide +kernel
theorem dX9_match_139 : decode cX9_match 139 = .ok (.if_icmp .ne 6, 3) := by decide +kernel
theorem dX9_match_142 : decode cX9_match 142 = .ok (.iload 5, 2) := by decide +kernel
theorem dX9_match_144 : decode cX9_match 144 = .ok (.ireturn, 1) := by decide +kernel
theorem dX9_match_145 : decode cX9_match 145 = .ok (.iinc 5 1, 3) := by decide +kernel
theorem dX9_match_148 : decode cX9_match 148 = .ok (.goto (-35), 3) := by decide +kernel
theorem dX9_match_151 : decode cX9_match 151 = .ok (.iconst (-1), 1) := by decide +kernel
theorem dX9_match_152 : decode cX9_match 152 = .ok (.ireturn, 1) := by decide +kernel
set_option maxRecDepth 20000 in
theorem ggX9_sheet_X9_isWithin : GoodIn wsX9_sheet wsX9_isWithin := goodIn_r _ [12] (by decide +kernel) (by decide +kernel)
set_option maxRecDepth 20000 in
theorem gX9_sheet_X9_isWithin : GoodIn wsX9_sheet (va_wsS RX9 90 yX9_isWithin wsX9_isWithin) := goodIn_app (goodIn_of _ (by decide +kernel)) ggX9_sheet_X9_isWithin
set_option maxRecDepth 20000 in
theorem ggX9_sheet_X6_init : GoodIn wsX9_sheet wsX6_init := goodIn_r _ [15, 16, 17, 18, 19, 20, 21, 22, 23, 24, 25, 26, 27, 28, 45, 46, 47] (by decide +kernel) (by decide +kernel)
set_option maxRecDepth 20000 in
theorem gX9_sheet_X6_init : GoodIn wsX9_sheet (wsX6_init) := ggX9_sheet_X6_init
theorem dX9_sheet_0 : decode cX9_sheet 0 = .ok (.iload_n 1, 1) := by decide +kernel
theorem dX9_sheet_1 : decode cX9_sheet 1 = .ok (.i2l, 1) := by decide +kernel
theorem dX9_sheet_2 : decode cX9_sheet 2 = .ok (.lconst 0, 1) := by decide +kernel
theorem dX9_sheet_3 : decode cX9_sheet 3 = .ok (.ldc2_w 88, 3) := by decide +kernel
theorem dX9_sheet_6 : decode cX9_sheet 6 = .ok (.invokestatic 90, 3) := by decide +kernel
theorem dX9_sheet_9 : decode cX9_sheet 9 = .ok (.ifCond .ne 14, 3) := by decide +kernel
theorem dX9_sheet_12 : decode cX9_sheet 12 = .ok (.new 96, 3) := by decide +kernel
theorem dX9_sheet_15 : decode cX9_sheet 15 = .ok (.dup, 1) := by decide +kernel
theorem dX9_sheet_16 : decode cX9_sheet 16 = .ok (.ldc_w 305, 3) := by decide +kernel
theorem dX9_sheet_19 : decode cX9_sheet 19 = .ok (.invokespecial 100, 3) := by decide +kernel
theorem dX9_sheet_22 : decode cX9_sheet 22 = .ok (.athrow, 1) := by decide +kernel
theorem dX9_sheet_23 : decode cX9_sheet 23 = .ok (.aload_n 0, 1) := by decide +kernel
theorem dX9_sheet_24 : decode cX9_sheet 24 = .ok (.getfield 82, 3) := by decide +kernel
theorem dX9_sheet_27 : decode cX9_sheet 27 = .ok (.iconst 4, 1) := by decide +kernel
theorem dX9_sheet_28 : decode cX9_sheet 28 = .ok (.if_icmp .lt 5, 3) := by decide +kernel
theorem dX9_sheet_31 : decode cX9_sheet 31 = .ok (.iconst (-1), 1) := by decide +kernel
theorem dX9_sheet_32 : decode cX9_sheet 32 = .ok (.ireturn, 1) := by decide +kernel
theorem dX9_sheet_33 : decode cX9_sheet 33 = .ok (.aload_n 0, 1) := by decide +kernel
theorem dX9_sheet_34 : decode cX9_sheet 34 = .ok (.getfield 29, 3) := by decide +kernel
theorem dX9_sheet_37 : decode cX9_sheet 37 = .ok (.aload_n 0, 1) := by decide +kernel
theorem dX9_sheet_38 : decode cX9_sheet 38 = .ok (.getfield 82, 3) := by decide +kernel
theorem dX9_sheet_41 : decode cX9_sheet 41 = .ok (.new 27, 3) := by decide +kernel
theorem dX9_sheet_44 : decode cX9_sheet 44 = .ok (.dup, 1) := by decide +kernel
theorem dX9_sheet_45 : decode cX9_sheet 45 = .ok (.iload_n 1, 1) := by decide +kernel
theorem dX9_sheet_46 : decode cX9_sheet 46 = .ok (.invokespecial 307, 3) := by decide +kernel
theorem dX9_sheet_49 : decode cX9_sheet 49 = .ok (.aastore, 1) := by decide +kernel
theorem dX9_sheet_50 : decode cX9_sheet 50 = .ok (.aload_n 0, 1) := by decide +kernel
theorem dX9_sheet_51 : decode cX9_sheet 51 = .ok (.dup, 1) := by decide +kernel
theorem dX9_sheet_52 : decode cX9_sheet 52 = .ok (.getfield 82, 3) := by decide +kernel
theorem dX9_sheet_55 : decode cX9_sheet 55 = .ok (.iconst 1, 1) := by decide +kernel
theorem dX9_sheet_56 : decode cX9_sheet 56 = .ok (.iadd, 1) := by decide +kernel
theorem dX9_sheet_57 : decode cX9_sheet 57 = .ok (.putfield 82, 3) := by decide +kernel
theorem dX9_sheet_60 : decode cX9_sheet 60 = .ok (.aload_n 0, 1) := by decide +kernel
theorem dX9_sheet_61 : decode cX9_sheet 61 = .ok (.getfield 82, 3) := by decide +kernel
theorem dX9_sheet_64 : decode cX9_sheet 64 = .ok (.iconst 1, 1) := by decide +kernel
theorem dX9_sheet_65 : decode cX9_sheet 65 = .ok (.isub, 1) := by decide +kernel
theorem dX9_sheet_66 : decode cX9_sheet 66 = .ok (.ireturn, 1) := by decide +kernel
set_option maxRecDepth 20000 in
theorem ggX9_row_X9_sheetWithRow : GoodIn wsX9_row wsX9_sheetWithRow := goodIn_ca (goodIn_r _ [6, 7, 8, 9, 10, 25, 26, 27, 28, 29, 30, 31, 32, 33, 34, 35, 36, 37, 38, 39, 40] (by decide +kernel) (by decide +kernel)) (goodIn_sub (fun _ h => List.mem_cons_of_mem _ (List.mem_append_right _ h)) (by decide +kernel))
set_option maxRecDepth 20000 in
theorem gX9_row_X9_sheetWithRow : GoodIn wsX9_row (wsV RX9 309 RX9 yX9_sheetWithRow wsX9_sheetWithRow) := goodIn_app (goodIn_of _ (by decide +kernel)) ggX9_row_X9_sheetWithRow
set_option maxRecDepth 20000 in
theorem ggX9_row_X9_isWithin : GoodIn wsX9_row wsX9_isWithin := goodIn_r _ [13] (by decide +kernel) (by decide +kernel)
set_option maxRecDepth 20000 in
theorem gX9_row_X9_isWithin : GoodIn wsX9_row (va_wsS RX9 90 yX9_isWithin wsX9_isWithin) := goodIn_app (goodIn_of _ (by decide +kernel)) ggX9_row_X9_isWithin
set_option maxRecDepth 20000 in
theorem ggX9_row_X6_renewRow : GoodIn wsX9_row wsX6_renewRow := goodIn_r _ [18, 19, 20, 21, 22, 23, 24, 41, 42, 43] (by decide +kernel) (by decide +kernel)
set_option maxRecDepth 20000 in
theorem gX9_row_X6_renewRow : GoodIn wsX9_row (wsV RX9 315 RX6 yX6_renewRow wsX6_renewRow) := goodIn_app (goodIn_of _ (by decide +kernel)) ggX9_row_X6_renewRow
theorem dX9_row_0 : decode cX9_row 0 = .ok (.aload_n 0, 1) := by decide +kernel
theorem dX9_row_1 : decode cX9_row 1 = .ok (.iload_n 1, 1) := by decide +kernel
theorem dX9_row_2 : decode cX9_row 2 = .ok (.iload_n 2, 1) := by decide +kernel
theorem dX9_row_3 : decode cX9_row 3 = .ok (.invokevirtual 309, 3) := by decide +kernel
theorem dX9_row_6 : decode cX9_row 6 = .ok (.astore 4, 2) := by decide +kernel
theorem dX9_row_8 : decode cX9_row 8 = .ok (.iload_n 3, 1) := by decide +kernel
theorem dX9_row_9 : decode cX9_row 9 = .ok (.i2l, 1) := by decide +kernel
theorem dX9_row_10 : decode cX9_row 10 = .ok (.lconst 0, 1) := by decide +kernel
theorem dX9_row_11 : decode cX9_row 11 = .ok (.ldc2_w 313, 3) := by decide +kernel
theorem dX9_row_14 : decode cX9_row 14 = .ok (.invokestatic 90, 3) := by decide +kernel
theorem dX9_row_17 : decode cX9_row 17 = .ok (.ifCond .ne 5, 3) := by decide +kernel
theorem dX9_row_20 : decode cX9_row 20 = .ok (.iconst (-1), 1) := by decide +kernel
theorem dX9_row_21 : decode cX9_row 21 = .ok (.ireturn, 1) := by decide +kernel
theorem dX9_row_22 : decode cX9_row 22 = .ok (.aload 4, 2) := by decide +kernel
theorem dX9_row_24 : decode cX9_row 24 = .ok (.iload_n 2, 1) := by decide +kernel
theorem dX9_row_25 : decode cX9_row 25 = .ok (.iload_n 3, 1) := by decide +kernel
theorem dX9_row_26 : decode cX9_row 26 = .ok (.invokevirtual 315, 3) := by decide +kernel
theorem dX9_row_29 : decode cX9_row 29 = .ok (.iload_n 3, 1) := by decide +kernel
theorem dX9_row_30 : decode cX9_row 30 = .ok (.ireturn, 1) := by decide +kernel
set_option maxRecDepth 20000 in
theorem ggX9_set_X9_sheetWithRow : GoodIn wsX9_set wsX9_sheetWithRow := goodIn_ca (goodIn_r _ [7, 8, 9, 10, 11, 21, 22, 23, 24, 25, 26, 27, 28, 29, 30, 31, 32, 33, 34, 35, 36] (by decide +kernel) (by decide +kernel)) (goodIn_sub (fun _ h => List.mem_cons_of_mem _ (List.mem_append_right _ h)) (by decide +kernel))
set_option maxRecDepth 20000 in
theorem gX9_set_X9_sheetWithRow : GoodIn wsX9_set (wsV RX9 309 RX9 yX9_sheetWithRow wsX9_sheetWithRow) := goodIn_app (goodIn_of _ (by decide +kernel)) ggX9_set_X9_sheetWithRow
set_option maxRecDepth 20000 in
theorem ggX9_set_X6_lowestBits : GoodIn wsX9_set wsX6_lowestBits := goodIn_r _ [16, 17, 18, 19, 20] (by decide +kernel) (by decide +kernel)
set_option maxRecDepth 20000 in
theorem gX9_set_X6_lowestBits : GoodIn wsX9_set (wsV RX9 325 RX6 yX6_lowestBits wsX6_lowestBits) := goodIn_app (goodIn_of _ (by decide +kernel)) ggX9_set_X6_lowestBits
theorem dX9_set_0 : decode cX9_set 0 = .ok (.aload_n 0, 1) := by decide +kernel
theorem dX9_set_1 : decode cX9_set 1 = .ok (.iload_n 1, 1) := by decide +kernel
theorem dX9_set_2 : decode cX9_set 2 = .ok (.iload_n 2, 1) := by decide +kernel
theorem dX9_set_3 : decode cX9_set 3 = .ok (.invokevirtual 309, 3) := by decide +kernel
theorem dX9_set_6 : decode cX9_set 6 = .ok (.astore 6, 2) := by decide +kernel
theorem dX9_set_8 : decode cX9_set 8 = .ok (.aload 6, 2) := by decide +kernel
theorem dX9_set_10 : decode cX9_set 10 = .ok (.getfield 318, 3) := by decide +kernel
theorem dX9_set_13 : decode cX9_set 13 = .ok (.iload_n 2, 1) := by decide +kernel
theorem dX9_set_14 : decode cX9_set 14 = .ok (.iaload, 1) := by decide +kernel
theorem dX9_set_15 : decode cX9_set 15 = .ok (.iconst (-1), 1) := by decide +kernel
theorem dX9_set_16 : decode cX9_set 16 = .ok (.if_icmp .ne 5, 3) := by decide +kernel
theorem dX9_set_19 : decode cX9_set 19 = .ok (.iconst (-1), 1) := by decide +kernel
theorem dX9_set_20 : decode cX9_set 20 = .ok (.ireturn, 1) := by decide +kernel
theorem dX9_set_21 : decode cX9_set 21 = .ok (.iload_n 3, 1) := by decide +kernel
theorem dX9_set_22 : decode cX9_set 22 = .ok (.ifCond .lt 14, 3) := by decide +kernel
theorem dX9_set_25 : decode cX9_set 25 = .ok (.iload_n 3, 1) := by decide +kernel
theorem dX9_set_26 : decode cX9_set 26 = .ok (.aload 6, 2) := by decide +kernel
theorem dX9_set_28 : decode cX9_set 28 = .ok (.getfield 318, 3) := by decide +kernel
theorem dX9_set_31 : decode cX9_set 31 = .ok (.iload_n 2, 1) := by decide +kernel
theorem dX9_set_32 : decode cX9_set 32 = .ok (.iaload, 1) := by decide +kernel
theorem dX9_set_33 : decode cX9_set 33 = .ok (.if_icmp .lt 6, 3) := by decide +kernel
theorem dX9_set_36 : decode cX9_set 36 = .ok (.bipush (-2), 2) := by decide +kernel
theorem dX9_set_38 : decode cX9_set 38 = .ok (.ireturn, 1) := by decide +kernel
theorem dX9_set_39 : decode cX9_set 39 = .ok (.aload 6, 2) := by decide +kernel
theorem dX9_set_41 : decode cX9_set 41 = .ok (.getfield 321, 3) := by decide +kernel
theorem dX9_set_44 : decode cX9_set 44 = .ok (.iload_n 2, 1) := by decide +kernel
theorem dX9_set_45 : decode cX9_set 45 = .ok (.aaload, 1) := by decide +kernel
theorem dX9_set_46 : decode cX9_set 46 = .ok (.iload_n 3, 1) := by decide +kernel
theorem dX9_set_47 : decode cX9_set 47 = .ok (.aload 6, 2) := by decide +kernel
theorem dX9_set_49 : decode cX9_set 49 = .ok (.lload 4, 2) := by decide +kernel
theorem dX9_set_51 : decode cX9_set 51 = .ok (.invokevirtual 325, 3) := by decide +kernel
theorem dX9_set_54 : decode cX9_set 54 = .ok (.lastore, 1) := by decide +kernel
theorem dX9_set_55 : decode cX9_set 55 = .ok (.iconst 1, 1) := by decide +kernel
theorem dX9_set_56 : decode cX9_set 56 = .ok (.ireturn, 1) := by decide +kernel
set_option maxRecDepth 20000 in
theorem ggX9_deliver_X9_sheetWithRow : GoodIn wsX9_deliver wsX9_sheetWithRow := goodIn_ca (goodIn_r _ [7, 8, 9, 10, 11, 74, 75, 76, 77, 78, 79, 80, 81, 82, 83, 84, 85, 86, 87, 88, 89] (by decide +kernel) (by decide +kernel)) (goodIn_sub (fun _ h => List.mem_cons_of_mem _ (List.mem_append_right _ h)) (by decide +kernel))
set_option maxRecDepth 20000 in
theorem gX9_deliver_X9_sheetWithRow : GoodIn wsX9_deliver (wsV RX9 309 RX9 yX9_sheetWithRow wsX9_sheetWithRow) := goodIn_app (goodIn_of _ (by decide +kernel)) ggX9_deliver_X9_sheetWithRow
set_option maxRecDepth 20000 in
theorem ggX9_deliver_X9_takesFive : GoodIn wsX9_deliver wsX9_takesFive := goodIn_r _ [15, 16, 17, 18, 19, 20, 21, 22, 23, 24, 6, 25, 26, 27, 28, 29, 30, 31, 32, 33, 34, 35, 36, 37, 38, 39, 40, 41, 42, 43, 44, 45, 46, 47, 48, 49, 50, 51, 52, 53, 54, 55, 56, 57, 58, 59, 60, 61, 62, 63, 64, 65, 66, 67, 68, 69, 70, 74, 75, 76, 77, 78, 79, 80, 81, 82, 83, 84, 85, 86, 87, 88, 89, 90, 91, 92, 93, 94, 95, 96, 97, 98, 99, 100, 101, 102, 103, 104, 105, 106, 107, 108, 109, 110, 111, 112] (by decide +kernel) (by decide +kernel)
set_option maxRecDepth 20000 in
theorem gX9_deliver_X9_takesFive : GoodIn wsX9_deliver (wsV RX9 329 RX9 yX9_takesFive wsX9_takesFive) := goodIn_app (goodIn_of _ (by decide +kernel)) ggX9_deliver_X9_takesFive
theorem dX9_deliver_0 : decode cX9_deliver 0 = .ok (.aload_n 0, 1) := by decide +kernel
theorem dX9_deliver_1 : decode cX9_deliver 1 = .ok (.iload_n 1, 1) := by decide +kernel
theorem dX9_deliver_2 : decode cX9_deliver 2 = .ok (.iload_n 2, 1) := by decide +kernel
theorem dX9_deliver_3 : decode cX9_deliver 3 = .ok (.invokevirtual 309, 3) := by decide +kernel
theorem dX9_deliver_6 : decode cX9_deliver 6 = .ok (.astore_n 3, 1) := by decide +kernel
theorem dX9_deliver_7 : decode cX9_deliver 7 = .ok (.aload_n 3, 1) := by decide +kernel
theorem dX9_deliver_8 : decode cX9_deliver 8 = .ok (.getfield 318, 3) := by decide +kernel
theorem dX9_deliver_11 : decode cX9_deliver 11 = .ok (.iload_n 2, 1) := by decide +kernel
theorem dX9_deliver_12 : decode cX9_deliver 12 = .ok (.iaload, 1) := by decide +kernel
theorem dX9_deliver_13 : decode cX9_deliver 13 = .ok (.iconst (-1), 1) := by decide +kernel
theorem dX9_deliver_14 : decode cX9_deliver 14 = .ok (.if_icmp .ne 5, 3) := by decide +kernel
theorem dX9_deliver_17 : decode cX9_deliver 17 = .ok (.iconst (-1), 1) := by decide +kernel
theorem dX9_deliver_18 : decode cX9_deliver 18 = .ok (.ireturn, 1) := by decide +kernel
theorem dX9_deliver_19 : decode cX9_deliver 19 = .ok (.iconst 0, 1) := by decide +kernel
theorem dX9_deliver_20 : decode cX9_deliver 20 = .ok (.istore 4, 2) := by decide +kernel
theorem dX9_deliver_22 : decode cX9_deliver 22 = .ok (.iconst 0, 1) := by decide +kernel
theorem dX9_deliver_23 : decode cX9_deliver 23 = .ok (.istore 5, 2) := by decide +kernel
theorem dX9_deliver_25 : decode cX9_deliver 25 = .ok (.iload 5, 2) := by decide +kernel
theorem dX9_deliver_27 : decode cX9_deliver 27 = .ok (.iconst 5, 1) := by decide +kernel
theorem dX9_deliver_28 : decode cX9_deliver 28 = .ok (.iadd, 1) := by decide +kernel
theorem dX9_deliver_29 : decode cX9_deliver 29 = .ok (.aload_n 3, 1) := by decide +kernel
theorem dX9_deliver_30 : decode cX9_deliver 30 = .ok (.getfield 318, 3) := by decide +kernel
theorem dX9_deliver_33 : decode cX9_deliver 33 = .ok (.iload_n 2, 1) := by decide +kernel
theorem dX9_deliver_34 : decode cX9_deliver 34 = .ok (.iaload, 1) := by decide +kernel
theorem dX9_deliver_35 : decode cX9_deliver 35 = .ok (.if_icmp .gt 30, 3) := by decide +kernel
theorem dX9_deliver_38 : decode cX9_deliver 38 = .ok (.aload_n 0, 1) := by decide +kernel
theorem dX9_deliver_39 : decode cX9_deliver 39 = .ok (.aload_n 3, 1) := by decide +kernel
theorem dX9_deliver_40 : decode cX9_deliver 40 = .ok (.getfield 321, 3) := by decide +kernel
theorem dX9_deliver_43 : decode cX9_deliver 43 = .ok (.iload_n 2, 1) := by decide +kernel
theorem dX9_deliver_44 : decode cX9_deliver 44 = .ok (.aaload, 1) := by decide +kernel
theorem dX9_deliver_45 : decode cX9_deliver 45 = .ok (.iload 5, 2) := by decide +kernel
theorem dX9_deliver_47 : decode cX9_deliver 47 = .ok (.invokevirtual 329, 3) := by decide +kernel
theorem dX9_deliver_50 : decode cX9_deliver 50 = .ok (.ifCond .ne 6, 3) := by decide +kernel
theorem dX9_deliver_53 : decode cX9_deliver 53 = .ok (.goto 12, 3) := by decide +kernel
theorem dX9_deliver_56 : decode cX9_deliver 56 = .ok (.iinc 4 1, 3) := by decide +kernel
theorem dX9_deliver_59 : decode cX9_deliver 59 = .ok (.iinc 5 5, 3) := by decide +kernel
theorem dX9_deliver_62 : decode cX9_deliver 62 = .ok (.goto (-37), 3) := by decide +kernel
theorem dX9_deliver_65 : decode cX9_deliver 65 = .ok (.iload 4, 2) := by decide +kernel
theorem dX9_deliver_67 : decode cX9_deliver 67 = .ok (.ireturn, 1) := by decide +kernel
set_option maxRecDepth 20000 in
theorem ggX9_plan_X9_isWithin : GoodIn wsX9_plan wsX9_isWithin := goodIn_r _ [12] (by decide +kernel) (by decide +kernel)
set_option maxRecDepth 20000 in
theorem gX9_plan_X9_isWithin : GoodIn wsX9_plan (va_wsS RX9 90 yX9_isWithin wsX9_isWithin) := goodIn_app (goodIn_of _ (by decide +kernel)) ggX9_plan_X9_isWithin
set_option maxRecDepth 20000 in
theorem ggX9_plan_X9_yearNow : GoodIn wsX9_plan wsX9_yearNow := goodIn_r _ [16, 17, 107, 108, 109, 110, 111, 112, 113, 114, 115, 116, 117, 118, 119, 120, 121, 122] (by decide +kernel) (by decide +kernel)
set_option maxRecDepth 20000 in
theorem gX9_plan_X9_yearNow : GoodIn wsX9_plan (wsV RX9 172 RX9 yX9_yearNow wsX9_yearNow) := goodIn_app (goodIn_of _ (by decide +kernel)) ggX9_plan_X9_yearNow
set_option maxRecDepth 20000 in
theorem ggX9_plan_X4_start : GoodIn wsX9_plan wsX4_start := goodIn_r _ [22, 23, 24, 25, 26, 27, 28, 29, 30, 31, 32, 33, 34, 125, 126, 127, 128, 129, 130, 131, 132, 133, 134] (by decide +kernel) (by decide +kernel)
set_option maxRecDepth 20000 in
theorem gX9_plan_X4_start : GoodIn wsX9_plan (wsV RX9 339 RX4 yX4_start wsX4_start) := goodIn_app (goodIn_of _ (by decide +kernel)) ggX9_plan_X4_start
set_option maxRecDepth 20000 in
theorem ggX9_plan_X5_isEmpty : GoodIn wsX9_plan wsX5_isEmpty := goodIn_r _ [39, 40, 123, 124] (by decide +kernel) (by decide +kernel)
set_option maxRecDepth 20000 in
theorem gX9_plan_X5_isEmpty : GoodIn wsX9_plan (wsV RX9 224 RX5 yX5_isEmpty wsX5_isEmpty) := goodIn_app (goodIn_of _ (by decide +kernel)) ggX9_plan_X5_isEmpty
set_option maxRecDepth 20000 in
theorem ggX9_plan_X9_lotAt : GoodIn wsX9_plan wsX9_lotAt := goodIn_ca (goodIn_r _ [44, 45, 46, 47, 48, 107, 108, 109, 110, 111, 112, 113, 114, 115, 116, 117, 118, 119, 120, 121, 122] (by decide +kernel) (by decide +kernel)) (goodIn_sub (fun _ h => List.mem_cons_of_mem _ (List.mem_append_right _ h)) (by decide +kernel))
set_option maxRecDepth 20000 in
theorem gX9_plan_X9_lotAt : GoodIn wsX9_plan (wsV RX9 128 RX9 yX9_lotAt wsX9_lotAt) := goodIn_app (goodIn_of _ (by decide +kernel)) ggX9_plan_X9_lotAt
set_option maxRecDepth 20000 in
theorem ggX9_plan_X4_gainOf : GoodIn wsX9_plan wsX4_gainOf := goodIn_r _ [52, 24, 53, 54, 55, 56, 21, 57, 29, 23, 58, 59, 60, 61, 62, 63, 64, 65, 66, 67, 68, 69, 70, 71, 72, 26, 27, 28, 73, 74, 31, 32, 33, 34, 75, 76, 77, 78, 79, 80, 30, 81, 82, 83, 84, 85, 86, 87, 88, 89, 90, 91, 92, 93, 94, 95, 96, 97, 98, 99, 100, 101, 102, 25, 103, 104, 105, 106, 125, 126, 127, 128, 129, 130, 131, 132, 133, 134, 135, 136, 137, 138, 139, 140, 141, 142, 143, 144, 145, 146, 147] (by decide +kernel) (by decide +kernel)
set_option maxRecDepth 20000 in
theorem gX9_plan_X4_gainOf : GoodIn wsX9_plan (wsV RX9 342 RX4 yX4_gainOf wsX4_gainOf) := goodIn_app (goodIn_of _ (by decide +kernel)) ggX9_plan_X4_gainOf
theorem dX9_plan_0 : decode cX9_plan 0 = .ok (.iload_n 1, 1) := by decide +kernel
theorem dX9_plan_1 : decode cX9_plan 1 = .ok (.i2l, 1) := by decide +kernel
theorem dX9_plan_2 : decode cX9_plan 2 = .ok (.lconst 1, 1) := by decide +kernel
theorem dX9_plan_3 : decode cX9_plan 3 = .ok (.ldc2_w 333, 3) := by decide +kernel
theorem dX9_plan_6 : decode cX9_plan 6 = .ok (.invokestatic 90, 3) := by decide +kernel
theorem dX9_plan_9 : decode cX9_plan 9 = .ok (.ifCond .eq 15, 3) := by decide +kernel
theorem dX9_plan_12 : decode cX9_plan 12 = .ok (.iload_n 2, 1) := by decide +kernel
theorem dX9_plan_13 : decode cX9_plan 13 = .ok (.i2l, 1) := by decide +kernel
theorem dX9_plan_14 : decode cX9_plan 14 = .ok (.lconst 0, 1) := by decide +kernel
theorem dX9_plan_15 : decode cX9_plan 15 = .ok (.ldc2_w 335, 3) := by decide +kernel
theorem dX9_plan_18 : decode cX9_plan 18 = .ok (.invokestatic 90, 3) := by decide +kernel
theorem dX9_plan_21 : decode cX9_plan 21 = .ok (.ifCond .ne 14, 3) := by decide +kernel
theorem dX9_plan_24 : decode cX9_plan 24 = .ok (.new 96, 3) := by decide +kernel
theorem dX9_plan_27 : decode cX9_plan 27 = .ok (.dup, 1) := by decide +kernel
theorem dX9_plan_28 : decode cX9_plan 28 = .ok (.ldc_w 337, 3) := by decide +kernel
theorem dX9_plan_31 : decode cX9_plan 31 = .ok (.invokespecial 100, 3) := by decide +kernel
theorem dX9_plan_34 : decode cX9_plan 34 = .ok (.athrow, 1) := by decide +kernel
theorem dX9_plan_35 : decode cX9_plan 35 = .ok (.aload_n 0, 1) := by decide +kernel
theorem dX9_plan_36 : decode cX9_plan 36 = .ok (.getfield 57, 3) := by decide +kernel
theorem dX9_plan_39 : decode cX9_plan 39 = .ok (.aload_n 0, 1) := by decide +kernel
theorem dX9_plan_40 : decode cX9_plan 40 = .ok (.invokevirtual 172, 3) := by decide +kernel
theorem dX9_plan_43 : decode cX9_plan 43 = .ok (.iload_n 1, 1) := by decide +kernel
theorem dX9_plan_44 : decode cX9_plan 44 = .ok (.iload_n 2, 1) := by decide +kernel
theorem dX9_plan_45 : decode cX9_plan 45 = .ok (.invokevirtual 339, 3) := by decide +kernel
theorem dX9_plan_48 : decode cX9_plan 48 = .ok (.iconst 0, 1) := by decide +kernel
theorem dX9_plan_49 : decode cX9_plan 49 = .ok (.istore_n 3, 1) := by decide +kernel
theorem dX9_plan_50 : decode cX9_plan 50 = .ok (.iconst 0, 1) := by decide +kernel
theorem dX9_plan_51 : decode cX9_plan 51 = .ok (.istore 4, 2) := by decide +kernel
theorem dX9_plan_53 : decode cX9_plan 53 = .ok (.iload 4, 2) := by decide +kernel
theorem dX9_plan_55 : decode cX9_plan 55 = .ok (.bipush 30, 2) := by decide +kernel
theorem dX9_plan_57 : decode cX9_plan 57 = .ok (.if_icmp .ge 55, 3) := by decide +kernel
theorem dX9_plan_60 : decode cX9_plan 60 = .ok (.aload_n 0, 1) := by decide +kernel
theorem dX9_plan_61 : decode cX9_plan 61 = .ok (.getfield 36, 3) := by decide +kernel
theorem dX9_plan_64 : decode cX9_plan 64 = .ok (.iload 4, 2) := by decide +kernel
theorem dX9_plan_66 : decode cX9_plan 66 = .ok (.invokevirtual 224, 3) := by decide +kernel
theorem dX9_plan_69 : decode cX9_plan 69 = .ok (.ifCond .ne 37, 3) := by decide +kernel
theorem dX9_plan_72 : decode cX9_plan 72 = .ok (.iload_n 3, 1) := by decide +kernel
theorem dX9_plan_73 : decode cX9_plan 73 = .ok (.aload_n 0, 1) := by decide +kernel
theorem dX9_plan_74 : decode cX9_plan 74 = .ok (.getfield 57, 3) := by decide +kernel
theorem dX9_plan_77 : decode cX9_plan 77 = .ok (.aload_n 0, 1) := by decide +kernel
theorem dX9_plan_78 : decode cX9_plan 78 = .ok (.aload_n 0, 1) := by decide +kernel
theorem dX9_plan_79 : decode cX9_plan 79 = .ok (.getfield 36, 3) := by decide +kernel
theorem dX9_plan_82 : decode cX9_plan 82 = .ok (.getfield 214, 3) := by decide +kernel
theorem dX9_plan_85 : decode cX9_plan 85 = .ok (.iload 4, 2) := by decide +kernel
theorem dX9_plan_87 : decode cX9_plan 87 = .ok (.iaload, 1) := by decide +kernel
theorem dX9_plan_88 : decode cX9_plan 88 = .ok (.invokevirtual 128, 3) := by decide +kernel
theorem dX9_plan_91 : decode cX9_plan 91 = .ok (.aload_n 0, 1) := by decide +kernel
theorem dX9_plan_92 : decode cX9_plan 92 = .ok (.getfield 36, 3) := by decide +kernel
theorem dX9_plan_95 : decode cX9_plan 95 = .ok (.getfield 209, 3) := by decide +kernel
theorem dX9_plan_98 : decode cX9_plan 98 = .ok (.iload 4, 2) := by decide +kernel
theorem dX9_plan_100 : decode cX9_plan 100 = .ok (.iaload, 1) := by decide +kernel
theorem dX9_plan_101 : decode cX9_plan 101 = .ok (.invokevirtual 342, 3) := by decide +kernel
theorem dX9_plan_104 : decode cX9_plan 104 = .ok (.iadd, 1) := by decide +kernel
theorem dX9_plan_105 : decode cX9_plan 105 = .ok (.istore_n 3, 1) := by decide +kernel
theorem dX9_plan_106 : decode cX9_plan 106 = .ok (.iinc 4 1, 3) := by decide +kernel
theorem dX9_plan_109 : decode cX9_plan 109 = .ok (.goto (-56), 3) := by decide +kernel
theorem dX9_plan_112 : decode cX9_plan 112 = .ok (.iload_n 3, 1) := by decide +kernel
theorem dX9_plan_113 : decode cX9_plan 113 = .ok (.ireturn, 1) := by decide +kernel
set_option maxRecDepth 20000 in
theorem ggX9_count_X5_allBottles : GoodIn wsX9_count wsX5_allBottles := goodIn_r _ [21, 22, 63, 64] (by decide +kernel) (by decide +kernel)
set_option maxRecDepth 20000 in
theorem gX9_count_X5_allBottles : GoodIn wsX9_count (wsV RX9 345 RX5 yX5_allBottles wsX5_allBottles) := goodIn_app (goodIn_of _ (by decide +kernel)) ggX9_count_X5_allBottles
set_option maxRecDepth 20000 in
theorem ggX9_count_X9_openBottles : GoodIn wsX9_count wsX9_openBottles := goodIn_r _ [27, 11, 28, 29, 30, 31, 32, 33, 34, 35, 36, 37, 38, 39, 40, 41, 42, 43, 44, 45, 46, 47, 48, 49, 50, 65, 66, 67, 68, 69, 70, 71, 72] (by decide +kernel) (by decide +kernel)
set_option maxRecDepth 20000 in
theorem gX9_count_X9_openBottles : GoodIn wsX9_count (wsV RX9 244 RX9 yX9_openBottles wsX9_openBottles) := goodIn_app (goodIn_of _ (by decide +kernel)) ggX9_count_X9_openBottles
theorem dX9_count_0 : decode cX9_count 0 = .ok (.iload_n 1, 1) := by decide +kernel
theorem dX9_count_1 : decode cX9_count 1 = .ok (.tableswitch 177 0 14 #[75, 83, 91, 99, 104, 112, 120, 128, 136, 144, 149, 154, 159, 164, 169], 75) := by decide +kernel
theorem dX9_count_76 : decode cX9_count 76 = .ok (.aload_n 0, 1) := by decide +kernel
theorem dX9_count_77 : decode cX9_count 77 = .ok (.getfield 50, 3) := by decide +kernel
theorem dX9_count_80 : decode cX9_count 80 = .ok (.getfield 206, 3) := by decide +kernel
theorem dX9_count_83 : decode cX9_count 83 = .ok (.ireturn, 1) := by decide +kernel
theorem dX9_count_84 : decode cX9_count 84 = .ok (.aload_n 0, 1) := by decide +kernel
theorem dX9_count_85 : decode cX9_count 85 = .ok (.getfield 50, 3) := by decide +kernel
theorem dX9_count_88 : decode cX9_count 88 = .ok (.getfield 241, 3) := by decide +kernel
theorem dX9_count_91 : decode cX9_count 91 = .ok (.ireturn, 1) := by decide +kernel
theorem dX9_count_92 : decode cX9_count 92 = .ok (.aload_n 0, 1) := by decide +kernel
theorem dX9_count_93 : decode cX9_count 93 = .ok (.getfield 36, 3) := by decide +kernel
theorem dX9_count_96 : decode cX9_count 96 = .ok (.invokevirtual 345, 3) := by decide +kernel
theorem dX9_count_99 : decode cX9_count 99 = .ok (.ireturn, 1) := by decide +kernel
theorem dX9_count_100 : decode cX9_count 100 = .ok (.aload_n 0, 1) := by decide +kernel
theorem dX9_count_101 : decode cX9_count 101 = .ok (.invokevirtual 244, 3) := by decide +kernel
theorem dX9_count_104 : decode cX9_count 104 = .ok (.ireturn, 1) := by decide +kernel
theorem dX9_count_105 : decode cX9_count 105 = .ok (.aload_n 0, 1) := by decide +kernel
theorem dX9_count_106 : decode cX9_count 106 = .ok (.getfield 50, 3) := by decide +kernel
theorem dX9_count_109 : decode cX9_count 109 = .ok (.getfield 231, 3) := by decide +kernel
theorem dX9_count_112 : decode cX9_count 112 = .ok (.ireturn, 1) := by decide +kernel
theorem dX9_count_113 : decode cX9_count 113 = .ok (.aload_n 0, 1) := by decide +kernel
theorem dX9_count_114 : decode cX9_count 114 = .ok (.getfield 50, 3) := by decide +kernel
theorem dX9_count_117 : decode cX9_count 117 = .ok (.getfield 270, 3) := by decide +kernel
theorem dX9_count_120 : decode cX9_count 120 = .ok (.ireturn, 1) := by decide +kernel
theorem dX9_count_121 : decode cX9_count 121 = .ok (.aload_n 0, 1) := by decide +kernel
theorem dX9_count_122 : decode cX9_count 122 = .ok (.getfield 50, 3) := by decide +kernel
theorem dX9_count_125 : decode cX9_count 125 = .ok (.getfield 238, 3) := by decide +kernel
theorem dX9_count_128 : decode cX9_count 128 = .ok (.ireturn, 1) := by decide +kernel
theorem dX9_count_129 : decode cX9_count 129 = .ok (.aload_n 0, 1) := by decide +kernel
theorem dX9_count_130 : decode cX9_count 130 = .ok (.getfield 50, 3) := by decide +kernel
theorem dX9_count_133 : decode cX9_count 133 = .ok (.getfield 348, 3) := by decide +kernel
theorem dX9_count_136 : decode cX9_count 136 = .ok (.ireturn, 1) := by decide +kernel
theorem dX9_count_137 : decode cX9_count 137 = .ok (.aload_n 0, 1) := by decide +kernel
theorem dX9_count_138 : decode cX9_count 138 = .ok (.getfield 50, 3) := by decide +kernel
theorem dX9_count_141 : decode cX9_count 141 = .ok (.getfield 267, 3) := by decide +kernel
theorem dX9_count_144 : decode cX9_count 144 = .ok (.ireturn, 1) := by decide +kernel
theorem dX9_count_145 : decode cX9_count 145 = .ok (.aload_n 0, 1) := by decide +kernel
theorem dX9_count_146 : decode cX9_count 146 = .ok (.getfield 72, 3) := by decide +kernel
theorem dX9_count_149 : decode cX9_count 149 = .ok (.ireturn, 1) := by decide +kernel
theorem dX9_count_150 : decode cX9_count 150 = .ok (.aload_n 0, 1) := by decide +kernel
theorem dX9_count_151 : decode cX9_count 151 = .ok (.getfield 76, 3) := by decide +kernel
theorem dX9_count_154 : decode cX9_count 154 = .ok (.ireturn, 1) := by decide +kernel
theorem dX9_count_155 : decode cX9_count 155 = .ok (.aload_n 0, 1) := by decide +kernel
theorem dX9_count_156 : decode cX9_count 156 = .ok (.getfield 79, 3) := by decide +kernel
theorem dX9_count_159 : decode cX9_count 159 = .ok (.ireturn, 1) := by decide +kernel
theorem dX9_count_160 : decode cX9_count 160 = .ok (.aload_n 0, 1) := by decide +kernel
theorem dX9_count_161 : decode cX9_count 161 = .ok (.getfield 82, 3) := by decide +kernel
theorem dX9_count_164 : decode cX9_count 164 = .ok (.ireturn, 1) := by decide +kernel
theorem dX9_count_165 : decode cX9_count 165 = .ok (.aload_n 0, 1) := by decide +kernel
theorem dX9_count_166 : decode cX9_count 166 = .ok (.getfield 85, 3) := by decide +kernel
theorem dX9_count_169 : decode cX9_count 169 = .ok (.ireturn, 1) := by decide +kernel
theorem dX9_count_170 : decode cX9_count 170 = .ok (.aload_n 0, 1) := by decide +kernel
theorem dX9_count_171 : decode cX9_count 171 = .ok (.getfield 43, 3) := by decide +kernel
theorem dX9_count_174 : decode cX9_count 174 = .ok (.getfield 279, 3) := by decide +kernel
theorem dX9_count_177 : decode cX9_count 177 = .ok (.ireturn, 1) := by decide +kernel
theorem dX9_count_178 : decode cX9_count 178 = .ok (.iconst (-1), 1) := by decide +kernel
theorem dX9_count_179 : decode cX9_count 179 = .ok (.ireturn, 1) := by decide +kernel
theorem dX9_till_0 : decode cX9_till 0 = .ok (.aload_n 0, 1) := by decide +kernel
theorem dX9_till_1 : decode cX9_till 1 = .ok (.getfield 50, 3) := by decide +kernel
theorem dX9_till_4 : decode cX9_till 4 = .ok (.getfield 234, 3) := by decide +kernel
theorem dX9_till_7 : decode cX9_till 7 = .ok (.lreturn, 1) := by decide +kernel
theorem dX9_isWithin_0 : decode cX9_isWithin 0 = .ok (.lload_n 0, 1) := by decide +kernel
theorem dX9_isWithin_1 : decode cX9_isWithin 1 = .ok (.lload_n 2, 1) := by decide +kernel
theorem dX9_isWithin_2 : decode cX9_isWithin 2 = .ok (.lcmp, 1) := by decide +kernel
theorem dX9_isWithin_3 : decode cX9_isWithin 3 = .ok (.ifCond .lt 14, 3) := by decide +kernel
theorem dX9_isWithin_6 : decode cX9_isWithin 6 = .ok (.lload_n 0, 1) := by decide +kernel
theorem dX9_isWithin_7 : decode cX9_isWithin 7 = .ok (.lload 4, 2) := by decide +kernel
theorem dX9_isWithin_9 : decode cX9_isWithin 9 = .ok (.lcmp, 1) := by decide +kernel
theorem dX9_isWithin_10 : decode cX9_isWithin 10 = .ok (.ifCond .gt 7, 3) := by decide +kernel
theorem dX9_isWithin_13 : decode cX9_isWithin 13 = .ok (.iconst 1, 1) := by decide +kernel
theorem dX9_isWithin_14 : decode cX9_isWithin 14 = .ok (.goto 4, 3) := by decide +kernel
theorem dX9_isWithin_17 : decode cX9_isWithin 17 = .ok (.iconst 0, 1) := by decide +kernel
theorem dX9_isWithin_18 : decode cX9_isWithin 18 = .ok (.ireturn, 1) := by decide +kernel
set_option maxRecDepth 20000 in
theorem ggX9_isVintage_X9_isWithin : GoodIn wsX9_isVintage wsX9_isWithin := goodIn_r _ [6] (by decide +kernel) (by decide +kernel)
set_option maxRecDepth 20000 in
theorem gX9_isVintage_X9_isWithin : GoodIn wsX9_isVintage (va_wsS RX9 90 yX9_isWithin wsX9_isWithin) := goodIn_app (goodIn_of _ (by decide +kernel)) ggX9_isVintage_X9_isWithin
theorem dX9_isVintage_0 : decode cX9_isVintage 0 = .ok (.lload_n 0, 1) := by decide +kernel
theorem dX9_isVintage_1 : decode cX9_isVintage 1 = .ok (.ldc2_w 160, 3) := by decide +kernel
theorem dX9_isVintage_4 : decode cX9_isVintage 4 = .ok (.ldc2_w 351, 3) := by decide +kernel
theorem dX9_isVintage_7 : decode cX9_isVintage 7 = .ok (.invokestatic 90, 3) := by decide +kernel
theorem dX9_isVintage_10 : decode cX9_isVintage 10 = .ok (.ireturn, 1) := by decide +kernel
set_option maxRecDepth 20000 in
theorem ggX9_isPrice_X9_isWithin : GoodIn wsX9_isPrice wsX9_isWithin := goodIn_r _ [5] (by decide +kernel) (by decide +kernel)
set_option maxRecDepth 20000 in
theorem gX9_isPrice_X9_isWithin : GoodIn wsX9_isPrice (va_wsS RX9 90 yX9_isWithin wsX9_isWithin) := goodIn_app (goodIn_of _ (by decide +kernel)) ggX9_isPrice_X9_isWithin
theorem dX9_isPrice_0 : decode cX9_isPrice 0 = .ok (.lload_n 0, 1) := by decide +kernel
theorem dX9_isPrice_1 : decode cX9_isPrice 1 = .ok (.lconst 1, 1) := by decide +kernel
theorem dX9_isPrice_2 : decode cX9_isPrice 2 = .ok (.ldc2_w 353, 3) := by decide +kernel
theorem dX9_isPrice_5 : decode cX9_isPrice 5 = .ok (.invokestatic 90, 3) := by decide +kernel
theorem dX9_isPrice_8 : decode cX9_isPrice 8 = .ok (.ireturn, 1) := by decide +kernel
theorem dX9_yearNow_0 : decode cX9_yearNow 0 = .ok (.sipush 2000, 3) := by decide +kernel
theorem dX9_yearNow_3 : decode cX9_yearNow 3 = .ok (.aload_n 0, 1) := by decide +kernel
theorem dX9_yearNow_4 : decode cX9_yearNow 4 = .ok (.getfield 85, 3) := by decide +kernel
theorem dX9_yearNow_7 : decode cX9_yearNow 7 = .ok (.sipush 8760, 3) := by decide +kernel
theorem dX9_yearNow_10 : decode cX9_yearNow 10 = .ok (.idiv, 1) := by decide +kernel
theorem dX9_yearNow_11 : decode cX9_yearNow 11 = .ok (.iadd, 1) := by decide +kernel
theorem dX9_yearNow_12 : decode cX9_yearNow 12 = .ok (.ireturn, 1) := by decide +kernel
theorem dX9_requireCell_0 : decode cX9_requireCell 0 = .ok (.iload_n 0, 1) := by decide +kernel
theorem dX9_requireCell_1 : decode cX9_requireCell 1 = .ok (.ifCond .lt 9, 3) := by decide +kernel
theorem dX9_requireCell_4 : decode cX9_requireCell 4 = .ok (.iload_n 0, 1) := by decide +kernel
theorem dX9_requireCell_5 : decode cX9_requireCell 5 = .ok (.bipush 30, 2) := by decide +kernel
theorem dX9_requireCell_7 : decode cX9_requireCell 7 = .ok (.if_icmp .lt 14, 3) := by decide +kernel
theorem dX9_requireCell_10 : decode cX9_requireCell 10 = .ok (.new 355, 3) := by decide +kernel
theorem dX9_requireCell_13 : decode cX9_requireCell 13 = .ok (.dup, 1) := by decide +kernel
theorem dX9_requireCell_14 : decode cX9_requireCell 14 = .ok (.ldc_w 357, 3) := by decide +kernel
theorem dX9_requireCell_17 : decode cX9_requireCell 17 = .ok (.invokespecial 359, 3) := by decide +kernel
theorem dX9_requireCell_20 : decode cX9_requireCell 20 = .ok (.athrow, 1) := by decide +kernel
theorem dX9_requireCell_21 : decode cX9_requireCell 21 = .ok (.return_, 1) := by decide +kernel
theorem dX9_lotAt_0 : decode cX9_lotAt 0 = .ok (.iload_n 1, 1) := by decide +kernel
theorem dX9_lotAt_1 : decode cX9_lotAt 1 = .ok (.ifCond .lt 11, 3) := by decide +kernel
theorem dX9_lotAt_4 : decode cX9_lotAt 4 = .ok (.iload_n 1, 1) := by decide +kernel
theorem dX9_lotAt_5 : decode cX9_lotAt 5 = .ok (.aload_n 0, 1) := by decide +kernel
theorem dX9_lotAt_6 : decode cX9_lotAt 6 = .ok (.getfield 76, 3) := by decide +kernel
theorem dX9_lotAt_9 : decode cX9_lotAt 9 = .ok (.if_icmp .lt 14, 3) := by decide +kernel
theorem dX9_lotAt_12 : decode cX9_lotAt 12 = .ok (.new 110, 3) := by decide +kernel
theorem dX9_lotAt_15 : decode cX9_lotAt 15 = .ok (.dup, 1) := by decide +kernel
theorem dX9_lotAt_16 : decode cX9_lotAt 16 = .ok (.ldc_w 360, 3) := by decide +kernel
theorem dX9_lotAt_19 : decode cX9_lotAt 19 = .ok (.invokespecial 114, 3) := by decide +kernel
theorem dX9_lotAt_22 : decode cX9_lotAt 22 = .ok (.athrow, 1) := by decide +kernel
theorem dX9_lotAt_23 : decode cX9_lotAt 23 = .ok (.aload_n 0, 1) := by decide +kernel
theorem dX9_lotAt_24 : decode cX9_lotAt 24 = .ok (.getfield 17, 3) := by decide +kernel
theorem dX9_lotAt_27 : decode cX9_lotAt 27 = .ok (.iload_n 1, 1) := by decide +kernel
theorem dX9_lotAt_28 : decode cX9_lotAt 28 = .ok (.aaload, 1) := by decide +kernel
theorem dX9_lotAt_29 : decode cX9_lotAt 29 = .ok (.areturn, 1) := by decide +kernel
theorem dX9_dishAt_0 : decode cX9_dishAt 0 = .ok (.iload_n 1, 1) := by decide +kernel
theorem dX9_dishAt_1 : decode cX9_dishAt 1 = .ok (.ifCond .lt 11, 3) := by decide +kernel
theorem dX9_dishAt_4 : decode cX9_dishAt 4 = .ok (.iload_n 1, 1) := by decide +kernel
theorem dX9_dishAt_5 : decode cX9_dishAt 5 = .ok (.aload_n 0, 1) := by decide +kernel
theorem dX9_dishAt_6 : decode cX9_dishAt 6 = .ok (.getfield 79, 3) := by decide +kernel
theorem dX9_dishAt_9 : decode cX9_dishAt 9 = .ok (.if_icmp .lt 14, 3) := by decide +kernel
theorem dX9_dishAt_12 : decode cX9_dishAt 12 = .ok (.new 355, 3) := by decide +kernel
theorem dX9_dishAt_15 : decode cX9_dishAt 15 = .ok (.dup, 1) := by decide +kernel
theorem dX9_dishAt_16 : decode cX9_dishAt 16 = .ok (.ldc_w 362, 3) := by decide +kernel
theorem dX9_dishAt_19 : decode cX9_dishAt 19 = .ok (.invokespecial 359, 3) := by decide +kernel
theorem dX9_dishAt_22 : decode cX9_dishAt 22 = .ok (.athrow, 1) := by decide +kernel
theorem dX9_dishAt_23 : decode cX9_dishAt 23 = .ok (.aload_n 0, 1) := by decide +kernel
theorem dX9_dishAt_24 : decode cX9_dishAt 24 = .ok (.getfield 23, 3) := by decide +kernel
theorem dX9_dishAt_27 : decode cX9_dishAt 27 = .ok (.iload_n 1, 1) := by decide +kernel
theorem dX9_dishAt_28 : decode cX9_dishAt 28 = .ok (.aaload, 1) := by decide +kernel
theorem dX9_dishAt_29 : decode cX9_dishAt 29 = .ok (.areturn, 1) := by decide +kernel
theorem dX9_sheetWithRow_0 : decode cX9_sheetWithRow 0 = .ok (.iload_n 1, 1) := by decide +kernel
theorem dX9_sheetWithRow_1 : decode cX9_sheetWithRow 1 = .ok (.ifCond .lt 21, 3) := by decide +kernel
theorem dX9_sheetWithRow_4 : decode cX9_sheetWithRow 4 = .ok (.iload_n 1, 1) := by decide +kernel
theorem dX9_sheetWithRow_5 : decode cX9_sheetWithRow 5 = .ok (.aload_n 0, 1) := by decide +kernel
theorem dX9_sheetWithRow_6 : decode cX9_sheetWithRow 6 = .ok (.getfield 82, 3) := by decide +kernel
theorem dX9_sheetWithRow_9 : decode cX9_sheetWithRow 9 = .ok (.if_icmp .ge 13, 3) := by decide +kernel
theorem dX9_sheetWithRow_12 : decode cX9_sheetWithRow 12 = .ok (.iload_n 2, 1) := by decide +kernel
theorem dX9_sheetWithRow_13 : decode cX9_sheetWithRow 13 = .ok (.ifCond .lt 9, 3) := by decide +kernel
theorem dX9_sheetWithRow_16 : decode cX9_sheetWithRow 16 = .ok (.iload_n 2, 1) := by decide +kernel
theorem dX9_sheetWithRow_17 : decode cX9_sheetWithRow 17 = .ok (.bipush 10, 2) := by decide +kernel
theorem dX9_sheetWithRow_19 : decode cX9_sheetWithRow 19 = .ok (.if_icmp .lt 14, 3) := by decide +kernel
theorem dX9_sheetWithRow_22 : decode cX9_sheetWithRow 22 = .ok (.new 110, 3) := by decide +kernel
theorem dX9_sheetWithRow_25 : decode cX9_sheetWithRow 25 = .ok (.dup, 1) := by decide +kernel
theorem dX9_sheetWithRow_26 : decode cX9_sheetWithRow 26 = .ok (.ldc_w 364, 3) := by decide +kernel
theorem dX9_sheetWithRow_29 : decode cX9_sheetWithRow 29 = .ok (.invokespecial 114, 3) := by decide +kernel
theorem dX9_sheetWithRow_32 : decode cX9_sheetWithRow 32 = .ok (.athrow, 1) := by decide +kernel
theorem dX9_sheetWithRow_33 : decode cX9_sheetWithRow 33 = .ok (.aload_n 0, 1) := by decide +kernel
theorem dX9_sheetWithRow_34 : decode cX9_sheetWithRow 34 = .ok (.getfield 29, 3) := by decide +kernel
theorem dX9_sheetWithRow_37 : decode cX9_sheetWithRow 37 = .ok (.iload_n 1, 1) := by decide +kernel
theorem dX9_sheetWithRow_38 : decode cX9_sheetWithRow 38 = .ok (.aaload, 1) := by decide +kernel
theorem dX9_sheetWithRow_39 : decode cX9_sheetWithRow 39 = .ok (.areturn, 1) := by decide +kernel
set_option maxRecDepth 20000 in
theorem ggX9_addLot_X3_init : GoodIn wsX9_addLot wsX3_init := goodIn_r _ [9, 10, 11, 12, 13, 14, 15, 16, 17, 18, 19, 20, 21, 22, 39, 40, 41, 42, 43, 44, 45, 46, 47, 48, 49, 50, 51] (by decide +kernel) (by decide +kernel)
set_option maxRecDepth 20000 in
theorem gX9_addLot_X3_init : GoodIn wsX9_addLot (wsX3_init) := ggX9_addLot_X3_init
theorem dX9_addLot_0 : decode cX9_addLot 0 = .ok (.aload_n 0, 1) := by decide +kernel
theorem dX9_addLot_1 : decode cX9_addLot 1 = .ok (.getfield 17, 3) := by decide +kernel
theorem dX9_addLot_4 : decode cX9_addLot 4 = .ok (.aload_n 0, 1) := by decide +kernel
theorem dX9_addLot_5 : decode cX9_addLot 5 = .ok (.getfield 76, 3) := by decide +kernel
theorem dX9_addLot_8 : decode cX9_addLot 8 = .ok (.new 15, 3) := by decide +kernel
theorem dX9_addLot_11 : decode cX9_addLot 11 = .ok (.dup, 1) := by decide +kernel
theorem dX9_addLot_12 : decode cX9_addLot 12 = .ok (.iload_n 1, 1) := by decide +kernel
theorem dX9_addLot_13 : decode cX9_addLot 13 = .ok (.aload_n 0, 1) := by decide +kernel
theorem dX9_addLot_14 : decode cX9_addLot 14 = .ok (.getfield 11, 3) := by decide +kernel
theorem dX9_addLot_17 : decode cX9_addLot 17 = .ok (.iload_n 1, 1) := by decide +kernel
theorem dX9_addLot_18 : decode cX9_addLot 18 = .ok (.aaload, 1) := by decide +kernel
theorem dX9_addLot_19 : decode cX9_addLot 19 = .ok (.iload_n 2, 1) := by decide +kernel
theorem dX9_addLot_20 : decode cX9_addLot 20 = .ok (.iload_n 3, 1) := by decide +kernel
theorem dX9_addLot_21 : decode cX9_addLot 21 = .ok (.invokespecial 366, 3) := by decide +kernel
theorem dX9_addLot_24 : decode cX9_addLot 24 = .ok (.aastore, 1) := by decide +kernel
theorem dX9_addLot_25 : decode cX9_addLot 25 = .ok (.aload_n 0, 1) := by decide +kernel
theorem dX9_addLot_26 : decode cX9_addLot 26 = .ok (.dup, 1) := by decide +kernel
theorem dX9_addLot_27 : decode cX9_addLot 27 = .ok (.getfield 76, 3) := by decide +kernel
theorem dX9_addLot_30 : decode cX9_addLot 30 = .ok (.iconst 1, 1) := by decide +kernel
theorem dX9_addLot_31 : decode cX9_addLot 31 = .ok (.iadd, 1) := by decide +kernel
theorem dX9_addLot_32 : decode cX9_addLot 32 = .ok (.putfield 76, 3) := by decide +kernel
theorem dX9_addLot_35 : decode cX9_addLot 35 = .ok (.aload_n 0, 1) := by decide +kernel
theorem dX9_addLot_36 : decode cX9_addLot 36 = .ok (.getfield 76, 3) := by decide +kernel
theorem dX9_addLot_39 : decode cX9_addLot 39 = .ok (.iconst 1, 1) := by decide +kernel
theorem dX9_addLot_40 : decode cX9_addLot 40 = .ok (.isub, 1) := by decide +kernel
theorem dX9_addLot_41 : decode cX9_addLot 41 = .ok (.ireturn, 1) := by decide +kernel
set_option maxRecDepth 20000 in
theorem ggX9_openBottles_X3_isOpen : GoodIn wsX9_openBottles wsX3_isOpen := goodIn_r _ [7, 8, 25, 26, 27, 28, 29, 30, 31, 32] (by decide +kernel) (by decide +kernel)
set_option maxRecDepth 20000 in
theorem gX9_openBottles_X3_isOpen : GoodIn wsX9_openBottles (wsV RX9 151 RX3 yX3_isOpen wsX3_isOpen) := goodIn_app (goodIn_of _ (by decide +kernel)) ggX9_openBottles_X3_isOpen
theorem dX9_openBottles_0 : decode cX9_openBottles 0 = .ok (.iconst 0, 1) := by decide +kernel
theorem dX9_openBottles_1 : decode cX9_openBottles 1 = .ok (.istore_n 1, 1) := by decide +kernel
theorem dX9_openBottles_2 : decode cX9_openBottles 2 = .ok (.iconst 0, 1) := by decide +kernel
theorem dX9_openBottles_3 : decode cX9_openBottles 3 = .ok (.istore_n 2, 1) := by decide +kernel
theorem dX9_openBottles_4 : decode cX9_openBottles 4 = .ok (.iload_n 2, 1) := by decide +kernel
theorem dX9_openBottles_5 : decode cX9_openBottles 5 = .ok (.aload_n 0, 1) := by decide +kernel
theorem dX9_openBottles_6 : decode cX9_openBottles 6 = .ok (.getfield 76, 3) := by decide +kernel
theorem dX9_openBottles_9 : decode cX9_openBottles 9 = .ok (.if_icmp .ge 24, 3) := by decide +kernel
theorem dX9_openBottles_12 : decode cX9_openBottles 12 = .ok (.aload_n 0, 1) := by decide +kernel
theorem dX9_openBottles_13 : decode cX9_openBottles 13 = .ok (.getfield 17, 3) := by decide +kernel
theorem dX9_openBottles_16 : decode cX9_openBottles 16 = .ok (.iload_n 2, 1) := by decide +kernel
theorem dX9_openBottles_17 : decode cX9_openBottles 17 = .ok (.aaload, 1) := by decide +kernel
theorem dX9_openBottles_18 : decode cX9_openBottles 18 = .ok (.invokevirtual 151, 3) := by decide +kernel
theorem dX9_openBottles_21 : decode cX9_openBottles 21 = .ok (.ifCond .eq 6, 3) := by decide +kernel
theorem dX9_openBottles_24 : decode cX9_openBottles 24 = .ok (.iinc 1 1, 3) := by decide +kernel
theorem dX9_openBottles_27 : decode cX9_openBottles 27 = .ok (.iinc 2 1, 3) := by decide +kernel
theorem dX9_openBottles_30 : decode cX9_openBottles 30 = .ok (.goto (-26), 3) := by decide +kernel
theorem dX9_openBottles_33 : decode cX9_openBottles 33 = .ok (.iload_n 1, 1) := by decide +kernel
theorem dX9_openBottles_34 : decode cX9_openBottles 34 = .ok (.ireturn, 1) := by decide +kernel
set_option maxRecDepth 20000 in
theorem ggX9_pour_X3_isOpen : GoodIn wsX9_pour wsX3_isOpen := goodIn_r _ [10, 11, 31, 32, 33, 34, 35, 36, 37, 38] (by decide +kernel) (by decide +kernel)
set_option maxRecDepth 20000 in
theorem gX9_pour_X3_isOpen : GoodIn wsX9_pour (wsV RX9 151 RX3 yX3_isOpen wsX3_isOpen) := goodIn_app (goodIn_of _ (by decide +kernel)) ggX9_pour_X3_isOpen
set_option maxRecDepth 20000 in
theorem ggX9_pour_X9_yearNow : GoodIn wsX9_pour wsX9_yearNow := goodIn_r _ [16, 17, 39, 40, 41, 42, 43, 44, 45, 46, 47, 48, 49, 50, 51, 52, 53, 54] (by decide +kernel) (by decide +kernel)
set_option maxRecDepth 20000 in
theorem gX9_pour_X9_yearNow : GoodIn wsX9_pour (wsV RX9 172 RX9 yX9_yearNow wsX9_yearNow) := goodIn_app (goodIn_of _ (by decide +kernel)) ggX9_pour_X9_yearNow
set_option maxRecDepth 20000 in
theorem ggX9_pour_X3_worthIn : GoodIn wsX9_pour wsX3_worthIn := goodIn_r _ [21, 22, 23, 24, 25, 26, 27, 28, 29, 30, 31, 32, 33, 34, 35, 36, 37, 38, 63, 64, 65, 66, 67] (by decide +kernel) (by decide +kernel)
set_option maxRecDepth 20000 in
theorem gX9_pour_X3_worthIn : GoodIn wsX9_pour (wsV RX9 166 RX3 yX3_worthIn wsX3_worthIn) := goodIn_app (goodIn_of _ (by decide +kernel)) ggX9_pour_X3_worthIn
theorem dX9_pour_0 : decode cX9_pour 0 = .ok (.aload_n 1, 1) := by decide +kernel
theorem dX9_pour_1 : decode cX9_pour 1 = .ok (.dup, 1) := by decide +kernel
theorem dX9_pour_2 : decode cX9_pour 2 = .ok (.getfield 155, 3) := by decide +kernel
theorem dX9_pour_5 : decode cX9_pour 5 = .ok (.iconst 1, 1) := by decide +kernel
theorem dX9_pour_6 : decode cX9_pour 6 = .ok (.isub, 1) := by decide +kernel
theorem dX9_pour_7 : decode cX9_pour 7 = .ok (.putfield 155, 3) := by decide +kernel
theorem dX9_pour_10 : decode cX9_pour 10 = .ok (.aload_n 0, 1) := by decide +kernel
theorem dX9_pour_11 : decode cX9_pour 11 = .ok (.getfield 50, 3) := by decide +kernel
theorem dX9_pour_14 : decode cX9_pour 14 = .ok (.dup, 1) := by decide +kernel
theorem dX9_pour_15 : decode cX9_pour 15 = .ok (.getfield 348, 3) := by decide +kernel
theorem dX9_pour_18 : decode cX9_pour 18 = .ok (.iconst 1, 1) := by decide +kernel
theorem dX9_pour_19 : decode cX9_pour 19 = .ok (.iadd, 1) := by decide +kernel
theorem dX9_pour_20 : decode cX9_pour 20 = .ok (.putfield 348, 3) := by decide +kernel
theorem dX9_pour_23 : decode cX9_pour 23 = .ok (.aload_n 1, 1) := by decide +kernel
theorem dX9_pour_24 : decode cX9_pour 24 = .ok (.invokevirtual 151, 3) := by decide +kernel
theorem dX9_pour_27 : decode cX9_pour 27 = .ok (.ifCond .ne 16, 3) := by decide +kernel
theorem dX9_pour_30 : decode cX9_pour 30 = .ok (.aload_n 0, 1) := by decide +kernel
theorem dX9_pour_31 : decode cX9_pour 31 = .ok (.getfield 50, 3) := by decide +kernel
theorem dX9_pour_34 : decode cX9_pour 34 = .ok (.dup, 1) := by decide +kernel
theorem dX9_pour_35 : decode cX9_pour 35 = .ok (.getfield 270, 3) := by decide +kernel
theorem dX9_pour_38 : decode cX9_pour 38 = .ok (.iconst 1, 1) := by decide +kernel
theorem dX9_pour_39 : decode cX9_pour 39 = .ok (.iadd, 1) := by decide +kernel
theorem dX9_pour_40 : decode cX9_pour 40 = .ok (.putfield 270, 3) := by decide +kernel
theorem dX9_pour_43 : decode cX9_pour 43 = .ok (.aload_n 1, 1) := by decide +kernel
theorem dX9_pour_44 : decode cX9_pour 44 = .ok (.aload_n 0, 1) := by decide +kernel
theorem dX9_pour_45 : decode cX9_pour 45 = .ok (.invokevirtual 172, 3) := by decide +kernel
theorem dX9_pour_48 : decode cX9_pour 48 = .ok (.invokevirtual 166, 3) := by decide +kernel
theorem dX9_pour_51 : decode cX9_pour 51 = .ok (.iconst 4, 1) := by decide +kernel
theorem dX9_pour_52 : decode cX9_pour 52 = .ok (.iadd, 1) := by decide +kernel
theorem dX9_pour_53 : decode cX9_pour 53 = .ok (.iconst 5, 1) := by decide +kernel
theorem dX9_pour_54 : decode cX9_pour 54 = .ok (.idiv, 1) := by decide +kernel
theorem dX9_pour_55 : decode cX9_pour 55 = .ok (.istore_n 2, 1) := by decide +kernel
theorem dX9_pour_56 : decode cX9_pour 56 = .ok (.aload_n 0, 1) := by decide +kernel
theorem dX9_pour_57 : decode cX9_pour 57 = .ok (.getfield 50, 3) := by decide +kernel
theorem dX9_pour_60 : decode cX9_pour 60 = .ok (.dup, 1) := by decide +kernel
theorem dX9_pour_61 : decode cX9_pour 61 = .ok (.getfield 234, 3) := by decide +kernel
theorem dX9_pour_64 : decode cX9_pour 64 = .ok (.iload_n 2, 1) := by decide +kernel
theorem dX9_pour_65 : decode cX9_pour 65 = .ok (.i2l, 1) := by decide +kernel
theorem dX9_pour_66 : decode cX9_pour 66 = .ok (.ladd, 1) := by decide +kernel
theorem dX9_pour_67 : decode cX9_pour 67 = .ok (.putfield 234, 3) := by decide +kernel
theorem dX9_pour_70 : decode cX9_pour 70 = .ok (.iload_n 2, 1) := by decide +kernel
theorem dX9_pour_71 : decode cX9_pour 71 = .ok (.ireturn, 1) := by decide +kernel
set_option maxRecDepth 20000 in
theorem ggX9_matchedAhead_X9_goesAhead : GoodIn wsX9_matchedAhead wsX9_goesAhead := goodIn_r _ [7, 8, 9, 10, 11, 12, 13, 14, 15, 16, 17, 18, 19, 20, 21, 22, 23, 24, 25] (by decide +kernel) (by decide +kernel)
set_option maxRecDepth 20000 in
theorem gX9_matchedAhead_X9_goesAhead : GoodIn wsX9_matchedAhead (wsV RX9 369 RX9 yX9_goesAhead wsX9_goesAhead) := goodIn_app (goodIn_of _ (by decide +kernel)) ggX9_matchedAhead_X9_goesAhead
theorem dX9_matchedAhead_0 : decode cX9_matchedAhead 0 = .ok (.iconst 0, 1) := by decide +kernel
theorem dX9_matchedAhead_1 : decode cX9_matchedAhead 1 = .ok (.istore_n 2, 1) := by decide +kernel
theorem dX9_matchedAhead_2 : decode cX9_matchedAhead 2 = .ok (.iconst 0, 1) := by decide +kernel
theorem dX9_matchedAhead_3 : decode cX9_matchedAhead 3 = .ok (.istore_n 3, 1) := by decide +kernel
theorem dX9_matchedAhead_4 : decode cX9_matchedAhead 4 = .ok (.iload_n 3, 1) := by decide +kernel
theorem dX9_matchedAhead_5 : decode cX9_matchedAhead 5 = .ok (.aload_n 0, 1) := by decide +kernel
theorem dX9_matchedAhead_6 : decode cX9_matchedAhead 6 = .ok (.getfield 76, 3) := by decide +kernel
theorem dX9_matchedAhead_9 : decode cX9_matchedAhead 9 = .ok (.if_icmp .ge 30, 3) := by decide +kernel
theorem dX9_matchedAhead_12 : decode cX9_matchedAhead 12 = .ok (.aload_n 0, 1) := by decide +kernel
theorem dX9_matchedAhead_13 : decode cX9_matchedAhead 13 = .ok (.getfield 68, 3) := by decide +kernel
theorem dX9_matchedAhead_16 : decode cX9_matchedAhead 16 = .ok (.iload_n 3, 1) := by decide +kernel
theorem dX9_matchedAhead_17 : decode cX9_matchedAhead 17 = .ok (.baload, 1) := by decide +kernel
theorem dX9_matchedAhead_18 : decode cX9_matchedAhead 18 = .ok (.ifCond .eq 15, 3) := by decide +kernel
theorem dX9_matchedAhead_21 : decode cX9_matchedAhead 21 = .ok (.aload_n 0, 1) := by decide +kernel
theorem dX9_matchedAhead_22 : decode cX9_matchedAhead 22 = .ok (.iload_n 3, 1) := by decide +kernel
theorem dX9_matchedAhead_23 : decode cX9_matchedAhead 23 = .ok (.iload_n 1, 1) := by decide +kernel
theorem dX9_matchedAhead_24 : decode cX9_matchedAhead 24 = .ok (.invokevirtual 369, 3) := by decide +kernel
theorem dX9_matchedAhead_27 : decode cX9_matchedAhead 27 = .ok (.ifCond .eq 6, 3) := by decide +kernel
theorem dX9_matchedAhead_30 : decode cX9_matchedAhead 30 = .ok (.iinc 2 1, 3) := by decide +kernel
theorem dX9_matchedAhead_33 : decode cX9_matchedAhead 33 = .ok (.iinc 3 1, 3) := by decide +kernel
theorem dX9_matchedAhead_36 : decode cX9_matchedAhead 36 = .ok (.goto (-32), 3) := by decide +kernel
theorem dX9_matchedAhead_39 : decode cX9_matchedAhead 39 = .ok (.iload_n 2, 1) := by decide +kernel
theorem dX9_matchedAhead_40 : decode cX9_matchedAhead 40 = .ok (.ireturn, 1) := by decide +kernel
theorem dX9_goesAhead_0 : decode cX9_goesAhead 0 = .ok (.aload_n 0, 1) := by decide +kernel
theorem dX9_goesAhead_1 : decode cX9_goesAhead 1 = .ok (.getfield 61, 3) := by decide +kernel
theorem dX9_goesAhead_4 : decode cX9_goesAhead 4 = .ok (.iload_n 1, 1) := by decide +kernel
theorem dX9_goesAhead_5 : decode cX9_goesAhead 5 = .ok (.iaload, 1) := by decide +kernel
theorem dX9_goesAhead_6 : decode cX9_goesAhead 6 = .ok (.aload_n 0, 1) := by decide +kernel
theorem dX9_goesAhead_7 : decode cX9_goesAhead 7 = .ok (.getfield 61, 3) := by decide +kernel
theorem dX9_goesAhead_10 : decode cX9_goesAhead 10 = .ok (.iload_n 2, 1) := by decide +kernel
theorem dX9_goesAhead_11 : decode cX9_goesAhead 11 = .ok (.iaload, 1) := by decide +kernel
theorem dX9_goesAhead_12 : decode cX9_goesAhead 12 = .ok (.if_icmp .eq 24, 3) := by decide +kernel
theorem dX9_goesAhead_15 : decode cX9_goesAhead 15 = .ok (.aload_n 0, 1) := by decide +kernel
theorem dX9_goesAhead_16 : decode cX9_goesAhead 16 = .ok (.getfield 61, 3) := by decide +kernel
theorem dX9_goesAhead_19 : decode cX9_goesAhead 19 = .ok (.iload_n 1, 1) := by decide +kernel
theorem dX9_goesAhead_20 : decode cX9_goesAhead 20 = .ok (.iaload, 1) := by decide +kernel
theorem dX9_goesAhead_21 : decode cX9_goesAhead 21 = .ok (.aload_n 0, 1) := by decide +kernel
theorem dX9_goesAhead_22 : decode cX9_goesAhead 22 = .ok (.getfield 61, 3) := by decide +kernel
theorem dX9_goesAhead_25 : decode cX9_goesAhead 25 = .ok (.iload_n 2, 1) := by decide +kernel
theorem dX9_goesAhead_26 : decode cX9_goesAhead 26 = .ok (.iaload, 1) := by decide +kernel
theorem dX9_goesAhead_27 : decode cX9_goesAhead 27 = .ok (.if_icmp .le 7, 3) := by decide +kernel
theorem dX9_goesAhead_30 : decode cX9_goesAhead 30 = .ok (.iconst 1, 1) := by decide +kernel
theorem dX9_goesAhead_31 : decode cX9_goesAhead 31 = .ok (.goto 4, 3) := by decide +kernel
theorem dX9_goesAhead_34 : decode cX9_goesAhead 34 = .ok (.iconst 0, 1) := by decide +kernel
theorem dX9_goesAhead_35 : decode cX9_goesAhead 35 = .ok (.ireturn, 1) := by decide +kernel
theorem dX9_goesAhead_36 : decode cX9_goesAhead 36 = .ok (.aload_n 0, 1) := by decide +kernel
theorem dX9_goesAhead_37 : decode cX9_goesAhead 37 = .ok (.getfield 65, 3) := by decide +kernel
theorem dX9_goesAhead_40 : decode cX9_goesAhead 40 = .ok (.iload_n 1, 1) := by decide +kernel
theorem dX9_goesAhead_41 : decode cX9_goesAhead 41 = .ok (.iaload, 1) := by decide +kernel
theorem dX9_goesAhead_42 : decode cX9_goesAhead 42 = .ok (.aload_n 0, 1) := by decide +kernel
theorem dX9_goesAhead_43 : decode cX9_goesAhead 43 = .ok (.getfield 65, 3) := by decide +kernel
theorem dX9_goesAhead_46 : decode cX9_goesAhead 46 = .ok (.iload_n 2, 1) := by decide +kernel
theorem dX9_goesAhead_47 : decode cX9_goesAhead 47 = .ok (.iaload, 1) := by decide +kernel
theorem dX9_goesAhead_48 : decode cX9_goesAhead 48 = .ok (.if_icmp .eq 24, 3) := by decide +kernel
theorem dX9_goesAhead_51 : decode cX9_goesAhead 51 = .ok (.aload_n 0, 1) := by decide +kernel
theorem dX9_goesAhead_52 : decode cX9_goesAhead 52 = .ok (.getfield 65, 3) := by decide +kernel
theorem dX9_goesAhead_55 : decode cX9_goesAhead 55 = .ok (.iload_n 1, 1) := by decide +kernel
theorem dX9_goesAhead_56 : decode cX9_goesAhead 56 = .ok (.iaload, 1) := by decide +kernel
theorem dX9_goesAhead_57 : decode cX9_goesAhead 57 = .ok (.aload_n 0, 1) := by decide +kernel
theorem dX9_goesAhead_58 : decode cX9_goesAhead 58 = .ok (.getfield 65, 3) := by decide +kernel
theorem dX9_goesAhead_61 : decode cX9_goesAhead 61 = .ok (.iload_n 2, 1) := by decide +kernel
theorem dX9_goesAhead_62 : decode cX9_goesAhead 62 = .ok (.iaload, 1) := by decide +kernel
theorem dX9_goesAhead_63 : decode cX9_goesAhead 63 = .ok (.if_icmp .ge 7, 3) := by decide +kernel
theorem dX9_goesAhead_66 : decode cX9_goesAhead 66 = .ok (.iconst 1, 1) := by decide +kernel
theorem dX9_goesAhead_67 : decode cX9_goesAhead 67 = .ok (.goto 4, 3) := by decide +kernel
theorem dX9_goesAhead_70 : decode cX9_goesAhead 70 = .ok (.iconst 0, 1) := by decide +kernel
theorem dX9_goesAhead_71 : decode cX9_goesAhead 71 = .ok (.ireturn, 1) := by decide +kernel
theorem dX9_goesAhead_72 : decode cX9_goesAhead 72 = .ok (.iload_n 1, 1) := by decide +kernel
theorem dX9_goesAhead_73 : decode cX9_goesAhead 73 = .ok (.iload_n 2, 1) := by decide +kernel
theorem dX9_goesAhead_74 : decode cX9_goesAhead 74 = .ok (.if_icmp .ge 7, 3) := by decide +kernel
theorem dX9_goesAhead_77 : decode cX9_goesAhead 77 = .ok (.iconst 1, 1) := by decide +kernel
theorem dX9_goesAhead_78 : decode cX9_goesAhead 78 = .ok (.goto 4, 3) := by decide +kernel
theorem dX9_goesAhead_81 : decode cX9_goesAhead 81 = .ok (.iconst 0, 1) := by decide +kernel
theorem dX9_goesAhead_82 : decode cX9_goesAhead 82 = .ok (.ireturn, 1) := by decide +kernel
set_option maxRecDepth 20000 in
theorem ggX9_takesFive_X9_isWithin : GoodIn wsX9_takesFive wsX9_isWithin := goodIn_r _ [11] (by decide +kernel) (by decide +kernel)
set_option maxRecDepth 20000 in
theorem gX9_takesFive_X9_isWithin : GoodIn wsX9_takesFive (va_wsS RX9 90 yX9_isWithin wsX9_isWithin) := goodIn_app (goodIn_of _ (by decide +kernel)) ggX9_takesFive_X9_isWithin
set_option maxRecDepth 20000 in
theorem ggX9_takesFive_X9_isVintage : GoodIn wsX9_takesFive wsX9_isVintage := goodIn_r _ [14, 15, 16, 8, 9, 10, 11] (by decide +kernel) (by decide +kernel)
set_option maxRecDepth 20000 in
theorem gX9_takesFive_X9_isVintage : GoodIn wsX9_takesFive (va_wsS RX9 115 yX9_isVintage wsX9_isVintage) := goodIn_app (goodIn_of _ (by decide +kernel)) ggX9_takesFive_X9_isVintage
set_option maxRecDepth 20000 in
theorem ggX9_takesFive_X9_isPrice : GoodIn wsX9_takesFive wsX9_isPrice := goodIn_r _ [19, 20, 8, 9, 10, 11] (by decide +kernel) (by decide +kernel)
set_option maxRecDepth 20000 in
theorem gX9_takesFive_X9_isPrice : GoodIn wsX9_takesFive (va_wsS RX9 119 yX9_isPrice wsX9_isPrice) := goodIn_app (goodIn_of _ (by decide +kernel)) ggX9_takesFive_X9_isPrice
set_option maxRecDepth 20000 in
theorem ggX9_takesFive_X5_isEmpty : GoodIn wsX9_takesFive wsX5_isEmpty := goodIn_r _ [25, 26, 81, 82] (by decide +kernel) (by decide +kernel)
set_option maxRecDepth 20000 in
theorem gX9_takesFive_X5_isEmpty : GoodIn wsX9_takesFive (wsV RX9 224 RX5 yX5_isEmpty wsX5_isEmpty) := goodIn_app (goodIn_of _ (by decide +kernel)) ggX9_takesFive_X5_isEmpty
set_option maxRecDepth 20000 in
theorem ggX9_takesFive_X9_addLot : GoodIn wsX9_takesFive wsX9_addLot := goodIn_r _ [30, 31, 5, 32, 33, 34, 35, 36, 37, 38, 39, 40, 41, 42, 43, 44, 45, 46, 47, 48, 49, 50, 51, 57, 58, 59, 60, 61, 62, 63, 64, 65, 66, 67, 68, 69, 70, 71, 72, 83, 84, 85, 86, 87, 88, 89, 90, 91, 92, 93, 94, 95] (by decide +kernel) (by decide +kernel)
set_option maxRecDepth 20000 in
theorem gX9_takesFive_X9_addLot : GoodIn wsX9_takesFive (wsV RX9 124 RX9 yX9_addLot wsX9_addLot) := goodIn_app (goodIn_of _ (by decide +kernel)) ggX9_takesFive_X9_addLot
set_option maxRecDepth 20000 in
theorem ggX9_takesFive_X5_add : GoodIn wsX9_takesFive wsX5_add := goodIn_r _ [55, 56, 26, 81, 82] (by decide +kernel) (by decide +kernel)
set_option maxRecDepth 20000 in
theorem gX9_takesFive_X5_add : GoodIn wsX9_takesFive (wsV RX9 202 RX5 yX5_add wsX5_add) := goodIn_app (goodIn_of _ (by decide +kernel)) ggX9_takesFive_X5_add
theorem dX9_takesFive_0 : decode cX9_takesFive 0 = .ok (.aload_n 1, 1) := by decide +kernel
theorem dX9_takesFive_1 : decode cX9_takesFive 1 = .ok (.iload_n 2, 1) := by decide +kernel
theorem dX9_takesFive_2 : decode cX9_takesFive 2 = .ok (.laload, 1) := by decide +kernel
theorem dX9_takesFive_3 : decode cX9_takesFive 3 = .ok (.lstore_n 3, 1) := by decide +kernel
theorem dX9_takesFive_4 : decode cX9_takesFive 4 = .ok (.aload_n 1, 1) := by decide +kernel
theorem dX9_takesFive_5 : decode cX9_takesFive 5 = .ok (.iload_n 2, 1) := by decide +kernel
theorem dX9_takesFive_6 : decode cX9_takesFive 6 = .ok (.iconst 1, 1) := by decide +kernel
theorem dX9_takesFive_7 : decode cX9_takesFive 7 = .ok (.iadd, 1) := by decide +kernel
theorem dX9_takesFive_8 : decode cX9_takesFive 8 = .ok (.laload, 1) := by decide +kernel
theorem dX9_takesFive_9 : decode cX9_takesFive 9 = .ok (.lstore 5, 2) := by decide +kernel
theorem dX9_takesFive_11 : decode cX9_takesFive 11 = .ok (.aload_n 1, 1) := by decide +kernel
theorem dX9_takesFive_12 : decode cX9_takesFive 12 = .ok (.iload_n 2, 1) := by decide +kernel
theorem dX9_takesFive_13 : decode cX9_takesFive 13 = .ok (.iconst 2, 1) := by decide +kernel
theorem dX9_takesFive_14 : decode cX9_takesFive 14 = .ok (.iadd, 1) := by decide +kernel
theorem dX9_takesFive_15 : decode cX9_takesFive 15 = .ok (.laload, 1) := by decide +kernel
theorem dX9_takesFive_16 : decode cX9_takesFive 16 = .ok (.lstore 7, 2) := by decide +kernel
theorem dX9_takesFive_18 : decode cX9_takesFive 18 = .ok (.aload_n 1, 1) := by decide +kernel
theorem dX9_takesFive_19 : decode cX9_takesFive 19 = .ok (.iload_n 2, 1) := by decide +kernel
theorem dX9_takesFive_20 : decode cX9_takesFive 20 = .ok (.iconst 3, 1) := by decide +kernel
theorem dX9_takesFive_21 : decode cX9_takesFive 21 = .ok (.iadd, 1) := by decide +kernel
theorem dX9_takesFive_22 : decode cX9_takesFive 22 = .ok (.laload, 1) := by decide +kernel
theorem dX9_takesFive_23 : decode cX9_takesFive 23 = .ok (.lstore 9, 2) := by decide +kernel
theorem dX9_takesFive_25 : decode cX9_takesFive 25 = .ok (.aload_n 1, 1) := by decide +kernel
theorem dX9_takesFive_26 : decode cX9_takesFive 26 = .ok (.iload_n 2, 1) := by decide +kernel
theorem dX9_takesFive_27 : decode cX9_takesFive 27 = .ok (.iconst 4, 1) := by decide +kernel
theorem dX9_takesFive_28 : decode cX9_takesFive 28 = .ok (.iadd, 1) := by decide +kernel
theorem dX9_takesFive_29 : decode cX9_takesFive 29 = .ok (.laload, 1) := by decide +kernel
theorem dX9_takesFive_30 : decode cX9_takesFive 30 = .ok (.lstore 11, 2) := by decide +kernel
theorem dX9_takesFive_32 : decode cX9_takesFive 32 = .ok (.lload_n 3, 1) := by decide +kernel
theorem dX9_takesFive_33 : decode cX9_takesFive 33 = .ok (.lconst 0, 1) := by decide +kernel
theorem dX9_takesFive_34 : decode cX9_takesFive 34 = .ok (.aload_n 0, 1) := by decide +kernel
theorem dX9_takesFive_35 : decode cX9_takesFive 35 = .ok (.getfield 72, 3) := by decide +kernel
theorem dX9_takesFive_38 : decode cX9_takesFive 38 = .ok (.iconst 1, 1) := by decide +kernel
theorem dX9_takesFive_39 : decode cX9_takesFive 39 = .ok (.isub, 1) := by decide +kernel
theorem dX9_takesFive_40 : decode cX9_takesFive 40 = .ok (.i2l, 1) := by decide +kernel
theorem dX9_takesFive_41 : decode cX9_takesFive 41 = .ok (.invokestatic 90, 3) := by decide +kernel
theorem dX9_takesFive_44 : decode cX9_takesFive 44 = .ok (.ifCond .eq 19, 3) := by decide +kernel
theorem dX9_takesFive_47 : decode cX9_takesFive 47 = .ok (.lload 5, 2) := by decide +kernel
theorem dX9_takesFive_49 : decode cX9_takesFive 49 = .ok (.invokestatic 115, 3) := by decide +kernel
theorem dX9_takesFive_52 : decode cX9_takesFive 52 = .ok (.ifCond .eq 11, 3) := by decide +kernel
theorem dX9_takesFive_55 : decode cX9_takesFive 55 = .ok (.lload 7, 2) := by decide +kernel
theorem dX9_takesFive_57 : decode cX9_takesFive 57 = .ok (.invokestatic 119, 3) := by decide +kernel
theorem dX9_takesFive_60 : decode cX9_takesFive 60 = .ok (.ifCond .ne 5, 3) := by decide +kernel
theorem dX9_takesFive_63 : decode cX9_takesFive 63 = .ok (.iconst 0, 1) := by decide +kernel
theorem dX9_takesFive_64 : decode cX9_takesFive 64 = .ok (.ireturn, 1) := by decide +kernel
theorem dX9_takesFive_65 : decode cX9_takesFive 65 = .ok (.lload 9, 2) := by decide +kernel
theorem dX9_takesFive_67 : decode cX9_takesFive 67 = .ok (.lconst 0, 1) := by decide +kernel
theorem dX9_takesFive_68 : decode cX9_takesFive 68 = .ok (.ldc2_w 372, 3) := by decide +kernel
theorem dX9_takesFive_71 : decode cX9_takesFive 71 = .ok (.invokestatic 90, 3) := by decide +kernel
theorem dX9_takesFive_74 : decode cX9_takesFive 74 = .ok (.ifCond .eq 15, 3) := by decide +kernel
theorem dX9_takesFive_77 : decode cX9_takesFive 77 = .ok (.lload 11, 2) := by decide +kernel
theorem dX9_takesFive_79 : decode cX9_takesFive 79 = .ok (.lconst 1, 1) := by decide +kernel
theorem dX9_takesFive_80 : decode cX9_takesFive 80 = .ok (.ldc2_w 191, 3) := by decide +kernel
theorem dX9_takesFive_83 : decode cX9_takesFive 83 = .ok (.invokestatic 90, 3) := by decide +kernel
theorem dX9_takesFive_86 : decode cX9_takesFive 86 = .ok (.ifCond .ne 5, 3) := by decide +kernel
theorem dX9_takesFive_89 : decode cX9_takesFive 89 = .ok (.iconst 0, 1) := by decide +kernel
theorem dX9_takesFive_90 : decode cX9_takesFive 90 = .ok (.ireturn, 1) := by decide +kernel
theorem dX9_takesFive_91 : decode cX9_takesFive 91 = .ok (.aload_n 0, 1) := by decide +kernel
theorem dX9_takesFive_92 : decode cX9_takesFive 92 = .ok (.getfield 36, 3) := by decide +kernel
theorem dX9_takesFive_95 : decode cX9_takesFive 95 = .ok (.lload 9, 2) := by decide +kernel
theorem dX9_takesFive_97 : decode cX9_takesFive 97 = .ok (.l2i, 1) := by decide +kernel
theorem dX9_takesFive_98 : decode cX9_takesFive 98 = .ok (.invokevirtual 224, 3) := by decide +kernel
theorem dX9_takesFive_101 : decode cX9_takesFive 101 = .ok (.ifCond .eq 12, 3) := by decide +kernel
theorem dX9_takesFive_104 : decode cX9_takesFive 104 = .ok (.aload_n 0, 1) := by decide +kernel
theorem dX9_takesFive_105 : decode cX9_takesFive 105 = .ok (.getfield 76, 3) := by decide +kernel
theorem dX9_takesFive_108 : decode cX9_takesFive 108 = .ok (.bipush 60, 2) := by decide +kernel
theorem dX9_takesFive_110 : decode cX9_takesFive 110 = .ok (.if_icmp .lt 5, 3) := by decide +kernel
theorem dX9_takesFive_113 : decode cX9_takesFive 113 = .ok (.iconst 0, 1) := by decide +kernel
theorem dX9_takesFive_114 : decode cX9_takesFive 114 = .ok (.ireturn, 1) := by decide +kernel
theorem dX9_takesFive_115 : decode cX9_takesFive 115 = .ok (.aload_n 0, 1) := by decide +kernel
theorem dX9_takesFive_116 : decode cX9_takesFive 116 = .ok (.lload_n 3, 1) := by decide +kernel
theorem dX9_takesFive_117 : decode cX9_takesFive 117 = .ok (.l2i, 1) := by decide +kernel
theorem dX9_takesFive_118 : decode cX9_takesFive 118 = .ok (.lload 5, 2) := by decide +kernel
theorem dX9_takesFive_120 : decode cX9_takesFive 120 = .ok (.l2i, 1) := by decide +kernel
theorem dX9_takesFive_121 : decode cX9_takesFive 121 = .ok (.lload 7, 2) := by decide +kernel
theorem dX9_takesFive_123 : decode cX9_takesFive 123 = .ok (.l2i, 1) := by decide +kernel
theorem dX9_takesFive_124 : decode cX9_takesFive 124 = .ok (.invokevirtual 124, 3) := by decide +kernel
theorem dX9_takesFive_127 : decode cX9_takesFive 127 = .ok (.istore 13, 2) := by decide +kernel
theorem dX9_takesFive_129 : decode cX9_takesFive 129 = .ok (.aload_n 0, 1) := by decide +kernel
theorem dX9_takesFive_130 : decode cX9_takesFive 130 = .ok (.getfield 36, 3) := by decide +kernel
theorem dX9_takesFive_133 : decode cX9_takesFive 133 = .ok (.lload 9, 2) := by decide +kernel
theorem dX9_takesFive_135 : decode cX9_takesFive 135 = .ok (.l2i, 1) := by decide +kernel
theorem dX9_takesFive_136 : decode cX9_takesFive 136 = .ok (.iload 13, 2) := by decide +kernel
theorem dX9_takesFive_138 : decode cX9_takesFive 138 = .ok (.lload 11, 2) := by decide +kernel
theorem dX9_takesFive_140 : decode cX9_takesFive 140 = .ok (.l2i, 1) := by decide +kernel
theorem dX9_takesFive_141 : decode cX9_takesFive 141 = .ok (.invokevirtual 202, 3) := by decide +kernel
theorem dX9_takesFive_144 : decode cX9_takesFive 144 = .ok (.aload_n 0, 1) := by decide +kernel
theorem dX9_takesFive_145 : decode cX9_takesFive 145 = .ok (.getfield 50, 3) := by decide +kernel
theorem dX9_takesFive_148 : decode cX9_takesFive 148 = .ok (.dup, 1) := by decide +kernel
theorem dX9_takesFive_149 : decode cX9_takesFive 149 = .ok (.getfield 206, 3) := by decide +kernel
theorem dX9_takesFive_152 : decode cX9_takesFive 152 = .ok (.lload 11, 2) := by decide +kernel
theorem dX9_takesFive_154 : decode cX9_takesFive 154 = .ok (.l2i, 1) := by decide +kernel
theorem dX9_takesFive_155 : decode cX9_takesFive 155 = .ok (.iadd, 1) := by decide +kernel
theorem dX9_takesFive_156 : decode cX9_takesFive 156 = .ok (.putfield 206, 3) := by decide +kernel
theorem dX9_takesFive_159 : decode cX9_takesFive 159 = .ok (.iconst 1, 1) := by decide +kernel
theorem dX9_takesFive_160 : decode cX9_takesFive 160 = .ok (.ireturn, 1) := by decide +kernel
theorem dX10_thrown_0 : decode cX10_thrown 0 = .ok (.aload_n 0, 1) := by decide +kernel
theorem dX10_thrown_1 : decode cX10_thrown 1 = .ok (.getfield 1, 3) := by decide +kernel
theorem dX10_thrown_4 : decode cX10_thrown 4 = .ok (.ireturn, 1) := by decide +kernel
theorem dX10_may_0 : decode cX10_may 0 = .ok (.iload_n 1, 1) := by decide +kernel
theorem dX10_may_1 : decode cX10_may 1 = .ok (.ifCond .ne 15, 3) := by decide +kernel
theorem dX10_may_4 : decode cX10_may 4 = .ok (.aload_n 0, 1) := by decide +kernel
theorem dX10_may_5 : decode cX10_may 5 = .ok (.getfield 1, 3) := by decide +kernel
theorem dX10_may_8 : decode cX10_may 8 = .ok (.ifCond .ne 8, 3) := by decide +kernel
theorem dX10_may_11 : decode cX10_may 11 = .ok (.aload_n 0, 1) := by decide +kernel
theorem dX10_may_12 : decode cX10_may 12 = .ok (.iload_n 2, 1) := by decide +kernel
theorem dX10_may_13 : decode cX10_may 13 = .ok (.putfield 1, 3) := by decide +kernel
theorem dX10_may_16 : decode cX10_may 16 = .ok (.aload_n 0, 1) := by decide +kernel
theorem dX10_may_17 : decode cX10_may 17 = .ok (.getfield 1, 3) := by decide +kernel
theorem dX10_may_20 : decode cX10_may 20 = .ok (.ifCond .ne 7, 3) := by decide +kernel
theorem dX10_may_23 : decode cX10_may 23 = .ok (.iconst 1, 1) := by decide +kernel
theorem dX10_may_24 : decode cX10_may 24 = .ok (.goto 4, 3) := by decide +kernel
theorem dX10_may_27 : decode cX10_may 27 = .ok (.iconst 0, 1) := by decide +kernel
theorem dX10_may_28 : decode cX10_may 28 = .ok (.ireturn, 1) := by decide +kernel
theorem dX10_within_0 : decode cX10_within 0 = .ok (.iload_n 0, 1) := by decide +kernel
theorem dX10_within_1 : decode cX10_within 1 = .ok (.iload_n 1, 1) := by decide +kernel
theorem dX10_within_2 : decode cX10_within 2 = .ok (.if_icmp .lt 12, 3) := by decide +kernel
theorem dX10_within_5 : decode cX10_within 5 = .ok (.iload_n 0, 1) := by decide +kernel
theorem dX10_within_6 : decode cX10_within 6 = .ok (.iload_n 2, 1) := by decide +kernel
theorem dX10_within_7 : decode cX10_within 7 = .ok (.if_icmp .gt 7, 3) := by decide +kernel
theorem dX10_within_10 : decode cX10_within 10 = .ok (.iconst 1, 1) := by decide +kernel
theorem dX10_within_11 : decode cX10_within 11 = .ok (.goto 4, 3) := by decide +kernel
theorem dX10_within_14 : decode cX10_within 14 = .ok (.iconst 0, 1) := by decide +kernel
theorem dX10_within_15 : decode cX10_within 15 = .ok (.ireturn, 1) := by decide +kernel
theorem dX10_init_0 : decode cX10_init 0 = .ok (.aload_n 0, 1) := by decide +kernel
theorem dX10_init_1 : decode cX10_init 1 = .ok (.invokespecial 7, 3) := by decide +kernel
theorem dX10_init_4 : decode cX10_init 4 = .ok (.aload_n 0, 1) := by decide +kernel
theorem dX10_init_5 : decode cX10_init 5 = .ok (.bipush 20, 2) := by decide +kernel
theorem dX10_init_7 : decode cX10_init 7 = .ok (.newarray .int, 2) := by decide +kernel
theorem dX10_init_9 : decode cX10_init 9 = .ok (.putfield 13, 3) := by decide +kernel
theorem dX10_init_12 : decode cX10_init 12 = .ok (.aload_n 0, 1) := by decide +kernel
theorem dX10_init_13 : decode cX10_init 13 = .ok (.bipush 20, 2) := by decide +kernel
theorem dX10_init_15 : decode cX10_init 15 = .ok (.newarray .int, 2) := by decide +kernel
theorem dX10_init_17 : decode cX10_init 17 = .ok (.putfield 17, 3) := by decide +kernel
theorem dX10_init_20 : decode cX10_init 20 = .ok (.aload_n 0, 1) := by decide +kernel
theorem dX10_init_21 : decode cX10_init 21 = .ok (.bipush 20, 2) := by decide +kernel
theorem dX10_init_23 : decode cX10_init 23 = .ok (.newarray .int, 2) := by decide +kernel
theorem dX10_init_25 : decode cX10_init 25 = .ok (.putfield 20, 3) := by decide +kernel
theorem dX10_init_28 : decode cX10_init 28 = .ok (.aload_n 0, 1) := by decide +kernel
theorem dX10_init_29 : decode cX10_init 29 = .ok (.bipush 20, 2) := by decide +kernel
theorem dX10_init_31 : decode cX10_init 31 = .ok (.newarray .int, 2) := by decide +kernel
theorem dX10_init_33 : decode cX10_init 33 = .ok (.putfield 23, 3) := by decide +kernel
theorem dX10_init_36 : decode cX10_init 36 = .ok (.aload_n 0, 1) := by decide +kernel
theorem dX10_init_37 : decode cX10_init 37 = .ok (.bipush 20, 2) := by decide +kernel
theorem dX10_init_39 : decode cX10_init 39 = .ok (.newarray .int, 2) := by decide +kernel
theorem dX10_init_41 : decode cX10_init 41 = .ok (.putfield 26, 3) := by decide +kernel
theorem dX10_init_44 : decode cX10_init 44 = .ok (.aload_n 0, 1) := by decide +kernel
theorem dX10_init_45 : decode cX10_init 45 = .ok (.bipush 60, 2) := by decide +kernel
theorem dX10_init_47 : decode cX10_init 47 = .ok (.newarray .int, 2) := by decide +kernel
theorem dX10_init_49 : decode cX10_init 49 = .ok (.putfield 29, 3) := by decide +kernel
theorem dX10_init_52 : decode cX10_init 52 = .ok (.aload_n 0, 1) := by decide +kernel
theorem dX10_init_53 : decode cX10_init 53 = .ok (.bipush 60, 2) := by decide +kernel
theorem dX10_init_55 : decode cX10_init 55 = .ok (.newarray .int, 2) := by decide +kernel
theorem dX10_init_57 : decode cX10_init 57 = .ok (.putfield 32, 3) := by decide +kernel
theorem dX10_init_60 : decode cX10_init 60 = .ok (.aload_n 0, 1) := by decide +kernel
theorem dX10_init_61 : decode cX10_init 61 = .ok (.bipush 60, 2) := by decide +kernel
theorem dX10_init_63 : decode cX10_init 63 = .ok (.newarray .int, 2) := by decide +kernel
theorem dX10_init_65 : decode cX10_init 65 = .ok (.putfield 35, 3) := by decide +kernel
theorem dX10_init_68 : decode cX10_init 68 = .ok (.aload_n 0, 1) := by decide +kernel
theorem dX10_init_69 : decode cX10_init 69 = .ok (.bipush 60, 2) := by decide +kernel
theorem dX10_init_71 : decode cX10_init 71 = .ok (.newarray .int, 2) := by decide +kernel
theorem dX10_init_73 : decode cX10_init 73 = .ok (.putfield 38, 3) := by decide +kernel
theorem dX10_init_76 : decode cX10_init 76 = .ok (.aload_n 0, 1) := by decide +kernel
theorem dX10_init_77 : decode cX10_init 77 = .ok (.bipush 60, 2) := by decide +kernel
theorem dX10_init_79 : decode cX10_init 79 = .ok (.newarray .int, 2) := by decide +kernel
theorem dX10_init_81 : decode cX10_init 81 = .ok (.putfield 41, 3) := by decide +kernel
theorem dX10_init_84 : decode cX10_init 84 = .ok (.aload_n 0, 1) := by decide +kernel
theorem dX10_init_85 : decode cX10_init 85 = .ok (.bipush 30, 2) := by decide +kernel
theorem dX10_init_87 : decode cX10_init 87 = .ok (.newarray .int, 2) := by decide +kernel
theorem dX10_init_89 : decode cX10_init 89 = .ok (.putfield 44, 3) := by decide +kernel
theorem dX10_init_92 : decode cX10_init 92 = .ok (.aload_n 0, 1) := by decide +kernel
theorem dX10_init_93 : decode cX10_init 93 = .ok (.bipush 30, 2) := by decide +kernel
theorem dX10_init_95 : decode cX10_init 95 = .ok (.newarray .int, 2) := by decide +kernel
theorem dX10_init_97 : decode cX10_init 97 = .ok (.putfield 47, 3) := by decide +kernel
theorem dX10_init_100 : decode cX10_init 100 = .ok (.aload_n 0, 1) := by decide +kernel
theorem dX10_init_101 : decode cX10_init 101 = .ok (.bipush 60, 2) := by decide +kernel
theorem dX10_init_103 : decode cX10_init 103 = .ok (.newarray .int, 2) := by decide +kernel
theorem dX10_init_105 : decode cX10_init 105 = .ok (.putfield 50, 3) := by decide +kernel
theorem dX10_init_108 : decode cX10_init 108 = .ok (.aload_n 0, 1) := by decide +kernel
theorem dX10_init_109 : decode cX10_init 109 = .ok (.bipush 60, 2) := by decide +kernel
theorem dX10_init_111 : decode cX10_init 111 = .ok (.newarray .int, 2) := by decide +kernel
theorem dX10_init_113 : decode cX10_init 113 = .ok (.putfield 53, 3) := by decide +kernel
theorem dX10_init_116 : decode cX10_init 116 = .ok (.aload_n 0, 1) := by decide +kernel
theorem dX10_init_117 : decode cX10_init 117 = .ok (.bipush 60, 2) := by decide +kernel
theorem dX10_init_119 : decode cX10_init 119 = .ok (.newarray .int, 2) := by decide +kernel
theorem dX10_init_121 : decode cX10_init 121 = .ok (.putfield 56, 3) := by decide +kernel
theorem dX10_init_124 : decode cX10_init 124 = .ok (.aload_n 0, 1) := by decide +kernel
theorem dX10_init_125 : decode cX10_init 125 = .ok (.sipush 200, 3) := by decide +kernel
theorem dX10_init_128 : decode cX10_init 128 = .ok (.newarray .int, 2) := by decide +kernel
theorem dX10_init_130 : decode cX10_init 130 = .ok (.putfield 59, 3) := by decide +kernel
theorem dX10_init_133 : decode cX10_init 133 = .ok (.aload_n 0, 1) := by decide +kernel
theorem dX10_init_134 : decode cX10_init 134 = .ok (.bipush 21, 2) := by decide +kernel
theorem dX10_init_136 : decode cX10_init 136 = .ok (.newarray .int, 2) := by decide +kernel
theorem dX10_init_138 : decode cX10_init 138 = .ok (.putfield 62, 3) := by decide +kernel
theorem dX10_init_141 : decode cX10_init 141 = .ok (.aload_n 0, 1) := by decide +kernel
theorem dX10_init_142 : decode cX10_init 142 = .ok (.sipush 252, 3) := by decide +kernel
theorem dX10_init_145 : decode cX10_init 145 = .ok (.newarray .int, 2) := by decide +kernel
theorem dX10_init_147 : decode cX10_init 147 = .ok (.putfield 65, 3) := by decide +kernel
theorem dX10_init_150 : decode cX10_init 150 = .ok (.aload_n 0, 1) := by decide +kernel
theorem dX10_init_151 : decode cX10_init 151 = .ok (.sipush 252, 3) := by decide +kernel
theorem dX10_init_154 : decode cX10_init 154 = .ok (.newarray .int, 2) := by decide +kernel
theorem dX10_init_156 : decode cX10_init 156 = .ok (.putfield 68, 3) := by decide +kernel
theorem dX10_init_159 : decode cX10_init 159 = .ok (.aload_n 0, 1) := by decide +kernel
theorem dX10_init_160 : decode cX10_init 160 = .ok (.sipush 252, 3) := by decide +kernel
theorem dX10_init_163 : decode cX10_init 163 = .ok (.newarray .int, 2) := by decide +kernel
theorem dX10_init_165 : decode cX10_init 165 = .ok (.putfield 71, 3) := by decide +kernel
theorem dX10_init_168 : decode cX10_init 168 = .ok (.aload_n 0, 1) := by decide +kernel
theorem dX10_init_169 : decode cX10_init 169 = .ok (.sipush 252, 3) := by decide +kernel
theorem dX10_init_172 : decode cX10_init 172 = .ok (.newarray .int, 2) := by decide +kernel
theorem dX10_init_174 : decode cX10_init 174 = .ok (.putfield 74, 3) := by decide +kernel
theorem dX10_init_177 : decode cX10_init 177 = .ok (.aload_n 0, 1) := by decide +kernel
theorem dX10_init_178 : decode cX10_init 178 = .ok (.iconst 4, 1) := by decide +kernel
theorem dX10_init_179 : decode cX10_init 179 = .ok (.newarray .int, 2) := by decide +kernel
theorem dX10_init_181 : decode cX10_init 181 = .ok (.putfield 77, 3) := by decide +kernel
theorem dX10_init_184 : decode cX10_init 184 = .ok (.aload_n 0, 1) := by decide +kernel
theorem dX10_init_185 : decode cX10_init 185 = .ok (.bipush 40, 2) := by decide +kernel
theorem dX10_init_187 : decode cX10_init 187 = .ok (.newarray .int, 2) := by decide +kernel
theorem dX10_init_189 : decode cX10_init 189 = .ok (.putfield 80, 3) := by decide +kernel
theorem dX10_init_192 : decode cX10_init 192 = .ok (.aload_n 0, 1) := by decide +kernel
theorem dX10_init_193 : decode cX10_init 193 = .ok (.sipush 1600, 3) := by decide +kernel
theorem dX10_init_196 : decode cX10_init 196 = .ok (.newarray .long, 2) := by decide +kernel
theorem dX10_init_198 : decode cX10_init 198 = .ok (.putfield 83, 3) := by decide +kernel
theorem dX10_init_201 : decode cX10_init 201 = .ok (.aload_n 0, 1) := by decide +kernel
theorem dX10_init_202 : decode cX10_init 202 = .ok (.sipush 360, 3) := by decide +kernel
theorem dX10_init_205 : decode cX10_init 205 = .ok (.newarray .int, 2) := by decide +kernel
theorem dX10_init_207 : decode cX10_init 207 = .ok (.putfield 87, 3) := by decide +kernel
theorem dX10_init_210 : decode cX10_init 210 = .ok (.aload_n 0, 1) := by decide +kernel
theorem dX10_init_211 : decode cX10_init 211 = .ok (.bipush 60, 2) := by decide +kernel
theorem dX10_init_213 : decode cX10_init 213 = .ok (.newarray .int, 2) := by decide +kernel
theorem dX10_init_215 : decode cX10_init 215 = .ok (.putfield 90, 3) := by decide +kernel
theorem dX10_init_218 : decode cX10_init 218 = .ok (.aload_n 0, 1) := by decide +kernel
theorem dX10_init_219 : decode cX10_init 219 = .ok (.bipush 6, 2) := by decide +kernel
theorem dX10_init_221 : decode cX10_init 221 = .ok (.newarray .int, 2) := by decide +kernel
theorem dX10_init_223 : decode cX10_init 223 = .ok (.putfield 93, 3) := by decide +kernel
theorem dX10_init_226 : decode cX10_init 226 = .ok (.aload_n 0, 1) := by decide +kernel
theorem dX10_init_227 : decode cX10_init 227 = .ok (.bipush 6, 2) := by decide +kernel
theorem dX10_init_229 : decode cX10_init 229 = .ok (.newarray .int, 2) := by decide +kernel
theorem dX10_init_231 : decode cX10_init 231 = .ok (.putfield 96, 3) := by decide +kernel
theorem dX10_init_234 : decode cX10_init 234 = .ok (.aload_n 0, 1) := by decide +kernel
theorem dX10_init_235 : decode cX10_init 235 = .ok (.bipush 6, 2) := by decide +kernel
theorem dX10_init_237 : decode cX10_init 237 = .ok (.newarray .int, 2) := by decide +kernel
theorem dX10_init_239 : decode cX10_init 239 = .ok (.putfield 99, 3) := by decide +kernel
theorem dX10_init_242 : decode cX10_init 242 = .ok (.aload_n 0, 1) := by decide +kernel
theorem dX10_init_243 : decode cX10_init 243 = .ok (.bipush 6, 2) := by decide +kernel
theorem dX10_init_245 : decode cX10_init 245 = .ok (.newarray .int, 2) := by decide +kernel
theorem dX10_init_247 : decode cX10_init 247 = .ok (.putfield 102, 3) := by decide +kernel
theorem dX10_init_250 : decode cX10_init 250 = .ok (.iconst 0, 1) := by decide +kernel
theorem dX10_init_251 : decode cX10_init 251 = .ok (.istore_n 1, 1) := by decide +kernel
theorem dX10_init_252 : decode cX10_init 252 = .ok (.iload_n 1, 1) := by decide +kernel
theorem dX10_init_253 : decode cX10_init 253 = .ok (.bipush 30, 2) := by decide +kernel
theorem dX10_init_255 : decode cX10_init 255 = .ok (.if_icmp .ge 16, 3) := by decide +kernel
theorem dX10_init_258 : decode cX10_init 258 = .ok (.aload_n 0, 1) := by decide +kernel
theorem dX10_init_259 : decode cX10_init 259 = .ok (.getfield 44, 3) := by decide +kernel
theorem dX10_init_262 : decode cX10_init 262 = .ok (.iload_n 1, 1) := by decide +kernel
theorem dX10_init_263 : decode cX10_init 263 = .ok (.iconst (-1), 1) := by decide +kernel
theorem dX10_init_264 : decode cX10_init 264 = .ok (.iastore, 1) := by decide +kernel
theorem dX10_init_265 : decode cX10_init 265 = .ok (.iinc 1 1, 3) := by decide +kernel
theorem dX10_init_268 : decode cX10_init 268 = .ok (.goto (-16), 3) := by decide +kernel
theorem dX10_init_271 : decode cX10_init 271 = .ok (.iconst 0, 1) := by decide +kernel
theorem dX10_init_272 : decode cX10_init 272 = .ok (.istore_n 1, 1) := by decide +kernel
theorem dX10_init_273 : decode cX10_init 273 = .ok (.iload_n 1, 1) := by decide +kernel
theorem dX10_init_274 : decode cX10_init 274 = .ok (.bipush 40, 2) := by decide +kernel
