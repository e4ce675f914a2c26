theorem dX10_init_276 : decode cX10_init 276 = .ok (.if_icmp .ge 16, 3) := by decide +kernel
theorem dX10_init_279 : decode cX10_init 279 = .ok (.aload_n 0, 1) := by decide +kernel
theorem dX10_init_280 : decode cX10_init 280 = .ok (.getfield 80, 3) := by decide +kernel
theorem dX10_init_283 : decode cX10_init 283 = .ok (.iload_n 1, 1) := by decide +kernel
theorem dX10_init_284 : decode cX10_init 284 = .ok (.iconst (-1), 1) := by decide +kernel
theorem dX10_init_285 : decode cX10_init 285 = .ok (.iastore, 1) := by decide +kernel
theorem dX10_init_286 : decode cX10_init 286 = .ok (.iinc 1 1, 3) := by decide +kernel
theorem dX10_init_289 : decode cX10_init 289 = .ok (.goto (-16), 3) := by decide +kernel
theorem dX10_init_292 : decode cX10_init 292 = .ok (.return_, 1) := by decide +kernel
theorem dX10_year_0 : decode cX10_year 0 = .ok (.sipush 2000, 3) := by decide +kernel
theorem dX10_year_3 : decode cX10_year 3 = .ok (.aload_n 0, 1) := by decide +kernel
theorem dX10_year_4 : decode cX10_year 4 = .ok (.getfield 105, 3) := by decide +kernel
theorem dX10_year_7 : decode cX10_year 7 = .ok (.sipush 8760, 3) := by decide +kernel
theorem dX10_year_10 : decode cX10_year 10 = .ok (.idiv, 1) := by decide +kernel
theorem dX10_year_11 : decode cX10_year 11 = .ok (.iadd, 1) := by decide +kernel
theorem dX10_year_12 : decode cX10_year 12 = .ok (.ireturn, 1) := by decide +kernel
set_option maxRecDepth 20000 in
theorem ggX10_kind_X10_within : GoodIn wsX10_kind wsX10_within := goodIn_r _ [11] (by decide +kernel) (by decide +kernel)
set_option maxRecDepth 20000 in
theorem gX10_kind_X10_within : GoodIn wsX10_kind (va_wsS RX10 108 yX10_within wsX10_within) := goodIn_app (goodIn_of _ (by decide +kernel)) ggX10_kind_X10_within
set_option maxRecDepth 20000 in
theorem ggX10_kind_X10_may : GoodIn wsX10_kind wsX10_may := goodIn_r _ [15, 1, 16, 17, 18, 19, 20, 21, 22, 23, 24, 25, 26, 27, 28, 29, 30, 31, 32, 33, 34, 35, 36, 37, 38, 39, 40, 41, 42, 43, 44, 45, 46, 47, 48, 49, 50, 51, 52, 53, 54, 55, 56, 57, 58, 59, 60, 61, 62, 63, 64] (by decide +kernel) (by decide +kernel)
set_option maxRecDepth 20000 in
theorem gX10_kind_X10_may : GoodIn wsX10_kind (wsV RX10 112 RX10 yX10_may wsX10_may) := goodIn_app (goodIn_of _ (by decide +kernel)) ggX10_kind_X10_may
theorem dX10_kind_0 : decode cX10_kind 0 = .ok (.aload_n 0, 1) := by decide +kernel
theorem dX10_kind_1 : decode cX10_kind 1 = .ok (.iconst 0, 1) := by decide +kernel
theorem dX10_kind_2 : decode cX10_kind 2 = .ok (.putfield 1, 3) := by decide +kernel
theorem dX10_kind_5 : decode cX10_kind 5 = .ok (.iload_n 1, 1) := by decide +kernel
theorem dX10_kind_6 : decode cX10_kind 6 = .ok (.iconst 0, 1) := by decide +kernel
theorem dX10_kind_7 : decode cX10_kind 7 = .ok (.iconst 2, 1) := by decide +kernel
theorem dX10_kind_8 : decode cX10_kind 8 = .ok (.invokestatic 108, 3) := by decide +kernel
theorem dX10_kind_11 : decode cX10_kind 11 = .ok (.ifCond .eq 48, 3) := by decide +kernel
theorem dX10_kind_14 : decode cX10_kind 14 = .ok (.iload_n 2, 1) := by decide +kernel
theorem dX10_kind_15 : decode cX10_kind 15 = .ok (.iconst 1, 1) := by decide +kernel
theorem dX10_kind_16 : decode cX10_kind 16 = .ok (.iconst 5, 1) := by decide +kernel
theorem dX10_kind_17 : decode cX10_kind 17 = .ok (.invokestatic 108, 3) := by decide +kernel
theorem dX10_kind_20 : decode cX10_kind 20 = .ok (.ifCond .eq 39, 3) := by decide +kernel
theorem dX10_kind_23 : decode cX10_kind 23 = .ok (.iload_n 3, 1) := by decide +kernel
theorem dX10_kind_24 : decode cX10_kind 24 = .ok (.iconst 0, 1) := by decide +kernel
theorem dX10_kind_25 : decode cX10_kind 25 = .ok (.iconst 1, 1) := by decide +kernel
theorem dX10_kind_26 : decode cX10_kind 26 = .ok (.invokestatic 108, 3) := by decide +kernel
theorem dX10_kind_29 : decode cX10_kind 29 = .ok (.ifCond .eq 30, 3) := by decide +kernel
theorem dX10_kind_32 : decode cX10_kind 32 = .ok (.iload 4, 2) := by decide +kernel
theorem dX10_kind_34 : decode cX10_kind 34 = .ok (.iconst 0, 1) := by decide +kernel
theorem dX10_kind_35 : decode cX10_kind 35 = .ok (.bipush 60, 2) := by decide +kernel
theorem dX10_kind_37 : decode cX10_kind 37 = .ok (.invokestatic 108, 3) := by decide +kernel
theorem dX10_kind_40 : decode cX10_kind 40 = .ok (.ifCond .eq 19, 3) := by decide +kernel
theorem dX10_kind_43 : decode cX10_kind 43 = .ok (.iload 5, 2) := by decide +kernel
theorem dX10_kind_45 : decode cX10_kind 45 = .ok (.iload 4, 2) := by decide +kernel
theorem dX10_kind_47 : decode cX10_kind 47 = .ok (.bipush 60, 2) := by decide +kernel
theorem dX10_kind_49 : decode cX10_kind 49 = .ok (.invokestatic 108, 3) := by decide +kernel
theorem dX10_kind_52 : decode cX10_kind 52 = .ok (.ifCond .eq 7, 3) := by decide +kernel
theorem dX10_kind_55 : decode cX10_kind 55 = .ok (.iconst 1, 1) := by decide +kernel
theorem dX10_kind_56 : decode cX10_kind 56 = .ok (.goto 4, 3) := by decide +kernel
theorem dX10_kind_59 : decode cX10_kind 59 = .ok (.iconst 0, 1) := by decide +kernel
theorem dX10_kind_60 : decode cX10_kind 60 = .ok (.istore 6, 2) := by decide +kernel
theorem dX10_kind_62 : decode cX10_kind 62 = .ok (.aload_n 0, 1) := by decide +kernel
theorem dX10_kind_63 : decode cX10_kind 63 = .ok (.iload 6, 2) := by decide +kernel
theorem dX10_kind_65 : decode cX10_kind 65 = .ok (.iconst 1, 1) := by decide +kernel
theorem dX10_kind_66 : decode cX10_kind 66 = .ok (.invokevirtual 112, 3) := by decide +kernel
theorem dX10_kind_69 : decode cX10_kind 69 = .ok (.ifCond .ne 5, 3) := by decide +kernel
theorem dX10_kind_72 : decode cX10_kind 72 = .ok (.iconst 0, 1) := by decide +kernel
theorem dX10_kind_73 : decode cX10_kind 73 = .ok (.ireturn, 1) := by decide +kernel
theorem dX10_kind_74 : decode cX10_kind 74 = .ok (.aload_n 0, 1) := by decide +kernel
theorem dX10_kind_75 : decode cX10_kind 75 = .ok (.getfield 116, 3) := by decide +kernel
theorem dX10_kind_78 : decode cX10_kind 78 = .ok (.bipush 20, 2) := by decide +kernel
theorem dX10_kind_80 : decode cX10_kind 80 = .ok (.if_icmp .ne 5, 3) := by decide +kernel
theorem dX10_kind_83 : decode cX10_kind 83 = .ok (.iconst (-1), 1) := by decide +kernel
theorem dX10_kind_84 : decode cX10_kind 84 = .ok (.ireturn, 1) := by decide +kernel
theorem dX10_kind_85 : decode cX10_kind 85 = .ok (.aload_n 0, 1) := by decide +kernel
theorem dX10_kind_86 : decode cX10_kind 86 = .ok (.getfield 13, 3) := by decide +kernel
theorem dX10_kind_89 : decode cX10_kind 89 = .ok (.aload_n 0, 1) := by decide +kernel
theorem dX10_kind_90 : decode cX10_kind 90 = .ok (.getfield 116, 3) := by decide +kernel
theorem dX10_kind_93 : decode cX10_kind 93 = .ok (.iload_n 1, 1) := by decide +kernel
theorem dX10_kind_94 : decode cX10_kind 94 = .ok (.iastore, 1) := by decide +kernel
theorem dX10_kind_95 : decode cX10_kind 95 = .ok (.aload_n 0, 1) := by decide +kernel
theorem dX10_kind_96 : decode cX10_kind 96 = .ok (.getfield 17, 3) := by decide +kernel
theorem dX10_kind_99 : decode cX10_kind 99 = .ok (.aload_n 0, 1) := by decide +kernel
theorem dX10_kind_100 : decode cX10_kind 100 = .ok (.getfield 116, 3) := by decide +kernel
theorem dX10_kind_103 : decode cX10_kind 103 = .ok (.iload_n 2, 1) := by decide +kernel
theorem dX10_kind_104 : decode cX10_kind 104 = .ok (.iastore, 1) := by decide +kernel
theorem dX10_kind_105 : decode cX10_kind 105 = .ok (.aload_n 0, 1) := by decide +kernel
theorem dX10_kind_106 : decode cX10_kind 106 = .ok (.getfield 20, 3) := by decide +kernel
theorem dX10_kind_109 : decode cX10_kind 109 = .ok (.aload_n 0, 1) := by decide +kernel
theorem dX10_kind_110 : decode cX10_kind 110 = .ok (.getfield 116, 3) := by decide +kernel
theorem dX10_kind_113 : decode cX10_kind 113 = .ok (.iload_n 3, 1) := by decide +kernel
theorem dX10_kind_114 : decode cX10_kind 114 = .ok (.iastore, 1) := by decide +kernel
theorem dX10_kind_115 : decode cX10_kind 115 = .ok (.aload_n 0, 1) := by decide +kernel
theorem dX10_kind_116 : decode cX10_kind 116 = .ok (.getfield 23, 3) := by decide +kernel
theorem dX10_kind_119 : decode cX10_kind 119 = .ok (.aload_n 0, 1) := by decide +kernel
theorem dX10_kind_120 : decode cX10_kind 120 = .ok (.getfield 116, 3) := by decide +kernel
theorem dX10_kind_123 : decode cX10_kind 123 = .ok (.iload 4, 2) := by decide +kernel
theorem dX10_kind_125 : decode cX10_kind 125 = .ok (.iastore, 1) := by decide +kernel
theorem dX10_kind_126 : decode cX10_kind 126 = .ok (.aload_n 0, 1) := by decide +kernel
theorem dX10_kind_127 : decode cX10_kind 127 = .ok (.getfield 26, 3) := by decide +kernel
theorem dX10_kind_130 : decode cX10_kind 130 = .ok (.aload_n 0, 1) := by decide +kernel
theorem dX10_kind_131 : decode cX10_kind 131 = .ok (.getfield 116, 3) := by decide +kernel
theorem dX10_kind_134 : decode cX10_kind 134 = .ok (.iload 5, 2) := by decide +kernel
theorem dX10_kind_136 : decode cX10_kind 136 = .ok (.iastore, 1) := by decide +kernel
theorem dX10_kind_137 : decode cX10_kind 137 = .ok (.aload_n 0, 1) := by decide +kernel
theorem dX10_kind_138 : decode cX10_kind 138 = .ok (.dup, 1) := by decide +kernel
theorem dX10_kind_139 : decode cX10_kind 139 = .ok (.getfield 116, 3) := by decide +kernel
theorem dX10_kind_142 : decode cX10_kind 142 = .ok (.iconst 1, 1) := by decide +kernel
theorem dX10_kind_143 : decode cX10_kind 143 = .ok (.iadd, 1) := by decide +kernel
theorem dX10_kind_144 : decode cX10_kind 144 = .ok (.putfield 116, 3) := by decide +kernel
theorem dX10_kind_147 : decode cX10_kind 147 = .ok (.aload_n 0, 1) := by decide +kernel
theorem dX10_kind_148 : decode cX10_kind 148 = .ok (.getfield 116, 3) := by decide +kernel
theorem dX10_kind_151 : decode cX10_kind 151 = .ok (.iconst 1, 1) := by decide +kernel
theorem dX10_kind_152 : decode cX10_kind 152 = .ok (.isub, 1) := by decide +kernel
theorem dX10_kind_153 : decode cX10_kind 153 = .ok (.ireturn, 1) := by decide +kernel
theorem dX10_newLot_0 : decode cX10_newLot 0 = .ok (.aload_n 0, 1) := by decide +kernel
theorem dX10_newLot_1 : decode cX10_newLot 1 = .ok (.getfield 29, 3) := by decide +kernel
theorem dX10_newLot_4 : decode cX10_newLot 4 = .ok (.aload_n 0, 1) := by decide +kernel
theorem dX10_newLot_5 : decode cX10_newLot 5 = .ok (.getfield 119, 3) := by decide +kernel
theorem dX10_newLot_8 : decode cX10_newLot 8 = .ok (.iload_n 1, 1) := by decide +kernel
theorem dX10_newLot_9 : decode cX10_newLot 9 = .ok (.iastore, 1) := by decide +kernel
theorem dX10_newLot_10 : decode cX10_newLot 10 = .ok (.aload_n 0, 1) := by decide +kernel
theorem dX10_newLot_11 : decode cX10_newLot 11 = .ok (.getfield 32, 3) := by decide +kernel
theorem dX10_newLot_14 : decode cX10_newLot 14 = .ok (.aload_n 0, 1) := by decide +kernel
theorem dX10_newLot_15 : decode cX10_newLot 15 = .ok (.getfield 119, 3) := by decide +kernel
theorem dX10_newLot_18 : decode cX10_newLot 18 = .ok (.iload_n 2, 1) := by decide +kernel
theorem dX10_newLot_19 : decode cX10_newLot 19 = .ok (.iastore, 1) := by decide +kernel
theorem dX10_newLot_20 : decode cX10_newLot 20 = .ok (.aload_n 0, 1) := by decide +kernel
theorem dX10_newLot_21 : decode cX10_newLot 21 = .ok (.getfield 35, 3) := by decide +kernel
theorem dX10_newLot_24 : decode cX10_newLot 24 = .ok (.aload_n 0, 1) := by decide +kernel
theorem dX10_newLot_25 : decode cX10_newLot 25 = .ok (.getfield 119, 3) := by decide +kernel
theorem dX10_newLot_28 : decode cX10_newLot 28 = .ok (.iload_n 3, 1) := by decide +kernel
theorem dX10_newLot_29 : decode cX10_newLot 29 = .ok (.iastore, 1) := by decide +kernel
theorem dX10_newLot_30 : decode cX10_newLot 30 = .ok (.aload_n 0, 1) := by decide +kernel
theorem dX10_newLot_31 : decode cX10_newLot 31 = .ok (.getfield 38, 3) := by decide +kernel
theorem dX10_newLot_34 : decode cX10_newLot 34 = .ok (.aload_n 0, 1) := by decide +kernel
theorem dX10_newLot_35 : decode cX10_newLot 35 = .ok (.getfield 119, 3) := by decide +kernel
theorem dX10_newLot_38 : decode cX10_newLot 38 = .ok (.iload_n 2, 1) := by decide +kernel
theorem dX10_newLot_39 : decode cX10_newLot 39 = .ok (.aload_n 0, 1) := by decide +kernel
theorem dX10_newLot_40 : decode cX10_newLot 40 = .ok (.getfield 23, 3) := by decide +kernel
theorem dX10_newLot_43 : decode cX10_newLot 43 = .ok (.iload_n 1, 1) := by decide +kernel
theorem dX10_newLot_44 : decode cX10_newLot 44 = .ok (.iaload, 1) := by decide +kernel
theorem dX10_newLot_45 : decode cX10_newLot 45 = .ok (.iadd, 1) := by decide +kernel
theorem dX10_newLot_46 : decode cX10_newLot 46 = .ok (.iastore, 1) := by decide +kernel
theorem dX10_newLot_47 : decode cX10_newLot 47 = .ok (.aload_n 0, 1) := by decide +kernel
theorem dX10_newLot_48 : decode cX10_newLot 48 = .ok (.getfield 41, 3) := by decide +kernel
theorem dX10_newLot_51 : decode cX10_newLot 51 = .ok (.aload_n 0, 1) := by decide +kernel
theorem dX10_newLot_52 : decode cX10_newLot 52 = .ok (.getfield 119, 3) := by decide +kernel
theorem dX10_newLot_55 : decode cX10_newLot 55 = .ok (.iload_n 2, 1) := by decide +kernel
theorem dX10_newLot_56 : decode cX10_newLot 56 = .ok (.aload_n 0, 1) := by decide +kernel
theorem dX10_newLot_57 : decode cX10_newLot 57 = .ok (.getfield 26, 3) := by decide +kernel
theorem dX10_newLot_60 : decode cX10_newLot 60 = .ok (.iload_n 1, 1) := by decide +kernel
theorem dX10_newLot_61 : decode cX10_newLot 61 = .ok (.iaload, 1) := by decide +kernel
theorem dX10_newLot_62 : decode cX10_newLot 62 = .ok (.iadd, 1) := by decide +kernel
theorem dX10_newLot_63 : decode cX10_newLot 63 = .ok (.iastore, 1) := by decide +kernel
theorem dX10_newLot_64 : decode cX10_newLot 64 = .ok (.aload_n 0, 1) := by decide +kernel
theorem dX10_newLot_65 : decode cX10_newLot 65 = .ok (.dup, 1) := by decide +kernel
theorem dX10_newLot_66 : decode cX10_newLot 66 = .ok (.getfield 119, 3) := by decide +kernel
theorem dX10_newLot_69 : decode cX10_newLot 69 = .ok (.iconst 1, 1) := by decide +kernel
theorem dX10_newLot_70 : decode cX10_newLot 70 = .ok (.iadd, 1) := by decide +kernel
theorem dX10_newLot_71 : decode cX10_newLot 71 = .ok (.putfield 119, 3) := by decide +kernel
theorem dX10_newLot_74 : decode cX10_newLot 74 = .ok (.aload_n 0, 1) := by decide +kernel
theorem dX10_newLot_75 : decode cX10_newLot 75 = .ok (.getfield 119, 3) := by decide +kernel
theorem dX10_newLot_78 : decode cX10_newLot 78 = .ok (.iconst 1, 1) := by decide +kernel
theorem dX10_newLot_79 : decode cX10_newLot 79 = .ok (.isub, 1) := by decide +kernel
theorem dX10_newLot_80 : decode cX10_newLot 80 = .ok (.ireturn, 1) := by decide +kernel
set_option maxRecDepth 20000 in
theorem ggX10_lot_X10_within : GoodIn wsX10_lot wsX10_within := goodIn_r _ [7] (by decide +kernel) (by decide +kernel)
set_option maxRecDepth 20000 in
theorem gX10_lot_X10_within : GoodIn wsX10_lot (va_wsS RX10 108 yX10_within wsX10_within) := goodIn_app (goodIn_of _ (by decide +kernel)) ggX10_lot_X10_within
set_option maxRecDepth 20000 in
theorem ggX10_lot_X10_may : GoodIn wsX10_lot wsX10_may := goodIn_r _ [11, 1, 23, 24, 25, 26, 27, 28, 29, 30, 31, 32, 33, 34, 35, 36, 37, 38, 39, 40, 41, 42, 43, 44, 45, 46, 47, 48, 49, 50, 51, 52, 53, 54, 55, 56, 57, 58, 59, 60, 61, 62, 63, 64, 65, 66, 67, 68, 69, 70, 71] (by decide +kernel) (by decide +kernel)
set_option maxRecDepth 20000 in
theorem gX10_lot_X10_may : GoodIn wsX10_lot (wsV RX10 112 RX10 yX10_may wsX10_may) := goodIn_app (goodIn_of _ (by decide +kernel)) ggX10_lot_X10_may
set_option maxRecDepth 20000 in
theorem ggX10_lot_X10_newLot : GoodIn wsX10_lot wsX10_newLot := goodIn_r _ [15, 16, 3, 17, 18, 19, 20, 21, 22, 23, 24, 25, 26, 27, 28, 29, 30, 31, 32, 33, 34, 35, 36, 37, 38, 39, 40, 41, 42, 43, 44, 45, 46, 47, 48, 49, 50, 51, 52, 53, 54, 55, 56, 57, 58, 59, 60, 61, 62, 63, 64, 65, 66, 67, 68, 69, 70, 71] (by decide +kernel) (by decide +kernel)
set_option maxRecDepth 20000 in
theorem gX10_lot_X10_newLot : GoodIn wsX10_lot (wsV RX10 122 RX10 yX10_newLot wsX10_newLot) := goodIn_app (goodIn_of _ (by decide +kernel)) ggX10_lot_X10_newLot
theorem dX10_lot_0 : decode cX10_lot 0 = .ok (.aload_n 0, 1) := by decide +kernel
theorem dX10_lot_1 : decode cX10_lot 1 = .ok (.iconst 0, 1) := by decide +kernel
theorem dX10_lot_2 : decode cX10_lot 2 = .ok (.putfield 1, 3) := by decide +kernel
theorem dX10_lot_5 : decode cX10_lot 5 = .ok (.aload_n 0, 1) := by decide +kernel
theorem dX10_lot_6 : decode cX10_lot 6 = .ok (.iload_n 1, 1) := by decide +kernel
theorem dX10_lot_7 : decode cX10_lot 7 = .ok (.iconst 0, 1) := by decide +kernel
theorem dX10_lot_8 : decode cX10_lot 8 = .ok (.aload_n 0, 1) := by decide +kernel
theorem dX10_lot_9 : decode cX10_lot 9 = .ok (.getfield 116, 3) := by decide +kernel
theorem dX10_lot_12 : decode cX10_lot 12 = .ok (.iconst 1, 1) := by decide +kernel
theorem dX10_lot_13 : decode cX10_lot 13 = .ok (.isub, 1) := by decide +kernel
theorem dX10_lot_14 : decode cX10_lot 14 = .ok (.invokestatic 108, 3) := by decide +kernel
theorem dX10_lot_17 : decode cX10_lot 17 = .ok (.iconst 1, 1) := by decide +kernel
theorem dX10_lot_18 : decode cX10_lot 18 = .ok (.invokevirtual 112, 3) := by decide +kernel
theorem dX10_lot_21 : decode cX10_lot 21 = .ok (.ifCond .eq 40, 3) := by decide +kernel
theorem dX10_lot_24 : decode cX10_lot 24 = .ok (.aload_n 0, 1) := by decide +kernel
theorem dX10_lot_25 : decode cX10_lot 25 = .ok (.iload_n 2, 1) := by decide +kernel
theorem dX10_lot_26 : decode cX10_lot 26 = .ok (.sipush 1900, 3) := by decide +kernel
theorem dX10_lot_29 : decode cX10_lot 29 = .ok (.sipush 2100, 3) := by decide +kernel
theorem dX10_lot_32 : decode cX10_lot 32 = .ok (.invokestatic 108, 3) := by decide +kernel
theorem dX10_lot_35 : decode cX10_lot 35 = .ok (.ifCond .eq 18, 3) := by decide +kernel
theorem dX10_lot_38 : decode cX10_lot 38 = .ok (.iload_n 3, 1) := by decide +kernel
theorem dX10_lot_39 : decode cX10_lot 39 = .ok (.iconst 1, 1) := by decide +kernel
theorem dX10_lot_40 : decode cX10_lot 40 = .ok (.sipush 10000, 3) := by decide +kernel
theorem dX10_lot_43 : decode cX10_lot 43 = .ok (.invokestatic 108, 3) := by decide +kernel
theorem dX10_lot_46 : decode cX10_lot 46 = .ok (.ifCond .eq 7, 3) := by decide +kernel
theorem dX10_lot_49 : decode cX10_lot 49 = .ok (.iconst 1, 1) := by decide +kernel
theorem dX10_lot_50 : decode cX10_lot 50 = .ok (.goto 4, 3) := by decide +kernel
theorem dX10_lot_53 : decode cX10_lot 53 = .ok (.iconst 0, 1) := by decide +kernel
theorem dX10_lot_54 : decode cX10_lot 54 = .ok (.iconst 2, 1) := by decide +kernel
theorem dX10_lot_55 : decode cX10_lot 55 = .ok (.invokevirtual 112, 3) := by decide +kernel
theorem dX10_lot_58 : decode cX10_lot 58 = .ok (.ifCond .ne 5, 3) := by decide +kernel
theorem dX10_lot_61 : decode cX10_lot 61 = .ok (.iconst 0, 1) := by decide +kernel
theorem dX10_lot_62 : decode cX10_lot 62 = .ok (.ireturn, 1) := by decide +kernel
theorem dX10_lot_63 : decode cX10_lot 63 = .ok (.aload_n 0, 1) := by decide +kernel
theorem dX10_lot_64 : decode cX10_lot 64 = .ok (.getfield 119, 3) := by decide +kernel
theorem dX10_lot_67 : decode cX10_lot 67 = .ok (.bipush 60, 2) := by decide +kernel
theorem dX10_lot_69 : decode cX10_lot 69 = .ok (.if_icmp .ne 7, 3) := by decide +kernel
theorem dX10_lot_72 : decode cX10_lot 72 = .ok (.iconst (-1), 1) := by decide +kernel
theorem dX10_lot_73 : decode cX10_lot 73 = .ok (.goto 10, 3) := by decide +kernel
theorem dX10_lot_76 : decode cX10_lot 76 = .ok (.aload_n 0, 1) := by decide +kernel
theorem dX10_lot_77 : decode cX10_lot 77 = .ok (.iload_n 1, 1) := by decide +kernel
theorem dX10_lot_78 : decode cX10_lot 78 = .ok (.iload_n 2, 1) := by decide +kernel
theorem dX10_lot_79 : decode cX10_lot 79 = .ok (.iload_n 3, 1) := by decide +kernel
theorem dX10_lot_80 : decode cX10_lot 80 = .ok (.invokevirtual 122, 3) := by decide +kernel
theorem dX10_lot_83 : decode cX10_lot 83 = .ok (.ireturn, 1) := by decide +kernel
set_option maxRecDepth 20000 in
theorem ggX10_isLot_X10_within : GoodIn wsX10_isLot wsX10_within := goodIn_r _ [5] (by decide +kernel) (by decide +kernel)
set_option maxRecDepth 20000 in
theorem gX10_isLot_X10_within : GoodIn wsX10_isLot (va_wsS RX10 108 yX10_within wsX10_within) := goodIn_app (goodIn_of _ (by decide +kernel)) ggX10_isLot_X10_within
set_option maxRecDepth 20000 in
theorem ggX10_isLot_X10_may : GoodIn wsX10_isLot wsX10_may := goodIn_r _ [9, 10, 11, 12, 13, 14, 15, 16, 17, 18, 19, 20, 21, 22, 23, 24, 25, 26, 27, 28, 29, 30, 31, 32, 33, 34, 35, 36, 37, 38, 39, 40, 41, 42, 43, 44, 45, 46, 47, 48, 49, 50, 51, 52, 53, 54, 55, 56, 57, 58, 59] (by decide +kernel) (by decide +kernel)
set_option maxRecDepth 20000 in
theorem gX10_isLot_X10_may : GoodIn wsX10_isLot (wsV RX10 112 RX10 yX10_may wsX10_may) := goodIn_app (goodIn_of _ (by decide +kernel)) ggX10_isLot_X10_may
theorem dX10_isLot_0 : decode cX10_isLot 0 = .ok (.aload_n 0, 1) := by decide +kernel
theorem dX10_isLot_1 : decode cX10_isLot 1 = .ok (.iload_n 1, 1) := by decide +kernel
theorem dX10_isLot_2 : decode cX10_isLot 2 = .ok (.iconst 0, 1) := by decide +kernel
theorem dX10_isLot_3 : decode cX10_isLot 3 = .ok (.aload_n 0, 1) := by decide +kernel
theorem dX10_isLot_4 : decode cX10_isLot 4 = .ok (.getfield 119, 3) := by decide +kernel
theorem dX10_isLot_7 : decode cX10_isLot 7 = .ok (.iconst 1, 1) := by decide +kernel
theorem dX10_isLot_8 : decode cX10_isLot 8 = .ok (.isub, 1) := by decide +kernel
theorem dX10_isLot_9 : decode cX10_isLot 9 = .ok (.invokestatic 108, 3) := by decide +kernel
theorem dX10_isLot_12 : decode cX10_isLot 12 = .ok (.iload_n 2, 1) := by decide +kernel
theorem dX10_isLot_13 : decode cX10_isLot 13 = .ok (.invokevirtual 112, 3) := by decide +kernel
theorem dX10_isLot_16 : decode cX10_isLot 16 = .ok (.ireturn, 1) := by decide +kernel
theorem dX10_worthOf_0 : decode cX10_worthOf 0 = .ok (.iload_n 2, 1) := by decide +kernel
theorem dX10_worthOf_1 : decode cX10_worthOf 1 = .ok (.aload_n 0, 1) := by decide +kernel
theorem dX10_worthOf_2 : decode cX10_worthOf 2 = .ok (.getfield 38, 3) := by decide +kernel
theorem dX10_worthOf_5 : decode cX10_worthOf 5 = .ok (.iload_n 1, 1) := by decide +kernel
theorem dX10_worthOf_6 : decode cX10_worthOf 6 = .ok (.iaload, 1) := by decide +kernel
theorem dX10_worthOf_7 : decode cX10_worthOf 7 = .ok (.if_icmp .ge 10, 3) := by decide +kernel
theorem dX10_worthOf_10 : decode cX10_worthOf 10 = .ok (.aload_n 0, 1) := by decide +kernel
theorem dX10_worthOf_11 : decode cX10_worthOf 11 = .ok (.getfield 35, 3) := by decide +kernel
theorem dX10_worthOf_14 : decode cX10_worthOf 14 = .ok (.iload_n 1, 1) := by decide +kernel
theorem dX10_worthOf_15 : decode cX10_worthOf 15 = .ok (.iaload, 1) := by decide +kernel
theorem dX10_worthOf_16 : decode cX10_worthOf 16 = .ok (.ireturn, 1) := by decide +kernel
theorem dX10_worthOf_17 : decode cX10_worthOf 17 = .ok (.iload_n 2, 1) := by decide +kernel
theorem dX10_worthOf_18 : decode cX10_worthOf 18 = .ok (.aload_n 0, 1) := by decide +kernel
theorem dX10_worthOf_19 : decode cX10_worthOf 19 = .ok (.getfield 41, 3) := by decide +kernel
theorem dX10_worthOf_22 : decode cX10_worthOf 22 = .ok (.iload_n 1, 1) := by decide +kernel
theorem dX10_worthOf_23 : decode cX10_worthOf 23 = .ok (.iaload, 1) := by decide +kernel
theorem dX10_worthOf_24 : decode cX10_worthOf 24 = .ok (.if_icmp .ge 7, 3) := by decide +kernel
theorem dX10_worthOf_27 : decode cX10_worthOf 27 = .ok (.iload_n 2, 1) := by decide +kernel
theorem dX10_worthOf_28 : decode cX10_worthOf 28 = .ok (.goto 9, 3) := by decide +kernel
theorem dX10_worthOf_31 : decode cX10_worthOf 31 = .ok (.aload_n 0, 1) := by decide +kernel
theorem dX10_worthOf_32 : decode cX10_worthOf 32 = .ok (.getfield 41, 3) := by decide +kernel
theorem dX10_worthOf_35 : decode cX10_worthOf 35 = .ok (.iload_n 1, 1) := by decide +kernel
theorem dX10_worthOf_36 : decode cX10_worthOf 36 = .ok (.iaload, 1) := by decide +kernel
theorem dX10_worthOf_37 : decode cX10_worthOf 37 = .ok (.istore_n 3, 1) := by decide +kernel
theorem dX10_worthOf_38 : decode cX10_worthOf 38 = .ok (.aload_n 0, 1) := by decide +kernel
theorem dX10_worthOf_39 : decode cX10_worthOf 39 = .ok (.getfield 35, 3) := by decide +kernel
theorem dX10_worthOf_42 : decode cX10_worthOf 42 = .ok (.iload_n 1, 1) := by decide +kernel
theorem dX10_worthOf_43 : decode cX10_worthOf 43 = .ok (.iaload, 1) := by decide +kernel
theorem dX10_worthOf_44 : decode cX10_worthOf 44 = .ok (.aload_n 0, 1) := by decide +kernel
theorem dX10_worthOf_45 : decode cX10_worthOf 45 = .ok (.getfield 35, 3) := by decide +kernel
theorem dX10_worthOf_48 : decode cX10_worthOf 48 = .ok (.iload_n 1, 1) := by decide +kernel
theorem dX10_worthOf_49 : decode cX10_worthOf 49 = .ok (.iaload, 1) := by decide +kernel
theorem dX10_worthOf_50 : decode cX10_worthOf 50 = .ok (.iload_n 3, 1) := by decide +kernel
theorem dX10_worthOf_51 : decode cX10_worthOf 51 = .ok (.aload_n 0, 1) := by decide +kernel
theorem dX10_worthOf_52 : decode cX10_worthOf 52 = .ok (.getfield 38, 3) := by decide +kernel
theorem dX10_worthOf_55 : decode cX10_worthOf 55 = .ok (.iload_n 1, 1) := by decide +kernel
theorem dX10_worthOf_56 : decode cX10_worthOf 56 = .ok (.iaload, 1) := by decide +kernel
theorem dX10_worthOf_57 : decode cX10_worthOf 57 = .ok (.isub, 1) := by decide +kernel
theorem dX10_worthOf_58 : decode cX10_worthOf 58 = .ok (.imul, 1) := by decide +kernel
theorem dX10_worthOf_59 : decode cX10_worthOf 59 = .ok (.bipush 20, 2) := by decide +kernel
theorem dX10_worthOf_61 : decode cX10_worthOf 61 = .ok (.idiv, 1) := by decide +kernel
theorem dX10_worthOf_62 : decode cX10_worthOf 62 = .ok (.iadd, 1) := by decide +kernel
theorem dX10_worthOf_63 : decode cX10_worthOf 63 = .ok (.istore 4, 2) := by decide +kernel
theorem dX10_worthOf_65 : decode cX10_worthOf 65 = .ok (.iload_n 2, 1) := by decide +kernel
theorem dX10_worthOf_66 : decode cX10_worthOf 66 = .ok (.aload_n 0, 1) := by decide +kernel
theorem dX10_worthOf_67 : decode cX10_worthOf 67 = .ok (.getfield 41, 3) := by decide +kernel
theorem dX10_worthOf_70 : decode cX10_worthOf 70 = .ok (.iload_n 1, 1) := by decide +kernel
theorem dX10_worthOf_71 : decode cX10_worthOf 71 = .ok (.iaload, 1) := by decide +kernel
theorem dX10_worthOf_72 : decode cX10_worthOf 72 = .ok (.if_icmp .le 18, 3) := by decide +kernel
theorem dX10_worthOf_75 : decode cX10_worthOf 75 = .ok (.aload_n 0, 1) := by decide +kernel
theorem dX10_worthOf_76 : decode cX10_worthOf 76 = .ok (.getfield 13, 3) := by decide +kernel
theorem dX10_worthOf_79 : decode cX10_worthOf 79 = .ok (.aload_n 0, 1) := by decide +kernel
theorem dX10_worthOf_80 : decode cX10_worthOf 80 = .ok (.getfield 29, 3) := by decide +kernel
theorem dX10_worthOf_83 : decode cX10_worthOf 83 = .ok (.iload_n 1, 1) := by decide +kernel
theorem dX10_worthOf_84 : decode cX10_worthOf 84 = .ok (.iaload, 1) := by decide +kernel
theorem dX10_worthOf_85 : decode cX10_worthOf 85 = .ok (.iaload, 1) := by decide +kernel
theorem dX10_worthOf_86 : decode cX10_worthOf 86 = .ok (.iconst 2, 1) := by decide +kernel
theorem dX10_worthOf_87 : decode cX10_worthOf 87 = .ok (.if_icmp .ne 6, 3) := by decide +kernel
theorem dX10_worthOf_90 : decode cX10_worthOf 90 = .ok (.iload 4, 2) := by decide +kernel
theorem dX10_worthOf_92 : decode cX10_worthOf 92 = .ok (.ireturn, 1) := by decide +kernel
theorem dX10_worthOf_93 : decode cX10_worthOf 93 = .ok (.aload_n 0, 1) := by decide +kernel
theorem dX10_worthOf_94 : decode cX10_worthOf 94 = .ok (.getfield 13, 3) := by decide +kernel
theorem dX10_worthOf_97 : decode cX10_worthOf 97 = .ok (.aload_n 0, 1) := by decide +kernel
theorem dX10_worthOf_98 : decode cX10_worthOf 98 = .ok (.getfield 29, 3) := by decide +kernel
theorem dX10_worthOf_101 : decode cX10_worthOf 101 = .ok (.iload_n 1, 1) := by decide +kernel
theorem dX10_worthOf_102 : decode cX10_worthOf 102 = .ok (.iaload, 1) := by decide +kernel
theorem dX10_worthOf_103 : decode cX10_worthOf 103 = .ok (.iaload, 1) := by decide +kernel
theorem dX10_worthOf_104 : decode cX10_worthOf 104 = .ok (.iconst 1, 1) := by decide +kernel
theorem dX10_worthOf_105 : decode cX10_worthOf 105 = .ok (.if_icmp .ne 5, 3) := by decide +kernel
theorem dX10_worthOf_108 : decode cX10_worthOf 108 = .ok (.iconst 0, 1) := by decide +kernel
theorem dX10_worthOf_109 : decode cX10_worthOf 109 = .ok (.ireturn, 1) := by decide +kernel
theorem dX10_worthOf_110 : decode cX10_worthOf 110 = .ok (.aload_n 0, 1) := by decide +kernel
theorem dX10_worthOf_111 : decode cX10_worthOf 111 = .ok (.getfield 41, 3) := by decide +kernel
theorem dX10_worthOf_114 : decode cX10_worthOf 114 = .ok (.iload_n 1, 1) := by decide +kernel
theorem dX10_worthOf_115 : decode cX10_worthOf 115 = .ok (.iaload, 1) := by decide +kernel
theorem dX10_worthOf_116 : decode cX10_worthOf 116 = .ok (.istore 5, 2) := by decide +kernel
theorem dX10_worthOf_118 : decode cX10_worthOf 118 = .ok (.iload 5, 2) := by decide +kernel
theorem dX10_worthOf_120 : decode cX10_worthOf 120 = .ok (.iload_n 2, 1) := by decide +kernel
theorem dX10_worthOf_121 : decode cX10_worthOf 121 = .ok (.if_icmp .ge 20, 3) := by decide +kernel
theorem dX10_worthOf_124 : decode cX10_worthOf 124 = .ok (.iload 4, 2) := by decide +kernel
theorem dX10_worthOf_126 : decode cX10_worthOf 126 = .ok (.ifCond .le 15, 3) := by decide +kernel
theorem dX10_worthOf_129 : decode cX10_worthOf 129 = .ok (.iload 4, 2) := by decide +kernel
theorem dX10_worthOf_131 : decode cX10_worthOf 131 = .ok (.iconst 2, 1) := by decide +kernel
theorem dX10_worthOf_132 : decode cX10_worthOf 132 = .ok (.idiv, 1) := by decide +kernel
theorem dX10_worthOf_133 : decode cX10_worthOf 133 = .ok (.istore 4, 2) := by decide +kernel
theorem dX10_worthOf_135 : decode cX10_worthOf 135 = .ok (.iinc 5 1, 3) := by decide +kernel
theorem dX10_worthOf_138 : decode cX10_worthOf 138 = .ok (.goto (-20), 3) := by decide +kernel
theorem dX10_worthOf_141 : decode cX10_worthOf 141 = .ok (.iload 4, 2) := by decide +kernel
theorem dX10_worthOf_143 : decode cX10_worthOf 143 = .ok (.ireturn, 1) := by decide +kernel
set_option maxRecDepth 20000 in
theorem ggX10_worth_X10_isLot : GoodIn wsX10_worth wsX10_isLot := goodIn_r _ [6, 7, 8, 9, 5, 10, 11, 12, 13, 14, 1, 24, 25, 26, 27, 28, 29, 30, 31, 32, 33, 34, 35, 36, 37, 38, 39, 40, 41, 42, 43, 44, 45, 46, 47, 48, 49, 50, 51, 52, 53, 54, 55, 56, 57, 58, 59, 60, 61, 62, 63, 64, 65, 66, 67, 68, 69, 70, 71, 72] (by decide +kernel) (by decide +kernel)
set_option maxRecDepth 20000 in
theorem gX10_worth_X10_isLot : GoodIn wsX10_worth (wsV RX10 126 RX10 yX10_isLot wsX10_isLot) := goodIn_app (goodIn_of _ (by decide +kernel)) ggX10_worth_X10_isLot
set_option maxRecDepth 20000 in
theorem ggX10_worth_X10_within : GoodIn wsX10_worth wsX10_within := goodIn_r _ [10] (by decide +kernel) (by decide +kernel)
set_option maxRecDepth 20000 in
theorem gX10_worth_X10_within : GoodIn wsX10_worth (va_wsS RX10 108 yX10_within wsX10_within) := goodIn_app (goodIn_of _ (by decide +kernel)) ggX10_worth_X10_within
set_option maxRecDepth 20000 in
theorem ggX10_worth_X10_may : GoodIn wsX10_worth wsX10_may := goodIn_r _ [14, 1, 24, 25, 26, 27, 28, 29, 30, 31, 32, 33, 34, 35, 36, 37, 38, 39, 40, 41, 42, 43, 44, 45, 46, 47, 48, 49, 50, 51, 52, 53, 54, 55, 56, 57, 58, 59, 60, 61, 62, 63, 64, 65, 66, 67, 68, 69, 70, 71, 72] (by decide +kernel) (by decide +kernel)
set_option maxRecDepth 20000 in
theorem gX10_worth_X10_may : GoodIn wsX10_worth (wsV RX10 112 RX10 yX10_may wsX10_may) := goodIn_app (goodIn_of _ (by decide +kernel)) ggX10_worth_X10_may
set_option maxRecDepth 20000 in
theorem ggX10_worth_X10_worthOf : GoodIn wsX10_worth wsX10_worthOf := goodIn_r _ [18, 19, 20, 21, 22, 23, 24, 25, 26, 27, 28, 29, 30, 31, 32, 33, 34, 35, 36, 37, 38, 39, 40, 41, 42, 43, 44, 45, 46, 47, 48, 49, 50, 51, 52, 53, 54, 55, 56, 57, 58, 59, 60, 61, 62, 63, 64, 65, 66, 67, 68, 69, 70, 71, 72] (by decide +kernel) (by decide +kernel)
set_option maxRecDepth 20000 in
theorem gX10_worth_X10_worthOf : GoodIn wsX10_worth (wsV RX10 130 RX10 yX10_worthOf wsX10_worthOf) := goodIn_app (goodIn_of _ (by decide +kernel)) ggX10_worth_X10_worthOf
theorem dX10_worth_0 : decode cX10_worth 0 = .ok (.aload_n 0, 1) := by decide +kernel
theorem dX10_worth_1 : decode cX10_worth 1 = .ok (.iconst 0, 1) := by decide +kernel
theorem dX10_worth_2 : decode cX10_worth 2 = .ok (.putfield 1, 3) := by decide +kernel
theorem dX10_worth_5 : decode cX10_worth 5 = .ok (.aload_n 0, 1) := by decide +kernel
theorem dX10_worth_6 : decode cX10_worth 6 = .ok (.iload_n 1, 1) := by decide +kernel
theorem dX10_worth_7 : decode cX10_worth 7 = .ok (.iconst 1, 1) := by decide +kernel
theorem dX10_worth_8 : decode cX10_worth 8 = .ok (.invokevirtual 126, 3) := by decide +kernel
theorem dX10_worth_11 : decode cX10_worth 11 = .ok (.ifCond .eq 30, 3) := by decide +kernel
theorem dX10_worth_14 : decode cX10_worth 14 = .ok (.aload_n 0, 1) := by decide +kernel
theorem dX10_worth_15 : decode cX10_worth 15 = .ok (.iload_n 2, 1) := by decide +kernel
theorem dX10_worth_16 : decode cX10_worth 16 = .ok (.sipush 1900, 3) := by decide +kernel
theorem dX10_worth_19 : decode cX10_worth 19 = .ok (.sipush 2300, 3) := by decide +kernel
theorem dX10_worth_22 : decode cX10_worth 22 = .ok (.invokestatic 108, 3) := by decide +kernel
theorem dX10_worth_25 : decode cX10_worth 25 = .ok (.iconst 2, 1) := by decide +kernel
theorem dX10_worth_26 : decode cX10_worth 26 = .ok (.invokevirtual 112, 3) := by decide +kernel
theorem dX10_worth_29 : decode cX10_worth 29 = .ok (.ifCond .eq 12, 3) := by decide +kernel
theorem dX10_worth_32 : decode cX10_worth 32 = .ok (.aload_n 0, 1) := by decide +kernel
theorem dX10_worth_33 : decode cX10_worth 33 = .ok (.iload_n 1, 1) := by decide +kernel
theorem dX10_worth_34 : decode cX10_worth 34 = .ok (.iload_n 2, 1) := by decide +kernel
theorem dX10_worth_35 : decode cX10_worth 35 = .ok (.invokevirtual 130, 3) := by decide +kernel
theorem dX10_worth_38 : decode cX10_worth 38 = .ok (.goto 4, 3) := by decide +kernel
theorem dX10_worth_41 : decode cX10_worth 41 = .ok (.iconst 0, 1) := by decide +kernel
theorem dX10_worth_42 : decode cX10_worth 42 = .ok (.ireturn, 1) := by decide +kernel
set_option maxRecDepth 20000 in
theorem ggX10_taste_X10_isLot : GoodIn wsX10_taste wsX10_isLot := goodIn_r _ [8, 9, 10, 11, 7, 12, 13, 14, 15, 16, 1, 22, 23, 24, 25, 26, 27, 28, 29, 30, 31, 32, 33, 34, 35, 36, 37, 38, 39, 40, 41, 42, 43, 44, 45, 46, 47, 48, 49, 50, 51, 52, 53, 54, 55, 56, 57, 58, 59, 60, 61, 62, 63, 64, 65, 66, 67, 68, 69, 70] (by decide +kernel) (by decide +kernel)
set_option maxRecDepth 20000 in
theorem gX10_taste_X10_isLot : GoodIn wsX10_taste (wsV RX10 126 RX10 yX10_isLot wsX10_isLot) := goodIn_app (goodIn_of _ (by decide +kernel)) ggX10_taste_X10_isLot
set_option maxRecDepth 20000 in
theorem ggX10_taste_X10_within : GoodIn wsX10_taste wsX10_within := goodIn_r _ [12] (by decide +kernel) (by decide +kernel)
set_option maxRecDepth 20000 in
theorem gX10_taste_X10_within : GoodIn wsX10_taste (va_wsS RX10 108 yX10_within wsX10_within) := goodIn_app (goodIn_of _ (by decide +kernel)) ggX10_taste_X10_within
set_option maxRecDepth 20000 in
theorem ggX10_taste_X10_may : GoodIn wsX10_taste wsX10_may := goodIn_r _ [16, 1, 22, 23, 24, 25, 26, 27, 28, 29, 30, 31, 32, 33, 34, 35, 36, 37, 38, 39, 40, 41, 42, 43, 44, 45, 46, 47, 48, 49, 50, 51, 52, 53, 54, 55, 56, 57, 58, 59, 60, 61, 62, 63, 64, 65, 66, 67, 68, 69, 70] (by decide +kernel) (by decide +kernel)
set_option maxRecDepth 20000 in
theorem gX10_taste_X10_may : GoodIn wsX10_taste (wsV RX10 112 RX10 yX10_may wsX10_may) := goodIn_app (goodIn_of _ (by decide +kernel)) ggX10_taste_X10_may
set_option maxRecDepth 20000 in
theorem ggX10_taste_X10_year : GoodIn wsX10_taste wsX10_year := goodIn_r _ [20, 21, 22, 23, 24, 25, 26, 27, 28, 29, 30, 31, 32, 33, 34, 35, 36, 37, 38, 39, 40, 41, 42, 43, 44, 45, 46, 47, 48, 49, 50, 51, 52, 53, 54, 55, 56, 57, 58, 59, 60, 61, 62, 63, 64, 65, 66, 67, 68, 69, 70] (by decide +kernel) (by decide +kernel)
set_option maxRecDepth 20000 in
theorem gX10_taste_X10_year : GoodIn wsX10_taste (wsV RX10 134 RX10 yX10_year wsX10_year) := goodIn_app (goodIn_of _ (by decide +kernel)) ggX10_taste_X10_year
theorem dX10_taste_0 : decode cX10_taste 0 = .ok (.aload_n 0, 1) := by decide +kernel
theorem dX10_taste_1 : decode cX10_taste 1 = .ok (.iconst 0, 1) := by decide +kernel
theorem dX10_taste_2 : decode cX10_taste 2 = .ok (.putfield 1, 3) := by decide +kernel
theorem dX10_taste_5 : decode cX10_taste 5 = .ok (.aload_n 0, 1) := by decide +kernel
theorem dX10_taste_6 : decode cX10_taste 6 = .ok (.iload_n 1, 1) := by decide +kernel
theorem dX10_taste_7 : decode cX10_taste 7 = .ok (.iconst 1, 1) := by decide +kernel
theorem dX10_taste_8 : decode cX10_taste 8 = .ok (.invokevirtual 126, 3) := by decide +kernel
theorem dX10_taste_11 : decode cX10_taste 11 = .ok (.ifCond .eq 17, 3) := by decide +kernel
theorem dX10_taste_14 : decode cX10_taste 14 = .ok (.aload_n 0, 1) := by decide +kernel
theorem dX10_taste_15 : decode cX10_taste 15 = .ok (.iload_n 2, 1) := by decide +kernel
theorem dX10_taste_16 : decode cX10_taste 16 = .ok (.iconst 0, 1) := by decide +kernel
theorem dX10_taste_17 : decode cX10_taste 17 = .ok (.iconst 3, 1) := by decide +kernel
theorem dX10_taste_18 : decode cX10_taste 18 = .ok (.invokestatic 108, 3) := by decide +kernel
theorem dX10_taste_21 : decode cX10_taste 21 = .ok (.iconst 2, 1) := by decide +kernel
theorem dX10_taste_22 : decode cX10_taste 22 = .ok (.invokevirtual 112, 3) := by decide +kernel
theorem dX10_taste_25 : decode cX10_taste 25 = .ok (.ifCond .ne 5, 3) := by decide +kernel
theorem dX10_taste_28 : decode cX10_taste 28 = .ok (.iconst 0, 1) := by decide +kernel
theorem dX10_taste_29 : decode cX10_taste 29 = .ok (.ireturn, 1) := by decide +kernel
theorem dX10_taste_30 : decode cX10_taste 30 = .ok (.aload_n 0, 1) := by decide +kernel
theorem dX10_taste_31 : decode cX10_taste 31 = .ok (.getfield 38, 3) := by decide +kernel
theorem dX10_taste_34 : decode cX10_taste 34 = .ok (.iload_n 1, 1) := by decide +kernel
theorem dX10_taste_35 : decode cX10_taste 35 = .ok (.iaload, 1) := by decide +kernel
theorem dX10_taste_36 : decode cX10_taste 36 = .ok (.istore_n 3, 1) := by decide +kernel
theorem dX10_taste_37 : decode cX10_taste 37 = .ok (.aload_n 0, 1) := by decide +kernel
theorem dX10_taste_38 : decode cX10_taste 38 = .ok (.getfield 41, 3) := by decide +kernel
theorem dX10_taste_41 : decode cX10_taste 41 = .ok (.iload_n 1, 1) := by decide +kernel
theorem dX10_taste_42 : decode cX10_taste 42 = .ok (.iaload, 1) := by decide +kernel
theorem dX10_taste_43 : decode cX10_taste 43 = .ok (.istore 4, 2) := by decide +kernel
theorem dX10_taste_45 : decode cX10_taste 45 = .ok (.aload_n 0, 1) := by decide +kernel
theorem dX10_taste_46 : decode cX10_taste 46 = .ok (.invokevirtual 134, 3) := by decide +kernel
theorem dX10_taste_49 : decode cX10_taste 49 = .ok (.istore 5, 2) := by decide +kernel
theorem dX10_taste_51 : decode cX10_taste 51 = .ok (.iload_n 2, 1) := by decide +kernel
theorem dX10_taste_52 : decode cX10_taste 52 = .ok (.tableswitch 115 0 2 #[28, 50, 71], 28) := by decide +kernel
theorem dX10_taste_80 : decode cX10_taste 80 = .ok (.aload_n 0, 1) := by decide +kernel
theorem dX10_taste_81 : decode cX10_taste 81 = .ok (.getfield 38, 3) := by decide +kernel
theorem dX10_taste_84 : decode cX10_taste 84 = .ok (.iload_n 1, 1) := by decide +kernel
theorem dX10_taste_85 : decode cX10_taste 85 = .ok (.iload_n 3, 1) := by decide +kernel
theorem dX10_taste_86 : decode cX10_taste 86 = .ok (.iload 4, 2) := by decide +kernel
theorem dX10_taste_88 : decode cX10_taste 88 = .ok (.if_icmp .ge 9, 3) := by decide +kernel
theorem dX10_taste_91 : decode cX10_taste 91 = .ok (.iload_n 3, 1) := by decide +kernel
theorem dX10_taste_92 : decode cX10_taste 92 = .ok (.iconst 1, 1) := by decide +kernel
theorem dX10_taste_93 : decode cX10_taste 93 = .ok (.iadd, 1) := by decide +kernel
theorem dX10_taste_94 : decode cX10_taste 94 = .ok (.goto 4, 3) := by decide +kernel
theorem dX10_taste_97 : decode cX10_taste 97 = .ok (.iload_n 3, 1) := by decide +kernel
theorem dX10_taste_98 : decode cX10_taste 98 = .ok (.iastore, 1) := by decide +kernel
theorem dX10_taste_99 : decode cX10_taste 99 = .ok (.goto 78, 3) := by decide +kernel
theorem dX10_taste_102 : decode cX10_taste 102 = .ok (.aload_n 0, 1) := by decide +kernel
theorem dX10_taste_103 : decode cX10_taste 103 = .ok (.getfield 38, 3) := by decide +kernel
theorem dX10_taste_106 : decode cX10_taste 106 = .ok (.iload_n 1, 1) := by decide +kernel
theorem dX10_taste_107 : decode cX10_taste 107 = .ok (.iload_n 3, 1) := by decide +kernel
theorem dX10_taste_108 : decode cX10_taste 108 = .ok (.iload 5, 2) := by decide +kernel
theorem dX10_taste_110 : decode cX10_taste 110 = .ok (.if_icmp .le 8, 3) := by decide +kernel
theorem dX10_taste_113 : decode cX10_taste 113 = .ok (.iload 5, 2) := by decide +kernel
theorem dX10_taste_115 : decode cX10_taste 115 = .ok (.goto 4, 3) := by decide +kernel
theorem dX10_taste_118 : decode cX10_taste 118 = .ok (.iload_n 3, 1) := by decide +kernel
theorem dX10_taste_119 : decode cX10_taste 119 = .ok (.iastore, 1) := by decide +kernel
theorem dX10_taste_120 : decode cX10_taste 120 = .ok (.goto 57, 3) := by decide +kernel
theorem dX10_taste_123 : decode cX10_taste 123 = .ok (.aload_n 0, 1) := by decide +kernel
theorem dX10_taste_124 : decode cX10_taste 124 = .ok (.getfield 41, 3) := by decide +kernel
theorem dX10_taste_127 : decode cX10_taste 127 = .ok (.iload_n 1, 1) := by decide +kernel
theorem dX10_taste_128 : decode cX10_taste 128 = .ok (.iload 4, 2) := by decide +kernel
theorem dX10_taste_130 : decode cX10_taste 130 = .ok (.iload 5, 2) := by decide +kernel
theorem dX10_taste_132 : decode cX10_taste 132 = .ok (.if_icmp .le 8, 3) := by decide +kernel
theorem dX10_taste_135 : decode cX10_taste 135 = .ok (.iload 5, 2) := by decide +kernel
theorem dX10_taste_137 : decode cX10_taste 137 = .ok (.goto 5, 3) := by decide +kernel
theorem dX10_taste_140 : decode cX10_taste 140 = .ok (.iload 4, 2) := by decide +kernel
theorem dX10_taste_142 : decode cX10_taste 142 = .ok (.iastore, 1) := by decide +kernel
theorem dX10_taste_143 : decode cX10_taste 143 = .ok (.iload 4, 2) := by decide +kernel
theorem dX10_taste_145 : decode cX10_taste 145 = .ok (.iload 5, 2) := by decide +kernel
theorem dX10_taste_147 : decode cX10_taste 147 = .ok (.if_icmp .le 30, 3) := by decide +kernel
theorem dX10_taste_150 : decode cX10_taste 150 = .ok (.iload_n 3, 1) := by decide +kernel
theorem dX10_taste_151 : decode cX10_taste 151 = .ok (.iload 5, 2) := by decide +kernel
theorem dX10_taste_153 : decode cX10_taste 153 = .ok (.if_icmp .le 24, 3) := by decide +kernel
theorem dX10_taste_156 : decode cX10_taste 156 = .ok (.aload_n 0, 1) := by decide +kernel
theorem dX10_taste_157 : decode cX10_taste 157 = .ok (.getfield 38, 3) := by decide +kernel
theorem dX10_taste_160 : decode cX10_taste 160 = .ok (.iload_n 1, 1) := by decide +kernel
theorem dX10_taste_161 : decode cX10_taste 161 = .ok (.iload 5, 2) := by decide +kernel
theorem dX10_taste_163 : decode cX10_taste 163 = .ok (.iastore, 1) := by decide +kernel
theorem dX10_taste_164 : decode cX10_taste 164 = .ok (.goto 13, 3) := by decide +kernel
theorem dX10_taste_167 : decode cX10_taste 167 = .ok (.aload_n 0, 1) := by decide +kernel
theorem dX10_taste_168 : decode cX10_taste 168 = .ok (.getfield 41, 3) := by decide +kernel
theorem dX10_taste_171 : decode cX10_taste 171 = .ok (.iload_n 1, 1) := by decide +kernel
theorem dX10_taste_172 : decode cX10_taste 172 = .ok (.iload 4, 2) := by decide +kernel
theorem dX10_taste_174 : decode cX10_taste 174 = .ok (.iconst 2, 1) := by decide +kernel
theorem dX10_taste_175 : decode cX10_taste 175 = .ok (.iadd, 1) := by decide +kernel
theorem dX10_taste_176 : decode cX10_taste 176 = .ok (.iastore, 1) := by decide +kernel
theorem dX10_taste_177 : decode cX10_taste 177 = .ok (.aload_n 0, 1) := by decide +kernel
theorem dX10_taste_178 : decode cX10_taste 178 = .ok (.getfield 38, 3) := by decide +kernel
theorem dX10_taste_181 : decode cX10_taste 181 = .ok (.iload_n 1, 1) := by decide +kernel
theorem dX10_taste_182 : decode cX10_taste 182 = .ok (.iaload, 1) := by decide +kernel
theorem dX10_taste_183 : decode cX10_taste 183 = .ok (.iload_n 3, 1) := by decide +kernel
theorem dX10_taste_184 : decode cX10_taste 184 = .ok (.if_icmp .ne 14, 3) := by decide +kernel
theorem dX10_taste_187 : decode cX10_taste 187 = .ok (.aload_n 0, 1) := by decide +kernel
theorem dX10_taste_188 : decode cX10_taste 188 = .ok (.getfield 41, 3) := by decide +kernel
theorem dX10_taste_191 : decode cX10_taste 191 = .ok (.iload_n 1, 1) := by decide +kernel
theorem dX10_taste_192 : decode cX10_taste 192 = .ok (.iaload, 1) := by decide +kernel
theorem dX10_taste_193 : decode cX10_taste 193 = .ok (.iload 4, 2) := by decide +kernel
theorem dX10_taste_195 : decode cX10_taste 195 = .ok (.if_icmp .eq 7, 3) := by decide +kernel
theorem dX10_taste_198 : decode cX10_taste 198 = .ok (.iconst 1, 1) := by decide +kernel
theorem dX10_taste_199 : decode cX10_taste 199 = .ok (.goto 4, 3) := by decide +kernel
theorem dX10_taste_202 : decode cX10_taste 202 = .ok (.iconst 0, 1) := by decide +kernel
theorem dX10_taste_203 : decode cX10_taste 203 = .ok (.ireturn, 1) := by decide +kernel
set_option maxRecDepth 20000 in
theorem ggX10_isCell_X10_within : GoodIn wsX10_isCell wsX10_within := goodIn_r _ [4] (by decide +kernel) (by decide +kernel)
set_option maxRecDepth 20000 in
theorem gX10_isCell_X10_within : GoodIn wsX10_isCell (va_wsS RX10 108 yX10_within wsX10_within) := goodIn_app (goodIn_of _ (by decide +kernel)) ggX10_isCell_X10_within
set_option maxRecDepth 20000 in
theorem ggX10_isCell_X10_may : GoodIn wsX10_isCell wsX10_may := goodIn_r _ [8, 9, 10, 11, 12, 13, 14, 15, 16, 17, 18, 19, 20, 21, 22, 23, 24, 25, 26, 27, 28, 29, 30, 31, 32, 33, 34, 35, 36, 37, 38, 39, 40, 41, 42, 43, 44, 45, 46, 47, 48, 49, 50, 51, 52, 53, 54, 55, 56, 57, 58] (by decide +kernel) (by decide +kernel)
set_option maxRecDepth 20000 in
theorem gX10_isCell_X10_may : GoodIn wsX10_isCell (wsV RX10 112 RX10 yX10_may wsX10_may) := goodIn_app (goodIn_of _ (by decide +kernel)) ggX10_isCell_X10_may
theorem dX10_isCell_0 : decode cX10_isCell 0 = .ok (.aload_n 0, 1) := by decide +kernel
theorem dX10_isCell_1 : decode cX10_isCell 1 = .ok (.iload_n 1, 1) := by decide +kernel
theorem dX10_isCell_2 : decode cX10_isCell 2 = .ok (.iconst 0, 1) := by decide +kernel
theorem dX10_isCell_3 : decode cX10_isCell 3 = .ok (.bipush 29, 2) := by decide +kernel
theorem dX10_isCell_5 : decode cX10_isCell 5 = .ok (.invokestatic 108, 3) := by decide +kernel
theorem dX10_isCell_8 : decode cX10_isCell 8 = .ok (.iconst 1, 1) := by decide +kernel
theorem dX10_isCell_9 : decode cX10_isCell 9 = .ok (.invokevirtual 112, 3) := by decide +kernel
theorem dX10_isCell_12 : decode cX10_isCell 12 = .ok (.ireturn, 1) := by decide +kernel
theorem dX10_adds_0 : decode cX10_adds 0 = .ok (.aload_n 0, 1) := by decide +kernel
theorem dX10_adds_1 : decode cX10_adds 1 = .ok (.getfield 47, 3) := by decide +kernel
theorem dX10_adds_4 : decode cX10_adds 4 = .ok (.iload_n 1, 1) := by decide +kernel
theorem dX10_adds_5 : decode cX10_adds 5 = .ok (.dup2, 1) := by decide +kernel
theorem dX10_adds_6 : decode cX10_adds 6 = .ok (.iaload, 1) := by decide +kernel
theorem dX10_adds_7 : decode cX10_adds 7 = .ok (.iload_n 3, 1) := by decide +kernel
theorem dX10_adds_8 : decode cX10_adds 8 = .ok (.iadd, 1) := by decide +kernel
theorem dX10_adds_9 : decode cX10_adds 9 = .ok (.iastore, 1) := by decide +kernel
theorem dX10_adds_10 : decode cX10_adds 10 = .ok (.aload_n 0, 1) := by decide +kernel
theorem dX10_adds_11 : decode cX10_adds 11 = .ok (.getfield 44, 3) := by decide +kernel
theorem dX10_adds_14 : decode cX10_adds 14 = .ok (.iload_n 1, 1) := by decide +kernel
theorem dX10_adds_15 : decode cX10_adds 15 = .ok (.aload_n 0, 1) := by decide +kernel
theorem dX10_adds_16 : decode cX10_adds 16 = .ok (.getfield 47, 3) := by decide +kernel
theorem dX10_adds_19 : decode cX10_adds 19 = .ok (.iload_n 1, 1) := by decide +kernel
theorem dX10_adds_20 : decode cX10_adds 20 = .ok (.iaload, 1) := by decide +kernel
theorem dX10_adds_21 : decode cX10_adds 21 = .ok (.ifCond .ne 7, 3) := by decide +kernel
theorem dX10_adds_24 : decode cX10_adds 24 = .ok (.iconst (-1), 1) := by decide +kernel
theorem dX10_adds_25 : decode cX10_adds 25 = .ok (.goto 4, 3) := by decide +kernel
theorem dX10_adds_28 : decode cX10_adds 28 = .ok (.iload_n 2, 1) := by decide +kernel
theorem dX10_adds_29 : decode cX10_adds 29 = .ok (.iastore, 1) := by decide +kernel
theorem dX10_adds_30 : decode cX10_adds 30 = .ok (.return_, 1) := by decide +kernel
set_option maxRecDepth 20000 in
theorem ggX10_put_X10_isCell : GoodIn wsX10_put wsX10_isCell := goodIn_r _ [9, 10, 11, 8, 12, 13, 14, 15, 16, 1, 26, 27, 28, 29, 30, 31, 32, 33, 34, 35, 36, 37, 38, 39, 40, 41, 42, 43, 44, 45, 46, 47, 48, 49, 50, 51, 52, 53, 54, 55, 56, 57, 58, 59, 60, 61, 62, 63, 64, 65, 66, 67, 68, 69, 70, 71, 72, 73, 74] (by decide +kernel) (by decide +kernel)
set_option maxRecDepth 20000 in
theorem gX10_put_X10_isCell : GoodIn wsX10_put (wsV RX10 138 RX10 yX10_isCell wsX10_isCell) := goodIn_app (goodIn_of _ (by decide +kernel)) ggX10_put_X10_isCell
set_option maxRecDepth 20000 in
theorem ggX10_put_X10_isLot : GoodIn wsX10_put wsX10_isLot := goodIn_r _ [20, 21, 10, 11, 8, 12, 13, 14, 15, 16, 1, 26, 27, 28, 29, 30, 31, 32, 33, 34, 35, 36, 37, 38, 39, 40, 41, 42, 43, 44, 45, 46, 47, 48, 49, 50, 51, 52, 53, 54, 55, 56, 57, 58, 59, 60, 61, 62, 63, 64, 65, 66, 67, 68, 69, 70, 71, 72, 73, 74] (by decide +kernel) (by decide +kernel)
set_option maxRecDepth 20000 in
theorem gX10_put_X10_isLot : GoodIn wsX10_put (wsV RX10 126 RX10 yX10_isLot wsX10_isLot) := goodIn_app (goodIn_of _ (by decide +kernel)) ggX10_put_X10_isLot
set_option maxRecDepth 20000 in
theorem ggX10_put_X10_within : GoodIn wsX10_put wsX10_within := goodIn_r _ [12] (by decide +kernel) (by decide +kernel)
set_option maxRecDepth 20000 in
theorem gX10_put_X10_within : GoodIn wsX10_put (va_wsS RX10 108 yX10_within wsX10_within) := goodIn_app (goodIn_of _ (by decide +kernel)) ggX10_put_X10_within
set_option maxRecDepth 20000 in
theorem ggX10_put_X10_may : GoodIn wsX10_put wsX10_may := goodIn_r _ [16, 1, 26, 27, 28, 29, 30, 31, 32, 33, 34, 35, 36, 37, 38, 39, 40, 41, 42, 43, 44, 45, 46, 47, 48, 49, 50, 51, 52, 53, 54, 55, 56, 57, 58, 59, 60, 61, 62, 63, 64, 65, 66, 67, 68, 69, 70, 71, 72, 73, 74] (by decide +kernel) (by decide +kernel)
set_option maxRecDepth 20000 in
theorem gX10_put_X10_may : GoodIn wsX10_put (wsV RX10 112 RX10 yX10_may wsX10_may) := goodIn_app (goodIn_of _ (by decide +kernel)) ggX10_put_X10_may
set_option maxRecDepth 20000 in
theorem ggX10_put_X10_adds : GoodIn wsX10_put wsX10_adds := goodIn_r _ [25, 3, 2, 26, 27, 28, 29, 30, 31, 32, 33, 34, 35, 36, 37, 38, 39, 40, 41, 42, 43, 44, 45, 46, 47, 48, 49, 50, 51, 52, 53, 54, 55, 56, 57, 58, 59, 60, 61, 62, 63, 64, 65, 66, 67, 68, 69, 70, 71, 72, 73, 74] (by decide +kernel) (by decide +kernel)
set_option maxRecDepth 20000 in
theorem gX10_put_X10_adds : GoodIn wsX10_put (wsV RX10 142 RX10 yX10_adds wsX10_adds) := goodIn_app (goodIn_of _ (by decide +kernel)) ggX10_put_X10_adds
theorem dX10_put_0 : decode cX10_put 0 = .ok (.aload_n 0, 1) := by decide +kernel
theorem dX10_put_1 : decode cX10_put 1 = .ok (.iconst 0, 1) := by decide +kernel
theorem dX10_put_2 : decode cX10_put 2 = .ok (.putfield 1, 3) := by decide +kernel
theorem dX10_put_5 : decode cX10_put 5 = .ok (.aload_n 0, 1) := by decide +kernel
theorem dX10_put_6 : decode cX10_put 6 = .ok (.iload_n 1, 1) := by decide +kernel
theorem dX10_put_7 : decode cX10_put 7 = .ok (.invokevirtual 138, 3) := by decide +kernel
theorem dX10_put_10 : decode cX10_put 10 = .ok (.ifCond .eq 27, 3) := by decide +kernel
theorem dX10_put_13 : decode cX10_put 13 = .ok (.aload_n 0, 1) := by decide +kernel
theorem dX10_put_14 : decode cX10_put 14 = .ok (.iload_n 2, 1) := by decide +kernel
theorem dX10_put_15 : decode cX10_put 15 = .ok (.iconst 2, 1) := by decide +kernel
theorem dX10_put_16 : decode cX10_put 16 = .ok (.invokevirtual 126, 3) := by decide +kernel
theorem dX10_put_19 : decode cX10_put 19 = .ok (.ifCond .eq 18, 3) := by decide +kernel
theorem dX10_put_22 : decode cX10_put 22 = .ok (.aload_n 0, 1) := by decide +kernel
theorem dX10_put_23 : decode cX10_put 23 = .ok (.iload_n 3, 1) := by decide +kernel
theorem dX10_put_24 : decode cX10_put 24 = .ok (.iconst 1, 1) := by decide +kernel
theorem dX10_put_25 : decode cX10_put 25 = .ok (.bipush 12, 2) := by decide +kernel
theorem dX10_put_27 : decode cX10_put 27 = .ok (.invokestatic 108, 3) := by decide +kernel
theorem dX10_put_30 : decode cX10_put 30 = .ok (.iconst 3, 1) := by decide +kernel
theorem dX10_put_31 : decode cX10_put 31 = .ok (.invokevirtual 112, 3) := by decide +kernel
theorem dX10_put_34 : decode cX10_put 34 = .ok (.ifCond .ne 5, 3) := by decide +kernel
theorem dX10_put_37 : decode cX10_put 37 = .ok (.iconst 0, 1) := by decide +kernel
theorem dX10_put_38 : decode cX10_put 38 = .ok (.ireturn, 1) := by decide +kernel
theorem dX10_put_39 : decode cX10_put 39 = .ok (.aload_n 0, 1) := by decide +kernel
theorem dX10_put_40 : decode cX10_put 40 = .ok (.getfield 44, 3) := by decide +kernel
theorem dX10_put_43 : decode cX10_put 43 = .ok (.iload_n 1, 1) := by decide +kernel
theorem dX10_put_44 : decode cX10_put 44 = .ok (.iaload, 1) := by decide +kernel
theorem dX10_put_45 : decode cX10_put 45 = .ok (.iconst (-1), 1) := by decide +kernel
theorem dX10_put_46 : decode cX10_put 46 = .ok (.if_icmp .eq 15, 3) := by decide +kernel
theorem dX10_put_49 : decode cX10_put 49 = .ok (.aload_n 0, 1) := by decide +kernel
theorem dX10_put_50 : decode cX10_put 50 = .ok (.getfield 44, 3) := by decide +kernel
theorem dX10_put_53 : decode cX10_put 53 = .ok (.iload_n 1, 1) := by decide +kernel
theorem dX10_put_54 : decode cX10_put 54 = .ok (.iaload, 1) := by decide +kernel
theorem dX10_put_55 : decode cX10_put 55 = .ok (.iload_n 2, 1) := by decide +kernel
theorem dX10_put_56 : decode cX10_put 56 = .ok (.if_icmp .eq 5, 3) := by decide +kernel
theorem dX10_put_59 : decode cX10_put 59 = .ok (.iconst (-1), 1) := by decide +kernel
theorem dX10_put_60 : decode cX10_put 60 = .ok (.ireturn, 1) := by decide +kernel
theorem dX10_put_61 : decode cX10_put 61 = .ok (.aload_n 0, 1) := by decide +kernel
theorem dX10_put_62 : decode cX10_put 62 = .ok (.getfield 47, 3) := by decide +kernel
theorem dX10_put_65 : decode cX10_put 65 = .ok (.iload_n 1, 1) := by decide +kernel
theorem dX10_put_66 : decode cX10_put 66 = .ok (.iaload, 1) := by decide +kernel
theorem dX10_put_67 : decode cX10_put 67 = .ok (.iload_n 3, 1) := by decide +kernel
theorem dX10_put_68 : decode cX10_put 68 = .ok (.iadd, 1) := by decide +kernel
theorem dX10_put_69 : decode cX10_put 69 = .ok (.bipush 12, 2) := by decide +kernel
theorem dX10_put_71 : decode cX10_put 71 = .ok (.if_icmp .le 6, 3) := by decide +kernel
theorem dX10_put_74 : decode cX10_put 74 = .ok (.bipush (-2), 2) := by decide +kernel
theorem dX10_put_76 : decode cX10_put 76 = .ok (.ireturn, 1) := by decide +kernel
theorem dX10_put_77 : decode cX10_put 77 = .ok (.aload_n 0, 1) := by decide +kernel
theorem dX10_put_78 : decode cX10_put 78 = .ok (.iload_n 1, 1) := by decide +kernel
theorem dX10_put_79 : decode cX10_put 79 = .ok (.iload_n 2, 1) := by decide +kernel
theorem dX10_put_80 : decode cX10_put 80 = .ok (.iload_n 3, 1) := by decide +kernel
theorem dX10_put_81 : decode cX10_put 81 = .ok (.invokevirtual 142, 3) := by decide +kernel
theorem dX10_put_84 : decode cX10_put 84 = .ok (.aload_n 0, 1) := by decide +kernel
theorem dX10_put_85 : decode cX10_put 85 = .ok (.dup, 1) := by decide +kernel
theorem dX10_put_86 : decode cX10_put 86 = .ok (.getfield 146, 3) := by decide +kernel
theorem dX10_put_89 : decode cX10_put 89 = .ok (.iload_n 3, 1) := by decide +kernel
theorem dX10_put_90 : decode cX10_put 90 = .ok (.iadd, 1) := by decide +kernel
theorem dX10_put_91 : decode cX10_put 91 = .ok (.putfield 146, 3) := by decide +kernel
theorem dX10_put_94 : decode cX10_put 94 = .ok (.aload_n 0, 1) := by decide +kernel
theorem dX10_put_95 : decode cX10_put 95 = .ok (.getfield 47, 3) := by decide +kernel
theorem dX10_put_98 : decode cX10_put 98 = .ok (.iload_n 1, 1) := by decide +kernel
theorem dX10_put_99 : decode cX10_put 99 = .ok (.iaload, 1) := by decide +kernel
theorem dX10_put_100 : decode cX10_put 100 = .ok (.ireturn, 1) := by decide +kernel
set_option maxRecDepth 20000 in
theorem ggX10_move_X10_isCell : GoodIn wsX10_move wsX10_isCell := goodIn_r _ [8, 9, 10, 7, 11, 12, 13, 14, 15, 1, 20, 21, 22, 23, 24, 25, 26, 27, 28, 29, 30, 31, 32, 33, 34, 35, 36, 37, 38, 39, 40, 41, 42, 43, 44, 45, 46, 47, 48, 49, 50, 51, 52, 53, 54, 55, 56, 57, 58, 59, 60, 61, 62, 63, 64, 65, 66, 67, 68] (by decide +kernel) (by decide +kernel)
set_option maxRecDepth 20000 in
theorem gX10_move_X10_isCell : GoodIn wsX10_move (wsV RX10 138 RX10 yX10_isCell wsX10_isCell) := goodIn_app (goodIn_of _ (by decide +kernel)) ggX10_move_X10_isCell
set_option maxRecDepth 20000 in
theorem ggX10_move_X10_may : GoodIn wsX10_move wsX10_may := goodIn_r _ [15, 1, 20, 21, 22, 23, 24, 25, 26, 27, 28, 29, 30, 31, 32, 33, 34, 35, 36, 37, 38, 39, 40, 41, 42, 43, 44, 45, 46, 47, 48, 49, 50, 51, 52, 53, 54, 55, 56, 57, 58, 59, 60, 61, 62, 63, 64, 65, 66, 67, 68] (by decide +kernel) (by decide +kernel)
set_option maxRecDepth 20000 in
theorem gX10_move_X10_may : GoodIn wsX10_move (wsV RX10 112 RX10 yX10_may wsX10_may) := goodIn_app (goodIn_of _ (by decide +kernel)) ggX10_move_X10_may
set_option maxRecDepth 20000 in
theorem ggX10_move_X10_adds : GoodIn wsX10_move wsX10_adds := goodIn_r _ [19, 2, 3, 20, 21, 22, 23, 24, 25, 26, 27, 28, 29, 30, 31, 32, 33, 34, 35, 36, 37, 38, 39, 40, 41, 42, 43, 44, 45, 46, 47, 48, 49, 50, 51, 52, 53, 54, 55, 56, 57, 58, 59, 60, 61, 62, 63, 64, 65, 66, 67, 68] (by decide +kernel) (by decide +kernel)
set_option maxRecDepth 20000 in
theorem gX10_move_X10_adds : GoodIn wsX10_move (wsV RX10 142 RX10 yX10_adds wsX10_adds) := goodIn_app (goodIn_of _ (by decide +kernel)) ggX10_move_X10_adds
theorem dX10_move_0 : decode cX10_move 0 = .ok (.aload_n 0, 1) := by decide +kernel
theorem dX10_move_1 : decode cX10_move 1 = .ok (.iconst 0, 1) := by decide +kernel
theorem dX10_move_2 : decode cX10_move 2 = .ok (.putfield 1, 3) := by decide +kernel
theorem dX10_move_5 : decode cX10_move 5 = .ok (.aload_n 0, 1) := by decide +kernel
theorem dX10_move_6 : decode cX10_move 6 = .ok (.iload_n 1, 1) := by decide +kernel
theorem dX10_move_7 : decode cX10_move 7 = .ok (.invokevirtual 138, 3) := by decide +kernel
theorem dX10_move_10 : decode cX10_move 10 = .ok (.ifCond .eq 34, 3) := by decide +kernel
theorem dX10_move_13 : decode cX10_move 13 = .ok (.aload_n 0, 1) := by decide +kernel
theorem dX10_move_14 : decode cX10_move 14 = .ok (.iload_n 2, 1) := by decide +kernel
theorem dX10_move_15 : decode cX10_move 15 = .ok (.invokevirtual 138, 3) := by decide +kernel
theorem dX10_move_18 : decode cX10_move 18 = .ok (.ifCond .eq 26, 3) := by decide +kernel
theorem dX10_move_21 : decode cX10_move 21 = .ok (.aload_n 0, 1) := by decide +kernel
theorem dX10_move_22 : decode cX10_move 22 = .ok (.iload_n 1, 1) := by decide +kernel
theorem dX10_move_23 : decode cX10_move 23 = .ok (.iload_n 2, 1) := by decide +kernel
theorem dX10_move_24 : decode cX10_move 24 = .ok (.if_icmp .eq 12, 3) := by decide +kernel
theorem dX10_move_27 : decode cX10_move 27 = .ok (.iload_n 3, 1) := by decide +kernel
theorem dX10_move_28 : decode cX10_move 28 = .ok (.iconst 1, 1) := by decide +kernel
theorem dX10_move_29 : decode cX10_move 29 = .ok (.if_icmp .lt 7, 3) := by decide +kernel
theorem dX10_move_32 : decode cX10_move 32 = .ok (.iconst 1, 1) := by decide +kernel
theorem dX10_move_33 : decode cX10_move 33 = .ok (.goto 4, 3) := by decide +kernel
theorem dX10_move_36 : decode cX10_move 36 = .ok (.iconst 0, 1) := by decide +kernel
theorem dX10_move_37 : decode cX10_move 37 = .ok (.iconst 2, 1) := by decide +kernel
theorem dX10_move_38 : decode cX10_move 38 = .ok (.invokevirtual 112, 3) := by decide +kernel
theorem dX10_move_41 : decode cX10_move 41 = .ok (.ifCond .ne 5, 3) := by decide +kernel
theorem dX10_move_44 : decode cX10_move 44 = .ok (.iconst 0, 1) := by decide +kernel
theorem dX10_move_45 : decode cX10_move 45 = .ok (.ireturn, 1) := by decide +kernel
theorem dX10_move_46 : decode cX10_move 46 = .ok (.aload_n 0, 1) := by decide +kernel
theorem dX10_move_47 : decode cX10_move 47 = .ok (.getfield 47, 3) := by decide +kernel
theorem dX10_move_50 : decode cX10_move 50 = .ok (.iload_n 1, 1) := by decide +kernel
theorem dX10_move_51 : decode cX10_move 51 = .ok (.iaload, 1) := by decide +kernel
theorem dX10_move_52 : decode cX10_move 52 = .ok (.iload_n 3, 1) := by decide +kernel
theorem dX10_move_53 : decode cX10_move 53 = .ok (.if_icmp .ge 5, 3) := by decide +kernel
theorem dX10_move_56 : decode cX10_move 56 = .ok (.iconst (-1), 1) := by decide +kernel
theorem dX10_move_57 : decode cX10_move 57 = .ok (.ireturn, 1) := by decide +kernel
theorem dX10_move_58 : decode cX10_move 58 = .ok (.aload_n 0, 1) := by decide +kernel
theorem dX10_move_59 : decode cX10_move 59 = .ok (.getfield 44, 3) := by decide +kernel
theorem dX10_move_62 : decode cX10_move 62 = .ok (.iload_n 1, 1) := by decide +kernel
theorem dX10_move_63 : decode cX10_move 63 = .ok (.iaload, 1) := by decide +kernel
theorem dX10_move_64 : decode cX10_move 64 = .ok (.istore 4, 2) := by decide +kernel
theorem dX10_move_66 : decode cX10_move 66 = .ok (.aload_n 0, 1) := by decide +kernel
theorem dX10_move_67 : decode cX10_move 67 = .ok (.getfield 44, 3) := by decide +kernel
theorem dX10_move_70 : decode cX10_move 70 = .ok (.iload_n 2, 1) := by decide +kernel
theorem dX10_move_71 : decode cX10_move 71 = .ok (.iaload, 1) := by decide +kernel
theorem dX10_move_72 : decode cX10_move 72 = .ok (.iconst (-1), 1) := by decide +kernel
theorem dX10_move_73 : decode cX10_move 73 = .ok (.if_icmp .eq 17, 3) := by decide +kernel
theorem dX10_move_76 : decode cX10_move 76 = .ok (.aload_n 0, 1) := by decide +kernel
theorem dX10_move_77 : decode cX10_move 77 = .ok (.getfield 44, 3) := by decide +kernel
theorem dX10_move_80 : decode cX10_move 80 = .ok (.iload_n 2, 1) := by decide +kernel
theorem dX10_move_81 : decode cX10_move 81 = .ok (.iaload, 1) := by decide +kernel
theorem dX10_move_82 : decode cX10_move 82 = .ok (.iload 4, 2) := by decide +kernel
theorem dX10_move_84 : decode cX10_move 84 = .ok (.if_icmp .eq 6, 3) := by decide +kernel
theorem dX10_move_87 : decode cX10_move 87 = .ok (.bipush (-2), 2) := by decide +kernel
theorem dX10_move_89 : decode cX10_move 89 = .ok (.ireturn, 1) := by decide +kernel
theorem dX10_move_90 : decode cX10_move 90 = .ok (.aload_n 0, 1) := by decide +kernel
theorem dX10_move_91 : decode cX10_move 91 = .ok (.getfield 47, 3) := by decide +kernel
theorem dX10_move_94 : decode cX10_move 94 = .ok (.iload_n 2, 1) := by decide +kernel
theorem dX10_move_95 : decode cX10_move 95 = .ok (.iaload, 1) := by decide +kernel
theorem dX10_move_96 : decode cX10_move 96 = .ok (.iload_n 3, 1) := by decide +kernel
theorem dX10_move_97 : decode cX10_move 97 = .ok (.iadd, 1) := by decide +kernel
theorem dX10_move_98 : decode cX10_move 98 = .ok (.bipush 12, 2) := by decide +kernel
theorem dX10_move_100 : decode cX10_move 100 = .ok (.if_icmp .le 6, 3) := by decide +kernel
theorem dX10_move_103 : decode cX10_move 103 = .ok (.bipush (-3), 2) := by decide +kernel
theorem dX10_move_105 : decode cX10_move 105 = .ok (.ireturn, 1) := by decide +kernel
theorem dX10_move_106 : decode cX10_move 106 = .ok (.aload_n 0, 1) := by decide +kernel
theorem dX10_move_107 : decode cX10_move 107 = .ok (.iload_n 1, 1) := by decide +kernel
theorem dX10_move_108 : decode cX10_move 108 = .ok (.iload 4, 2) := by decide +kernel
theorem dX10_move_110 : decode cX10_move 110 = .ok (.iload_n 3, 1) := by decide +kernel
theorem dX10_move_111 : decode cX10_move 111 = .ok (.ineg, 1) := by decide +kernel
theorem dX10_move_112 : decode cX10_move 112 = .ok (.invokevirtual 142, 3) := by decide +kernel
theorem dX10_move_115 : decode cX10_move 115 = .ok (.aload_n 0, 1) := by decide +kernel
theorem dX10_move_116 : decode cX10_move 116 = .ok (.iload_n 2, 1) := by decide +kernel
theorem dX10_move_117 : decode cX10_move 117 = .ok (.iload 4, 2) := by decide +kernel
theorem dX10_move_119 : decode cX10_move 119 = .ok (.iload_n 3, 1) := by decide +kernel
theorem dX10_move_120 : decode cX10_move 120 = .ok (.invokevirtual 142, 3) := by decide +kernel
theorem dX10_move_123 : decode cX10_move 123 = .ok (.aload_n 0, 1) := by decide +kernel
theorem dX10_move_124 : decode cX10_move 124 = .ok (.getfield 47, 3) := by decide +kernel
theorem dX10_move_127 : decode cX10_move 127 = .ok (.iload_n 2, 1) := by decide +kernel
theorem dX10_move_128 : decode cX10_move 128 = .ok (.iaload, 1) := by decide +kernel
theorem dX10_move_129 : decode cX10_move 129 = .ok (.ireturn, 1) := by decide +kernel
set_option maxRecDepth 20000 in
theorem ggX10_cell_X10_isCell : GoodIn wsX10_cell wsX10_isCell := goodIn_r _ [8, 9, 10, 7, 11, 12, 13, 14, 15, 1, 16, 17, 18, 19, 20, 21, 22, 23, 24, 25, 26, 27, 28, 29, 30, 31, 32, 33, 34, 35, 36, 37, 38, 39, 40, 41, 42, 43, 44, 45, 46, 47, 48, 49, 50, 51, 52, 53, 54, 55, 56, 57, 58, 59, 60, 61, 62, 63, 64] (by decide +kernel) (by decide +kernel)
set_option maxRecDepth 20000 in
theorem gX10_cell_X10_isCell : GoodIn wsX10_cell (wsV RX10 138 RX10 yX10_isCell wsX10_isCell) := goodIn_app (goodIn_of _ (by decide +kernel)) ggX10_cell_X10_isCell
set_option maxRecDepth 20000 in
theorem ggX10_cell_X10_within : GoodIn wsX10_cell wsX10_within := goodIn_r _ [11] (by decide +kernel) (by decide +kernel)
set_option maxRecDepth 20000 in
theorem gX10_cell_X10_within : GoodIn wsX10_cell (va_wsS RX10 108 yX10_within wsX10_within) := goodIn_app (goodIn_of _ (by decide +kernel)) ggX10_cell_X10_within
set_option maxRecDepth 20000 in
theorem ggX10_cell_X10_may : GoodIn wsX10_cell wsX10_may := goodIn_r _ [15, 1, 16, 17, 18, 19, 20, 21, 22, 23, 24, 25, 26, 27, 28, 29, 30, 31, 32, 33, 34, 35, 36, 37, 38, 39, 40, 41, 42, 43, 44, 45, 46, 47, 48, 49, 50, 51, 52, 53, 54, 55, 56, 57, 58, 59, 60, 61, 62, 63, 64] (by decide +kernel) (by decide +kernel)
set_option maxRecDepth 20000 in
theorem gX10_cell_X10_may : GoodIn wsX10_cell (wsV RX10 112 RX10 yX10_may wsX10_may) := goodIn_app (goodIn_of _ (by decide +kernel)) ggX10_cell_X10_may
theorem dX10_cell_0 : decode cX10_cell 0 = .ok (.aload_n 0, 1) := by decide +kernel
theorem dX10_cell_1 : decode cX10_cell 1 = .ok (.iconst 0, 1) := by decide +kernel
theorem dX10_cell_2 : decode cX10_cell 2 = .ok (.putfield 1, 3) := by decide +kernel
theorem dX10_cell_5 : decode cX10_cell 5 = .ok (.aload_n 0, 1) := by decide +kernel
theorem dX10_cell_6 : decode cX10_cell 6 = .ok (.iload_n 1, 1) := by decide +kernel
theorem dX10_cell_7 : decode cX10_cell 7 = .ok (.invokevirtual 138, 3) := by decide +kernel
theorem dX10_cell_10 : decode cX10_cell 10 = .ok (.ifCond .eq 17, 3) := by decide +kernel
theorem dX10_cell_13 : decode cX10_cell 13 = .ok (.aload_n 0, 1) := by decide +kernel
theorem dX10_cell_14 : decode cX10_cell 14 = .ok (.iload_n 2, 1) := by decide +kernel
theorem dX10_cell_15 : decode cX10_cell 15 = .ok (.iconst 0, 1) := by decide +kernel
theorem dX10_cell_16 : decode cX10_cell 16 = .ok (.iconst 1, 1) := by decide +kernel
theorem dX10_cell_17 : decode cX10_cell 17 = .ok (.invokestatic 108, 3) := by decide +kernel
theorem dX10_cell_20 : decode cX10_cell 20 = .ok (.iconst 2, 1) := by decide +kernel
theorem dX10_cell_21 : decode cX10_cell 21 = .ok (.invokevirtual 112, 3) := by decide +kernel
theorem dX10_cell_24 : decode cX10_cell 24 = .ok (.ifCond .ne 5, 3) := by decide +kernel
theorem dX10_cell_27 : decode cX10_cell 27 = .ok (.iconst 0, 1) := by decide +kernel
theorem dX10_cell_28 : decode cX10_cell 28 = .ok (.ireturn, 1) := by decide +kernel
theorem dX10_cell_29 : decode cX10_cell 29 = .ok (.iload_n 2, 1) := by decide +kernel
theorem dX10_cell_30 : decode cX10_cell 30 = .ok (.ifCond .ne 12, 3) := by decide +kernel
theorem dX10_cell_33 : decode cX10_cell 33 = .ok (.aload_n 0, 1) := by decide +kernel
theorem dX10_cell_34 : decode cX10_cell 34 = .ok (.getfield 44, 3) := by decide +kernel
theorem dX10_cell_37 : decode cX10_cell 37 = .ok (.iload_n 1, 1) := by decide +kernel
theorem dX10_cell_38 : decode cX10_cell 38 = .ok (.iaload, 1) := by decide +kernel
theorem dX10_cell_39 : decode cX10_cell 39 = .ok (.goto 9, 3) := by decide +kernel
theorem dX10_cell_42 : decode cX10_cell 42 = .ok (.aload_n 0, 1) := by decide +kernel
theorem dX10_cell_43 : decode cX10_cell 43 = .ok (.getfield 47, 3) := by decide +kernel
theorem dX10_cell_46 : decode cX10_cell 46 = .ok (.iload_n 1, 1) := by decide +kernel
theorem dX10_cell_47 : decode cX10_cell 47 = .ok (.iaload, 1) := by decide +kernel
theorem dX10_cell_48 : decode cX10_cell 48 = .ok (.ireturn, 1) := by decide +kernel
theorem dX10_bottlesOf_0 : decode cX10_bottlesOf 0 = .ok (.iconst 0, 1) := by decide +kernel
theorem dX10_bottlesOf_1 : decode cX10_bottlesOf 1 = .ok (.istore_n 2, 1) := by decide +kernel
theorem dX10_bottlesOf_2 : decode cX10_bottlesOf 2 = .ok (.iconst 0, 1) := by decide +kernel
theorem dX10_bottlesOf_3 : decode cX10_bottlesOf 3 = .ok (.istore_n 3, 1) := by decide +kernel
theorem dX10_bottlesOf_4 : decode cX10_bottlesOf 4 = .ok (.iload_n 3, 1) := by decide +kernel
theorem dX10_bottlesOf_5 : decode cX10_bottlesOf 5 = .ok (.bipush 30, 2) := by decide +kernel
theorem dX10_bottlesOf_7 : decode cX10_bottlesOf 7 = .ok (.if_icmp .ge 32, 3) := by decide +kernel
theorem dX10_bottlesOf_10 : decode cX10_bottlesOf 10 = .ok (.iload_n 2, 1) := by decide +kernel
theorem dX10_bottlesOf_11 : decode cX10_bottlesOf 11 = .ok (.aload_n 0, 1) := by decide +kernel
theorem dX10_bottlesOf_12 : decode cX10_bottlesOf 12 = .ok (.getfield 44, 3) := by decide +kernel
theorem dX10_bottlesOf_15 : decode cX10_bottlesOf 15 = .ok (.iload_n 3, 1) := by decide +kernel
theorem dX10_bottlesOf_16 : decode cX10_bottlesOf 16 = .ok (.iaload, 1) := by decide +kernel
theorem dX10_bottlesOf_17 : decode cX10_bottlesOf 17 = .ok (.iload_n 1, 1) := by decide +kernel
theorem dX10_bottlesOf_18 : decode cX10_bottlesOf 18 = .ok (.if_icmp .ne 12, 3) := by decide +kernel
theorem dX10_bottlesOf_21 : decode cX10_bottlesOf 21 = .ok (.aload_n 0, 1) := by decide +kernel
theorem dX10_bottlesOf_22 : decode cX10_bottlesOf 22 = .ok (.getfield 47, 3) := by decide +kernel
theorem dX10_bottlesOf_25 : decode cX10_bottlesOf 25 = .ok (.iload_n 3, 1) := by decide +kernel
theorem dX10_bottlesOf_26 : decode cX10_bottlesOf 26 = .ok (.iaload, 1) := by decide +kernel
theorem dX10_bottlesOf_27 : decode cX10_bottlesOf 27 = .ok (.goto 4, 3) := by decide +kernel
theorem dX10_bottlesOf_30 : decode cX10_bottlesOf 30 = .ok (.iconst 0, 1) := by decide +kernel
theorem dX10_bottlesOf_31 : decode cX10_bottlesOf 31 = .ok (.iadd, 1) := by decide +kernel
theorem dX10_bottlesOf_32 : decode cX10_bottlesOf 32 = .ok (.istore_n 2, 1) := by decide +kernel
theorem dX10_bottlesOf_33 : decode cX10_bottlesOf 33 = .ok (.iinc 3 1, 3) := by decide +kernel
theorem dX10_bottlesOf_36 : decode cX10_bottlesOf 36 = .ok (.goto (-32), 3) := by decide +kernel
theorem dX10_bottlesOf_39 : decode cX10_bottlesOf 39 = .ok (.iload_n 2, 1) := by decide +kernel
theorem dX10_bottlesOf_40 : decode cX10_bottlesOf 40 = .ok (.ireturn, 1) := by decide +kernel
set_option maxRecDepth 20000 in
theorem ggX10_told_X10_isLot : GoodIn wsX10_told wsX10_isLot := goodIn_r _ [14, 15, 16, 17, 13, 18, 19, 20, 21, 22, 1, 29, 30, 31, 32, 33, 34, 35, 36, 37, 38, 39, 40, 41, 42, 43, 44, 45, 46, 47, 48, 49, 50, 51, 52, 53, 54, 55, 56, 57, 58, 59, 60, 61, 62, 63, 64, 65, 66, 67, 68, 69, 70, 71, 72, 73, 74, 75, 76, 77] (by decide +kernel) (by decide +kernel)
set_option maxRecDepth 20000 in
theorem gX10_told_X10_isLot : GoodIn wsX10_told (wsV RX10 126 RX10 yX10_isLot wsX10_isLot) := goodIn_app (goodIn_of _ (by decide +kernel)) ggX10_told_X10_isLot
set_option maxRecDepth 20000 in
theorem ggX10_told_X10_within : GoodIn wsX10_told wsX10_within := goodIn_r _ [18] (by decide +kernel) (by decide +kernel)
set_option maxRecDepth 20000 in
theorem gX10_told_X10_within : GoodIn wsX10_told (va_wsS RX10 108 yX10_within wsX10_within) := goodIn_app (goodIn_of _ (by decide +kernel)) ggX10_told_X10_within
set_option maxRecDepth 20000 in
theorem ggX10_told_X10_may : GoodIn wsX10_told wsX10_may := goodIn_r _ [22, 1, 29, 30, 31, 32, 33, 34, 35, 36, 37, 38, 39, 40, 41, 42, 43, 44, 45, 46, 47, 48, 49, 50, 51, 52, 53, 54, 55, 56, 57, 58, 59, 60, 61, 62, 63, 64, 65, 66, 67, 68, 69, 70, 71, 72, 73, 74, 75, 76, 77] (by decide +kernel) (by decide +kernel)
set_option maxRecDepth 20000 in
theorem gX10_told_X10_may : GoodIn wsX10_told (wsV RX10 112 RX10 yX10_may wsX10_may) := goodIn_app (goodIn_of _ (by decide +kernel)) ggX10_told_X10_may
set_option maxRecDepth 20000 in
theorem ggX10_told_X10_bottlesOf : GoodIn wsX10_told wsX10_bottlesOf := goodIn_r _ [26, 27, 28, 29, 30, 31, 32, 33, 34, 35, 36, 37, 38, 39, 40, 41, 42, 43, 44, 45, 46, 47, 48, 49, 50, 51, 52, 53, 54, 55, 56, 57, 58, 59, 60, 61, 62, 63, 64, 65, 66, 67, 68, 69, 70, 71, 72, 73, 74, 75, 76, 77] (by decide +kernel) (by decide +kernel)
set_option maxRecDepth 20000 in
theorem gX10_told_X10_bottlesOf : GoodIn wsX10_told (wsV RX10 152 RX10 yX10_bottlesOf wsX10_bottlesOf) := goodIn_app (goodIn_of _ (by decide +kernel)) ggX10_told_X10_bottlesOf
theorem dX10_told_0 : decode cX10_told 0 = .ok (.aload_n 0, 1) := by decide +kernel
theorem dX10_told_1 : decode cX10_told 1 = .ok (.iconst 0, 1) := by decide +kernel
theorem dX10_told_2 : decode cX10_told 2 = .ok (.putfield 1, 3) := by decide +kernel
theorem dX10_told_5 : decode cX10_told 5 = .ok (.aload_n 0, 1) := by decide +kernel
theorem dX10_told_6 : decode cX10_told 6 = .ok (.iload_n 1, 1) := by decide +kernel
theorem dX10_told_7 : decode cX10_told 7 = .ok (.iconst 1, 1) := by decide +kernel
theorem dX10_told_8 : decode cX10_told 8 = .ok (.invokevirtual 126, 3) := by decide +kernel
theorem dX10_told_11 : decode cX10_told 11 = .ok (.ifCond .eq 18, 3) := by decide +kernel
theorem dX10_told_14 : decode cX10_told 14 = .ok (.aload_n 0, 1) := by decide +kernel
theorem dX10_told_15 : decode cX10_told 15 = .ok (.iload_n 2, 1) := by decide +kernel
theorem dX10_told_16 : decode cX10_told 16 = .ok (.iconst 0, 1) := by decide +kernel
theorem dX10_told_17 : decode cX10_told 17 = .ok (.bipush 7, 2) := by decide +kernel
theorem dX10_told_19 : decode cX10_told 19 = .ok (.invokestatic 108, 3) := by decide +kernel
theorem dX10_told_22 : decode cX10_told 22 = .ok (.iconst 2, 1) := by decide +kernel
theorem dX10_told_23 : decode cX10_told 23 = .ok (.invokevirtual 112, 3) := by decide +kernel
theorem dX10_told_26 : decode cX10_told 26 = .ok (.ifCond .ne 5, 3) := by decide +kernel
theorem dX10_told_29 : decode cX10_told 29 = .ok (.iconst 0, 1) := by decide +kernel
theorem dX10_told_30 : decode cX10_told 30 = .ok (.ireturn, 1) := by decide +kernel
theorem dX10_told_31 : decode cX10_told 31 = .ok (.iconst 0, 1) := by decide +kernel
theorem dX10_told_32 : decode cX10_told 32 = .ok (.istore_n 3, 1) := by decide +kernel
theorem dX10_told_33 : decode cX10_told 33 = .ok (.iconst 0, 1) := by decide +kernel
theorem dX10_told_34 : decode cX10_told 34 = .ok (.istore 4, 2) := by decide +kernel
theorem dX10_told_36 : decode cX10_told 36 = .ok (.iconst 0, 1) := by decide +kernel
theorem dX10_told_37 : decode cX10_told 37 = .ok (.istore 5, 2) := by decide +kernel
theorem dX10_told_39 : decode cX10_told 39 = .ok (.iload 5, 2) := by decide +kernel
theorem dX10_told_41 : decode cX10_told 41 = .ok (.aload_n 0, 1) := by decide +kernel
theorem dX10_told_42 : decode cX10_told 42 = .ok (.getfield 149, 3) := by decide +kernel
theorem dX10_told_45 : decode cX10_told 45 = .ok (.if_icmp .ge 55, 3) := by decide +kernel
theorem dX10_told_48 : decode cX10_told 48 = .ok (.iload_n 3, 1) := by decide +kernel
theorem dX10_told_49 : decode cX10_told 49 = .ok (.aload_n 0, 1) := by decide +kernel
theorem dX10_told_50 : decode cX10_told 50 = .ok (.getfield 50, 3) := by decide +kernel
theorem dX10_told_53 : decode cX10_told 53 = .ok (.iload 5, 2) := by decide +kernel
theorem dX10_told_55 : decode cX10_told 55 = .ok (.iaload, 1) := by decide +kernel
theorem dX10_told_56 : decode cX10_told 56 = .ok (.iload_n 1, 1) := by decide +kernel
theorem dX10_told_57 : decode cX10_told 57 = .ok (.if_icmp .ne 7, 3) := by decide +kernel
theorem dX10_told_60 : decode cX10_told 60 = .ok (.iconst 1, 1) := by decide +kernel
theorem dX10_told_61 : decode cX10_told 61 = .ok (.goto 4, 3) := by decide +kernel
theorem dX10_told_64 : decode cX10_told 64 = .ok (.iconst 0, 1) := by decide +kernel
theorem dX10_told_65 : decode cX10_told 65 = .ok (.iadd, 1) := by decide +kernel
theorem dX10_told_66 : decode cX10_told 66 = .ok (.istore_n 3, 1) := by decide +kernel
theorem dX10_told_67 : decode cX10_told 67 = .ok (.iload 4, 2) := by decide +kernel
theorem dX10_told_69 : decode cX10_told 69 = .ok (.aload_n 0, 1) := by decide +kernel
theorem dX10_told_70 : decode cX10_told 70 = .ok (.getfield 50, 3) := by decide +kernel
theorem dX10_told_73 : decode cX10_told 73 = .ok (.iload 5, 2) := by decide +kernel
theorem dX10_told_75 : decode cX10_told 75 = .ok (.iaload, 1) := by decide +kernel
theorem dX10_told_76 : decode cX10_told 76 = .ok (.iload_n 1, 1) := by decide +kernel
theorem dX10_told_77 : decode cX10_told 77 = .ok (.if_icmp .ne 13, 3) := by decide +kernel
theorem dX10_told_80 : decode cX10_told 80 = .ok (.aload_n 0, 1) := by decide +kernel
theorem dX10_told_81 : decode cX10_told 81 = .ok (.getfield 56, 3) := by decide +kernel
theorem dX10_told_84 : decode cX10_told 84 = .ok (.iload 5, 2) := by decide +kernel
theorem dX10_told_86 : decode cX10_told 86 = .ok (.iaload, 1) := by decide +kernel
theorem dX10_told_87 : decode cX10_told 87 = .ok (.goto 4, 3) := by decide +kernel
theorem dX10_told_90 : decode cX10_told 90 = .ok (.iconst 0, 1) := by decide +kernel
theorem dX10_told_91 : decode cX10_told 91 = .ok (.iadd, 1) := by decide +kernel
theorem dX10_told_92 : decode cX10_told 92 = .ok (.istore 4, 2) := by decide +kernel
theorem dX10_told_94 : decode cX10_told 94 = .ok (.iinc 5 1, 3) := by decide +kernel
theorem dX10_told_97 : decode cX10_told 97 = .ok (.goto (-58), 3) := by decide +kernel
theorem dX10_told_100 : decode cX10_told 100 = .ok (.iload_n 2, 1) := by decide +kernel
theorem dX10_told_101 : decode cX10_told 101 = .ok (.tableswitch 86 0 6 #[43, 50, 57, 64, 71, 78, 84], 43) := by decide +kernel
theorem dX10_told_144 : decode cX10_told 144 = .ok (.aload_n 0, 1) := by decide +kernel
theorem dX10_told_145 : decode cX10_told 145 = .ok (.getfield 29, 3) := by decide +kernel
theorem dX10_told_148 : decode cX10_told 148 = .ok (.iload_n 1, 1) := by decide +kernel
theorem dX10_told_149 : decode cX10_told 149 = .ok (.iaload, 1) := by decide +kernel
theorem dX10_told_150 : decode cX10_told 150 = .ok (.ireturn, 1) := by decide +kernel
theorem dX10_told_151 : decode cX10_told 151 = .ok (.aload_n 0, 1) := by decide +kernel
theorem dX10_told_152 : decode cX10_told 152 = .ok (.getfield 32, 3) := by decide +kernel
theorem dX10_told_155 : decode cX10_told 155 = .ok (.iload_n 1, 1) := by decide +kernel
theorem dX10_told_156 : decode cX10_told 156 = .ok (.iaload, 1) := by decide +kernel
theorem dX10_told_157 : decode cX10_told 157 = .ok (.ireturn, 1) := by decide +kernel
theorem dX10_told_158 : decode cX10_told 158 = .ok (.aload_n 0, 1) := by decide +kernel
theorem dX10_told_159 : decode cX10_told 159 = .ok (.getfield 35, 3) := by decide +kernel
theorem dX10_told_162 : decode cX10_told 162 = .ok (.iload_n 1, 1) := by decide +kernel
theorem dX10_told_163 : decode cX10_told 163 = .ok (.iaload, 1) := by decide +kernel
theorem dX10_told_164 : decode cX10_told 164 = .ok (.ireturn, 1) := by decide +kernel
theorem dX10_told_165 : decode cX10_told 165 = .ok (.aload_n 0, 1) := by decide +kernel
theorem dX10_told_166 : decode cX10_told 166 = .ok (.getfield 38, 3) := by decide +kernel
theorem dX10_told_169 : decode cX10_told 169 = .ok (.iload_n 1, 1) := by decide +kernel
theorem dX10_told_170 : decode cX10_told 170 = .ok (.iaload, 1) := by decide +kernel
theorem dX10_told_171 : decode cX10_told 171 = .ok (.ireturn, 1) := by decide +kernel
theorem dX10_told_172 : decode cX10_told 172 = .ok (.aload_n 0, 1) := by decide +kernel
theorem dX10_told_173 : decode cX10_told 173 = .ok (.getfield 41, 3) := by decide +kernel
theorem dX10_told_176 : decode cX10_told 176 = .ok (.iload_n 1, 1) := by decide +kernel
theorem dX10_told_177 : decode cX10_told 177 = .ok (.iaload, 1) := by decide +kernel
theorem dX10_told_178 : decode cX10_told 178 = .ok (.ireturn, 1) := by decide +kernel
theorem dX10_told_179 : decode cX10_told 179 = .ok (.aload_n 0, 1) := by decide +kernel
theorem dX10_told_180 : decode cX10_told 180 = .ok (.iload_n 1, 1) := by decide +kernel
theorem dX10_told_181 : decode cX10_told 181 = .ok (.invokevirtual 152, 3) := by decide +kernel
theorem dX10_told_184 : decode cX10_told 184 = .ok (.ireturn, 1) := by decide +kernel
theorem dX10_told_185 : decode cX10_told 185 = .ok (.iload_n 3, 1) := by decide +kernel
theorem dX10_told_186 : decode cX10_told 186 = .ok (.ireturn, 1) := by decide +kernel
theorem dX10_told_187 : decode cX10_told 187 = .ok (.iload 4, 2) := by decide +kernel
theorem dX10_told_189 : decode cX10_told 189 = .ok (.ireturn, 1) := by decide +kernel
set_option maxRecDepth 20000 in
theorem ggX10_find_X10_isLot : GoodIn wsX10_find wsX10_isLot := goodIn_r _ [7, 8, 9, 10, 6, 11, 12, 13, 14, 15, 1, 16, 17, 18, 19, 20, 21, 22, 23, 24, 25, 26, 27, 28, 29, 30, 31, 32, 33, 34, 35, 36, 37, 38, 39, 40, 41, 42, 43, 44, 45, 46, 47, 48, 49, 50, 51, 52, 53, 54, 55, 56, 57, 58, 59, 60, 61, 62, 63, 64] (by decide +kernel) (by decide +kernel)
set_option maxRecDepth 20000 in
theorem gX10_find_X10_isLot : GoodIn wsX10_find (wsV RX10 126 RX10 yX10_isLot wsX10_isLot) := goodIn_app (goodIn_of _ (by decide +kernel)) ggX10_find_X10_isLot
theorem dX10_find_0 : decode cX10_find 0 = .ok (.aload_n 0, 1) := by decide +kernel
theorem dX10_find_1 : decode cX10_find 1 = .ok (.iconst 0, 1) := by decide +kernel
theorem dX10_find_2 : decode cX10_find 2 = .ok (.putfield 1, 3) := by decide +kernel
theorem dX10_find_5 : decode cX10_find 5 = .ok (.aload_n 0, 1) := by decide +kernel
theorem dX10_find_6 : decode cX10_find 6 = .ok (.iload_n 1, 1) := by decide +kernel
theorem dX10_find_7 : decode cX10_find 7 = .ok (.iconst 1, 1) := by decide +kernel
theorem dX10_find_8 : decode cX10_find 8 = .ok (.invokevirtual 126, 3) := by decide +kernel
theorem dX10_find_11 : decode cX10_find 11 = .ok (.ifCond .ne 5, 3) := by decide +kernel
theorem dX10_find_14 : decode cX10_find 14 = .ok (.iconst 0, 1) := by decide +kernel
theorem dX10_find_15 : decode cX10_find 15 = .ok (.ireturn, 1) := by decide +kernel
theorem dX10_find_16 : decode cX10_find 16 = .ok (.iconst 0, 1) := by decide +kernel
theorem dX10_find_17 : decode cX10_find 17 = .ok (.istore_n 3, 1) := by decide +kernel
theorem dX10_find_18 : decode cX10_find 18 = .ok (.iconst 0, 1) := by decide +kernel
theorem dX10_find_19 : decode cX10_find 19 = .ok (.istore 4, 2) := by decide +kernel
theorem dX10_find_21 : decode cX10_find 21 = .ok (.iload 4, 2) := by decide +kernel
theorem dX10_find_23 : decode cX10_find 23 = .ok (.bipush 30, 2) := by decide +kernel
theorem dX10_find_25 : decode cX10_find 25 = .ok (.if_icmp .ge 34, 3) := by decide +kernel
theorem dX10_find_28 : decode cX10_find 28 = .ok (.aload_n 0, 1) := by decide +kernel
theorem dX10_find_29 : decode cX10_find 29 = .ok (.getfield 44, 3) := by decide +kernel
theorem dX10_find_32 : decode cX10_find 32 = .ok (.iload 4, 2) := by decide +kernel
theorem dX10_find_34 : decode cX10_find 34 = .ok (.iaload, 1) := by decide +kernel
theorem dX10_find_35 : decode cX10_find 35 = .ok (.iload_n 1, 1) := by decide +kernel
theorem dX10_find_36 : decode cX10_find 36 = .ok (.if_icmp .eq 6, 3) := by decide +kernel
theorem dX10_find_39 : decode cX10_find 39 = .ok (.goto 14, 3) := by decide +kernel
theorem dX10_find_42 : decode cX10_find 42 = .ok (.iload_n 3, 1) := by decide +kernel
theorem dX10_find_43 : decode cX10_find 43 = .ok (.iload_n 2, 1) := by decide +kernel
theorem dX10_find_44 : decode cX10_find 44 = .ok (.if_icmp .ne 6, 3) := by decide +kernel
theorem dX10_find_47 : decode cX10_find 47 = .ok (.iload 4, 2) := by decide +kernel
theorem dX10_find_49 : decode cX10_find 49 = .ok (.ireturn, 1) := by decide +kernel
theorem dX10_find_50 : decode cX10_find 50 = .ok (.iinc 3 1, 3) := by decide +kernel
theorem dX10_find_53 : decode cX10_find 53 = .ok (.iinc 4 1, 3) := by decide +kernel
theorem dX10_find_56 : decode cX10_find 56 = .ok (.goto (-35), 3) := by decide +kernel
theorem dX10_find_59 : decode cX10_find 59 = .ok (.iconst (-1), 1) := by decide +kernel
theorem dX10_find_60 : decode cX10_find 60 = .ok (.ireturn, 1) := by decide +kernel
set_option maxRecDepth 20000 in
theorem ggX10_isForSale_X10_year : GoodIn wsX10_isForSale wsX10_year := goodIn_r _ [9, 10, 11, 12, 13, 14, 15, 16, 17, 18, 19, 20, 21, 22, 23, 24, 25, 26, 27, 28, 29, 30, 31, 32, 33, 34, 35, 36, 37, 38, 39, 40, 41, 42, 43, 44, 45, 46, 47, 48, 49, 50, 51, 52, 53, 54, 55, 56, 57, 58, 59] (by decide +kernel) (by decide +kernel)
set_option maxRecDepth 20000 in
theorem gX10_isForSale_X10_year : GoodIn wsX10_isForSale (wsV RX10 134 RX10 yX10_year wsX10_year) := goodIn_app (goodIn_of _ (by decide +kernel)) ggX10_isForSale_X10_year
theorem dX10_isForSale_0 : decode cX10_isForSale 0 = .ok (.aload_n 0, 1) := by decide +kernel
theorem dX10_isForSale_1 : decode cX10_isForSale 1 = .ok (.invokevirtual 134, 3) := by decide +kernel
theorem dX10_isForSale_4 : decode cX10_isForSale 4 = .ok (.aload_n 0, 1) := by decide +kernel
theorem dX10_isForSale_5 : decode cX10_isForSale 5 = .ok (.getfield 38, 3) := by decide +kernel
theorem dX10_isForSale_8 : decode cX10_isForSale 8 = .ok (.iload_n 1, 1) := by decide +kernel
theorem dX10_isForSale_9 : decode cX10_isForSale 9 = .ok (.iaload, 1) := by decide +kernel
theorem dX10_isForSale_10 : decode cX10_isForSale 10 = .ok (.if_icmp .lt 35, 3) := by decide +kernel
theorem dX10_isForSale_13 : decode cX10_isForSale 13 = .ok (.aload_n 0, 1) := by decide +kernel
theorem dX10_isForSale_14 : decode cX10_isForSale 14 = .ok (.invokevirtual 134, 3) := by decide +kernel
theorem dX10_isForSale_17 : decode cX10_isForSale 17 = .ok (.aload_n 0, 1) := by decide +kernel
theorem dX10_isForSale_18 : decode cX10_isForSale 18 = .ok (.getfield 41, 3) := by decide +kernel
theorem dX10_isForSale_21 : decode cX10_isForSale 21 = .ok (.iload_n 1, 1) := by decide +kernel
theorem dX10_isForSale_22 : decode cX10_isForSale 22 = .ok (.iaload, 1) := by decide +kernel
theorem dX10_isForSale_23 : decode cX10_isForSale 23 = .ok (.if_icmp .le 18, 3) := by decide +kernel
theorem dX10_isForSale_26 : decode cX10_isForSale 26 = .ok (.aload_n 0, 1) := by decide +kernel
theorem dX10_isForSale_27 : decode cX10_isForSale 27 = .ok (.getfield 13, 3) := by decide +kernel
theorem dX10_isForSale_30 : decode cX10_isForSale 30 = .ok (.aload_n 0, 1) := by decide +kernel
theorem dX10_isForSale_31 : decode cX10_isForSale 31 = .ok (.getfield 29, 3) := by decide +kernel
theorem dX10_isForSale_34 : decode cX10_isForSale 34 = .ok (.iload_n 1, 1) := by decide +kernel
theorem dX10_isForSale_35 : decode cX10_isForSale 35 = .ok (.iaload, 1) := by decide +kernel
theorem dX10_isForSale_36 : decode cX10_isForSale 36 = .ok (.iaload, 1) := by decide +kernel
theorem dX10_isForSale_37 : decode cX10_isForSale 37 = .ok (.iconst 2, 1) := by decide +kernel
theorem dX10_isForSale_38 : decode cX10_isForSale 38 = .ok (.if_icmp .ne 7, 3) := by decide +kernel
theorem dX10_isForSale_41 : decode cX10_isForSale 41 = .ok (.iconst 1, 1) := by decide +kernel
theorem dX10_isForSale_42 : decode cX10_isForSale 42 = .ok (.goto 4, 3) := by decide +kernel
theorem dX10_isForSale_45 : decode cX10_isForSale 45 = .ok (.iconst 0, 1) := by decide +kernel
theorem dX10_isForSale_46 : decode cX10_isForSale 46 = .ok (.ireturn, 1) := by decide +kernel
set_option maxRecDepth 20000 in
theorem ggX10_sell_X10_isCell : GoodIn wsX10_sell wsX10_isCell := goodIn_r _ [9, 10, 11, 8, 12, 13, 14, 15, 16, 1, 40, 41, 42, 43, 44, 45, 46, 47, 48, 49, 50, 51, 52, 53, 54, 55, 56, 57, 58, 59, 60, 61, 62, 63, 64, 65, 66, 67, 68, 69, 70, 71, 72, 73, 74, 75, 76, 77, 78, 79, 80, 81, 82, 83, 84, 85, 86, 87, 88] (by decide +kernel) (by decide +kernel)
set_option maxRecDepth 20000 in
theorem gX10_sell_X10_isCell : GoodIn wsX10_sell (wsV RX10 138 RX10 yX10_isCell wsX10_isCell) := goodIn_app (goodIn_of _ (by decide +kernel)) ggX10_sell_X10_isCell
set_option maxRecDepth 20000 in
theorem ggX10_sell_X10_isForSale : GoodIn wsX10_sell wsX10_isForSale := goodIn_r _ [20, 21, 22, 23, 24, 25, 26, 27, 8, 28, 29, 40, 41, 42, 43, 44, 45, 46, 47, 48, 49, 50, 51, 52, 53, 54, 55, 56, 57, 58, 59, 60, 61, 62, 63, 64, 65, 66, 67, 68, 69, 70, 71, 72, 73, 74, 75, 76, 77, 78, 79, 80, 81, 82, 83, 84, 85, 86, 87, 88] (by decide +kernel) (by decide +kernel)
set_option maxRecDepth 20000 in
theorem gX10_sell_X10_isForSale : GoodIn wsX10_sell (wsV RX10 156 RX10 yX10_isForSale wsX10_isForSale) := goodIn_app (goodIn_of _ (by decide +kernel)) ggX10_sell_X10_isForSale
set_option maxRecDepth 20000 in
theorem ggX10_sell_X10_adds : GoodIn wsX10_sell wsX10_adds := goodIn_r _ [33, 34, 2, 40, 41, 42, 43, 44, 45, 46, 47, 48, 49, 50, 51, 52, 53, 54, 55, 56, 57, 58, 59, 60, 61, 62, 63, 64, 65, 66, 67, 68, 69, 70, 71, 72, 73, 74, 75, 76, 77, 78, 79, 80, 81, 82, 83, 84, 85, 86, 87, 88] (by decide +kernel) (by decide +kernel)
set_option maxRecDepth 20000 in
theorem gX10_sell_X10_adds : GoodIn wsX10_sell (wsV RX10 142 RX10 yX10_adds wsX10_adds) := goodIn_app (goodIn_of _ (by decide +kernel)) ggX10_sell_X10_adds
set_option maxRecDepth 20000 in
theorem ggX10_sell_X10_year : GoodIn wsX10_sell wsX10_year := goodIn_r _ [28, 29, 40, 41, 42, 43, 44, 45, 46, 47, 48, 49, 50, 51, 52, 53, 54, 55, 56, 57, 58, 59, 60, 61, 62, 63, 64, 65, 66, 67, 68, 69, 70, 71, 72, 73, 74, 75, 76, 77, 78, 79, 80, 81, 82, 83, 84, 85, 86, 87, 88] (by decide +kernel) (by decide +kernel)
set_option maxRecDepth 20000 in
theorem gX10_sell_X10_year : GoodIn wsX10_sell (wsV RX10 134 RX10 yX10_year wsX10_year) := goodIn_app (goodIn_of _ (by decide +kernel)) ggX10_sell_X10_year
set_option maxRecDepth 20000 in
theorem ggX10_sell_X10_worthOf : GoodIn wsX10_sell wsX10_worthOf := goodIn_r _ [38, 21, 39, 22, 23, 24, 40, 41, 42, 43, 44, 45, 46, 47, 48, 49, 50, 51, 52, 53, 54, 55, 56, 57, 58, 59, 60, 61, 62, 63, 64, 65, 66, 67, 68, 69, 70, 71, 72, 73, 74, 75, 76, 77, 78, 79, 80, 81, 82, 83, 84, 85, 86, 87, 88] (by decide +kernel) (by decide +kernel)
set_option maxRecDepth 20000 in
theorem gX10_sell_X10_worthOf : GoodIn wsX10_sell (wsV RX10 130 RX10 yX10_worthOf wsX10_worthOf) := goodIn_app (goodIn_of _ (by decide +kernel)) ggX10_sell_X10_worthOf
theorem dX10_sell_0 : decode cX10_sell 0 = .ok (.aload_n 0, 1) := by decide +kernel
theorem dX10_sell_1 : decode cX10_sell 1 = .ok (.iconst 0, 1) := by decide +kernel
theorem dX10_sell_2 : decode cX10_sell 2 = .ok (.putfield 1, 3) := by decide +kernel
theorem dX10_sell_5 : decode cX10_sell 5 = .ok (.aload_n 0, 1) := by decide +kernel
theorem dX10_sell_6 : decode cX10_sell 6 = .ok (.iload_n 1, 1) := by decide +kernel
theorem dX10_sell_7 : decode cX10_sell 7 = .ok (.invokevirtual 138, 3) := by decide +kernel
theorem dX10_sell_10 : decode cX10_sell 10 = .ok (.ifCond .ne 5, 3) := by decide +kernel
theorem dX10_sell_13 : decode cX10_sell 13 = .ok (.iconst 0, 1) := by decide +kernel
theorem dX10_sell_14 : decode cX10_sell 14 = .ok (.ireturn, 1) := by decide +kernel
theorem dX10_sell_15 : decode cX10_sell 15 = .ok (.aload_n 0, 1) := by decide +kernel
theorem dX10_sell_16 : decode cX10_sell 16 = .ok (.getfield 44, 3) := by decide +kernel
theorem dX10_sell_19 : decode cX10_sell 19 = .ok (.iload_n 1, 1) := by decide +kernel
theorem dX10_sell_20 : decode cX10_sell 20 = .ok (.iaload, 1) := by decide +kernel
theorem dX10_sell_21 : decode cX10_sell 21 = .ok (.istore_n 2, 1) := by decide +kernel
theorem dX10_sell_22 : decode cX10_sell 22 = .ok (.iload_n 2, 1) := by decide +kernel
theorem dX10_sell_23 : decode cX10_sell 23 = .ok (.iconst (-1), 1) := by decide +kernel
theorem dX10_sell_24 : decode cX10_sell 24 = .ok (.if_icmp .ne 5, 3) := by decide +kernel
theorem dX10_sell_27 : decode cX10_sell 27 = .ok (.iconst (-1), 1) := by decide +kernel
theorem dX10_sell_28 : decode cX10_sell 28 = .ok (.ireturn, 1) := by decide +kernel
theorem dX10_sell_29 : decode cX10_sell 29 = .ok (.aload_n 0, 1) := by decide +kernel
theorem dX10_sell_30 : decode cX10_sell 30 = .ok (.iload_n 2, 1) := by decide +kernel
theorem dX10_sell_31 : decode cX10_sell 31 = .ok (.invokevirtual 156, 3) := by decide +kernel
theorem dX10_sell_34 : decode cX10_sell 34 = .ok (.ifCond .ne 6, 3) := by decide +kernel
theorem dX10_sell_37 : decode cX10_sell 37 = .ok (.bipush (-2), 2) := by decide +kernel
theorem dX10_sell_39 : decode cX10_sell 39 = .ok (.ireturn, 1) := by decide +kernel
theorem dX10_sell_40 : decode cX10_sell 40 = .ok (.aload_n 0, 1) := by decide +kernel
theorem dX10_sell_41 : decode cX10_sell 41 = .ok (.iload_n 1, 1) := by decide +kernel
theorem dX10_sell_42 : decode cX10_sell 42 = .ok (.iload_n 2, 1) := by decide +kernel
theorem dX10_sell_43 : decode cX10_sell 43 = .ok (.iconst (-1), 1) := by decide +kernel
theorem dX10_sell_44 : decode cX10_sell 44 = .ok (.invokevirtual 142, 3) := by decide +kernel
theorem dX10_sell_47 : decode cX10_sell 47 = .ok (.aload_n 0, 1) := by decide +kernel
theorem dX10_sell_48 : decode cX10_sell 48 = .ok (.dup, 1) := by decide +kernel
theorem dX10_sell_49 : decode cX10_sell 49 = .ok (.getfield 159, 3) := by decide +kernel
theorem dX10_sell_52 : decode cX10_sell 52 = .ok (.iconst 1, 1) := by decide +kernel
theorem dX10_sell_53 : decode cX10_sell 53 = .ok (.iadd, 1) := by decide +kernel
theorem dX10_sell_54 : decode cX10_sell 54 = .ok (.putfield 159, 3) := by decide +kernel
theorem dX10_sell_57 : decode cX10_sell 57 = .ok (.aload_n 0, 1) := by decide +kernel
theorem dX10_sell_58 : decode cX10_sell 58 = .ok (.dup, 1) := by decide +kernel
theorem dX10_sell_59 : decode cX10_sell 59 = .ok (.getfield 162, 3) := by decide +kernel
theorem dX10_sell_62 : decode cX10_sell 62 = .ok (.aload_n 0, 1) := by decide +kernel
theorem dX10_sell_63 : decode cX10_sell 63 = .ok (.iload_n 2, 1) := by decide +kernel
theorem dX10_sell_64 : decode cX10_sell 64 = .ok (.aload_n 0, 1) := by decide +kernel
theorem dX10_sell_65 : decode cX10_sell 65 = .ok (.invokevirtual 134, 3) := by decide +kernel
theorem dX10_sell_68 : decode cX10_sell 68 = .ok (.invokevirtual 130, 3) := by decide +kernel
theorem dX10_sell_71 : decode cX10_sell 71 = .ok (.i2l, 1) := by decide +kernel
theorem dX10_sell_72 : decode cX10_sell 72 = .ok (.ladd, 1) := by decide +kernel
theorem dX10_sell_73 : decode cX10_sell 73 = .ok (.putfield 162, 3) := by decide +kernel
theorem dX10_sell_76 : decode cX10_sell 76 = .ok (.aload_n 0, 1) := by decide +kernel
theorem dX10_sell_77 : decode cX10_sell 77 = .ok (.iload_n 2, 1) := by decide +kernel
theorem dX10_sell_78 : decode cX10_sell 78 = .ok (.aload_n 0, 1) := by decide +kernel
theorem dX10_sell_79 : decode cX10_sell 79 = .ok (.invokevirtual 134, 3) := by decide +kernel
theorem dX10_sell_82 : decode cX10_sell 82 = .ok (.invokevirtual 130, 3) := by decide +kernel
theorem dX10_sell_85 : decode cX10_sell 85 = .ok (.ireturn, 1) := by decide +kernel
set_option maxRecDepth 20000 in
theorem ggX10_broken_X10_isCell : GoodIn wsX10_broken wsX10_isCell := goodIn_r _ [9, 10, 11, 8, 12, 13, 14, 15, 16, 1, 21, 22, 23, 24, 25, 26, 27, 28, 29, 30, 31, 32, 33, 34, 35, 36, 37, 38, 39, 40, 41, 42, 43, 44, 45, 46, 47, 48, 49, 50, 51, 52, 53, 54, 55, 56, 57, 58, 59, 60, 61, 62, 63, 64, 65, 66, 67, 68, 69] (by decide +kernel) (by decide +kernel)
set_option maxRecDepth 20000 in
theorem gX10_broken_X10_isCell : GoodIn wsX10_broken (wsV RX10 138 RX10 yX10_isCell wsX10_isCell) := goodIn_app (goodIn_of _ (by decide +kernel)) ggX10_broken_X10_isCell
set_option maxRecDepth 20000 in
theorem ggX10_broken_X10_adds : GoodIn wsX10_broken wsX10_adds := goodIn_r _ [20, 4, 2, 21, 22, 23, 24, 25, 26, 27, 28, 29, 30, 31, 32, 33, 34, 35, 36, 37, 38, 39, 40, 41, 42, 43, 44, 45, 46, 47, 48, 49, 50, 51, 52, 53, 54, 55, 56, 57, 58, 59, 60, 61, 62, 63, 64, 65, 66, 67, 68, 69] (by decide +kernel) (by decide +kernel)
set_option maxRecDepth 20000 in
theorem gX10_broken_X10_adds : GoodIn wsX10_broken (wsV RX10 142 RX10 yX10_adds wsX10_adds) := goodIn_app (goodIn_of _ (by decide +kernel)) ggX10_broken_X10_adds
theorem dX10_broken_0 : decode cX10_broken 0 = .ok (.aload_n 0, 1) := by decide +kernel
theorem dX10_broken_1 : decode cX10_broken 1 = .ok (.iconst 0, 1) := by decide +kernel
theorem dX10_broken_2 : decode cX10_broken 2 = .ok (.putfield 1, 3) := by decide +kernel
theorem dX10_broken_5 : decode cX10_broken 5 = .ok (.aload_n 0, 1) := by decide +kernel
theorem dX10_broken_6 : decode cX10_broken 6 = .ok (.iload_n 1, 1) := by decide +kernel
theorem dX10_broken_7 : decode cX10_broken 7 = .ok (.invokevirtual 138, 3) := by decide +kernel
theorem dX10_broken_10 : decode cX10_broken 10 = .ok (.ifCond .ne 5, 3) := by decide +kernel
theorem dX10_broken_13 : decode cX10_broken 13 = .ok (.iconst 0, 1) := by decide +kernel
theorem dX10_broken_14 : decode cX10_broken 14 = .ok (.ireturn, 1) := by decide +kernel
theorem dX10_broken_15 : decode cX10_broken 15 = .ok (.aload_n 0, 1) := by decide +kernel
theorem dX10_broken_16 : decode cX10_broken 16 = .ok (.getfield 44, 3) := by decide +kernel
theorem dX10_broken_19 : decode cX10_broken 19 = .ok (.iload_n 1, 1) := by decide +kernel
theorem dX10_broken_20 : decode cX10_broken 20 = .ok (.iaload, 1) := by decide +kernel
theorem dX10_broken_21 : decode cX10_broken 21 = .ok (.iconst (-1), 1) := by decide +kernel
theorem dX10_broken_22 : decode cX10_broken 22 = .ok (.if_icmp .ne 5, 3) := by decide +kernel
theorem dX10_broken_25 : decode cX10_broken 25 = .ok (.iconst (-1), 1) := by decide +kernel
theorem dX10_broken_26 : decode cX10_broken 26 = .ok (.ireturn, 1) := by decide +kernel
theorem dX10_broken_27 : decode cX10_broken 27 = .ok (.aload_n 0, 1) := by decide +kernel
theorem dX10_broken_28 : decode cX10_broken 28 = .ok (.iload_n 1, 1) := by decide +kernel
theorem dX10_broken_29 : decode cX10_broken 29 = .ok (.aload_n 0, 1) := by decide +kernel
theorem dX10_broken_30 : decode cX10_broken 30 = .ok (.getfield 44, 3) := by decide +kernel
theorem dX10_broken_33 : decode cX10_broken 33 = .ok (.iload_n 1, 1) := by decide +kernel
theorem dX10_broken_34 : decode cX10_broken 34 = .ok (.iaload, 1) := by decide +kernel
theorem dX10_broken_35 : decode cX10_broken 35 = .ok (.iconst (-1), 1) := by decide +kernel
theorem dX10_broken_36 : decode cX10_broken 36 = .ok (.invokevirtual 142, 3) := by decide +kernel
theorem dX10_broken_39 : decode cX10_broken 39 = .ok (.aload_n 0, 1) := by decide +kernel
theorem dX10_broken_40 : decode cX10_broken 40 = .ok (.dup, 1) := by decide +kernel
theorem dX10_broken_41 : decode cX10_broken 41 = .ok (.getfield 166, 3) := by decide +kernel
theorem dX10_broken_44 : decode cX10_broken 44 = .ok (.iconst 1, 1) := by decide +kernel
theorem dX10_broken_45 : decode cX10_broken 45 = .ok (.iadd, 1) := by decide +kernel
theorem dX10_broken_46 : decode cX10_broken 46 = .ok (.putfield 166, 3) := by decide +kernel
theorem dX10_broken_49 : decode cX10_broken 49 = .ok (.aload_n 0, 1) := by decide +kernel
theorem dX10_broken_50 : decode cX10_broken 50 = .ok (.getfield 47, 3) := by decide +kernel
theorem dX10_broken_53 : decode cX10_broken 53 = .ok (.iload_n 1, 1) := by decide +kernel
theorem dX10_broken_54 : decode cX10_broken 54 = .ok (.iaload, 1) := by decide +kernel
theorem dX10_broken_55 : decode cX10_broken 55 = .ok (.ireturn, 1) := by decide +kernel
set_option maxRecDepth 20000 in
theorem ggX10_counted_X10_isCell : GoodIn wsX10_counted wsX10_isCell := goodIn_r _ [10, 11, 12, 9, 13, 14, 15, 16, 17, 1, 22, 23, 24, 25, 26, 27, 28, 29, 30, 31, 32, 33, 34, 35, 36, 37, 38, 39, 40, 41, 42, 43, 44, 45, 46, 47, 48, 49, 50, 51, 52, 53, 54, 55, 56, 57, 58, 59, 60, 61, 62, 63, 64, 65, 66, 67, 68, 69, 70] (by decide +kernel) (by decide +kernel)
set_option maxRecDepth 20000 in
theorem gX10_counted_X10_isCell : GoodIn wsX10_counted (wsV RX10 138 RX10 yX10_isCell wsX10_isCell) := goodIn_app (goodIn_of _ (by decide +kernel)) ggX10_counted_X10_isCell
set_option maxRecDepth 20000 in
theorem ggX10_counted_X10_within : GoodIn wsX10_counted wsX10_within := goodIn_r _ [13] (by decide +kernel) (by decide +kernel)
set_option maxRecDepth 20000 in
theorem gX10_counted_X10_within : GoodIn wsX10_counted (va_wsS RX10 108 yX10_within wsX10_within) := goodIn_app (goodIn_of _ (by decide +kernel)) ggX10_counted_X10_within
set_option maxRecDepth 20000 in
theorem ggX10_counted_X10_may : GoodIn wsX10_counted wsX10_may := goodIn_r _ [17, 1, 22, 23, 24, 25, 26, 27, 28, 29, 30, 31, 32, 33, 34, 35, 36, 37, 38, 39, 40, 41, 42, 43, 44, 45, 46, 47, 48, 49, 50, 51, 52, 53, 54, 55, 56, 57, 58, 59, 60, 61, 62, 63, 64, 65, 66, 67, 68, 69, 70] (by decide +kernel) (by decide +kernel)
set_option maxRecDepth 20000 in
theorem gX10_counted_X10_may : GoodIn wsX10_counted (wsV RX10 112 RX10 yX10_may wsX10_may) := goodIn_app (goodIn_of _ (by decide +kernel)) ggX10_counted_X10_may
set_option maxRecDepth 20000 in
theorem ggX10_counted_X10_adds : GoodIn wsX10_counted wsX10_adds := goodIn_r _ [21, 3, 2, 22, 23, 24, 25, 26, 27, 28, 29, 30, 31, 32, 33, 34, 35, 36, 37, 38, 39, 40, 41, 42, 43, 44, 45, 46, 47, 48, 49, 50, 51, 52, 53, 54, 55, 56, 57, 58, 59, 60, 61, 62, 63, 64, 65, 66, 67, 68, 69, 70] (by decide +kernel) (by decide +kernel)
set_option maxRecDepth 20000 in
theorem gX10_counted_X10_adds : GoodIn wsX10_counted (wsV RX10 142 RX10 yX10_adds wsX10_adds) := goodIn_app (goodIn_of _ (by decide +kernel)) ggX10_counted_X10_adds
theorem dX10_counted_0 : decode cX10_counted 0 = .ok (.aload_n 0, 1) := by decide +kernel
theorem dX10_counted_1 : decode cX10_counted 1 = .ok (.iconst 0, 1) := by decide +kernel
theorem dX10_counted_2 : decode cX10_counted 2 = .ok (.putfield 1, 3) := by decide +kernel
theorem dX10_counted_5 : decode cX10_counted 5 = .ok (.aload_n 0, 1) := by decide +kernel
theorem dX10_counted_6 : decode cX10_counted 6 = .ok (.iload_n 1, 1) := by decide +kernel
theorem dX10_counted_7 : decode cX10_counted 7 = .ok (.invokevirtual 138, 3) := by decide +kernel
theorem dX10_counted_10 : decode cX10_counted 10 = .ok (.ifCond .eq 18, 3) := by decide +kernel
theorem dX10_counted_13 : decode cX10_counted 13 = .ok (.aload_n 0, 1) := by decide +kernel
theorem dX10_counted_14 : decode cX10_counted 14 = .ok (.iload_n 2, 1) := by decide +kernel
theorem dX10_counted_15 : decode cX10_counted 15 = .ok (.iconst 0, 1) := by decide +kernel
theorem dX10_counted_16 : decode cX10_counted 16 = .ok (.bipush 12, 2) := by decide +kernel
theorem dX10_counted_18 : decode cX10_counted 18 = .ok (.invokestatic 108, 3) := by decide +kernel
theorem dX10_counted_21 : decode cX10_counted 21 = .ok (.iconst 2, 1) := by decide +kernel
theorem dX10_counted_22 : decode cX10_counted 22 = .ok (.invokevirtual 112, 3) := by decide +kernel
theorem dX10_counted_25 : decode cX10_counted 25 = .ok (.ifCond .ne 5, 3) := by decide +kernel
theorem dX10_counted_28 : decode cX10_counted 28 = .ok (.iconst 0, 1) := by decide +kernel
theorem dX10_counted_29 : decode cX10_counted 29 = .ok (.ireturn, 1) := by decide +kernel
theorem dX10_counted_30 : decode cX10_counted 30 = .ok (.aload_n 0, 1) := by decide +kernel
theorem dX10_counted_31 : decode cX10_counted 31 = .ok (.getfield 44, 3) := by decide +kernel
theorem dX10_counted_34 : decode cX10_counted 34 = .ok (.iload_n 1, 1) := by decide +kernel
theorem dX10_counted_35 : decode cX10_counted 35 = .ok (.iaload, 1) := by decide +kernel
theorem dX10_counted_36 : decode cX10_counted 36 = .ok (.iconst (-1), 1) := by decide +kernel
theorem dX10_counted_37 : decode cX10_counted 37 = .ok (.if_icmp .ne 6, 3) := by decide +kernel
theorem dX10_counted_40 : decode cX10_counted 40 = .ok (.bipush (-100), 2) := by decide +kernel
theorem dX10_counted_42 : decode cX10_counted 42 = .ok (.ireturn, 1) := by decide +kernel
theorem dX10_counted_43 : decode cX10_counted 43 = .ok (.iload_n 2, 1) := by decide +kernel
theorem dX10_counted_44 : decode cX10_counted 44 = .ok (.aload_n 0, 1) := by decide +kernel
theorem dX10_counted_45 : decode cX10_counted 45 = .ok (.getfield 47, 3) := by decide +kernel
theorem dX10_counted_48 : decode cX10_counted 48 = .ok (.iload_n 1, 1) := by decide +kernel
theorem dX10_counted_49 : decode cX10_counted 49 = .ok (.iaload, 1) := by decide +kernel
theorem dX10_counted_50 : decode cX10_counted 50 = .ok (.isub, 1) := by decide +kernel
theorem dX10_counted_51 : decode cX10_counted 51 = .ok (.istore_n 3, 1) := by decide +kernel
theorem dX10_counted_52 : decode cX10_counted 52 = .ok (.aload_n 0, 1) := by decide +kernel
theorem dX10_counted_53 : decode cX10_counted 53 = .ok (.iload_n 1, 1) := by decide +kernel
theorem dX10_counted_54 : decode cX10_counted 54 = .ok (.aload_n 0, 1) := by decide +kernel
theorem dX10_counted_55 : decode cX10_counted 55 = .ok (.getfield 44, 3) := by decide +kernel
theorem dX10_counted_58 : decode cX10_counted 58 = .ok (.iload_n 1, 1) := by decide +kernel
theorem dX10_counted_59 : decode cX10_counted 59 = .ok (.iaload, 1) := by decide +kernel
theorem dX10_counted_60 : decode cX10_counted 60 = .ok (.iload_n 3, 1) := by decide +kernel
theorem dX10_counted_61 : decode cX10_counted 61 = .ok (.invokevirtual 142, 3) := by decide +kernel
theorem dX10_counted_64 : decode cX10_counted 64 = .ok (.aload_n 0, 1) := by decide +kernel
theorem dX10_counted_65 : decode cX10_counted 65 = .ok (.dup, 1) := by decide +kernel
theorem dX10_counted_66 : decode cX10_counted 66 = .ok (.getfield 169, 3) := by decide +kernel
theorem dX10_counted_69 : decode cX10_counted 69 = .ok (.iload_n 3, 1) := by decide +kernel
theorem dX10_counted_70 : decode cX10_counted 70 = .ok (.ifCond .le 7, 3) := by decide +kernel
theorem dX10_counted_73 : decode cX10_counted 73 = .ok (.iload_n 3, 1) := by decide +kernel
theorem dX10_counted_74 : decode cX10_counted 74 = .ok (.goto 4, 3) := by decide +kernel
theorem dX10_counted_77 : decode cX10_counted 77 = .ok (.iconst 0, 1) := by decide +kernel
theorem dX10_counted_78 : decode cX10_counted 78 = .ok (.iadd, 1) := by decide +kernel
theorem dX10_counted_79 : decode cX10_counted 79 = .ok (.putfield 169, 3) := by decide +kernel
theorem dX10_counted_82 : decode cX10_counted 82 = .ok (.aload_n 0, 1) := by decide +kernel
theorem dX10_counted_83 : decode cX10_counted 83 = .ok (.dup, 1) := by decide +kernel
theorem dX10_counted_84 : decode cX10_counted 84 = .ok (.getfield 166, 3) := by decide +kernel
theorem dX10_counted_87 : decode cX10_counted 87 = .ok (.iload_n 3, 1) := by decide +kernel
theorem dX10_counted_88 : decode cX10_counted 88 = .ok (.ifCond .ge 8, 3) := by decide +kernel
theorem dX10_counted_91 : decode cX10_counted 91 = .ok (.iload_n 3, 1) := by decide +kernel
theorem dX10_counted_92 : decode cX10_counted 92 = .ok (.ineg, 1) := by decide +kernel
theorem dX10_counted_93 : decode cX10_counted 93 = .ok (.goto 4, 3) := by decide +kernel
theorem dX10_counted_96 : decode cX10_counted 96 = .ok (.iconst 0, 1) := by decide +kernel
theorem dX10_counted_97 : decode cX10_counted 97 = .ok (.iadd, 1) := by decide +kernel
theorem dX10_counted_98 : decode cX10_counted 98 = .ok (.putfield 166, 3) := by decide +kernel
theorem dX10_counted_101 : decode cX10_counted 101 = .ok (.iload_n 3, 1) := by decide +kernel
theorem dX10_counted_102 : decode cX10_counted 102 = .ok (.ireturn, 1) := by decide +kernel
theorem dX10_empties_0 : decode cX10_empties 0 = .ok (.aload_n 0, 1) := by decide +kernel
theorem dX10_empties_1 : decode cX10_empties 1 = .ok (.dup, 1) := by decide +kernel
theorem dX10_empties_2 : decode cX10_empties 2 = .ok (.getfield 172, 3) := by decide +kernel
theorem dX10_empties_5 : decode cX10_empties 5 = .ok (.iconst 1, 1) := by decide +kernel
theorem dX10_empties_6 : decode cX10_empties 6 = .ok (.iadd, 1) := by decide +kernel
theorem dX10_empties_7 : decode cX10_empties 7 = .ok (.putfield 172, 3) := by decide +kernel
theorem dX10_empties_10 : decode cX10_empties 10 = .ok (.aload_n 0, 1) := by decide +kernel
theorem dX10_empties_11 : decode cX10_empties 11 = .ok (.dup, 1) := by decide +kernel
theorem dX10_empties_12 : decode cX10_empties 12 = .ok (.getfield 175, 3) := by decide +kernel
theorem dX10_empties_15 : decode cX10_empties 15 = .ok (.aload_n 0, 1) := by decide +kernel
theorem dX10_empties_16 : decode cX10_empties 16 = .ok (.getfield 56, 3) := by decide +kernel
theorem dX10_empties_19 : decode cX10_empties 19 = .ok (.iload_n 1, 1) := by decide +kernel
theorem dX10_empties_20 : decode cX10_empties 20 = .ok (.iaload, 1) := by decide +kernel
theorem dX10_empties_21 : decode cX10_empties 21 = .ok (.iadd, 1) := by decide +kernel
theorem dX10_empties_22 : decode cX10_empties 22 = .ok (.putfield 175, 3) := by decide +kernel
theorem dX10_empties_25 : decode cX10_empties 25 = .ok (.aload_n 0, 1) := by decide +kernel
theorem dX10_empties_26 : decode cX10_empties 26 = .ok (.dup, 1) := by decide +kernel
theorem dX10_empties_27 : decode cX10_empties 27 = .ok (.getfield 149, 3) := by decide +kernel
theorem dX10_empties_30 : decode cX10_empties 30 = .ok (.iconst 1, 1) := by decide +kernel
theorem dX10_empties_31 : decode cX10_empties 31 = .ok (.isub, 1) := by decide +kernel
theorem dX10_empties_32 : decode cX10_empties 32 = .ok (.putfield 149, 3) := by decide +kernel
theorem dX10_empties_35 : decode cX10_empties 35 = .ok (.iload_n 1, 1) := by decide +kernel
theorem dX10_empties_36 : decode cX10_empties 36 = .ok (.istore_n 2, 1) := by decide +kernel
theorem dX10_empties_37 : decode cX10_empties 37 = .ok (.iload_n 2, 1) := by decide +kernel
theorem dX10_empties_38 : decode cX10_empties 38 = .ok (.aload_n 0, 1) := by decide +kernel
theorem dX10_empties_39 : decode cX10_empties 39 = .ok (.getfield 149, 3) := by decide +kernel
theorem dX10_empties_42 : decode cX10_empties 42 = .ok (.if_icmp .ge 51, 3) := by decide +kernel
theorem dX10_empties_45 : decode cX10_empties 45 = .ok (.aload_n 0, 1) := by decide +kernel
theorem dX10_empties_46 : decode cX10_empties 46 = .ok (.getfield 50, 3) := by decide +kernel
