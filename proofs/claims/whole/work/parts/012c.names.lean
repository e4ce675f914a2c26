theorem dX0_compares_17 : decode cX0_compares 17 = .ok (.iload_n 1, 1) := by decide +kernel
theorem dX0_compares_18 : decode cX0_compares 18 = .ok (.bipush 62, 2) := by decide +kernel
theorem dX0_compares_20 : decode cX0_compares 20 = .ok (.if_icmp .ne 16, 3) := by decide +kernel
theorem dX0_compares_23 : decode cX0_compares 23 = .ok (.iload_n 0, 1) := by decide +kernel
theorem dX0_compares_24 : decode cX0_compares 24 = .ok (.iload_n 2, 1) := by decide +kernel
theorem dX0_compares_25 : decode cX0_compares 25 = .ok (.if_icmp .le 7, 3) := by decide +kernel
theorem dX0_compares_28 : decode cX0_compares 28 = .ok (.iconst 1, 1) := by decide +kernel
theorem dX0_compares_29 : decode cX0_compares 29 = .ok (.goto 17, 3) := by decide +kernel
theorem dX0_compares_32 : decode cX0_compares 32 = .ok (.iconst 0, 1) := by decide +kernel
theorem dX0_compares_33 : decode cX0_compares 33 = .ok (.goto 13, 3) := by decide +kernel
theorem dX0_compares_36 : decode cX0_compares 36 = .ok (.iload_n 0, 1) := by decide +kernel
theorem dX0_compares_37 : decode cX0_compares 37 = .ok (.iload_n 2, 1) := by decide +kernel
theorem dX0_compares_38 : decode cX0_compares 38 = .ok (.if_icmp .ne 7, 3) := by decide +kernel
theorem dX0_compares_41 : decode cX0_compares 41 = .ok (.iconst 1, 1) := by decide +kernel
theorem dX0_compares_42 : decode cX0_compares 42 = .ok (.goto 4, 3) := by decide +kernel
theorem dX0_compares_45 : decode cX0_compares 45 = .ok (.iconst 0, 1) := by decide +kernel
theorem dX0_compares_46 : decode cX0_compares 46 = .ok (.ireturn, 1) := by decide +kernel
theorem dX1_init_0 : decode cX1_init 0 = .ok (.aload_n 0, 1) := by decide +kernel
theorem dX1_init_1 : decode cX1_init 1 = .ok (.invokespecial 1, 3) := by decide +kernel
theorem dX1_init_4 : decode cX1_init 4 = .ok (.aload_n 0, 1) := by decide +kernel
theorem dX1_init_5 : decode cX1_init 5 = .ok (.iload_n 1, 1) := by decide +kernel
theorem dX1_init_6 : decode cX1_init 6 = .ok (.putfield 7, 3) := by decide +kernel
theorem dX1_init_9 : decode cX1_init 9 = .ok (.aload_n 0, 1) := by decide +kernel
theorem dX1_init_10 : decode cX1_init 10 = .ok (.iload_n 2, 1) := by decide +kernel
theorem dX1_init_11 : decode cX1_init 11 = .ok (.putfield 13, 3) := by decide +kernel
theorem dX1_init_14 : decode cX1_init 14 = .ok (.aload_n 0, 1) := by decide +kernel
theorem dX1_init_15 : decode cX1_init 15 = .ok (.iload_n 3, 1) := by decide +kernel
theorem dX1_init_16 : decode cX1_init 16 = .ok (.putfield 16, 3) := by decide +kernel
theorem dX1_init_19 : decode cX1_init 19 = .ok (.aload_n 0, 1) := by decide +kernel
theorem dX1_init_20 : decode cX1_init 20 = .ok (.iload 4, 2) := by decide +kernel
theorem dX1_init_22 : decode cX1_init 22 = .ok (.putfield 20, 3) := by decide +kernel
theorem dX1_init_25 : decode cX1_init 25 = .ok (.aload_n 0, 1) := by decide +kernel
theorem dX1_init_26 : decode cX1_init 26 = .ok (.iload 5, 2) := by decide +kernel
theorem dX1_init_28 : decode cX1_init 28 = .ok (.putfield 23, 3) := by decide +kernel
theorem dX1_init_31 : decode cX1_init 31 = .ok (.return_, 1) := by decide +kernel
theorem dX2_init_0 : decode cX2_init 0 = .ok (.aload_n 0, 1) := by decide +kernel
theorem dX2_init_1 : decode cX2_init 1 = .ok (.invokespecial 1, 3) := by decide +kernel
theorem dX2_init_4 : decode cX2_init 4 = .ok (.aload_n 0, 1) := by decide +kernel
theorem dX2_init_5 : decode cX2_init 5 = .ok (.iconst 0, 1) := by decide +kernel
theorem dX2_init_6 : decode cX2_init 6 = .ok (.putfield 7, 3) := by decide +kernel
theorem dX2_init_9 : decode cX2_init 9 = .ok (.aload_n 0, 1) := by decide +kernel
theorem dX2_init_10 : decode cX2_init 10 = .ok (.iconst 0, 1) := by decide +kernel
theorem dX2_init_11 : decode cX2_init 11 = .ok (.putfield 13, 3) := by decide +kernel
theorem dX2_init_14 : decode cX2_init 14 = .ok (.aload_n 0, 1) := by decide +kernel
theorem dX2_init_15 : decode cX2_init 15 = .ok (.iconst 0, 1) := by decide +kernel
theorem dX2_init_16 : decode cX2_init 16 = .ok (.putfield 16, 3) := by decide +kernel
theorem dX2_init_19 : decode cX2_init 19 = .ok (.aload_n 0, 1) := by decide +kernel
theorem dX2_init_20 : decode cX2_init 20 = .ok (.iconst 0, 1) := by decide +kernel
theorem dX2_init_21 : decode cX2_init 21 = .ok (.putfield 19, 3) := by decide +kernel
theorem dX2_init_24 : decode cX2_init 24 = .ok (.aload_n 0, 1) := by decide +kernel
theorem dX2_init_25 : decode cX2_init 25 = .ok (.iconst 0, 1) := by decide +kernel
theorem dX2_init_26 : decode cX2_init 26 = .ok (.putfield 22, 3) := by decide +kernel
theorem dX2_init_29 : decode cX2_init 29 = .ok (.aload_n 0, 1) := by decide +kernel
theorem dX2_init_30 : decode cX2_init 30 = .ok (.iconst 0, 1) := by decide +kernel
theorem dX2_init_31 : decode cX2_init 31 = .ok (.putfield 25, 3) := by decide +kernel
theorem dX2_init_34 : decode cX2_init 34 = .ok (.aload_n 0, 1) := by decide +kernel
theorem dX2_init_35 : decode cX2_init 35 = .ok (.iconst 0, 1) := by decide +kernel
theorem dX2_init_36 : decode cX2_init 36 = .ok (.putfield 28, 3) := by decide +kernel
theorem dX2_init_39 : decode cX2_init 39 = .ok (.aload_n 0, 1) := by decide +kernel
theorem dX2_init_40 : decode cX2_init 40 = .ok (.lconst 0, 1) := by decide +kernel
theorem dX2_init_41 : decode cX2_init 41 = .ok (.putfield 31, 3) := by decide +kernel
theorem dX2_init_44 : decode cX2_init 44 = .ok (.return_, 1) := by decide +kernel
theorem dX3_init_0 : decode cX3_init 0 = .ok (.aload_n 0, 1) := by decide +kernel
theorem dX3_init_1 : decode cX3_init 1 = .ok (.invokespecial 3, 3) := by decide +kernel
theorem dX3_init_4 : decode cX3_init 4 = .ok (.aload_n 0, 1) := by decide +kernel
theorem dX3_init_5 : decode cX3_init 5 = .ok (.iconst 0, 1) := by decide +kernel
theorem dX3_init_6 : decode cX3_init 6 = .ok (.putfield 9, 3) := by decide +kernel
theorem dX3_init_9 : decode cX3_init 9 = .ok (.aload_n 0, 1) := by decide +kernel
theorem dX3_init_10 : decode cX3_init 10 = .ok (.iconst 0, 1) := by decide +kernel
theorem dX3_init_11 : decode cX3_init 11 = .ok (.putfield 15, 3) := by decide +kernel
theorem dX3_init_14 : decode cX3_init 14 = .ok (.aload_n 0, 1) := by decide +kernel
theorem dX3_init_15 : decode cX3_init 15 = .ok (.iload_n 1, 1) := by decide +kernel
theorem dX3_init_16 : decode cX3_init 16 = .ok (.putfield 18, 3) := by decide +kernel
theorem dX3_init_19 : decode cX3_init 19 = .ok (.aload_n 0, 1) := by decide +kernel
theorem dX3_init_20 : decode cX3_init 20 = .ok (.aload_n 2, 1) := by decide +kernel
theorem dX3_init_21 : decode cX3_init 21 = .ok (.putfield 21, 3) := by decide +kernel
theorem dX3_init_24 : decode cX3_init 24 = .ok (.aload_n 0, 1) := by decide +kernel
theorem dX3_init_25 : decode cX3_init 25 = .ok (.iload_n 3, 1) := by decide +kernel
theorem dX3_init_26 : decode cX3_init 26 = .ok (.putfield 25, 3) := by decide +kernel
theorem dX3_init_29 : decode cX3_init 29 = .ok (.aload_n 0, 1) := by decide +kernel
theorem dX3_init_30 : decode cX3_init 30 = .ok (.iload 4, 2) := by decide +kernel
theorem dX3_init_32 : decode cX3_init 32 = .ok (.putfield 28, 3) := by decide +kernel
theorem dX3_init_35 : decode cX3_init 35 = .ok (.aload_n 0, 1) := by decide +kernel
theorem dX3_init_36 : decode cX3_init 36 = .ok (.iload_n 3, 1) := by decide +kernel
theorem dX3_init_37 : decode cX3_init 37 = .ok (.aload_n 2, 1) := by decide +kernel
theorem dX3_init_38 : decode cX3_init 38 = .ok (.getfield 31, 3) := by decide +kernel
theorem dX3_init_41 : decode cX3_init 41 = .ok (.iadd, 1) := by decide +kernel
theorem dX3_init_42 : decode cX3_init 42 = .ok (.putfield 36, 3) := by decide +kernel
theorem dX3_init_45 : decode cX3_init 45 = .ok (.aload_n 0, 1) := by decide +kernel
theorem dX3_init_46 : decode cX3_init 46 = .ok (.iload_n 3, 1) := by decide +kernel
theorem dX3_init_47 : decode cX3_init 47 = .ok (.aload_n 2, 1) := by decide +kernel
theorem dX3_init_48 : decode cX3_init 48 = .ok (.getfield 39, 3) := by decide +kernel
theorem dX3_init_51 : decode cX3_init 51 = .ok (.iadd, 1) := by decide +kernel
theorem dX3_init_52 : decode cX3_init 52 = .ok (.putfield 42, 3) := by decide +kernel
theorem dX3_init_55 : decode cX3_init 55 = .ok (.return_, 1) := by decide +kernel
theorem dX3_worthIn_0 : decode cX3_worthIn 0 = .ok (.iload_n 1, 1) := by decide +kernel
theorem dX3_worthIn_1 : decode cX3_worthIn 1 = .ok (.aload_n 0, 1) := by decide +kernel
theorem dX3_worthIn_2 : decode cX3_worthIn 2 = .ok (.getfield 36, 3) := by decide +kernel
theorem dX3_worthIn_5 : decode cX3_worthIn 5 = .ok (.if_icmp .ge 8, 3) := by decide +kernel
theorem dX3_worthIn_8 : decode cX3_worthIn 8 = .ok (.aload_n 0, 1) := by decide +kernel
theorem dX3_worthIn_9 : decode cX3_worthIn 9 = .ok (.getfield 28, 3) := by decide +kernel
theorem dX3_worthIn_12 : decode cX3_worthIn 12 = .ok (.ireturn, 1) := by decide +kernel
theorem dX3_worthIn_13 : decode cX3_worthIn 13 = .ok (.aload_n 0, 1) := by decide +kernel
theorem dX3_worthIn_14 : decode cX3_worthIn 14 = .ok (.getfield 28, 3) := by decide +kernel
theorem dX3_worthIn_17 : decode cX3_worthIn 17 = .ok (.aload_n 0, 1) := by decide +kernel
theorem dX3_worthIn_18 : decode cX3_worthIn 18 = .ok (.getfield 28, 3) := by decide +kernel
theorem dX3_worthIn_21 : decode cX3_worthIn 21 = .ok (.iload_n 1, 1) := by decide +kernel
theorem dX3_worthIn_22 : decode cX3_worthIn 22 = .ok (.aload_n 0, 1) := by decide +kernel
theorem dX3_worthIn_23 : decode cX3_worthIn 23 = .ok (.getfield 42, 3) := by decide +kernel
theorem dX3_worthIn_26 : decode cX3_worthIn 26 = .ok (.invokestatic 45, 3) := by decide +kernel
theorem dX3_worthIn_29 : decode cX3_worthIn 29 = .ok (.aload_n 0, 1) := by decide +kernel
theorem dX3_worthIn_30 : decode cX3_worthIn 30 = .ok (.getfield 36, 3) := by decide +kernel
theorem dX3_worthIn_33 : decode cX3_worthIn 33 = .ok (.isub, 1) := by decide +kernel
theorem dX3_worthIn_34 : decode cX3_worthIn 34 = .ok (.imul, 1) := by decide +kernel
theorem dX3_worthIn_35 : decode cX3_worthIn 35 = .ok (.bipush 20, 2) := by decide +kernel
theorem dX3_worthIn_37 : decode cX3_worthIn 37 = .ok (.idiv, 1) := by decide +kernel
theorem dX3_worthIn_38 : decode cX3_worthIn 38 = .ok (.iadd, 1) := by decide +kernel
theorem dX3_worthIn_39 : decode cX3_worthIn 39 = .ok (.istore_n 2, 1) := by decide +kernel
theorem dX3_worthIn_40 : decode cX3_worthIn 40 = .ok (.iload_n 1, 1) := by decide +kernel
theorem dX3_worthIn_41 : decode cX3_worthIn 41 = .ok (.aload_n 0, 1) := by decide +kernel
theorem dX3_worthIn_42 : decode cX3_worthIn 42 = .ok (.getfield 42, 3) := by decide +kernel
theorem dX3_worthIn_45 : decode cX3_worthIn 45 = .ok (.if_icmp .le 14, 3) := by decide +kernel
theorem dX3_worthIn_48 : decode cX3_worthIn 48 = .ok (.aload_n 0, 1) := by decide +kernel
theorem dX3_worthIn_49 : decode cX3_worthIn 49 = .ok (.getfield 21, 3) := by decide +kernel
theorem dX3_worthIn_52 : decode cX3_worthIn 52 = .ok (.getfield 51, 3) := by decide +kernel
theorem dX3_worthIn_55 : decode cX3_worthIn 55 = .ok (.iconst 2, 1) := by decide +kernel
theorem dX3_worthIn_56 : decode cX3_worthIn 56 = .ok (.if_icmp .ne 5, 3) := by decide +kernel
theorem dX3_worthIn_59 : decode cX3_worthIn 59 = .ok (.iload_n 2, 1) := by decide +kernel
theorem dX3_worthIn_60 : decode cX3_worthIn 60 = .ok (.ireturn, 1) := by decide +kernel
theorem dX3_worthIn_61 : decode cX3_worthIn 61 = .ok (.aload_n 0, 1) := by decide +kernel
theorem dX3_worthIn_62 : decode cX3_worthIn 62 = .ok (.getfield 21, 3) := by decide +kernel
theorem dX3_worthIn_65 : decode cX3_worthIn 65 = .ok (.getfield 51, 3) := by decide +kernel
theorem dX3_worthIn_68 : decode cX3_worthIn 68 = .ok (.iconst 1, 1) := by decide +kernel
theorem dX3_worthIn_69 : decode cX3_worthIn 69 = .ok (.if_icmp .eq 14, 3) := by decide +kernel
theorem dX3_worthIn_72 : decode cX3_worthIn 72 = .ok (.iload_n 1, 1) := by decide +kernel
theorem dX3_worthIn_73 : decode cX3_worthIn 73 = .ok (.aload_n 0, 1) := by decide +kernel
theorem dX3_worthIn_74 : decode cX3_worthIn 74 = .ok (.getfield 42, 3) := by decide +kernel
theorem dX3_worthIn_77 : decode cX3_worthIn 77 = .ok (.isub, 1) := by decide +kernel
theorem dX3_worthIn_78 : decode cX3_worthIn 78 = .ok (.bipush 30, 2) := by decide +kernel
theorem dX3_worthIn_80 : decode cX3_worthIn 80 = .ok (.if_icmp .le 7, 3) := by decide +kernel
theorem dX3_worthIn_83 : decode cX3_worthIn 83 = .ok (.iconst 0, 1) := by decide +kernel
theorem dX3_worthIn_84 : decode cX3_worthIn 84 = .ok (.goto 11, 3) := by decide +kernel
theorem dX3_worthIn_87 : decode cX3_worthIn 87 = .ok (.iload_n 2, 1) := by decide +kernel
theorem dX3_worthIn_88 : decode cX3_worthIn 88 = .ok (.iload_n 1, 1) := by decide +kernel
theorem dX3_worthIn_89 : decode cX3_worthIn 89 = .ok (.aload_n 0, 1) := by decide +kernel
theorem dX3_worthIn_90 : decode cX3_worthIn 90 = .ok (.getfield 42, 3) := by decide +kernel
theorem dX3_worthIn_93 : decode cX3_worthIn 93 = .ok (.isub, 1) := by decide +kernel
theorem dX3_worthIn_94 : decode cX3_worthIn 94 = .ok (.ishr, 1) := by decide +kernel
theorem dX3_worthIn_95 : decode cX3_worthIn 95 = .ok (.ireturn, 1) := by decide +kernel
theorem dX3_isGoodIn_0 : decode cX3_isGoodIn 0 = .ok (.iload_n 1, 1) := by decide +kernel
theorem dX3_isGoodIn_1 : decode cX3_isGoodIn 1 = .ok (.aload_n 0, 1) := by decide +kernel
theorem dX3_isGoodIn_2 : decode cX3_isGoodIn 2 = .ok (.getfield 36, 3) := by decide +kernel
theorem dX3_isGoodIn_5 : decode cX3_isGoodIn 5 = .ok (.if_icmp .lt 15, 3) := by decide +kernel
theorem dX3_isGoodIn_8 : decode cX3_isGoodIn 8 = .ok (.iload_n 1, 1) := by decide +kernel
theorem dX3_isGoodIn_9 : decode cX3_isGoodIn 9 = .ok (.aload_n 0, 1) := by decide +kernel
theorem dX3_isGoodIn_10 : decode cX3_isGoodIn 10 = .ok (.getfield 42, 3) := by decide +kernel
theorem dX3_isGoodIn_13 : decode cX3_isGoodIn 13 = .ok (.if_icmp .gt 7, 3) := by decide +kernel
theorem dX3_isGoodIn_16 : decode cX3_isGoodIn 16 = .ok (.iconst 1, 1) := by decide +kernel
theorem dX3_isGoodIn_17 : decode cX3_isGoodIn 17 = .ok (.goto 4, 3) := by decide +kernel
theorem dX3_isGoodIn_20 : decode cX3_isGoodIn 20 = .ok (.iconst 0, 1) := by decide +kernel
theorem dX3_isGoodIn_21 : decode cX3_isGoodIn 21 = .ok (.ireturn, 1) := by decide +kernel
theorem dX3_maySellIn_0 : decode cX3_maySellIn 0 = .ok (.iload_n 1, 1) := by decide +kernel
theorem dX3_maySellIn_1 : decode cX3_maySellIn 1 = .ok (.aload_n 0, 1) := by decide +kernel
theorem dX3_maySellIn_2 : decode cX3_maySellIn 2 = .ok (.getfield 36, 3) := by decide +kernel
theorem dX3_maySellIn_5 : decode cX3_maySellIn 5 = .ok (.if_icmp .lt 26, 3) := by decide +kernel
theorem dX3_maySellIn_8 : decode cX3_maySellIn 8 = .ok (.iload_n 1, 1) := by decide +kernel
theorem dX3_maySellIn_9 : decode cX3_maySellIn 9 = .ok (.aload_n 0, 1) := by decide +kernel
theorem dX3_maySellIn_10 : decode cX3_maySellIn 10 = .ok (.getfield 42, 3) := by decide +kernel
theorem dX3_maySellIn_13 : decode cX3_maySellIn 13 = .ok (.if_icmp .le 14, 3) := by decide +kernel
theorem dX3_maySellIn_16 : decode cX3_maySellIn 16 = .ok (.aload_n 0, 1) := by decide +kernel
theorem dX3_maySellIn_17 : decode cX3_maySellIn 17 = .ok (.getfield 21, 3) := by decide +kernel
theorem dX3_maySellIn_20 : decode cX3_maySellIn 20 = .ok (.getfield 51, 3) := by decide +kernel
theorem dX3_maySellIn_23 : decode cX3_maySellIn 23 = .ok (.iconst 2, 1) := by decide +kernel
theorem dX3_maySellIn_24 : decode cX3_maySellIn 24 = .ok (.if_icmp .ne 7, 3) := by decide +kernel
theorem dX3_maySellIn_27 : decode cX3_maySellIn 27 = .ok (.iconst 1, 1) := by decide +kernel
theorem dX3_maySellIn_28 : decode cX3_maySellIn 28 = .ok (.goto 4, 3) := by decide +kernel
theorem dX3_maySellIn_31 : decode cX3_maySellIn 31 = .ok (.iconst 0, 1) := by decide +kernel
theorem dX3_maySellIn_32 : decode cX3_maySellIn 32 = .ok (.ireturn, 1) := by decide +kernel
theorem dX3_tastedYoung_0 : decode cX3_tastedYoung 0 = .ok (.aload_n 0, 1) := by decide +kernel
theorem dX3_tastedYoung_1 : decode cX3_tastedYoung 1 = .ok (.aload_n 0, 1) := by decide +kernel
theorem dX3_tastedYoung_2 : decode cX3_tastedYoung 2 = .ok (.getfield 36, 3) := by decide +kernel
theorem dX3_tastedYoung_5 : decode cX3_tastedYoung 5 = .ok (.iconst 1, 1) := by decide +kernel
theorem dX3_tastedYoung_6 : decode cX3_tastedYoung 6 = .ok (.iadd, 1) := by decide +kernel
theorem dX3_tastedYoung_7 : decode cX3_tastedYoung 7 = .ok (.aload_n 0, 1) := by decide +kernel
theorem dX3_tastedYoung_8 : decode cX3_tastedYoung 8 = .ok (.getfield 42, 3) := by decide +kernel
theorem dX3_tastedYoung_11 : decode cX3_tastedYoung 11 = .ok (.invokestatic 45, 3) := by decide +kernel
theorem dX3_tastedYoung_14 : decode cX3_tastedYoung 14 = .ok (.putfield 36, 3) := by decide +kernel
theorem dX3_tastedYoung_17 : decode cX3_tastedYoung 17 = .ok (.return_, 1) := by decide +kernel
theorem dX3_tastedReady_0 : decode cX3_tastedReady 0 = .ok (.aload_n 0, 1) := by decide +kernel
theorem dX3_tastedReady_1 : decode cX3_tastedReady 1 = .ok (.aload_n 0, 1) := by decide +kernel
theorem dX3_tastedReady_2 : decode cX3_tastedReady 2 = .ok (.getfield 36, 3) := by decide +kernel
theorem dX3_tastedReady_5 : decode cX3_tastedReady 5 = .ok (.iload_n 1, 1) := by decide +kernel
theorem dX3_tastedReady_6 : decode cX3_tastedReady 6 = .ok (.invokestatic 45, 3) := by decide +kernel
theorem dX3_tastedReady_9 : decode cX3_tastedReady 9 = .ok (.putfield 36, 3) := by decide +kernel
theorem dX3_tastedReady_12 : decode cX3_tastedReady 12 = .ok (.return_, 1) := by decide +kernel
theorem dX3_tastedTired_0 : decode cX3_tastedTired 0 = .ok (.aload_n 0, 1) := by decide +kernel
theorem dX3_tastedTired_1 : decode cX3_tastedTired 1 = .ok (.aload_n 0, 1) := by decide +kernel
theorem dX3_tastedTired_2 : decode cX3_tastedTired 2 = .ok (.getfield 42, 3) := by decide +kernel
theorem dX3_tastedTired_5 : decode cX3_tastedTired 5 = .ok (.iload_n 1, 1) := by decide +kernel
theorem dX3_tastedTired_6 : decode cX3_tastedTired 6 = .ok (.invokestatic 45, 3) := by decide +kernel
theorem dX3_tastedTired_9 : decode cX3_tastedTired 9 = .ok (.putfield 42, 3) := by decide +kernel
theorem dX3_tastedTired_12 : decode cX3_tastedTired 12 = .ok (.aload_n 0, 1) := by decide +kernel
theorem dX3_tastedTired_13 : decode cX3_tastedTired 13 = .ok (.aload_n 0, 1) := by decide +kernel
theorem dX3_tastedTired_14 : decode cX3_tastedTired 14 = .ok (.getfield 36, 3) := by decide +kernel
theorem dX3_tastedTired_17 : decode cX3_tastedTired 17 = .ok (.aload_n 0, 1) := by decide +kernel
theorem dX3_tastedTired_18 : decode cX3_tastedTired 18 = .ok (.getfield 42, 3) := by decide +kernel
theorem dX3_tastedTired_21 : decode cX3_tastedTired 21 = .ok (.invokestatic 45, 3) := by decide +kernel
theorem dX3_tastedTired_24 : decode cX3_tastedTired 24 = .ok (.putfield 36, 3) := by decide +kernel
theorem dX3_tastedTired_27 : decode cX3_tastedTired 27 = .ok (.return_, 1) := by decide +kernel
theorem dX3_tastedFine_0 : decode cX3_tastedFine 0 = .ok (.aload_n 0, 1) := by decide +kernel
theorem dX3_tastedFine_1 : decode cX3_tastedFine 1 = .ok (.dup, 1) := by decide +kernel
theorem dX3_tastedFine_2 : decode cX3_tastedFine 2 = .ok (.getfield 42, 3) := by decide +kernel
theorem dX3_tastedFine_5 : decode cX3_tastedFine 5 = .ok (.iconst 2, 1) := by decide +kernel
theorem dX3_tastedFine_6 : decode cX3_tastedFine 6 = .ok (.iadd, 1) := by decide +kernel
theorem dX3_tastedFine_7 : decode cX3_tastedFine 7 = .ok (.putfield 42, 3) := by decide +kernel
theorem dX3_tastedFine_10 : decode cX3_tastedFine 10 = .ok (.return_, 1) := by decide +kernel
theorem dX3_isOpen_0 : decode cX3_isOpen 0 = .ok (.aload_n 0, 1) := by decide +kernel
theorem dX3_isOpen_1 : decode cX3_isOpen 1 = .ok (.getfield 15, 3) := by decide +kernel
theorem dX3_isOpen_4 : decode cX3_isOpen 4 = .ok (.ifCond .le 7, 3) := by decide +kernel
theorem dX3_isOpen_7 : decode cX3_isOpen 7 = .ok (.iconst 1, 1) := by decide +kernel
theorem dX3_isOpen_8 : decode cX3_isOpen 8 = .ok (.goto 4, 3) := by decide +kernel
theorem dX3_isOpen_11 : decode cX3_isOpen 11 = .ok (.iconst 0, 1) := by decide +kernel
theorem dX3_isOpen_12 : decode cX3_isOpen 12 = .ok (.ireturn, 1) := by decide +kernel
theorem dX3_open_0 : decode cX3_open 0 = .ok (.aload_n 0, 1) := by decide +kernel
theorem dX3_open_1 : decode cX3_open 1 = .ok (.iload_n 1, 1) := by decide +kernel
theorem dX3_open_2 : decode cX3_open 2 = .ok (.putfield 9, 3) := by decide +kernel
theorem dX3_open_5 : decode cX3_open 5 = .ok (.aload_n 0, 1) := by decide +kernel
theorem dX3_open_6 : decode cX3_open 6 = .ok (.bipush 6, 2) := by decide +kernel
theorem dX3_open_8 : decode cX3_open 8 = .ok (.putfield 15, 3) := by decide +kernel
theorem dX3_open_11 : decode cX3_open 11 = .ok (.return_, 1) := by decide +kernel
set_option maxRecDepth 20000 in
theorem ggX3_isOverdue_X3_isOpen : GoodIn wsX3_isOverdue wsX3_isOpen := goodIn_r _ [8, 9, 10, 11, 12, 13, 14, 15, 16, 17] (by decide +kernel) (by decide +kernel)
set_option maxRecDepth 20000 in
theorem gX3_isOverdue_X3_isOpen : GoodIn wsX3_isOverdue (wsV RX3 54 RX3 yX3_isOpen wsX3_isOpen) := goodIn_app (goodIn_of _ (by decide +kernel)) ggX3_isOverdue_X3_isOpen
theorem dX3_isOverdue_0 : decode cX3_isOverdue 0 = .ok (.aload_n 0, 1) := by decide +kernel
theorem dX3_isOverdue_1 : decode cX3_isOverdue 1 = .ok (.invokevirtual 54, 3) := by decide +kernel
theorem dX3_isOverdue_4 : decode cX3_isOverdue 4 = .ok (.ifCond .eq 27, 3) := by decide +kernel
theorem dX3_isOverdue_7 : decode cX3_isOverdue 7 = .ok (.iload_n 1, 1) := by decide +kernel
theorem dX3_isOverdue_8 : decode cX3_isOverdue 8 = .ok (.aload_n 0, 1) := by decide +kernel
theorem dX3_isOverdue_9 : decode cX3_isOverdue 9 = .ok (.getfield 9, 3) := by decide +kernel
theorem dX3_isOverdue_12 : decode cX3_isOverdue 12 = .ok (.isub, 1) := by decide +kernel
theorem dX3_isOverdue_13 : decode cX3_isOverdue 13 = .ok (.getstatic 58, 3) := by decide +kernel
theorem dX3_isOverdue_16 : decode cX3_isOverdue 16 = .ok (.aload_n 0, 1) := by decide +kernel
theorem dX3_isOverdue_17 : decode cX3_isOverdue 17 = .ok (.getfield 21, 3) := by decide +kernel
theorem dX3_isOverdue_20 : decode cX3_isOverdue 20 = .ok (.getfield 51, 3) := by decide +kernel
theorem dX3_isOverdue_23 : decode cX3_isOverdue 23 = .ok (.iaload, 1) := by decide +kernel
theorem dX3_isOverdue_24 : decode cX3_isOverdue 24 = .ok (.if_icmp .lt 7, 3) := by decide +kernel
theorem dX3_isOverdue_27 : decode cX3_isOverdue 27 = .ok (.iconst 1, 1) := by decide +kernel
theorem dX3_isOverdue_28 : decode cX3_isOverdue 28 = .ok (.goto 4, 3) := by decide +kernel
theorem dX3_isOverdue_31 : decode cX3_isOverdue 31 = .ok (.iconst 0, 1) := by decide +kernel
theorem dX3_isOverdue_32 : decode cX3_isOverdue 32 = .ok (.ireturn, 1) := by decide +kernel
theorem dX4_init_0 : decode cX4_init 0 = .ok (.aload_n 0, 1) := by decide +kernel
theorem dX4_init_1 : decode cX4_init 1 = .ok (.invokespecial 5, 3) := by decide +kernel
theorem dX4_init_4 : decode cX4_init 4 = .ok (.aload_n 0, 1) := by decide +kernel
theorem dX4_init_5 : decode cX4_init 5 = .ok (.bipush 30, 2) := by decide +kernel
theorem dX4_init_7 : decode cX4_init 7 = .ok (.bipush 7, 2) := by decide +kernel
theorem dX4_init_9 : decode cX4_init 9 = .ok (.multianewarray 11 2, 4) := by decide +kernel
theorem dX4_init_13 : decode cX4_init 13 = .ok (.putfield 13, 3) := by decide +kernel
theorem dX4_init_16 : decode cX4_init 16 = .ok (.aload_n 0, 1) := by decide +kernel
theorem dX4_init_17 : decode cX4_init 17 = .ok (.bipush 30, 2) := by decide +kernel
theorem dX4_init_19 : decode cX4_init 19 = .ok (.bipush 7, 2) := by decide +kernel
theorem dX4_init_21 : decode cX4_init 21 = .ok (.multianewarray 11 2, 4) := by decide +kernel
theorem dX4_init_25 : decode cX4_init 25 = .ok (.putfield 18, 3) := by decide +kernel
theorem dX4_init_28 : decode cX4_init 28 = .ok (.aload_n 0, 1) := by decide +kernel
theorem dX4_init_29 : decode cX4_init 29 = .ok (.bipush 7, 2) := by decide +kernel
theorem dX4_init_31 : decode cX4_init 31 = .ok (.newarray .int, 2) := by decide +kernel
theorem dX4_init_33 : decode cX4_init 33 = .ok (.putfield 21, 3) := by decide +kernel
theorem dX4_init_36 : decode cX4_init 36 = .ok (.aload_n 0, 1) := by decide +kernel
theorem dX4_init_37 : decode cX4_init 37 = .ok (.bipush 7, 2) := by decide +kernel
theorem dX4_init_39 : decode cX4_init 39 = .ok (.newarray .int, 2) := by decide +kernel
theorem dX4_init_41 : decode cX4_init 41 = .ok (.putfield 25, 3) := by decide +kernel
theorem dX4_init_44 : decode cX4_init 44 = .ok (.aload_n 0, 1) := by decide +kernel
theorem dX4_init_45 : decode cX4_init 45 = .ok (.bipush 7, 2) := by decide +kernel
theorem dX4_init_47 : decode cX4_init 47 = .ok (.newarray .int, 2) := by decide +kernel
theorem dX4_init_49 : decode cX4_init 49 = .ok (.putfield 28, 3) := by decide +kernel
theorem dX4_init_52 : decode cX4_init 52 = .ok (.aload_n 0, 1) := by decide +kernel
theorem dX4_init_53 : decode cX4_init 53 = .ok (.bipush 6, 2) := by decide +kernel
theorem dX4_init_55 : decode cX4_init 55 = .ok (.bipush 7, 2) := by decide +kernel
theorem dX4_init_57 : decode cX4_init 57 = .ok (.multianewarray 11 2, 4) := by decide +kernel
theorem dX4_init_61 : decode cX4_init 61 = .ok (.putfield 31, 3) := by decide +kernel
theorem dX4_init_64 : decode cX4_init 64 = .ok (.aload_n 0, 1) := by decide +kernel
theorem dX4_init_65 : decode cX4_init 65 = .ok (.bipush 6, 2) := by decide +kernel
theorem dX4_init_67 : decode cX4_init 67 = .ok (.bipush 7, 2) := by decide +kernel
theorem dX4_init_69 : decode cX4_init 69 = .ok (.multianewarray 11 2, 4) := by decide +kernel
theorem dX4_init_73 : decode cX4_init 73 = .ok (.putfield 34, 3) := by decide +kernel
theorem dX4_init_76 : decode cX4_init 76 = .ok (.aload_n 0, 1) := by decide +kernel
theorem dX4_init_77 : decode cX4_init 77 = .ok (.iconst 0, 1) := by decide +kernel
theorem dX4_init_78 : decode cX4_init 78 = .ok (.putfield 37, 3) := by decide +kernel
theorem dX4_init_81 : decode cX4_init 81 = .ok (.aload_n 0, 1) := by decide +kernel
theorem dX4_init_82 : decode cX4_init 82 = .ok (.iconst 0, 1) := by decide +kernel
theorem dX4_init_83 : decode cX4_init 83 = .ok (.putfield 41, 3) := by decide +kernel
theorem dX4_init_86 : decode cX4_init 86 = .ok (.aload_n 0, 1) := by decide +kernel
theorem dX4_init_87 : decode cX4_init 87 = .ok (.iconst 0, 1) := by decide +kernel
theorem dX4_init_88 : decode cX4_init 88 = .ok (.putfield 44, 3) := by decide +kernel
theorem dX4_init_91 : decode cX4_init 91 = .ok (.return_, 1) := by decide +kernel
set_option maxRecDepth 20000 in
theorem ggX4_start_J7_fill_53178 : GoodIn wsX4_start wsJ7_fill_53178 := goodIn_r _ [12] (by decide +kernel) (by decide +kernel)
set_option maxRecDepth 20000 in
theorem gX4_start_J7_fill_53178 : GoodIn wsX4_start (va_wsS RX4 53 yJ7_fill_53178 wsJ7_fill_53178) := goodIn_app (goodIn_of _ (by decide +kernel)) ggX4_start_J7_fill_53178
theorem dX4_start_0 : decode cX4_start 0 = .ok (.aload_n 0, 1) := by decide +kernel
theorem dX4_start_1 : decode cX4_start 1 = .ok (.iload_n 1, 1) := by decide +kernel
theorem dX4_start_2 : decode cX4_start 2 = .ok (.putfield 37, 3) := by decide +kernel
theorem dX4_start_5 : decode cX4_start 5 = .ok (.aload_n 0, 1) := by decide +kernel
theorem dX4_start_6 : decode cX4_start 6 = .ok (.iconst 0, 1) := by decide +kernel
theorem dX4_start_7 : decode cX4_start 7 = .ok (.putfield 41, 3) := by decide +kernel
theorem dX4_start_10 : decode cX4_start 10 = .ok (.aload_n 0, 1) := by decide +kernel
theorem dX4_start_11 : decode cX4_start 11 = .ok (.iload_n 2, 1) := by decide +kernel
theorem dX4_start_12 : decode cX4_start 12 = .ok (.bipush 6, 2) := by decide +kernel
theorem dX4_start_14 : decode cX4_start 14 = .ok (.invokestatic 47, 3) := by decide +kernel
theorem dX4_start_17 : decode cX4_start 17 = .ok (.putfield 44, 3) := by decide +kernel
theorem dX4_start_20 : decode cX4_start 20 = .ok (.aload_n 0, 1) := by decide +kernel
theorem dX4_start_21 : decode cX4_start 21 = .ok (.getfield 21, 3) := by decide +kernel
theorem dX4_start_24 : decode cX4_start 24 = .ok (.iload_n 3, 1) := by decide +kernel
theorem dX4_start_25 : decode cX4_start 25 = .ok (.invokestatic 53, 3) := by decide +kernel
theorem dX4_start_28 : decode cX4_start 28 = .ok (.aload_n 0, 1) := by decide +kernel
theorem dX4_start_29 : decode cX4_start 29 = .ok (.getfield 21, 3) := by decide +kernel
theorem dX4_start_32 : decode cX4_start 32 = .ok (.aload_n 0, 1) := by decide +kernel
theorem dX4_start_33 : decode cX4_start 33 = .ok (.getfield 44, 3) := by decide +kernel
theorem dX4_start_36 : decode cX4_start 36 = .ok (.sipush 360, 3) := by decide +kernel
theorem dX4_start_39 : decode cX4_start 39 = .ok (.iastore, 1) := by decide +kernel
theorem dX4_start_40 : decode cX4_start 40 = .ok (.return_, 1) := by decide +kernel
set_option maxRecDepth 20000 in
theorem ggX4_gainOf_X4_addGroup : GoodIn wsX4_gainOf wsX4_addGroup := goodIn_r _ [7, 8, 9, 10, 1, 11, 12, 13, 14, 15, 16, 17, 18, 19, 20, 21, 22, 23, 24, 25, 26, 27, 28, 29, 30, 31, 32, 33, 68, 69, 70, 71, 72, 73, 74, 75, 76, 77, 78, 79, 80, 81, 82, 83, 84, 85, 86, 87, 88, 89, 90] (by decide +kernel) (by decide +kernel)
set_option maxRecDepth 20000 in
theorem gX4_gainOf_X4_addGroup : GoodIn wsX4_gainOf (wsV RX4 59 RX4 yX4_addGroup wsX4_addGroup) := goodIn_app (goodIn_of _ (by decide +kernel)) ggX4_gainOf_X4_addGroup
set_option maxRecDepth 20000 in
theorem ggX4_gainOf_X4_findChains : GoodIn wsX4_gainOf wsX4_findChains := goodIn_r _ [37, 8, 2, 10, 38, 39, 40, 41, 42, 43, 6, 44, 45, 1, 11, 30, 31, 32, 33, 46, 47, 48, 49, 50, 51, 52, 53, 54, 68, 69, 70, 71, 72, 73, 74, 75, 76, 77] (by decide +kernel) (by decide +kernel)
set_option maxRecDepth 20000 in
theorem gX4_gainOf_X4_findChains : GoodIn wsX4_gainOf (wsV RX4 63 RX4 yX4_findChains wsX4_findChains) := goodIn_app (goodIn_of _ (by decide +kernel)) ggX4_gainOf_X4_findChains
set_option maxRecDepth 20000 in
theorem ggX4_gainOf_X4_bestLast : GoodIn wsX4_gainOf wsX4_bestLast := goodIn_r _ [58, 8, 40, 2, 68, 69, 70, 71, 72, 73, 74, 75, 76, 77] (by decide +kernel) (by decide +kernel)
set_option maxRecDepth 20000 in
theorem gX4_gainOf_X4_bestLast : GoodIn wsX4_gainOf (wsV RX4 67 RX4 yX4_bestLast wsX4_bestLast) := goodIn_app (goodIn_of _ (by decide +kernel)) ggX4_gainOf_X4_bestLast
set_option maxRecDepth 20000 in
theorem ggX4_gainOf_X4_widthOf : GoodIn wsX4_gainOf wsX4_widthOf := goodIn_r _ [62, 40, 63, 25, 26, 27, 8, 39, 11, 45, 68, 69, 70, 71, 72, 73, 74, 75, 76, 77] (by decide +kernel) (by decide +kernel)
set_option maxRecDepth 20000 in
theorem gX4_gainOf_X4_widthOf : GoodIn wsX4_gainOf (wsV RX4 71 RX4 yX4_widthOf wsX4_widthOf) := goodIn_app (goodIn_of _ (by decide +kernel)) ggX4_gainOf_X4_widthOf
set_option maxRecDepth 20000 in
theorem ggX4_gainOf_X4_moveAlong : GoodIn wsX4_gainOf wsX4_moveAlong := goodIn_r _ [67, 40, 8, 39, 11, 45, 68, 69, 70, 71, 72, 73, 74, 75, 76, 77] (by decide +kernel) (by decide +kernel)
set_option maxRecDepth 20000 in
theorem gX4_gainOf_X4_moveAlong : GoodIn wsX4_gainOf (wsV RX4 74 RX4 yX4_moveAlong wsX4_moveAlong) := goodIn_app (goodIn_of _ (by decide +kernel)) ggX4_gainOf_X4_moveAlong
theorem dX4_gainOf_0 : decode cX4_gainOf 0 = .ok (.aload_n 0, 1) := by decide +kernel
theorem dX4_gainOf_1 : decode cX4_gainOf 1 = .ok (.getfield 41, 3) := by decide +kernel
theorem dX4_gainOf_4 : decode cX4_gainOf 4 = .ok (.bipush 30, 2) := by decide +kernel
theorem dX4_gainOf_6 : decode cX4_gainOf 6 = .ok (.if_icmp .lt 5, 3) := by decide +kernel
theorem dX4_gainOf_9 : decode cX4_gainOf 9 = .ok (.iconst 0, 1) := by decide +kernel
theorem dX4_gainOf_10 : decode cX4_gainOf 10 = .ok (.ireturn, 1) := by decide +kernel
theorem dX4_gainOf_11 : decode cX4_gainOf 11 = .ok (.aload_n 0, 1) := by decide +kernel
theorem dX4_gainOf_12 : decode cX4_gainOf 12 = .ok (.getfield 41, 3) := by decide +kernel
theorem dX4_gainOf_15 : decode cX4_gainOf 15 = .ok (.istore_n 3, 1) := by decide +kernel
theorem dX4_gainOf_16 : decode cX4_gainOf 16 = .ok (.aload_n 0, 1) := by decide +kernel
theorem dX4_gainOf_17 : decode cX4_gainOf 17 = .ok (.aload_n 1, 1) := by decide +kernel
theorem dX4_gainOf_18 : decode cX4_gainOf 18 = .ok (.invokevirtual 59, 3) := by decide +kernel
theorem dX4_gainOf_21 : decode cX4_gainOf 21 = .ok (.iconst 0, 1) := by decide +kernel
theorem dX4_gainOf_22 : decode cX4_gainOf 22 = .ok (.istore 4, 2) := by decide +kernel
theorem dX4_gainOf_24 : decode cX4_gainOf 24 = .ok (.iload_n 2, 1) := by decide +kernel
theorem dX4_gainOf_25 : decode cX4_gainOf 25 = .ok (.istore 5, 2) := by decide +kernel
theorem dX4_gainOf_27 : decode cX4_gainOf 27 = .ok (.iconst 0, 1) := by decide +kernel
theorem dX4_gainOf_28 : decode cX4_gainOf 28 = .ok (.istore 6, 2) := by decide +kernel
theorem dX4_gainOf_30 : decode cX4_gainOf 30 = .ok (.iload 6, 2) := by decide +kernel
theorem dX4_gainOf_32 : decode cX4_gainOf 32 = .ok (.iload_n 2, 1) := by decide +kernel
theorem dX4_gainOf_33 : decode cX4_gainOf 33 = .ok (.if_icmp .ge 79, 3) := by decide +kernel
theorem dX4_gainOf_36 : decode cX4_gainOf 36 = .ok (.iload 5, 2) := by decide +kernel
theorem dX4_gainOf_38 : decode cX4_gainOf 38 = .ok (.ifCond .le 74, 3) := by decide +kernel
theorem dX4_gainOf_41 : decode cX4_gainOf 41 = .ok (.aload_n 0, 1) := by decide +kernel
theorem dX4_gainOf_42 : decode cX4_gainOf 42 = .ok (.iload_n 3, 1) := by decide +kernel
theorem dX4_gainOf_43 : decode cX4_gainOf 43 = .ok (.invokevirtual 63, 3) := by decide +kernel
theorem dX4_gainOf_46 : decode cX4_gainOf 46 = .ok (.aload_n 0, 1) := by decide +kernel
theorem dX4_gainOf_47 : decode cX4_gainOf 47 = .ok (.invokevirtual 67, 3) := by decide +kernel
theorem dX4_gainOf_50 : decode cX4_gainOf 50 = .ok (.istore 7, 2) := by decide +kernel
theorem dX4_gainOf_52 : decode cX4_gainOf 52 = .ok (.aload_n 0, 1) := by decide +kernel
theorem dX4_gainOf_53 : decode cX4_gainOf 53 = .ok (.getfield 25, 3) := by decide +kernel
theorem dX4_gainOf_56 : decode cX4_gainOf 56 = .ok (.iload 7, 2) := by decide +kernel
theorem dX4_gainOf_58 : decode cX4_gainOf 58 = .ok (.iaload, 1) := by decide +kernel
theorem dX4_gainOf_59 : decode cX4_gainOf 59 = .ok (.ifCond .gt 6, 3) := by decide +kernel
theorem dX4_gainOf_62 : decode cX4_gainOf 62 = .ok (.goto 50, 3) := by decide +kernel
theorem dX4_gainOf_65 : decode cX4_gainOf 65 = .ok (.aload_n 0, 1) := by decide +kernel
theorem dX4_gainOf_66 : decode cX4_gainOf 66 = .ok (.iload 7, 2) := by decide +kernel
theorem dX4_gainOf_68 : decode cX4_gainOf 68 = .ok (.iload 5, 2) := by decide +kernel
theorem dX4_gainOf_70 : decode cX4_gainOf 70 = .ok (.invokevirtual 71, 3) := by decide +kernel
theorem dX4_gainOf_73 : decode cX4_gainOf 73 = .ok (.istore 8, 2) := by decide +kernel
theorem dX4_gainOf_75 : decode cX4_gainOf 75 = .ok (.aload_n 0, 1) := by decide +kernel
theorem dX4_gainOf_76 : decode cX4_gainOf 76 = .ok (.iload_n 3, 1) := by decide +kernel
theorem dX4_gainOf_77 : decode cX4_gainOf 77 = .ok (.iload 7, 2) := by decide +kernel
theorem dX4_gainOf_79 : decode cX4_gainOf 79 = .ok (.iload 8, 2) := by decide +kernel
theorem dX4_gainOf_81 : decode cX4_gainOf 81 = .ok (.invokevirtual 74, 3) := by decide +kernel
theorem dX4_gainOf_84 : decode cX4_gainOf 84 = .ok (.iload 4, 2) := by decide +kernel
theorem dX4_gainOf_86 : decode cX4_gainOf 86 = .ok (.iload 8, 2) := by decide +kernel
theorem dX4_gainOf_88 : decode cX4_gainOf 88 = .ok (.aload_n 0, 1) := by decide +kernel
theorem dX4_gainOf_89 : decode cX4_gainOf 89 = .ok (.getfield 25, 3) := by decide +kernel
theorem dX4_gainOf_92 : decode cX4_gainOf 92 = .ok (.iload 7, 2) := by decide +kernel
theorem dX4_gainOf_94 : decode cX4_gainOf 94 = .ok (.iaload, 1) := by decide +kernel
theorem dX4_gainOf_95 : decode cX4_gainOf 95 = .ok (.imul, 1) := by decide +kernel
theorem dX4_gainOf_96 : decode cX4_gainOf 96 = .ok (.iadd, 1) := by decide +kernel
theorem dX4_gainOf_97 : decode cX4_gainOf 97 = .ok (.istore 4, 2) := by decide +kernel
theorem dX4_gainOf_99 : decode cX4_gainOf 99 = .ok (.iload 5, 2) := by decide +kernel
theorem dX4_gainOf_101 : decode cX4_gainOf 101 = .ok (.iload 8, 2) := by decide +kernel
theorem dX4_gainOf_103 : decode cX4_gainOf 103 = .ok (.isub, 1) := by decide +kernel
theorem dX4_gainOf_104 : decode cX4_gainOf 104 = .ok (.istore 5, 2) := by decide +kernel
theorem dX4_gainOf_106 : decode cX4_gainOf 106 = .ok (.iinc 6 1, 3) := by decide +kernel
theorem dX4_gainOf_109 : decode cX4_gainOf 109 = .ok (.goto (-79), 3) := by decide +kernel
theorem dX4_gainOf_112 : decode cX4_gainOf 112 = .ok (.iload 4, 2) := by decide +kernel
theorem dX4_gainOf_114 : decode cX4_gainOf 114 = .ok (.ireturn, 1) := by decide +kernel
set_option maxRecDepth 20000 in
theorem ggX4_addGroup_X3_isGoodIn : GoodIn wsX4_addGroup wsX3_isGoodIn := goodIn_r _ [10, 11, 12, 38, 39, 40, 41, 42, 43, 44, 45] (by decide +kernel) (by decide +kernel)
set_option maxRecDepth 20000 in
theorem gX4_addGroup_X3_isGoodIn : GoodIn wsX4_addGroup (wsV RX4 78 RX3 yX3_isGoodIn wsX3_isGoodIn) := goodIn_app (goodIn_of _ (by decide +kernel)) ggX4_addGroup_X3_isGoodIn
set_option maxRecDepth 20000 in
theorem ggX4_addGroup_X3_worthIn : GoodIn wsX4_addGroup wsX3_worthIn := goodIn_r _ [16, 11, 17, 12, 18, 19, 20, 21, 22, 23, 38, 39, 40, 41, 42, 43, 44, 45, 46, 47, 48, 49, 50] (by decide +kernel) (by decide +kernel)
set_option maxRecDepth 20000 in
theorem gX4_addGroup_X3_worthIn : GoodIn wsX4_addGroup (wsV RX4 84 RX3 yX3_worthIn wsX3_worthIn) := goodIn_app (goodIn_of _ (by decide +kernel)) ggX4_addGroup_X3_worthIn
set_option maxRecDepth 20000 in
theorem ggX4_addGroup_J7_fill_53178 : GoodIn wsX4_addGroup wsJ7_fill_53178 := goodIn_r _ [27] (by decide +kernel) (by decide +kernel)
set_option maxRecDepth 20000 in
theorem gX4_addGroup_J7_fill_53178 : GoodIn wsX4_addGroup (va_wsS RX4 53 yJ7_fill_53178 wsJ7_fill_53178) := goodIn_app (goodIn_of _ (by decide +kernel)) ggX4_addGroup_J7_fill_53178
theorem dX4_addGroup_0 : decode cX4_addGroup 0 = .ok (.iconst 0, 1) := by decide +kernel
theorem dX4_addGroup_1 : decode cX4_addGroup 1 = .ok (.istore_n 2, 1) := by decide +kernel
theorem dX4_addGroup_2 : decode cX4_addGroup 2 = .ok (.iload_n 2, 1) := by decide +kernel
theorem dX4_addGroup_3 : decode cX4_addGroup 3 = .ok (.aload_n 0, 1) := by decide +kernel
theorem dX4_addGroup_4 : decode cX4_addGroup 4 = .ok (.getfield 44, 3) := by decide +kernel
theorem dX4_addGroup_7 : decode cX4_addGroup 7 = .ok (.if_icmp .ge 44, 3) := by decide +kernel
theorem dX4_addGroup_10 : decode cX4_addGroup 10 = .ok (.aload_n 0, 1) := by decide +kernel
theorem dX4_addGroup_11 : decode cX4_addGroup 11 = .ok (.getfield 37, 3) := by decide +kernel
theorem dX4_addGroup_14 : decode cX4_addGroup 14 = .ok (.iload_n 2, 1) := by decide +kernel
theorem dX4_addGroup_15 : decode cX4_addGroup 15 = .ok (.iadd, 1) := by decide +kernel
theorem dX4_addGroup_16 : decode cX4_addGroup 16 = .ok (.istore_n 3, 1) := by decide +kernel
theorem dX4_addGroup_17 : decode cX4_addGroup 17 = .ok (.aload_n 0, 1) := by decide +kernel
theorem dX4_addGroup_18 : decode cX4_addGroup 18 = .ok (.getfield 13, 3) := by decide +kernel
theorem dX4_addGroup_21 : decode cX4_addGroup 21 = .ok (.aload_n 0, 1) := by decide +kernel
theorem dX4_addGroup_22 : decode cX4_addGroup 22 = .ok (.getfield 41, 3) := by decide +kernel
theorem dX4_addGroup_25 : decode cX4_addGroup 25 = .ok (.aaload, 1) := by decide +kernel
theorem dX4_addGroup_26 : decode cX4_addGroup 26 = .ok (.iload_n 2, 1) := by decide +kernel
theorem dX4_addGroup_27 : decode cX4_addGroup 27 = .ok (.aload_n 1, 1) := by decide +kernel
theorem dX4_addGroup_28 : decode cX4_addGroup 28 = .ok (.iload_n 3, 1) := by decide +kernel
theorem dX4_addGroup_29 : decode cX4_addGroup 29 = .ok (.invokevirtual 78, 3) := by decide +kernel
theorem dX4_addGroup_32 : decode cX4_addGroup 32 = .ok (.ifCond .eq 11, 3) := by decide +kernel
theorem dX4_addGroup_35 : decode cX4_addGroup 35 = .ok (.aload_n 1, 1) := by decide +kernel
theorem dX4_addGroup_36 : decode cX4_addGroup 36 = .ok (.iload_n 3, 1) := by decide +kernel
theorem dX4_addGroup_37 : decode cX4_addGroup 37 = .ok (.invokevirtual 84, 3) := by decide +kernel
theorem dX4_addGroup_40 : decode cX4_addGroup 40 = .ok (.goto 4, 3) := by decide +kernel
theorem dX4_addGroup_43 : decode cX4_addGroup 43 = .ok (.iconst (-1), 1) := by decide +kernel
theorem dX4_addGroup_44 : decode cX4_addGroup 44 = .ok (.iastore, 1) := by decide +kernel
theorem dX4_addGroup_45 : decode cX4_addGroup 45 = .ok (.iinc 2 1, 3) := by decide +kernel
theorem dX4_addGroup_48 : decode cX4_addGroup 48 = .ok (.goto (-46), 3) := by decide +kernel
theorem dX4_addGroup_51 : decode cX4_addGroup 51 = .ok (.aload_n 0, 1) := by decide +kernel
theorem dX4_addGroup_52 : decode cX4_addGroup 52 = .ok (.getfield 13, 3) := by decide +kernel
theorem dX4_addGroup_55 : decode cX4_addGroup 55 = .ok (.aload_n 0, 1) := by decide +kernel
theorem dX4_addGroup_56 : decode cX4_addGroup 56 = .ok (.getfield 41, 3) := by decide +kernel
theorem dX4_addGroup_59 : decode cX4_addGroup 59 = .ok (.aaload, 1) := by decide +kernel
theorem dX4_addGroup_60 : decode cX4_addGroup 60 = .ok (.aload_n 0, 1) := by decide +kernel
theorem dX4_addGroup_61 : decode cX4_addGroup 61 = .ok (.getfield 44, 3) := by decide +kernel
theorem dX4_addGroup_64 : decode cX4_addGroup 64 = .ok (.iconst 0, 1) := by decide +kernel
theorem dX4_addGroup_65 : decode cX4_addGroup 65 = .ok (.iastore, 1) := by decide +kernel
theorem dX4_addGroup_66 : decode cX4_addGroup 66 = .ok (.aload_n 0, 1) := by decide +kernel
theorem dX4_addGroup_67 : decode cX4_addGroup 67 = .ok (.getfield 18, 3) := by decide +kernel
theorem dX4_addGroup_70 : decode cX4_addGroup 70 = .ok (.aload_n 0, 1) := by decide +kernel
theorem dX4_addGroup_71 : decode cX4_addGroup 71 = .ok (.getfield 41, 3) := by decide +kernel
theorem dX4_addGroup_74 : decode cX4_addGroup 74 = .ok (.aaload, 1) := by decide +kernel
theorem dX4_addGroup_75 : decode cX4_addGroup 75 = .ok (.iconst 0, 1) := by decide +kernel
theorem dX4_addGroup_76 : decode cX4_addGroup 76 = .ok (.invokestatic 53, 3) := by decide +kernel
theorem dX4_addGroup_79 : decode cX4_addGroup 79 = .ok (.aload_n 0, 1) := by decide +kernel
theorem dX4_addGroup_80 : decode cX4_addGroup 80 = .ok (.dup, 1) := by decide +kernel
theorem dX4_addGroup_81 : decode cX4_addGroup 81 = .ok (.getfield 41, 3) := by decide +kernel
theorem dX4_addGroup_84 : decode cX4_addGroup 84 = .ok (.iconst 1, 1) := by decide +kernel
theorem dX4_addGroup_85 : decode cX4_addGroup 85 = .ok (.iadd, 1) := by decide +kernel
theorem dX4_addGroup_86 : decode cX4_addGroup 86 = .ok (.putfield 41, 3) := by decide +kernel
theorem dX4_addGroup_89 : decode cX4_addGroup 89 = .ok (.return_, 1) := by decide +kernel
set_option maxRecDepth 20000 in
theorem ggX4_findChains_X4_findMovers : GoodIn wsX4_findChains wsX4_findMovers := goodIn_r _ [11, 12, 13, 14, 15, 16, 17, 18, 19, 20, 21, 10, 22, 1, 3, 23, 28, 29, 30, 31, 32, 33, 34, 35, 36, 37] (by decide +kernel) (by decide +kernel)
set_option maxRecDepth 20000 in
theorem gX4_findChains_X4_findMovers : GoodIn wsX4_findChains (wsV RX4 89 RX4 yX4_findMovers wsX4_findMovers) := goodIn_app (goodIn_of _ (by decide +kernel)) ggX4_findChains_X4_findMovers
set_option maxRecDepth 20000 in
theorem ggX4_findChains_X4_lengthenFrom : GoodIn wsX4_findChains wsX4_lengthenFrom := goodIn_r _ [27, 1, 12, 2, 23, 5, 28, 29, 30, 31, 32, 33, 34, 35, 36, 37] (by decide +kernel) (by decide +kernel)
set_option maxRecDepth 20000 in
theorem gX4_findChains_X4_lengthenFrom : GoodIn wsX4_findChains (wsV RX4 92 RX4 yX4_lengthenFrom wsX4_lengthenFrom) := goodIn_app (goodIn_of _ (by decide +kernel)) ggX4_findChains_X4_lengthenFrom
theorem dX4_findChains_0 : decode cX4_findChains 0 = .ok (.iconst 0, 1) := by decide +kernel
theorem dX4_findChains_1 : decode cX4_findChains 1 = .ok (.istore_n 2, 1) := by decide +kernel
theorem dX4_findChains_2 : decode cX4_findChains 2 = .ok (.iload_n 2, 1) := by decide +kernel
theorem dX4_findChains_3 : decode cX4_findChains 3 = .ok (.aload_n 0, 1) := by decide +kernel
theorem dX4_findChains_4 : decode cX4_findChains 4 = .ok (.getfield 44, 3) := by decide +kernel
theorem dX4_findChains_7 : decode cX4_findChains 7 = .ok (.if_icmp .gt 47, 3) := by decide +kernel
theorem dX4_findChains_10 : decode cX4_findChains 10 = .ok (.aload_n 0, 1) := by decide +kernel
theorem dX4_findChains_11 : decode cX4_findChains 11 = .ok (.getfield 25, 3) := by decide +kernel
theorem dX4_findChains_14 : decode cX4_findChains 14 = .ok (.iload_n 2, 1) := by decide +kernel
theorem dX4_findChains_15 : decode cX4_findChains 15 = .ok (.aload_n 0, 1) := by decide +kernel
theorem dX4_findChains_16 : decode cX4_findChains 16 = .ok (.getfield 13, 3) := by decide +kernel
theorem dX4_findChains_19 : decode cX4_findChains 19 = .ok (.iload_n 1, 1) := by decide +kernel
theorem dX4_findChains_20 : decode cX4_findChains 20 = .ok (.aaload, 1) := by decide +kernel
theorem dX4_findChains_21 : decode cX4_findChains 21 = .ok (.iload_n 2, 1) := by decide +kernel
theorem dX4_findChains_22 : decode cX4_findChains 22 = .ok (.iaload, 1) := by decide +kernel
theorem dX4_findChains_23 : decode cX4_findChains 23 = .ok (.iconst (-1), 1) := by decide +kernel
theorem dX4_findChains_24 : decode cX4_findChains 24 = .ok (.if_icmp .ne 8, 3) := by decide +kernel
theorem dX4_findChains_27 : decode cX4_findChains 27 = .ok (.ldc 88, 2) := by decide +kernel
theorem dX4_findChains_29 : decode cX4_findChains 29 = .ok (.goto 11, 3) := by decide +kernel
theorem dX4_findChains_32 : decode cX4_findChains 32 = .ok (.aload_n 0, 1) := by decide +kernel
theorem dX4_findChains_33 : decode cX4_findChains 33 = .ok (.getfield 13, 3) := by decide +kernel
theorem dX4_findChains_36 : decode cX4_findChains 36 = .ok (.iload_n 1, 1) := by decide +kernel
theorem dX4_findChains_37 : decode cX4_findChains 37 = .ok (.aaload, 1) := by decide +kernel
theorem dX4_findChains_38 : decode cX4_findChains 38 = .ok (.iload_n 2, 1) := by decide +kernel
theorem dX4_findChains_39 : decode cX4_findChains 39 = .ok (.iaload, 1) := by decide +kernel
theorem dX4_findChains_40 : decode cX4_findChains 40 = .ok (.iastore, 1) := by decide +kernel
theorem dX4_findChains_41 : decode cX4_findChains 41 = .ok (.aload_n 0, 1) := by decide +kernel
theorem dX4_findChains_42 : decode cX4_findChains 42 = .ok (.getfield 28, 3) := by decide +kernel
theorem dX4_findChains_45 : decode cX4_findChains 45 = .ok (.iload_n 2, 1) := by decide +kernel
theorem dX4_findChains_46 : decode cX4_findChains 46 = .ok (.iconst (-1), 1) := by decide +kernel
theorem dX4_findChains_47 : decode cX4_findChains 47 = .ok (.iastore, 1) := by decide +kernel
theorem dX4_findChains_48 : decode cX4_findChains 48 = .ok (.iinc 2 1, 3) := by decide +kernel
theorem dX4_findChains_51 : decode cX4_findChains 51 = .ok (.goto (-49), 3) := by decide +kernel
theorem dX4_findChains_54 : decode cX4_findChains 54 = .ok (.iconst 0, 1) := by decide +kernel
theorem dX4_findChains_55 : decode cX4_findChains 55 = .ok (.istore_n 2, 1) := by decide +kernel
theorem dX4_findChains_56 : decode cX4_findChains 56 = .ok (.iload_n 2, 1) := by decide +kernel
theorem dX4_findChains_57 : decode cX4_findChains 57 = .ok (.aload_n 0, 1) := by decide +kernel
theorem dX4_findChains_58 : decode cX4_findChains 58 = .ok (.getfield 44, 3) := by decide +kernel
theorem dX4_findChains_61 : decode cX4_findChains 61 = .ok (.if_icmp .ge 23, 3) := by decide +kernel
theorem dX4_findChains_64 : decode cX4_findChains 64 = .ok (.aload_n 0, 1) := by decide +kernel
theorem dX4_findChains_65 : decode cX4_findChains 65 = .ok (.getfield 21, 3) := by decide +kernel
theorem dX4_findChains_68 : decode cX4_findChains 68 = .ok (.iload_n 2, 1) := by decide +kernel
theorem dX4_findChains_69 : decode cX4_findChains 69 = .ok (.iaload, 1) := by decide +kernel
theorem dX4_findChains_70 : decode cX4_findChains 70 = .ok (.ifCond .ne 8, 3) := by decide +kernel
theorem dX4_findChains_73 : decode cX4_findChains 73 = .ok (.aload_n 0, 1) := by decide +kernel
theorem dX4_findChains_74 : decode cX4_findChains 74 = .ok (.iload_n 2, 1) := by decide +kernel
theorem dX4_findChains_75 : decode cX4_findChains 75 = .ok (.invokevirtual 89, 3) := by decide +kernel
theorem dX4_findChains_78 : decode cX4_findChains 78 = .ok (.iinc 2 1, 3) := by decide +kernel
theorem dX4_findChains_81 : decode cX4_findChains 81 = .ok (.goto (-25), 3) := by decide +kernel
theorem dX4_findChains_84 : decode cX4_findChains 84 = .ok (.iconst 0, 1) := by decide +kernel
theorem dX4_findChains_85 : decode cX4_findChains 85 = .ok (.istore_n 2, 1) := by decide +kernel
theorem dX4_findChains_86 : decode cX4_findChains 86 = .ok (.iload_n 2, 1) := by decide +kernel
theorem dX4_findChains_87 : decode cX4_findChains 87 = .ok (.aload_n 0, 1) := by decide +kernel
theorem dX4_findChains_88 : decode cX4_findChains 88 = .ok (.getfield 44, 3) := by decide +kernel
theorem dX4_findChains_91 : decode cX4_findChains 91 = .ok (.if_icmp .ge 50, 3) := by decide +kernel
theorem dX4_findChains_94 : decode cX4_findChains 94 = .ok (.iconst 0, 1) := by decide +kernel
theorem dX4_findChains_95 : decode cX4_findChains 95 = .ok (.istore_n 3, 1) := by decide +kernel
theorem dX4_findChains_96 : decode cX4_findChains 96 = .ok (.iload_n 3, 1) := by decide +kernel
theorem dX4_findChains_97 : decode cX4_findChains 97 = .ok (.aload_n 0, 1) := by decide +kernel
theorem dX4_findChains_98 : decode cX4_findChains 98 = .ok (.getfield 44, 3) := by decide +kernel
theorem dX4_findChains_101 : decode cX4_findChains 101 = .ok (.if_icmp .ge 34, 3) := by decide +kernel
theorem dX4_findChains_104 : decode cX4_findChains 104 = .ok (.aload_n 0, 1) := by decide +kernel
theorem dX4_findChains_105 : decode cX4_findChains 105 = .ok (.getfield 21, 3) := by decide +kernel
theorem dX4_findChains_108 : decode cX4_findChains 108 = .ok (.iload_n 3, 1) := by decide +kernel
theorem dX4_findChains_109 : decode cX4_findChains 109 = .ok (.iaload, 1) := by decide +kernel
theorem dX4_findChains_110 : decode cX4_findChains 110 = .ok (.ifCond .ne 19, 3) := by decide +kernel
theorem dX4_findChains_113 : decode cX4_findChains 113 = .ok (.aload_n 0, 1) := by decide +kernel
theorem dX4_findChains_114 : decode cX4_findChains 114 = .ok (.getfield 25, 3) := by decide +kernel
theorem dX4_findChains_117 : decode cX4_findChains 117 = .ok (.iload_n 3, 1) := by decide +kernel
theorem dX4_findChains_118 : decode cX4_findChains 118 = .ok (.iaload, 1) := by decide +kernel
theorem dX4_findChains_119 : decode cX4_findChains 119 = .ok (.ldc 88, 2) := by decide +kernel
theorem dX4_findChains_121 : decode cX4_findChains 121 = .ok (.if_icmp .eq 8, 3) := by decide +kernel
theorem dX4_findChains_124 : decode cX4_findChains 124 = .ok (.aload_n 0, 1) := by decide +kernel
theorem dX4_findChains_125 : decode cX4_findChains 125 = .ok (.iload_n 3, 1) := by decide +kernel
theorem dX4_findChains_126 : decode cX4_findChains 126 = .ok (.invokevirtual 92, 3) := by decide +kernel
theorem dX4_findChains_129 : decode cX4_findChains 129 = .ok (.iinc 3 1, 3) := by decide +kernel
theorem dX4_findChains_132 : decode cX4_findChains 132 = .ok (.goto (-36), 3) := by decide +kernel
theorem dX4_findChains_135 : decode cX4_findChains 135 = .ok (.iinc 2 1, 3) := by decide +kernel
theorem dX4_findChains_138 : decode cX4_findChains 138 = .ok (.goto (-52), 3) := by decide +kernel
theorem dX4_findChains_141 : decode cX4_findChains 141 = .ok (.return_, 1) := by decide +kernel
set_option maxRecDepth 20000 in
theorem ggX4_findMovers_J7_fill_53178 : GoodIn wsX4_findMovers wsJ7_fill_53178 := goodIn_r _ [7] (by decide +kernel) (by decide +kernel)
set_option maxRecDepth 20000 in
theorem gX4_findMovers_J7_fill_53178 : GoodIn wsX4_findMovers (va_wsS RX4 53 yJ7_fill_53178 wsJ7_fill_53178) := goodIn_app (goodIn_of _ (by decide +kernel)) ggX4_findMovers_J7_fill_53178
set_option maxRecDepth 20000 in
theorem ggX4_findMovers_X4_offerMover : GoodIn wsX4_findMovers wsX4_offerMover := goodIn_r _ [12, 13, 14, 1, 15, 16, 17, 18, 19, 20, 21, 22, 23, 24, 25] (by decide +kernel) (by decide +kernel)
set_option maxRecDepth 20000 in
theorem gX4_findMovers_X4_offerMover : GoodIn wsX4_findMovers (wsV RX4 95 RX4 yX4_offerMover wsX4_offerMover) := goodIn_app (goodIn_of _ (by decide +kernel)) ggX4_findMovers_X4_offerMover
theorem dX4_findMovers_0 : decode cX4_findMovers 0 = .ok (.aload_n 0, 1) := by decide +kernel
theorem dX4_findMovers_1 : decode cX4_findMovers 1 = .ok (.getfield 34, 3) := by decide +kernel
theorem dX4_findMovers_4 : decode cX4_findMovers 4 = .ok (.iload_n 1, 1) := by decide +kernel
theorem dX4_findMovers_5 : decode cX4_findMovers 5 = .ok (.aaload, 1) := by decide +kernel
theorem dX4_findMovers_6 : decode cX4_findMovers 6 = .ok (.iconst (-1), 1) := by decide +kernel
theorem dX4_findMovers_7 : decode cX4_findMovers 7 = .ok (.invokestatic 53, 3) := by decide +kernel
theorem dX4_findMovers_10 : decode cX4_findMovers 10 = .ok (.iconst 0, 1) := by decide +kernel
theorem dX4_findMovers_11 : decode cX4_findMovers 11 = .ok (.istore_n 2, 1) := by decide +kernel
theorem dX4_findMovers_12 : decode cX4_findMovers 12 = .ok (.iload_n 2, 1) := by decide +kernel
theorem dX4_findMovers_13 : decode cX4_findMovers 13 = .ok (.aload_n 0, 1) := by decide +kernel
theorem dX4_findMovers_14 : decode cX4_findMovers 14 = .ok (.getfield 41, 3) := by decide +kernel
theorem dX4_findMovers_17 : decode cX4_findMovers 17 = .ok (.if_icmp .ge 26, 3) := by decide +kernel
theorem dX4_findMovers_20 : decode cX4_findMovers 20 = .ok (.aload_n 0, 1) := by decide +kernel
theorem dX4_findMovers_21 : decode cX4_findMovers 21 = .ok (.getfield 18, 3) := by decide +kernel
theorem dX4_findMovers_24 : decode cX4_findMovers 24 = .ok (.iload_n 2, 1) := by decide +kernel
theorem dX4_findMovers_25 : decode cX4_findMovers 25 = .ok (.aaload, 1) := by decide +kernel
theorem dX4_findMovers_26 : decode cX4_findMovers 26 = .ok (.iload_n 1, 1) := by decide +kernel
theorem dX4_findMovers_27 : decode cX4_findMovers 27 = .ok (.iaload, 1) := by decide +kernel
theorem dX4_findMovers_28 : decode cX4_findMovers 28 = .ok (.ifCond .le 9, 3) := by decide +kernel
theorem dX4_findMovers_31 : decode cX4_findMovers 31 = .ok (.aload_n 0, 1) := by decide +kernel
theorem dX4_findMovers_32 : decode cX4_findMovers 32 = .ok (.iload_n 2, 1) := by decide +kernel
theorem dX4_findMovers_33 : decode cX4_findMovers 33 = .ok (.iload_n 1, 1) := by decide +kernel
theorem dX4_findMovers_34 : decode cX4_findMovers 34 = .ok (.invokevirtual 95, 3) := by decide +kernel
theorem dX4_findMovers_37 : decode cX4_findMovers 37 = .ok (.iinc 2 1, 3) := by decide +kernel
theorem dX4_findMovers_40 : decode cX4_findMovers 40 = .ok (.goto (-28), 3) := by decide +kernel
theorem dX4_findMovers_43 : decode cX4_findMovers 43 = .ok (.return_, 1) := by decide +kernel
theorem dX4_offerMover_0 : decode cX4_offerMover 0 = .ok (.iconst 0, 1) := by decide +kernel
theorem dX4_offerMover_1 : decode cX4_offerMover 1 = .ok (.istore_n 3, 1) := by decide +kernel
theorem dX4_offerMover_2 : decode cX4_offerMover 2 = .ok (.iload_n 3, 1) := by decide +kernel
theorem dX4_offerMover_3 : decode cX4_offerMover 3 = .ok (.aload_n 0, 1) := by decide +kernel
theorem dX4_offerMover_4 : decode cX4_offerMover 4 = .ok (.getfield 44, 3) := by decide +kernel
theorem dX4_offerMover_7 : decode cX4_offerMover 7 = .ok (.if_icmp .gt 92, 3) := by decide +kernel
theorem dX4_offerMover_10 : decode cX4_offerMover 10 = .ok (.aload_n 0, 1) := by decide +kernel
theorem dX4_offerMover_11 : decode cX4_offerMover 11 = .ok (.getfield 13, 3) := by decide +kernel
theorem dX4_offerMover_14 : decode cX4_offerMover 14 = .ok (.iload_n 1, 1) := by decide +kernel
theorem dX4_offerMover_15 : decode cX4_offerMover 15 = .ok (.aaload, 1) := by decide +kernel
theorem dX4_offerMover_16 : decode cX4_offerMover 16 = .ok (.iload_n 3, 1) := by decide +kernel
theorem dX4_offerMover_17 : decode cX4_offerMover 17 = .ok (.iaload, 1) := by decide +kernel
theorem dX4_offerMover_18 : decode cX4_offerMover 18 = .ok (.aload_n 0, 1) := by decide +kernel
theorem dX4_offerMover_19 : decode cX4_offerMover 19 = .ok (.getfield 13, 3) := by decide +kernel
theorem dX4_offerMover_22 : decode cX4_offerMover 22 = .ok (.iload_n 1, 1) := by decide +kernel
theorem dX4_offerMover_23 : decode cX4_offerMover 23 = .ok (.aaload, 1) := by decide +kernel
theorem dX4_offerMover_24 : decode cX4_offerMover 24 = .ok (.iload_n 2, 1) := by decide +kernel
theorem dX4_offerMover_25 : decode cX4_offerMover 25 = .ok (.iaload, 1) := by decide +kernel
theorem dX4_offerMover_26 : decode cX4_offerMover 26 = .ok (.isub, 1) := by decide +kernel
theorem dX4_offerMover_27 : decode cX4_offerMover 27 = .ok (.istore 4, 2) := by decide +kernel
theorem dX4_offerMover_29 : decode cX4_offerMover 29 = .ok (.iload_n 3, 1) := by decide +kernel
theorem dX4_offerMover_30 : decode cX4_offerMover 30 = .ok (.iload_n 2, 1) := by decide +kernel
theorem dX4_offerMover_31 : decode cX4_offerMover 31 = .ok (.if_icmp .eq 62, 3) := by decide +kernel
theorem dX4_offerMover_34 : decode cX4_offerMover 34 = .ok (.aload_n 0, 1) := by decide +kernel
theorem dX4_offerMover_35 : decode cX4_offerMover 35 = .ok (.getfield 13, 3) := by decide +kernel
theorem dX4_offerMover_38 : decode cX4_offerMover 38 = .ok (.iload_n 1, 1) := by decide +kernel
theorem dX4_offerMover_39 : decode cX4_offerMover 39 = .ok (.aaload, 1) := by decide +kernel
theorem dX4_offerMover_40 : decode cX4_offerMover 40 = .ok (.iload_n 3, 1) := by decide +kernel
theorem dX4_offerMover_41 : decode cX4_offerMover 41 = .ok (.iaload, 1) := by decide +kernel
theorem dX4_offerMover_42 : decode cX4_offerMover 42 = .ok (.iconst (-1), 1) := by decide +kernel
theorem dX4_offerMover_43 : decode cX4_offerMover 43 = .ok (.if_icmp .ne 6, 3) := by decide +kernel
theorem dX4_offerMover_46 : decode cX4_offerMover 46 = .ok (.goto 47, 3) := by decide +kernel
theorem dX4_offerMover_49 : decode cX4_offerMover 49 = .ok (.aload_n 0, 1) := by decide +kernel
theorem dX4_offerMover_50 : decode cX4_offerMover 50 = .ok (.getfield 34, 3) := by decide +kernel
theorem dX4_offerMover_53 : decode cX4_offerMover 53 = .ok (.iload_n 2, 1) := by decide +kernel
theorem dX4_offerMover_54 : decode cX4_offerMover 54 = .ok (.aaload, 1) := by decide +kernel
theorem dX4_offerMover_55 : decode cX4_offerMover 55 = .ok (.iload_n 3, 1) := by decide +kernel
theorem dX4_offerMover_56 : decode cX4_offerMover 56 = .ok (.iaload, 1) := by decide +kernel
theorem dX4_offerMover_57 : decode cX4_offerMover 57 = .ok (.iconst (-1), 1) := by decide +kernel
theorem dX4_offerMover_58 : decode cX4_offerMover 58 = .ok (.if_icmp .eq 16, 3) := by decide +kernel
theorem dX4_offerMover_61 : decode cX4_offerMover 61 = .ok (.iload 4, 2) := by decide +kernel
theorem dX4_offerMover_63 : decode cX4_offerMover 63 = .ok (.aload_n 0, 1) := by decide +kernel
theorem dX4_offerMover_64 : decode cX4_offerMover 64 = .ok (.getfield 31, 3) := by decide +kernel
theorem dX4_offerMover_67 : decode cX4_offerMover 67 = .ok (.iload_n 2, 1) := by decide +kernel
theorem dX4_offerMover_68 : decode cX4_offerMover 68 = .ok (.aaload, 1) := by decide +kernel
theorem dX4_offerMover_69 : decode cX4_offerMover 69 = .ok (.iload_n 3, 1) := by decide +kernel
theorem dX4_offerMover_70 : decode cX4_offerMover 70 = .ok (.iaload, 1) := by decide +kernel
theorem dX4_offerMover_71 : decode cX4_offerMover 71 = .ok (.if_icmp .le 22, 3) := by decide +kernel
theorem dX4_offerMover_74 : decode cX4_offerMover 74 = .ok (.aload_n 0, 1) := by decide +kernel
theorem dX4_offerMover_75 : decode cX4_offerMover 75 = .ok (.getfield 34, 3) := by decide +kernel
theorem dX4_offerMover_78 : decode cX4_offerMover 78 = .ok (.iload_n 2, 1) := by decide +kernel
theorem dX4_offerMover_79 : decode cX4_offerMover 79 = .ok (.aaload, 1) := by decide +kernel
theorem dX4_offerMover_80 : decode cX4_offerMover 80 = .ok (.iload_n 3, 1) := by decide +kernel
theorem dX4_offerMover_81 : decode cX4_offerMover 81 = .ok (.iload_n 1, 1) := by decide +kernel
theorem dX4_offerMover_82 : decode cX4_offerMover 82 = .ok (.iastore, 1) := by decide +kernel
theorem dX4_offerMover_83 : decode cX4_offerMover 83 = .ok (.aload_n 0, 1) := by decide +kernel
theorem dX4_offerMover_84 : decode cX4_offerMover 84 = .ok (.getfield 31, 3) := by decide +kernel
theorem dX4_offerMover_87 : decode cX4_offerMover 87 = .ok (.iload_n 2, 1) := by decide +kernel
theorem dX4_offerMover_88 : decode cX4_offerMover 88 = .ok (.aaload, 1) := by decide +kernel
theorem dX4_offerMover_89 : decode cX4_offerMover 89 = .ok (.iload_n 3, 1) := by decide +kernel
theorem dX4_offerMover_90 : decode cX4_offerMover 90 = .ok (.iload 4, 2) := by decide +kernel
theorem dX4_offerMover_92 : decode cX4_offerMover 92 = .ok (.iastore, 1) := by decide +kernel
theorem dX4_offerMover_93 : decode cX4_offerMover 93 = .ok (.iinc 3 1, 3) := by decide +kernel
theorem dX4_offerMover_96 : decode cX4_offerMover 96 = .ok (.goto (-94), 3) := by decide +kernel
theorem dX4_offerMover_99 : decode cX4_offerMover 99 = .ok (.return_, 1) := by decide +kernel
theorem dX4_lengthenFrom_0 : decode cX4_lengthenFrom 0 = .ok (.iconst 0, 1) := by decide +kernel
theorem dX4_lengthenFrom_1 : decode cX4_lengthenFrom 1 = .ok (.istore_n 2, 1) := by decide +kernel
theorem dX4_lengthenFrom_2 : decode cX4_lengthenFrom 2 = .ok (.iload_n 2, 1) := by decide +kernel
theorem dX4_lengthenFrom_3 : decode cX4_lengthenFrom 3 = .ok (.aload_n 0, 1) := by decide +kernel
theorem dX4_lengthenFrom_4 : decode cX4_lengthenFrom 4 = .ok (.getfield 44, 3) := by decide +kernel
theorem dX4_lengthenFrom_7 : decode cX4_lengthenFrom 7 = .ok (.if_icmp .gt 73, 3) := by decide +kernel
theorem dX4_lengthenFrom_10 : decode cX4_lengthenFrom 10 = .ok (.aload_n 0, 1) := by decide +kernel
theorem dX4_lengthenFrom_11 : decode cX4_lengthenFrom 11 = .ok (.getfield 34, 3) := by decide +kernel
theorem dX4_lengthenFrom_14 : decode cX4_lengthenFrom 14 = .ok (.iload_n 1, 1) := by decide +kernel
theorem dX4_lengthenFrom_15 : decode cX4_lengthenFrom 15 = .ok (.aaload, 1) := by decide +kernel
theorem dX4_lengthenFrom_16 : decode cX4_lengthenFrom 16 = .ok (.iload_n 2, 1) := by decide +kernel
theorem dX4_lengthenFrom_17 : decode cX4_lengthenFrom 17 = .ok (.iaload, 1) := by decide +kernel
theorem dX4_lengthenFrom_18 : decode cX4_lengthenFrom 18 = .ok (.iconst (-1), 1) := by decide +kernel
theorem dX4_lengthenFrom_19 : decode cX4_lengthenFrom 19 = .ok (.if_icmp .eq 55, 3) := by decide +kernel
theorem dX4_lengthenFrom_22 : decode cX4_lengthenFrom 22 = .ok (.aload_n 0, 1) := by decide +kernel
theorem dX4_lengthenFrom_23 : decode cX4_lengthenFrom 23 = .ok (.getfield 25, 3) := by decide +kernel
theorem dX4_lengthenFrom_26 : decode cX4_lengthenFrom 26 = .ok (.iload_n 1, 1) := by decide +kernel
theorem dX4_lengthenFrom_27 : decode cX4_lengthenFrom 27 = .ok (.iaload, 1) := by decide +kernel
theorem dX4_lengthenFrom_28 : decode cX4_lengthenFrom 28 = .ok (.aload_n 0, 1) := by decide +kernel
theorem dX4_lengthenFrom_29 : decode cX4_lengthenFrom 29 = .ok (.getfield 31, 3) := by decide +kernel
theorem dX4_lengthenFrom_32 : decode cX4_lengthenFrom 32 = .ok (.iload_n 1, 1) := by decide +kernel
theorem dX4_lengthenFrom_33 : decode cX4_lengthenFrom 33 = .ok (.aaload, 1) := by decide +kernel
theorem dX4_lengthenFrom_34 : decode cX4_lengthenFrom 34 = .ok (.iload_n 2, 1) := by decide +kernel
theorem dX4_lengthenFrom_35 : decode cX4_lengthenFrom 35 = .ok (.iaload, 1) := by decide +kernel
theorem dX4_lengthenFrom_36 : decode cX4_lengthenFrom 36 = .ok (.iadd, 1) := by decide +kernel
theorem dX4_lengthenFrom_37 : decode cX4_lengthenFrom 37 = .ok (.aload_n 0, 1) := by decide +kernel
theorem dX4_lengthenFrom_38 : decode cX4_lengthenFrom 38 = .ok (.getfield 25, 3) := by decide +kernel
theorem dX4_lengthenFrom_41 : decode cX4_lengthenFrom 41 = .ok (.iload_n 2, 1) := by decide +kernel
theorem dX4_lengthenFrom_42 : decode cX4_lengthenFrom 42 = .ok (.iaload, 1) := by decide +kernel
theorem dX4_lengthenFrom_43 : decode cX4_lengthenFrom 43 = .ok (.if_icmp .le 31, 3) := by decide +kernel
theorem dX4_lengthenFrom_46 : decode cX4_lengthenFrom 46 = .ok (.aload_n 0, 1) := by decide +kernel
theorem dX4_lengthenFrom_47 : decode cX4_lengthenFrom 47 = .ok (.getfield 25, 3) := by decide +kernel
theorem dX4_lengthenFrom_50 : decode cX4_lengthenFrom 50 = .ok (.iload_n 2, 1) := by decide +kernel
theorem dX4_lengthenFrom_51 : decode cX4_lengthenFrom 51 = .ok (.aload_n 0, 1) := by decide +kernel
theorem dX4_lengthenFrom_52 : decode cX4_lengthenFrom 52 = .ok (.getfield 25, 3) := by decide +kernel
theorem dX4_lengthenFrom_55 : decode cX4_lengthenFrom 55 = .ok (.iload_n 1, 1) := by decide +kernel
theorem dX4_lengthenFrom_56 : decode cX4_lengthenFrom 56 = .ok (.iaload, 1) := by decide +kernel
theorem dX4_lengthenFrom_57 : decode cX4_lengthenFrom 57 = .ok (.aload_n 0, 1) := by decide +kernel
theorem dX4_lengthenFrom_58 : decode cX4_lengthenFrom 58 = .ok (.getfield 31, 3) := by decide +kernel
theorem dX4_lengthenFrom_61 : decode cX4_lengthenFrom 61 = .ok (.iload_n 1, 1) := by decide +kernel
theorem dX4_lengthenFrom_62 : decode cX4_lengthenFrom 62 = .ok (.aaload, 1) := by decide +kernel
theorem dX4_lengthenFrom_63 : decode cX4_lengthenFrom 63 = .ok (.iload_n 2, 1) := by decide +kernel
theorem dX4_lengthenFrom_64 : decode cX4_lengthenFrom 64 = .ok (.iaload, 1) := by decide +kernel
theorem dX4_lengthenFrom_65 : decode cX4_lengthenFrom 65 = .ok (.iadd, 1) := by decide +kernel
theorem dX4_lengthenFrom_66 : decode cX4_lengthenFrom 66 = .ok (.iastore, 1) := by decide +kernel
theorem dX4_lengthenFrom_67 : decode cX4_lengthenFrom 67 = .ok (.aload_n 0, 1) := by decide +kernel
theorem dX4_lengthenFrom_68 : decode cX4_lengthenFrom 68 = .ok (.getfield 28, 3) := by decide +kernel
theorem dX4_lengthenFrom_71 : decode cX4_lengthenFrom 71 = .ok (.iload_n 2, 1) := by decide +kernel
theorem dX4_lengthenFrom_72 : decode cX4_lengthenFrom 72 = .ok (.iload_n 1, 1) := by decide +kernel
theorem dX4_lengthenFrom_73 : decode cX4_lengthenFrom 73 = .ok (.iastore, 1) := by decide +kernel
theorem dX4_lengthenFrom_74 : decode cX4_lengthenFrom 74 = .ok (.iinc 2 1, 3) := by decide +kernel
theorem dX4_lengthenFrom_77 : decode cX4_lengthenFrom 77 = .ok (.goto (-75), 3) := by decide +kernel
theorem dX4_lengthenFrom_80 : decode cX4_lengthenFrom 80 = .ok (.return_, 1) := by decide +kernel
theorem dX4_bestLast_0 : decode cX4_bestLast 0 = .ok (.aload_n 0, 1) := by decide +kernel
theorem dX4_bestLast_1 : decode cX4_bestLast 1 = .ok (.getfield 44, 3) := by decide +kernel
theorem dX4_bestLast_4 : decode cX4_bestLast 4 = .ok (.istore_n 1, 1) := by decide +kernel
theorem dX4_bestLast_5 : decode cX4_bestLast 5 = .ok (.iconst 0, 1) := by decide +kernel
theorem dX4_bestLast_6 : decode cX4_bestLast 6 = .ok (.istore_n 2, 1) := by decide +kernel
theorem dX4_bestLast_7 : decode cX4_bestLast 7 = .ok (.iload_n 2, 1) := by decide +kernel
theorem dX4_bestLast_8 : decode cX4_bestLast 8 = .ok (.aload_n 0, 1) := by decide +kernel
theorem dX4_bestLast_9 : decode cX4_bestLast 9 = .ok (.getfield 44, 3) := by decide +kernel
theorem dX4_bestLast_12 : decode cX4_bestLast 12 = .ok (.if_icmp .ge 35, 3) := by decide +kernel
theorem dX4_bestLast_15 : decode cX4_bestLast 15 = .ok (.aload_n 0, 1) := by decide +kernel
theorem dX4_bestLast_16 : decode cX4_bestLast 16 = .ok (.getfield 21, 3) := by decide +kernel
theorem dX4_bestLast_19 : decode cX4_bestLast 19 = .ok (.iload_n 2, 1) := by decide +kernel
theorem dX4_bestLast_20 : decode cX4_bestLast 20 = .ok (.iaload, 1) := by decide +kernel
theorem dX4_bestLast_21 : decode cX4_bestLast 21 = .ok (.ifCond .le 20, 3) := by decide +kernel
theorem dX4_bestLast_24 : decode cX4_bestLast 24 = .ok (.aload_n 0, 1) := by decide +kernel
theorem dX4_bestLast_25 : decode cX4_bestLast 25 = .ok (.getfield 25, 3) := by decide +kernel
theorem dX4_bestLast_28 : decode cX4_bestLast 28 = .ok (.iload_n 2, 1) := by decide +kernel
theorem dX4_bestLast_29 : decode cX4_bestLast 29 = .ok (.iaload, 1) := by decide +kernel
theorem dX4_bestLast_30 : decode cX4_bestLast 30 = .ok (.aload_n 0, 1) := by decide +kernel
theorem dX4_bestLast_31 : decode cX4_bestLast 31 = .ok (.getfield 25, 3) := by decide +kernel
theorem dX4_bestLast_34 : decode cX4_bestLast 34 = .ok (.iload_n 1, 1) := by decide +kernel
theorem dX4_bestLast_35 : decode cX4_bestLast 35 = .ok (.iaload, 1) := by decide +kernel
theorem dX4_bestLast_36 : decode cX4_bestLast 36 = .ok (.if_icmp .le 5, 3) := by decide +kernel
theorem dX4_bestLast_39 : decode cX4_bestLast 39 = .ok (.iload_n 2, 1) := by decide +kernel
theorem dX4_bestLast_40 : decode cX4_bestLast 40 = .ok (.istore_n 1, 1) := by decide +kernel
theorem dX4_bestLast_41 : decode cX4_bestLast 41 = .ok (.iinc 2 1, 3) := by decide +kernel
theorem dX4_bestLast_44 : decode cX4_bestLast 44 = .ok (.goto (-37), 3) := by decide +kernel
theorem dX4_bestLast_47 : decode cX4_bestLast 47 = .ok (.iload_n 1, 1) := by decide +kernel
theorem dX4_bestLast_48 : decode cX4_bestLast 48 = .ok (.ireturn, 1) := by decide +kernel
theorem dX4_widthOf_0 : decode cX4_widthOf 0 = .ok (.iload_n 2, 1) := by decide +kernel
theorem dX4_widthOf_1 : decode cX4_widthOf 1 = .ok (.aload_n 0, 1) := by decide +kernel
theorem dX4_widthOf_2 : decode cX4_widthOf 2 = .ok (.getfield 21, 3) := by decide +kernel
theorem dX4_widthOf_5 : decode cX4_widthOf 5 = .ok (.iload_n 1, 1) := by decide +kernel
theorem dX4_widthOf_6 : decode cX4_widthOf 6 = .ok (.iaload, 1) := by decide +kernel
theorem dX4_widthOf_7 : decode cX4_widthOf 7 = .ok (.invokestatic 47, 3) := by decide +kernel
theorem dX4_widthOf_10 : decode cX4_widthOf 10 = .ok (.istore_n 3, 1) := by decide +kernel
theorem dX4_widthOf_11 : decode cX4_widthOf 11 = .ok (.iload_n 1, 1) := by decide +kernel
theorem dX4_widthOf_12 : decode cX4_widthOf 12 = .ok (.istore 4, 2) := by decide +kernel
theorem dX4_widthOf_14 : decode cX4_widthOf 14 = .ok (.iconst 0, 1) := by decide +kernel
theorem dX4_widthOf_15 : decode cX4_widthOf 15 = .ok (.istore 5, 2) := by decide +kernel
theorem dX4_widthOf_17 : decode cX4_widthOf 17 = .ok (.iload 5, 2) := by decide +kernel
theorem dX4_widthOf_19 : decode cX4_widthOf 19 = .ok (.aload_n 0, 1) := by decide +kernel
theorem dX4_widthOf_20 : decode cX4_widthOf 20 = .ok (.getfield 44, 3) := by decide +kernel
theorem dX4_widthOf_23 : decode cX4_widthOf 23 = .ok (.if_icmp .ge 56, 3) := by decide +kernel
theorem dX4_widthOf_26 : decode cX4_widthOf 26 = .ok (.aload_n 0, 1) := by decide +kernel
theorem dX4_widthOf_27 : decode cX4_widthOf 27 = .ok (.getfield 28, 3) := by decide +kernel
theorem dX4_widthOf_30 : decode cX4_widthOf 30 = .ok (.iload 4, 2) := by decide +kernel
theorem dX4_widthOf_32 : decode cX4_widthOf 32 = .ok (.iaload, 1) := by decide +kernel
theorem dX4_widthOf_33 : decode cX4_widthOf 33 = .ok (.iconst (-1), 1) := by decide +kernel
theorem dX4_widthOf_34 : decode cX4_widthOf 34 = .ok (.if_icmp .eq 45, 3) := by decide +kernel
theorem dX4_widthOf_37 : decode cX4_widthOf 37 = .ok (.aload_n 0, 1) := by decide +kernel
theorem dX4_widthOf_38 : decode cX4_widthOf 38 = .ok (.getfield 28, 3) := by decide +kernel
theorem dX4_widthOf_41 : decode cX4_widthOf 41 = .ok (.iload 4, 2) := by decide +kernel
theorem dX4_widthOf_43 : decode cX4_widthOf 43 = .ok (.iaload, 1) := by decide +kernel
theorem dX4_widthOf_44 : decode cX4_widthOf 44 = .ok (.istore 6, 2) := by decide +kernel
theorem dX4_widthOf_46 : decode cX4_widthOf 46 = .ok (.iload_n 3, 1) := by decide +kernel
theorem dX4_widthOf_47 : decode cX4_widthOf 47 = .ok (.aload_n 0, 1) := by decide +kernel
theorem dX4_widthOf_48 : decode cX4_widthOf 48 = .ok (.getfield 18, 3) := by decide +kernel
theorem dX4_widthOf_51 : decode cX4_widthOf 51 = .ok (.aload_n 0, 1) := by decide +kernel
theorem dX4_widthOf_52 : decode cX4_widthOf 52 = .ok (.getfield 34, 3) := by decide +kernel
theorem dX4_widthOf_55 : decode cX4_widthOf 55 = .ok (.iload 6, 2) := by decide +kernel
theorem dX4_widthOf_57 : decode cX4_widthOf 57 = .ok (.aaload, 1) := by decide +kernel
theorem dX4_widthOf_58 : decode cX4_widthOf 58 = .ok (.iload 4, 2) := by decide +kernel
theorem dX4_widthOf_60 : decode cX4_widthOf 60 = .ok (.iaload, 1) := by decide +kernel
theorem dX4_widthOf_61 : decode cX4_widthOf 61 = .ok (.aaload, 1) := by decide +kernel
theorem dX4_widthOf_62 : decode cX4_widthOf 62 = .ok (.iload 6, 2) := by decide +kernel
theorem dX4_widthOf_64 : decode cX4_widthOf 64 = .ok (.iaload, 1) := by decide +kernel
theorem dX4_widthOf_65 : decode cX4_widthOf 65 = .ok (.invokestatic 47, 3) := by decide +kernel
theorem dX4_widthOf_68 : decode cX4_widthOf 68 = .ok (.istore_n 3, 1) := by decide +kernel
theorem dX4_widthOf_69 : decode cX4_widthOf 69 = .ok (.iload 6, 2) := by decide +kernel
theorem dX4_widthOf_71 : decode cX4_widthOf 71 = .ok (.istore 4, 2) := by decide +kernel
theorem dX4_widthOf_73 : decode cX4_widthOf 73 = .ok (.iinc 5 1, 3) := by decide +kernel
theorem dX4_widthOf_76 : decode cX4_widthOf 76 = .ok (.goto (-59), 3) := by decide +kernel
theorem dX4_widthOf_79 : decode cX4_widthOf 79 = .ok (.iload_n 3, 1) := by decide +kernel
theorem dX4_widthOf_80 : decode cX4_widthOf 80 = .ok (.ireturn, 1) := by decide +kernel
theorem dX4_moveAlong_0 : decode cX4_moveAlong 0 = .ok (.aload_n 0, 1) := by decide +kernel
theorem dX4_moveAlong_1 : decode cX4_moveAlong 1 = .ok (.getfield 21, 3) := by decide +kernel
theorem dX4_moveAlong_4 : decode cX4_moveAlong 4 = .ok (.iload_n 2, 1) := by decide +kernel
theorem dX4_moveAlong_5 : decode cX4_moveAlong 5 = .ok (.dup2, 1) := by decide +kernel
theorem dX4_moveAlong_6 : decode cX4_moveAlong 6 = .ok (.iaload, 1) := by decide +kernel
theorem dX4_moveAlong_7 : decode cX4_moveAlong 7 = .ok (.iload_n 3, 1) := by decide +kernel
theorem dX4_moveAlong_8 : decode cX4_moveAlong 8 = .ok (.isub, 1) := by decide +kernel
theorem dX4_moveAlong_9 : decode cX4_moveAlong 9 = .ok (.iastore, 1) := by decide +kernel
theorem dX4_moveAlong_10 : decode cX4_moveAlong 10 = .ok (.iload_n 2, 1) := by decide +kernel
theorem dX4_moveAlong_11 : decode cX4_moveAlong 11 = .ok (.istore 4, 2) := by decide +kernel
theorem dX4_moveAlong_13 : decode cX4_moveAlong 13 = .ok (.iconst 0, 1) := by decide +kernel
theorem dX4_moveAlong_14 : decode cX4_moveAlong 14 = .ok (.istore 5, 2) := by decide +kernel
theorem dX4_moveAlong_16 : decode cX4_moveAlong 16 = .ok (.iload 5, 2) := by decide +kernel
theorem dX4_moveAlong_18 : decode cX4_moveAlong 18 = .ok (.aload_n 0, 1) := by decide +kernel
theorem dX4_moveAlong_19 : decode cX4_moveAlong 19 = .ok (.getfield 44, 3) := by decide +kernel
theorem dX4_moveAlong_22 : decode cX4_moveAlong 22 = .ok (.if_icmp .ge 77, 3) := by decide +kernel
theorem dX4_moveAlong_25 : decode cX4_moveAlong 25 = .ok (.aload_n 0, 1) := by decide +kernel
theorem dX4_moveAlong_26 : decode cX4_moveAlong 26 = .ok (.getfield 28, 3) := by decide +kernel
theorem dX4_moveAlong_29 : decode cX4_moveAlong 29 = .ok (.iload 4, 2) := by decide +kernel
theorem dX4_moveAlong_31 : decode cX4_moveAlong 31 = .ok (.iaload, 1) := by decide +kernel
theorem dX4_moveAlong_32 : decode cX4_moveAlong 32 = .ok (.iconst (-1), 1) := by decide +kernel
theorem dX4_moveAlong_33 : decode cX4_moveAlong 33 = .ok (.if_icmp .eq 66, 3) := by decide +kernel
theorem dX4_moveAlong_36 : decode cX4_moveAlong 36 = .ok (.aload_n 0, 1) := by decide +kernel
theorem dX4_moveAlong_37 : decode cX4_moveAlong 37 = .ok (.getfield 28, 3) := by decide +kernel
theorem dX4_moveAlong_40 : decode cX4_moveAlong 40 = .ok (.iload 4, 2) := by decide +kernel
theorem dX4_moveAlong_42 : decode cX4_moveAlong 42 = .ok (.iaload, 1) := by decide +kernel
theorem dX4_moveAlong_43 : decode cX4_moveAlong 43 = .ok (.istore 6, 2) := by decide +kernel
theorem dX4_moveAlong_45 : decode cX4_moveAlong 45 = .ok (.aload_n 0, 1) := by decide +kernel
theorem dX4_moveAlong_46 : decode cX4_moveAlong 46 = .ok (.getfield 18, 3) := by decide +kernel
theorem dX4_moveAlong_49 : decode cX4_moveAlong 49 = .ok (.aload_n 0, 1) := by decide +kernel
theorem dX4_moveAlong_50 : decode cX4_moveAlong 50 = .ok (.getfield 34, 3) := by decide +kernel
theorem dX4_moveAlong_53 : decode cX4_moveAlong 53 = .ok (.iload 6, 2) := by decide +kernel
theorem dX4_moveAlong_55 : decode cX4_moveAlong 55 = .ok (.aaload, 1) := by decide +kernel
theorem dX4_moveAlong_56 : decode cX4_moveAlong 56 = .ok (.iload 4, 2) := by decide +kernel
theorem dX4_moveAlong_58 : decode cX4_moveAlong 58 = .ok (.iaload, 1) := by decide +kernel
theorem dX4_moveAlong_59 : decode cX4_moveAlong 59 = .ok (.aaload, 1) := by decide +kernel
theorem dX4_moveAlong_60 : decode cX4_moveAlong 60 = .ok (.iload 4, 2) := by decide +kernel
theorem dX4_moveAlong_62 : decode cX4_moveAlong 62 = .ok (.dup2, 1) := by decide +kernel
theorem dX4_moveAlong_63 : decode cX4_moveAlong 63 = .ok (.iaload, 1) := by decide +kernel
theorem dX4_moveAlong_64 : decode cX4_moveAlong 64 = .ok (.iload_n 3, 1) := by decide +kernel
theorem dX4_moveAlong_65 : decode cX4_moveAlong 65 = .ok (.iadd, 1) := by decide +kernel
theorem dX4_moveAlong_66 : decode cX4_moveAlong 66 = .ok (.iastore, 1) := by decide +kernel
theorem dX4_moveAlong_67 : decode cX4_moveAlong 67 = .ok (.aload_n 0, 1) := by decide +kernel
theorem dX4_moveAlong_68 : decode cX4_moveAlong 68 = .ok (.getfield 18, 3) := by decide +kernel
theorem dX4_moveAlong_71 : decode cX4_moveAlong 71 = .ok (.aload_n 0, 1) := by decide +kernel
theorem dX4_moveAlong_72 : decode cX4_moveAlong 72 = .ok (.getfield 34, 3) := by decide +kernel
theorem dX4_moveAlong_75 : decode cX4_moveAlong 75 = .ok (.iload 6, 2) := by decide +kernel
theorem dX4_moveAlong_77 : decode cX4_moveAlong 77 = .ok (.aaload, 1) := by decide +kernel
theorem dX4_moveAlong_78 : decode cX4_moveAlong 78 = .ok (.iload 4, 2) := by decide +kernel
theorem dX4_moveAlong_80 : decode cX4_moveAlong 80 = .ok (.iaload, 1) := by decide +kernel
theorem dX4_moveAlong_81 : decode cX4_moveAlong 81 = .ok (.aaload, 1) := by decide +kernel
theorem dX4_moveAlong_82 : decode cX4_moveAlong 82 = .ok (.iload 6, 2) := by decide +kernel
theorem dX4_moveAlong_84 : decode cX4_moveAlong 84 = .ok (.dup2, 1) := by decide +kernel
theorem dX4_moveAlong_85 : decode cX4_moveAlong 85 = .ok (.iaload, 1) := by decide +kernel
theorem dX4_moveAlong_86 : decode cX4_moveAlong 86 = .ok (.iload_n 3, 1) := by decide +kernel
theorem dX4_moveAlong_87 : decode cX4_moveAlong 87 = .ok (.isub, 1) := by decide +kernel
theorem dX4_moveAlong_88 : decode cX4_moveAlong 88 = .ok (.iastore, 1) := by decide +kernel
theorem dX4_moveAlong_89 : decode cX4_moveAlong 89 = .ok (.iload 6, 2) := by decide +kernel
theorem dX4_moveAlong_91 : decode cX4_moveAlong 91 = .ok (.istore 4, 2) := by decide +kernel
theorem dX4_moveAlong_93 : decode cX4_moveAlong 93 = .ok (.iinc 5 1, 3) := by decide +kernel
theorem dX4_moveAlong_96 : decode cX4_moveAlong 96 = .ok (.goto (-80), 3) := by decide +kernel
theorem dX4_moveAlong_99 : decode cX4_moveAlong 99 = .ok (.aload_n 0, 1) := by decide +kernel
theorem dX4_moveAlong_100 : decode cX4_moveAlong 100 = .ok (.getfield 18, 3) := by decide +kernel
theorem dX4_moveAlong_103 : decode cX4_moveAlong 103 = .ok (.iload_n 1, 1) := by decide +kernel
theorem dX4_moveAlong_104 : decode cX4_moveAlong 104 = .ok (.aaload, 1) := by decide +kernel
theorem dX4_moveAlong_105 : decode cX4_moveAlong 105 = .ok (.iload 4, 2) := by decide +kernel
theorem dX4_moveAlong_107 : decode cX4_moveAlong 107 = .ok (.dup2, 1) := by decide +kernel
theorem dX4_moveAlong_108 : decode cX4_moveAlong 108 = .ok (.iaload, 1) := by decide +kernel
theorem dX4_moveAlong_109 : decode cX4_moveAlong 109 = .ok (.iload_n 3, 1) := by decide +kernel
theorem dX4_moveAlong_110 : decode cX4_moveAlong 110 = .ok (.iadd, 1) := by decide +kernel
theorem dX4_moveAlong_111 : decode cX4_moveAlong 111 = .ok (.iastore, 1) := by decide +kernel
theorem dX4_moveAlong_112 : decode cX4_moveAlong 112 = .ok (.return_, 1) := by decide +kernel
set_option maxRecDepth 20000 in
theorem ggX5_init_J7_fill_53178 : GoodIn wsX5_init wsJ7_fill_53178 := goodIn_r _ [10] (by decide +kernel) (by decide +kernel)
set_option maxRecDepth 20000 in
theorem gX5_init_J7_fill_53178 : GoodIn wsX5_init (va_wsS RX5 18 yJ7_fill_53178 wsJ7_fill_53178) := goodIn_app (goodIn_of _ (by decide +kernel)) ggX5_init_J7_fill_53178
theorem dX5_init_0 : decode cX5_init 0 = .ok (.aload_n 0, 1) := by decide +kernel
theorem dX5_init_1 : decode cX5_init 1 = .ok (.invokespecial 3, 3) := by decide +kernel
theorem dX5_init_4 : decode cX5_init 4 = .ok (.aload_n 0, 1) := by decide +kernel
theorem dX5_init_5 : decode cX5_init 5 = .ok (.bipush 30, 2) := by decide +kernel
theorem dX5_init_7 : decode cX5_init 7 = .ok (.newarray .int, 2) := by decide +kernel
theorem dX5_init_9 : decode cX5_init 9 = .ok (.putfield 9, 3) := by decide +kernel
theorem dX5_init_12 : decode cX5_init 12 = .ok (.aload_n 0, 1) := by decide +kernel
theorem dX5_init_13 : decode cX5_init 13 = .ok (.bipush 30, 2) := by decide +kernel
theorem dX5_init_15 : decode cX5_init 15 = .ok (.newarray .int, 2) := by decide +kernel
theorem dX5_init_17 : decode cX5_init 17 = .ok (.putfield 15, 3) := by decide +kernel
theorem dX5_init_20 : decode cX5_init 20 = .ok (.aload_n 0, 1) := by decide +kernel
theorem dX5_init_21 : decode cX5_init 21 = .ok (.getfield 9, 3) := by decide +kernel
theorem dX5_init_24 : decode cX5_init 24 = .ok (.iconst (-1), 1) := by decide +kernel
theorem dX5_init_25 : decode cX5_init 25 = .ok (.invokestatic 18, 3) := by decide +kernel
theorem dX5_init_28 : decode cX5_init 28 = .ok (.return_, 1) := by decide +kernel
theorem dX5_isEmpty_0 : decode cX5_isEmpty 0 = .ok (.aload_n 0, 1) := by decide +kernel
theorem dX5_isEmpty_1 : decode cX5_isEmpty 1 = .ok (.getfield 15, 3) := by decide +kernel
theorem dX5_isEmpty_4 : decode cX5_isEmpty 4 = .ok (.iload_n 1, 1) := by decide +kernel
theorem dX5_isEmpty_5 : decode cX5_isEmpty 5 = .ok (.iaload, 1) := by decide +kernel
theorem dX5_isEmpty_6 : decode cX5_isEmpty 6 = .ok (.ifCond .ne 7, 3) := by decide +kernel
theorem dX5_isEmpty_9 : decode cX5_isEmpty 9 = .ok (.iconst 1, 1) := by decide +kernel
theorem dX5_isEmpty_10 : decode cX5_isEmpty 10 = .ok (.goto 4, 3) := by decide +kernel
theorem dX5_isEmpty_13 : decode cX5_isEmpty 13 = .ok (.iconst 0, 1) := by decide +kernel
theorem dX5_isEmpty_14 : decode cX5_isEmpty 14 = .ok (.ireturn, 1) := by decide +kernel
set_option maxRecDepth 20000 in
theorem ggX5_takesLot_X5_isEmpty : GoodIn wsX5_takesLot wsX5_isEmpty := goodIn_r _ [6, 7, 8, 9] (by decide +kernel) (by decide +kernel)
set_option maxRecDepth 20000 in
theorem gX5_takesLot_X5_isEmpty : GoodIn wsX5_takesLot (wsV RX5 24 RX5 yX5_isEmpty wsX5_isEmpty) := goodIn_app (goodIn_of _ (by decide +kernel)) ggX5_takesLot_X5_isEmpty
theorem dX5_takesLot_0 : decode cX5_takesLot 0 = .ok (.aload_n 0, 1) := by decide +kernel
theorem dX5_takesLot_1 : decode cX5_takesLot 1 = .ok (.iload_n 1, 1) := by decide +kernel
theorem dX5_takesLot_2 : decode cX5_takesLot 2 = .ok (.invokevirtual 24, 3) := by decide +kernel
theorem dX5_takesLot_5 : decode cX5_takesLot 5 = .ok (.ifCond .ne 13, 3) := by decide +kernel
theorem dX5_takesLot_8 : decode cX5_takesLot 8 = .ok (.aload_n 0, 1) := by decide +kernel
theorem dX5_takesLot_9 : decode cX5_takesLot 9 = .ok (.getfield 9, 3) := by decide +kernel
theorem dX5_takesLot_12 : decode cX5_takesLot 12 = .ok (.iload_n 1, 1) := by decide +kernel
theorem dX5_takesLot_13 : decode cX5_takesLot 13 = .ok (.iaload, 1) := by decide +kernel
theorem dX5_takesLot_14 : decode cX5_takesLot 14 = .ok (.iload_n 2, 1) := by decide +kernel
theorem dX5_takesLot_15 : decode cX5_takesLot 15 = .ok (.if_icmp .ne 7, 3) := by decide +kernel
theorem dX5_takesLot_18 : decode cX5_takesLot 18 = .ok (.iconst 1, 1) := by decide +kernel
theorem dX5_takesLot_19 : decode cX5_takesLot 19 = .ok (.goto 4, 3) := by decide +kernel
theorem dX5_takesLot_22 : decode cX5_takesLot 22 = .ok (.iconst 0, 1) := by decide +kernel
theorem dX5_takesLot_23 : decode cX5_takesLot 23 = .ok (.ireturn, 1) := by decide +kernel
theorem dX5_hasRoom_0 : decode cX5_hasRoom 0 = .ok (.aload_n 0, 1) := by decide +kernel
theorem dX5_hasRoom_1 : decode cX5_hasRoom 1 = .ok (.getfield 15, 3) := by decide +kernel
theorem dX5_hasRoom_4 : decode cX5_hasRoom 4 = .ok (.iload_n 1, 1) := by decide +kernel
theorem dX5_hasRoom_5 : decode cX5_hasRoom 5 = .ok (.iaload, 1) := by decide +kernel
theorem dX5_hasRoom_6 : decode cX5_hasRoom 6 = .ok (.iload_n 2, 1) := by decide +kernel
theorem dX5_hasRoom_7 : decode cX5_hasRoom 7 = .ok (.iadd, 1) := by decide +kernel
theorem dX5_hasRoom_8 : decode cX5_hasRoom 8 = .ok (.bipush 12, 2) := by decide +kernel
theorem dX5_hasRoom_10 : decode cX5_hasRoom 10 = .ok (.if_icmp .gt 7, 3) := by decide +kernel
theorem dX5_hasRoom_13 : decode cX5_hasRoom 13 = .ok (.iconst 1, 1) := by decide +kernel
theorem dX5_hasRoom_14 : decode cX5_hasRoom 14 = .ok (.goto 4, 3) := by decide +kernel
theorem dX5_hasRoom_17 : decode cX5_hasRoom 17 = .ok (.iconst 0, 1) := by decide +kernel
theorem dX5_hasRoom_18 : decode cX5_hasRoom 18 = .ok (.ireturn, 1) := by decide +kernel
theorem dX5_add_0 : decode cX5_add 0 = .ok (.aload_n 0, 1) := by decide +kernel
theorem dX5_add_1 : decode cX5_add 1 = .ok (.getfield 9, 3) := by decide +kernel
theorem dX5_add_4 : decode cX5_add 4 = .ok (.iload_n 1, 1) := by decide +kernel
theorem dX5_add_5 : decode cX5_add 5 = .ok (.iload_n 2, 1) := by decide +kernel
theorem dX5_add_6 : decode cX5_add 6 = .ok (.iastore, 1) := by decide +kernel
theorem dX5_add_7 : decode cX5_add 7 = .ok (.aload_n 0, 1) := by decide +kernel
theorem dX5_add_8 : decode cX5_add 8 = .ok (.getfield 15, 3) := by decide +kernel
theorem dX5_add_11 : decode cX5_add 11 = .ok (.iload_n 1, 1) := by decide +kernel
theorem dX5_add_12 : decode cX5_add 12 = .ok (.dup2, 1) := by decide +kernel
theorem dX5_add_13 : decode cX5_add 13 = .ok (.iaload, 1) := by decide +kernel
theorem dX5_add_14 : decode cX5_add 14 = .ok (.iload_n 3, 1) := by decide +kernel
theorem dX5_add_15 : decode cX5_add 15 = .ok (.iadd, 1) := by decide +kernel
theorem dX5_add_16 : decode cX5_add 16 = .ok (.iastore, 1) := by decide +kernel
theorem dX5_add_17 : decode cX5_add 17 = .ok (.return_, 1) := by decide +kernel
theorem dX5_remove_0 : decode cX5_remove 0 = .ok (.aload_n 0, 1) := by decide +kernel
theorem dX5_remove_1 : decode cX5_remove 1 = .ok (.getfield 15, 3) := by decide +kernel
theorem dX5_remove_4 : decode cX5_remove 4 = .ok (.iload_n 1, 1) := by decide +kernel
theorem dX5_remove_5 : decode cX5_remove 5 = .ok (.dup2, 1) := by decide +kernel
theorem dX5_remove_6 : decode cX5_remove 6 = .ok (.iaload, 1) := by decide +kernel
theorem dX5_remove_7 : decode cX5_remove 7 = .ok (.iload_n 2, 1) := by decide +kernel
theorem dX5_remove_8 : decode cX5_remove 8 = .ok (.isub, 1) := by decide +kernel
theorem dX5_remove_9 : decode cX5_remove 9 = .ok (.iastore, 1) := by decide +kernel
theorem dX5_remove_10 : decode cX5_remove 10 = .ok (.aload_n 0, 1) := by decide +kernel
theorem dX5_remove_11 : decode cX5_remove 11 = .ok (.getfield 15, 3) := by decide +kernel
theorem dX5_remove_14 : decode cX5_remove 14 = .ok (.iload_n 1, 1) := by decide +kernel
theorem dX5_remove_15 : decode cX5_remove 15 = .ok (.iaload, 1) := by decide +kernel
theorem dX5_remove_16 : decode cX5_remove 16 = .ok (.ifCond .ne 10, 3) := by decide +kernel
theorem dX5_remove_19 : decode cX5_remove 19 = .ok (.aload_n 0, 1) := by decide +kernel
theorem dX5_remove_20 : decode cX5_remove 20 = .ok (.getfield 9, 3) := by decide +kernel
theorem dX5_remove_23 : decode cX5_remove 23 = .ok (.iload_n 1, 1) := by decide +kernel
theorem dX5_remove_24 : decode cX5_remove 24 = .ok (.iconst (-1), 1) := by decide +kernel
theorem dX5_remove_25 : decode cX5_remove 25 = .ok (.iastore, 1) := by decide +kernel
theorem dX5_remove_26 : decode cX5_remove 26 = .ok (.return_, 1) := by decide +kernel
theorem dX5_cellOf_0 : decode cX5_cellOf 0 = .ok (.iconst 0, 1) := by decide +kernel
theorem dX5_cellOf_1 : decode cX5_cellOf 1 = .ok (.istore_n 3, 1) := by decide +kernel
theorem dX5_cellOf_2 : decode cX5_cellOf 2 = .ok (.iconst 0, 1) := by decide +kernel
theorem dX5_cellOf_3 : decode cX5_cellOf 3 = .ok (.istore 4, 2) := by decide +kernel
theorem dX5_cellOf_5 : decode cX5_cellOf 5 = .ok (.iload 4, 2) := by decide +kernel
theorem dX5_cellOf_7 : decode cX5_cellOf 7 = .ok (.bipush 30, 2) := by decide +kernel
theorem dX5_cellOf_9 : decode cX5_cellOf 9 = .ok (.if_icmp .ge 31, 3) := by decide +kernel
theorem dX5_cellOf_12 : decode cX5_cellOf 12 = .ok (.aload_n 0, 1) := by decide +kernel
theorem dX5_cellOf_13 : decode cX5_cellOf 13 = .ok (.getfield 9, 3) := by decide +kernel
theorem dX5_cellOf_16 : decode cX5_cellOf 16 = .ok (.iload 4, 2) := by decide +kernel
theorem dX5_cellOf_18 : decode cX5_cellOf 18 = .ok (.iaload, 1) := by decide +kernel
theorem dX5_cellOf_19 : decode cX5_cellOf 19 = .ok (.iload_n 1, 1) := by decide +kernel
theorem dX5_cellOf_20 : decode cX5_cellOf 20 = .ok (.if_icmp .ne 14, 3) := by decide +kernel
theorem dX5_cellOf_23 : decode cX5_cellOf 23 = .ok (.iload_n 3, 1) := by decide +kernel
theorem dX5_cellOf_24 : decode cX5_cellOf 24 = .ok (.iload_n 2, 1) := by decide +kernel
theorem dX5_cellOf_25 : decode cX5_cellOf 25 = .ok (.if_icmp .ne 6, 3) := by decide +kernel
theorem dX5_cellOf_28 : decode cX5_cellOf 28 = .ok (.iload 4, 2) := by decide +kernel
theorem dX5_cellOf_30 : decode cX5_cellOf 30 = .ok (.ireturn, 1) := by decide +kernel
theorem dX5_cellOf_31 : decode cX5_cellOf 31 = .ok (.iinc 3 1, 3) := by decide +kernel
theorem dX5_cellOf_34 : decode cX5_cellOf 34 = .ok (.iinc 4 1, 3) := by decide +kernel
theorem dX5_cellOf_37 : decode cX5_cellOf 37 = .ok (.goto (-32), 3) := by decide +kernel
theorem dX5_cellOf_40 : decode cX5_cellOf 40 = .ok (.iconst (-1), 1) := by decide +kernel
theorem dX5_cellOf_41 : decode cX5_cellOf 41 = .ok (.ireturn, 1) := by decide +kernel
theorem dX5_bottlesOf_0 : decode cX5_bottlesOf 0 = .ok (.iconst 0, 1) := by decide +kernel
theorem dX5_bottlesOf_1 : decode cX5_bottlesOf 1 = .ok (.istore_n 2, 1) := by decide +kernel
theorem dX5_bottlesOf_2 : decode cX5_bottlesOf 2 = .ok (.iconst 0, 1) := by decide +kernel
theorem dX5_bottlesOf_3 : decode cX5_bottlesOf 3 = .ok (.istore_n 3, 1) := by decide +kernel
theorem dX5_bottlesOf_4 : decode cX5_bottlesOf 4 = .ok (.iload_n 3, 1) := by decide +kernel
theorem dX5_bottlesOf_5 : decode cX5_bottlesOf 5 = .ok (.bipush 30, 2) := by decide +kernel
theorem dX5_bottlesOf_7 : decode cX5_bottlesOf 7 = .ok (.if_icmp .ge 28, 3) := by decide +kernel
theorem dX5_bottlesOf_10 : decode cX5_bottlesOf 10 = .ok (.aload_n 0, 1) := by decide +kernel
theorem dX5_bottlesOf_11 : decode cX5_bottlesOf 11 = .ok (.getfield 9, 3) := by decide +kernel
theorem dX5_bottlesOf_14 : decode cX5_bottlesOf 14 = .ok (.iload_n 3, 1) := by decide +kernel
theorem dX5_bottlesOf_15 : decode cX5_bottlesOf 15 = .ok (.iaload, 1) := by decide +kernel
theorem dX5_bottlesOf_16 : decode cX5_bottlesOf 16 = .ok (.iload_n 1, 1) := by decide +kernel
theorem dX5_bottlesOf_17 : decode cX5_bottlesOf 17 = .ok (.if_icmp .ne 12, 3) := by decide +kernel
theorem dX5_bottlesOf_20 : decode cX5_bottlesOf 20 = .ok (.iload_n 2, 1) := by decide +kernel
theorem dX5_bottlesOf_21 : decode cX5_bottlesOf 21 = .ok (.aload_n 0, 1) := by decide +kernel
theorem dX5_bottlesOf_22 : decode cX5_bottlesOf 22 = .ok (.getfield 15, 3) := by decide +kernel
theorem dX5_bottlesOf_25 : decode cX5_bottlesOf 25 = .ok (.iload_n 3, 1) := by decide +kernel
theorem dX5_bottlesOf_26 : decode cX5_bottlesOf 26 = .ok (.iaload, 1) := by decide +kernel
theorem dX5_bottlesOf_27 : decode cX5_bottlesOf 27 = .ok (.iadd, 1) := by decide +kernel
theorem dX5_bottlesOf_28 : decode cX5_bottlesOf 28 = .ok (.istore_n 2, 1) := by decide +kernel
theorem dX5_bottlesOf_29 : decode cX5_bottlesOf 29 = .ok (.iinc 3 1, 3) := by decide +kernel
theorem dX5_bottlesOf_32 : decode cX5_bottlesOf 32 = .ok (.goto (-28), 3) := by decide +kernel
theorem dX5_bottlesOf_35 : decode cX5_bottlesOf 35 = .ok (.iload_n 2, 1) := by decide +kernel
theorem dX5_bottlesOf_36 : decode cX5_bottlesOf 36 = .ok (.ireturn, 1) := by decide +kernel
theorem dX5_allBottles_0 : decode cX5_allBottles 0 = .ok (.iconst 0, 1) := by decide +kernel
theorem dX5_allBottles_1 : decode cX5_allBottles 1 = .ok (.istore_n 1, 1) := by decide +kernel
theorem dX5_allBottles_2 : decode cX5_allBottles 2 = .ok (.iconst 0, 1) := by decide +kernel
theorem dX5_allBottles_3 : decode cX5_allBottles 3 = .ok (.istore_n 2, 1) := by decide +kernel
theorem dX5_allBottles_4 : decode cX5_allBottles 4 = .ok (.iload_n 2, 1) := by decide +kernel
theorem dX5_allBottles_5 : decode cX5_allBottles 5 = .ok (.bipush 30, 2) := by decide +kernel
theorem dX5_allBottles_7 : decode cX5_allBottles 7 = .ok (.if_icmp .ge 18, 3) := by decide +kernel
theorem dX5_allBottles_10 : decode cX5_allBottles 10 = .ok (.iload_n 1, 1) := by decide +kernel
theorem dX5_allBottles_11 : decode cX5_allBottles 11 = .ok (.aload_n 0, 1) := by decide +kernel
theorem dX5_allBottles_12 : decode cX5_allBottles 12 = .ok (.getfield 15, 3) := by decide +kernel
theorem dX5_allBottles_15 : decode cX5_allBottles 15 = .ok (.iload_n 2, 1) := by decide +kernel
theorem dX5_allBottles_16 : decode cX5_allBottles 16 = .ok (.iaload, 1) := by decide +kernel
theorem dX5_allBottles_17 : decode cX5_allBottles 17 = .ok (.iadd, 1) := by decide +kernel
theorem dX5_allBottles_18 : decode cX5_allBottles 18 = .ok (.istore_n 1, 1) := by decide +kernel
theorem dX5_allBottles_19 : decode cX5_allBottles 19 = .ok (.iinc 2 1, 3) := by decide +kernel
theorem dX5_allBottles_22 : decode cX5_allBottles 22 = .ok (.goto (-18), 3) := by decide +kernel
theorem dX5_allBottles_25 : decode cX5_allBottles 25 = .ok (.iload_n 1, 1) := by decide +kernel
theorem dX5_allBottles_26 : decode cX5_allBottles 26 = .ok (.ireturn, 1) := by decide +kernel
set_option maxRecDepth 20000 in
theorem ggX6_init_J7_fill_53178 : GoodIn wsX6_init wsJ7_fill_53178 := goodIn_r _ [13] (by decide +kernel) (by decide +kernel)
set_option maxRecDepth 20000 in
theorem gX6_init_J7_fill_53178 : GoodIn wsX6_init (va_wsS RX6 24 yJ7_fill_53178 wsJ7_fill_53178) := goodIn_app (goodIn_of _ (by decide +kernel)) ggX6_init_J7_fill_53178
theorem dX6_init_0 : decode cX6_init 0 = .ok (.aload_n 0, 1) := by decide +kernel
theorem dX6_init_1 : decode cX6_init 1 = .ok (.invokespecial 3, 3) := by decide +kernel
theorem dX6_init_4 : decode cX6_init 4 = .ok (.aload_n 0, 1) := by decide +kernel
theorem dX6_init_5 : decode cX6_init 5 = .ok (.bipush 10, 2) := by decide +kernel
theorem dX6_init_7 : decode cX6_init 7 = .ok (.bipush 40, 2) := by decide +kernel
theorem dX6_init_9 : decode cX6_init 9 = .ok (.multianewarray 9 2, 4) := by decide +kernel
theorem dX6_init_13 : decode cX6_init 13 = .ok (.putfield 11, 3) := by decide +kernel
theorem dX6_init_16 : decode cX6_init 16 = .ok (.aload_n 0, 1) := by decide +kernel
theorem dX6_init_17 : decode cX6_init 17 = .ok (.bipush 10, 2) := by decide +kernel
theorem dX6_init_19 : decode cX6_init 19 = .ok (.newarray .int, 2) := by decide +kernel
theorem dX6_init_21 : decode cX6_init 21 = .ok (.putfield 16, 3) := by decide +kernel
theorem dX6_init_24 : decode cX6_init 24 = .ok (.aload_n 0, 1) := by decide +kernel
theorem dX6_init_25 : decode cX6_init 25 = .ok (.iload_n 1, 1) := by decide +kernel
theorem dX6_init_26 : decode cX6_init 26 = .ok (.putfield 20, 3) := by decide +kernel
theorem dX6_init_29 : decode cX6_init 29 = .ok (.aload_n 0, 1) := by decide +kernel
theorem dX6_init_30 : decode cX6_init 30 = .ok (.getfield 16, 3) := by decide +kernel
theorem dX6_init_33 : decode cX6_init 33 = .ok (.iconst (-1), 1) := by decide +kernel
theorem dX6_init_34 : decode cX6_init 34 = .ok (.invokestatic 24, 3) := by decide +kernel
theorem dX6_init_37 : decode cX6_init 37 = .ok (.return_, 1) := by decide +kernel
set_option maxRecDepth 20000 in
theorem ggX6_renewRow_J7_fill_d0a16 : GoodIn wsX6_renewRow wsJ7_fill_d0a16 := goodIn_r _ [6] (by decide +kernel) (by decide +kernel)
set_option maxRecDepth 20000 in
theorem gX6_renewRow_J7_fill_d0a16 : GoodIn wsX6_renewRow (va_wsS RX6 30 yJ7_fill_d0a16 wsJ7_fill_d0a16) := goodIn_app (goodIn_of _ (by decide +kernel)) ggX6_renewRow_J7_fill_d0a16
theorem dX6_renewRow_0 : decode cX6_renewRow 0 = .ok (.aload_n 0, 1) := by decide +kernel
theorem dX6_renewRow_1 : decode cX6_renewRow 1 = .ok (.getfield 11, 3) := by decide +kernel
theorem dX6_renewRow_4 : decode cX6_renewRow 4 = .ok (.iload_n 1, 1) := by decide +kernel
theorem dX6_renewRow_5 : decode cX6_renewRow 5 = .ok (.aaload, 1) := by decide +kernel
theorem dX6_renewRow_6 : decode cX6_renewRow 6 = .ok (.lconst 0, 1) := by decide +kernel
theorem dX6_renewRow_7 : decode cX6_renewRow 7 = .ok (.invokestatic 30, 3) := by decide +kernel
theorem dX6_renewRow_10 : decode cX6_renewRow 10 = .ok (.aload_n 0, 1) := by decide +kernel
theorem dX6_renewRow_11 : decode cX6_renewRow 11 = .ok (.getfield 16, 3) := by decide +kernel
theorem dX6_renewRow_14 : decode cX6_renewRow 14 = .ok (.iload_n 1, 1) := by decide +kernel
theorem dX6_renewRow_15 : decode cX6_renewRow 15 = .ok (.iload_n 2, 1) := by decide +kernel
theorem dX6_renewRow_16 : decode cX6_renewRow 16 = .ok (.iastore, 1) := by decide +kernel
theorem dX6_renewRow_17 : decode cX6_renewRow 17 = .ok (.return_, 1) := by decide +kernel
theorem dX6_lowestBits_0 : decode cX6_lowestBits 0 = .ok (.aload_n 0, 1) := by decide +kernel
theorem dX6_lowestBits_1 : decode cX6_lowestBits 1 = .ok (.getfield 20, 3) := by decide +kernel
theorem dX6_lowestBits_4 : decode cX6_lowestBits 4 = .ok (.ifCond .ne 8, 3) := by decide +kernel
theorem dX6_lowestBits_7 : decode cX6_lowestBits 7 = .ok (.lload_n 1, 1) := by decide +kernel
theorem dX6_lowestBits_8 : decode cX6_lowestBits 8 = .ok (.l2i, 1) := by decide +kernel
theorem dX6_lowestBits_9 : decode cX6_lowestBits 9 = .ok (.i2s, 1) := by decide +kernel
theorem dX6_lowestBits_10 : decode cX6_lowestBits 10 = .ok (.i2l, 1) := by decide +kernel
theorem dX6_lowestBits_11 : decode cX6_lowestBits 11 = .ok (.lreturn, 1) := by decide +kernel
theorem dX6_lowestBits_12 : decode cX6_lowestBits 12 = .ok (.aload_n 0, 1) := by decide +kernel
theorem dX6_lowestBits_13 : decode cX6_lowestBits 13 = .ok (.getfield 20, 3) := by decide +kernel
theorem dX6_lowestBits_16 : decode cX6_lowestBits 16 = .ok (.iconst 1, 1) := by decide +kernel
theorem dX6_lowestBits_17 : decode cX6_lowestBits 17 = .ok (.if_icmp .ne 9, 3) := by decide +kernel
theorem dX6_lowestBits_20 : decode cX6_lowestBits 20 = .ok (.lload_n 1, 1) := by decide +kernel
theorem dX6_lowestBits_21 : decode cX6_lowestBits 21 = .ok (.l2i, 1) := by decide +kernel
theorem dX6_lowestBits_22 : decode cX6_lowestBits 22 = .ok (.i2l, 1) := by decide +kernel
theorem dX6_lowestBits_23 : decode cX6_lowestBits 23 = .ok (.goto 4, 3) := by decide +kernel
theorem dX6_lowestBits_26 : decode cX6_lowestBits 26 = .ok (.lload_n 1, 1) := by decide +kernel
theorem dX6_lowestBits_27 : decode cX6_lowestBits 27 = .ok (.lreturn, 1) := by decide +kernel
theorem dX7_init_0 : decode cX7_init 0 = .ok (.aload_n 0, 1) := by decide +kernel
theorem dX7_init_1 : decode cX7_init 1 = .ok (.invokespecial 3, 3) := by decide +kernel
theorem dX7_init_4 : decode cX7_init 4 = .ok (.aload_n 0, 1) := by decide +kernel
theorem dX7_init_5 : decode cX7_init 5 = .ok (.sipush 200, 3) := by decide +kernel
theorem dX7_init_8 : decode cX7_init 8 = .ok (.newarray .int, 2) := by decide +kernel
theorem dX7_init_10 : decode cX7_init 10 = .ok (.putfield 11, 3) := by decide +kernel
theorem dX7_init_13 : decode cX7_init 13 = .ok (.aload_n 0, 1) := by decide +kernel
theorem dX7_init_14 : decode cX7_init 14 = .ok (.iconst 0, 1) := by decide +kernel
theorem dX7_init_15 : decode cX7_init 15 = .ok (.putfield 15, 3) := by decide +kernel
theorem dX7_init_18 : decode cX7_init 18 = .ok (.aload_n 0, 1) := by decide +kernel
theorem dX7_init_19 : decode cX7_init 19 = .ok (.iconst 0, 1) := by decide +kernel
theorem dX7_init_20 : decode cX7_init 20 = .ok (.putfield 19, 3) := by decide +kernel
theorem dX7_init_23 : decode cX7_init 23 = .ok (.aload_n 0, 1) := by decide +kernel
theorem dX7_init_24 : decode cX7_init 24 = .ok (.iconst 0, 1) := by decide +kernel
theorem dX7_init_25 : decode cX7_init 25 = .ok (.putfield 22, 3) := by decide +kernel
theorem dX7_init_28 : decode cX7_init 28 = .ok (.return_, 1) := by decide +kernel
theorem dX7_hasRoomForFive_0 : decode cX7_hasRoomForFive 0 = .ok (.aload_n 0, 1) := by decide +kernel
theorem dX7_hasRoomForFive_1 : decode cX7_hasRoomForFive 1 = .ok (.getfield 15, 3) := by decide +kernel
theorem dX7_hasRoomForFive_4 : decode cX7_hasRoomForFive 4 = .ok (.bipush 20, 2) := by decide +kernel
theorem dX7_hasRoomForFive_6 : decode cX7_hasRoomForFive 6 = .ok (.iadd, 1) := by decide +kernel
theorem dX7_hasRoomForFive_7 : decode cX7_hasRoomForFive 7 = .ok (.sipush 200, 3) := by decide +kernel
theorem dX7_hasRoomForFive_10 : decode cX7_hasRoomForFive 10 = .ok (.if_icmp .gt 7, 3) := by decide +kernel
theorem dX7_hasRoomForFive_13 : decode cX7_hasRoomForFive 13 = .ok (.iconst 1, 1) := by decide +kernel
theorem dX7_hasRoomForFive_14 : decode cX7_hasRoomForFive 14 = .ok (.goto 4, 3) := by decide +kernel
theorem dX7_hasRoomForFive_17 : decode cX7_hasRoomForFive 17 = .ok (.iconst 0, 1) := by decide +kernel
theorem dX7_hasRoomForFive_18 : decode cX7_hasRoomForFive 18 = .ok (.ireturn, 1) := by decide +kernel
theorem dX7_append_0 : decode cX7_append 0 = .ok (.bipush 24, 2) := by decide +kernel
theorem dX7_append_2 : decode cX7_append 2 = .ok (.istore_n 2, 1) := by decide +kernel
theorem dX7_append_3 : decode cX7_append 3 = .ok (.iload_n 2, 1) := by decide +kernel
theorem dX7_append_4 : decode cX7_append 4 = .ok (.ifCond .lt 45, 3) := by decide +kernel
theorem dX7_append_7 : decode cX7_append 7 = .ok (.aload_n 0, 1) := by decide +kernel
theorem dX7_append_8 : decode cX7_append 8 = .ok (.getfield 15, 3) := by decide +kernel
theorem dX7_append_11 : decode cX7_append 11 = .ok (.sipush 200, 3) := by decide +kernel
theorem dX7_append_14 : decode cX7_append 14 = .ok (.if_icmp .ge 35, 3) := by decide +kernel
theorem dX7_append_17 : decode cX7_append 17 = .ok (.aload_n 0, 1) := by decide +kernel
theorem dX7_append_18 : decode cX7_append 18 = .ok (.getfield 11, 3) := by decide +kernel
theorem dX7_append_21 : decode cX7_append 21 = .ok (.aload_n 0, 1) := by decide +kernel
theorem dX7_append_22 : decode cX7_append 22 = .ok (.getfield 15, 3) := by decide +kernel
theorem dX7_append_25 : decode cX7_append 25 = .ok (.iload_n 1, 1) := by decide +kernel
theorem dX7_append_26 : decode cX7_append 26 = .ok (.iload_n 2, 1) := by decide +kernel
theorem dX7_append_27 : decode cX7_append 27 = .ok (.ishr, 1) := by decide +kernel
theorem dX7_append_28 : decode cX7_append 28 = .ok (.sipush 255, 3) := by decide +kernel
theorem dX7_append_31 : decode cX7_append 31 = .ok (.iand, 1) := by decide +kernel
theorem dX7_append_32 : decode cX7_append 32 = .ok (.iastore, 1) := by decide +kernel
theorem dX7_append_33 : decode cX7_append 33 = .ok (.aload_n 0, 1) := by decide +kernel
theorem dX7_append_34 : decode cX7_append 34 = .ok (.dup, 1) := by decide +kernel
theorem dX7_append_35 : decode cX7_append 35 = .ok (.getfield 15, 3) := by decide +kernel
theorem dX7_append_38 : decode cX7_append 38 = .ok (.iconst 1, 1) := by decide +kernel
theorem dX7_append_39 : decode cX7_append 39 = .ok (.iadd, 1) := by decide +kernel
theorem dX7_append_40 : decode cX7_append 40 = .ok (.putfield 15, 3) := by decide +kernel
theorem dX7_append_43 : decode cX7_append 43 = .ok (.iinc 2 (-8), 3) := by decide +kernel
theorem dX7_append_46 : decode cX7_append 46 = .ok (.goto (-43), 3) := by decide +kernel
theorem dX7_append_49 : decode cX7_append 49 = .ok (.return_, 1) := by decide +kernel
set_option maxRecDepth 20000 in
theorem ggX7_readDish_X0_clear : GoodIn wsX7_readDish wsX0_clear := goodIn_r _ [12, 13, 109, 110, 111, 112, 113] (by decide +kernel) (by decide +kernel)
set_option maxRecDepth 20000 in
theorem gX7_readDish_X0_clear : GoodIn wsX7_readDish (wsV RX7 31 RX0 yX0_clear wsX0_clear) := goodIn_app (goodIn_of _ (by decide +kernel)) ggX7_readDish_X0_clear
set_option maxRecDepth 20000 in
theorem ggX7_readDish_X7_readTerm : GoodIn wsX7_readDish wsX7_readTerm := goodIn_r _ [18, 19, 1, 20, 21, 22, 17, 23, 7, 24, 25, 26, 27, 28, 29, 30, 31, 32, 33, 34, 35, 36, 37, 38, 39, 40, 41, 42, 43, 44, 45, 46, 47, 48, 49, 50, 51, 52, 53, 54, 55, 56, 57, 58, 59, 60, 61, 62, 63, 64, 65, 66, 67, 68, 69, 70, 71, 72, 73, 74, 75, 76, 77, 78, 79, 80, 81, 82, 83, 84, 85, 86, 87, 88, 89, 90, 91, 92, 93, 94, 11, 95, 96, 13, 97, 98, 99, 100, 101, 102, 103, 105, 106, 107, 108, 109, 110, 111, 112, 113] (by decide +kernel) (by decide +kernel)
set_option maxRecDepth 20000 in
theorem gX7_readDish_X7_readTerm : GoodIn wsX7_readDish (wsV RX7 36 RX7 yX7_readTerm wsX7_readTerm) := goodIn_app (goodIn_of _ (by decide +kernel)) ggX7_readDish_X7_readTerm
set_option maxRecDepth 20000 in
theorem ggX7_readDish_X7_signHere : GoodIn wsX7_readDish wsX7_signHere := goodIn_r _ [30, 1, 7, 24, 105, 106, 107, 108] (by decide +kernel) (by decide +kernel)
set_option maxRecDepth 20000 in
theorem gX7_readDish_X7_signHere : GoodIn wsX7_readDish (wsV RX7 40 RX7 yX7_signHere wsX7_signHere) := goodIn_app (goodIn_of _ (by decide +kernel)) ggX7_readDish_X7_signHere
set_option maxRecDepth 20000 in
theorem ggX7_readDish_X0_isFull : GoodIn wsX7_readDish wsX0_isFull := goodIn_r _ [103, 13, 109, 110, 111, 112, 113] (by decide +kernel) (by decide +kernel)
set_option maxRecDepth 20000 in
theorem gX7_readDish_X0_isFull : GoodIn wsX7_readDish (wsV RX7 44 RX0 yX0_isFull wsX0_isFull) := goodIn_app (goodIn_of _ (by decide +kernel)) ggX7_readDish_X0_isFull
theorem dX7_readDish_0 : decode cX7_readDish 0 = .ok (.aload_n 0, 1) := by decide +kernel
theorem dX7_readDish_1 : decode cX7_readDish 1 = .ok (.iconst 0, 1) := by decide +kernel
theorem dX7_readDish_2 : decode cX7_readDish 2 = .ok (.putfield 19, 3) := by decide +kernel
theorem dX7_readDish_5 : decode cX7_readDish 5 = .ok (.aload_n 0, 1) := by decide +kernel
theorem dX7_readDish_6 : decode cX7_readDish 6 = .ok (.iload_n 2, 1) := by decide +kernel
theorem dX7_readDish_7 : decode cX7_readDish 7 = .ok (.aload_n 0, 1) := by decide +kernel
theorem dX7_readDish_8 : decode cX7_readDish 8 = .ok (.getfield 15, 3) := by decide +kernel
theorem dX7_readDish_11 : decode cX7_readDish 11 = .ok (.invokestatic 25, 3) := by decide +kernel
theorem dX7_readDish_14 : decode cX7_readDish 14 = .ok (.putfield 22, 3) := by decide +kernel
theorem dX7_readDish_17 : decode cX7_readDish 17 = .ok (.aload_n 1, 1) := by decide +kernel
theorem dX7_readDish_18 : decode cX7_readDish 18 = .ok (.invokevirtual 31, 3) := by decide +kernel
theorem dX7_readDish_21 : decode cX7_readDish 21 = .ok (.iconst 0, 1) := by decide +kernel
theorem dX7_readDish_22 : decode cX7_readDish 22 = .ok (.istore_n 3, 1) := by decide +kernel
theorem dX7_readDish_23 : decode cX7_readDish 23 = .ok (.iload_n 3, 1) := by decide +kernel
theorem dX7_readDish_24 : decode cX7_readDish 24 = .ok (.bipush 12, 2) := by decide +kernel
theorem dX7_readDish_26 : decode cX7_readDish 26 = .ok (.if_icmp .ge 65, 3) := by decide +kernel
theorem dX7_readDish_29 : decode cX7_readDish 29 = .ok (.aload_n 0, 1) := by decide +kernel
theorem dX7_readDish_30 : decode cX7_readDish 30 = .ok (.aload_n 1, 1) := by decide +kernel
theorem dX7_readDish_31 : decode cX7_readDish 31 = .ok (.invokevirtual 36, 3) := by decide +kernel
theorem dX7_readDish_34 : decode cX7_readDish 34 = .ok (.ifCond .ne 8, 3) := by decide +kernel
theorem dX7_readDish_37 : decode cX7_readDish 37 = .ok (.aload_n 0, 1) := by decide +kernel
theorem dX7_readDish_38 : decode cX7_readDish 38 = .ok (.getfield 19, 3) := by decide +kernel
theorem dX7_readDish_41 : decode cX7_readDish 41 = .ok (.ireturn, 1) := by decide +kernel
theorem dX7_readDish_42 : decode cX7_readDish 42 = .ok (.aload_n 0, 1) := by decide +kernel
theorem dX7_readDish_43 : decode cX7_readDish 43 = .ok (.invokevirtual 40, 3) := by decide +kernel
theorem dX7_readDish_46 : decode cX7_readDish 46 = .ok (.istore 4, 2) := by decide +kernel
theorem dX7_readDish_48 : decode cX7_readDish 48 = .ok (.iload 4, 2) := by decide +kernel
theorem dX7_readDish_50 : decode cX7_readDish 50 = .ok (.iconst (-1), 1) := by decide +kernel
theorem dX7_readDish_51 : decode cX7_readDish 51 = .ok (.if_icmp .ne 5, 3) := by decide +kernel
theorem dX7_readDish_54 : decode cX7_readDish 54 = .ok (.iconst (-1), 1) := by decide +kernel
theorem dX7_readDish_55 : decode cX7_readDish 55 = .ok (.ireturn, 1) := by decide +kernel
theorem dX7_readDish_56 : decode cX7_readDish 56 = .ok (.iload 4, 2) := by decide +kernel
theorem dX7_readDish_58 : decode cX7_readDish 58 = .ok (.bipush 44, 2) := by decide +kernel
theorem dX7_readDish_60 : decode cX7_readDish 60 = .ok (.if_icmp .ne 10, 3) := by decide +kernel
theorem dX7_readDish_63 : decode cX7_readDish 63 = .ok (.aload_n 1, 1) := by decide +kernel
theorem dX7_readDish_64 : decode cX7_readDish 64 = .ok (.invokevirtual 44, 3) := by decide +kernel
theorem dX7_readDish_67 : decode cX7_readDish 67 = .ok (.ifCond .eq 8, 3) := by decide +kernel
theorem dX7_readDish_70 : decode cX7_readDish 70 = .ok (.aload_n 0, 1) := by decide +kernel
theorem dX7_readDish_71 : decode cX7_readDish 71 = .ok (.getfield 19, 3) := by decide +kernel
theorem dX7_readDish_74 : decode cX7_readDish 74 = .ok (.ireturn, 1) := by decide +kernel
theorem dX7_readDish_75 : decode cX7_readDish 75 = .ok (.aload_n 0, 1) := by decide +kernel
theorem dX7_readDish_76 : decode cX7_readDish 76 = .ok (.dup, 1) := by decide +kernel
theorem dX7_readDish_77 : decode cX7_readDish 77 = .ok (.getfield 19, 3) := by decide +kernel
theorem dX7_readDish_80 : decode cX7_readDish 80 = .ok (.iconst 1, 1) := by decide +kernel
theorem dX7_readDish_81 : decode cX7_readDish 81 = .ok (.iadd, 1) := by decide +kernel
theorem dX7_readDish_82 : decode cX7_readDish 82 = .ok (.putfield 19, 3) := by decide +kernel
theorem dX7_readDish_85 : decode cX7_readDish 85 = .ok (.iinc 3 1, 3) := by decide +kernel
theorem dX7_readDish_88 : decode cX7_readDish 88 = .ok (.goto (-65), 3) := by decide +kernel
theorem dX7_readDish_91 : decode cX7_readDish 91 = .ok (.aload_n 0, 1) := by decide +kernel
theorem dX7_readDish_92 : decode cX7_readDish 92 = .ok (.getfield 19, 3) := by decide +kernel
theorem dX7_readDish_95 : decode cX7_readDish 95 = .ok (.ireturn, 1) := by decide +kernel
