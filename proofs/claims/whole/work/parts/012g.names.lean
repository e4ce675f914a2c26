theorem dX10_empties_49 : decode cX10_empties 49 = .ok (.iload_n 2, 1) := by decide +kernel
theorem dX10_empties_50 : decode cX10_empties 50 = .ok (.aload_n 0, 1) := by decide +kernel
theorem dX10_empties_51 : decode cX10_empties 51 = .ok (.getfield 50, 3) := by decide +kernel
theorem dX10_empties_54 : decode cX10_empties 54 = .ok (.iload_n 2, 1) := by decide +kernel
theorem dX10_empties_55 : decode cX10_empties 55 = .ok (.iconst 1, 1) := by decide +kernel
theorem dX10_empties_56 : decode cX10_empties 56 = .ok (.iadd, 1) := by decide +kernel
theorem dX10_empties_57 : decode cX10_empties 57 = .ok (.iaload, 1) := by decide +kernel
theorem dX10_empties_58 : decode cX10_empties 58 = .ok (.iastore, 1) := by decide +kernel
theorem dX10_empties_59 : decode cX10_empties 59 = .ok (.aload_n 0, 1) := by decide +kernel
theorem dX10_empties_60 : decode cX10_empties 60 = .ok (.getfield 53, 3) := by decide +kernel
theorem dX10_empties_63 : decode cX10_empties 63 = .ok (.iload_n 2, 1) := by decide +kernel
theorem dX10_empties_64 : decode cX10_empties 64 = .ok (.aload_n 0, 1) := by decide +kernel
theorem dX10_empties_65 : decode cX10_empties 65 = .ok (.getfield 53, 3) := by decide +kernel
theorem dX10_empties_68 : decode cX10_empties 68 = .ok (.iload_n 2, 1) := by decide +kernel
theorem dX10_empties_69 : decode cX10_empties 69 = .ok (.iconst 1, 1) := by decide +kernel
theorem dX10_empties_70 : decode cX10_empties 70 = .ok (.iadd, 1) := by decide +kernel
theorem dX10_empties_71 : decode cX10_empties 71 = .ok (.iaload, 1) := by decide +kernel
theorem dX10_empties_72 : decode cX10_empties 72 = .ok (.iastore, 1) := by decide +kernel
theorem dX10_empties_73 : decode cX10_empties 73 = .ok (.aload_n 0, 1) := by decide +kernel
theorem dX10_empties_74 : decode cX10_empties 74 = .ok (.getfield 56, 3) := by decide +kernel
theorem dX10_empties_77 : decode cX10_empties 77 = .ok (.iload_n 2, 1) := by decide +kernel
theorem dX10_empties_78 : decode cX10_empties 78 = .ok (.aload_n 0, 1) := by decide +kernel
theorem dX10_empties_79 : decode cX10_empties 79 = .ok (.getfield 56, 3) := by decide +kernel
theorem dX10_empties_82 : decode cX10_empties 82 = .ok (.iload_n 2, 1) := by decide +kernel
theorem dX10_empties_83 : decode cX10_empties 83 = .ok (.iconst 1, 1) := by decide +kernel
theorem dX10_empties_84 : decode cX10_empties 84 = .ok (.iadd, 1) := by decide +kernel
theorem dX10_empties_85 : decode cX10_empties 85 = .ok (.iaload, 1) := by decide +kernel
theorem dX10_empties_86 : decode cX10_empties 86 = .ok (.iastore, 1) := by decide +kernel
theorem dX10_empties_87 : decode cX10_empties 87 = .ok (.iinc 2 1, 3) := by decide +kernel
theorem dX10_empties_90 : decode cX10_empties 90 = .ok (.goto (-53), 3) := by decide +kernel
theorem dX10_empties_93 : decode cX10_empties 93 = .ok (.return_, 1) := by decide +kernel
set_option maxRecDepth 20000 in
theorem ggX10_glass_X10_isLot : GoodIn wsX10_glass wsX10_isLot := goodIn_r _ [14, 15, 16, 17, 13, 18, 19, 20, 21, 22, 1, 51, 52, 53, 54, 55, 56, 57, 58, 59, 60, 61, 62, 63, 64, 65, 66, 67, 68, 69, 70, 71, 72, 73, 74, 75, 76, 77, 78, 79, 80, 81, 82, 83, 84, 85, 86, 87, 88, 89, 90, 91, 92, 93, 94, 95, 96, 97, 98, 99] (by decide +kernel) (by decide +kernel)
set_option maxRecDepth 20000 in
theorem gX10_glass_X10_isLot : GoodIn wsX10_glass (wsV RX10 126 RX10 yX10_isLot wsX10_isLot) := goodIn_app (goodIn_of _ (by decide +kernel)) ggX10_glass_X10_isLot
set_option maxRecDepth 20000 in
theorem ggX10_glass_X10_isForSale : GoodIn wsX10_glass wsX10_isForSale := goodIn_r _ [26, 27, 28, 29, 30, 31, 32, 33, 13, 34, 6, 51, 52, 53, 54, 55, 56, 57, 58, 59, 60, 61, 62, 63, 64, 65, 66, 67, 68, 69, 70, 71, 72, 73, 74, 75, 76, 77, 78, 79, 80, 81, 82, 83, 84, 85, 86, 87, 88, 89, 90, 91, 92, 93, 94, 95, 96, 97, 98, 99] (by decide +kernel) (by decide +kernel)
set_option maxRecDepth 20000 in
theorem gX10_glass_X10_isForSale : GoodIn wsX10_glass (wsV RX10 156 RX10 yX10_isForSale wsX10_isForSale) := goodIn_app (goodIn_of _ (by decide +kernel)) ggX10_glass_X10_isForSale
set_option maxRecDepth 20000 in
theorem ggX10_glass_X10_adds : GoodIn wsX10_glass wsX10_adds := goodIn_r _ [38, 39, 4, 51, 52, 53, 54, 55, 56, 57, 58, 59, 60, 61, 62, 63, 64, 65, 66, 67, 68, 69, 70, 71, 72, 73, 74, 75, 76, 77, 78, 79, 80, 81, 82, 83, 84, 85, 86, 87, 88, 89, 90, 91, 92, 93, 94, 95, 96, 97, 98, 99] (by decide +kernel) (by decide +kernel)
set_option maxRecDepth 20000 in
theorem gX10_glass_X10_adds : GoodIn wsX10_glass (wsV RX10 142 RX10 yX10_adds wsX10_adds) := goodIn_app (goodIn_of _ (by decide +kernel)) ggX10_glass_X10_adds
set_option maxRecDepth 20000 in
theorem ggX10_glass_X10_year : GoodIn wsX10_glass wsX10_year := goodIn_r _ [34, 6, 51, 52, 53, 54, 55, 56, 57, 58, 59, 60, 61, 62, 63, 64, 65, 66, 67, 68, 69, 70, 71, 72, 73, 74, 75, 76, 77, 78, 79, 80, 81, 82, 83, 84, 85, 86, 87, 88, 89, 90, 91, 92, 93, 94, 95, 96, 97, 98, 99] (by decide +kernel) (by decide +kernel)
set_option maxRecDepth 20000 in
theorem gX10_glass_X10_year : GoodIn wsX10_glass (wsV RX10 134 RX10 yX10_year wsX10_year) := goodIn_app (goodIn_of _ (by decide +kernel)) ggX10_glass_X10_year
set_option maxRecDepth 20000 in
theorem ggX10_glass_X10_worthOf : GoodIn wsX10_glass wsX10_worthOf := goodIn_r _ [43, 27, 44, 28, 29, 30, 51, 52, 53, 54, 55, 56, 57, 58, 59, 60, 61, 62, 63, 64, 65, 66, 67, 68, 69, 70, 71, 72, 73, 74, 75, 76, 77, 78, 79, 80, 81, 82, 83, 84, 85, 86, 87, 88, 89, 90, 91, 92, 93, 94, 95, 96, 97, 98, 99] (by decide +kernel) (by decide +kernel)
set_option maxRecDepth 20000 in
theorem gX10_glass_X10_worthOf : GoodIn wsX10_glass (wsV RX10 130 RX10 yX10_worthOf wsX10_worthOf) := goodIn_app (goodIn_of _ (by decide +kernel)) ggX10_glass_X10_worthOf
set_option maxRecDepth 20000 in
theorem ggX10_glass_X10_empties : GoodIn wsX10_glass wsX10_empties := goodIn_r _ [48, 49, 50, 7, 2, 3, 5, 51, 52, 53, 54, 55, 56, 57, 58, 59, 60, 61, 62, 63, 64, 65, 66, 67, 68, 69, 70, 71, 72, 73, 74, 75, 76, 77, 78, 79, 80, 81, 82, 83, 84, 85, 86, 87, 88, 89, 90, 91, 92, 93, 94, 95, 96, 97, 98, 99] (by decide +kernel) (by decide +kernel)
set_option maxRecDepth 20000 in
theorem gX10_glass_X10_empties : GoodIn wsX10_glass (wsV RX10 181 RX10 yX10_empties wsX10_empties) := goodIn_app (goodIn_of _ (by decide +kernel)) ggX10_glass_X10_empties
theorem dX10_glass_0 : decode cX10_glass 0 = .ok (.aload_n 0, 1) := by decide +kernel
theorem dX10_glass_1 : decode cX10_glass 1 = .ok (.iconst 0, 1) := by decide +kernel
theorem dX10_glass_2 : decode cX10_glass 2 = .ok (.putfield 1, 3) := by decide +kernel
theorem dX10_glass_5 : decode cX10_glass 5 = .ok (.aload_n 0, 1) := by decide +kernel
theorem dX10_glass_6 : decode cX10_glass 6 = .ok (.iload_n 1, 1) := by decide +kernel
theorem dX10_glass_7 : decode cX10_glass 7 = .ok (.iconst 1, 1) := by decide +kernel
theorem dX10_glass_8 : decode cX10_glass 8 = .ok (.invokevirtual 126, 3) := by decide +kernel
theorem dX10_glass_11 : decode cX10_glass 11 = .ok (.ifCond .ne 5, 3) := by decide +kernel
theorem dX10_glass_14 : decode cX10_glass 14 = .ok (.iconst 0, 1) := by decide +kernel
theorem dX10_glass_15 : decode cX10_glass 15 = .ok (.ireturn, 1) := by decide +kernel
theorem dX10_glass_16 : decode cX10_glass 16 = .ok (.aload_n 0, 1) := by decide +kernel
theorem dX10_glass_17 : decode cX10_glass 17 = .ok (.iload_n 1, 1) := by decide +kernel
theorem dX10_glass_18 : decode cX10_glass 18 = .ok (.invokevirtual 156, 3) := by decide +kernel
theorem dX10_glass_21 : decode cX10_glass 21 = .ok (.ifCond .ne 5, 3) := by decide +kernel
theorem dX10_glass_24 : decode cX10_glass 24 = .ok (.iconst (-1), 1) := by decide +kernel
theorem dX10_glass_25 : decode cX10_glass 25 = .ok (.ireturn, 1) := by decide +kernel
theorem dX10_glass_26 : decode cX10_glass 26 = .ok (.iconst 0, 1) := by decide +kernel
theorem dX10_glass_27 : decode cX10_glass 27 = .ok (.istore_n 2, 1) := by decide +kernel
theorem dX10_glass_28 : decode cX10_glass 28 = .ok (.iload_n 2, 1) := by decide +kernel
theorem dX10_glass_29 : decode cX10_glass 29 = .ok (.aload_n 0, 1) := by decide +kernel
theorem dX10_glass_30 : decode cX10_glass 30 = .ok (.getfield 149, 3) := by decide +kernel
theorem dX10_glass_33 : decode cX10_glass 33 = .ok (.if_icmp .ge 19, 3) := by decide +kernel
theorem dX10_glass_36 : decode cX10_glass 36 = .ok (.aload_n 0, 1) := by decide +kernel
theorem dX10_glass_37 : decode cX10_glass 37 = .ok (.getfield 50, 3) := by decide +kernel
theorem dX10_glass_40 : decode cX10_glass 40 = .ok (.iload_n 2, 1) := by decide +kernel
theorem dX10_glass_41 : decode cX10_glass 41 = .ok (.iaload, 1) := by decide +kernel
theorem dX10_glass_42 : decode cX10_glass 42 = .ok (.iload_n 1, 1) := by decide +kernel
theorem dX10_glass_43 : decode cX10_glass 43 = .ok (.if_icmp .eq 9, 3) := by decide +kernel
theorem dX10_glass_46 : decode cX10_glass 46 = .ok (.iinc 2 1, 3) := by decide +kernel
theorem dX10_glass_49 : decode cX10_glass 49 = .ok (.goto (-21), 3) := by decide +kernel
theorem dX10_glass_52 : decode cX10_glass 52 = .ok (.iload_n 2, 1) := by decide +kernel
theorem dX10_glass_53 : decode cX10_glass 53 = .ok (.aload_n 0, 1) := by decide +kernel
theorem dX10_glass_54 : decode cX10_glass 54 = .ok (.getfield 149, 3) := by decide +kernel
theorem dX10_glass_57 : decode cX10_glass 57 = .ok (.if_icmp .ne 90, 3) := by decide +kernel
theorem dX10_glass_60 : decode cX10_glass 60 = .ok (.iconst 0, 1) := by decide +kernel
theorem dX10_glass_61 : decode cX10_glass 61 = .ok (.istore_n 3, 1) := by decide +kernel
theorem dX10_glass_62 : decode cX10_glass 62 = .ok (.iload_n 3, 1) := by decide +kernel
theorem dX10_glass_63 : decode cX10_glass 63 = .ok (.bipush 30, 2) := by decide +kernel
theorem dX10_glass_65 : decode cX10_glass 65 = .ok (.if_icmp .ge 19, 3) := by decide +kernel
theorem dX10_glass_68 : decode cX10_glass 68 = .ok (.aload_n 0, 1) := by decide +kernel
theorem dX10_glass_69 : decode cX10_glass 69 = .ok (.getfield 44, 3) := by decide +kernel
theorem dX10_glass_72 : decode cX10_glass 72 = .ok (.iload_n 3, 1) := by decide +kernel
theorem dX10_glass_73 : decode cX10_glass 73 = .ok (.iaload, 1) := by decide +kernel
theorem dX10_glass_74 : decode cX10_glass 74 = .ok (.iload_n 1, 1) := by decide +kernel
theorem dX10_glass_75 : decode cX10_glass 75 = .ok (.if_icmp .eq 9, 3) := by decide +kernel
theorem dX10_glass_78 : decode cX10_glass 78 = .ok (.iinc 3 1, 3) := by decide +kernel
theorem dX10_glass_81 : decode cX10_glass 81 = .ok (.goto (-19), 3) := by decide +kernel
theorem dX10_glass_84 : decode cX10_glass 84 = .ok (.iload_n 3, 1) := by decide +kernel
theorem dX10_glass_85 : decode cX10_glass 85 = .ok (.bipush 30, 2) := by decide +kernel
theorem dX10_glass_87 : decode cX10_glass 87 = .ok (.if_icmp .ne 6, 3) := by decide +kernel
theorem dX10_glass_90 : decode cX10_glass 90 = .ok (.bipush (-2), 2) := by decide +kernel
theorem dX10_glass_92 : decode cX10_glass 92 = .ok (.ireturn, 1) := by decide +kernel
theorem dX10_glass_93 : decode cX10_glass 93 = .ok (.aload_n 0, 1) := by decide +kernel
theorem dX10_glass_94 : decode cX10_glass 94 = .ok (.getfield 149, 3) := by decide +kernel
theorem dX10_glass_97 : decode cX10_glass 97 = .ok (.bipush 60, 2) := by decide +kernel
theorem dX10_glass_99 : decode cX10_glass 99 = .ok (.if_icmp .ne 6, 3) := by decide +kernel
theorem dX10_glass_102 : decode cX10_glass 102 = .ok (.bipush (-3), 2) := by decide +kernel
theorem dX10_glass_104 : decode cX10_glass 104 = .ok (.ireturn, 1) := by decide +kernel
theorem dX10_glass_105 : decode cX10_glass 105 = .ok (.aload_n 0, 1) := by decide +kernel
theorem dX10_glass_106 : decode cX10_glass 106 = .ok (.iload_n 3, 1) := by decide +kernel
theorem dX10_glass_107 : decode cX10_glass 107 = .ok (.iload_n 1, 1) := by decide +kernel
theorem dX10_glass_108 : decode cX10_glass 108 = .ok (.iconst (-1), 1) := by decide +kernel
theorem dX10_glass_109 : decode cX10_glass 109 = .ok (.invokevirtual 142, 3) := by decide +kernel
theorem dX10_glass_112 : decode cX10_glass 112 = .ok (.aload_n 0, 1) := by decide +kernel
theorem dX10_glass_113 : decode cX10_glass 113 = .ok (.getfield 50, 3) := by decide +kernel
theorem dX10_glass_116 : decode cX10_glass 116 = .ok (.iload_n 2, 1) := by decide +kernel
theorem dX10_glass_117 : decode cX10_glass 117 = .ok (.iload_n 1, 1) := by decide +kernel
theorem dX10_glass_118 : decode cX10_glass 118 = .ok (.iastore, 1) := by decide +kernel
theorem dX10_glass_119 : decode cX10_glass 119 = .ok (.aload_n 0, 1) := by decide +kernel
theorem dX10_glass_120 : decode cX10_glass 120 = .ok (.getfield 53, 3) := by decide +kernel
theorem dX10_glass_123 : decode cX10_glass 123 = .ok (.iload_n 2, 1) := by decide +kernel
theorem dX10_glass_124 : decode cX10_glass 124 = .ok (.aload_n 0, 1) := by decide +kernel
theorem dX10_glass_125 : decode cX10_glass 125 = .ok (.getfield 105, 3) := by decide +kernel
theorem dX10_glass_128 : decode cX10_glass 128 = .ok (.iastore, 1) := by decide +kernel
theorem dX10_glass_129 : decode cX10_glass 129 = .ok (.aload_n 0, 1) := by decide +kernel
theorem dX10_glass_130 : decode cX10_glass 130 = .ok (.getfield 56, 3) := by decide +kernel
theorem dX10_glass_133 : decode cX10_glass 133 = .ok (.iload_n 2, 1) := by decide +kernel
theorem dX10_glass_134 : decode cX10_glass 134 = .ok (.bipush 6, 2) := by decide +kernel
theorem dX10_glass_136 : decode cX10_glass 136 = .ok (.iastore, 1) := by decide +kernel
theorem dX10_glass_137 : decode cX10_glass 137 = .ok (.aload_n 0, 1) := by decide +kernel
theorem dX10_glass_138 : decode cX10_glass 138 = .ok (.dup, 1) := by decide +kernel
theorem dX10_glass_139 : decode cX10_glass 139 = .ok (.getfield 149, 3) := by decide +kernel
theorem dX10_glass_142 : decode cX10_glass 142 = .ok (.iconst 1, 1) := by decide +kernel
theorem dX10_glass_143 : decode cX10_glass 143 = .ok (.iadd, 1) := by decide +kernel
theorem dX10_glass_144 : decode cX10_glass 144 = .ok (.putfield 149, 3) := by decide +kernel
theorem dX10_glass_147 : decode cX10_glass 147 = .ok (.aload_n 0, 1) := by decide +kernel
theorem dX10_glass_148 : decode cX10_glass 148 = .ok (.iload_n 1, 1) := by decide +kernel
theorem dX10_glass_149 : decode cX10_glass 149 = .ok (.aload_n 0, 1) := by decide +kernel
theorem dX10_glass_150 : decode cX10_glass 150 = .ok (.invokevirtual 134, 3) := by decide +kernel
theorem dX10_glass_153 : decode cX10_glass 153 = .ok (.invokevirtual 130, 3) := by decide +kernel
theorem dX10_glass_156 : decode cX10_glass 156 = .ok (.iconst 4, 1) := by decide +kernel
theorem dX10_glass_157 : decode cX10_glass 157 = .ok (.iadd, 1) := by decide +kernel
theorem dX10_glass_158 : decode cX10_glass 158 = .ok (.iconst 5, 1) := by decide +kernel
theorem dX10_glass_159 : decode cX10_glass 159 = .ok (.idiv, 1) := by decide +kernel
theorem dX10_glass_160 : decode cX10_glass 160 = .ok (.istore_n 3, 1) := by decide +kernel
theorem dX10_glass_161 : decode cX10_glass 161 = .ok (.aload_n 0, 1) := by decide +kernel
theorem dX10_glass_162 : decode cX10_glass 162 = .ok (.dup, 1) := by decide +kernel
theorem dX10_glass_163 : decode cX10_glass 163 = .ok (.getfield 162, 3) := by decide +kernel
theorem dX10_glass_166 : decode cX10_glass 166 = .ok (.iload_n 3, 1) := by decide +kernel
theorem dX10_glass_167 : decode cX10_glass 167 = .ok (.i2l, 1) := by decide +kernel
theorem dX10_glass_168 : decode cX10_glass 168 = .ok (.ladd, 1) := by decide +kernel
theorem dX10_glass_169 : decode cX10_glass 169 = .ok (.putfield 162, 3) := by decide +kernel
theorem dX10_glass_172 : decode cX10_glass 172 = .ok (.aload_n 0, 1) := by decide +kernel
theorem dX10_glass_173 : decode cX10_glass 173 = .ok (.dup, 1) := by decide +kernel
theorem dX10_glass_174 : decode cX10_glass 174 = .ok (.getfield 178, 3) := by decide +kernel
theorem dX10_glass_177 : decode cX10_glass 177 = .ok (.iconst 1, 1) := by decide +kernel
theorem dX10_glass_178 : decode cX10_glass 178 = .ok (.iadd, 1) := by decide +kernel
theorem dX10_glass_179 : decode cX10_glass 179 = .ok (.putfield 178, 3) := by decide +kernel
theorem dX10_glass_182 : decode cX10_glass 182 = .ok (.aload_n 0, 1) := by decide +kernel
theorem dX10_glass_183 : decode cX10_glass 183 = .ok (.getfield 56, 3) := by decide +kernel
theorem dX10_glass_186 : decode cX10_glass 186 = .ok (.iload_n 2, 1) := by decide +kernel
theorem dX10_glass_187 : decode cX10_glass 187 = .ok (.dup2, 1) := by decide +kernel
theorem dX10_glass_188 : decode cX10_glass 188 = .ok (.iaload, 1) := by decide +kernel
theorem dX10_glass_189 : decode cX10_glass 189 = .ok (.iconst 1, 1) := by decide +kernel
theorem dX10_glass_190 : decode cX10_glass 190 = .ok (.isub, 1) := by decide +kernel
theorem dX10_glass_191 : decode cX10_glass 191 = .ok (.iastore, 1) := by decide +kernel
theorem dX10_glass_192 : decode cX10_glass 192 = .ok (.aload_n 0, 1) := by decide +kernel
theorem dX10_glass_193 : decode cX10_glass 193 = .ok (.getfield 56, 3) := by decide +kernel
theorem dX10_glass_196 : decode cX10_glass 196 = .ok (.iload_n 2, 1) := by decide +kernel
theorem dX10_glass_197 : decode cX10_glass 197 = .ok (.iaload, 1) := by decide +kernel
theorem dX10_glass_198 : decode cX10_glass 198 = .ok (.ifCond .ne 8, 3) := by decide +kernel
theorem dX10_glass_201 : decode cX10_glass 201 = .ok (.aload_n 0, 1) := by decide +kernel
theorem dX10_glass_202 : decode cX10_glass 202 = .ok (.iload_n 2, 1) := by decide +kernel
theorem dX10_glass_203 : decode cX10_glass 203 = .ok (.invokevirtual 181, 3) := by decide +kernel
theorem dX10_glass_206 : decode cX10_glass 206 = .ok (.iload_n 3, 1) := by decide +kernel
theorem dX10_glass_207 : decode cX10_glass 207 = .ok (.ireturn, 1) := by decide +kernel
theorem dX10_keeps_0 : decode cX10_keeps 0 = .ok (.aload_n 0, 1) := by decide +kernel
theorem dX10_keeps_1 : decode cX10_keeps 1 = .ok (.getfield 13, 3) := by decide +kernel
theorem dX10_keeps_4 : decode cX10_keeps 4 = .ok (.aload_n 0, 1) := by decide +kernel
theorem dX10_keeps_5 : decode cX10_keeps 5 = .ok (.getfield 29, 3) := by decide +kernel
theorem dX10_keeps_8 : decode cX10_keeps 8 = .ok (.iload_n 1, 1) := by decide +kernel
theorem dX10_keeps_9 : decode cX10_keeps 9 = .ok (.iaload, 1) := by decide +kernel
theorem dX10_keeps_10 : decode cX10_keeps 10 = .ok (.iaload, 1) := by decide +kernel
theorem dX10_keeps_11 : decode cX10_keeps 11 = .ok (.ifCond .ne 8, 3) := by decide +kernel
theorem dX10_keeps_14 : decode cX10_keeps 14 = .ok (.bipush 48, 2) := by decide +kernel
theorem dX10_keeps_16 : decode cX10_keeps 16 = .ok (.goto 26, 3) := by decide +kernel
theorem dX10_keeps_19 : decode cX10_keeps 19 = .ok (.aload_n 0, 1) := by decide +kernel
theorem dX10_keeps_20 : decode cX10_keeps 20 = .ok (.getfield 13, 3) := by decide +kernel
theorem dX10_keeps_23 : decode cX10_keeps 23 = .ok (.aload_n 0, 1) := by decide +kernel
theorem dX10_keeps_24 : decode cX10_keeps 24 = .ok (.getfield 29, 3) := by decide +kernel
theorem dX10_keeps_27 : decode cX10_keeps 27 = .ok (.iload_n 1, 1) := by decide +kernel
theorem dX10_keeps_28 : decode cX10_keeps 28 = .ok (.iaload, 1) := by decide +kernel
theorem dX10_keeps_29 : decode cX10_keeps 29 = .ok (.iaload, 1) := by decide +kernel
theorem dX10_keeps_30 : decode cX10_keeps 30 = .ok (.iconst 1, 1) := by decide +kernel
theorem dX10_keeps_31 : decode cX10_keeps 31 = .ok (.if_icmp .ne 8, 3) := by decide +kernel
theorem dX10_keeps_34 : decode cX10_keeps 34 = .ok (.bipush 12, 2) := by decide +kernel
theorem dX10_keeps_36 : decode cX10_keeps 36 = .ok (.goto 6, 3) := by decide +kernel
theorem dX10_keeps_39 : decode cX10_keeps 39 = .ok (.sipush 240, 3) := by decide +kernel
theorem dX10_keeps_42 : decode cX10_keeps 42 = .ok (.ireturn, 1) := by decide +kernel
set_option maxRecDepth 20000 in
theorem ggX10_wait_X10_within : GoodIn wsX10_wait wsX10_within := goodIn_r _ [11] (by decide +kernel) (by decide +kernel)
set_option maxRecDepth 20000 in
theorem gX10_wait_X10_within : GoodIn wsX10_wait (va_wsS RX10 108 yX10_within wsX10_within) := goodIn_app (goodIn_of _ (by decide +kernel)) ggX10_wait_X10_within
set_option maxRecDepth 20000 in
theorem ggX10_wait_X10_may : GoodIn wsX10_wait wsX10_may := goodIn_r _ [15, 1, 29, 30, 31, 32, 33, 34, 35, 36, 37, 38, 39, 40, 41, 42, 43, 44, 45, 46, 47, 48, 49, 50, 51, 52, 53, 54, 55, 56, 57, 58, 59, 60, 61, 62, 63, 64, 65, 66, 67, 68, 69, 70, 71, 72, 73, 74, 75, 76, 77] (by decide +kernel) (by decide +kernel)
set_option maxRecDepth 20000 in
theorem gX10_wait_X10_may : GoodIn wsX10_wait (wsV RX10 112 RX10 yX10_may wsX10_may) := goodIn_app (goodIn_of _ (by decide +kernel)) ggX10_wait_X10_may
set_option maxRecDepth 20000 in
theorem ggX10_wait_X10_keeps : GoodIn wsX10_wait wsX10_keeps := goodIn_r _ [19, 20, 21, 29, 30, 31, 32, 33, 34, 35, 36, 37, 38, 39, 40, 41, 42, 43, 44, 45, 46, 47, 48, 49, 50, 51, 52, 53, 54, 55, 56, 57, 58, 59, 60, 61, 62, 63, 64, 65, 66, 67, 68, 69, 70, 71, 72, 73, 74, 75, 76, 77] (by decide +kernel) (by decide +kernel)
set_option maxRecDepth 20000 in
theorem gX10_wait_X10_keeps : GoodIn wsX10_wait (wsV RX10 187 RX10 yX10_keeps wsX10_keeps) := goodIn_app (goodIn_of _ (by decide +kernel)) ggX10_wait_X10_keeps
set_option maxRecDepth 20000 in
theorem ggX10_wait_X10_empties : GoodIn wsX10_wait wsX10_empties := goodIn_r _ [25, 26, 27, 28, 5, 7, 6, 29, 30, 31, 32, 33, 34, 35, 36, 37, 38, 39, 40, 41, 42, 43, 44, 45, 46, 47, 48, 49, 50, 51, 52, 53, 54, 55, 56, 57, 58, 59, 60, 61, 62, 63, 64, 65, 66, 67, 68, 69, 70, 71, 72, 73, 74, 75, 76, 77] (by decide +kernel) (by decide +kernel)
set_option maxRecDepth 20000 in
theorem gX10_wait_X10_empties : GoodIn wsX10_wait (wsV RX10 181 RX10 yX10_empties wsX10_empties) := goodIn_app (goodIn_of _ (by decide +kernel)) ggX10_wait_X10_empties
theorem dX10_wait_0 : decode cX10_wait 0 = .ok (.aload_n 0, 1) := by decide +kernel
theorem dX10_wait_1 : decode cX10_wait 1 = .ok (.iconst 0, 1) := by decide +kernel
theorem dX10_wait_2 : decode cX10_wait 2 = .ok (.putfield 1, 3) := by decide +kernel
theorem dX10_wait_5 : decode cX10_wait 5 = .ok (.aload_n 0, 1) := by decide +kernel
theorem dX10_wait_6 : decode cX10_wait 6 = .ok (.iload_n 1, 1) := by decide +kernel
theorem dX10_wait_7 : decode cX10_wait 7 = .ok (.iconst 0, 1) := by decide +kernel
theorem dX10_wait_8 : decode cX10_wait 8 = .ok (.ldc 185, 2) := by decide +kernel
theorem dX10_wait_10 : decode cX10_wait 10 = .ok (.invokestatic 108, 3) := by decide +kernel
theorem dX10_wait_13 : decode cX10_wait 13 = .ok (.iconst 1, 1) := by decide +kernel
theorem dX10_wait_14 : decode cX10_wait 14 = .ok (.invokevirtual 112, 3) := by decide +kernel
theorem dX10_wait_17 : decode cX10_wait 17 = .ok (.ifCond .eq 27, 3) := by decide +kernel
theorem dX10_wait_20 : decode cX10_wait 20 = .ok (.aload_n 0, 1) := by decide +kernel
theorem dX10_wait_21 : decode cX10_wait 21 = .ok (.aload_n 0, 1) := by decide +kernel
theorem dX10_wait_22 : decode cX10_wait 22 = .ok (.getfield 105, 3) := by decide +kernel
theorem dX10_wait_25 : decode cX10_wait 25 = .ok (.iload_n 1, 1) := by decide +kernel
theorem dX10_wait_26 : decode cX10_wait 26 = .ok (.iadd, 1) := by decide +kernel
theorem dX10_wait_27 : decode cX10_wait 27 = .ok (.ldc 186, 2) := by decide +kernel
theorem dX10_wait_29 : decode cX10_wait 29 = .ok (.if_icmp .gt 7, 3) := by decide +kernel
theorem dX10_wait_32 : decode cX10_wait 32 = .ok (.iconst 1, 1) := by decide +kernel
theorem dX10_wait_33 : decode cX10_wait 33 = .ok (.goto 4, 3) := by decide +kernel
theorem dX10_wait_36 : decode cX10_wait 36 = .ok (.iconst 0, 1) := by decide +kernel
theorem dX10_wait_37 : decode cX10_wait 37 = .ok (.iconst 2, 1) := by decide +kernel
theorem dX10_wait_38 : decode cX10_wait 38 = .ok (.invokevirtual 112, 3) := by decide +kernel
theorem dX10_wait_41 : decode cX10_wait 41 = .ok (.ifCond .ne 5, 3) := by decide +kernel
theorem dX10_wait_44 : decode cX10_wait 44 = .ok (.iconst 0, 1) := by decide +kernel
theorem dX10_wait_45 : decode cX10_wait 45 = .ok (.ireturn, 1) := by decide +kernel
theorem dX10_wait_46 : decode cX10_wait 46 = .ok (.aload_n 0, 1) := by decide +kernel
theorem dX10_wait_47 : decode cX10_wait 47 = .ok (.dup, 1) := by decide +kernel
theorem dX10_wait_48 : decode cX10_wait 48 = .ok (.getfield 105, 3) := by decide +kernel
theorem dX10_wait_51 : decode cX10_wait 51 = .ok (.iload_n 1, 1) := by decide +kernel
theorem dX10_wait_52 : decode cX10_wait 52 = .ok (.iadd, 1) := by decide +kernel
theorem dX10_wait_53 : decode cX10_wait 53 = .ok (.putfield 105, 3) := by decide +kernel
theorem dX10_wait_56 : decode cX10_wait 56 = .ok (.aload_n 0, 1) := by decide +kernel
theorem dX10_wait_57 : decode cX10_wait 57 = .ok (.getfield 149, 3) := by decide +kernel
theorem dX10_wait_60 : decode cX10_wait 60 = .ok (.iconst 1, 1) := by decide +kernel
theorem dX10_wait_61 : decode cX10_wait 61 = .ok (.isub, 1) := by decide +kernel
theorem dX10_wait_62 : decode cX10_wait 62 = .ok (.istore_n 2, 1) := by decide +kernel
theorem dX10_wait_63 : decode cX10_wait 63 = .ok (.iload_n 2, 1) := by decide +kernel
theorem dX10_wait_64 : decode cX10_wait 64 = .ok (.ifCond .lt 38, 3) := by decide +kernel
theorem dX10_wait_67 : decode cX10_wait 67 = .ok (.aload_n 0, 1) := by decide +kernel
theorem dX10_wait_68 : decode cX10_wait 68 = .ok (.getfield 105, 3) := by decide +kernel
theorem dX10_wait_71 : decode cX10_wait 71 = .ok (.aload_n 0, 1) := by decide +kernel
theorem dX10_wait_72 : decode cX10_wait 72 = .ok (.getfield 53, 3) := by decide +kernel
theorem dX10_wait_75 : decode cX10_wait 75 = .ok (.iload_n 2, 1) := by decide +kernel
theorem dX10_wait_76 : decode cX10_wait 76 = .ok (.iaload, 1) := by decide +kernel
theorem dX10_wait_77 : decode cX10_wait 77 = .ok (.isub, 1) := by decide +kernel
theorem dX10_wait_78 : decode cX10_wait 78 = .ok (.aload_n 0, 1) := by decide +kernel
theorem dX10_wait_79 : decode cX10_wait 79 = .ok (.aload_n 0, 1) := by decide +kernel
theorem dX10_wait_80 : decode cX10_wait 80 = .ok (.getfield 50, 3) := by decide +kernel
theorem dX10_wait_83 : decode cX10_wait 83 = .ok (.iload_n 2, 1) := by decide +kernel
theorem dX10_wait_84 : decode cX10_wait 84 = .ok (.iaload, 1) := by decide +kernel
theorem dX10_wait_85 : decode cX10_wait 85 = .ok (.invokevirtual 187, 3) := by decide +kernel
theorem dX10_wait_88 : decode cX10_wait 88 = .ok (.if_icmp .lt 8, 3) := by decide +kernel
theorem dX10_wait_91 : decode cX10_wait 91 = .ok (.aload_n 0, 1) := by decide +kernel
theorem dX10_wait_92 : decode cX10_wait 92 = .ok (.iload_n 2, 1) := by decide +kernel
theorem dX10_wait_93 : decode cX10_wait 93 = .ok (.invokevirtual 181, 3) := by decide +kernel
theorem dX10_wait_96 : decode cX10_wait 96 = .ok (.iinc 2 (-1), 3) := by decide +kernel
theorem dX10_wait_99 : decode cX10_wait 99 = .ok (.goto (-36), 3) := by decide +kernel
theorem dX10_wait_102 : decode cX10_wait 102 = .ok (.aload_n 0, 1) := by decide +kernel
theorem dX10_wait_103 : decode cX10_wait 103 = .ok (.getfield 105, 3) := by decide +kernel
theorem dX10_wait_106 : decode cX10_wait 106 = .ok (.ireturn, 1) := by decide +kernel
theorem dX10_feed_0 : decode cX10_feed 0 = .ok (.aload_n 0, 1) := by decide +kernel
theorem dX10_feed_1 : decode cX10_feed 1 = .ok (.iconst 0, 1) := by decide +kernel
theorem dX10_feed_2 : decode cX10_feed 2 = .ok (.putfield 1, 3) := by decide +kernel
theorem dX10_feed_5 : decode cX10_feed 5 = .ok (.aload_n 0, 1) := by decide +kernel
theorem dX10_feed_6 : decode cX10_feed 6 = .ok (.getfield 190, 3) := by decide +kernel
theorem dX10_feed_9 : decode cX10_feed 9 = .ok (.bipush 20, 2) := by decide +kernel
theorem dX10_feed_11 : decode cX10_feed 11 = .ok (.iadd, 1) := by decide +kernel
theorem dX10_feed_12 : decode cX10_feed 12 = .ok (.sipush 200, 3) := by decide +kernel
theorem dX10_feed_15 : decode cX10_feed 15 = .ok (.if_icmp .le 5, 3) := by decide +kernel
theorem dX10_feed_18 : decode cX10_feed 18 = .ok (.iconst (-1), 1) := by decide +kernel
theorem dX10_feed_19 : decode cX10_feed 19 = .ok (.ireturn, 1) := by decide +kernel
theorem dX10_feed_20 : decode cX10_feed 20 = .ok (.iconst 0, 1) := by decide +kernel
theorem dX10_feed_21 : decode cX10_feed 21 = .ok (.istore 6, 2) := by decide +kernel
theorem dX10_feed_23 : decode cX10_feed 23 = .ok (.iload 6, 2) := by decide +kernel
theorem dX10_feed_25 : decode cX10_feed 25 = .ok (.bipush 20, 2) := by decide +kernel
theorem dX10_feed_27 : decode cX10_feed 27 = .ok (.if_icmp .ge 93, 3) := by decide +kernel
theorem dX10_feed_30 : decode cX10_feed 30 = .ok (.iload 6, 2) := by decide +kernel
theorem dX10_feed_32 : decode cX10_feed 32 = .ok (.iconst 4, 1) := by decide +kernel
theorem dX10_feed_33 : decode cX10_feed 33 = .ok (.if_icmp .ge 7, 3) := by decide +kernel
theorem dX10_feed_36 : decode cX10_feed 36 = .ok (.iload_n 1, 1) := by decide +kernel
theorem dX10_feed_37 : decode cX10_feed 37 = .ok (.goto 39, 3) := by decide +kernel
theorem dX10_feed_40 : decode cX10_feed 40 = .ok (.iload 6, 2) := by decide +kernel
theorem dX10_feed_42 : decode cX10_feed 42 = .ok (.bipush 8, 2) := by decide +kernel
theorem dX10_feed_44 : decode cX10_feed 44 = .ok (.if_icmp .ge 7, 3) := by decide +kernel
theorem dX10_feed_47 : decode cX10_feed 47 = .ok (.iload_n 2, 1) := by decide +kernel
theorem dX10_feed_48 : decode cX10_feed 48 = .ok (.goto 28, 3) := by decide +kernel
theorem dX10_feed_51 : decode cX10_feed 51 = .ok (.iload 6, 2) := by decide +kernel
theorem dX10_feed_53 : decode cX10_feed 53 = .ok (.bipush 12, 2) := by decide +kernel
theorem dX10_feed_55 : decode cX10_feed 55 = .ok (.if_icmp .ge 7, 3) := by decide +kernel
theorem dX10_feed_58 : decode cX10_feed 58 = .ok (.iload_n 3, 1) := by decide +kernel
theorem dX10_feed_59 : decode cX10_feed 59 = .ok (.goto 17, 3) := by decide +kernel
theorem dX10_feed_62 : decode cX10_feed 62 = .ok (.iload 6, 2) := by decide +kernel
theorem dX10_feed_64 : decode cX10_feed 64 = .ok (.bipush 16, 2) := by decide +kernel
theorem dX10_feed_66 : decode cX10_feed 66 = .ok (.if_icmp .ge 8, 3) := by decide +kernel
theorem dX10_feed_69 : decode cX10_feed 69 = .ok (.iload 4, 2) := by decide +kernel
theorem dX10_feed_71 : decode cX10_feed 71 = .ok (.goto 5, 3) := by decide +kernel
theorem dX10_feed_74 : decode cX10_feed 74 = .ok (.iload 5, 2) := by decide +kernel
theorem dX10_feed_76 : decode cX10_feed 76 = .ok (.istore 7, 2) := by decide +kernel
theorem dX10_feed_78 : decode cX10_feed 78 = .ok (.aload_n 0, 1) := by decide +kernel
theorem dX10_feed_79 : decode cX10_feed 79 = .ok (.getfield 59, 3) := by decide +kernel
theorem dX10_feed_82 : decode cX10_feed 82 = .ok (.aload_n 0, 1) := by decide +kernel
theorem dX10_feed_83 : decode cX10_feed 83 = .ok (.getfield 190, 3) := by decide +kernel
theorem dX10_feed_86 : decode cX10_feed 86 = .ok (.iload 7, 2) := by decide +kernel
theorem dX10_feed_88 : decode cX10_feed 88 = .ok (.bipush 24, 2) := by decide +kernel
theorem dX10_feed_90 : decode cX10_feed 90 = .ok (.bipush 8, 2) := by decide +kernel
theorem dX10_feed_92 : decode cX10_feed 92 = .ok (.iload 6, 2) := by decide +kernel
theorem dX10_feed_94 : decode cX10_feed 94 = .ok (.iconst 4, 1) := by decide +kernel
theorem dX10_feed_95 : decode cX10_feed 95 = .ok (.irem, 1) := by decide +kernel
theorem dX10_feed_96 : decode cX10_feed 96 = .ok (.imul, 1) := by decide +kernel
theorem dX10_feed_97 : decode cX10_feed 97 = .ok (.isub, 1) := by decide +kernel
theorem dX10_feed_98 : decode cX10_feed 98 = .ok (.ishr, 1) := by decide +kernel
theorem dX10_feed_99 : decode cX10_feed 99 = .ok (.sipush 255, 3) := by decide +kernel
theorem dX10_feed_102 : decode cX10_feed 102 = .ok (.iand, 1) := by decide +kernel
theorem dX10_feed_103 : decode cX10_feed 103 = .ok (.iastore, 1) := by decide +kernel
theorem dX10_feed_104 : decode cX10_feed 104 = .ok (.aload_n 0, 1) := by decide +kernel
theorem dX10_feed_105 : decode cX10_feed 105 = .ok (.dup, 1) := by decide +kernel
theorem dX10_feed_106 : decode cX10_feed 106 = .ok (.getfield 190, 3) := by decide +kernel
theorem dX10_feed_109 : decode cX10_feed 109 = .ok (.iconst 1, 1) := by decide +kernel
theorem dX10_feed_110 : decode cX10_feed 110 = .ok (.iadd, 1) := by decide +kernel
theorem dX10_feed_111 : decode cX10_feed 111 = .ok (.putfield 190, 3) := by decide +kernel
theorem dX10_feed_114 : decode cX10_feed 114 = .ok (.iinc 6 1, 3) := by decide +kernel
theorem dX10_feed_117 : decode cX10_feed 117 = .ok (.goto (-94), 3) := by decide +kernel
theorem dX10_feed_120 : decode cX10_feed 120 = .ok (.aload_n 0, 1) := by decide +kernel
theorem dX10_feed_121 : decode cX10_feed 121 = .ok (.getfield 190, 3) := by decide +kernel
theorem dX10_feed_124 : decode cX10_feed 124 = .ok (.ireturn, 1) := by decide +kernel
theorem dX10_fine_0 : decode cX10_fine 0 = .ok (.aload_n 0, 1) := by decide +kernel
theorem dX10_fine_1 : decode cX10_fine 1 = .ok (.getfield 193, 3) := by decide +kernel
theorem dX10_fine_4 : decode cX10_fine 4 = .ok (.iconst (-1), 1) := by decide +kernel
theorem dX10_fine_5 : decode cX10_fine 5 = .ok (.if_icmp .ne 7, 3) := by decide +kernel
theorem dX10_fine_8 : decode cX10_fine 8 = .ok (.iconst 1, 1) := by decide +kernel
theorem dX10_fine_9 : decode cX10_fine 9 = .ok (.goto 4, 3) := by decide +kernel
theorem dX10_fine_12 : decode cX10_fine 12 = .ok (.iconst 0, 1) := by decide +kernel
theorem dX10_fine_13 : decode cX10_fine 13 = .ok (.ireturn, 1) := by decide +kernel
theorem dX10_wrong_0 : decode cX10_wrong 0 = .ok (.aload_n 0, 1) := by decide +kernel
theorem dX10_wrong_1 : decode cX10_wrong 1 = .ok (.getfield 193, 3) := by decide +kernel
theorem dX10_wrong_4 : decode cX10_wrong 4 = .ok (.iconst (-1), 1) := by decide +kernel
theorem dX10_wrong_5 : decode cX10_wrong 5 = .ok (.if_icmp .ne 8, 3) := by decide +kernel
theorem dX10_wrong_8 : decode cX10_wrong 8 = .ok (.aload_n 0, 1) := by decide +kernel
theorem dX10_wrong_9 : decode cX10_wrong 9 = .ok (.iload_n 1, 1) := by decide +kernel
theorem dX10_wrong_10 : decode cX10_wrong 10 = .ok (.putfield 193, 3) := by decide +kernel
theorem dX10_wrong_13 : decode cX10_wrong 13 = .ok (.return_, 1) := by decide +kernel
theorem dX10_here_0 : decode cX10_here 0 = .ok (.aload_n 0, 1) := by decide +kernel
theorem dX10_here_1 : decode cX10_here 1 = .ok (.getfield 196, 3) := by decide +kernel
theorem dX10_here_4 : decode cX10_here 4 = .ok (.aload_n 0, 1) := by decide +kernel
theorem dX10_here_5 : decode cX10_here 5 = .ok (.getfield 199, 3) := by decide +kernel
theorem dX10_here_8 : decode cX10_here 8 = .ok (.if_icmp .ge 30, 3) := by decide +kernel
theorem dX10_here_11 : decode cX10_here 11 = .ok (.aload_n 0, 1) := by decide +kernel
theorem dX10_here_12 : decode cX10_here 12 = .ok (.getfield 59, 3) := by decide +kernel
theorem dX10_here_15 : decode cX10_here 15 = .ok (.aload_n 0, 1) := by decide +kernel
theorem dX10_here_16 : decode cX10_here 16 = .ok (.getfield 196, 3) := by decide +kernel
theorem dX10_here_19 : decode cX10_here 19 = .ok (.iaload, 1) := by decide +kernel
theorem dX10_here_20 : decode cX10_here 20 = .ok (.bipush 32, 2) := by decide +kernel
theorem dX10_here_22 : decode cX10_here 22 = .ok (.if_icmp .ne 16, 3) := by decide +kernel
theorem dX10_here_25 : decode cX10_here 25 = .ok (.aload_n 0, 1) := by decide +kernel
theorem dX10_here_26 : decode cX10_here 26 = .ok (.dup, 1) := by decide +kernel
theorem dX10_here_27 : decode cX10_here 27 = .ok (.getfield 196, 3) := by decide +kernel
theorem dX10_here_30 : decode cX10_here 30 = .ok (.iconst 1, 1) := by decide +kernel
theorem dX10_here_31 : decode cX10_here 31 = .ok (.iadd, 1) := by decide +kernel
theorem dX10_here_32 : decode cX10_here 32 = .ok (.putfield 196, 3) := by decide +kernel
theorem dX10_here_35 : decode cX10_here 35 = .ok (.goto (-35), 3) := by decide +kernel
theorem dX10_here_38 : decode cX10_here 38 = .ok (.aload_n 0, 1) := by decide +kernel
theorem dX10_here_39 : decode cX10_here 39 = .ok (.getfield 196, 3) := by decide +kernel
theorem dX10_here_42 : decode cX10_here 42 = .ok (.aload_n 0, 1) := by decide +kernel
theorem dX10_here_43 : decode cX10_here 43 = .ok (.getfield 199, 3) := by decide +kernel
theorem dX10_here_46 : decode cX10_here 46 = .ok (.if_icmp .ge 15, 3) := by decide +kernel
theorem dX10_here_49 : decode cX10_here 49 = .ok (.aload_n 0, 1) := by decide +kernel
theorem dX10_here_50 : decode cX10_here 50 = .ok (.getfield 59, 3) := by decide +kernel
theorem dX10_here_53 : decode cX10_here 53 = .ok (.aload_n 0, 1) := by decide +kernel
theorem dX10_here_54 : decode cX10_here 54 = .ok (.getfield 196, 3) := by decide +kernel
theorem dX10_here_57 : decode cX10_here 57 = .ok (.iaload, 1) := by decide +kernel
theorem dX10_here_58 : decode cX10_here 58 = .ok (.goto 4, 3) := by decide +kernel
theorem dX10_here_61 : decode cX10_here 61 = .ok (.iconst 0, 1) := by decide +kernel
theorem dX10_here_62 : decode cX10_here 62 = .ok (.ireturn, 1) := by decide +kernel
theorem dX10_isSmall_0 : decode cX10_isSmall 0 = .ok (.iload_n 0, 1) := by decide +kernel
theorem dX10_isSmall_1 : decode cX10_isSmall 1 = .ok (.bipush 97, 2) := by decide +kernel
theorem dX10_isSmall_3 : decode cX10_isSmall 3 = .ok (.if_icmp .lt 13, 3) := by decide +kernel
theorem dX10_isSmall_6 : decode cX10_isSmall 6 = .ok (.iload_n 0, 1) := by decide +kernel
theorem dX10_isSmall_7 : decode cX10_isSmall 7 = .ok (.bipush 122, 2) := by decide +kernel
theorem dX10_isSmall_9 : decode cX10_isSmall 9 = .ok (.if_icmp .gt 7, 3) := by decide +kernel
theorem dX10_isSmall_12 : decode cX10_isSmall 12 = .ok (.iconst 1, 1) := by decide +kernel
theorem dX10_isSmall_13 : decode cX10_isSmall 13 = .ok (.goto 4, 3) := by decide +kernel
theorem dX10_isSmall_16 : decode cX10_isSmall 16 = .ok (.iconst 0, 1) := by decide +kernel
theorem dX10_isSmall_17 : decode cX10_isSmall 17 = .ok (.ireturn, 1) := by decide +kernel
theorem dX10_isDigit_0 : decode cX10_isDigit 0 = .ok (.iload_n 0, 1) := by decide +kernel
theorem dX10_isDigit_1 : decode cX10_isDigit 1 = .ok (.bipush 48, 2) := by decide +kernel
theorem dX10_isDigit_3 : decode cX10_isDigit 3 = .ok (.if_icmp .lt 13, 3) := by decide +kernel
theorem dX10_isDigit_6 : decode cX10_isDigit 6 = .ok (.iload_n 0, 1) := by decide +kernel
theorem dX10_isDigit_7 : decode cX10_isDigit 7 = .ok (.bipush 57, 2) := by decide +kernel
theorem dX10_isDigit_9 : decode cX10_isDigit 9 = .ok (.if_icmp .gt 7, 3) := by decide +kernel
theorem dX10_isDigit_12 : decode cX10_isDigit 12 = .ok (.iconst 1, 1) := by decide +kernel
theorem dX10_isDigit_13 : decode cX10_isDigit 13 = .ok (.goto 4, 3) := by decide +kernel
theorem dX10_isDigit_16 : decode cX10_isDigit 16 = .ok (.iconst 0, 1) := by decide +kernel
theorem dX10_isDigit_17 : decode cX10_isDigit 17 = .ok (.ireturn, 1) := by decide +kernel
set_option maxRecDepth 20000 in
theorem ggX10_word_X10_here : GoodIn wsX10_word wsX10_here := goodIn_r _ [8, 1, 2, 3, 12, 13, 14, 15, 16, 17, 18, 19, 20, 21, 22, 23, 24, 25, 26, 27, 28, 29, 30, 31, 32, 33, 34, 35, 36, 37, 38, 39, 40, 41, 42, 43, 44, 45, 46, 47, 48, 49, 50, 51, 52, 53, 54, 55, 56, 57, 58, 59, 60] (by decide +kernel) (by decide +kernel)
set_option maxRecDepth 20000 in
theorem gX10_word_X10_here : GoodIn wsX10_word (wsV RX10 202 RX10 yX10_here wsX10_here) := goodIn_app (goodIn_of _ (by decide +kernel)) ggX10_word_X10_here
set_option maxRecDepth 20000 in
theorem ggX10_word_X10_isSmall : GoodIn wsX10_word wsX10_isSmall := goodIn_r _ [11] (by decide +kernel) (by decide +kernel)
set_option maxRecDepth 20000 in
theorem gX10_word_X10_isSmall : GoodIn wsX10_word (va_wsS RX10 205 yX10_isSmall wsX10_isSmall) := goodIn_app (goodIn_of _ (by decide +kernel)) ggX10_word_X10_isSmall
theorem dX10_word_0 : decode cX10_word 0 = .ok (.aload_n 0, 1) := by decide +kernel
theorem dX10_word_1 : decode cX10_word 1 = .ok (.invokevirtual 202, 3) := by decide +kernel
theorem dX10_word_4 : decode cX10_word 4 = .ok (.pop, 1) := by decide +kernel
theorem dX10_word_5 : decode cX10_word 5 = .ok (.iconst 0, 1) := by decide +kernel
theorem dX10_word_6 : decode cX10_word 6 = .ok (.istore_n 1, 1) := by decide +kernel
theorem dX10_word_7 : decode cX10_word 7 = .ok (.iconst 0, 1) := by decide +kernel
theorem dX10_word_8 : decode cX10_word 8 = .ok (.istore_n 2, 1) := by decide +kernel
theorem dX10_word_9 : decode cX10_word 9 = .ok (.aload_n 0, 1) := by decide +kernel
theorem dX10_word_10 : decode cX10_word 10 = .ok (.getfield 196, 3) := by decide +kernel
theorem dX10_word_13 : decode cX10_word 13 = .ok (.istore_n 3, 1) := by decide +kernel
theorem dX10_word_14 : decode cX10_word 14 = .ok (.iload_n 3, 1) := by decide +kernel
theorem dX10_word_15 : decode cX10_word 15 = .ok (.aload_n 0, 1) := by decide +kernel
theorem dX10_word_16 : decode cX10_word 16 = .ok (.getfield 199, 3) := by decide +kernel
theorem dX10_word_19 : decode cX10_word 19 = .ok (.if_icmp .ge 47, 3) := by decide +kernel
theorem dX10_word_22 : decode cX10_word 22 = .ok (.aload_n 0, 1) := by decide +kernel
theorem dX10_word_23 : decode cX10_word 23 = .ok (.getfield 59, 3) := by decide +kernel
theorem dX10_word_26 : decode cX10_word 26 = .ok (.iload_n 3, 1) := by decide +kernel
theorem dX10_word_27 : decode cX10_word 27 = .ok (.iaload, 1) := by decide +kernel
theorem dX10_word_28 : decode cX10_word 28 = .ok (.invokestatic 205, 3) := by decide +kernel
theorem dX10_word_31 : decode cX10_word 31 = .ok (.ifCond .eq 35, 3) := by decide +kernel
theorem dX10_word_34 : decode cX10_word 34 = .ok (.iload_n 2, 1) := by decide +kernel
theorem dX10_word_35 : decode cX10_word 35 = .ok (.iconst 5, 1) := by decide +kernel
theorem dX10_word_36 : decode cX10_word 36 = .ok (.if_icmp .ge 19, 3) := by decide +kernel
theorem dX10_word_39 : decode cX10_word 39 = .ok (.iload_n 1, 1) := by decide +kernel
theorem dX10_word_40 : decode cX10_word 40 = .ok (.iconst 5, 1) := by decide +kernel
theorem dX10_word_41 : decode cX10_word 41 = .ok (.ishl, 1) := by decide +kernel
theorem dX10_word_42 : decode cX10_word 42 = .ok (.aload_n 0, 1) := by decide +kernel
theorem dX10_word_43 : decode cX10_word 43 = .ok (.getfield 59, 3) := by decide +kernel
theorem dX10_word_46 : decode cX10_word 46 = .ok (.iload_n 3, 1) := by decide +kernel
theorem dX10_word_47 : decode cX10_word 47 = .ok (.iaload, 1) := by decide +kernel
theorem dX10_word_48 : decode cX10_word 48 = .ok (.bipush 96, 2) := by decide +kernel
theorem dX10_word_50 : decode cX10_word 50 = .ok (.isub, 1) := by decide +kernel
theorem dX10_word_51 : decode cX10_word 51 = .ok (.ior, 1) := by decide +kernel
theorem dX10_word_52 : decode cX10_word 52 = .ok (.goto 4, 3) := by decide +kernel
theorem dX10_word_55 : decode cX10_word 55 = .ok (.iconst 0, 1) := by decide +kernel
theorem dX10_word_56 : decode cX10_word 56 = .ok (.istore_n 1, 1) := by decide +kernel
theorem dX10_word_57 : decode cX10_word 57 = .ok (.iinc 2 1, 3) := by decide +kernel
theorem dX10_word_60 : decode cX10_word 60 = .ok (.iinc 3 1, 3) := by decide +kernel
theorem dX10_word_63 : decode cX10_word 63 = .ok (.goto (-49), 3) := by decide +kernel
theorem dX10_word_66 : decode cX10_word 66 = .ok (.iload_n 2, 1) := by decide +kernel
theorem dX10_word_67 : decode cX10_word 67 = .ok (.iconst 5, 1) := by decide +kernel
theorem dX10_word_68 : decode cX10_word 68 = .ok (.if_icmp .le 7, 3) := by decide +kernel
theorem dX10_word_71 : decode cX10_word 71 = .ok (.iconst 0, 1) := by decide +kernel
theorem dX10_word_72 : decode cX10_word 72 = .ok (.goto 4, 3) := by decide +kernel
theorem dX10_word_75 : decode cX10_word 75 = .ok (.iload_n 1, 1) := by decide +kernel
theorem dX10_word_76 : decode cX10_word 76 = .ok (.ireturn, 1) := by decide +kernel
theorem dX10_testOf_0 : decode cX10_testOf 0 = .ok (.iload_n 0, 1) := by decide +kernel
theorem dX10_testOf_1 : decode cX10_testOf 1 = .ok (.sipush 18596, 3) := by decide +kernel
theorem dX10_testOf_4 : decode cX10_testOf 4 = .ok (.if_icmp .ne 5, 3) := by decide +kernel
theorem dX10_testOf_7 : decode cX10_testOf 7 = .ok (.iconst 0, 1) := by decide +kernel
theorem dX10_testOf_8 : decode cX10_testOf 8 = .ok (.ireturn, 1) := by decide +kernel
theorem dX10_testOf_9 : decode cX10_testOf 9 = .ok (.iload_n 0, 1) := by decide +kernel
theorem dX10_testOf_10 : decode cX10_testOf 10 = .ok (.ldc 208, 2) := by decide +kernel
theorem dX10_testOf_12 : decode cX10_testOf 12 = .ok (.if_icmp .ne 5, 3) := by decide +kernel
theorem dX10_testOf_15 : decode cX10_testOf 15 = .ok (.iconst 1, 1) := by decide +kernel
theorem dX10_testOf_16 : decode cX10_testOf 16 = .ok (.ireturn, 1) := by decide +kernel
theorem dX10_testOf_17 : decode cX10_testOf 17 = .ok (.iload_n 0, 1) := by decide +kernel
theorem dX10_testOf_18 : decode cX10_testOf 18 = .ok (.ldc 209, 2) := by decide +kernel
theorem dX10_testOf_20 : decode cX10_testOf 20 = .ok (.if_icmp .ne 5, 3) := by decide +kernel
theorem dX10_testOf_23 : decode cX10_testOf 23 = .ok (.iconst 2, 1) := by decide +kernel
theorem dX10_testOf_24 : decode cX10_testOf 24 = .ok (.ireturn, 1) := by decide +kernel
theorem dX10_testOf_25 : decode cX10_testOf 25 = .ok (.iload_n 0, 1) := by decide +kernel
theorem dX10_testOf_26 : decode cX10_testOf 26 = .ok (.ldc 210, 2) := by decide +kernel
theorem dX10_testOf_28 : decode cX10_testOf 28 = .ok (.if_icmp .ne 5, 3) := by decide +kernel
theorem dX10_testOf_31 : decode cX10_testOf 31 = .ok (.iconst 3, 1) := by decide +kernel
theorem dX10_testOf_32 : decode cX10_testOf 32 = .ok (.ireturn, 1) := by decide +kernel
theorem dX10_testOf_33 : decode cX10_testOf 33 = .ok (.iload_n 0, 1) := by decide +kernel
theorem dX10_testOf_34 : decode cX10_testOf 34 = .ok (.ldc 211, 2) := by decide +kernel
theorem dX10_testOf_36 : decode cX10_testOf 36 = .ok (.if_icmp .ne 5, 3) := by decide +kernel
theorem dX10_testOf_39 : decode cX10_testOf 39 = .ok (.iconst 4, 1) := by decide +kernel
theorem dX10_testOf_40 : decode cX10_testOf 40 = .ok (.ireturn, 1) := by decide +kernel
theorem dX10_testOf_41 : decode cX10_testOf 41 = .ok (.iload_n 0, 1) := by decide +kernel
theorem dX10_testOf_42 : decode cX10_testOf 42 = .ok (.ldc 212, 2) := by decide +kernel
theorem dX10_testOf_44 : decode cX10_testOf 44 = .ok (.if_icmp .ne 5, 3) := by decide +kernel
theorem dX10_testOf_47 : decode cX10_testOf 47 = .ok (.iconst 5, 1) := by decide +kernel
theorem dX10_testOf_48 : decode cX10_testOf 48 = .ok (.ireturn, 1) := by decide +kernel
theorem dX10_testOf_49 : decode cX10_testOf 49 = .ok (.iload_n 0, 1) := by decide +kernel
theorem dX10_testOf_50 : decode cX10_testOf 50 = .ok (.sipush 1253, 3) := by decide +kernel
theorem dX10_testOf_53 : decode cX10_testOf 53 = .ok (.if_icmp .ne 6, 3) := by decide +kernel
theorem dX10_testOf_56 : decode cX10_testOf 56 = .ok (.bipush 6, 2) := by decide +kernel
theorem dX10_testOf_58 : decode cX10_testOf 58 = .ok (.ireturn, 1) := by decide +kernel
theorem dX10_testOf_59 : decode cX10_testOf 59 = .ok (.iload_n 0, 1) := by decide +kernel
theorem dX10_testOf_60 : decode cX10_testOf 60 = .ok (.ldc 213, 2) := by decide +kernel
theorem dX10_testOf_62 : decode cX10_testOf 62 = .ok (.if_icmp .ne 8, 3) := by decide +kernel
theorem dX10_testOf_65 : decode cX10_testOf 65 = .ok (.bipush 7, 2) := by decide +kernel
theorem dX10_testOf_67 : decode cX10_testOf 67 = .ok (.goto 4, 3) := by decide +kernel
theorem dX10_testOf_70 : decode cX10_testOf 70 = .ok (.iconst (-1), 1) := by decide +kernel
theorem dX10_testOf_71 : decode cX10_testOf 71 = .ok (.ireturn, 1) := by decide +kernel
set_option maxRecDepth 20000 in
theorem ggX10_digits_X10_here : GoodIn wsX10_digits wsX10_here := goodIn_r _ [8, 1, 2, 3, 21, 22, 23, 24, 25, 26, 27, 28, 29, 30, 31, 32, 33, 34, 35, 36, 37, 38, 39, 40, 41, 42, 43, 44, 45, 46, 47, 48, 49, 50, 51, 52, 53, 54, 55, 56, 57, 58, 59, 60, 61, 62, 63, 64, 65, 66, 67, 68, 69] (by decide +kernel) (by decide +kernel)
set_option maxRecDepth 20000 in
theorem gX10_digits_X10_here : GoodIn wsX10_digits (wsV RX10 202 RX10 yX10_here wsX10_here) := goodIn_app (goodIn_of _ (by decide +kernel)) ggX10_digits_X10_here
set_option maxRecDepth 20000 in
theorem ggX10_digits_X10_isDigit : GoodIn wsX10_digits wsX10_isDigit := goodIn_r _ [11] (by decide +kernel) (by decide +kernel)
set_option maxRecDepth 20000 in
theorem gX10_digits_X10_isDigit : GoodIn wsX10_digits (va_wsS RX10 214 yX10_isDigit wsX10_isDigit) := goodIn_app (goodIn_of _ (by decide +kernel)) ggX10_digits_X10_isDigit
set_option maxRecDepth 20000 in
theorem ggX10_digits_X10_wrong : GoodIn wsX10_digits wsX10_wrong := goodIn_r _ [15, 16, 21, 22, 23, 24, 25, 26, 27, 28, 29, 30, 31, 32, 33, 34, 35, 36, 37, 38, 39, 40, 41, 42, 43, 44, 45, 46, 47, 48, 49, 50, 51, 52, 53, 54, 55, 56, 57, 58, 59, 60, 61, 62, 63, 64, 65, 66, 67, 68, 69] (by decide +kernel) (by decide +kernel)
set_option maxRecDepth 20000 in
theorem gX10_digits_X10_wrong : GoodIn wsX10_digits (wsV RX10 217 RX10 yX10_wrong wsX10_wrong) := goodIn_app (goodIn_of _ (by decide +kernel)) ggX10_digits_X10_wrong
set_option maxRecDepth 20000 in
theorem ggX10_digits_X10_fine : GoodIn wsX10_digits wsX10_fine := goodIn_r _ [20, 16, 21, 22, 23, 24, 25, 26, 27, 28, 29, 30, 31, 32, 33, 34, 35, 36, 37, 38, 39, 40, 41, 42, 43, 44, 45, 46, 47, 48, 49, 50, 51, 52, 53, 54, 55, 56, 57, 58, 59, 60, 61, 62, 63, 64, 65, 66, 67, 68, 69] (by decide +kernel) (by decide +kernel)
set_option maxRecDepth 20000 in
theorem gX10_digits_X10_fine : GoodIn wsX10_digits (wsV RX10 220 RX10 yX10_fine wsX10_fine) := goodIn_app (goodIn_of _ (by decide +kernel)) ggX10_digits_X10_fine
theorem dX10_digits_0 : decode cX10_digits 0 = .ok (.iconst 0, 1) := by decide +kernel
theorem dX10_digits_1 : decode cX10_digits 1 = .ok (.istore_n 1, 1) := by decide +kernel
theorem dX10_digits_2 : decode cX10_digits 2 = .ok (.iconst 0, 1) := by decide +kernel
theorem dX10_digits_3 : decode cX10_digits 3 = .ok (.istore_n 2, 1) := by decide +kernel
theorem dX10_digits_4 : decode cX10_digits 4 = .ok (.aload_n 0, 1) := by decide +kernel
theorem dX10_digits_5 : decode cX10_digits 5 = .ok (.invokevirtual 202, 3) := by decide +kernel
theorem dX10_digits_8 : decode cX10_digits 8 = .ok (.invokestatic 214, 3) := by decide +kernel
theorem dX10_digits_11 : decode cX10_digits 11 = .ok (.ifCond .ne 11, 3) := by decide +kernel
theorem dX10_digits_14 : decode cX10_digits 14 = .ok (.aload_n 0, 1) := by decide +kernel
theorem dX10_digits_15 : decode cX10_digits 15 = .ok (.aload_n 0, 1) := by decide +kernel
theorem dX10_digits_16 : decode cX10_digits 16 = .ok (.getfield 196, 3) := by decide +kernel
theorem dX10_digits_19 : decode cX10_digits 19 = .ok (.invokevirtual 217, 3) := by decide +kernel
theorem dX10_digits_22 : decode cX10_digits 22 = .ok (.aload_n 0, 1) := by decide +kernel
theorem dX10_digits_23 : decode cX10_digits 23 = .ok (.invokevirtual 220, 3) := by decide +kernel
theorem dX10_digits_26 : decode cX10_digits 26 = .ok (.ifCond .eq 79, 3) := by decide +kernel
theorem dX10_digits_29 : decode cX10_digits 29 = .ok (.aload_n 0, 1) := by decide +kernel
theorem dX10_digits_30 : decode cX10_digits 30 = .ok (.getfield 196, 3) := by decide +kernel
theorem dX10_digits_33 : decode cX10_digits 33 = .ok (.aload_n 0, 1) := by decide +kernel
theorem dX10_digits_34 : decode cX10_digits 34 = .ok (.getfield 199, 3) := by decide +kernel
theorem dX10_digits_37 : decode cX10_digits 37 = .ok (.if_icmp .ge 68, 3) := by decide +kernel
theorem dX10_digits_40 : decode cX10_digits 40 = .ok (.aload_n 0, 1) := by decide +kernel
theorem dX10_digits_41 : decode cX10_digits 41 = .ok (.getfield 59, 3) := by decide +kernel
theorem dX10_digits_44 : decode cX10_digits 44 = .ok (.aload_n 0, 1) := by decide +kernel
theorem dX10_digits_45 : decode cX10_digits 45 = .ok (.getfield 196, 3) := by decide +kernel
theorem dX10_digits_48 : decode cX10_digits 48 = .ok (.iaload, 1) := by decide +kernel
theorem dX10_digits_49 : decode cX10_digits 49 = .ok (.invokestatic 214, 3) := by decide +kernel
theorem dX10_digits_52 : decode cX10_digits 52 = .ok (.ifCond .eq 53, 3) := by decide +kernel
theorem dX10_digits_55 : decode cX10_digits 55 = .ok (.iload_n 2, 1) := by decide +kernel
theorem dX10_digits_56 : decode cX10_digits 56 = .ok (.iconst 5, 1) := by decide +kernel
theorem dX10_digits_57 : decode cX10_digits 57 = .ok (.if_icmp .ne 14, 3) := by decide +kernel
theorem dX10_digits_60 : decode cX10_digits 60 = .ok (.aload_n 0, 1) := by decide +kernel
theorem dX10_digits_61 : decode cX10_digits 61 = .ok (.aload_n 0, 1) := by decide +kernel
theorem dX10_digits_62 : decode cX10_digits 62 = .ok (.getfield 196, 3) := by decide +kernel
theorem dX10_digits_65 : decode cX10_digits 65 = .ok (.invokevirtual 217, 3) := by decide +kernel
theorem dX10_digits_68 : decode cX10_digits 68 = .ok (.goto (-46), 3) := by decide +kernel
theorem dX10_digits_71 : decode cX10_digits 71 = .ok (.bipush 10, 2) := by decide +kernel
theorem dX10_digits_73 : decode cX10_digits 73 = .ok (.iload_n 1, 1) := by decide +kernel
theorem dX10_digits_74 : decode cX10_digits 74 = .ok (.imul, 1) := by decide +kernel
theorem dX10_digits_75 : decode cX10_digits 75 = .ok (.aload_n 0, 1) := by decide +kernel
theorem dX10_digits_76 : decode cX10_digits 76 = .ok (.getfield 59, 3) := by decide +kernel
theorem dX10_digits_79 : decode cX10_digits 79 = .ok (.aload_n 0, 1) := by decide +kernel
theorem dX10_digits_80 : decode cX10_digits 80 = .ok (.getfield 196, 3) := by decide +kernel
theorem dX10_digits_83 : decode cX10_digits 83 = .ok (.iaload, 1) := by decide +kernel
theorem dX10_digits_84 : decode cX10_digits 84 = .ok (.iadd, 1) := by decide +kernel
theorem dX10_digits_85 : decode cX10_digits 85 = .ok (.bipush 48, 2) := by decide +kernel
theorem dX10_digits_87 : decode cX10_digits 87 = .ok (.isub, 1) := by decide +kernel
theorem dX10_digits_88 : decode cX10_digits 88 = .ok (.istore_n 1, 1) := by decide +kernel
theorem dX10_digits_89 : decode cX10_digits 89 = .ok (.iinc 2 1, 3) := by decide +kernel
theorem dX10_digits_92 : decode cX10_digits 92 = .ok (.aload_n 0, 1) := by decide +kernel
theorem dX10_digits_93 : decode cX10_digits 93 = .ok (.dup, 1) := by decide +kernel
theorem dX10_digits_94 : decode cX10_digits 94 = .ok (.getfield 196, 3) := by decide +kernel
theorem dX10_digits_97 : decode cX10_digits 97 = .ok (.iconst 1, 1) := by decide +kernel
theorem dX10_digits_98 : decode cX10_digits 98 = .ok (.iadd, 1) := by decide +kernel
theorem dX10_digits_99 : decode cX10_digits 99 = .ok (.putfield 196, 3) := by decide +kernel
theorem dX10_digits_102 : decode cX10_digits 102 = .ok (.goto (-80), 3) := by decide +kernel
theorem dX10_digits_105 : decode cX10_digits 105 = .ok (.iload_n 1, 1) := by decide +kernel
theorem dX10_digits_106 : decode cX10_digits 106 = .ok (.ireturn, 1) := by decide +kernel
set_option maxRecDepth 20000 in
theorem ggX10_readTerm_X10_word : GoodIn wsX10_readTerm wsX10_word := goodIn_r _ [14, 3, 4, 5, 15, 16, 17, 13, 18, 19, 20, 21, 47, 48, 49, 50, 51, 52, 53, 54, 55, 56, 57, 58, 59, 60, 61, 62, 63, 64, 65, 66, 67, 68, 69, 70, 71, 72, 73, 74, 75, 76, 77, 78, 79, 80, 81, 82, 83, 84, 85, 86, 87, 88, 89, 90, 91, 92, 93, 94, 95] (by decide +kernel) (by decide +kernel)
set_option maxRecDepth 20000 in
theorem gX10_readTerm_X10_word : GoodIn wsX10_readTerm (wsV RX10 227 RX10 yX10_word wsX10_word) := goodIn_app (goodIn_of _ (by decide +kernel)) ggX10_readTerm_X10_word
set_option maxRecDepth 20000 in
theorem ggX10_readTerm_X10_testOf : GoodIn wsX10_readTerm wsX10_testOf := goodIn_r _ [24, 25, 26, 27, 28, 29, 30] (by decide +kernel) (by decide +kernel)
set_option maxRecDepth 20000 in
theorem gX10_readTerm_X10_testOf : GoodIn wsX10_readTerm (va_wsS RX10 230 yX10_testOf wsX10_testOf) := goodIn_app (goodIn_of _ (by decide +kernel)) ggX10_readTerm_X10_testOf
set_option maxRecDepth 20000 in
theorem ggX10_readTerm_X10_wrong : GoodIn wsX10_readTerm wsX10_wrong := goodIn_r _ [34, 35, 47, 48, 49, 50, 51, 52, 53, 54, 55, 56, 57, 58, 59, 60, 61, 62, 63, 64, 65, 66, 67, 68, 69, 70, 71, 72, 73, 74, 75, 76, 77, 78, 79, 80, 81, 82, 83, 84, 85, 86, 87, 88, 89, 90, 91, 92, 93, 94, 95] (by decide +kernel) (by decide +kernel)
set_option maxRecDepth 20000 in
theorem gX10_readTerm_X10_wrong : GoodIn wsX10_readTerm (wsV RX10 217 RX10 yX10_wrong wsX10_wrong) := goodIn_app (goodIn_of _ (by decide +kernel)) ggX10_readTerm_X10_wrong
set_option maxRecDepth 20000 in
theorem ggX10_readTerm_X10_isSmall : GoodIn wsX10_readTerm wsX10_isSmall := goodIn_r _ [21] (by decide +kernel) (by decide +kernel)
set_option maxRecDepth 20000 in
theorem gX10_readTerm_X10_isSmall : GoodIn wsX10_readTerm (va_wsS RX10 205 yX10_isSmall wsX10_isSmall) := goodIn_app (goodIn_of _ (by decide +kernel)) ggX10_readTerm_X10_isSmall
set_option maxRecDepth 20000 in
theorem ggX10_readTerm_X10_here : GoodIn wsX10_readTerm wsX10_here := goodIn_r _ [18, 3, 4, 5, 47, 48, 49, 50, 51, 52, 53, 54, 55, 56, 57, 58, 59, 60, 61, 62, 63, 64, 65, 66, 67, 68, 69, 70, 71, 72, 73, 74, 75, 76, 77, 78, 79, 80, 81, 82, 83, 84, 85, 86, 87, 88, 89, 90, 91, 92, 93, 94, 95] (by decide +kernel) (by decide +kernel)
set_option maxRecDepth 20000 in
theorem gX10_readTerm_X10_here : GoodIn wsX10_readTerm (wsV RX10 202 RX10 yX10_here wsX10_here) := goodIn_app (goodIn_of _ (by decide +kernel)) ggX10_readTerm_X10_here
set_option maxRecDepth 20000 in
theorem ggX10_readTerm_X10_digits : GoodIn wsX10_readTerm wsX10_digits := goodIn_r _ [39, 3, 4, 5, 15, 16, 17, 13, 18, 40, 41, 42, 31, 32, 33, 34, 35, 43, 44, 45, 46, 47, 48, 49, 50, 51, 52, 53, 54, 55, 56, 57, 58, 59, 60, 61, 62, 63, 64, 65, 66, 67, 68, 69, 70, 71, 72, 73, 74, 75, 76, 77, 78, 79, 80, 81, 82, 83, 84, 85, 86, 87, 88, 89, 90, 91, 92, 93, 94, 95] (by decide +kernel) (by decide +kernel)
set_option maxRecDepth 20000 in
theorem gX10_readTerm_X10_digits : GoodIn wsX10_readTerm (wsV RX10 233 RX10 yX10_digits wsX10_digits) := goodIn_app (goodIn_of _ (by decide +kernel)) ggX10_readTerm_X10_digits
set_option maxRecDepth 20000 in
theorem ggX10_readTerm_X10_fine : GoodIn wsX10_readTerm wsX10_fine := goodIn_r _ [46, 35, 47, 48, 49, 50, 51, 52, 53, 54, 55, 56, 57, 58, 59, 60, 61, 62, 63, 64, 65, 66, 67, 68, 69, 70, 71, 72, 73, 74, 75, 76, 77, 78, 79, 80, 81, 82, 83, 84, 85, 86, 87, 88, 89, 90, 91, 92, 93, 94, 95] (by decide +kernel) (by decide +kernel)
set_option maxRecDepth 20000 in
theorem gX10_readTerm_X10_fine : GoodIn wsX10_readTerm (wsV RX10 220 RX10 yX10_fine wsX10_fine) := goodIn_app (goodIn_of _ (by decide +kernel)) ggX10_readTerm_X10_fine
theorem dX10_readTerm_0 : decode cX10_readTerm 0 = .ok (.bipush 12, 2) := by decide +kernel
theorem dX10_readTerm_2 : decode cX10_readTerm 2 = .ok (.aload_n 0, 1) := by decide +kernel
theorem dX10_readTerm_3 : decode cX10_readTerm 3 = .ok (.getfield 224, 3) := by decide +kernel
theorem dX10_readTerm_6 : decode cX10_readTerm 6 = .ok (.imul, 1) := by decide +kernel
theorem dX10_readTerm_7 : decode cX10_readTerm 7 = .ok (.aload_n 0, 1) := by decide +kernel
theorem dX10_readTerm_8 : decode cX10_readTerm 8 = .ok (.getfield 62, 3) := by decide +kernel
theorem dX10_readTerm_11 : decode cX10_readTerm 11 = .ok (.aload_n 0, 1) := by decide +kernel
theorem dX10_readTerm_12 : decode cX10_readTerm 12 = .ok (.getfield 224, 3) := by decide +kernel
theorem dX10_readTerm_15 : decode cX10_readTerm 15 = .ok (.iaload, 1) := by decide +kernel
theorem dX10_readTerm_16 : decode cX10_readTerm 16 = .ok (.iadd, 1) := by decide +kernel
theorem dX10_readTerm_17 : decode cX10_readTerm 17 = .ok (.istore_n 1, 1) := by decide +kernel
theorem dX10_readTerm_18 : decode cX10_readTerm 18 = .ok (.aload_n 0, 1) := by decide +kernel
theorem dX10_readTerm_19 : decode cX10_readTerm 19 = .ok (.invokevirtual 227, 3) := by decide +kernel
theorem dX10_readTerm_22 : decode cX10_readTerm 22 = .ok (.invokestatic 230, 3) := by decide +kernel
theorem dX10_readTerm_25 : decode cX10_readTerm 25 = .ok (.istore_n 2, 1) := by decide +kernel
theorem dX10_readTerm_26 : decode cX10_readTerm 26 = .ok (.iload_n 2, 1) := by decide +kernel
theorem dX10_readTerm_27 : decode cX10_readTerm 27 = .ok (.iconst (-1), 1) := by decide +kernel
theorem dX10_readTerm_28 : decode cX10_readTerm 28 = .ok (.if_icmp .ne 12, 3) := by decide +kernel
theorem dX10_readTerm_31 : decode cX10_readTerm 31 = .ok (.aload_n 0, 1) := by decide +kernel
theorem dX10_readTerm_32 : decode cX10_readTerm 32 = .ok (.aload_n 0, 1) := by decide +kernel
theorem dX10_readTerm_33 : decode cX10_readTerm 33 = .ok (.getfield 196, 3) := by decide +kernel
theorem dX10_readTerm_36 : decode cX10_readTerm 36 = .ok (.invokevirtual 217, 3) := by decide +kernel
theorem dX10_readTerm_39 : decode cX10_readTerm 39 = .ok (.return_, 1) := by decide +kernel
theorem dX10_readTerm_40 : decode cX10_readTerm 40 = .ok (.aload_n 0, 1) := by decide +kernel
theorem dX10_readTerm_41 : decode cX10_readTerm 41 = .ok (.getfield 196, 3) := by decide +kernel
theorem dX10_readTerm_44 : decode cX10_readTerm 44 = .ok (.aload_n 0, 1) := by decide +kernel
theorem dX10_readTerm_45 : decode cX10_readTerm 45 = .ok (.getfield 199, 3) := by decide +kernel
theorem dX10_readTerm_48 : decode cX10_readTerm 48 = .ok (.if_icmp .ge 31, 3) := by decide +kernel
theorem dX10_readTerm_51 : decode cX10_readTerm 51 = .ok (.aload_n 0, 1) := by decide +kernel
theorem dX10_readTerm_52 : decode cX10_readTerm 52 = .ok (.getfield 59, 3) := by decide +kernel
theorem dX10_readTerm_55 : decode cX10_readTerm 55 = .ok (.aload_n 0, 1) := by decide +kernel
theorem dX10_readTerm_56 : decode cX10_readTerm 56 = .ok (.getfield 196, 3) := by decide +kernel
theorem dX10_readTerm_59 : decode cX10_readTerm 59 = .ok (.iaload, 1) := by decide +kernel
theorem dX10_readTerm_60 : decode cX10_readTerm 60 = .ok (.invokestatic 205, 3) := by decide +kernel
theorem dX10_readTerm_63 : decode cX10_readTerm 63 = .ok (.ifCond .eq 16, 3) := by decide +kernel
theorem dX10_readTerm_66 : decode cX10_readTerm 66 = .ok (.aload_n 0, 1) := by decide +kernel
theorem dX10_readTerm_67 : decode cX10_readTerm 67 = .ok (.dup, 1) := by decide +kernel
theorem dX10_readTerm_68 : decode cX10_readTerm 68 = .ok (.getfield 196, 3) := by decide +kernel
theorem dX10_readTerm_71 : decode cX10_readTerm 71 = .ok (.iconst 1, 1) := by decide +kernel
theorem dX10_readTerm_72 : decode cX10_readTerm 72 = .ok (.iadd, 1) := by decide +kernel
theorem dX10_readTerm_73 : decode cX10_readTerm 73 = .ok (.putfield 196, 3) := by decide +kernel
theorem dX10_readTerm_76 : decode cX10_readTerm 76 = .ok (.goto (-36), 3) := by decide +kernel
theorem dX10_readTerm_79 : decode cX10_readTerm 79 = .ok (.aload_n 0, 1) := by decide +kernel
theorem dX10_readTerm_80 : decode cX10_readTerm 80 = .ok (.getfield 65, 3) := by decide +kernel
theorem dX10_readTerm_83 : decode cX10_readTerm 83 = .ok (.iload_n 1, 1) := by decide +kernel
theorem dX10_readTerm_84 : decode cX10_readTerm 84 = .ok (.iload_n 2, 1) := by decide +kernel
theorem dX10_readTerm_85 : decode cX10_readTerm 85 = .ok (.iastore, 1) := by decide +kernel
theorem dX10_readTerm_86 : decode cX10_readTerm 86 = .ok (.iload_n 2, 1) := by decide +kernel
theorem dX10_readTerm_87 : decode cX10_readTerm 87 = .ok (.iconst 5, 1) := by decide +kernel
theorem dX10_readTerm_88 : decode cX10_readTerm 88 = .ok (.if_icmp .lt 62, 3) := by decide +kernel
theorem dX10_readTerm_91 : decode cX10_readTerm 91 = .ok (.aload_n 0, 1) := by decide +kernel
theorem dX10_readTerm_92 : decode cX10_readTerm 92 = .ok (.invokevirtual 202, 3) := by decide +kernel
theorem dX10_readTerm_95 : decode cX10_readTerm 95 = .ok (.istore_n 3, 1) := by decide +kernel
theorem dX10_readTerm_96 : decode cX10_readTerm 96 = .ok (.iload_n 3, 1) := by decide +kernel
theorem dX10_readTerm_97 : decode cX10_readTerm 97 = .ok (.bipush 60, 2) := by decide +kernel
theorem dX10_readTerm_99 : decode cX10_readTerm 99 = .ok (.if_icmp .eq 24, 3) := by decide +kernel
theorem dX10_readTerm_102 : decode cX10_readTerm 102 = .ok (.iload_n 3, 1) := by decide +kernel
theorem dX10_readTerm_103 : decode cX10_readTerm 103 = .ok (.bipush 62, 2) := by decide +kernel
theorem dX10_readTerm_105 : decode cX10_readTerm 105 = .ok (.if_icmp .eq 18, 3) := by decide +kernel
theorem dX10_readTerm_108 : decode cX10_readTerm 108 = .ok (.iload_n 3, 1) := by decide +kernel
theorem dX10_readTerm_109 : decode cX10_readTerm 109 = .ok (.bipush 61, 2) := by decide +kernel
theorem dX10_readTerm_111 : decode cX10_readTerm 111 = .ok (.if_icmp .eq 12, 3) := by decide +kernel
theorem dX10_readTerm_114 : decode cX10_readTerm 114 = .ok (.aload_n 0, 1) := by decide +kernel
theorem dX10_readTerm_115 : decode cX10_readTerm 115 = .ok (.aload_n 0, 1) := by decide +kernel
theorem dX10_readTerm_116 : decode cX10_readTerm 116 = .ok (.getfield 196, 3) := by decide +kernel
theorem dX10_readTerm_119 : decode cX10_readTerm 119 = .ok (.invokevirtual 217, 3) := by decide +kernel
theorem dX10_readTerm_122 : decode cX10_readTerm 122 = .ok (.return_, 1) := by decide +kernel
theorem dX10_readTerm_123 : decode cX10_readTerm 123 = .ok (.aload_n 0, 1) := by decide +kernel
theorem dX10_readTerm_124 : decode cX10_readTerm 124 = .ok (.getfield 68, 3) := by decide +kernel
theorem dX10_readTerm_127 : decode cX10_readTerm 127 = .ok (.iload_n 1, 1) := by decide +kernel
theorem dX10_readTerm_128 : decode cX10_readTerm 128 = .ok (.iload_n 3, 1) := by decide +kernel
theorem dX10_readTerm_129 : decode cX10_readTerm 129 = .ok (.iastore, 1) := by decide +kernel
theorem dX10_readTerm_130 : decode cX10_readTerm 130 = .ok (.aload_n 0, 1) := by decide +kernel
theorem dX10_readTerm_131 : decode cX10_readTerm 131 = .ok (.dup, 1) := by decide +kernel
theorem dX10_readTerm_132 : decode cX10_readTerm 132 = .ok (.getfield 196, 3) := by decide +kernel
theorem dX10_readTerm_135 : decode cX10_readTerm 135 = .ok (.iconst 1, 1) := by decide +kernel
theorem dX10_readTerm_136 : decode cX10_readTerm 136 = .ok (.iadd, 1) := by decide +kernel
theorem dX10_readTerm_137 : decode cX10_readTerm 137 = .ok (.putfield 196, 3) := by decide +kernel
theorem dX10_readTerm_140 : decode cX10_readTerm 140 = .ok (.aload_n 0, 1) := by decide +kernel
theorem dX10_readTerm_141 : decode cX10_readTerm 141 = .ok (.getfield 71, 3) := by decide +kernel
theorem dX10_readTerm_144 : decode cX10_readTerm 144 = .ok (.iload_n 1, 1) := by decide +kernel
theorem dX10_readTerm_145 : decode cX10_readTerm 145 = .ok (.aload_n 0, 1) := by decide +kernel
theorem dX10_readTerm_146 : decode cX10_readTerm 146 = .ok (.invokevirtual 233, 3) := by decide +kernel
theorem dX10_readTerm_149 : decode cX10_readTerm 149 = .ok (.iastore, 1) := by decide +kernel
theorem dX10_readTerm_150 : decode cX10_readTerm 150 = .ok (.aload_n 0, 1) := by decide +kernel
theorem dX10_readTerm_151 : decode cX10_readTerm 151 = .ok (.invokevirtual 220, 3) := by decide +kernel
theorem dX10_readTerm_154 : decode cX10_readTerm 154 = .ok (.ifCond .eq 10, 3) := by decide +kernel
theorem dX10_readTerm_157 : decode cX10_readTerm 157 = .ok (.aload_n 0, 1) := by decide +kernel
theorem dX10_readTerm_158 : decode cX10_readTerm 158 = .ok (.invokevirtual 202, 3) := by decide +kernel
theorem dX10_readTerm_161 : decode cX10_readTerm 161 = .ok (.goto 4, 3) := by decide +kernel
theorem dX10_readTerm_164 : decode cX10_readTerm 164 = .ok (.iconst 0, 1) := by decide +kernel
theorem dX10_readTerm_165 : decode cX10_readTerm 165 = .ok (.istore_n 3, 1) := by decide +kernel
theorem dX10_readTerm_166 : decode cX10_readTerm 166 = .ok (.aload_n 0, 1) := by decide +kernel
theorem dX10_readTerm_167 : decode cX10_readTerm 167 = .ok (.invokevirtual 220, 3) := by decide +kernel
theorem dX10_readTerm_170 : decode cX10_readTerm 170 = .ok (.ifCond .eq 23, 3) := by decide +kernel
theorem dX10_readTerm_173 : decode cX10_readTerm 173 = .ok (.iload_n 3, 1) := by decide +kernel
theorem dX10_readTerm_174 : decode cX10_readTerm 174 = .ok (.bipush 43, 2) := by decide +kernel
theorem dX10_readTerm_176 : decode cX10_readTerm 176 = .ok (.if_icmp .eq 17, 3) := by decide +kernel
theorem dX10_readTerm_179 : decode cX10_readTerm 179 = .ok (.iload_n 3, 1) := by decide +kernel
theorem dX10_readTerm_180 : decode cX10_readTerm 180 = .ok (.bipush 45, 2) := by decide +kernel
theorem dX10_readTerm_182 : decode cX10_readTerm 182 = .ok (.if_icmp .eq 11, 3) := by decide +kernel
theorem dX10_readTerm_185 : decode cX10_readTerm 185 = .ok (.aload_n 0, 1) := by decide +kernel
theorem dX10_readTerm_186 : decode cX10_readTerm 186 = .ok (.aload_n 0, 1) := by decide +kernel
theorem dX10_readTerm_187 : decode cX10_readTerm 187 = .ok (.getfield 196, 3) := by decide +kernel
theorem dX10_readTerm_190 : decode cX10_readTerm 190 = .ok (.invokevirtual 217, 3) := by decide +kernel
theorem dX10_readTerm_193 : decode cX10_readTerm 193 = .ok (.aload_n 0, 1) := by decide +kernel
theorem dX10_readTerm_194 : decode cX10_readTerm 194 = .ok (.dup, 1) := by decide +kernel
theorem dX10_readTerm_195 : decode cX10_readTerm 195 = .ok (.getfield 196, 3) := by decide +kernel
theorem dX10_readTerm_198 : decode cX10_readTerm 198 = .ok (.iconst 1, 1) := by decide +kernel
theorem dX10_readTerm_199 : decode cX10_readTerm 199 = .ok (.iadd, 1) := by decide +kernel
theorem dX10_readTerm_200 : decode cX10_readTerm 200 = .ok (.putfield 196, 3) := by decide +kernel
theorem dX10_readTerm_203 : decode cX10_readTerm 203 = .ok (.aload_n 0, 1) := by decide +kernel
theorem dX10_readTerm_204 : decode cX10_readTerm 204 = .ok (.invokevirtual 220, 3) := by decide +kernel
theorem dX10_readTerm_207 : decode cX10_readTerm 207 = .ok (.ifCond .eq 10, 3) := by decide +kernel
theorem dX10_readTerm_210 : decode cX10_readTerm 210 = .ok (.aload_n 0, 1) := by decide +kernel
theorem dX10_readTerm_211 : decode cX10_readTerm 211 = .ok (.invokevirtual 233, 3) := by decide +kernel
theorem dX10_readTerm_214 : decode cX10_readTerm 214 = .ok (.goto 4, 3) := by decide +kernel
theorem dX10_readTerm_217 : decode cX10_readTerm 217 = .ok (.iconst 0, 1) := by decide +kernel
theorem dX10_readTerm_218 : decode cX10_readTerm 218 = .ok (.istore 4, 2) := by decide +kernel
theorem dX10_readTerm_220 : decode cX10_readTerm 220 = .ok (.aload_n 0, 1) := by decide +kernel
theorem dX10_readTerm_221 : decode cX10_readTerm 221 = .ok (.getfield 74, 3) := by decide +kernel
theorem dX10_readTerm_224 : decode cX10_readTerm 224 = .ok (.iload_n 1, 1) := by decide +kernel
theorem dX10_readTerm_225 : decode cX10_readTerm 225 = .ok (.iload_n 3, 1) := by decide +kernel
theorem dX10_readTerm_226 : decode cX10_readTerm 226 = .ok (.bipush 45, 2) := by decide +kernel
theorem dX10_readTerm_228 : decode cX10_readTerm 228 = .ok (.if_icmp .ne 9, 3) := by decide +kernel
theorem dX10_readTerm_231 : decode cX10_readTerm 231 = .ok (.iload 4, 2) := by decide +kernel
theorem dX10_readTerm_233 : decode cX10_readTerm 233 = .ok (.ineg, 1) := by decide +kernel
theorem dX10_readTerm_234 : decode cX10_readTerm 234 = .ok (.goto 5, 3) := by decide +kernel
theorem dX10_readTerm_237 : decode cX10_readTerm 237 = .ok (.iload 4, 2) := by decide +kernel
theorem dX10_readTerm_239 : decode cX10_readTerm 239 = .ok (.iastore, 1) := by decide +kernel
theorem dX10_readTerm_240 : decode cX10_readTerm 240 = .ok (.aload_n 0, 1) := by decide +kernel
theorem dX10_readTerm_241 : decode cX10_readTerm 241 = .ok (.getfield 62, 3) := by decide +kernel
theorem dX10_readTerm_244 : decode cX10_readTerm 244 = .ok (.aload_n 0, 1) := by decide +kernel
theorem dX10_readTerm_245 : decode cX10_readTerm 245 = .ok (.getfield 224, 3) := by decide +kernel
theorem dX10_readTerm_248 : decode cX10_readTerm 248 = .ok (.dup2, 1) := by decide +kernel
theorem dX10_readTerm_249 : decode cX10_readTerm 249 = .ok (.iaload, 1) := by decide +kernel
theorem dX10_readTerm_250 : decode cX10_readTerm 250 = .ok (.iconst 1, 1) := by decide +kernel
theorem dX10_readTerm_251 : decode cX10_readTerm 251 = .ok (.iadd, 1) := by decide +kernel
theorem dX10_readTerm_252 : decode cX10_readTerm 252 = .ok (.iastore, 1) := by decide +kernel
theorem dX10_readTerm_253 : decode cX10_readTerm 253 = .ok (.return_, 1) := by decide +kernel
set_option maxRecDepth 20000 in
theorem ggX10_dish_X10_may : GoodIn wsX10_dish wsX10_may := goodIn_r _ [12, 1, 57, 58, 59, 60, 61, 62, 63, 64, 65, 66, 67, 68, 69, 70, 71, 72, 73, 74, 75, 76, 77, 78, 79, 80, 81, 82, 83, 84, 85, 86, 87, 88, 89, 90, 91, 92, 93, 94, 95, 96, 97, 98, 99, 100, 101, 102, 103, 104, 105] (by decide +kernel) (by decide +kernel)
set_option maxRecDepth 20000 in
theorem gX10_dish_X10_may : GoodIn wsX10_dish (wsV RX10 112 RX10 yX10_may wsX10_may) := goodIn_app (goodIn_of _ (by decide +kernel)) ggX10_dish_X10_may
set_option maxRecDepth 20000 in
theorem ggX10_dish_X10_readTerm : GoodIn wsX10_dish wsX10_readTerm := goodIn_r _ [16, 3, 7, 5, 4, 17, 18, 19, 20, 21, 22, 23, 24, 11, 25, 26, 27, 28, 29, 30, 31, 32, 33, 34, 35, 36, 37, 38, 39, 40, 41, 42, 43, 44, 45, 6, 46, 47, 48, 49, 50, 51, 52, 53, 54, 55, 56, 57, 58, 59, 60, 61, 62, 63, 64, 65, 66, 67, 68, 69, 70, 71, 72, 73, 74, 75, 76, 77, 78, 79, 80, 81, 82, 83, 84, 85, 86, 87, 88, 89, 90, 91, 92, 93, 94, 95, 96, 97, 98, 99, 100, 101, 102, 103, 104, 105] (by decide +kernel) (by decide +kernel)
set_option maxRecDepth 20000 in
theorem gX10_dish_X10_readTerm : GoodIn wsX10_dish (wsV RX10 236 RX10 yX10_readTerm wsX10_readTerm) := goodIn_app (goodIn_of _ (by decide +kernel)) ggX10_dish_X10_readTerm
set_option maxRecDepth 20000 in
theorem ggX10_dish_X10_fine : GoodIn wsX10_dish wsX10_fine := goodIn_r _ [56, 6, 57, 58, 59, 60, 61, 62, 63, 64, 65, 66, 67, 68, 69, 70, 71, 72, 73, 74, 75, 76, 77, 78, 79, 80, 81, 82, 83, 84, 85, 86, 87, 88, 89, 90, 91, 92, 93, 94, 95, 96, 97, 98, 99, 100, 101, 102, 103, 104, 105] (by decide +kernel) (by decide +kernel)
set_option maxRecDepth 20000 in
theorem gX10_dish_X10_fine : GoodIn wsX10_dish (wsV RX10 220 RX10 yX10_fine wsX10_fine) := goodIn_app (goodIn_of _ (by decide +kernel)) ggX10_dish_X10_fine
set_option maxRecDepth 20000 in
theorem ggX10_dish_X10_here : GoodIn wsX10_dish wsX10_here := goodIn_r _ [29, 5, 4, 17, 57, 58, 59, 60, 61, 62, 63, 64, 65, 66, 67, 68, 69, 70, 71, 72, 73, 74, 75, 76, 77, 78, 79, 80, 81, 82, 83, 84, 85, 86, 87, 88, 89, 90, 91, 92, 93, 94, 95, 96, 97, 98, 99, 100, 101, 102, 103, 104, 105] (by decide +kernel) (by decide +kernel)
set_option maxRecDepth 20000 in
theorem gX10_dish_X10_here : GoodIn wsX10_dish (wsV RX10 202 RX10 yX10_here wsX10_here) := goodIn_app (goodIn_of _ (by decide +kernel)) ggX10_dish_X10_here
set_option maxRecDepth 20000 in
theorem ggX10_dish_X10_wrong : GoodIn wsX10_dish wsX10_wrong := goodIn_r _ [45, 6, 57, 58, 59, 60, 61, 62, 63, 64, 65, 66, 67, 68, 69, 70, 71, 72, 73, 74, 75, 76, 77, 78, 79, 80, 81, 82, 83, 84, 85, 86, 87, 88, 89, 90, 91, 92, 93, 94, 95, 96, 97, 98, 99, 100, 101, 102, 103, 104, 105] (by decide +kernel) (by decide +kernel)
set_option maxRecDepth 20000 in
theorem gX10_dish_X10_wrong : GoodIn wsX10_dish (wsV RX10 217 RX10 yX10_wrong wsX10_wrong) := goodIn_app (goodIn_of _ (by decide +kernel)) ggX10_dish_X10_wrong
theorem dX10_dish_0 : decode cX10_dish 0 = .ok (.aload_n 0, 1) := by decide +kernel
theorem dX10_dish_1 : decode cX10_dish 1 = .ok (.iconst 0, 1) := by decide +kernel
theorem dX10_dish_2 : decode cX10_dish 2 = .ok (.putfield 1, 3) := by decide +kernel
theorem dX10_dish_5 : decode cX10_dish 5 = .ok (.aload_n 0, 1) := by decide +kernel
theorem dX10_dish_6 : decode cX10_dish 6 = .ok (.iload_n 1, 1) := by decide +kernel
theorem dX10_dish_7 : decode cX10_dish 7 = .ok (.ifCond .lt 15, 3) := by decide +kernel
theorem dX10_dish_10 : decode cX10_dish 10 = .ok (.iload_n 1, 1) := by decide +kernel
theorem dX10_dish_11 : decode cX10_dish 11 = .ok (.aload_n 0, 1) := by decide +kernel
theorem dX10_dish_12 : decode cX10_dish 12 = .ok (.getfield 190, 3) := by decide +kernel
theorem dX10_dish_15 : decode cX10_dish 15 = .ok (.if_icmp .gt 7, 3) := by decide +kernel
theorem dX10_dish_18 : decode cX10_dish 18 = .ok (.iconst 1, 1) := by decide +kernel
theorem dX10_dish_19 : decode cX10_dish 19 = .ok (.goto 4, 3) := by decide +kernel
theorem dX10_dish_22 : decode cX10_dish 22 = .ok (.iconst 0, 1) := by decide +kernel
theorem dX10_dish_23 : decode cX10_dish 23 = .ok (.iconst 1, 1) := by decide +kernel
theorem dX10_dish_24 : decode cX10_dish 24 = .ok (.invokevirtual 112, 3) := by decide +kernel
theorem dX10_dish_27 : decode cX10_dish 27 = .ok (.ifCond .eq 25, 3) := by decide +kernel
theorem dX10_dish_30 : decode cX10_dish 30 = .ok (.aload_n 0, 1) := by decide +kernel
theorem dX10_dish_31 : decode cX10_dish 31 = .ok (.aload_n 0, 1) := by decide +kernel
theorem dX10_dish_32 : decode cX10_dish 32 = .ok (.getfield 224, 3) := by decide +kernel
theorem dX10_dish_35 : decode cX10_dish 35 = .ok (.bipush 20, 2) := by decide +kernel
theorem dX10_dish_37 : decode cX10_dish 37 = .ok (.if_icmp .ge 7, 3) := by decide +kernel
theorem dX10_dish_40 : decode cX10_dish 40 = .ok (.iconst 1, 1) := by decide +kernel
theorem dX10_dish_41 : decode cX10_dish 41 = .ok (.goto 4, 3) := by decide +kernel
theorem dX10_dish_44 : decode cX10_dish 44 = .ok (.iconst 0, 1) := by decide +kernel
theorem dX10_dish_45 : decode cX10_dish 45 = .ok (.iconst 2, 1) := by decide +kernel
theorem dX10_dish_46 : decode cX10_dish 46 = .ok (.invokevirtual 112, 3) := by decide +kernel
theorem dX10_dish_49 : decode cX10_dish 49 = .ok (.ifCond .ne 5, 3) := by decide +kernel
theorem dX10_dish_52 : decode cX10_dish 52 = .ok (.iconst 0, 1) := by decide +kernel
theorem dX10_dish_53 : decode cX10_dish 53 = .ok (.ireturn, 1) := by decide +kernel
theorem dX10_dish_54 : decode cX10_dish 54 = .ok (.aload_n 0, 1) := by decide +kernel
theorem dX10_dish_55 : decode cX10_dish 55 = .ok (.iconst 0, 1) := by decide +kernel
theorem dX10_dish_56 : decode cX10_dish 56 = .ok (.putfield 190, 3) := by decide +kernel
theorem dX10_dish_59 : decode cX10_dish 59 = .ok (.aload_n 0, 1) := by decide +kernel
theorem dX10_dish_60 : decode cX10_dish 60 = .ok (.iload_n 1, 1) := by decide +kernel
theorem dX10_dish_61 : decode cX10_dish 61 = .ok (.putfield 199, 3) := by decide +kernel
theorem dX10_dish_64 : decode cX10_dish 64 = .ok (.aload_n 0, 1) := by decide +kernel
theorem dX10_dish_65 : decode cX10_dish 65 = .ok (.iconst 0, 1) := by decide +kernel
theorem dX10_dish_66 : decode cX10_dish 66 = .ok (.putfield 196, 3) := by decide +kernel
theorem dX10_dish_69 : decode cX10_dish 69 = .ok (.aload_n 0, 1) := by decide +kernel
theorem dX10_dish_70 : decode cX10_dish 70 = .ok (.iconst (-1), 1) := by decide +kernel
theorem dX10_dish_71 : decode cX10_dish 71 = .ok (.putfield 193, 3) := by decide +kernel
theorem dX10_dish_74 : decode cX10_dish 74 = .ok (.aload_n 0, 1) := by decide +kernel
theorem dX10_dish_75 : decode cX10_dish 75 = .ok (.getfield 62, 3) := by decide +kernel
theorem dX10_dish_78 : decode cX10_dish 78 = .ok (.aload_n 0, 1) := by decide +kernel
theorem dX10_dish_79 : decode cX10_dish 79 = .ok (.getfield 224, 3) := by decide +kernel
theorem dX10_dish_82 : decode cX10_dish 82 = .ok (.iconst 0, 1) := by decide +kernel
theorem dX10_dish_83 : decode cX10_dish 83 = .ok (.iastore, 1) := by decide +kernel
theorem dX10_dish_84 : decode cX10_dish 84 = .ok (.aload_n 0, 1) := by decide +kernel
theorem dX10_dish_85 : decode cX10_dish 85 = .ok (.invokevirtual 236, 3) := by decide +kernel
theorem dX10_dish_88 : decode cX10_dish 88 = .ok (.aload_n 0, 1) := by decide +kernel
theorem dX10_dish_89 : decode cX10_dish 89 = .ok (.invokevirtual 220, 3) := by decide +kernel
theorem dX10_dish_92 : decode cX10_dish 92 = .ok (.ifCond .eq 54, 3) := by decide +kernel
theorem dX10_dish_95 : decode cX10_dish 95 = .ok (.aload_n 0, 1) := by decide +kernel
theorem dX10_dish_96 : decode cX10_dish 96 = .ok (.invokevirtual 202, 3) := by decide +kernel
theorem dX10_dish_99 : decode cX10_dish 99 = .ok (.bipush 44, 2) := by decide +kernel
theorem dX10_dish_101 : decode cX10_dish 101 = .ok (.if_icmp .ne 45, 3) := by decide +kernel
theorem dX10_dish_104 : decode cX10_dish 104 = .ok (.aload_n 0, 1) := by decide +kernel
theorem dX10_dish_105 : decode cX10_dish 105 = .ok (.getfield 62, 3) := by decide +kernel
theorem dX10_dish_108 : decode cX10_dish 108 = .ok (.aload_n 0, 1) := by decide +kernel
theorem dX10_dish_109 : decode cX10_dish 109 = .ok (.getfield 224, 3) := by decide +kernel
theorem dX10_dish_112 : decode cX10_dish 112 = .ok (.iaload, 1) := by decide +kernel
theorem dX10_dish_113 : decode cX10_dish 113 = .ok (.bipush 12, 2) := by decide +kernel
theorem dX10_dish_115 : decode cX10_dish 115 = .ok (.if_icmp .ne 14, 3) := by decide +kernel
theorem dX10_dish_118 : decode cX10_dish 118 = .ok (.aload_n 0, 1) := by decide +kernel
theorem dX10_dish_119 : decode cX10_dish 119 = .ok (.aload_n 0, 1) := by decide +kernel
theorem dX10_dish_120 : decode cX10_dish 120 = .ok (.getfield 196, 3) := by decide +kernel
theorem dX10_dish_123 : decode cX10_dish 123 = .ok (.invokevirtual 217, 3) := by decide +kernel
theorem dX10_dish_126 : decode cX10_dish 126 = .ok (.goto (-38), 3) := by decide +kernel
theorem dX10_dish_129 : decode cX10_dish 129 = .ok (.aload_n 0, 1) := by decide +kernel
theorem dX10_dish_130 : decode cX10_dish 130 = .ok (.dup, 1) := by decide +kernel
theorem dX10_dish_131 : decode cX10_dish 131 = .ok (.getfield 196, 3) := by decide +kernel
theorem dX10_dish_134 : decode cX10_dish 134 = .ok (.iconst 1, 1) := by decide +kernel
theorem dX10_dish_135 : decode cX10_dish 135 = .ok (.iadd, 1) := by decide +kernel
theorem dX10_dish_136 : decode cX10_dish 136 = .ok (.putfield 196, 3) := by decide +kernel
theorem dX10_dish_139 : decode cX10_dish 139 = .ok (.aload_n 0, 1) := by decide +kernel
theorem dX10_dish_140 : decode cX10_dish 140 = .ok (.invokevirtual 236, 3) := by decide +kernel
theorem dX10_dish_143 : decode cX10_dish 143 = .ok (.goto (-55), 3) := by decide +kernel
theorem dX10_dish_146 : decode cX10_dish 146 = .ok (.aload_n 0, 1) := by decide +kernel
theorem dX10_dish_147 : decode cX10_dish 147 = .ok (.invokevirtual 220, 3) := by decide +kernel
theorem dX10_dish_150 : decode cX10_dish 150 = .ok (.ifCond .eq 22, 3) := by decide +kernel
theorem dX10_dish_153 : decode cX10_dish 153 = .ok (.aload_n 0, 1) := by decide +kernel
theorem dX10_dish_154 : decode cX10_dish 154 = .ok (.getfield 196, 3) := by decide +kernel
theorem dX10_dish_157 : decode cX10_dish 157 = .ok (.aload_n 0, 1) := by decide +kernel
theorem dX10_dish_158 : decode cX10_dish 158 = .ok (.getfield 199, 3) := by decide +kernel
theorem dX10_dish_161 : decode cX10_dish 161 = .ok (.if_icmp .ge 11, 3) := by decide +kernel
theorem dX10_dish_164 : decode cX10_dish 164 = .ok (.aload_n 0, 1) := by decide +kernel
theorem dX10_dish_165 : decode cX10_dish 165 = .ok (.aload_n 0, 1) := by decide +kernel
theorem dX10_dish_166 : decode cX10_dish 166 = .ok (.getfield 196, 3) := by decide +kernel
theorem dX10_dish_169 : decode cX10_dish 169 = .ok (.invokevirtual 217, 3) := by decide +kernel
theorem dX10_dish_172 : decode cX10_dish 172 = .ok (.aload_n 0, 1) := by decide +kernel
theorem dX10_dish_173 : decode cX10_dish 173 = .ok (.invokevirtual 220, 3) := by decide +kernel
theorem dX10_dish_176 : decode cX10_dish 176 = .ok (.ifCond .ne 11, 3) := by decide +kernel
theorem dX10_dish_179 : decode cX10_dish 179 = .ok (.bipush (-2), 2) := by decide +kernel
theorem dX10_dish_181 : decode cX10_dish 181 = .ok (.aload_n 0, 1) := by decide +kernel
theorem dX10_dish_182 : decode cX10_dish 182 = .ok (.getfield 193, 3) := by decide +kernel
theorem dX10_dish_185 : decode cX10_dish 185 = .ok (.isub, 1) := by decide +kernel
theorem dX10_dish_186 : decode cX10_dish 186 = .ok (.ireturn, 1) := by decide +kernel
theorem dX10_dish_187 : decode cX10_dish 187 = .ok (.aload_n 0, 1) := by decide +kernel
theorem dX10_dish_188 : decode cX10_dish 188 = .ok (.dup, 1) := by decide +kernel
theorem dX10_dish_189 : decode cX10_dish 189 = .ok (.getfield 224, 3) := by decide +kernel
theorem dX10_dish_192 : decode cX10_dish 192 = .ok (.iconst 1, 1) := by decide +kernel
theorem dX10_dish_193 : decode cX10_dish 193 = .ok (.iadd, 1) := by decide +kernel
theorem dX10_dish_194 : decode cX10_dish 194 = .ok (.putfield 224, 3) := by decide +kernel
theorem dX10_dish_197 : decode cX10_dish 197 = .ok (.aload_n 0, 1) := by decide +kernel
theorem dX10_dish_198 : decode cX10_dish 198 = .ok (.getfield 224, 3) := by decide +kernel
theorem dX10_dish_201 : decode cX10_dish 201 = .ok (.iconst 1, 1) := by decide +kernel
theorem dX10_dish_202 : decode cX10_dish 202 = .ok (.isub, 1) := by decide +kernel
theorem dX10_dish_203 : decode cX10_dish 203 = .ok (.ireturn, 1) := by decide +kernel
set_option maxRecDepth 20000 in
theorem ggX10_holds_X10_year : GoodIn wsX10_holds wsX10_year := goodIn_r _ [13, 14, 22, 23, 24, 25, 26, 27, 28, 29, 30, 31, 32, 33, 34, 35, 36, 37, 38, 39, 40, 41, 42, 43, 44, 45, 46, 47, 48, 49, 50, 51, 52, 53, 54, 55, 56, 57, 58, 59, 60, 61, 62, 63, 64, 65, 66, 67, 68, 69, 70] (by decide +kernel) (by decide +kernel)
set_option maxRecDepth 20000 in
theorem gX10_holds_X10_year : GoodIn wsX10_holds (wsV RX10 134 RX10 yX10_year wsX10_year) := goodIn_app (goodIn_of _ (by decide +kernel)) ggX10_holds_X10_year
set_option maxRecDepth 20000 in
theorem ggX10_holds_X10_worthOf : GoodIn wsX10_holds wsX10_worthOf := goodIn_r _ [18, 19, 20, 21, 4, 1, 22, 23, 24, 25, 26, 27, 28, 29, 30, 31, 32, 33, 34, 35, 36, 37, 38, 39, 40, 41, 42, 43, 44, 45, 46, 47, 48, 49, 50, 51, 52, 53, 54, 55, 56, 57, 58, 59, 60, 61, 62, 63, 64, 65, 66, 67, 68, 69, 70] (by decide +kernel) (by decide +kernel)
set_option maxRecDepth 20000 in
theorem gX10_holds_X10_worthOf : GoodIn wsX10_holds (wsV RX10 130 RX10 yX10_worthOf wsX10_worthOf) := goodIn_app (goodIn_of _ (by decide +kernel)) ggX10_holds_X10_worthOf
theorem dX10_holds_0 : decode cX10_holds 0 = .ok (.aload_n 0, 1) := by decide +kernel
theorem dX10_holds_1 : decode cX10_holds 1 = .ok (.getfield 29, 3) := by decide +kernel
theorem dX10_holds_4 : decode cX10_holds 4 = .ok (.iload_n 2, 1) := by decide +kernel
theorem dX10_holds_5 : decode cX10_holds 5 = .ok (.iaload, 1) := by decide +kernel
theorem dX10_holds_6 : decode cX10_holds 6 = .ok (.istore_n 3, 1) := by decide +kernel
theorem dX10_holds_7 : decode cX10_holds 7 = .ok (.aload_n 0, 1) := by decide +kernel
theorem dX10_holds_8 : decode cX10_holds 8 = .ok (.getfield 65, 3) := by decide +kernel
theorem dX10_holds_11 : decode cX10_holds 11 = .ok (.iload_n 1, 1) := by decide +kernel
theorem dX10_holds_12 : decode cX10_holds 12 = .ok (.iaload, 1) := by decide +kernel
theorem dX10_holds_13 : decode cX10_holds 13 = .ok (.ifCond .ne 19, 3) := by decide +kernel
theorem dX10_holds_16 : decode cX10_holds 16 = .ok (.aload_n 0, 1) := by decide +kernel
theorem dX10_holds_17 : decode cX10_holds 17 = .ok (.getfield 20, 3) := by decide +kernel
theorem dX10_holds_20 : decode cX10_holds 20 = .ok (.iload_n 3, 1) := by decide +kernel
theorem dX10_holds_21 : decode cX10_holds 21 = .ok (.iaload, 1) := by decide +kernel
theorem dX10_holds_22 : decode cX10_holds 22 = .ok (.iconst 1, 1) := by decide +kernel
theorem dX10_holds_23 : decode cX10_holds 23 = .ok (.if_icmp .ne 7, 3) := by decide +kernel
theorem dX10_holds_26 : decode cX10_holds 26 = .ok (.iconst 1, 1) := by decide +kernel
theorem dX10_holds_27 : decode cX10_holds 27 = .ok (.goto 4, 3) := by decide +kernel
theorem dX10_holds_30 : decode cX10_holds 30 = .ok (.iconst 0, 1) := by decide +kernel
theorem dX10_holds_31 : decode cX10_holds 31 = .ok (.ireturn, 1) := by decide +kernel
theorem dX10_holds_32 : decode cX10_holds 32 = .ok (.aload_n 0, 1) := by decide +kernel
theorem dX10_holds_33 : decode cX10_holds 33 = .ok (.getfield 65, 3) := by decide +kernel
theorem dX10_holds_36 : decode cX10_holds 36 = .ok (.iload_n 1, 1) := by decide +kernel
theorem dX10_holds_37 : decode cX10_holds 37 = .ok (.iaload, 1) := by decide +kernel
theorem dX10_holds_38 : decode cX10_holds 38 = .ok (.iconst 1, 1) := by decide +kernel
theorem dX10_holds_39 : decode cX10_holds 39 = .ok (.if_icmp .ne 18, 3) := by decide +kernel
theorem dX10_holds_42 : decode cX10_holds 42 = .ok (.aload_n 0, 1) := by decide +kernel
theorem dX10_holds_43 : decode cX10_holds 43 = .ok (.getfield 20, 3) := by decide +kernel
theorem dX10_holds_46 : decode cX10_holds 46 = .ok (.iload_n 3, 1) := by decide +kernel
theorem dX10_holds_47 : decode cX10_holds 47 = .ok (.iaload, 1) := by decide +kernel
theorem dX10_holds_48 : decode cX10_holds 48 = .ok (.ifCond .ne 7, 3) := by decide +kernel
theorem dX10_holds_51 : decode cX10_holds 51 = .ok (.iconst 1, 1) := by decide +kernel
theorem dX10_holds_52 : decode cX10_holds 52 = .ok (.goto 4, 3) := by decide +kernel
theorem dX10_holds_55 : decode cX10_holds 55 = .ok (.iconst 0, 1) := by decide +kernel
theorem dX10_holds_56 : decode cX10_holds 56 = .ok (.ireturn, 1) := by decide +kernel
theorem dX10_holds_57 : decode cX10_holds 57 = .ok (.aload_n 0, 1) := by decide +kernel
theorem dX10_holds_58 : decode cX10_holds 58 = .ok (.getfield 65, 3) := by decide +kernel
theorem dX10_holds_61 : decode cX10_holds 61 = .ok (.iload_n 1, 1) := by decide +kernel
theorem dX10_holds_62 : decode cX10_holds 62 = .ok (.iaload, 1) := by decide +kernel
theorem dX10_holds_63 : decode cX10_holds 63 = .ok (.iconst 5, 1) := by decide +kernel
theorem dX10_holds_64 : decode cX10_holds 64 = .ok (.if_icmp .ge 26, 3) := by decide +kernel
theorem dX10_holds_67 : decode cX10_holds 67 = .ok (.aload_n 0, 1) := by decide +kernel
theorem dX10_holds_68 : decode cX10_holds 68 = .ok (.getfield 13, 3) := by decide +kernel
theorem dX10_holds_71 : decode cX10_holds 71 = .ok (.iload_n 3, 1) := by decide +kernel
theorem dX10_holds_72 : decode cX10_holds 72 = .ok (.iaload, 1) := by decide +kernel
theorem dX10_holds_73 : decode cX10_holds 73 = .ok (.aload_n 0, 1) := by decide +kernel
theorem dX10_holds_74 : decode cX10_holds 74 = .ok (.getfield 65, 3) := by decide +kernel
theorem dX10_holds_77 : decode cX10_holds 77 = .ok (.iload_n 1, 1) := by decide +kernel
theorem dX10_holds_78 : decode cX10_holds 78 = .ok (.iaload, 1) := by decide +kernel
theorem dX10_holds_79 : decode cX10_holds 79 = .ok (.iconst 2, 1) := by decide +kernel
theorem dX10_holds_80 : decode cX10_holds 80 = .ok (.isub, 1) := by decide +kernel
theorem dX10_holds_81 : decode cX10_holds 81 = .ok (.if_icmp .ne 7, 3) := by decide +kernel
theorem dX10_holds_84 : decode cX10_holds 84 = .ok (.iconst 1, 1) := by decide +kernel
theorem dX10_holds_85 : decode cX10_holds 85 = .ok (.goto 4, 3) := by decide +kernel
theorem dX10_holds_88 : decode cX10_holds 88 = .ok (.iconst 0, 1) := by decide +kernel
theorem dX10_holds_89 : decode cX10_holds 89 = .ok (.ireturn, 1) := by decide +kernel
theorem dX10_holds_90 : decode cX10_holds 90 = .ok (.aload_n 0, 1) := by decide +kernel
theorem dX10_holds_91 : decode cX10_holds 91 = .ok (.getfield 65, 3) := by decide +kernel
theorem dX10_holds_94 : decode cX10_holds 94 = .ok (.iload_n 1, 1) := by decide +kernel
theorem dX10_holds_95 : decode cX10_holds 95 = .ok (.iaload, 1) := by decide +kernel
theorem dX10_holds_96 : decode cX10_holds 96 = .ok (.iconst 5, 1) := by decide +kernel
theorem dX10_holds_97 : decode cX10_holds 97 = .ok (.if_icmp .ne 12, 3) := by decide +kernel
theorem dX10_holds_100 : decode cX10_holds 100 = .ok (.aload_n 0, 1) := by decide +kernel
theorem dX10_holds_101 : decode cX10_holds 101 = .ok (.getfield 17, 3) := by decide +kernel
theorem dX10_holds_104 : decode cX10_holds 104 = .ok (.iload_n 3, 1) := by decide +kernel
theorem dX10_holds_105 : decode cX10_holds 105 = .ok (.iaload, 1) := by decide +kernel
theorem dX10_holds_106 : decode cX10_holds 106 = .ok (.goto 37, 3) := by decide +kernel
theorem dX10_holds_109 : decode cX10_holds 109 = .ok (.aload_n 0, 1) := by decide +kernel
theorem dX10_holds_110 : decode cX10_holds 110 = .ok (.getfield 65, 3) := by decide +kernel
theorem dX10_holds_113 : decode cX10_holds 113 = .ok (.iload_n 1, 1) := by decide +kernel
theorem dX10_holds_114 : decode cX10_holds 114 = .ok (.iaload, 1) := by decide +kernel
theorem dX10_holds_115 : decode cX10_holds 115 = .ok (.bipush 6, 2) := by decide +kernel
theorem dX10_holds_117 : decode cX10_holds 117 = .ok (.if_icmp .ne 17, 3) := by decide +kernel
theorem dX10_holds_120 : decode cX10_holds 120 = .ok (.aload_n 0, 1) := by decide +kernel
theorem dX10_holds_121 : decode cX10_holds 121 = .ok (.invokevirtual 134, 3) := by decide +kernel
theorem dX10_holds_124 : decode cX10_holds 124 = .ok (.aload_n 0, 1) := by decide +kernel
theorem dX10_holds_125 : decode cX10_holds 125 = .ok (.getfield 32, 3) := by decide +kernel
theorem dX10_holds_128 : decode cX10_holds 128 = .ok (.iload_n 2, 1) := by decide +kernel
theorem dX10_holds_129 : decode cX10_holds 129 = .ok (.iaload, 1) := by decide +kernel
theorem dX10_holds_130 : decode cX10_holds 130 = .ok (.isub, 1) := by decide +kernel
theorem dX10_holds_131 : decode cX10_holds 131 = .ok (.goto 12, 3) := by decide +kernel
theorem dX10_holds_134 : decode cX10_holds 134 = .ok (.aload_n 0, 1) := by decide +kernel
theorem dX10_holds_135 : decode cX10_holds 135 = .ok (.iload_n 2, 1) := by decide +kernel
theorem dX10_holds_136 : decode cX10_holds 136 = .ok (.aload_n 0, 1) := by decide +kernel
theorem dX10_holds_137 : decode cX10_holds 137 = .ok (.invokevirtual 134, 3) := by decide +kernel
theorem dX10_holds_140 : decode cX10_holds 140 = .ok (.invokevirtual 130, 3) := by decide +kernel
theorem dX10_holds_143 : decode cX10_holds 143 = .ok (.istore 4, 2) := by decide +kernel
theorem dX10_holds_145 : decode cX10_holds 145 = .ok (.aload_n 0, 1) := by decide +kernel
theorem dX10_holds_146 : decode cX10_holds 146 = .ok (.getfield 68, 3) := by decide +kernel
theorem dX10_holds_149 : decode cX10_holds 149 = .ok (.iload_n 1, 1) := by decide +kernel
theorem dX10_holds_150 : decode cX10_holds 150 = .ok (.iaload, 1) := by decide +kernel
theorem dX10_holds_151 : decode cX10_holds 151 = .ok (.bipush 60, 2) := by decide +kernel
theorem dX10_holds_153 : decode cX10_holds 153 = .ok (.if_icmp .ne 22, 3) := by decide +kernel
theorem dX10_holds_156 : decode cX10_holds 156 = .ok (.iload 4, 2) := by decide +kernel
theorem dX10_holds_158 : decode cX10_holds 158 = .ok (.aload_n 0, 1) := by decide +kernel
theorem dX10_holds_159 : decode cX10_holds 159 = .ok (.getfield 71, 3) := by decide +kernel
theorem dX10_holds_162 : decode cX10_holds 162 = .ok (.iload_n 1, 1) := by decide +kernel
theorem dX10_holds_163 : decode cX10_holds 163 = .ok (.iaload, 1) := by decide +kernel
theorem dX10_holds_164 : decode cX10_holds 164 = .ok (.if_icmp .ge 7, 3) := by decide +kernel
theorem dX10_holds_167 : decode cX10_holds 167 = .ok (.iconst 1, 1) := by decide +kernel
theorem dX10_holds_168 : decode cX10_holds 168 = .ok (.goto 53, 3) := by decide +kernel
theorem dX10_holds_171 : decode cX10_holds 171 = .ok (.iconst 0, 1) := by decide +kernel
theorem dX10_holds_172 : decode cX10_holds 172 = .ok (.goto 49, 3) := by decide +kernel
theorem dX10_holds_175 : decode cX10_holds 175 = .ok (.aload_n 0, 1) := by decide +kernel
theorem dX10_holds_176 : decode cX10_holds 176 = .ok (.getfield 68, 3) := by decide +kernel
theorem dX10_holds_179 : decode cX10_holds 179 = .ok (.iload_n 1, 1) := by decide +kernel
theorem dX10_holds_180 : decode cX10_holds 180 = .ok (.iaload, 1) := by decide +kernel
theorem dX10_holds_181 : decode cX10_holds 181 = .ok (.bipush 62, 2) := by decide +kernel
theorem dX10_holds_183 : decode cX10_holds 183 = .ok (.if_icmp .ne 22, 3) := by decide +kernel
theorem dX10_holds_186 : decode cX10_holds 186 = .ok (.iload 4, 2) := by decide +kernel
theorem dX10_holds_188 : decode cX10_holds 188 = .ok (.aload_n 0, 1) := by decide +kernel
theorem dX10_holds_189 : decode cX10_holds 189 = .ok (.getfield 71, 3) := by decide +kernel
theorem dX10_holds_192 : decode cX10_holds 192 = .ok (.iload_n 1, 1) := by decide +kernel
theorem dX10_holds_193 : decode cX10_holds 193 = .ok (.iaload, 1) := by decide +kernel
theorem dX10_holds_194 : decode cX10_holds 194 = .ok (.if_icmp .le 7, 3) := by decide +kernel
theorem dX10_holds_197 : decode cX10_holds 197 = .ok (.iconst 1, 1) := by decide +kernel
theorem dX10_holds_198 : decode cX10_holds 198 = .ok (.goto 23, 3) := by decide +kernel
theorem dX10_holds_201 : decode cX10_holds 201 = .ok (.iconst 0, 1) := by decide +kernel
theorem dX10_holds_202 : decode cX10_holds 202 = .ok (.goto 19, 3) := by decide +kernel
theorem dX10_holds_205 : decode cX10_holds 205 = .ok (.iload 4, 2) := by decide +kernel
theorem dX10_holds_207 : decode cX10_holds 207 = .ok (.aload_n 0, 1) := by decide +kernel
theorem dX10_holds_208 : decode cX10_holds 208 = .ok (.getfield 71, 3) := by decide +kernel
theorem dX10_holds_211 : decode cX10_holds 211 = .ok (.iload_n 1, 1) := by decide +kernel
theorem dX10_holds_212 : decode cX10_holds 212 = .ok (.iaload, 1) := by decide +kernel
theorem dX10_holds_213 : decode cX10_holds 213 = .ok (.if_icmp .ne 7, 3) := by decide +kernel
theorem dX10_holds_216 : decode cX10_holds 216 = .ok (.iconst 1, 1) := by decide +kernel
theorem dX10_holds_217 : decode cX10_holds 217 = .ok (.goto 4, 3) := by decide +kernel
theorem dX10_holds_220 : decode cX10_holds 220 = .ok (.iconst 0, 1) := by decide +kernel
theorem dX10_holds_221 : decode cX10_holds 221 = .ok (.ireturn, 1) := by decide +kernel
set_option maxRecDepth 20000 in
theorem ggX10_scoreOf_X10_holds : GoodIn wsX10_scoreOf wsX10_holds := goodIn_r _ [7, 8, 9, 10, 11, 12, 13, 14, 15, 16, 17, 18, 6, 19, 20, 21, 22, 23, 24, 25, 26, 27, 28, 29, 30, 31, 32, 33, 34, 35, 36, 37, 38, 39, 40, 41, 42, 43, 44, 45, 46, 47, 48, 49, 50, 51, 52, 53, 54, 55, 56, 57, 58, 59, 60, 61, 62, 63, 64, 65, 66, 67, 68, 69, 70, 71, 72, 73, 74, 75, 76] (by decide +kernel) (by decide +kernel)
set_option maxRecDepth 20000 in
theorem gX10_scoreOf_X10_holds : GoodIn wsX10_scoreOf (wsV RX10 239 RX10 yX10_holds wsX10_holds) := goodIn_app (goodIn_of _ (by decide +kernel)) ggX10_scoreOf_X10_holds
theorem dX10_scoreOf_0 : decode cX10_scoreOf 0 = .ok (.iconst 0, 1) := by decide +kernel
theorem dX10_scoreOf_1 : decode cX10_scoreOf 1 = .ok (.istore_n 3, 1) := by decide +kernel
theorem dX10_scoreOf_2 : decode cX10_scoreOf 2 = .ok (.iconst 0, 1) := by decide +kernel
theorem dX10_scoreOf_3 : decode cX10_scoreOf 3 = .ok (.istore 4, 2) := by decide +kernel
theorem dX10_scoreOf_5 : decode cX10_scoreOf 5 = .ok (.iload 4, 2) := by decide +kernel
theorem dX10_scoreOf_7 : decode cX10_scoreOf 7 = .ok (.aload_n 0, 1) := by decide +kernel
theorem dX10_scoreOf_8 : decode cX10_scoreOf 8 = .ok (.getfield 62, 3) := by decide +kernel
theorem dX10_scoreOf_11 : decode cX10_scoreOf 11 = .ok (.iload_n 1, 1) := by decide +kernel
theorem dX10_scoreOf_12 : decode cX10_scoreOf 12 = .ok (.iaload, 1) := by decide +kernel
theorem dX10_scoreOf_13 : decode cX10_scoreOf 13 = .ok (.if_icmp .ge 43, 3) := by decide +kernel
theorem dX10_scoreOf_16 : decode cX10_scoreOf 16 = .ok (.iload_n 3, 1) := by decide +kernel
theorem dX10_scoreOf_17 : decode cX10_scoreOf 17 = .ok (.aload_n 0, 1) := by decide +kernel
theorem dX10_scoreOf_18 : decode cX10_scoreOf 18 = .ok (.bipush 12, 2) := by decide +kernel
theorem dX10_scoreOf_20 : decode cX10_scoreOf 20 = .ok (.iload_n 1, 1) := by decide +kernel
theorem dX10_scoreOf_21 : decode cX10_scoreOf 21 = .ok (.imul, 1) := by decide +kernel
theorem dX10_scoreOf_22 : decode cX10_scoreOf 22 = .ok (.iload 4, 2) := by decide +kernel
theorem dX10_scoreOf_24 : decode cX10_scoreOf 24 = .ok (.iadd, 1) := by decide +kernel
theorem dX10_scoreOf_25 : decode cX10_scoreOf 25 = .ok (.iload_n 2, 1) := by decide +kernel
theorem dX10_scoreOf_26 : decode cX10_scoreOf 26 = .ok (.invokevirtual 239, 3) := by decide +kernel
theorem dX10_scoreOf_29 : decode cX10_scoreOf 29 = .ok (.ifCond .eq 18, 3) := by decide +kernel
theorem dX10_scoreOf_32 : decode cX10_scoreOf 32 = .ok (.aload_n 0, 1) := by decide +kernel
theorem dX10_scoreOf_33 : decode cX10_scoreOf 33 = .ok (.getfield 74, 3) := by decide +kernel
theorem dX10_scoreOf_36 : decode cX10_scoreOf 36 = .ok (.bipush 12, 2) := by decide +kernel
theorem dX10_scoreOf_38 : decode cX10_scoreOf 38 = .ok (.iload_n 1, 1) := by decide +kernel
theorem dX10_scoreOf_39 : decode cX10_scoreOf 39 = .ok (.imul, 1) := by decide +kernel
theorem dX10_scoreOf_40 : decode cX10_scoreOf 40 = .ok (.iload 4, 2) := by decide +kernel
theorem dX10_scoreOf_42 : decode cX10_scoreOf 42 = .ok (.iadd, 1) := by decide +kernel
theorem dX10_scoreOf_43 : decode cX10_scoreOf 43 = .ok (.iaload, 1) := by decide +kernel
theorem dX10_scoreOf_44 : decode cX10_scoreOf 44 = .ok (.goto 4, 3) := by decide +kernel
theorem dX10_scoreOf_47 : decode cX10_scoreOf 47 = .ok (.iconst 0, 1) := by decide +kernel
theorem dX10_scoreOf_48 : decode cX10_scoreOf 48 = .ok (.iadd, 1) := by decide +kernel
theorem dX10_scoreOf_49 : decode cX10_scoreOf 49 = .ok (.istore_n 3, 1) := by decide +kernel
theorem dX10_scoreOf_50 : decode cX10_scoreOf 50 = .ok (.iinc 4 1, 3) := by decide +kernel
theorem dX10_scoreOf_53 : decode cX10_scoreOf 53 = .ok (.goto (-48), 3) := by decide +kernel
theorem dX10_scoreOf_56 : decode cX10_scoreOf 56 = .ok (.iload_n 3, 1) := by decide +kernel
theorem dX10_scoreOf_57 : decode cX10_scoreOf 57 = .ok (.ireturn, 1) := by decide +kernel
set_option maxRecDepth 20000 in
theorem ggX10_isDish_X10_within : GoodIn wsX10_isDish wsX10_within := goodIn_r _ [5] (by decide +kernel) (by decide +kernel)
set_option maxRecDepth 20000 in
theorem gX10_isDish_X10_within : GoodIn wsX10_isDish (va_wsS RX10 108 yX10_within wsX10_within) := goodIn_app (goodIn_of _ (by decide +kernel)) ggX10_isDish_X10_within
set_option maxRecDepth 20000 in
theorem ggX10_isDish_X10_may : GoodIn wsX10_isDish wsX10_may := goodIn_r _ [9, 10, 11, 12, 13, 14, 15, 16, 17, 18, 19, 20, 21, 22, 23, 24, 25, 26, 27, 28, 29, 30, 31, 32, 33, 34, 35, 36, 37, 38, 39, 40, 41, 42, 43, 44, 45, 46, 47, 48, 49, 50, 51, 52, 53, 54, 55, 56, 57, 58, 59] (by decide +kernel) (by decide +kernel)
set_option maxRecDepth 20000 in
theorem gX10_isDish_X10_may : GoodIn wsX10_isDish (wsV RX10 112 RX10 yX10_may wsX10_may) := goodIn_app (goodIn_of _ (by decide +kernel)) ggX10_isDish_X10_may
theorem dX10_isDish_0 : decode cX10_isDish 0 = .ok (.aload_n 0, 1) := by decide +kernel
theorem dX10_isDish_1 : decode cX10_isDish 1 = .ok (.iload_n 1, 1) := by decide +kernel
theorem dX10_isDish_2 : decode cX10_isDish 2 = .ok (.iconst 0, 1) := by decide +kernel
theorem dX10_isDish_3 : decode cX10_isDish 3 = .ok (.aload_n 0, 1) := by decide +kernel
theorem dX10_isDish_4 : decode cX10_isDish 4 = .ok (.getfield 224, 3) := by decide +kernel
theorem dX10_isDish_7 : decode cX10_isDish 7 = .ok (.iconst 1, 1) := by decide +kernel
theorem dX10_isDish_8 : decode cX10_isDish 8 = .ok (.isub, 1) := by decide +kernel
theorem dX10_isDish_9 : decode cX10_isDish 9 = .ok (.invokestatic 108, 3) := by decide +kernel
theorem dX10_isDish_12 : decode cX10_isDish 12 = .ok (.iconst 1, 1) := by decide +kernel
theorem dX10_isDish_13 : decode cX10_isDish 13 = .ok (.invokevirtual 112, 3) := by decide +kernel
theorem dX10_isDish_16 : decode cX10_isDish 16 = .ok (.ireturn, 1) := by decide +kernel
set_option maxRecDepth 20000 in
theorem ggX10_score_X10_isDish : GoodIn wsX10_score wsX10_isDish := goodIn_r _ [6, 7, 8, 9, 5, 10, 11, 12, 13, 14, 1, 50, 51, 52, 53, 54, 55, 56, 57, 58, 59, 60, 61, 62, 63, 64, 65, 66, 67, 68, 69, 70, 71, 72, 73, 74, 75, 76, 77, 78, 79, 80, 81, 82, 83, 84, 85, 86, 87, 88, 89, 90, 91, 92, 93, 94, 95, 96, 97, 98] (by decide +kernel) (by decide +kernel)
set_option maxRecDepth 20000 in
theorem gX10_score_X10_isDish : GoodIn wsX10_score (wsV RX10 242 RX10 yX10_isDish wsX10_isDish) := goodIn_app (goodIn_of _ (by decide +kernel)) ggX10_score_X10_isDish
set_option maxRecDepth 20000 in
theorem ggX10_score_X10_isLot : GoodIn wsX10_score wsX10_isLot := goodIn_r _ [18, 19, 8, 9, 5, 10, 11, 12, 13, 14, 1, 50, 51, 52, 53, 54, 55, 56, 57, 58, 59, 60, 61, 62, 63, 64, 65, 66, 67, 68, 69, 70, 71, 72, 73, 74, 75, 76, 77, 78, 79, 80, 81, 82, 83, 84, 85, 86, 87, 88, 89, 90, 91, 92, 93, 94, 95, 96, 97, 98] (by decide +kernel) (by decide +kernel)
set_option maxRecDepth 20000 in
theorem gX10_score_X10_isLot : GoodIn wsX10_score (wsV RX10 126 RX10 yX10_isLot wsX10_isLot) := goodIn_app (goodIn_of _ (by decide +kernel)) ggX10_score_X10_isLot
set_option maxRecDepth 20000 in
theorem ggX10_score_X10_scoreOf : GoodIn wsX10_score wsX10_scoreOf := goodIn_r _ [23, 24, 25, 26, 27, 28, 5, 29, 30, 31, 32, 33, 34, 35, 36, 37, 38, 39, 40, 41, 42, 43, 44, 45, 46, 47, 48, 49, 50, 51, 52, 53, 54, 55, 56, 57, 58, 59, 60, 61, 62, 63, 64, 65, 66, 67, 68, 69, 70, 71, 72, 73, 74, 75, 76, 77, 78, 79, 80, 81, 82, 83, 84, 85, 86, 87, 88, 89, 90, 91, 92, 93, 94, 95, 96, 97, 98] (by decide +kernel) (by decide +kernel)
set_option maxRecDepth 20000 in
theorem gX10_score_X10_scoreOf : GoodIn wsX10_score (wsV RX10 245 RX10 yX10_scoreOf wsX10_scoreOf) := goodIn_app (goodIn_of _ (by decide +kernel)) ggX10_score_X10_scoreOf
theorem dX10_score_0 : decode cX10_score 0 = .ok (.aload_n 0, 1) := by decide +kernel
theorem dX10_score_1 : decode cX10_score 1 = .ok (.iconst 0, 1) := by decide +kernel
theorem dX10_score_2 : decode cX10_score 2 = .ok (.putfield 1, 3) := by decide +kernel
theorem dX10_score_5 : decode cX10_score 5 = .ok (.aload_n 0, 1) := by decide +kernel
theorem dX10_score_6 : decode cX10_score 6 = .ok (.iload_n 1, 1) := by decide +kernel
theorem dX10_score_7 : decode cX10_score 7 = .ok (.invokevirtual 242, 3) := by decide +kernel
theorem dX10_score_10 : decode cX10_score 10 = .ok (.ifCond .eq 21, 3) := by decide +kernel
theorem dX10_score_13 : decode cX10_score 13 = .ok (.aload_n 0, 1) := by decide +kernel
theorem dX10_score_14 : decode cX10_score 14 = .ok (.iload_n 2, 1) := by decide +kernel
theorem dX10_score_15 : decode cX10_score 15 = .ok (.iconst 2, 1) := by decide +kernel
theorem dX10_score_16 : decode cX10_score 16 = .ok (.invokevirtual 126, 3) := by decide +kernel
theorem dX10_score_19 : decode cX10_score 19 = .ok (.ifCond .eq 12, 3) := by decide +kernel
theorem dX10_score_22 : decode cX10_score 22 = .ok (.aload_n 0, 1) := by decide +kernel
theorem dX10_score_23 : decode cX10_score 23 = .ok (.iload_n 1, 1) := by decide +kernel
theorem dX10_score_24 : decode cX10_score 24 = .ok (.iload_n 2, 1) := by decide +kernel
theorem dX10_score_25 : decode cX10_score 25 = .ok (.invokevirtual 245, 3) := by decide +kernel
theorem dX10_score_28 : decode cX10_score 28 = .ok (.goto 4, 3) := by decide +kernel
theorem dX10_score_31 : decode cX10_score 31 = .ok (.iconst 0, 1) := by decide +kernel
theorem dX10_score_32 : decode cX10_score 32 = .ok (.ireturn, 1) := by decide +kernel
set_option maxRecDepth 20000 in
theorem ggX10_matches_X10_bottlesOf : GoodIn wsX10_matches wsX10_bottlesOf := goodIn_r _ [7, 8, 9, 15, 16, 17, 18, 19, 20, 21, 22, 23, 24, 25, 26, 27, 28, 29, 30, 31, 32, 33, 34, 35, 36, 37, 38, 39, 40, 41, 42, 43, 44, 45, 46, 47, 48, 49, 50, 51, 52, 53, 54, 55, 56, 57, 58, 59, 60, 61, 62, 63] (by decide +kernel) (by decide +kernel)
set_option maxRecDepth 20000 in
theorem gX10_matches_X10_bottlesOf : GoodIn wsX10_matches (wsV RX10 152 RX10 yX10_bottlesOf wsX10_bottlesOf) := goodIn_app (goodIn_of _ (by decide +kernel)) ggX10_matches_X10_bottlesOf
set_option maxRecDepth 20000 in
theorem ggX10_matches_X10_year : GoodIn wsX10_matches wsX10_year := goodIn_r _ [13, 14, 15, 16, 17, 18, 19, 20, 21, 22, 23, 24, 25, 26, 27, 28, 29, 30, 31, 32, 33, 34, 35, 36, 37, 38, 39, 40, 41, 42, 43, 44, 45, 46, 47, 48, 49, 50, 51, 52, 53, 54, 55, 56, 57, 58, 59, 60, 61, 62, 63] (by decide +kernel) (by decide +kernel)
set_option maxRecDepth 20000 in
theorem gX10_matches_X10_year : GoodIn wsX10_matches (wsV RX10 134 RX10 yX10_year wsX10_year) := goodIn_app (goodIn_of _ (by decide +kernel)) ggX10_matches_X10_year
theorem dX10_matches_0 : decode cX10_matches 0 = .ok (.aload_n 0, 1) := by decide +kernel
theorem dX10_matches_1 : decode cX10_matches 1 = .ok (.iload_n 1, 1) := by decide +kernel
theorem dX10_matches_2 : decode cX10_matches 2 = .ok (.invokevirtual 152, 3) := by decide +kernel
theorem dX10_matches_5 : decode cX10_matches 5 = .ok (.ifCond .le 33, 3) := by decide +kernel
theorem dX10_matches_8 : decode cX10_matches 8 = .ok (.aload_n 0, 1) := by decide +kernel
theorem dX10_matches_9 : decode cX10_matches 9 = .ok (.invokevirtual 134, 3) := by decide +kernel
theorem dX10_matches_12 : decode cX10_matches 12 = .ok (.aload_n 0, 1) := by decide +kernel
theorem dX10_matches_13 : decode cX10_matches 13 = .ok (.getfield 38, 3) := by decide +kernel
theorem dX10_matches_16 : decode cX10_matches 16 = .ok (.iload_n 1, 1) := by decide +kernel
theorem dX10_matches_17 : decode cX10_matches 17 = .ok (.iaload, 1) := by decide +kernel
theorem dX10_matches_18 : decode cX10_matches 18 = .ok (.if_icmp .lt 20, 3) := by decide +kernel
theorem dX10_matches_21 : decode cX10_matches 21 = .ok (.aload_n 0, 1) := by decide +kernel
theorem dX10_matches_22 : decode cX10_matches 22 = .ok (.invokevirtual 134, 3) := by decide +kernel
theorem dX10_matches_25 : decode cX10_matches 25 = .ok (.aload_n 0, 1) := by decide +kernel
theorem dX10_matches_26 : decode cX10_matches 26 = .ok (.getfield 41, 3) := by decide +kernel
theorem dX10_matches_29 : decode cX10_matches 29 = .ok (.iload_n 1, 1) := by decide +kernel
theorem dX10_matches_30 : decode cX10_matches 30 = .ok (.iaload, 1) := by decide +kernel
theorem dX10_matches_31 : decode cX10_matches 31 = .ok (.if_icmp .gt 7, 3) := by decide +kernel
theorem dX10_matches_34 : decode cX10_matches 34 = .ok (.iconst 1, 1) := by decide +kernel
theorem dX10_matches_35 : decode cX10_matches 35 = .ok (.goto 4, 3) := by decide +kernel
theorem dX10_matches_38 : decode cX10_matches 38 = .ok (.iconst 0, 1) := by decide +kernel
theorem dX10_matches_39 : decode cX10_matches 39 = .ok (.ireturn, 1) := by decide +kernel
set_option maxRecDepth 20000 in
theorem ggX10_isAhead_X10_scoreOf : GoodIn wsX10_isAhead wsX10_scoreOf := goodIn_r _ [5, 6, 7, 8, 9, 10, 4, 11, 12, 13, 14, 15, 16, 17, 18, 19, 20, 21, 22, 23, 24, 25, 26, 27, 28, 29, 30, 31, 32, 33, 34, 35, 36, 37, 38, 39, 40, 41, 42, 43, 44, 45, 46, 47, 48, 49, 50, 51, 52, 53, 54, 55, 56, 57, 58, 59, 60, 61, 62, 63, 64, 65, 66, 67, 68, 69, 70, 71, 72, 73, 74, 75, 76, 77, 78, 79, 80] (by decide +kernel) (by decide +kernel)
set_option maxRecDepth 20000 in
theorem gX10_isAhead_X10_scoreOf : GoodIn wsX10_isAhead (wsV RX10 245 RX10 yX10_scoreOf wsX10_scoreOf) := goodIn_app (goodIn_of _ (by decide +kernel)) ggX10_isAhead_X10_scoreOf
set_option maxRecDepth 20000 in
theorem ggX10_isAhead_X10_year : GoodIn wsX10_isAhead wsX10_year := goodIn_r _ [23, 24, 32, 33, 34, 35, 36, 37, 38, 39, 40, 41, 42, 43, 44, 45, 46, 47, 48, 49, 50, 51, 52, 53, 54, 55, 56, 57, 58, 59, 60, 61, 62, 63, 64, 65, 66, 67, 68, 69, 70, 71, 72, 73, 74, 75, 76, 77, 78, 79, 80] (by decide +kernel) (by decide +kernel)
set_option maxRecDepth 20000 in
theorem gX10_isAhead_X10_year : GoodIn wsX10_isAhead (wsV RX10 134 RX10 yX10_year wsX10_year) := goodIn_app (goodIn_of _ (by decide +kernel)) ggX10_isAhead_X10_year
