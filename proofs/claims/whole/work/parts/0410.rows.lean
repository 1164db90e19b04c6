set_option maxRecDepth 20000 in
theorem ggX4_workOut_X4_allows : GoodIn wsX4_workOut wsX4_allows := goodIn_r _ [17, 18, 19, 20, 21, 22, 23, 24, 25, 12, 26, 27, 33, 34, 35, 36, 37, 38, 39, 40, 41, 42, 43, 44, 45, 46, 47, 48, 49, 50, 51, 52, 53, 54, 55, 56, 57, 58, 59, 60, 61, 62, 63, 64] (by decide +kernel) (by decide +kernel)
set_option maxRecDepth 20000 in
theorem gX4_workOut_X4_allows : GoodIn wsX4_workOut (wsV RX4 146 RX4 yX4_allows wsX4_allows) := goodIn_app (goodIn_of _ (by decide +kernel)) ggX4_workOut_X4_allows
set_option maxRecDepth 20000 in
theorem ggX4_workOut_X4_behind : GoodIn wsX4_workOut wsX4_behind := goodIn_r _ [31, 4, 32, 18, 19, 27, 23, 24, 25, 12, 26, 33, 34, 35, 36, 37, 38, 39, 40, 41, 42, 43, 44, 45, 46, 47, 48, 49, 50, 51, 52, 53, 54, 55, 56, 57, 58, 59, 60, 61, 62, 63, 64] (by decide +kernel) (by decide +kernel)
set_option maxRecDepth 20000 in
theorem gX4_workOut_X4_behind : GoodIn wsX4_workOut (wsV RX4 149 RX4 yX4_behind wsX4_behind) := goodIn_app (goodIn_of _ (by decide +kernel)) ggX4_workOut_X4_behind
theorem dX4_workOut_0 : decode cX4_workOut 0 = .ok (.iload_n 1, 1) := by decide +kernel
theorem dX4_workOut_1 : decode cX4_workOut 1 = .ok (.aload_n 0, 1) := by decide +kernel
theorem dX4_workOut_2 : decode cX4_workOut 2 = .ok (.getfield 106, 3) := by decide +kernel
theorem dX4_workOut_5 : decode cX4_workOut 5 = .ok (.irem, 1) := by decide +kernel
theorem dX4_workOut_6 : decode cX4_workOut 6 = .ok (.istore_n 2, 1) := by decide +kernel
theorem dX4_workOut_7 : decode cX4_workOut 7 = .ok (.aload_n 0, 1) := by decide +kernel
theorem dX4_workOut_8 : decode cX4_workOut 8 = .ok (.iload_n 2, 1) := by decide +kernel
theorem dX4_workOut_9 : decode cX4_workOut 9 = .ok (.invokevirtual 154, 3) := by decide +kernel
theorem dX4_workOut_12 : decode cX4_workOut 12 = .ok (.ifCond .eq 7, 3) := by decide +kernel
theorem dX4_workOut_15 : decode cX4_workOut 15 = .ok (.lconst 0, 1) := by decide +kernel
theorem dX4_workOut_16 : decode cX4_workOut 16 = .ok (.goto 6, 3) := by decide +kernel
theorem dX4_workOut_19 : decode cX4_workOut 19 = .ok (.ldc2_w 157, 3) := by decide +kernel
theorem dX4_workOut_22 : decode cX4_workOut 22 = .ok (.lstore_n 3, 1) := by decide +kernel
theorem dX4_workOut_23 : decode cX4_workOut 23 = .ok (.aload_n 0, 1) := by decide +kernel
theorem dX4_workOut_24 : decode cX4_workOut 24 = .ok (.iload_n 2, 1) := by decide +kernel
theorem dX4_workOut_25 : decode cX4_workOut 25 = .ok (.invokevirtual 154, 3) := by decide +kernel
theorem dX4_workOut_28 : decode cX4_workOut 28 = .ok (.ifCond .eq 7, 3) := by decide +kernel
theorem dX4_workOut_31 : decode cX4_workOut 31 = .ok (.lconst 0, 1) := by decide +kernel
theorem dX4_workOut_32 : decode cX4_workOut 32 = .ok (.goto 6, 3) := by decide +kernel
theorem dX4_workOut_35 : decode cX4_workOut 35 = .ok (.ldc2_w 157, 3) := by decide +kernel
theorem dX4_workOut_38 : decode cX4_workOut 38 = .ok (.lstore 5, 2) := by decide +kernel
theorem dX4_workOut_40 : decode cX4_workOut 40 = .ok (.iconst 0, 1) := by decide +kernel
theorem dX4_workOut_41 : decode cX4_workOut 41 = .ok (.istore 7, 2) := by decide +kernel
theorem dX4_workOut_43 : decode cX4_workOut 43 = .ok (.iload 7, 2) := by decide +kernel
theorem dX4_workOut_45 : decode cX4_workOut 45 = .ok (.aload_n 0, 1) := by decide +kernel
theorem dX4_workOut_46 : decode cX4_workOut 46 = .ok (.getfield 119, 3) := by decide +kernel
theorem dX4_workOut_49 : decode cX4_workOut 49 = .ok (.if_icmp .ge 100, 3) := by decide +kernel
theorem dX4_workOut_52 : decode cX4_workOut 52 = .ok (.aload_n 0, 1) := by decide +kernel
theorem dX4_workOut_53 : decode cX4_workOut 53 = .ok (.getfield 22, 3) := by decide +kernel
theorem dX4_workOut_56 : decode cX4_workOut 56 = .ok (.iload 7, 2) := by decide +kernel
theorem dX4_workOut_58 : decode cX4_workOut 58 = .ok (.iaload, 1) := by decide +kernel
theorem dX4_workOut_59 : decode cX4_workOut 59 = .ok (.iload_n 2, 1) := by decide +kernel
theorem dX4_workOut_60 : decode cX4_workOut 60 = .ok (.if_icmp .ne 83, 3) := by decide +kernel
theorem dX4_workOut_63 : decode cX4_workOut 63 = .ok (.aload_n 0, 1) := by decide +kernel
theorem dX4_workOut_64 : decode cX4_workOut 64 = .ok (.iload_n 1, 1) := by decide +kernel
theorem dX4_workOut_65 : decode cX4_workOut 65 = .ok (.iload 7, 2) := by decide +kernel
theorem dX4_workOut_67 : decode cX4_workOut 67 = .ok (.invokevirtual 146, 3) := by decide +kernel
theorem dX4_workOut_70 : decode cX4_workOut 70 = .ok (.ifCond .eq 73, 3) := by decide +kernel
theorem dX4_workOut_73 : decode cX4_workOut 73 = .ok (.aload_n 0, 1) := by decide +kernel
theorem dX4_workOut_74 : decode cX4_workOut 74 = .ok (.iload_n 1, 1) := by decide +kernel
theorem dX4_workOut_75 : decode cX4_workOut 75 = .ok (.iload 7, 2) := by decide +kernel
theorem dX4_workOut_77 : decode cX4_workOut 77 = .ok (.invokevirtual 149, 3) := by decide +kernel
theorem dX4_workOut_80 : decode cX4_workOut 80 = .ok (.istore 8, 2) := by decide +kernel
theorem dX4_workOut_82 : decode cX4_workOut 82 = .ok (.aload_n 0, 1) := by decide +kernel
theorem dX4_workOut_83 : decode cX4_workOut 83 = .ok (.getfield 70, 3) := by decide +kernel
theorem dX4_workOut_86 : decode cX4_workOut 86 = .ok (.iload 8, 2) := by decide +kernel
theorem dX4_workOut_88 : decode cX4_workOut 88 = .ok (.laload, 1) := by decide +kernel
theorem dX4_workOut_89 : decode cX4_workOut 89 = .ok (.lload_n 3, 1) := by decide +kernel
theorem dX4_workOut_90 : decode cX4_workOut 90 = .ok (.lcmp, 1) := by decide +kernel
theorem dX4_workOut_91 : decode cX4_workOut 91 = .ok (.ifCond .le 11, 3) := by decide +kernel
theorem dX4_workOut_94 : decode cX4_workOut 94 = .ok (.aload_n 0, 1) := by decide +kernel
theorem dX4_workOut_95 : decode cX4_workOut 95 = .ok (.getfield 70, 3) := by decide +kernel
theorem dX4_workOut_98 : decode cX4_workOut 98 = .ok (.iload 8, 2) := by decide +kernel
theorem dX4_workOut_100 : decode cX4_workOut 100 = .ok (.laload, 1) := by decide +kernel
theorem dX4_workOut_101 : decode cX4_workOut 101 = .ok (.lstore_n 3, 1) := by decide +kernel
theorem dX4_workOut_102 : decode cX4_workOut 102 = .ok (.aload_n 0, 1) := by decide +kernel
theorem dX4_workOut_103 : decode cX4_workOut 103 = .ok (.getfield 73, 3) := by decide +kernel
theorem dX4_workOut_106 : decode cX4_workOut 106 = .ok (.iload 8, 2) := by decide +kernel
theorem dX4_workOut_108 : decode cX4_workOut 108 = .ok (.laload, 1) := by decide +kernel
theorem dX4_workOut_109 : decode cX4_workOut 109 = .ok (.lconst 0, 1) := by decide +kernel
theorem dX4_workOut_110 : decode cX4_workOut 110 = .ok (.lcmp, 1) := by decide +kernel
theorem dX4_workOut_111 : decode cX4_workOut 111 = .ok (.ifCond .lt 32, 3) := by decide +kernel
theorem dX4_workOut_114 : decode cX4_workOut 114 = .ok (.lload 5, 2) := by decide +kernel
theorem dX4_workOut_116 : decode cX4_workOut 116 = .ok (.lconst 0, 1) := by decide +kernel
theorem dX4_workOut_117 : decode cX4_workOut 117 = .ok (.lcmp, 1) := by decide +kernel
theorem dX4_workOut_118 : decode cX4_workOut 118 = .ok (.ifCond .lt 16, 3) := by decide +kernel
theorem dX4_workOut_121 : decode cX4_workOut 121 = .ok (.aload_n 0, 1) := by decide +kernel
theorem dX4_workOut_122 : decode cX4_workOut 122 = .ok (.getfield 73, 3) := by decide +kernel
theorem dX4_workOut_125 : decode cX4_workOut 125 = .ok (.iload 8, 2) := by decide +kernel
theorem dX4_workOut_127 : decode cX4_workOut 127 = .ok (.laload, 1) := by decide +kernel
theorem dX4_workOut_128 : decode cX4_workOut 128 = .ok (.lload 5, 2) := by decide +kernel
theorem dX4_workOut_130 : decode cX4_workOut 130 = .ok (.lcmp, 1) := by decide +kernel
theorem dX4_workOut_131 : decode cX4_workOut 131 = .ok (.ifCond .ge 12, 3) := by decide +kernel
theorem dX4_workOut_134 : decode cX4_workOut 134 = .ok (.aload_n 0, 1) := by decide +kernel
theorem dX4_workOut_135 : decode cX4_workOut 135 = .ok (.getfield 73, 3) := by decide +kernel
theorem dX4_workOut_138 : decode cX4_workOut 138 = .ok (.iload 8, 2) := by decide +kernel
theorem dX4_workOut_140 : decode cX4_workOut 140 = .ok (.laload, 1) := by decide +kernel
theorem dX4_workOut_141 : decode cX4_workOut 141 = .ok (.lstore 5, 2) := by decide +kernel
theorem dX4_workOut_143 : decode cX4_workOut 143 = .ok (.iinc 7 1, 3) := by decide +kernel
theorem dX4_workOut_146 : decode cX4_workOut 146 = .ok (.goto (-103), 3) := by decide +kernel
theorem dX4_workOut_149 : decode cX4_workOut 149 = .ok (.aload_n 0, 1) := by decide +kernel
theorem dX4_workOut_150 : decode cX4_workOut 150 = .ok (.getfield 70, 3) := by decide +kernel
theorem dX4_workOut_153 : decode cX4_workOut 153 = .ok (.iload_n 1, 1) := by decide +kernel
theorem dX4_workOut_154 : decode cX4_workOut 154 = .ok (.lload_n 3, 1) := by decide +kernel
theorem dX4_workOut_155 : decode cX4_workOut 155 = .ok (.lconst 0, 1) := by decide +kernel
theorem dX4_workOut_156 : decode cX4_workOut 156 = .ok (.lcmp, 1) := by decide +kernel
theorem dX4_workOut_157 : decode cX4_workOut 157 = .ok (.ifCond .ge 9, 3) := by decide +kernel
theorem dX4_workOut_160 : decode cX4_workOut 160 = .ok (.ldc2_w 157, 3) := by decide +kernel
theorem dX4_workOut_163 : decode cX4_workOut 163 = .ok (.goto 11, 3) := by decide +kernel
theorem dX4_workOut_166 : decode cX4_workOut 166 = .ok (.lload_n 3, 1) := by decide +kernel
theorem dX4_workOut_167 : decode cX4_workOut 167 = .ok (.aload_n 0, 1) := by decide +kernel
theorem dX4_workOut_168 : decode cX4_workOut 168 = .ok (.getfield 56, 3) := by decide +kernel
theorem dX4_workOut_171 : decode cX4_workOut 171 = .ok (.iload_n 2, 1) := by decide +kernel
theorem dX4_workOut_172 : decode cX4_workOut 172 = .ok (.laload, 1) := by decide +kernel
theorem dX4_workOut_173 : decode cX4_workOut 173 = .ok (.ladd, 1) := by decide +kernel
theorem dX4_workOut_174 : decode cX4_workOut 174 = .ok (.lastore, 1) := by decide +kernel
theorem dX4_workOut_175 : decode cX4_workOut 175 = .ok (.aload_n 0, 1) := by decide +kernel
theorem dX4_workOut_176 : decode cX4_workOut 176 = .ok (.getfield 73, 3) := by decide +kernel
theorem dX4_workOut_179 : decode cX4_workOut 179 = .ok (.iload_n 1, 1) := by decide +kernel
theorem dX4_workOut_180 : decode cX4_workOut 180 = .ok (.lload 5, 2) := by decide +kernel
theorem dX4_workOut_182 : decode cX4_workOut 182 = .ok (.lconst 0, 1) := by decide +kernel
theorem dX4_workOut_183 : decode cX4_workOut 183 = .ok (.lcmp, 1) := by decide +kernel
theorem dX4_workOut_184 : decode cX4_workOut 184 = .ok (.ifCond .ge 9, 3) := by decide +kernel
theorem dX4_workOut_187 : decode cX4_workOut 187 = .ok (.ldc2_w 157, 3) := by decide +kernel
theorem dX4_workOut_190 : decode cX4_workOut 190 = .ok (.goto 12, 3) := by decide +kernel
theorem dX4_workOut_193 : decode cX4_workOut 193 = .ok (.lload 5, 2) := by decide +kernel
theorem dX4_workOut_195 : decode cX4_workOut 195 = .ok (.aload_n 0, 1) := by decide +kernel
theorem dX4_workOut_196 : decode cX4_workOut 196 = .ok (.getfield 60, 3) := by decide +kernel
theorem dX4_workOut_199 : decode cX4_workOut 199 = .ok (.iload_n 2, 1) := by decide +kernel
theorem dX4_workOut_200 : decode cX4_workOut 200 = .ok (.laload, 1) := by decide +kernel
theorem dX4_workOut_201 : decode cX4_workOut 201 = .ok (.ladd, 1) := by decide +kernel
theorem dX4_workOut_202 : decode cX4_workOut 202 = .ok (.lastore, 1) := by decide +kernel
theorem dX4_workOut_203 : decode cX4_workOut 203 = .ok (.return_, 1) := by decide +kernel
set_option maxRecDepth 20000 in
theorem ggX4_findWays_X4_countPlaces : GoodIn wsX4_findWays wsX4_countPlaces := goodIn_r _ [10, 1, 11, 12, 13, 14, 15, 16, 17, 18, 9, 19, 20, 21, 22, 58, 59, 60, 61, 62, 63, 64, 65, 66, 67, 68, 69, 70, 71, 72, 73, 74, 75, 76, 77, 78, 79, 80, 81, 82, 83, 84, 85, 86, 87, 88, 89] (by decide +kernel) (by decide +kernel)
set_option maxRecDepth 20000 in
theorem gX4_findWays_X4_countPlaces : GoodIn wsX4_findWays (wsV RX4 159 RX4 yX4_countPlaces wsX4_countPlaces) := goodIn_app (goodIn_of _ (by decide +kernel)) ggX4_findWays_X4_countPlaces
set_option maxRecDepth 20000 in
theorem ggX4_findWays_X4_isRound : GoodIn wsX4_findWays wsX4_isRound := goodIn_r _ [26, 1, 5, 27, 11, 28, 14, 29, 58, 59, 60, 61, 62, 63, 64, 65, 66, 67, 68, 69, 70, 71, 72, 73, 74, 75, 76, 77, 78, 79, 80, 81, 82, 83, 84, 85, 86, 87, 88, 89] (by decide +kernel) (by decide +kernel)
set_option maxRecDepth 20000 in
theorem gX4_findWays_X4_isRound : GoodIn wsX4_findWays (wsV RX4 163 RX4 yX4_isRound wsX4_isRound) := goodIn_app (goodIn_of _ (by decide +kernel)) ggX4_findWays_X4_isRound
