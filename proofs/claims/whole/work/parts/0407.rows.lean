set_option maxRecDepth 20000 in
theorem ggX4_goThrough_X4_touchNow : GoodIn wsX4_goThrough wsX4_touchNow := goodIn_r _ [13, 2, 14, 4, 1, 15, 16, 17, 12, 18, 19, 20, 21, 22, 23, 24, 25, 26, 27, 28, 29, 30, 31, 32, 33, 34, 35, 36, 37, 38, 39, 40, 41, 42, 43, 44, 45, 46, 47, 48, 49, 50, 51, 52] (by decide +kernel) (by decide +kernel)
set_option maxRecDepth 20000 in
theorem gX4_goThrough_X4_touchNow : GoodIn wsX4_goThrough (wsV RX4 129 RX4 yX4_touchNow wsX4_touchNow) := goodIn_app (goodIn_of _ (by decide +kernel)) ggX4_goThrough_X4_touchNow
theorem dX4_goThrough_0 : decode cX4_goThrough 0 = .ok (.iconst 0, 1) := by decide +kernel
theorem dX4_goThrough_1 : decode cX4_goThrough 1 = .ok (.istore_n 2, 1) := by decide +kernel
theorem dX4_goThrough_2 : decode cX4_goThrough 2 = .ok (.iload_n 2, 1) := by decide +kernel
theorem dX4_goThrough_3 : decode cX4_goThrough 3 = .ok (.aload_n 0, 1) := by decide +kernel
theorem dX4_goThrough_4 : decode cX4_goThrough 4 = .ok (.getfield 113, 3) := by decide +kernel
theorem dX4_goThrough_7 : decode cX4_goThrough 7 = .ok (.if_icmp .ge 43, 3) := by decide +kernel
theorem dX4_goThrough_10 : decode cX4_goThrough 10 = .ok (.aload_n 0, 1) := by decide +kernel
theorem dX4_goThrough_11 : decode cX4_goThrough 11 = .ok (.getfield 47, 3) := by decide +kernel
theorem dX4_goThrough_14 : decode cX4_goThrough 14 = .ok (.iload_n 2, 1) := by decide +kernel
theorem dX4_goThrough_15 : decode cX4_goThrough 15 = .ok (.aload_n 0, 1) := by decide +kernel
theorem dX4_goThrough_16 : decode cX4_goThrough 16 = .ok (.getfield 41, 3) := by decide +kernel
theorem dX4_goThrough_19 : decode cX4_goThrough 19 = .ok (.bipush 40, 2) := by decide +kernel
theorem dX4_goThrough_21 : decode cX4_goThrough 21 = .ok (.iload_n 1, 1) := by decide +kernel
theorem dX4_goThrough_22 : decode cX4_goThrough 22 = .ok (.imul, 1) := by decide +kernel
theorem dX4_goThrough_23 : decode cX4_goThrough 23 = .ok (.iload_n 2, 1) := by decide +kernel
theorem dX4_goThrough_24 : decode cX4_goThrough 24 = .ok (.iadd, 1) := by decide +kernel
theorem dX4_goThrough_25 : decode cX4_goThrough 25 = .ok (.iaload, 1) := by decide +kernel
theorem dX4_goThrough_26 : decode cX4_goThrough 26 = .ok (.iastore, 1) := by decide +kernel
theorem dX4_goThrough_27 : decode cX4_goThrough 27 = .ok (.aload_n 0, 1) := by decide +kernel
theorem dX4_goThrough_28 : decode cX4_goThrough 28 = .ok (.getfield 50, 3) := by decide +kernel
theorem dX4_goThrough_31 : decode cX4_goThrough 31 = .ok (.iload_n 2, 1) := by decide +kernel
theorem dX4_goThrough_32 : decode cX4_goThrough 32 = .ok (.aload_n 0, 1) := by decide +kernel
theorem dX4_goThrough_33 : decode cX4_goThrough 33 = .ok (.getfield 44, 3) := by decide +kernel
theorem dX4_goThrough_36 : decode cX4_goThrough 36 = .ok (.bipush 40, 2) := by decide +kernel
theorem dX4_goThrough_38 : decode cX4_goThrough 38 = .ok (.iload_n 1, 1) := by decide +kernel
theorem dX4_goThrough_39 : decode cX4_goThrough 39 = .ok (.imul, 1) := by decide +kernel
theorem dX4_goThrough_40 : decode cX4_goThrough 40 = .ok (.iload_n 2, 1) := by decide +kernel
theorem dX4_goThrough_41 : decode cX4_goThrough 41 = .ok (.iadd, 1) := by decide +kernel
theorem dX4_goThrough_42 : decode cX4_goThrough 42 = .ok (.iaload, 1) := by decide +kernel
theorem dX4_goThrough_43 : decode cX4_goThrough 43 = .ok (.iastore, 1) := by decide +kernel
theorem dX4_goThrough_44 : decode cX4_goThrough 44 = .ok (.iinc 2 1, 3) := by decide +kernel
theorem dX4_goThrough_47 : decode cX4_goThrough 47 = .ok (.goto (-45), 3) := by decide +kernel
theorem dX4_goThrough_50 : decode cX4_goThrough 50 = .ok (.bipush 6, 2) := by decide +kernel
theorem dX4_goThrough_52 : decode cX4_goThrough 52 = .ok (.iload_n 1, 1) := by decide +kernel
theorem dX4_goThrough_53 : decode cX4_goThrough 53 = .ok (.imul, 1) := by decide +kernel
theorem dX4_goThrough_54 : decode cX4_goThrough 54 = .ok (.istore_n 2, 1) := by decide +kernel
theorem dX4_goThrough_55 : decode cX4_goThrough 55 = .ok (.iload_n 2, 1) := by decide +kernel
theorem dX4_goThrough_56 : decode cX4_goThrough 56 = .ok (.bipush 6, 2) := by decide +kernel
theorem dX4_goThrough_58 : decode cX4_goThrough 58 = .ok (.iload_n 1, 1) := by decide +kernel
theorem dX4_goThrough_59 : decode cX4_goThrough 59 = .ok (.imul, 1) := by decide +kernel
theorem dX4_goThrough_60 : decode cX4_goThrough 60 = .ok (.aload_n 0, 1) := by decide +kernel
theorem dX4_goThrough_61 : decode cX4_goThrough 61 = .ok (.getfield 13, 3) := by decide +kernel
theorem dX4_goThrough_64 : decode cX4_goThrough 64 = .ok (.iload_n 1, 1) := by decide +kernel
theorem dX4_goThrough_65 : decode cX4_goThrough 65 = .ok (.iaload, 1) := by decide +kernel
theorem dX4_goThrough_66 : decode cX4_goThrough 66 = .ok (.iadd, 1) := by decide +kernel
theorem dX4_goThrough_67 : decode cX4_goThrough 67 = .ok (.if_icmp .ge 62, 3) := by decide +kernel
theorem dX4_goThrough_70 : decode cX4_goThrough 70 = .ok (.aload_n 0, 1) := by decide +kernel
theorem dX4_goThrough_71 : decode cX4_goThrough 71 = .ok (.getfield 53, 3) := by decide +kernel
theorem dX4_goThrough_74 : decode cX4_goThrough 74 = .ok (.iload_n 2, 1) := by decide +kernel
theorem dX4_goThrough_75 : decode cX4_goThrough 75 = .ok (.aload_n 0, 1) := by decide +kernel
theorem dX4_goThrough_76 : decode cX4_goThrough 76 = .ok (.getfield 47, 3) := by decide +kernel
theorem dX4_goThrough_79 : decode cX4_goThrough 79 = .ok (.aload_n 0, 1) := by decide +kernel
theorem dX4_goThrough_80 : decode cX4_goThrough 80 = .ok (.getfield 16, 3) := by decide +kernel
theorem dX4_goThrough_83 : decode cX4_goThrough 83 = .ok (.iload_n 2, 1) := by decide +kernel
theorem dX4_goThrough_84 : decode cX4_goThrough 84 = .ok (.iaload, 1) := by decide +kernel
theorem dX4_goThrough_85 : decode cX4_goThrough 85 = .ok (.iaload, 1) := by decide +kernel
theorem dX4_goThrough_86 : decode cX4_goThrough 86 = .ok (.ifCond .lt 7, 3) := by decide +kernel
theorem dX4_goThrough_89 : decode cX4_goThrough 89 = .ok (.iconst 1, 1) := by decide +kernel
theorem dX4_goThrough_90 : decode cX4_goThrough 90 = .ok (.goto 22, 3) := by decide +kernel
theorem dX4_goThrough_93 : decode cX4_goThrough 93 = .ok (.aload_n 0, 1) := by decide +kernel
theorem dX4_goThrough_94 : decode cX4_goThrough 94 = .ok (.getfield 50, 3) := by decide +kernel
theorem dX4_goThrough_97 : decode cX4_goThrough 97 = .ok (.aload_n 0, 1) := by decide +kernel
theorem dX4_goThrough_98 : decode cX4_goThrough 98 = .ok (.getfield 16, 3) := by decide +kernel
theorem dX4_goThrough_101 : decode cX4_goThrough 101 = .ok (.iload_n 2, 1) := by decide +kernel
theorem dX4_goThrough_102 : decode cX4_goThrough 102 = .ok (.iaload, 1) := by decide +kernel
theorem dX4_goThrough_103 : decode cX4_goThrough 103 = .ok (.iaload, 1) := by decide +kernel
theorem dX4_goThrough_104 : decode cX4_goThrough 104 = .ok (.ifCond .ge 7, 3) := by decide +kernel
theorem dX4_goThrough_107 : decode cX4_goThrough 107 = .ok (.iconst 2, 1) := by decide +kernel
theorem dX4_goThrough_108 : decode cX4_goThrough 108 = .ok (.goto 4, 3) := by decide +kernel
theorem dX4_goThrough_111 : decode cX4_goThrough 111 = .ok (.iconst 0, 1) := by decide +kernel
theorem dX4_goThrough_112 : decode cX4_goThrough 112 = .ok (.iastore, 1) := by decide +kernel
theorem dX4_goThrough_113 : decode cX4_goThrough 113 = .ok (.aload_n 0, 1) := by decide +kernel
theorem dX4_goThrough_114 : decode cX4_goThrough 114 = .ok (.aload_n 0, 1) := by decide +kernel
theorem dX4_goThrough_115 : decode cX4_goThrough 115 = .ok (.getfield 16, 3) := by decide +kernel
theorem dX4_goThrough_118 : decode cX4_goThrough 118 = .ok (.iload_n 2, 1) := by decide +kernel
theorem dX4_goThrough_119 : decode cX4_goThrough 119 = .ok (.iaload, 1) := by decide +kernel
theorem dX4_goThrough_120 : decode cX4_goThrough 120 = .ok (.invokevirtual 129, 3) := by decide +kernel
theorem dX4_goThrough_123 : decode cX4_goThrough 123 = .ok (.iinc 2 1, 3) := by decide +kernel
theorem dX4_goThrough_126 : decode cX4_goThrough 126 = .ok (.goto (-71), 3) := by decide +kernel
theorem dX4_goThrough_129 : decode cX4_goThrough 129 = .ok (.return_, 1) := by decide +kernel
theorem dX4_meet_0 : decode cX4_meet 0 = .ok (.aload_n 0, 1) := by decide +kernel
theorem dX4_meet_1 : decode cX4_meet 1 = .ok (.getfield 37, 3) := by decide +kernel
theorem dX4_meet_4 : decode cX4_meet 4 = .ok (.iload_n 1, 1) := by decide +kernel
theorem dX4_meet_5 : decode cX4_meet 5 = .ok (.baload, 1) := by decide +kernel
theorem dX4_meet_6 : decode cX4_meet 6 = .ok (.ifCond .ne 7, 3) := by decide +kernel
theorem dX4_meet_9 : decode cX4_meet 9 = .ok (.iconst 1, 1) := by decide +kernel
theorem dX4_meet_10 : decode cX4_meet 10 = .ok (.goto 4, 3) := by decide +kernel
theorem dX4_meet_13 : decode cX4_meet 13 = .ok (.iconst 0, 1) := by decide +kernel
theorem dX4_meet_14 : decode cX4_meet 14 = .ok (.istore_n 2, 1) := by decide +kernel
theorem dX4_meet_15 : decode cX4_meet 15 = .ok (.iconst 0, 1) := by decide +kernel
theorem dX4_meet_16 : decode cX4_meet 16 = .ok (.istore_n 3, 1) := by decide +kernel
theorem dX4_meet_17 : decode cX4_meet 17 = .ok (.iload_n 3, 1) := by decide +kernel
theorem dX4_meet_18 : decode cX4_meet 18 = .ok (.aload_n 0, 1) := by decide +kernel
theorem dX4_meet_19 : decode cX4_meet 19 = .ok (.getfield 113, 3) := by decide +kernel
theorem dX4_meet_22 : decode cX4_meet 22 = .ok (.if_icmp .ge 224, 3) := by decide +kernel
theorem dX4_meet_25 : decode cX4_meet 25 = .ok (.bipush 40, 2) := by decide +kernel
theorem dX4_meet_27 : decode cX4_meet 27 = .ok (.iload_n 1, 1) := by decide +kernel
theorem dX4_meet_28 : decode cX4_meet 28 = .ok (.imul, 1) := by decide +kernel
theorem dX4_meet_29 : decode cX4_meet 29 = .ok (.iload_n 3, 1) := by decide +kernel
theorem dX4_meet_30 : decode cX4_meet 30 = .ok (.iadd, 1) := by decide +kernel
theorem dX4_meet_31 : decode cX4_meet 31 = .ok (.istore 4, 2) := by decide +kernel
theorem dX4_meet_33 : decode cX4_meet 33 = .ok (.aload_n 0, 1) := by decide +kernel
theorem dX4_meet_34 : decode cX4_meet 34 = .ok (.getfield 37, 3) := by decide +kernel
theorem dX4_meet_37 : decode cX4_meet 37 = .ok (.iload_n 1, 1) := by decide +kernel
theorem dX4_meet_38 : decode cX4_meet 38 = .ok (.baload, 1) := by decide +kernel
theorem dX4_meet_39 : decode cX4_meet 39 = .ok (.ifCond .ne 12, 3) := by decide +kernel
theorem dX4_meet_42 : decode cX4_meet 42 = .ok (.aload_n 0, 1) := by decide +kernel
theorem dX4_meet_43 : decode cX4_meet 43 = .ok (.getfield 47, 3) := by decide +kernel
theorem dX4_meet_46 : decode cX4_meet 46 = .ok (.iload_n 3, 1) := by decide +kernel
theorem dX4_meet_47 : decode cX4_meet 47 = .ok (.iaload, 1) := by decide +kernel
theorem dX4_meet_48 : decode cX4_meet 48 = .ok (.goto 58, 3) := by decide +kernel
theorem dX4_meet_51 : decode cX4_meet 51 = .ok (.aload_n 0, 1) := by decide +kernel
theorem dX4_meet_52 : decode cX4_meet 52 = .ok (.getfield 41, 3) := by decide +kernel
theorem dX4_meet_55 : decode cX4_meet 55 = .ok (.iload 4, 2) := by decide +kernel
theorem dX4_meet_57 : decode cX4_meet 57 = .ok (.iaload, 1) := by decide +kernel
theorem dX4_meet_58 : decode cX4_meet 58 = .ok (.ifCond .lt 12, 3) := by decide +kernel
theorem dX4_meet_61 : decode cX4_meet 61 = .ok (.aload_n 0, 1) := by decide +kernel
theorem dX4_meet_62 : decode cX4_meet 62 = .ok (.getfield 47, 3) := by decide +kernel
theorem dX4_meet_65 : decode cX4_meet 65 = .ok (.iload_n 3, 1) := by decide +kernel
theorem dX4_meet_66 : decode cX4_meet 66 = .ok (.iaload, 1) := by decide +kernel
theorem dX4_meet_67 : decode cX4_meet 67 = .ok (.ifCond .ge 7, 3) := by decide +kernel
theorem dX4_meet_70 : decode cX4_meet 70 = .ok (.iconst (-1), 1) := by decide +kernel
theorem dX4_meet_71 : decode cX4_meet 71 = .ok (.goto 35, 3) := by decide +kernel
theorem dX4_meet_74 : decode cX4_meet 74 = .ok (.aload_n 0, 1) := by decide +kernel
theorem dX4_meet_75 : decode cX4_meet 75 = .ok (.getfield 41, 3) := by decide +kernel
theorem dX4_meet_78 : decode cX4_meet 78 = .ok (.iload 4, 2) := by decide +kernel
theorem dX4_meet_80 : decode cX4_meet 80 = .ok (.iaload, 1) := by decide +kernel
theorem dX4_meet_81 : decode cX4_meet 81 = .ok (.aload_n 0, 1) := by decide +kernel
theorem dX4_meet_82 : decode cX4_meet 82 = .ok (.getfield 47, 3) := by decide +kernel
theorem dX4_meet_85 : decode cX4_meet 85 = .ok (.iload_n 3, 1) := by decide +kernel
theorem dX4_meet_86 : decode cX4_meet 86 = .ok (.iaload, 1) := by decide +kernel
theorem dX4_meet_87 : decode cX4_meet 87 = .ok (.if_icmp .le 13, 3) := by decide +kernel
theorem dX4_meet_90 : decode cX4_meet 90 = .ok (.aload_n 0, 1) := by decide +kernel
theorem dX4_meet_91 : decode cX4_meet 91 = .ok (.getfield 41, 3) := by decide +kernel
theorem dX4_meet_94 : decode cX4_meet 94 = .ok (.iload 4, 2) := by decide +kernel
theorem dX4_meet_96 : decode cX4_meet 96 = .ok (.iaload, 1) := by decide +kernel
theorem dX4_meet_97 : decode cX4_meet 97 = .ok (.goto 9, 3) := by decide +kernel
theorem dX4_meet_100 : decode cX4_meet 100 = .ok (.aload_n 0, 1) := by decide +kernel
theorem dX4_meet_101 : decode cX4_meet 101 = .ok (.getfield 47, 3) := by decide +kernel
theorem dX4_meet_104 : decode cX4_meet 104 = .ok (.iload_n 3, 1) := by decide +kernel
theorem dX4_meet_105 : decode cX4_meet 105 = .ok (.iaload, 1) := by decide +kernel
theorem dX4_meet_106 : decode cX4_meet 106 = .ok (.istore 5, 2) := by decide +kernel
theorem dX4_meet_108 : decode cX4_meet 108 = .ok (.aload_n 0, 1) := by decide +kernel
theorem dX4_meet_109 : decode cX4_meet 109 = .ok (.getfield 37, 3) := by decide +kernel
theorem dX4_meet_112 : decode cX4_meet 112 = .ok (.iload_n 1, 1) := by decide +kernel
theorem dX4_meet_113 : decode cX4_meet 113 = .ok (.baload, 1) := by decide +kernel
theorem dX4_meet_114 : decode cX4_meet 114 = .ok (.ifCond .ne 12, 3) := by decide +kernel
theorem dX4_meet_117 : decode cX4_meet 117 = .ok (.aload_n 0, 1) := by decide +kernel
theorem dX4_meet_118 : decode cX4_meet 118 = .ok (.getfield 50, 3) := by decide +kernel
theorem dX4_meet_121 : decode cX4_meet 121 = .ok (.iload_n 3, 1) := by decide +kernel
theorem dX4_meet_122 : decode cX4_meet 122 = .ok (.iaload, 1) := by decide +kernel
theorem dX4_meet_123 : decode cX4_meet 123 = .ok (.goto 63, 3) := by decide +kernel
theorem dX4_meet_126 : decode cX4_meet 126 = .ok (.aload_n 0, 1) := by decide +kernel
theorem dX4_meet_127 : decode cX4_meet 127 = .ok (.getfield 44, 3) := by decide +kernel
theorem dX4_meet_130 : decode cX4_meet 130 = .ok (.iload 4, 2) := by decide +kernel
theorem dX4_meet_132 : decode cX4_meet 132 = .ok (.iaload, 1) := by decide +kernel
theorem dX4_meet_133 : decode cX4_meet 133 = .ok (.ifCond .ge 12, 3) := by decide +kernel
theorem dX4_meet_136 : decode cX4_meet 136 = .ok (.aload_n 0, 1) := by decide +kernel
theorem dX4_meet_137 : decode cX4_meet 137 = .ok (.getfield 50, 3) := by decide +kernel
theorem dX4_meet_140 : decode cX4_meet 140 = .ok (.iload_n 3, 1) := by decide +kernel
theorem dX4_meet_141 : decode cX4_meet 141 = .ok (.iaload, 1) := by decide +kernel
theorem dX4_meet_142 : decode cX4_meet 142 = .ok (.goto 44, 3) := by decide +kernel
theorem dX4_meet_145 : decode cX4_meet 145 = .ok (.aload_n 0, 1) := by decide +kernel
theorem dX4_meet_146 : decode cX4_meet 146 = .ok (.getfield 50, 3) := by decide +kernel
theorem dX4_meet_149 : decode cX4_meet 149 = .ok (.iload_n 3, 1) := by decide +kernel
theorem dX4_meet_150 : decode cX4_meet 150 = .ok (.iaload, 1) := by decide +kernel
theorem dX4_meet_151 : decode cX4_meet 151 = .ok (.ifCond .lt 19, 3) := by decide +kernel
theorem dX4_meet_154 : decode cX4_meet 154 = .ok (.aload_n 0, 1) := by decide +kernel
theorem dX4_meet_155 : decode cX4_meet 155 = .ok (.getfield 44, 3) := by decide +kernel
theorem dX4_meet_158 : decode cX4_meet 158 = .ok (.iload 4, 2) := by decide +kernel
theorem dX4_meet_160 : decode cX4_meet 160 = .ok (.iaload, 1) := by decide +kernel
theorem dX4_meet_161 : decode cX4_meet 161 = .ok (.aload_n 0, 1) := by decide +kernel
theorem dX4_meet_162 : decode cX4_meet 162 = .ok (.getfield 50, 3) := by decide +kernel
theorem dX4_meet_165 : decode cX4_meet 165 = .ok (.iload_n 3, 1) := by decide +kernel
theorem dX4_meet_166 : decode cX4_meet 166 = .ok (.iaload, 1) := by decide +kernel
theorem dX4_meet_167 : decode cX4_meet 167 = .ok (.if_icmp .ge 13, 3) := by decide +kernel
theorem dX4_meet_170 : decode cX4_meet 170 = .ok (.aload_n 0, 1) := by decide +kernel
theorem dX4_meet_171 : decode cX4_meet 171 = .ok (.getfield 44, 3) := by decide +kernel
theorem dX4_meet_174 : decode cX4_meet 174 = .ok (.iload 4, 2) := by decide +kernel
theorem dX4_meet_176 : decode cX4_meet 176 = .ok (.iaload, 1) := by decide +kernel
theorem dX4_meet_177 : decode cX4_meet 177 = .ok (.goto 9, 3) := by decide +kernel
theorem dX4_meet_180 : decode cX4_meet 180 = .ok (.aload_n 0, 1) := by decide +kernel
theorem dX4_meet_181 : decode cX4_meet 181 = .ok (.getfield 50, 3) := by decide +kernel
theorem dX4_meet_184 : decode cX4_meet 184 = .ok (.iload_n 3, 1) := by decide +kernel
theorem dX4_meet_185 : decode cX4_meet 185 = .ok (.iaload, 1) := by decide +kernel
theorem dX4_meet_186 : decode cX4_meet 186 = .ok (.istore 6, 2) := by decide +kernel
theorem dX4_meet_188 : decode cX4_meet 188 = .ok (.iload_n 2, 1) := by decide +kernel
theorem dX4_meet_189 : decode cX4_meet 189 = .ok (.ifCond .ne 27, 3) := by decide +kernel
theorem dX4_meet_192 : decode cX4_meet 192 = .ok (.iload 5, 2) := by decide +kernel
theorem dX4_meet_194 : decode cX4_meet 194 = .ok (.aload_n 0, 1) := by decide +kernel
theorem dX4_meet_195 : decode cX4_meet 195 = .ok (.getfield 41, 3) := by decide +kernel
theorem dX4_meet_198 : decode cX4_meet 198 = .ok (.iload 4, 2) := by decide +kernel
theorem dX4_meet_200 : decode cX4_meet 200 = .ok (.iaload, 1) := by decide +kernel
theorem dX4_meet_201 : decode cX4_meet 201 = .ok (.if_icmp .ne 15, 3) := by decide +kernel
theorem dX4_meet_204 : decode cX4_meet 204 = .ok (.iload 6, 2) := by decide +kernel
theorem dX4_meet_206 : decode cX4_meet 206 = .ok (.aload_n 0, 1) := by decide +kernel
theorem dX4_meet_207 : decode cX4_meet 207 = .ok (.getfield 44, 3) := by decide +kernel
theorem dX4_meet_210 : decode cX4_meet 210 = .ok (.iload 4, 2) := by decide +kernel
theorem dX4_meet_212 : decode cX4_meet 212 = .ok (.iaload, 1) := by decide +kernel
theorem dX4_meet_213 : decode cX4_meet 213 = .ok (.if_icmp .eq 7, 3) := by decide +kernel
theorem dX4_meet_216 : decode cX4_meet 216 = .ok (.iconst 1, 1) := by decide +kernel
theorem dX4_meet_217 : decode cX4_meet 217 = .ok (.goto 4, 3) := by decide +kernel
theorem dX4_meet_220 : decode cX4_meet 220 = .ok (.iconst 0, 1) := by decide +kernel
theorem dX4_meet_221 : decode cX4_meet 221 = .ok (.istore_n 2, 1) := by decide +kernel
theorem dX4_meet_222 : decode cX4_meet 222 = .ok (.aload_n 0, 1) := by decide +kernel
theorem dX4_meet_223 : decode cX4_meet 223 = .ok (.getfield 41, 3) := by decide +kernel
theorem dX4_meet_226 : decode cX4_meet 226 = .ok (.iload 4, 2) := by decide +kernel
theorem dX4_meet_228 : decode cX4_meet 228 = .ok (.iload 5, 2) := by decide +kernel
theorem dX4_meet_230 : decode cX4_meet 230 = .ok (.iastore, 1) := by decide +kernel
theorem dX4_meet_231 : decode cX4_meet 231 = .ok (.aload_n 0, 1) := by decide +kernel
theorem dX4_meet_232 : decode cX4_meet 232 = .ok (.getfield 44, 3) := by decide +kernel
theorem dX4_meet_235 : decode cX4_meet 235 = .ok (.iload 4, 2) := by decide +kernel
theorem dX4_meet_237 : decode cX4_meet 237 = .ok (.iload 6, 2) := by decide +kernel
theorem dX4_meet_239 : decode cX4_meet 239 = .ok (.iastore, 1) := by decide +kernel
theorem dX4_meet_240 : decode cX4_meet 240 = .ok (.iinc 3 1, 3) := by decide +kernel
theorem dX4_meet_243 : decode cX4_meet 243 = .ok (.goto (-226), 3) := by decide +kernel
theorem dX4_meet_246 : decode cX4_meet 246 = .ok (.aload_n 0, 1) := by decide +kernel
theorem dX4_meet_247 : decode cX4_meet 247 = .ok (.getfield 37, 3) := by decide +kernel
theorem dX4_meet_250 : decode cX4_meet 250 = .ok (.iload_n 1, 1) := by decide +kernel
theorem dX4_meet_251 : decode cX4_meet 251 = .ok (.iconst 1, 1) := by decide +kernel
theorem dX4_meet_252 : decode cX4_meet 252 = .ok (.bastore, 1) := by decide +kernel
theorem dX4_meet_253 : decode cX4_meet 253 = .ok (.iload_n 2, 1) := by decide +kernel
theorem dX4_meet_254 : decode cX4_meet 254 = .ok (.ireturn, 1) := by decide +kernel
set_option maxRecDepth 20000 in
theorem ggX4_findAges_X4_meet : GoodIn wsX4_findAges wsX4_meet := goodIn_r _ [18, 1, 19, 2, 20, 3, 21, 38, 39, 40, 41, 42, 43, 44, 45, 46, 47, 48, 49, 50, 51, 52, 53, 54, 55, 56, 57, 58, 59, 60, 61, 62, 63, 64, 65, 66, 67, 68, 69] (by decide +kernel) (by decide +kernel)
set_option maxRecDepth 20000 in
theorem gX4_findAges_X4_meet : GoodIn wsX4_findAges (wsV RX4 133 RX4 yX4_meet wsX4_meet) := goodIn_app (goodIn_of _ (by decide +kernel)) ggX4_findAges_X4_meet
set_option maxRecDepth 20000 in
theorem ggX4_findAges_X4_goThrough : GoodIn wsX4_findAges wsX4_goThrough := goodIn_r _ [25, 19, 2, 20, 3, 21, 11, 12, 26, 27, 28, 29, 17, 30, 31, 32, 33, 34, 35, 36, 37, 38, 39, 40, 41, 42, 43, 44, 45, 46, 47, 48, 49, 50, 51, 52, 53, 54, 55, 56, 57, 58, 59, 60, 61, 62, 63, 64, 65, 66, 67, 68, 69] (by decide +kernel) (by decide +kernel)
set_option maxRecDepth 20000 in
theorem gX4_findAges_X4_goThrough : GoodIn wsX4_findAges (wsV RX4 137 RX4 yX4_goThrough wsX4_goThrough) := goodIn_app (goodIn_of _ (by decide +kernel)) ggX4_findAges_X4_goThrough
theorem dX4_findAges_0 : decode cX4_findAges 0 = .ok (.iconst 0, 1) := by decide +kernel
theorem dX4_findAges_1 : decode cX4_findAges 1 = .ok (.istore_n 1, 1) := by decide +kernel
theorem dX4_findAges_2 : decode cX4_findAges 2 = .ok (.iload_n 1, 1) := by decide +kernel
theorem dX4_findAges_3 : decode cX4_findAges 3 = .ok (.bipush 40, 2) := by decide +kernel
theorem dX4_findAges_5 : decode cX4_findAges 5 = .ok (.if_icmp .ge 16, 3) := by decide +kernel
theorem dX4_findAges_8 : decode cX4_findAges 8 = .ok (.aload_n 0, 1) := by decide +kernel
theorem dX4_findAges_9 : decode cX4_findAges 9 = .ok (.getfield 37, 3) := by decide +kernel
theorem dX4_findAges_12 : decode cX4_findAges 12 = .ok (.iload_n 1, 1) := by decide +kernel
theorem dX4_findAges_13 : decode cX4_findAges 13 = .ok (.iconst 0, 1) := by decide +kernel
theorem dX4_findAges_14 : decode cX4_findAges 14 = .ok (.bastore, 1) := by decide +kernel
theorem dX4_findAges_15 : decode cX4_findAges 15 = .ok (.iinc 1 1, 3) := by decide +kernel
theorem dX4_findAges_18 : decode cX4_findAges 18 = .ok (.goto (-16), 3) := by decide +kernel
theorem dX4_findAges_21 : decode cX4_findAges 21 = .ok (.iconst 0, 1) := by decide +kernel
theorem dX4_findAges_22 : decode cX4_findAges 22 = .ok (.istore_n 1, 1) := by decide +kernel
theorem dX4_findAges_23 : decode cX4_findAges 23 = .ok (.iload_n 1, 1) := by decide +kernel
theorem dX4_findAges_24 : decode cX4_findAges 24 = .ok (.bipush 40, 2) := by decide +kernel
theorem dX4_findAges_26 : decode cX4_findAges 26 = .ok (.if_icmp .ge 23, 3) := by decide +kernel
theorem dX4_findAges_29 : decode cX4_findAges 29 = .ok (.aload_n 0, 1) := by decide +kernel
theorem dX4_findAges_30 : decode cX4_findAges 30 = .ok (.getfield 47, 3) := by decide +kernel
theorem dX4_findAges_33 : decode cX4_findAges 33 = .ok (.iload_n 1, 1) := by decide +kernel
theorem dX4_findAges_34 : decode cX4_findAges 34 = .ok (.iconst (-1), 1) := by decide +kernel
theorem dX4_findAges_35 : decode cX4_findAges 35 = .ok (.iastore, 1) := by decide +kernel
theorem dX4_findAges_36 : decode cX4_findAges 36 = .ok (.aload_n 0, 1) := by decide +kernel
theorem dX4_findAges_37 : decode cX4_findAges 37 = .ok (.getfield 50, 3) := by decide +kernel
theorem dX4_findAges_40 : decode cX4_findAges 40 = .ok (.iload_n 1, 1) := by decide +kernel
theorem dX4_findAges_41 : decode cX4_findAges 41 = .ok (.iconst (-1), 1) := by decide +kernel
theorem dX4_findAges_42 : decode cX4_findAges 42 = .ok (.iastore, 1) := by decide +kernel
theorem dX4_findAges_43 : decode cX4_findAges 43 = .ok (.iinc 1 1, 3) := by decide +kernel
theorem dX4_findAges_46 : decode cX4_findAges 46 = .ok (.goto (-23), 3) := by decide +kernel
theorem dX4_findAges_49 : decode cX4_findAges 49 = .ok (.aload_n 0, 1) := by decide +kernel
theorem dX4_findAges_50 : decode cX4_findAges 50 = .ok (.getfield 106, 3) := by decide +kernel
theorem dX4_findAges_53 : decode cX4_findAges 53 = .ok (.ifCond .le 15, 3) := by decide +kernel
theorem dX4_findAges_56 : decode cX4_findAges 56 = .ok (.aload_n 0, 1) := by decide +kernel
theorem dX4_findAges_57 : decode cX4_findAges 57 = .ok (.iconst 0, 1) := by decide +kernel
theorem dX4_findAges_58 : decode cX4_findAges 58 = .ok (.invokevirtual 133, 3) := by decide +kernel
theorem dX4_findAges_61 : decode cX4_findAges 61 = .ok (.ifCond .eq 7, 3) := by decide +kernel
theorem dX4_findAges_64 : decode cX4_findAges 64 = .ok (.iconst 1, 1) := by decide +kernel
theorem dX4_findAges_65 : decode cX4_findAges 65 = .ok (.goto 4, 3) := by decide +kernel
theorem dX4_findAges_68 : decode cX4_findAges 68 = .ok (.iconst 0, 1) := by decide +kernel
theorem dX4_findAges_69 : decode cX4_findAges 69 = .ok (.istore_n 1, 1) := by decide +kernel
theorem dX4_findAges_70 : decode cX4_findAges 70 = .ok (.iload_n 1, 1) := by decide +kernel
theorem dX4_findAges_71 : decode cX4_findAges 71 = .ok (.ifCond .eq 71, 3) := by decide +kernel
theorem dX4_findAges_74 : decode cX4_findAges 74 = .ok (.iconst 0, 1) := by decide +kernel
theorem dX4_findAges_75 : decode cX4_findAges 75 = .ok (.istore_n 1, 1) := by decide +kernel
theorem dX4_findAges_76 : decode cX4_findAges 76 = .ok (.iconst 0, 1) := by decide +kernel
theorem dX4_findAges_77 : decode cX4_findAges 77 = .ok (.istore_n 2, 1) := by decide +kernel
theorem dX4_findAges_78 : decode cX4_findAges 78 = .ok (.iload_n 2, 1) := by decide +kernel
theorem dX4_findAges_79 : decode cX4_findAges 79 = .ok (.aload_n 0, 1) := by decide +kernel
theorem dX4_findAges_80 : decode cX4_findAges 80 = .ok (.getfield 119, 3) := by decide +kernel
theorem dX4_findAges_83 : decode cX4_findAges 83 = .ok (.if_icmp .ge 56, 3) := by decide +kernel
theorem dX4_findAges_86 : decode cX4_findAges 86 = .ok (.aload_n 0, 1) := by decide +kernel
theorem dX4_findAges_87 : decode cX4_findAges 87 = .ok (.getfield 37, 3) := by decide +kernel
theorem dX4_findAges_90 : decode cX4_findAges 90 = .ok (.aload_n 0, 1) := by decide +kernel
