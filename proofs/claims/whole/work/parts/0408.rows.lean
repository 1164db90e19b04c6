theorem dX4_findAges_91 : decode cX4_findAges 91 = .ok (.getfield 22, 3) := by decide +kernel
theorem dX4_findAges_94 : decode cX4_findAges 94 = .ok (.iload_n 2, 1) := by decide +kernel
theorem dX4_findAges_95 : decode cX4_findAges 95 = .ok (.iaload, 1) := by decide +kernel
theorem dX4_findAges_96 : decode cX4_findAges 96 = .ok (.baload, 1) := by decide +kernel
theorem dX4_findAges_97 : decode cX4_findAges 97 = .ok (.ifCond .eq 36, 3) := by decide +kernel
theorem dX4_findAges_100 : decode cX4_findAges 100 = .ok (.aload_n 0, 1) := by decide +kernel
theorem dX4_findAges_101 : decode cX4_findAges 101 = .ok (.aload_n 0, 1) := by decide +kernel
theorem dX4_findAges_102 : decode cX4_findAges 102 = .ok (.getfield 22, 3) := by decide +kernel
theorem dX4_findAges_105 : decode cX4_findAges 105 = .ok (.iload_n 2, 1) := by decide +kernel
theorem dX4_findAges_106 : decode cX4_findAges 106 = .ok (.iaload, 1) := by decide +kernel
theorem dX4_findAges_107 : decode cX4_findAges 107 = .ok (.invokevirtual 137, 3) := by decide +kernel
theorem dX4_findAges_110 : decode cX4_findAges 110 = .ok (.aload_n 0, 1) := by decide +kernel
theorem dX4_findAges_111 : decode cX4_findAges 111 = .ok (.aload_n 0, 1) := by decide +kernel
theorem dX4_findAges_112 : decode cX4_findAges 112 = .ok (.getfield 25, 3) := by decide +kernel
theorem dX4_findAges_115 : decode cX4_findAges 115 = .ok (.iload_n 2, 1) := by decide +kernel
theorem dX4_findAges_116 : decode cX4_findAges 116 = .ok (.iaload, 1) := by decide +kernel
theorem dX4_findAges_117 : decode cX4_findAges 117 = .ok (.invokevirtual 133, 3) := by decide +kernel
theorem dX4_findAges_120 : decode cX4_findAges 120 = .ok (.ifCond .ne 7, 3) := by decide +kernel
theorem dX4_findAges_123 : decode cX4_findAges 123 = .ok (.iload_n 1, 1) := by decide +kernel
theorem dX4_findAges_124 : decode cX4_findAges 124 = .ok (.ifCond .eq 7, 3) := by decide +kernel
theorem dX4_findAges_127 : decode cX4_findAges 127 = .ok (.iconst 1, 1) := by decide +kernel
theorem dX4_findAges_128 : decode cX4_findAges 128 = .ok (.goto 4, 3) := by decide +kernel
theorem dX4_findAges_131 : decode cX4_findAges 131 = .ok (.iconst 0, 1) := by decide +kernel
theorem dX4_findAges_132 : decode cX4_findAges 132 = .ok (.istore_n 1, 1) := by decide +kernel
theorem dX4_findAges_133 : decode cX4_findAges 133 = .ok (.iinc 2 1, 3) := by decide +kernel
theorem dX4_findAges_136 : decode cX4_findAges 136 = .ok (.goto (-58), 3) := by decide +kernel
theorem dX4_findAges_139 : decode cX4_findAges 139 = .ok (.goto (-69), 3) := by decide +kernel
theorem dX4_findAges_142 : decode cX4_findAges 142 = .ok (.iconst 0, 1) := by decide +kernel
theorem dX4_findAges_143 : decode cX4_findAges 143 = .ok (.istore_n 2, 1) := by decide +kernel
theorem dX4_findAges_144 : decode cX4_findAges 144 = .ok (.iload_n 2, 1) := by decide +kernel
theorem dX4_findAges_145 : decode cX4_findAges 145 = .ok (.aload_n 0, 1) := by decide +kernel
theorem dX4_findAges_146 : decode cX4_findAges 146 = .ok (.getfield 106, 3) := by decide +kernel
theorem dX4_findAges_149 : decode cX4_findAges 149 = .ok (.if_icmp .ge 165, 3) := by decide +kernel
theorem dX4_findAges_152 : decode cX4_findAges 152 = .ok (.aload_n 0, 1) := by decide +kernel
theorem dX4_findAges_153 : decode cX4_findAges 153 = .ok (.getfield 56, 3) := by decide +kernel
theorem dX4_findAges_156 : decode cX4_findAges 156 = .ok (.iload_n 2, 1) := by decide +kernel
theorem dX4_findAges_157 : decode cX4_findAges 157 = .ok (.aload_n 0, 1) := by decide +kernel
theorem dX4_findAges_158 : decode cX4_findAges 158 = .ok (.getfield 7, 3) := by decide +kernel
theorem dX4_findAges_161 : decode cX4_findAges 161 = .ok (.iload_n 2, 1) := by decide +kernel
theorem dX4_findAges_162 : decode cX4_findAges 162 = .ok (.iaload, 1) := by decide +kernel
theorem dX4_findAges_163 : decode cX4_findAges 163 = .ok (.i2l, 1) := by decide +kernel
theorem dX4_findAges_164 : decode cX4_findAges 164 = .ok (.lastore, 1) := by decide +kernel
theorem dX4_findAges_165 : decode cX4_findAges 165 = .ok (.aload_n 0, 1) := by decide +kernel
theorem dX4_findAges_166 : decode cX4_findAges 166 = .ok (.getfield 60, 3) := by decide +kernel
theorem dX4_findAges_169 : decode cX4_findAges 169 = .ok (.iload_n 2, 1) := by decide +kernel
theorem dX4_findAges_170 : decode cX4_findAges 170 = .ok (.aload_n 0, 1) := by decide +kernel
theorem dX4_findAges_171 : decode cX4_findAges 171 = .ok (.getfield 7, 3) := by decide +kernel
theorem dX4_findAges_174 : decode cX4_findAges 174 = .ok (.iload_n 2, 1) := by decide +kernel
theorem dX4_findAges_175 : decode cX4_findAges 175 = .ok (.iaload, 1) := by decide +kernel
theorem dX4_findAges_176 : decode cX4_findAges 176 = .ok (.i2l, 1) := by decide +kernel
theorem dX4_findAges_177 : decode cX4_findAges 177 = .ok (.lastore, 1) := by decide +kernel
theorem dX4_findAges_178 : decode cX4_findAges 178 = .ok (.aload_n 0, 1) := by decide +kernel
theorem dX4_findAges_179 : decode cX4_findAges 179 = .ok (.getfield 37, 3) := by decide +kernel
theorem dX4_findAges_182 : decode cX4_findAges 182 = .ok (.iload_n 2, 1) := by decide +kernel
theorem dX4_findAges_183 : decode cX4_findAges 183 = .ok (.baload, 1) := by decide +kernel
theorem dX4_findAges_184 : decode cX4_findAges 184 = .ok (.ifCond .eq 8, 3) := by decide +kernel
theorem dX4_findAges_187 : decode cX4_findAges 187 = .ok (.aload_n 0, 1) := by decide +kernel
theorem dX4_findAges_188 : decode cX4_findAges 188 = .ok (.iload_n 2, 1) := by decide +kernel
theorem dX4_findAges_189 : decode cX4_findAges 189 = .ok (.invokevirtual 137, 3) := by decide +kernel
theorem dX4_findAges_192 : decode cX4_findAges 192 = .ok (.bipush 6, 2) := by decide +kernel
theorem dX4_findAges_194 : decode cX4_findAges 194 = .ok (.iload_n 2, 1) := by decide +kernel
theorem dX4_findAges_195 : decode cX4_findAges 195 = .ok (.imul, 1) := by decide +kernel
theorem dX4_findAges_196 : decode cX4_findAges 196 = .ok (.istore_n 3, 1) := by decide +kernel
theorem dX4_findAges_197 : decode cX4_findAges 197 = .ok (.iload_n 3, 1) := by decide +kernel
theorem dX4_findAges_198 : decode cX4_findAges 198 = .ok (.bipush 6, 2) := by decide +kernel
theorem dX4_findAges_200 : decode cX4_findAges 200 = .ok (.iload_n 2, 1) := by decide +kernel
theorem dX4_findAges_201 : decode cX4_findAges 201 = .ok (.imul, 1) := by decide +kernel
theorem dX4_findAges_202 : decode cX4_findAges 202 = .ok (.aload_n 0, 1) := by decide +kernel
theorem dX4_findAges_203 : decode cX4_findAges 203 = .ok (.getfield 13, 3) := by decide +kernel
theorem dX4_findAges_206 : decode cX4_findAges 206 = .ok (.iload_n 2, 1) := by decide +kernel
theorem dX4_findAges_207 : decode cX4_findAges 207 = .ok (.iaload, 1) := by decide +kernel
theorem dX4_findAges_208 : decode cX4_findAges 208 = .ok (.iadd, 1) := by decide +kernel
theorem dX4_findAges_209 : decode cX4_findAges 209 = .ok (.if_icmp .ge 99, 3) := by decide +kernel
theorem dX4_findAges_212 : decode cX4_findAges 212 = .ok (.aload_n 0, 1) := by decide +kernel
theorem dX4_findAges_213 : decode cX4_findAges 213 = .ok (.getfield 53, 3) := by decide +kernel
theorem dX4_findAges_216 : decode cX4_findAges 216 = .ok (.iload_n 3, 1) := by decide +kernel
theorem dX4_findAges_217 : decode cX4_findAges 217 = .ok (.aload_n 0, 1) := by decide +kernel
theorem dX4_findAges_218 : decode cX4_findAges 218 = .ok (.getfield 37, 3) := by decide +kernel
theorem dX4_findAges_221 : decode cX4_findAges 221 = .ok (.iload_n 2, 1) := by decide +kernel
theorem dX4_findAges_222 : decode cX4_findAges 222 = .ok (.baload, 1) := by decide +kernel
theorem dX4_findAges_223 : decode cX4_findAges 223 = .ok (.ifCond .eq 12, 3) := by decide +kernel
theorem dX4_findAges_226 : decode cX4_findAges 226 = .ok (.aload_n 0, 1) := by decide +kernel
theorem dX4_findAges_227 : decode cX4_findAges 227 = .ok (.getfield 53, 3) := by decide +kernel
theorem dX4_findAges_230 : decode cX4_findAges 230 = .ok (.iload_n 3, 1) := by decide +kernel
theorem dX4_findAges_231 : decode cX4_findAges 231 = .ok (.iaload, 1) := by decide +kernel
theorem dX4_findAges_232 : decode cX4_findAges 232 = .ok (.goto 4, 3) := by decide +kernel
theorem dX4_findAges_235 : decode cX4_findAges 235 = .ok (.iconst (-1), 1) := by decide +kernel
theorem dX4_findAges_236 : decode cX4_findAges 236 = .ok (.iastore, 1) := by decide +kernel
theorem dX4_findAges_237 : decode cX4_findAges 237 = .ok (.aload_n 0, 1) := by decide +kernel
theorem dX4_findAges_238 : decode cX4_findAges 238 = .ok (.getfield 56, 3) := by decide +kernel
theorem dX4_findAges_241 : decode cX4_findAges 241 = .ok (.iload_n 2, 1) := by decide +kernel
theorem dX4_findAges_242 : decode cX4_findAges 242 = .ok (.dup2, 1) := by decide +kernel
theorem dX4_findAges_243 : decode cX4_findAges 243 = .ok (.laload, 1) := by decide +kernel
theorem dX4_findAges_244 : decode cX4_findAges 244 = .ok (.aload_n 0, 1) := by decide +kernel
theorem dX4_findAges_245 : decode cX4_findAges 245 = .ok (.getfield 53, 3) := by decide +kernel
theorem dX4_findAges_248 : decode cX4_findAges 248 = .ok (.iload_n 3, 1) := by decide +kernel
theorem dX4_findAges_249 : decode cX4_findAges 249 = .ok (.iaload, 1) := by decide +kernel
theorem dX4_findAges_250 : decode cX4_findAges 250 = .ok (.iconst 2, 1) := by decide +kernel
theorem dX4_findAges_251 : decode cX4_findAges 251 = .ok (.if_icmp .eq 12, 3) := by decide +kernel
theorem dX4_findAges_254 : decode cX4_findAges 254 = .ok (.aload_n 0, 1) := by decide +kernel
theorem dX4_findAges_255 : decode cX4_findAges 255 = .ok (.getfield 53, 3) := by decide +kernel
theorem dX4_findAges_258 : decode cX4_findAges 258 = .ok (.iload_n 3, 1) := by decide +kernel
theorem dX4_findAges_259 : decode cX4_findAges 259 = .ok (.iaload, 1) := by decide +kernel
theorem dX4_findAges_260 : decode cX4_findAges 260 = .ok (.ifCond .ne 11, 3) := by decide +kernel
theorem dX4_findAges_263 : decode cX4_findAges 263 = .ok (.aload_n 0, 1) := by decide +kernel
theorem dX4_findAges_264 : decode cX4_findAges 264 = .ok (.getfield 91, 3) := by decide +kernel
theorem dX4_findAges_267 : decode cX4_findAges 267 = .ok (.i2l, 1) := by decide +kernel
theorem dX4_findAges_268 : decode cX4_findAges 268 = .ok (.goto 4, 3) := by decide +kernel
theorem dX4_findAges_271 : decode cX4_findAges 271 = .ok (.lconst 0, 1) := by decide +kernel
theorem dX4_findAges_272 : decode cX4_findAges 272 = .ok (.ladd, 1) := by decide +kernel
theorem dX4_findAges_273 : decode cX4_findAges 273 = .ok (.lastore, 1) := by decide +kernel
theorem dX4_findAges_274 : decode cX4_findAges 274 = .ok (.aload_n 0, 1) := by decide +kernel
theorem dX4_findAges_275 : decode cX4_findAges 275 = .ok (.getfield 60, 3) := by decide +kernel
theorem dX4_findAges_278 : decode cX4_findAges 278 = .ok (.iload_n 2, 1) := by decide +kernel
theorem dX4_findAges_279 : decode cX4_findAges 279 = .ok (.dup2, 1) := by decide +kernel
theorem dX4_findAges_280 : decode cX4_findAges 280 = .ok (.laload, 1) := by decide +kernel
theorem dX4_findAges_281 : decode cX4_findAges 281 = .ok (.aload_n 0, 1) := by decide +kernel
theorem dX4_findAges_282 : decode cX4_findAges 282 = .ok (.getfield 53, 3) := by decide +kernel
theorem dX4_findAges_285 : decode cX4_findAges 285 = .ok (.iload_n 3, 1) := by decide +kernel
theorem dX4_findAges_286 : decode cX4_findAges 286 = .ok (.iaload, 1) := by decide +kernel
theorem dX4_findAges_287 : decode cX4_findAges 287 = .ok (.iconst 2, 1) := by decide +kernel
theorem dX4_findAges_288 : decode cX4_findAges 288 = .ok (.if_icmp .ne 11, 3) := by decide +kernel
theorem dX4_findAges_291 : decode cX4_findAges 291 = .ok (.aload_n 0, 1) := by decide +kernel
theorem dX4_findAges_292 : decode cX4_findAges 292 = .ok (.getfield 91, 3) := by decide +kernel
theorem dX4_findAges_295 : decode cX4_findAges 295 = .ok (.i2l, 1) := by decide +kernel
theorem dX4_findAges_296 : decode cX4_findAges 296 = .ok (.goto 4, 3) := by decide +kernel
theorem dX4_findAges_299 : decode cX4_findAges 299 = .ok (.lconst 0, 1) := by decide +kernel
theorem dX4_findAges_300 : decode cX4_findAges 300 = .ok (.ladd, 1) := by decide +kernel
theorem dX4_findAges_301 : decode cX4_findAges 301 = .ok (.lastore, 1) := by decide +kernel
theorem dX4_findAges_302 : decode cX4_findAges 302 = .ok (.iinc 3 1, 3) := by decide +kernel
theorem dX4_findAges_305 : decode cX4_findAges 305 = .ok (.goto (-108), 3) := by decide +kernel
theorem dX4_findAges_308 : decode cX4_findAges 308 = .ok (.iinc 2 1, 3) := by decide +kernel
theorem dX4_findAges_311 : decode cX4_findAges 311 = .ok (.goto (-167), 3) := by decide +kernel
theorem dX4_findAges_314 : decode cX4_findAges 314 = .ok (.return_, 1) := by decide +kernel
theorem dX4_isRound_0 : decode cX4_isRound 0 = .ok (.iconst 0, 1) := by decide +kernel
theorem dX4_isRound_1 : decode cX4_isRound 1 = .ok (.istore_n 1, 1) := by decide +kernel
theorem dX4_isRound_2 : decode cX4_isRound 2 = .ok (.iload_n 1, 1) := by decide +kernel
theorem dX4_isRound_3 : decode cX4_isRound 3 = .ok (.aload_n 0, 1) := by decide +kernel
theorem dX4_isRound_4 : decode cX4_isRound 4 = .ok (.getfield 106, 3) := by decide +kernel
theorem dX4_isRound_7 : decode cX4_isRound 7 = .ok (.if_icmp .ge 29, 3) := by decide +kernel
theorem dX4_isRound_10 : decode cX4_isRound 10 = .ok (.aload_n 0, 1) := by decide +kernel
theorem dX4_isRound_11 : decode cX4_isRound 11 = .ok (.getfield 77, 3) := by decide +kernel
theorem dX4_isRound_14 : decode cX4_isRound 14 = .ok (.iload_n 1, 1) := by decide +kernel
theorem dX4_isRound_15 : decode cX4_isRound 15 = .ok (.aload_n 0, 1) := by decide +kernel
theorem dX4_isRound_16 : decode cX4_isRound 16 = .ok (.getfield 37, 3) := by decide +kernel
theorem dX4_isRound_19 : decode cX4_isRound 19 = .ok (.iload_n 1, 1) := by decide +kernel
theorem dX4_isRound_20 : decode cX4_isRound 20 = .ok (.baload, 1) := by decide +kernel
theorem dX4_isRound_21 : decode cX4_isRound 21 = .ok (.ifCond .eq 7, 3) := by decide +kernel
theorem dX4_isRound_24 : decode cX4_isRound 24 = .ok (.iconst 1, 1) := by decide +kernel
theorem dX4_isRound_25 : decode cX4_isRound 25 = .ok (.goto 4, 3) := by decide +kernel
theorem dX4_isRound_28 : decode cX4_isRound 28 = .ok (.iconst 0, 1) := by decide +kernel
theorem dX4_isRound_29 : decode cX4_isRound 29 = .ok (.iastore, 1) := by decide +kernel
theorem dX4_isRound_30 : decode cX4_isRound 30 = .ok (.iinc 1 1, 3) := by decide +kernel
theorem dX4_isRound_33 : decode cX4_isRound 33 = .ok (.goto (-31), 3) := by decide +kernel
theorem dX4_isRound_36 : decode cX4_isRound 36 = .ok (.iconst 1, 1) := by decide +kernel
theorem dX4_isRound_37 : decode cX4_isRound 37 = .ok (.istore_n 1, 1) := by decide +kernel
theorem dX4_isRound_38 : decode cX4_isRound 38 = .ok (.iload_n 1, 1) := by decide +kernel
theorem dX4_isRound_39 : decode cX4_isRound 39 = .ok (.ifCond .eq 114, 3) := by decide +kernel
theorem dX4_isRound_42 : decode cX4_isRound 42 = .ok (.iconst 0, 1) := by decide +kernel
theorem dX4_isRound_43 : decode cX4_isRound 43 = .ok (.istore_n 1, 1) := by decide +kernel
theorem dX4_isRound_44 : decode cX4_isRound 44 = .ok (.iconst 0, 1) := by decide +kernel
theorem dX4_isRound_45 : decode cX4_isRound 45 = .ok (.istore_n 2, 1) := by decide +kernel
theorem dX4_isRound_46 : decode cX4_isRound 46 = .ok (.iload_n 2, 1) := by decide +kernel
theorem dX4_isRound_47 : decode cX4_isRound 47 = .ok (.aload_n 0, 1) := by decide +kernel
theorem dX4_isRound_48 : decode cX4_isRound 48 = .ok (.getfield 106, 3) := by decide +kernel
theorem dX4_isRound_51 : decode cX4_isRound 51 = .ok (.if_icmp .ge 99, 3) := by decide +kernel
theorem dX4_isRound_54 : decode cX4_isRound 54 = .ok (.iconst 0, 1) := by decide +kernel
theorem dX4_isRound_55 : decode cX4_isRound 55 = .ok (.istore_n 3, 1) := by decide +kernel
theorem dX4_isRound_56 : decode cX4_isRound 56 = .ok (.iconst 0, 1) := by decide +kernel
theorem dX4_isRound_57 : decode cX4_isRound 57 = .ok (.istore 4, 2) := by decide +kernel
theorem dX4_isRound_59 : decode cX4_isRound 59 = .ok (.iload 4, 2) := by decide +kernel
theorem dX4_isRound_61 : decode cX4_isRound 61 = .ok (.aload_n 0, 1) := by decide +kernel
theorem dX4_isRound_62 : decode cX4_isRound 62 = .ok (.getfield 119, 3) := by decide +kernel
theorem dX4_isRound_65 : decode cX4_isRound 65 = .ok (.if_icmp .ge 56, 3) := by decide +kernel
theorem dX4_isRound_68 : decode cX4_isRound 68 = .ok (.iload_n 3, 1) := by decide +kernel
theorem dX4_isRound_69 : decode cX4_isRound 69 = .ok (.ifCond .ne 40, 3) := by decide +kernel
theorem dX4_isRound_72 : decode cX4_isRound 72 = .ok (.aload_n 0, 1) := by decide +kernel
theorem dX4_isRound_73 : decode cX4_isRound 73 = .ok (.getfield 22, 3) := by decide +kernel
theorem dX4_isRound_76 : decode cX4_isRound 76 = .ok (.iload 4, 2) := by decide +kernel
theorem dX4_isRound_78 : decode cX4_isRound 78 = .ok (.iaload, 1) := by decide +kernel
theorem dX4_isRound_79 : decode cX4_isRound 79 = .ok (.iload_n 2, 1) := by decide +kernel
theorem dX4_isRound_80 : decode cX4_isRound 80 = .ok (.if_icmp .ne 33, 3) := by decide +kernel
theorem dX4_isRound_83 : decode cX4_isRound 83 = .ok (.aload_n 0, 1) := by decide +kernel
theorem dX4_isRound_84 : decode cX4_isRound 84 = .ok (.getfield 28, 3) := by decide +kernel
theorem dX4_isRound_87 : decode cX4_isRound 87 = .ok (.iload 4, 2) := by decide +kernel
theorem dX4_isRound_89 : decode cX4_isRound 89 = .ok (.iaload, 1) := by decide +kernel
theorem dX4_isRound_90 : decode cX4_isRound 90 = .ok (.ifCond .ge 23, 3) := by decide +kernel
theorem dX4_isRound_93 : decode cX4_isRound 93 = .ok (.aload_n 0, 1) := by decide +kernel
theorem dX4_isRound_94 : decode cX4_isRound 94 = .ok (.getfield 77, 3) := by decide +kernel
theorem dX4_isRound_97 : decode cX4_isRound 97 = .ok (.aload_n 0, 1) := by decide +kernel
theorem dX4_isRound_98 : decode cX4_isRound 98 = .ok (.getfield 25, 3) := by decide +kernel
theorem dX4_isRound_101 : decode cX4_isRound 101 = .ok (.iload 4, 2) := by decide +kernel
theorem dX4_isRound_103 : decode cX4_isRound 103 = .ok (.iaload, 1) := by decide +kernel
theorem dX4_isRound_104 : decode cX4_isRound 104 = .ok (.iaload, 1) := by decide +kernel
theorem dX4_isRound_105 : decode cX4_isRound 105 = .ok (.iconst 1, 1) := by decide +kernel
theorem dX4_isRound_106 : decode cX4_isRound 106 = .ok (.if_icmp .ne 7, 3) := by decide +kernel
theorem dX4_isRound_109 : decode cX4_isRound 109 = .ok (.iconst 1, 1) := by decide +kernel
theorem dX4_isRound_110 : decode cX4_isRound 110 = .ok (.goto 4, 3) := by decide +kernel
theorem dX4_isRound_113 : decode cX4_isRound 113 = .ok (.iconst 0, 1) := by decide +kernel
theorem dX4_isRound_114 : decode cX4_isRound 114 = .ok (.istore_n 3, 1) := by decide +kernel
theorem dX4_isRound_115 : decode cX4_isRound 115 = .ok (.iinc 4 1, 3) := by decide +kernel
theorem dX4_isRound_118 : decode cX4_isRound 118 = .ok (.goto (-59), 3) := by decide +kernel
theorem dX4_isRound_121 : decode cX4_isRound 121 = .ok (.aload_n 0, 1) := by decide +kernel
theorem dX4_isRound_122 : decode cX4_isRound 122 = .ok (.getfield 77, 3) := by decide +kernel
theorem dX4_isRound_125 : decode cX4_isRound 125 = .ok (.iload_n 2, 1) := by decide +kernel
theorem dX4_isRound_126 : decode cX4_isRound 126 = .ok (.iaload, 1) := by decide +kernel
theorem dX4_isRound_127 : decode cX4_isRound 127 = .ok (.iconst 1, 1) := by decide +kernel
theorem dX4_isRound_128 : decode cX4_isRound 128 = .ok (.if_icmp .ne 16, 3) := by decide +kernel
theorem dX4_isRound_131 : decode cX4_isRound 131 = .ok (.iload_n 3, 1) := by decide +kernel
theorem dX4_isRound_132 : decode cX4_isRound 132 = .ok (.ifCond .ne 12, 3) := by decide +kernel
theorem dX4_isRound_135 : decode cX4_isRound 135 = .ok (.aload_n 0, 1) := by decide +kernel
theorem dX4_isRound_136 : decode cX4_isRound 136 = .ok (.getfield 77, 3) := by decide +kernel
theorem dX4_isRound_139 : decode cX4_isRound 139 = .ok (.iload_n 2, 1) := by decide +kernel
theorem dX4_isRound_140 : decode cX4_isRound 140 = .ok (.iconst 0, 1) := by decide +kernel
theorem dX4_isRound_141 : decode cX4_isRound 141 = .ok (.iastore, 1) := by decide +kernel
theorem dX4_isRound_142 : decode cX4_isRound 142 = .ok (.iconst 1, 1) := by decide +kernel
theorem dX4_isRound_143 : decode cX4_isRound 143 = .ok (.istore_n 1, 1) := by decide +kernel
theorem dX4_isRound_144 : decode cX4_isRound 144 = .ok (.iinc 2 1, 3) := by decide +kernel
theorem dX4_isRound_147 : decode cX4_isRound 147 = .ok (.goto (-101), 3) := by decide +kernel
theorem dX4_isRound_150 : decode cX4_isRound 150 = .ok (.goto (-112), 3) := by decide +kernel
theorem dX4_isRound_153 : decode cX4_isRound 153 = .ok (.iconst 0, 1) := by decide +kernel
theorem dX4_isRound_154 : decode cX4_isRound 154 = .ok (.istore_n 2, 1) := by decide +kernel
theorem dX4_isRound_155 : decode cX4_isRound 155 = .ok (.iconst 0, 1) := by decide +kernel
theorem dX4_isRound_156 : decode cX4_isRound 156 = .ok (.istore_n 3, 1) := by decide +kernel
theorem dX4_isRound_157 : decode cX4_isRound 157 = .ok (.iload_n 3, 1) := by decide +kernel
theorem dX4_isRound_158 : decode cX4_isRound 158 = .ok (.aload_n 0, 1) := by decide +kernel
theorem dX4_isRound_159 : decode cX4_isRound 159 = .ok (.getfield 106, 3) := by decide +kernel
theorem dX4_isRound_162 : decode cX4_isRound 162 = .ok (.if_icmp .ge 29, 3) := by decide +kernel
theorem dX4_isRound_165 : decode cX4_isRound 165 = .ok (.iload_n 2, 1) := by decide +kernel
theorem dX4_isRound_166 : decode cX4_isRound 166 = .ok (.ifCond .ne 13, 3) := by decide +kernel
theorem dX4_isRound_169 : decode cX4_isRound 169 = .ok (.aload_n 0, 1) := by decide +kernel
theorem dX4_isRound_170 : decode cX4_isRound 170 = .ok (.getfield 77, 3) := by decide +kernel
theorem dX4_isRound_173 : decode cX4_isRound 173 = .ok (.iload_n 3, 1) := by decide +kernel
theorem dX4_isRound_174 : decode cX4_isRound 174 = .ok (.iaload, 1) := by decide +kernel
theorem dX4_isRound_175 : decode cX4_isRound 175 = .ok (.iconst 1, 1) := by decide +kernel
theorem dX4_isRound_176 : decode cX4_isRound 176 = .ok (.if_icmp .ne 7, 3) := by decide +kernel
theorem dX4_isRound_179 : decode cX4_isRound 179 = .ok (.iconst 1, 1) := by decide +kernel
theorem dX4_isRound_180 : decode cX4_isRound 180 = .ok (.goto 4, 3) := by decide +kernel
theorem dX4_isRound_183 : decode cX4_isRound 183 = .ok (.iconst 0, 1) := by decide +kernel
theorem dX4_isRound_184 : decode cX4_isRound 184 = .ok (.istore_n 2, 1) := by decide +kernel
theorem dX4_isRound_185 : decode cX4_isRound 185 = .ok (.iinc 3 1, 3) := by decide +kernel
theorem dX4_isRound_188 : decode cX4_isRound 188 = .ok (.goto (-31), 3) := by decide +kernel
theorem dX4_isRound_191 : decode cX4_isRound 191 = .ok (.iload_n 2, 1) := by decide +kernel
theorem dX4_isRound_192 : decode cX4_isRound 192 = .ok (.ireturn, 1) := by decide +kernel
theorem dX4_isInPair_0 : decode cX4_isInPair 0 = .ok (.iconst 0, 1) := by decide +kernel
theorem dX4_isInPair_1 : decode cX4_isInPair 1 = .ok (.istore_n 2, 1) := by decide +kernel
theorem dX4_isInPair_2 : decode cX4_isInPair 2 = .ok (.iconst 0, 1) := by decide +kernel
theorem dX4_isInPair_3 : decode cX4_isInPair 3 = .ok (.istore_n 3, 1) := by decide +kernel
theorem dX4_isInPair_4 : decode cX4_isInPair 4 = .ok (.iload_n 3, 1) := by decide +kernel
theorem dX4_isInPair_5 : decode cX4_isInPair 5 = .ok (.aload_n 0, 1) := by decide +kernel
theorem dX4_isInPair_6 : decode cX4_isInPair 6 = .ok (.getfield 122, 3) := by decide +kernel
theorem dX4_isInPair_9 : decode cX4_isInPair 9 = .ok (.if_icmp .ge 39, 3) := by decide +kernel
theorem dX4_isInPair_12 : decode cX4_isInPair 12 = .ok (.iload_n 2, 1) := by decide +kernel
theorem dX4_isInPair_13 : decode cX4_isInPair 13 = .ok (.ifCond .ne 23, 3) := by decide +kernel
theorem dX4_isInPair_16 : decode cX4_isInPair 16 = .ok (.aload_n 0, 1) := by decide +kernel
theorem dX4_isInPair_17 : decode cX4_isInPair 17 = .ok (.getfield 31, 3) := by decide +kernel
theorem dX4_isInPair_20 : decode cX4_isInPair 20 = .ok (.iload_n 3, 1) := by decide +kernel
theorem dX4_isInPair_21 : decode cX4_isInPair 21 = .ok (.iaload, 1) := by decide +kernel
theorem dX4_isInPair_22 : decode cX4_isInPair 22 = .ok (.iload_n 1, 1) := by decide +kernel
theorem dX4_isInPair_23 : decode cX4_isInPair 23 = .ok (.if_icmp .eq 13, 3) := by decide +kernel
theorem dX4_isInPair_26 : decode cX4_isInPair 26 = .ok (.aload_n 0, 1) := by decide +kernel
theorem dX4_isInPair_27 : decode cX4_isInPair 27 = .ok (.getfield 34, 3) := by decide +kernel
theorem dX4_isInPair_30 : decode cX4_isInPair 30 = .ok (.iload_n 3, 1) := by decide +kernel
theorem dX4_isInPair_31 : decode cX4_isInPair 31 = .ok (.iaload, 1) := by decide +kernel
theorem dX4_isInPair_32 : decode cX4_isInPair 32 = .ok (.iload_n 1, 1) := by decide +kernel
theorem dX4_isInPair_33 : decode cX4_isInPair 33 = .ok (.if_icmp .ne 7, 3) := by decide +kernel
theorem dX4_isInPair_36 : decode cX4_isInPair 36 = .ok (.iconst 1, 1) := by decide +kernel
theorem dX4_isInPair_37 : decode cX4_isInPair 37 = .ok (.goto 4, 3) := by decide +kernel
theorem dX4_isInPair_40 : decode cX4_isInPair 40 = .ok (.iconst 0, 1) := by decide +kernel
theorem dX4_isInPair_41 : decode cX4_isInPair 41 = .ok (.istore_n 2, 1) := by decide +kernel
theorem dX4_isInPair_42 : decode cX4_isInPair 42 = .ok (.iinc 3 1, 3) := by decide +kernel
theorem dX4_isInPair_45 : decode cX4_isInPair 45 = .ok (.goto (-41), 3) := by decide +kernel
theorem dX4_isInPair_48 : decode cX4_isInPair 48 = .ok (.iload_n 2, 1) := by decide +kernel
theorem dX4_isInPair_49 : decode cX4_isInPair 49 = .ok (.ireturn, 1) := by decide +kernel
set_option maxRecDepth 20000 in
theorem ggX4_countPlaces_X4_isInPair : GoodIn wsX4_countPlaces wsX4_isInPair := goodIn_r _ [11, 12, 13, 14, 15, 16, 17, 18, 19, 20, 21, 22, 23, 24, 25, 26, 27, 28, 29, 30, 31, 32, 33, 34, 35, 36, 37, 38, 39, 40, 41, 42, 43, 44, 45, 46] (by decide +kernel) (by decide +kernel)
set_option maxRecDepth 20000 in
theorem gX4_countPlaces_X4_isInPair : GoodIn wsX4_countPlaces (wsV RX4 140 RX4 yX4_isInPair wsX4_isInPair) := goodIn_app (goodIn_of _ (by decide +kernel)) ggX4_countPlaces_X4_isInPair
theorem dX4_countPlaces_0 : decode cX4_countPlaces 0 = .ok (.aload_n 0, 1) := by decide +kernel
theorem dX4_countPlaces_1 : decode cX4_countPlaces 1 = .ok (.getfield 106, 3) := by decide +kernel
theorem dX4_countPlaces_4 : decode cX4_countPlaces 4 = .ok (.istore_n 1, 1) := by decide +kernel
theorem dX4_countPlaces_5 : decode cX4_countPlaces 5 = .ok (.iconst 0, 1) := by decide +kernel
theorem dX4_countPlaces_6 : decode cX4_countPlaces 6 = .ok (.istore_n 2, 1) := by decide +kernel
theorem dX4_countPlaces_7 : decode cX4_countPlaces 7 = .ok (.iload_n 2, 1) := by decide +kernel
theorem dX4_countPlaces_8 : decode cX4_countPlaces 8 = .ok (.aload_n 0, 1) := by decide +kernel
theorem dX4_countPlaces_9 : decode cX4_countPlaces 9 = .ok (.getfield 119, 3) := by decide +kernel
theorem dX4_countPlaces_12 : decode cX4_countPlaces 12 = .ok (.if_icmp .ge 81, 3) := by decide +kernel
theorem dX4_countPlaces_15 : decode cX4_countPlaces 15 = .ok (.aload_n 0, 1) := by decide +kernel
theorem dX4_countPlaces_16 : decode cX4_countPlaces 16 = .ok (.getfield 63, 3) := by decide +kernel
theorem dX4_countPlaces_19 : decode cX4_countPlaces 19 = .ok (.iload_n 2, 1) := by decide +kernel
theorem dX4_countPlaces_20 : decode cX4_countPlaces 20 = .ok (.iconst 0, 1) := by decide +kernel
theorem dX4_countPlaces_21 : decode cX4_countPlaces 21 = .ok (.iastore, 1) := by decide +kernel
theorem dX4_countPlaces_22 : decode cX4_countPlaces 22 = .ok (.aload_n 0, 1) := by decide +kernel
theorem dX4_countPlaces_23 : decode cX4_countPlaces 23 = .ok (.getfield 66, 3) := by decide +kernel
theorem dX4_countPlaces_26 : decode cX4_countPlaces 26 = .ok (.iload_n 2, 1) := by decide +kernel
theorem dX4_countPlaces_27 : decode cX4_countPlaces 27 = .ok (.iconst 0, 1) := by decide +kernel
theorem dX4_countPlaces_28 : decode cX4_countPlaces 28 = .ok (.iastore, 1) := by decide +kernel
theorem dX4_countPlaces_29 : decode cX4_countPlaces 29 = .ok (.aload_n 0, 1) := by decide +kernel
theorem dX4_countPlaces_30 : decode cX4_countPlaces 30 = .ok (.getfield 28, 3) := by decide +kernel
theorem dX4_countPlaces_33 : decode cX4_countPlaces 33 = .ok (.iload_n 2, 1) := by decide +kernel
theorem dX4_countPlaces_34 : decode cX4_countPlaces 34 = .ok (.iaload, 1) := by decide +kernel
theorem dX4_countPlaces_35 : decode cX4_countPlaces 35 = .ok (.ifCond .lt 27, 3) := by decide +kernel
theorem dX4_countPlaces_38 : decode cX4_countPlaces 38 = .ok (.iload_n 1, 1) := by decide +kernel
theorem dX4_countPlaces_39 : decode cX4_countPlaces 39 = .ok (.ldc 69, 2) := by decide +kernel
theorem dX4_countPlaces_41 : decode cX4_countPlaces 41 = .ok (.if_icmp .gt 21, 3) := by decide +kernel
theorem dX4_countPlaces_44 : decode cX4_countPlaces 44 = .ok (.aload_n 0, 1) := by decide +kernel
theorem dX4_countPlaces_45 : decode cX4_countPlaces 45 = .ok (.getfield 63, 3) := by decide +kernel
theorem dX4_countPlaces_48 : decode cX4_countPlaces 48 = .ok (.iload_n 2, 1) := by decide +kernel
theorem dX4_countPlaces_49 : decode cX4_countPlaces 49 = .ok (.iload_n 1, 1) := by decide +kernel
theorem dX4_countPlaces_50 : decode cX4_countPlaces 50 = .ok (.iastore, 1) := by decide +kernel
theorem dX4_countPlaces_51 : decode cX4_countPlaces 51 = .ok (.iload_n 1, 1) := by decide +kernel
theorem dX4_countPlaces_52 : decode cX4_countPlaces 52 = .ok (.aload_n 0, 1) := by decide +kernel
theorem dX4_countPlaces_53 : decode cX4_countPlaces 53 = .ok (.getfield 28, 3) := by decide +kernel
theorem dX4_countPlaces_56 : decode cX4_countPlaces 56 = .ok (.iload_n 2, 1) := by decide +kernel
theorem dX4_countPlaces_57 : decode cX4_countPlaces 57 = .ok (.iaload, 1) := by decide +kernel
theorem dX4_countPlaces_58 : decode cX4_countPlaces 58 = .ok (.iconst 1, 1) := by decide +kernel
theorem dX4_countPlaces_59 : decode cX4_countPlaces 59 = .ok (.iadd, 1) := by decide +kernel
theorem dX4_countPlaces_60 : decode cX4_countPlaces 60 = .ok (.imul, 1) := by decide +kernel
theorem dX4_countPlaces_61 : decode cX4_countPlaces 61 = .ok (.istore_n 1, 1) := by decide +kernel
theorem dX4_countPlaces_62 : decode cX4_countPlaces 62 = .ok (.aload_n 0, 1) := by decide +kernel
theorem dX4_countPlaces_63 : decode cX4_countPlaces 63 = .ok (.iload_n 2, 1) := by decide +kernel
theorem dX4_countPlaces_64 : decode cX4_countPlaces 64 = .ok (.invokevirtual 140, 3) := by decide +kernel
theorem dX4_countPlaces_67 : decode cX4_countPlaces 67 = .ok (.ifCond .eq 20, 3) := by decide +kernel
theorem dX4_countPlaces_70 : decode cX4_countPlaces 70 = .ok (.iload_n 1, 1) := by decide +kernel
theorem dX4_countPlaces_71 : decode cX4_countPlaces 71 = .ok (.ldc 69, 2) := by decide +kernel
theorem dX4_countPlaces_73 : decode cX4_countPlaces 73 = .ok (.if_icmp .gt 14, 3) := by decide +kernel
theorem dX4_countPlaces_76 : decode cX4_countPlaces 76 = .ok (.aload_n 0, 1) := by decide +kernel
theorem dX4_countPlaces_77 : decode cX4_countPlaces 77 = .ok (.getfield 66, 3) := by decide +kernel
theorem dX4_countPlaces_80 : decode cX4_countPlaces 80 = .ok (.iload_n 2, 1) := by decide +kernel
theorem dX4_countPlaces_81 : decode cX4_countPlaces 81 = .ok (.iload_n 1, 1) := by decide +kernel
theorem dX4_countPlaces_82 : decode cX4_countPlaces 82 = .ok (.iastore, 1) := by decide +kernel
theorem dX4_countPlaces_83 : decode cX4_countPlaces 83 = .ok (.iload_n 1, 1) := by decide +kernel
theorem dX4_countPlaces_84 : decode cX4_countPlaces 84 = .ok (.iconst 2, 1) := by decide +kernel
theorem dX4_countPlaces_85 : decode cX4_countPlaces 85 = .ok (.imul, 1) := by decide +kernel
theorem dX4_countPlaces_86 : decode cX4_countPlaces 86 = .ok (.istore_n 1, 1) := by decide +kernel
theorem dX4_countPlaces_87 : decode cX4_countPlaces 87 = .ok (.iinc 2 1, 3) := by decide +kernel
theorem dX4_countPlaces_90 : decode cX4_countPlaces 90 = .ok (.goto (-83), 3) := by decide +kernel
theorem dX4_countPlaces_93 : decode cX4_countPlaces 93 = .ok (.iload_n 1, 1) := by decide +kernel
theorem dX4_countPlaces_94 : decode cX4_countPlaces 94 = .ok (.ldc 69, 2) := by decide +kernel
theorem dX4_countPlaces_96 : decode cX4_countPlaces 96 = .ok (.if_icmp .le 7, 3) := by decide +kernel
theorem dX4_countPlaces_99 : decode cX4_countPlaces 99 = .ok (.iconst (-1), 1) := by decide +kernel
theorem dX4_countPlaces_100 : decode cX4_countPlaces 100 = .ok (.goto 4, 3) := by decide +kernel
theorem dX4_countPlaces_103 : decode cX4_countPlaces 103 = .ok (.iload_n 1, 1) := by decide +kernel
theorem dX4_countPlaces_104 : decode cX4_countPlaces 104 = .ok (.ireturn, 1) := by decide +kernel
theorem dX4_isTaken_0 : decode cX4_isTaken 0 = .ok (.iload_n 1, 1) := by decide +kernel
theorem dX4_isTaken_1 : decode cX4_isTaken 1 = .ok (.aload_n 0, 1) := by decide +kernel
theorem dX4_isTaken_2 : decode cX4_isTaken 2 = .ok (.getfield 66, 3) := by decide +kernel
theorem dX4_isTaken_5 : decode cX4_isTaken 5 = .ok (.iload_n 2, 1) := by decide +kernel
theorem dX4_isTaken_6 : decode cX4_isTaken 6 = .ok (.iaload, 1) := by decide +kernel
theorem dX4_isTaken_7 : decode cX4_isTaken 7 = .ok (.idiv, 1) := by decide +kernel
theorem dX4_isTaken_8 : decode cX4_isTaken 8 = .ok (.iconst 2, 1) := by decide +kernel
theorem dX4_isTaken_9 : decode cX4_isTaken 9 = .ok (.irem, 1) := by decide +kernel
theorem dX4_isTaken_10 : decode cX4_isTaken 10 = .ok (.iconst 1, 1) := by decide +kernel
theorem dX4_isTaken_11 : decode cX4_isTaken 11 = .ok (.if_icmp .ne 7, 3) := by decide +kernel
theorem dX4_isTaken_14 : decode cX4_isTaken 14 = .ok (.iconst 1, 1) := by decide +kernel
theorem dX4_isTaken_15 : decode cX4_isTaken 15 = .ok (.goto 4, 3) := by decide +kernel
theorem dX4_isTaken_18 : decode cX4_isTaken 18 = .ok (.iconst 0, 1) := by decide +kernel
theorem dX4_isTaken_19 : decode cX4_isTaken 19 = .ok (.ireturn, 1) := by decide +kernel
set_option maxRecDepth 20000 in
theorem ggX4_allows_X4_isTaken : GoodIn wsX4_allows wsX4_isTaken := goodIn_r _ [10, 11, 12, 13, 14, 15, 16, 17, 18, 19, 20, 21, 22, 23, 24, 25, 26, 27, 28, 29, 30, 31, 32, 33, 34, 35, 36, 37, 38, 39, 40, 41, 42, 43] (by decide +kernel) (by decide +kernel)
set_option maxRecDepth 20000 in
theorem gX4_allows_X4_isTaken : GoodIn wsX4_allows (wsV RX4 143 RX4 yX4_isTaken wsX4_isTaken) := goodIn_app (goodIn_of _ (by decide +kernel)) ggX4_allows_X4_isTaken
theorem dX4_allows_0 : decode cX4_allows 0 = .ok (.aload_n 0, 1) := by decide +kernel
theorem dX4_allows_1 : decode cX4_allows 1 = .ok (.getfield 28, 3) := by decide +kernel
theorem dX4_allows_4 : decode cX4_allows 4 = .ok (.iload_n 2, 1) := by decide +kernel
theorem dX4_allows_5 : decode cX4_allows 5 = .ok (.iaload, 1) := by decide +kernel
theorem dX4_allows_6 : decode cX4_allows 6 = .ok (.ifCond .lt 31, 3) := by decide +kernel
theorem dX4_allows_9 : decode cX4_allows 9 = .ok (.iload_n 1, 1) := by decide +kernel
theorem dX4_allows_10 : decode cX4_allows 10 = .ok (.aload_n 0, 1) := by decide +kernel
theorem dX4_allows_11 : decode cX4_allows 11 = .ok (.getfield 63, 3) := by decide +kernel
theorem dX4_allows_14 : decode cX4_allows 14 = .ok (.iload_n 2, 1) := by decide +kernel
theorem dX4_allows_15 : decode cX4_allows 15 = .ok (.iaload, 1) := by decide +kernel
theorem dX4_allows_16 : decode cX4_allows 16 = .ok (.idiv, 1) := by decide +kernel
theorem dX4_allows_17 : decode cX4_allows 17 = .ok (.aload_n 0, 1) := by decide +kernel
theorem dX4_allows_18 : decode cX4_allows 18 = .ok (.getfield 28, 3) := by decide +kernel
theorem dX4_allows_21 : decode cX4_allows 21 = .ok (.iload_n 2, 1) := by decide +kernel
theorem dX4_allows_22 : decode cX4_allows 22 = .ok (.iaload, 1) := by decide +kernel
theorem dX4_allows_23 : decode cX4_allows 23 = .ok (.iconst 1, 1) := by decide +kernel
theorem dX4_allows_24 : decode cX4_allows 24 = .ok (.iadd, 1) := by decide +kernel
theorem dX4_allows_25 : decode cX4_allows 25 = .ok (.irem, 1) := by decide +kernel
theorem dX4_allows_26 : decode cX4_allows 26 = .ok (.aload_n 0, 1) := by decide +kernel
theorem dX4_allows_27 : decode cX4_allows 27 = .ok (.getfield 28, 3) := by decide +kernel
theorem dX4_allows_30 : decode cX4_allows 30 = .ok (.iload_n 2, 1) := by decide +kernel
theorem dX4_allows_31 : decode cX4_allows 31 = .ok (.iaload, 1) := by decide +kernel
theorem dX4_allows_32 : decode cX4_allows 32 = .ok (.if_icmp .ne 5, 3) := by decide +kernel
theorem dX4_allows_35 : decode cX4_allows 35 = .ok (.iconst 0, 1) := by decide +kernel
theorem dX4_allows_36 : decode cX4_allows 36 = .ok (.ireturn, 1) := by decide +kernel
theorem dX4_allows_37 : decode cX4_allows 37 = .ok (.iconst 1, 1) := by decide +kernel
theorem dX4_allows_38 : decode cX4_allows 38 = .ok (.istore_n 3, 1) := by decide +kernel
theorem dX4_allows_39 : decode cX4_allows 39 = .ok (.iconst 0, 1) := by decide +kernel
theorem dX4_allows_40 : decode cX4_allows 40 = .ok (.istore 4, 2) := by decide +kernel
theorem dX4_allows_42 : decode cX4_allows 42 = .ok (.iload 4, 2) := by decide +kernel
theorem dX4_allows_44 : decode cX4_allows 44 = .ok (.aload_n 0, 1) := by decide +kernel
theorem dX4_allows_45 : decode cX4_allows 45 = .ok (.getfield 122, 3) := by decide +kernel
theorem dX4_allows_48 : decode cX4_allows 48 = .ok (.if_icmp .ge 71, 3) := by decide +kernel
theorem dX4_allows_51 : decode cX4_allows 51 = .ok (.iload_n 3, 1) := by decide +kernel
theorem dX4_allows_52 : decode cX4_allows 52 = .ok (.ifCond .eq 59, 3) := by decide +kernel
theorem dX4_allows_55 : decode cX4_allows 55 = .ok (.aload_n 0, 1) := by decide +kernel
theorem dX4_allows_56 : decode cX4_allows 56 = .ok (.getfield 31, 3) := by decide +kernel
theorem dX4_allows_59 : decode cX4_allows 59 = .ok (.iload 4, 2) := by decide +kernel
theorem dX4_allows_61 : decode cX4_allows 61 = .ok (.iaload, 1) := by decide +kernel
theorem dX4_allows_62 : decode cX4_allows 62 = .ok (.iload_n 2, 1) := by decide +kernel
theorem dX4_allows_63 : decode cX4_allows 63 = .ok (.if_icmp .ne 18, 3) := by decide +kernel
theorem dX4_allows_66 : decode cX4_allows 66 = .ok (.aload_n 0, 1) := by decide +kernel
theorem dX4_allows_67 : decode cX4_allows 67 = .ok (.iload_n 1, 1) := by decide +kernel
theorem dX4_allows_68 : decode cX4_allows 68 = .ok (.aload_n 0, 1) := by decide +kernel
theorem dX4_allows_69 : decode cX4_allows 69 = .ok (.getfield 34, 3) := by decide +kernel
theorem dX4_allows_72 : decode cX4_allows 72 = .ok (.iload 4, 2) := by decide +kernel
theorem dX4_allows_74 : decode cX4_allows 74 = .ok (.iaload, 1) := by decide +kernel
theorem dX4_allows_75 : decode cX4_allows 75 = .ok (.invokevirtual 143, 3) := by decide +kernel
theorem dX4_allows_78 : decode cX4_allows 78 = .ok (.ifCond .ne 33, 3) := by decide +kernel
theorem dX4_allows_81 : decode cX4_allows 81 = .ok (.aload_n 0, 1) := by decide +kernel
theorem dX4_allows_82 : decode cX4_allows 82 = .ok (.getfield 34, 3) := by decide +kernel
theorem dX4_allows_85 : decode cX4_allows 85 = .ok (.iload 4, 2) := by decide +kernel
theorem dX4_allows_87 : decode cX4_allows 87 = .ok (.iaload, 1) := by decide +kernel
theorem dX4_allows_88 : decode cX4_allows 88 = .ok (.iload_n 2, 1) := by decide +kernel
theorem dX4_allows_89 : decode cX4_allows 89 = .ok (.if_icmp .ne 18, 3) := by decide +kernel
theorem dX4_allows_92 : decode cX4_allows 92 = .ok (.aload_n 0, 1) := by decide +kernel
theorem dX4_allows_93 : decode cX4_allows 93 = .ok (.iload_n 1, 1) := by decide +kernel
theorem dX4_allows_94 : decode cX4_allows 94 = .ok (.aload_n 0, 1) := by decide +kernel
theorem dX4_allows_95 : decode cX4_allows 95 = .ok (.getfield 31, 3) := by decide +kernel
theorem dX4_allows_98 : decode cX4_allows 98 = .ok (.iload 4, 2) := by decide +kernel
theorem dX4_allows_100 : decode cX4_allows 100 = .ok (.iaload, 1) := by decide +kernel
theorem dX4_allows_101 : decode cX4_allows 101 = .ok (.invokevirtual 143, 3) := by decide +kernel
theorem dX4_allows_104 : decode cX4_allows 104 = .ok (.ifCond .ne 7, 3) := by decide +kernel
theorem dX4_allows_107 : decode cX4_allows 107 = .ok (.iconst 1, 1) := by decide +kernel
theorem dX4_allows_108 : decode cX4_allows 108 = .ok (.goto 4, 3) := by decide +kernel
theorem dX4_allows_111 : decode cX4_allows 111 = .ok (.iconst 0, 1) := by decide +kernel
theorem dX4_allows_112 : decode cX4_allows 112 = .ok (.istore_n 3, 1) := by decide +kernel
theorem dX4_allows_113 : decode cX4_allows 113 = .ok (.iinc 4 1, 3) := by decide +kernel
theorem dX4_allows_116 : decode cX4_allows 116 = .ok (.goto (-74), 3) := by decide +kernel
theorem dX4_allows_119 : decode cX4_allows 119 = .ok (.iload_n 3, 1) := by decide +kernel
theorem dX4_allows_120 : decode cX4_allows 120 = .ok (.ireturn, 1) := by decide +kernel
