/-! decode rows of the reference (wip/safe/mks.py) -/
theorem dX9_add_0 : decode cX9_add 0 = .ok (.aload_n 0, 1) := by decide +kernel
theorem dX9_add_1 : decode cX9_add 1 = .ok (.getfield 109, 3) := by decide +kernel
theorem dX9_add_4 : decode cX9_add 4 = .ok (.sipush 1600, 3) := by decide +kernel
theorem dX9_add_7 : decode cX9_add 7 = .ok (.aload_n 0, 1) := by decide +kernel
theorem dX9_add_8 : decode cX9_add 8 = .ok (.getfield 118, 3) := by decide +kernel
theorem dX9_add_11 : decode cX9_add 11 = .ok (.imul, 1) := by decide +kernel
theorem dX9_add_12 : decode cX9_add 12 = .ok (.aload_n 0, 1) := by decide +kernel
theorem dX9_add_13 : decode cX9_add 13 = .ok (.getfield 115, 3) := by decide +kernel
theorem dX9_add_16 : decode cX9_add 16 = .ok (.iadd, 1) := by decide +kernel
theorem dX9_add_17 : decode cX9_add 17 = .ok (.iload_n 1, 1) := by decide +kernel
theorem dX9_add_18 : decode cX9_add 18 = .ok (.iastore, 1) := by decide +kernel
theorem dX9_add_19 : decode cX9_add 19 = .ok (.aload_n 0, 1) := by decide +kernel
theorem dX9_add_20 : decode cX9_add 20 = .ok (.getfield 112, 3) := by decide +kernel
theorem dX9_add_23 : decode cX9_add 23 = .ok (.sipush 1600, 3) := by decide +kernel
theorem dX9_add_26 : decode cX9_add 26 = .ok (.aload_n 0, 1) := by decide +kernel
theorem dX9_add_27 : decode cX9_add 27 = .ok (.getfield 118, 3) := by decide +kernel
theorem dX9_add_30 : decode cX9_add 30 = .ok (.imul, 1) := by decide +kernel
theorem dX9_add_31 : decode cX9_add 31 = .ok (.aload_n 0, 1) := by decide +kernel
theorem dX9_add_32 : decode cX9_add 32 = .ok (.getfield 115, 3) := by decide +kernel
theorem dX9_add_35 : decode cX9_add 35 = .ok (.iadd, 1) := by decide +kernel
theorem dX9_add_36 : decode cX9_add 36 = .ok (.iload_n 2, 1) := by decide +kernel
theorem dX9_add_37 : decode cX9_add 37 = .ok (.iastore, 1) := by decide +kernel
theorem dX9_add_38 : decode cX9_add 38 = .ok (.aload_n 0, 1) := by decide +kernel
theorem dX9_add_39 : decode cX9_add 39 = .ok (.dup, 1) := by decide +kernel
theorem dX9_add_40 : decode cX9_add 40 = .ok (.getfield 115, 3) := by decide +kernel
theorem dX9_add_43 : decode cX9_add 43 = .ok (.iconst 1, 1) := by decide +kernel
theorem dX9_add_44 : decode cX9_add 44 = .ok (.iadd, 1) := by decide +kernel
theorem dX9_add_45 : decode cX9_add 45 = .ok (.putfield 115, 3) := by decide +kernel
theorem dX9_add_48 : decode cX9_add 48 = .ok (.return_, 1) := by decide +kernel
theorem dX9_ahead_0 : decode cX9_ahead 0 = .ok (.aload_n 0, 1) := by decide +kernel
theorem dX9_ahead_1 : decode cX9_ahead 1 = .ok (.getfield 26, 3) := by decide +kernel
theorem dX9_ahead_4 : decode cX9_ahead 4 = .ok (.istore_n 1, 1) := by decide +kernel
theorem dX9_ahead_5 : decode cX9_ahead 5 = .ok (.iload_n 1, 1) := by decide +kernel
theorem dX9_ahead_6 : decode cX9_ahead 6 = .ok (.aload_n 0, 1) := by decide +kernel
theorem dX9_ahead_7 : decode cX9_ahead 7 = .ok (.getfield 17, 3) := by decide +kernel
theorem dX9_ahead_10 : decode cX9_ahead 10 = .ok (.if_icmp .ge 31, 3) := by decide +kernel
theorem dX9_ahead_13 : decode cX9_ahead 13 = .ok (.aload_n 0, 1) := by decide +kernel
theorem dX9_ahead_14 : decode cX9_ahead 14 = .ok (.getfield 7, 3) := by decide +kernel
theorem dX9_ahead_17 : decode cX9_ahead 17 = .ok (.iload_n 1, 1) := by decide +kernel
theorem dX9_ahead_18 : decode cX9_ahead 18 = .ok (.iaload, 1) := by decide +kernel
theorem dX9_ahead_19 : decode cX9_ahead 19 = .ok (.bipush 32, 2) := by decide +kernel
theorem dX9_ahead_21 : decode cX9_ahead 21 = .ok (.if_icmp .eq 14, 3) := by decide +kernel
theorem dX9_ahead_24 : decode cX9_ahead 24 = .ok (.aload_n 0, 1) := by decide +kernel
theorem dX9_ahead_25 : decode cX9_ahead 25 = .ok (.getfield 7, 3) := by decide +kernel
theorem dX9_ahead_28 : decode cX9_ahead 28 = .ok (.iload_n 1, 1) := by decide +kernel
theorem dX9_ahead_29 : decode cX9_ahead 29 = .ok (.iaload, 1) := by decide +kernel
theorem dX9_ahead_30 : decode cX9_ahead 30 = .ok (.bipush 10, 2) := by decide +kernel
theorem dX9_ahead_32 : decode cX9_ahead 32 = .ok (.if_icmp .ne 9, 3) := by decide +kernel
theorem dX9_ahead_35 : decode cX9_ahead 35 = .ok (.iinc 1 1, 3) := by decide +kernel
theorem dX9_ahead_38 : decode cX9_ahead 38 = .ok (.goto (-33), 3) := by decide +kernel
theorem dX9_ahead_41 : decode cX9_ahead 41 = .ok (.aload_n 0, 1) := by decide +kernel
theorem dX9_ahead_42 : decode cX9_ahead 42 = .ok (.iload_n 1, 1) := by decide +kernel
theorem dX9_ahead_43 : decode cX9_ahead 43 = .ok (.putfield 23, 3) := by decide +kernel
theorem dX9_ahead_46 : decode cX9_ahead 46 = .ok (.aload_n 0, 1) := by decide +kernel
theorem dX9_ahead_47 : decode cX9_ahead 47 = .ok (.iload_n 1, 1) := by decide +kernel
theorem dX9_ahead_48 : decode cX9_ahead 48 = .ok (.putfield 26, 3) := by decide +kernel
theorem dX9_ahead_51 : decode cX9_ahead 51 = .ok (.aload_n 0, 1) := by decide +kernel
theorem dX9_ahead_52 : decode cX9_ahead 52 = .ok (.iconst 0, 1) := by decide +kernel
theorem dX9_ahead_53 : decode cX9_ahead 53 = .ok (.putfield 20, 3) := by decide +kernel
theorem dX9_ahead_56 : decode cX9_ahead 56 = .ok (.iload_n 1, 1) := by decide +kernel
theorem dX9_ahead_57 : decode cX9_ahead 57 = .ok (.aload_n 0, 1) := by decide +kernel
theorem dX9_ahead_58 : decode cX9_ahead 58 = .ok (.getfield 17, 3) := by decide +kernel
theorem dX9_ahead_61 : decode cX9_ahead 61 = .ok (.if_icmp .lt 4, 3) := by decide +kernel
theorem dX9_ahead_64 : decode cX9_ahead 64 = .ok (.return_, 1) := by decide +kernel
theorem dX9_ahead_65 : decode cX9_ahead 65 = .ok (.aload_n 0, 1) := by decide +kernel
theorem dX9_ahead_66 : decode cX9_ahead 66 = .ok (.getfield 7, 3) := by decide +kernel
theorem dX9_ahead_69 : decode cX9_ahead 69 = .ok (.iload_n 1, 1) := by decide +kernel
theorem dX9_ahead_70 : decode cX9_ahead 70 = .ok (.iaload, 1) := by decide +kernel
theorem dX9_ahead_71 : decode cX9_ahead 71 = .ok (.invokestatic 269, 3) := by decide +kernel
theorem dX9_ahead_74 : decode cX9_ahead 74 = .ok (.istore_n 2, 1) := by decide +kernel
theorem dX9_ahead_75 : decode cX9_ahead 75 = .ok (.aload_n 0, 1) := by decide +kernel
theorem dX9_ahead_76 : decode cX9_ahead 76 = .ok (.getfield 7, 3) := by decide +kernel
theorem dX9_ahead_79 : decode cX9_ahead 79 = .ok (.iload_n 1, 1) := by decide +kernel
theorem dX9_ahead_80 : decode cX9_ahead 80 = .ok (.iaload, 1) := by decide +kernel
theorem dX9_ahead_81 : decode cX9_ahead 81 = .ok (.invokestatic 273, 3) := by decide +kernel
theorem dX9_ahead_84 : decode cX9_ahead 84 = .ok (.istore_n 3, 1) := by decide +kernel
theorem dX9_ahead_85 : decode cX9_ahead 85 = .ok (.iload_n 2, 1) := by decide +kernel
theorem dX9_ahead_86 : decode cX9_ahead 86 = .ok (.ifCond .ne 7, 3) := by decide +kernel
theorem dX9_ahead_89 : decode cX9_ahead 89 = .ok (.iload_n 3, 1) := by decide +kernel
theorem dX9_ahead_90 : decode cX9_ahead 90 = .ok (.ifCond .eq 41, 3) := by decide +kernel
theorem dX9_ahead_93 : decode cX9_ahead 93 = .ok (.iload_n 1, 1) := by decide +kernel
theorem dX9_ahead_94 : decode cX9_ahead 94 = .ok (.ifCond .le 37, 3) := by decide +kernel
theorem dX9_ahead_97 : decode cX9_ahead 97 = .ok (.aload_n 0, 1) := by decide +kernel
theorem dX9_ahead_98 : decode cX9_ahead 98 = .ok (.getfield 7, 3) := by decide +kernel
theorem dX9_ahead_101 : decode cX9_ahead 101 = .ok (.iload_n 1, 1) := by decide +kernel
theorem dX9_ahead_102 : decode cX9_ahead 102 = .ok (.iconst 1, 1) := by decide +kernel
theorem dX9_ahead_103 : decode cX9_ahead 103 = .ok (.isub, 1) := by decide +kernel
theorem dX9_ahead_104 : decode cX9_ahead 104 = .ok (.iaload, 1) := by decide +kernel
theorem dX9_ahead_105 : decode cX9_ahead 105 = .ok (.invokestatic 269, 3) := by decide +kernel
theorem dX9_ahead_108 : decode cX9_ahead 108 = .ok (.ifCond .ne 17, 3) := by decide +kernel
theorem dX9_ahead_111 : decode cX9_ahead 111 = .ok (.aload_n 0, 1) := by decide +kernel
theorem dX9_ahead_112 : decode cX9_ahead 112 = .ok (.getfield 7, 3) := by decide +kernel
theorem dX9_ahead_115 : decode cX9_ahead 115 = .ok (.iload_n 1, 1) := by decide +kernel
theorem dX9_ahead_116 : decode cX9_ahead 116 = .ok (.iconst 1, 1) := by decide +kernel
theorem dX9_ahead_117 : decode cX9_ahead 117 = .ok (.isub, 1) := by decide +kernel
theorem dX9_ahead_118 : decode cX9_ahead 118 = .ok (.iaload, 1) := by decide +kernel
theorem dX9_ahead_119 : decode cX9_ahead 119 = .ok (.invokestatic 273, 3) := by decide +kernel
theorem dX9_ahead_122 : decode cX9_ahead 122 = .ok (.ifCond .eq 9, 3) := by decide +kernel
theorem dX9_ahead_125 : decode cX9_ahead 125 = .ok (.aload_n 0, 1) := by decide +kernel
theorem dX9_ahead_126 : decode cX9_ahead 126 = .ok (.iconst 1, 1) := by decide +kernel
theorem dX9_ahead_127 : decode cX9_ahead 127 = .ok (.iload_n 1, 1) := by decide +kernel
theorem dX9_ahead_128 : decode cX9_ahead 128 = .ok (.invokevirtual 276, 3) := by decide +kernel
theorem dX9_ahead_131 : decode cX9_ahead 131 = .ok (.aload_n 0, 1) := by decide +kernel
theorem dX9_ahead_132 : decode cX9_ahead 132 = .ok (.iconst 0, 1) := by decide +kernel
theorem dX9_ahead_133 : decode cX9_ahead 133 = .ok (.putfield 29, 3) := by decide +kernel
theorem dX9_ahead_136 : decode cX9_ahead 136 = .ok (.aload_n 0, 1) := by decide +kernel
theorem dX9_ahead_137 : decode cX9_ahead 137 = .ok (.lconst 0, 1) := by decide +kernel
theorem dX9_ahead_138 : decode cX9_ahead 138 = .ok (.putfield 32, 3) := by decide +kernel
theorem dX9_ahead_141 : decode cX9_ahead 141 = .ok (.aload_n 0, 1) := by decide +kernel
theorem dX9_ahead_142 : decode cX9_ahead 142 = .ok (.iconst 3, 1) := by decide +kernel
theorem dX9_ahead_143 : decode cX9_ahead 143 = .ok (.putfield 20, 3) := by decide +kernel
theorem dX9_ahead_146 : decode cX9_ahead 146 = .ok (.aload_n 0, 1) := by decide +kernel
theorem dX9_ahead_147 : decode cX9_ahead 147 = .ok (.iload_n 1, 1) := by decide +kernel
theorem dX9_ahead_148 : decode cX9_ahead 148 = .ok (.iconst 1, 1) := by decide +kernel
theorem dX9_ahead_149 : decode cX9_ahead 149 = .ok (.iadd, 1) := by decide +kernel
theorem dX9_ahead_150 : decode cX9_ahead 150 = .ok (.putfield 26, 3) := by decide +kernel
theorem dX9_ahead_153 : decode cX9_ahead 153 = .ok (.iload_n 2, 1) := by decide +kernel
theorem dX9_ahead_154 : decode cX9_ahead 154 = .ok (.ifCond .ne 18, 3) := by decide +kernel
theorem dX9_ahead_157 : decode cX9_ahead 157 = .ok (.iload_n 3, 1) := by decide +kernel
theorem dX9_ahead_158 : decode cX9_ahead 158 = .ok (.ifCond .ne 14, 3) := by decide +kernel
theorem dX9_ahead_161 : decode cX9_ahead 161 = .ok (.aload_n 0, 1) := by decide +kernel
theorem dX9_ahead_162 : decode cX9_ahead 162 = .ok (.aload_n 0, 1) := by decide +kernel
theorem dX9_ahead_163 : decode cX9_ahead 163 = .ok (.getfield 7, 3) := by decide +kernel
theorem dX9_ahead_166 : decode cX9_ahead 166 = .ok (.iload_n 1, 1) := by decide +kernel
theorem dX9_ahead_167 : decode cX9_ahead 167 = .ok (.iaload, 1) := by decide +kernel
theorem dX9_ahead_168 : decode cX9_ahead 168 = .ok (.putfield 29, 3) := by decide +kernel
theorem dX9_ahead_171 : decode cX9_ahead 171 = .ok (.return_, 1) := by decide +kernel
theorem dX9_ahead_172 : decode cX9_ahead 172 = .ok (.aload_n 0, 1) := by decide +kernel
theorem dX9_ahead_173 : decode cX9_ahead 173 = .ok (.iload_n 2, 1) := by decide +kernel
theorem dX9_ahead_174 : decode cX9_ahead 174 = .ok (.ifCond .eq 7, 3) := by decide +kernel
theorem dX9_ahead_177 : decode cX9_ahead 177 = .ok (.iconst 1, 1) := by decide +kernel
theorem dX9_ahead_178 : decode cX9_ahead 178 = .ok (.goto 4, 3) := by decide +kernel
theorem dX9_ahead_181 : decode cX9_ahead 181 = .ok (.iconst 2, 1) := by decide +kernel
theorem dX9_ahead_182 : decode cX9_ahead 182 = .ok (.putfield 20, 3) := by decide +kernel
theorem dX9_ahead_185 : decode cX9_ahead 185 = .ok (.iload_n 2, 1) := by decide +kernel
theorem dX9_ahead_186 : decode cX9_ahead 186 = .ok (.ifCond .eq 8, 3) := by decide +kernel
theorem dX9_ahead_189 : decode cX9_ahead 189 = .ok (.bipush 6, 2) := by decide +kernel
theorem dX9_ahead_191 : decode cX9_ahead 191 = .ok (.goto 4, 3) := by decide +kernel
theorem dX9_ahead_194 : decode cX9_ahead 194 = .ok (.iconst 4, 1) := by decide +kernel
theorem dX9_ahead_195 : decode cX9_ahead 195 = .ok (.istore 4, 2) := by decide +kernel
theorem dX9_ahead_197 : decode cX9_ahead 197 = .ok (.iconst 0, 1) := by decide +kernel
theorem dX9_ahead_198 : decode cX9_ahead 198 = .ok (.istore 5, 2) := by decide +kernel
theorem dX9_ahead_200 : decode cX9_ahead 200 = .ok (.iload_n 1, 1) := by decide +kernel
theorem dX9_ahead_201 : decode cX9_ahead 201 = .ok (.aload_n 0, 1) := by decide +kernel
theorem dX9_ahead_202 : decode cX9_ahead 202 = .ok (.getfield 17, 3) := by decide +kernel
theorem dX9_ahead_205 : decode cX9_ahead 205 = .ok (.if_icmp .ge 118, 3) := by decide +kernel
theorem dX9_ahead_208 : decode cX9_ahead 208 = .ok (.iload_n 2, 1) := by decide +kernel
theorem dX9_ahead_209 : decode cX9_ahead 209 = .ok (.ifCond .eq 18, 3) := by decide +kernel
theorem dX9_ahead_212 : decode cX9_ahead 212 = .ok (.aload_n 0, 1) := by decide +kernel
theorem dX9_ahead_213 : decode cX9_ahead 213 = .ok (.getfield 7, 3) := by decide +kernel
theorem dX9_ahead_216 : decode cX9_ahead 216 = .ok (.iload_n 1, 1) := by decide +kernel
theorem dX9_ahead_217 : decode cX9_ahead 217 = .ok (.iaload, 1) := by decide +kernel
theorem dX9_ahead_218 : decode cX9_ahead 218 = .ok (.invokestatic 269, 3) := by decide +kernel
theorem dX9_ahead_221 : decode cX9_ahead 221 = .ok (.ifCond .eq 102, 3) := by decide +kernel
theorem dX9_ahead_224 : decode cX9_ahead 224 = .ok (.goto 15, 3) := by decide +kernel
theorem dX9_ahead_227 : decode cX9_ahead 227 = .ok (.aload_n 0, 1) := by decide +kernel
theorem dX9_ahead_228 : decode cX9_ahead 228 = .ok (.getfield 7, 3) := by decide +kernel
theorem dX9_ahead_231 : decode cX9_ahead 231 = .ok (.iload_n 1, 1) := by decide +kernel
theorem dX9_ahead_232 : decode cX9_ahead 232 = .ok (.iaload, 1) := by decide +kernel
theorem dX9_ahead_233 : decode cX9_ahead 233 = .ok (.invokestatic 273, 3) := by decide +kernel
theorem dX9_ahead_236 : decode cX9_ahead 236 = .ok (.ifCond .eq 87, 3) := by decide +kernel
theorem dX9_ahead_239 : decode cX9_ahead 239 = .ok (.iload 5, 2) := by decide +kernel
theorem dX9_ahead_241 : decode cX9_ahead 241 = .ok (.iload 4, 2) := by decide +kernel
theorem dX9_ahead_243 : decode cX9_ahead 243 = .ok (.if_icmp .ne 9, 3) := by decide +kernel
theorem dX9_ahead_246 : decode cX9_ahead 246 = .ok (.aload_n 0, 1) := by decide +kernel
theorem dX9_ahead_247 : decode cX9_ahead 247 = .ok (.iconst 1, 1) := by decide +kernel
theorem dX9_ahead_248 : decode cX9_ahead 248 = .ok (.iload_n 1, 1) := by decide +kernel
theorem dX9_ahead_249 : decode cX9_ahead 249 = .ok (.invokevirtual 276, 3) := by decide +kernel
theorem dX9_ahead_252 : decode cX9_ahead 252 = .ok (.iload 5, 2) := by decide +kernel
theorem dX9_ahead_254 : decode cX9_ahead 254 = .ok (.iload 4, 2) := by decide +kernel
theorem dX9_ahead_256 : decode cX9_ahead 256 = .ok (.if_icmp .ge 26, 3) := by decide +kernel
theorem dX9_ahead_259 : decode cX9_ahead 259 = .ok (.iload_n 2, 1) := by decide +kernel
theorem dX9_ahead_260 : decode cX9_ahead 260 = .ok (.ifCond .eq 22, 3) := by decide +kernel
theorem dX9_ahead_263 : decode cX9_ahead 263 = .ok (.aload_n 0, 1) := by decide +kernel
theorem dX9_ahead_264 : decode cX9_ahead 264 = .ok (.aload_n 0, 1) := by decide +kernel
theorem dX9_ahead_265 : decode cX9_ahead 265 = .ok (.getfield 32, 3) := by decide +kernel
theorem dX9_ahead_268 : decode cX9_ahead 268 = .ok (.bipush 8, 2) := by decide +kernel
theorem dX9_ahead_270 : decode cX9_ahead 270 = .ok (.lshl, 1) := by decide +kernel
theorem dX9_ahead_271 : decode cX9_ahead 271 = .ok (.aload_n 0, 1) := by decide +kernel
theorem dX9_ahead_272 : decode cX9_ahead 272 = .ok (.getfield 7, 3) := by decide +kernel
theorem dX9_ahead_275 : decode cX9_ahead 275 = .ok (.iload_n 1, 1) := by decide +kernel
theorem dX9_ahead_276 : decode cX9_ahead 276 = .ok (.iaload, 1) := by decide +kernel
theorem dX9_ahead_277 : decode cX9_ahead 277 = .ok (.i2l, 1) := by decide +kernel
theorem dX9_ahead_278 : decode cX9_ahead 278 = .ok (.lor, 1) := by decide +kernel
theorem dX9_ahead_279 : decode cX9_ahead 279 = .ok (.putfield 32, 3) := by decide +kernel
theorem dX9_ahead_282 : decode cX9_ahead 282 = .ok (.iload 5, 2) := by decide +kernel
theorem dX9_ahead_284 : decode cX9_ahead 284 = .ok (.iload 4, 2) := by decide +kernel
theorem dX9_ahead_286 : decode cX9_ahead 286 = .ok (.if_icmp .ge 28, 3) := by decide +kernel
theorem dX9_ahead_289 : decode cX9_ahead 289 = .ok (.iload_n 3, 1) := by decide +kernel
theorem dX9_ahead_290 : decode cX9_ahead 290 = .ok (.ifCond .eq 24, 3) := by decide +kernel
theorem dX9_ahead_293 : decode cX9_ahead 293 = .ok (.aload_n 0, 1) := by decide +kernel
theorem dX9_ahead_294 : decode cX9_ahead 294 = .ok (.bipush 10, 2) := by decide +kernel
theorem dX9_ahead_296 : decode cX9_ahead 296 = .ok (.aload_n 0, 1) := by decide +kernel
theorem dX9_ahead_297 : decode cX9_ahead 297 = .ok (.getfield 29, 3) := by decide +kernel
theorem dX9_ahead_300 : decode cX9_ahead 300 = .ok (.imul, 1) := by decide +kernel
theorem dX9_ahead_301 : decode cX9_ahead 301 = .ok (.aload_n 0, 1) := by decide +kernel
theorem dX9_ahead_302 : decode cX9_ahead 302 = .ok (.getfield 7, 3) := by decide +kernel
theorem dX9_ahead_305 : decode cX9_ahead 305 = .ok (.iload_n 1, 1) := by decide +kernel
theorem dX9_ahead_306 : decode cX9_ahead 306 = .ok (.iaload, 1) := by decide +kernel
theorem dX9_ahead_307 : decode cX9_ahead 307 = .ok (.iadd, 1) := by decide +kernel
theorem dX9_ahead_308 : decode cX9_ahead 308 = .ok (.bipush 48, 2) := by decide +kernel
theorem dX9_ahead_310 : decode cX9_ahead 310 = .ok (.isub, 1) := by decide +kernel
theorem dX9_ahead_311 : decode cX9_ahead 311 = .ok (.putfield 29, 3) := by decide +kernel
theorem dX9_ahead_314 : decode cX9_ahead 314 = .ok (.iinc 5 1, 3) := by decide +kernel
theorem dX9_ahead_317 : decode cX9_ahead 317 = .ok (.iinc 1 1, 3) := by decide +kernel
theorem dX9_ahead_320 : decode cX9_ahead 320 = .ok (.goto (-120), 3) := by decide +kernel
theorem dX9_ahead_323 : decode cX9_ahead 323 = .ok (.aload_n 0, 1) := by decide +kernel
theorem dX9_ahead_324 : decode cX9_ahead 324 = .ok (.iload_n 1, 1) := by decide +kernel
theorem dX9_ahead_325 : decode cX9_ahead 325 = .ok (.putfield 26, 3) := by decide +kernel
theorem dX9_ahead_328 : decode cX9_ahead 328 = .ok (.return_, 1) := by decide +kernel
theorem dX9_allOdds_0 : decode cX9_allOdds 0 = .ok (.iconst 0, 1) := by decide +kernel
theorem dX9_allOdds_1 : decode cX9_allOdds 1 = .ok (.istore_n 1, 1) := by decide +kernel
theorem dX9_allOdds_2 : decode cX9_allOdds 2 = .ok (.iconst 0, 1) := by decide +kernel
theorem dX9_allOdds_3 : decode cX9_allOdds 3 = .ok (.istore_n 2, 1) := by decide +kernel
theorem dX9_allOdds_4 : decode cX9_allOdds 4 = .ok (.iload_n 2, 1) := by decide +kernel
theorem dX9_allOdds_5 : decode cX9_allOdds 5 = .ok (.aload_n 0, 1) := by decide +kernel
theorem dX9_allOdds_6 : decode cX9_allOdds 6 = .ok (.invokevirtual 445, 3) := by decide +kernel
theorem dX9_allOdds_9 : decode cX9_allOdds 9 = .ok (.if_icmp .ge 39, 3) := by decide +kernel
theorem dX9_allOdds_12 : decode cX9_allOdds 12 = .ok (.iconst 0, 1) := by decide +kernel
theorem dX9_allOdds_13 : decode cX9_allOdds 13 = .ok (.istore_n 3, 1) := by decide +kernel
theorem dX9_allOdds_14 : decode cX9_allOdds 14 = .ok (.iload_n 3, 1) := by decide +kernel
theorem dX9_allOdds_15 : decode cX9_allOdds 15 = .ok (.aload_n 0, 1) := by decide +kernel
theorem dX9_allOdds_16 : decode cX9_allOdds 16 = .ok (.getfield 76, 3) := by decide +kernel
theorem dX9_allOdds_19 : decode cX9_allOdds 19 = .ok (.aload_n 0, 1) := by decide +kernel
theorem dX9_allOdds_20 : decode cX9_allOdds 20 = .ok (.getfield 48, 3) := by decide +kernel
theorem dX9_allOdds_23 : decode cX9_allOdds 23 = .ok (.iaload, 1) := by decide +kernel
theorem dX9_allOdds_24 : decode cX9_allOdds 24 = .ok (.if_icmp .ge 18, 3) := by decide +kernel
theorem dX9_allOdds_27 : decode cX9_allOdds 27 = .ok (.iload_n 1, 1) := by decide +kernel
theorem dX9_allOdds_28 : decode cX9_allOdds 28 = .ok (.aload_n 0, 1) := by decide +kernel
theorem dX9_allOdds_29 : decode cX9_allOdds 29 = .ok (.iload_n 2, 1) := by decide +kernel
theorem dX9_allOdds_30 : decode cX9_allOdds 30 = .ok (.iload_n 3, 1) := by decide +kernel
theorem dX9_allOdds_31 : decode cX9_allOdds 31 = .ok (.invokevirtual 576, 3) := by decide +kernel
theorem dX9_allOdds_34 : decode cX9_allOdds 34 = .ok (.iadd, 1) := by decide +kernel
theorem dX9_allOdds_35 : decode cX9_allOdds 35 = .ok (.istore_n 1, 1) := by decide +kernel
theorem dX9_allOdds_36 : decode cX9_allOdds 36 = .ok (.iinc 3 1, 3) := by decide +kernel
theorem dX9_allOdds_39 : decode cX9_allOdds 39 = .ok (.goto (-25), 3) := by decide +kernel
theorem dX9_allOdds_42 : decode cX9_allOdds 42 = .ok (.iinc 2 1, 3) := by decide +kernel
theorem dX9_allOdds_45 : decode cX9_allOdds 45 = .ok (.goto (-41), 3) := by decide +kernel
theorem dX9_allOdds_48 : decode cX9_allOdds 48 = .ok (.iload_n 1, 1) := by decide +kernel
theorem dX9_allOdds_49 : decode cX9_allOdds 49 = .ok (.ireturn, 1) := by decide +kernel
theorem dX9_at_0 : decode cX9_at 0 = .ok (.aload_n 0, 1) := by decide +kernel
theorem dX9_at_1 : decode cX9_at 1 = .ok (.iload_n 1, 1) := by decide +kernel
theorem dX9_at_2 : decode cX9_at 2 = .ok (.invokevirtual 543, 3) := by decide +kernel
theorem dX9_at_5 : decode cX9_at 5 = .ok (.ifCond .eq 12, 3) := by decide +kernel
theorem dX9_at_8 : decode cX9_at 8 = .ok (.aload_n 0, 1) := by decide +kernel
theorem dX9_at_9 : decode cX9_at 9 = .ok (.getfield 165, 3) := by decide +kernel
theorem dX9_at_12 : decode cX9_at 12 = .ok (.iload_n 1, 1) := by decide +kernel
theorem dX9_at_13 : decode cX9_at 13 = .ok (.iaload, 1) := by decide +kernel
theorem dX9_at_14 : decode cX9_at 14 = .ok (.goto 4, 3) := by decide +kernel
theorem dX9_at_17 : decode cX9_at 17 = .ok (.iconst (-1), 1) := by decide +kernel
theorem dX9_at_18 : decode cX9_at 18 = .ok (.ireturn, 1) := by decide +kernel
theorem dX9_bad_0 : decode cX9_bad 0 = .ok (.aload_n 0, 1) := by decide +kernel
theorem dX9_bad_1 : decode cX9_bad 1 = .ok (.iconst 0, 1) := by decide +kernel
theorem dX9_bad_2 : decode cX9_bad 2 = .ok (.invokevirtual 502, 3) := by decide +kernel
theorem dX9_bad_5 : decode cX9_bad 5 = .ok (.aload_n 0, 1) := by decide +kernel
theorem dX9_bad_6 : decode cX9_bad 6 = .ok (.invokevirtual 561, 3) := by decide +kernel
theorem dX9_bad_9 : decode cX9_bad 9 = .ok (.ireturn, 1) := by decide +kernel
theorem dX9_badness_0 : decode cX9_badness 0 = .ok (.aload_n 0, 1) := by decide +kernel
theorem dX9_badness_1 : decode cX9_badness 1 = .ok (.iconst 1, 1) := by decide +kernel
theorem dX9_badness_2 : decode cX9_badness 2 = .ok (.putfield 228, 3) := by decide +kernel
theorem dX9_badness_5 : decode cX9_badness 5 = .ok (.iconst 0, 1) := by decide +kernel
theorem dX9_badness_6 : decode cX9_badness 6 = .ok (.istore_n 1, 1) := by decide +kernel
theorem dX9_badness_7 : decode cX9_badness 7 = .ok (.iconst 0, 1) := by decide +kernel
theorem dX9_badness_8 : decode cX9_badness 8 = .ok (.istore_n 2, 1) := by decide +kernel
theorem dX9_badness_9 : decode cX9_badness 9 = .ok (.iload_n 2, 1) := by decide +kernel
theorem dX9_badness_10 : decode cX9_badness 10 = .ok (.aload_n 0, 1) := by decide +kernel
theorem dX9_badness_11 : decode cX9_badness 11 = .ok (.getfield 225, 3) := by decide +kernel
theorem dX9_badness_14 : decode cX9_badness 14 = .ok (.if_icmp .ge 110, 3) := by decide +kernel
theorem dX9_badness_17 : decode cX9_badness 17 = .ok (.aload_n 0, 1) := by decide +kernel
theorem dX9_badness_18 : decode cX9_badness 18 = .ok (.aload_n 0, 1) := by decide +kernel
theorem dX9_badness_19 : decode cX9_badness 19 = .ok (.getfield 222, 3) := by decide +kernel
theorem dX9_badness_22 : decode cX9_badness 22 = .ok (.iload_n 2, 1) := by decide +kernel
theorem dX9_badness_23 : decode cX9_badness 23 = .ok (.iaload, 1) := by decide +kernel
theorem dX9_badness_24 : decode cX9_badness 24 = .ok (.invokevirtual 475, 3) := by decide +kernel
theorem dX9_badness_27 : decode cX9_badness 27 = .ok (.ifCond .eq 6, 3) := by decide +kernel
theorem dX9_badness_30 : decode cX9_badness 30 = .ok (.goto 88, 3) := by decide +kernel
theorem dX9_badness_33 : decode cX9_badness 33 = .ok (.iconst 0, 1) := by decide +kernel
theorem dX9_badness_34 : decode cX9_badness 34 = .ok (.istore_n 3, 1) := by decide +kernel
theorem dX9_badness_35 : decode cX9_badness 35 = .ok (.iload_n 3, 1) := by decide +kernel
theorem dX9_badness_36 : decode cX9_badness 36 = .ok (.aload_n 0, 1) := by decide +kernel
theorem dX9_badness_37 : decode cX9_badness 37 = .ok (.getfield 76, 3) := by decide +kernel
theorem dX9_badness_40 : decode cX9_badness 40 = .ok (.aload_n 0, 1) := by decide +kernel
theorem dX9_badness_41 : decode cX9_badness 41 = .ok (.getfield 48, 3) := by decide +kernel
theorem dX9_badness_44 : decode cX9_badness 44 = .ok (.iaload, 1) := by decide +kernel
theorem dX9_badness_45 : decode cX9_badness 45 = .ok (.if_icmp .ge 73, 3) := by decide +kernel
theorem dX9_badness_48 : decode cX9_badness 48 = .ok (.aload_n 0, 1) := by decide +kernel
theorem dX9_badness_49 : decode cX9_badness 49 = .ok (.iload_n 2, 1) := by decide +kernel
theorem dX9_badness_50 : decode cX9_badness 50 = .ok (.aload_n 0, 1) := by decide +kernel
theorem dX9_badness_51 : decode cX9_badness 51 = .ok (.getfield 82, 3) := by decide +kernel
theorem dX9_badness_54 : decode cX9_badness 54 = .ok (.bipush 6, 2) := by decide +kernel
theorem dX9_badness_56 : decode cX9_badness 56 = .ok (.aload_n 0, 1) := by decide +kernel
theorem dX9_badness_57 : decode cX9_badness 57 = .ok (.getfield 48, 3) := by decide +kernel
theorem dX9_badness_60 : decode cX9_badness 60 = .ok (.imul, 1) := by decide +kernel
theorem dX9_badness_61 : decode cX9_badness 61 = .ok (.iload_n 3, 1) := by decide +kernel
theorem dX9_badness_62 : decode cX9_badness 62 = .ok (.iadd, 1) := by decide +kernel
theorem dX9_badness_63 : decode cX9_badness 63 = .ok (.iaload, 1) := by decide +kernel
theorem dX9_badness_64 : decode cX9_badness 64 = .ok (.invokevirtual 508, 3) := by decide +kernel
theorem dX9_badness_67 : decode cX9_badness 67 = .ok (.iload_n 1, 1) := by decide +kernel
theorem dX9_badness_68 : decode cX9_badness 68 = .ok (.aload_n 0, 1) := by decide +kernel
theorem dX9_badness_69 : decode cX9_badness 69 = .ok (.getfield 64, 3) := by decide +kernel
theorem dX9_badness_72 : decode cX9_badness 72 = .ok (.bipush 12, 2) := by decide +kernel
theorem dX9_badness_74 : decode cX9_badness 74 = .ok (.aload_n 0, 1) := by decide +kernel
theorem dX9_badness_75 : decode cX9_badness 75 = .ok (.getfield 48, 3) := by decide +kernel
theorem dX9_badness_78 : decode cX9_badness 78 = .ok (.imul, 1) := by decide +kernel
theorem dX9_badness_79 : decode cX9_badness 79 = .ok (.aload_n 0, 1) := by decide +kernel
theorem dX9_badness_80 : decode cX9_badness 80 = .ok (.getfield 222, 3) := by decide +kernel
theorem dX9_badness_83 : decode cX9_badness 83 = .ok (.iload_n 2, 1) := by decide +kernel
theorem dX9_badness_84 : decode cX9_badness 84 = .ok (.iaload, 1) := by decide +kernel
theorem dX9_badness_85 : decode cX9_badness 85 = .ok (.iadd, 1) := by decide +kernel
theorem dX9_badness_86 : decode cX9_badness 86 = .ok (.iaload, 1) := by decide +kernel
theorem dX9_badness_87 : decode cX9_badness 87 = .ok (.aload_n 0, 1) := by decide +kernel
theorem dX9_badness_88 : decode cX9_badness 88 = .ok (.getfield 91, 3) := by decide +kernel
theorem dX9_badness_91 : decode cX9_badness 91 = .ok (.bipush 6, 2) := by decide +kernel
theorem dX9_badness_93 : decode cX9_badness 93 = .ok (.aload_n 0, 1) := by decide +kernel
theorem dX9_badness_94 : decode cX9_badness 94 = .ok (.getfield 48, 3) := by decide +kernel
theorem dX9_badness_97 : decode cX9_badness 97 = .ok (.imul, 1) := by decide +kernel
theorem dX9_badness_98 : decode cX9_badness 98 = .ok (.iload_n 3, 1) := by decide +kernel
theorem dX9_badness_99 : decode cX9_badness 99 = .ok (.iadd, 1) := by decide +kernel
theorem dX9_badness_100 : decode cX9_badness 100 = .ok (.iaload, 1) := by decide +kernel
theorem dX9_badness_101 : decode cX9_badness 101 = .ok (.imul, 1) := by decide +kernel
theorem dX9_badness_102 : decode cX9_badness 102 = .ok (.aload_n 0, 1) := by decide +kernel
theorem dX9_badness_103 : decode cX9_badness 103 = .ok (.getfield 237, 3) := by decide +kernel
theorem dX9_badness_106 : decode cX9_badness 106 = .ok (.invokestatic 511, 3) := by decide +kernel
theorem dX9_badness_109 : decode cX9_badness 109 = .ok (.imul, 1) := by decide +kernel
theorem dX9_badness_110 : decode cX9_badness 110 = .ok (.iadd, 1) := by decide +kernel
theorem dX9_badness_111 : decode cX9_badness 111 = .ok (.istore_n 1, 1) := by decide +kernel
theorem dX9_badness_112 : decode cX9_badness 112 = .ok (.iinc 3 1, 3) := by decide +kernel
theorem dX9_badness_115 : decode cX9_badness 115 = .ok (.goto (-80), 3) := by decide +kernel
theorem dX9_badness_118 : decode cX9_badness 118 = .ok (.iinc 2 1, 3) := by decide +kernel
theorem dX9_badness_121 : decode cX9_badness 121 = .ok (.goto (-112), 3) := by decide +kernel
theorem dX9_badness_124 : decode cX9_badness 124 = .ok (.iload_n 1, 1) := by decide +kernel
theorem dX9_badness_125 : decode cX9_badness 125 = .ok (.ireturn, 1) := by decide +kernel
theorem dX9_beds_0 : decode cX9_beds 0 = .ok (.iload_n 1, 1) := by decide +kernel
theorem dX9_beds_1 : decode cX9_beds 1 = .ok (.iconst 1, 1) := by decide +kernel
theorem dX9_beds_2 : decode cX9_beds 2 = .ok (.sipush 9999, 3) := by decide +kernel
theorem dX9_beds_5 : decode cX9_beds 5 = .ok (.invokestatic 340, 3) := by decide +kernel
theorem dX9_beds_8 : decode cX9_beds 8 = .ok (.ifCond .eq 15, 3) := by decide +kernel
theorem dX9_beds_11 : decode cX9_beds 11 = .ok (.aload_n 0, 1) := by decide +kernel
theorem dX9_beds_12 : decode cX9_beds 12 = .ok (.invokevirtual 445, 3) := by decide +kernel
theorem dX9_beds_15 : decode cX9_beds 15 = .ok (.ifCond .eq 8, 3) := by decide +kernel
theorem dX9_beds_18 : decode cX9_beds 18 = .ok (.iload_n 2, 1) := by decide +kernel
theorem dX9_beds_19 : decode cX9_beds 19 = .ok (.iconst (-1), 1) := by decide +kernel
theorem dX9_beds_20 : decode cX9_beds 20 = .ok (.if_icmp .ge 5, 3) := by decide +kernel
theorem dX9_beds_23 : decode cX9_beds 23 = .ok (.iconst (-1), 1) := by decide +kernel
theorem dX9_beds_24 : decode cX9_beds 24 = .ok (.ireturn, 1) := by decide +kernel
theorem dX9_beds_25 : decode cX9_beds 25 = .ok (.iconst 0, 1) := by decide +kernel
theorem dX9_beds_26 : decode cX9_beds 26 = .ok (.istore_n 3, 1) := by decide +kernel
theorem dX9_beds_27 : decode cX9_beds 27 = .ok (.iload_n 3, 1) := by decide +kernel
theorem dX9_beds_28 : decode cX9_beds 28 = .ok (.aload_n 0, 1) := by decide +kernel
theorem dX9_beds_29 : decode cX9_beds 29 = .ok (.invokevirtual 445, 3) := by decide +kernel
theorem dX9_beds_32 : decode cX9_beds 32 = .ok (.if_icmp .ge 29, 3) := by decide +kernel
theorem dX9_beds_35 : decode cX9_beds 35 = .ok (.aload_n 0, 1) := by decide +kernel
theorem dX9_beds_36 : decode cX9_beds 36 = .ok (.getfield 58, 3) := by decide +kernel
theorem dX9_beds_39 : decode cX9_beds 39 = .ok (.bipush 12, 2) := by decide +kernel
theorem dX9_beds_41 : decode cX9_beds 41 = .ok (.aload_n 0, 1) := by decide +kernel
theorem dX9_beds_42 : decode cX9_beds 42 = .ok (.getfield 48, 3) := by decide +kernel
theorem dX9_beds_45 : decode cX9_beds 45 = .ok (.imul, 1) := by decide +kernel
theorem dX9_beds_46 : decode cX9_beds 46 = .ok (.iload_n 3, 1) := by decide +kernel
theorem dX9_beds_47 : decode cX9_beds 47 = .ok (.iadd, 1) := by decide +kernel
theorem dX9_beds_48 : decode cX9_beds 48 = .ok (.iaload, 1) := by decide +kernel
theorem dX9_beds_49 : decode cX9_beds 49 = .ok (.iload_n 1, 1) := by decide +kernel
theorem dX9_beds_50 : decode cX9_beds 50 = .ok (.if_icmp .le 5, 3) := by decide +kernel
theorem dX9_beds_53 : decode cX9_beds 53 = .ok (.iconst (-1), 1) := by decide +kernel
theorem dX9_beds_54 : decode cX9_beds 54 = .ok (.ireturn, 1) := by decide +kernel
theorem dX9_beds_55 : decode cX9_beds 55 = .ok (.iinc 3 1, 3) := by decide +kernel
theorem dX9_beds_58 : decode cX9_beds 58 = .ok (.goto (-31), 3) := by decide +kernel
theorem dX9_beds_61 : decode cX9_beds 61 = .ok (.iconst 0, 1) := by decide +kernel
theorem dX9_beds_62 : decode cX9_beds 62 = .ok (.istore_n 3, 1) := by decide +kernel
theorem dX9_beds_63 : decode cX9_beds 63 = .ok (.iconst 0, 1) := by decide +kernel
theorem dX9_beds_64 : decode cX9_beds 64 = .ok (.istore 4, 2) := by decide +kernel
theorem dX9_beds_66 : decode cX9_beds 66 = .ok (.iconst 0, 1) := by decide +kernel
theorem dX9_beds_67 : decode cX9_beds 67 = .ok (.istore 5, 2) := by decide +kernel
theorem dX9_beds_69 : decode cX9_beds 69 = .ok (.iload 5, 2) := by decide +kernel
theorem dX9_beds_71 : decode cX9_beds 71 = .ok (.aload_n 0, 1) := by decide +kernel
theorem dX9_beds_72 : decode cX9_beds 72 = .ok (.invokevirtual 445, 3) := by decide +kernel
theorem dX9_beds_75 : decode cX9_beds 75 = .ok (.if_icmp .ge 64, 3) := by decide +kernel
theorem dX9_beds_78 : decode cX9_beds 78 = .ok (.aload_n 0, 1) := by decide +kernel
theorem dX9_beds_79 : decode cX9_beds 79 = .ok (.getfield 58, 3) := by decide +kernel
theorem dX9_beds_82 : decode cX9_beds 82 = .ok (.bipush 12, 2) := by decide +kernel
theorem dX9_beds_84 : decode cX9_beds 84 = .ok (.aload_n 0, 1) := by decide +kernel
theorem dX9_beds_85 : decode cX9_beds 85 = .ok (.getfield 48, 3) := by decide +kernel
theorem dX9_beds_88 : decode cX9_beds 88 = .ok (.imul, 1) := by decide +kernel
theorem dX9_beds_89 : decode cX9_beds 89 = .ok (.aload_n 0, 1) := by decide +kernel
theorem dX9_beds_90 : decode cX9_beds 90 = .ok (.getfield 165, 3) := by decide +kernel
theorem dX9_beds_93 : decode cX9_beds 93 = .ok (.iload 5, 2) := by decide +kernel
theorem dX9_beds_95 : decode cX9_beds 95 = .ok (.iaload, 1) := by decide +kernel
theorem dX9_beds_96 : decode cX9_beds 96 = .ok (.iadd, 1) := by decide +kernel
theorem dX9_beds_97 : decode cX9_beds 97 = .ok (.iaload, 1) := by decide +kernel
theorem dX9_beds_98 : decode cX9_beds 98 = .ok (.istore 6, 2) := by decide +kernel
theorem dX9_beds_100 : decode cX9_beds 100 = .ok (.iload 6, 2) := by decide +kernel
theorem dX9_beds_102 : decode cX9_beds 102 = .ok (.iload 4, 2) := by decide +kernel
theorem dX9_beds_104 : decode cX9_beds 104 = .ok (.if_icmp .gt 8, 3) := by decide +kernel
theorem dX9_beds_107 : decode cX9_beds 107 = .ok (.iload 5, 2) := by decide +kernel
theorem dX9_beds_109 : decode cX9_beds 109 = .ok (.ifCond .ne 17, 3) := by decide +kernel
theorem dX9_beds_112 : decode cX9_beds 112 = .ok (.iload_n 3, 1) := by decide +kernel
theorem dX9_beds_113 : decode cX9_beds 113 = .ok (.iload_n 2, 1) := by decide +kernel
theorem dX9_beds_114 : decode cX9_beds 114 = .ok (.if_icmp .ne 6, 3) := by decide +kernel
theorem dX9_beds_117 : decode cX9_beds 117 = .ok (.iload 5, 2) := by decide +kernel
theorem dX9_beds_119 : decode cX9_beds 119 = .ok (.ireturn, 1) := by decide +kernel
theorem dX9_beds_120 : decode cX9_beds 120 = .ok (.iinc 3 1, 3) := by decide +kernel
theorem dX9_beds_123 : decode cX9_beds 123 = .ok (.iload_n 1, 1) := by decide +kernel
theorem dX9_beds_124 : decode cX9_beds 124 = .ok (.istore 4, 2) := by decide +kernel
theorem dX9_beds_126 : decode cX9_beds 126 = .ok (.iload 4, 2) := by decide +kernel
theorem dX9_beds_128 : decode cX9_beds 128 = .ok (.iload 6, 2) := by decide +kernel
theorem dX9_beds_130 : decode cX9_beds 130 = .ok (.isub, 1) := by decide +kernel
theorem dX9_beds_131 : decode cX9_beds 131 = .ok (.istore 4, 2) := by decide +kernel
theorem dX9_beds_133 : decode cX9_beds 133 = .ok (.iinc 5 1, 3) := by decide +kernel
theorem dX9_beds_136 : decode cX9_beds 136 = .ok (.goto (-67), 3) := by decide +kernel
theorem dX9_beds_139 : decode cX9_beds 139 = .ok (.iload_n 2, 1) := by decide +kernel
theorem dX9_beds_140 : decode cX9_beds 140 = .ok (.iconst (-1), 1) := by decide +kernel
theorem dX9_beds_141 : decode cX9_beds 141 = .ok (.if_icmp .ne 7, 3) := by decide +kernel
theorem dX9_beds_144 : decode cX9_beds 144 = .ok (.iload_n 3, 1) := by decide +kernel
theorem dX9_beds_145 : decode cX9_beds 145 = .ok (.goto 4, 3) := by decide +kernel
theorem dX9_beds_148 : decode cX9_beds 148 = .ok (.iconst (-1), 1) := by decide +kernel
theorem dX9_beds_149 : decode cX9_beds 149 = .ok (.ireturn, 1) := by decide +kernel
theorem dX9_begin_0 : decode cX9_begin 0 = .ok (.bipush 12, 2) := by decide +kernel
theorem dX9_begin_2 : decode cX9_begin 2 = .ok (.iload_n 1, 1) := by decide +kernel
theorem dX9_begin_3 : decode cX9_begin 3 = .ok (.imul, 1) := by decide +kernel
theorem dX9_begin_4 : decode cX9_begin 4 = .ok (.iload_n 2, 1) := by decide +kernel
theorem dX9_begin_5 : decode cX9_begin 5 = .ok (.iadd, 1) := by decide +kernel
theorem dX9_begin_6 : decode cX9_begin 6 = .ok (.istore 6, 2) := by decide +kernel
theorem dX9_begin_8 : decode cX9_begin 8 = .ok (.aload_n 0, 1) := by decide +kernel
theorem dX9_begin_9 : decode cX9_begin 9 = .ok (.getfield 177, 3) := by decide +kernel
theorem dX9_begin_12 : decode cX9_begin 12 = .ok (.iload 6, 2) := by decide +kernel
theorem dX9_begin_14 : decode cX9_begin 14 = .ok (.iconst (-1), 1) := by decide +kernel
theorem dX9_begin_15 : decode cX9_begin 15 = .ok (.iastore, 1) := by decide +kernel
theorem dX9_begin_16 : decode cX9_begin 16 = .ok (.aload_n 0, 1) := by decide +kernel
theorem dX9_begin_17 : decode cX9_begin 17 = .ok (.getfield 171, 3) := by decide +kernel
theorem dX9_begin_20 : decode cX9_begin 20 = .ok (.iload 6, 2) := by decide +kernel
theorem dX9_begin_22 : decode cX9_begin 22 = .ok (.iload_n 3, 1) := by decide +kernel
theorem dX9_begin_23 : decode cX9_begin 23 = .ok (.iastore, 1) := by decide +kernel
theorem dX9_begin_24 : decode cX9_begin 24 = .ok (.aload_n 0, 1) := by decide +kernel
theorem dX9_begin_25 : decode cX9_begin 25 = .ok (.getfield 174, 3) := by decide +kernel
theorem dX9_begin_28 : decode cX9_begin 28 = .ok (.iload 6, 2) := by decide +kernel
theorem dX9_begin_30 : decode cX9_begin 30 = .ok (.aload_n 0, 1) := by decide +kernel
theorem dX9_begin_31 : decode cX9_begin 31 = .ok (.getfield 85, 3) := by decide +kernel
theorem dX9_begin_34 : decode cX9_begin 34 = .ok (.bipush 6, 2) := by decide +kernel
theorem dX9_begin_36 : decode cX9_begin 36 = .ok (.aload_n 0, 1) := by decide +kernel
theorem dX9_begin_37 : decode cX9_begin 37 = .ok (.getfield 48, 3) := by decide +kernel
theorem dX9_begin_40 : decode cX9_begin 40 = .ok (.imul, 1) := by decide +kernel
theorem dX9_begin_41 : decode cX9_begin 41 = .ok (.iload_n 3, 1) := by decide +kernel
theorem dX9_begin_42 : decode cX9_begin 42 = .ok (.iadd, 1) := by decide +kernel
theorem dX9_begin_43 : decode cX9_begin 43 = .ok (.iaload, 1) := by decide +kernel
theorem dX9_begin_44 : decode cX9_begin 44 = .ok (.iastore, 1) := by decide +kernel
theorem dX9_begin_45 : decode cX9_begin 45 = .ok (.aload_n 0, 1) := by decide +kernel
theorem dX9_begin_46 : decode cX9_begin 46 = .ok (.iload_n 1, 1) := by decide +kernel
theorem dX9_begin_47 : decode cX9_begin 47 = .ok (.iload_n 2, 1) := by decide +kernel
theorem dX9_begin_48 : decode cX9_begin 48 = .ok (.iload_n 3, 1) := by decide +kernel
theorem dX9_begin_49 : decode cX9_begin 49 = .ok (.iload 4, 2) := by decide +kernel
theorem dX9_begin_51 : decode cX9_begin 51 = .ok (.iload 5, 2) := by decide +kernel
theorem dX9_begin_53 : decode cX9_begin 53 = .ok (.invokevirtual 498, 3) := by decide +kernel
theorem dX9_begin_56 : decode cX9_begin 56 = .ok (.aload_n 0, 1) := by decide +kernel
theorem dX9_begin_57 : decode cX9_begin 57 = .ok (.dup, 1) := by decide +kernel
theorem dX9_begin_58 : decode cX9_begin 58 = .ok (.getfield 240, 3) := by decide +kernel
theorem dX9_begin_61 : decode cX9_begin 61 = .ok (.iconst 1, 1) := by decide +kernel
theorem dX9_begin_62 : decode cX9_begin 62 = .ok (.iadd, 1) := by decide +kernel
theorem dX9_begin_63 : decode cX9_begin 63 = .ok (.putfield 240, 3) := by decide +kernel
theorem dX9_begin_66 : decode cX9_begin 66 = .ok (.aload_n 0, 1) := by decide +kernel
theorem dX9_begin_67 : decode cX9_begin 67 = .ok (.iload_n 1, 1) := by decide +kernel
theorem dX9_begin_68 : decode cX9_begin 68 = .ok (.invokevirtual 502, 3) := by decide +kernel
theorem dX9_begin_71 : decode cX9_begin 71 = .ok (.aload_n 0, 1) := by decide +kernel
theorem dX9_begin_72 : decode cX9_begin 72 = .ok (.aload_n 0, 1) := by decide +kernel
theorem dX9_begin_73 : decode cX9_begin 73 = .ok (.iload_n 1, 1) := by decide +kernel
theorem dX9_begin_74 : decode cX9_begin 74 = .ok (.iload_n 2, 1) := by decide +kernel
theorem dX9_begin_75 : decode cX9_begin 75 = .ok (.invokevirtual 505, 3) := by decide +kernel
theorem dX9_begin_78 : decode cX9_begin 78 = .ok (.aload_n 0, 1) := by decide +kernel
theorem dX9_begin_79 : decode cX9_begin 79 = .ok (.getfield 82, 3) := by decide +kernel
theorem dX9_begin_82 : decode cX9_begin 82 = .ok (.bipush 6, 2) := by decide +kernel
theorem dX9_begin_84 : decode cX9_begin 84 = .ok (.aload_n 0, 1) := by decide +kernel
theorem dX9_begin_85 : decode cX9_begin 85 = .ok (.getfield 48, 3) := by decide +kernel
theorem dX9_begin_88 : decode cX9_begin 88 = .ok (.imul, 1) := by decide +kernel
theorem dX9_begin_89 : decode cX9_begin 89 = .ok (.iload_n 3, 1) := by decide +kernel
theorem dX9_begin_90 : decode cX9_begin 90 = .ok (.iadd, 1) := by decide +kernel
theorem dX9_begin_91 : decode cX9_begin 91 = .ok (.iaload, 1) := by decide +kernel
theorem dX9_begin_92 : decode cX9_begin 92 = .ok (.invokevirtual 508, 3) := by decide +kernel
theorem dX9_begin_95 : decode cX9_begin 95 = .ok (.aload_n 0, 1) := by decide +kernel
theorem dX9_begin_96 : decode cX9_begin 96 = .ok (.getfield 237, 3) := by decide +kernel
theorem dX9_begin_99 : decode cX9_begin 99 = .ok (.invokestatic 511, 3) := by decide +kernel
theorem dX9_begin_102 : decode cX9_begin 102 = .ok (.istore 7, 2) := by decide +kernel
theorem dX9_begin_104 : decode cX9_begin 104 = .ok (.iconst 0, 1) := by decide +kernel
theorem dX9_begin_105 : decode cX9_begin 105 = .ok (.istore 8, 2) := by decide +kernel
theorem dX9_begin_107 : decode cX9_begin 107 = .ok (.iload 8, 2) := by decide +kernel
theorem dX9_begin_109 : decode cX9_begin 109 = .ok (.aload_n 0, 1) := by decide +kernel
theorem dX9_begin_110 : decode cX9_begin 110 = .ok (.getfield 225, 3) := by decide +kernel
theorem dX9_begin_113 : decode cX9_begin 113 = .ok (.if_icmp .ge 31, 3) := by decide +kernel
theorem dX9_begin_116 : decode cX9_begin 116 = .ok (.aload_n 0, 1) := by decide +kernel
theorem dX9_begin_117 : decode cX9_begin 117 = .ok (.getfield 234, 3) := by decide +kernel
theorem dX9_begin_120 : decode cX9_begin 120 = .ok (.iload 8, 2) := by decide +kernel
theorem dX9_begin_122 : decode cX9_begin 122 = .ok (.iaload, 1) := by decide +kernel
theorem dX9_begin_123 : decode cX9_begin 123 = .ok (.ifCond .le 15, 3) := by decide +kernel
theorem dX9_begin_126 : decode cX9_begin 126 = .ok (.aload_n 0, 1) := by decide +kernel
theorem dX9_begin_127 : decode cX9_begin 127 = .ok (.iload_n 1, 1) := by decide +kernel
theorem dX9_begin_128 : decode cX9_begin 128 = .ok (.iload 8, 2) := by decide +kernel
theorem dX9_begin_130 : decode cX9_begin 130 = .ok (.iload_n 3, 1) := by decide +kernel
theorem dX9_begin_131 : decode cX9_begin 131 = .ok (.iload 4, 2) := by decide +kernel
theorem dX9_begin_133 : decode cX9_begin 133 = .ok (.iload 5, 2) := by decide +kernel
theorem dX9_begin_135 : decode cX9_begin 135 = .ok (.invokevirtual 514, 3) := by decide +kernel
theorem dX9_begin_138 : decode cX9_begin 138 = .ok (.iinc 8 1, 3) := by decide +kernel
theorem dX9_begin_141 : decode cX9_begin 141 = .ok (.goto (-34), 3) := by decide +kernel
theorem dX9_begin_144 : decode cX9_begin 144 = .ok (.iload 7, 2) := by decide +kernel
theorem dX9_begin_146 : decode cX9_begin 146 = .ok (.ireturn, 1) := by decide +kernel
theorem dX9_begins_0 : decode cX9_begins 0 = .ok (.aload_n 0, 1) := by decide +kernel
theorem dX9_begins_1 : decode cX9_begins 1 = .ok (.getfield 162, 3) := by decide +kernel
theorem dX9_begins_4 : decode cX9_begins 4 = .ok (.iconst 0, 1) := by decide +kernel
theorem dX9_begins_5 : decode cX9_begins 5 = .ok (.iconst 0, 1) := by decide +kernel
theorem dX9_begins_6 : decode cX9_begins 6 = .ok (.iastore, 1) := by decide +kernel
theorem dX9_begins_7 : decode cX9_begins 7 = .ok (.aload_n 0, 1) := by decide +kernel
theorem dX9_begins_8 : decode cX9_begins 8 = .ok (.getfield 201, 3) := by decide +kernel
theorem dX9_begins_11 : decode cX9_begins 11 = .ok (.iconst 0, 1) := by decide +kernel
theorem dX9_begins_12 : decode cX9_begins 12 = .ok (.iconst 0, 1) := by decide +kernel
theorem dX9_begins_13 : decode cX9_begins 13 = .ok (.iastore, 1) := by decide +kernel
theorem dX9_begins_14 : decode cX9_begins 14 = .ok (.aload_n 0, 1) := by decide +kernel
theorem dX9_begins_15 : decode cX9_begins 15 = .ok (.iconst 0, 1) := by decide +kernel
theorem dX9_begins_16 : decode cX9_begins 16 = .ok (.putfield 210, 3) := by decide +kernel
theorem dX9_begins_19 : decode cX9_begins 19 = .ok (.aload_n 0, 1) := by decide +kernel
theorem dX9_begins_20 : decode cX9_begins 20 = .ok (.iconst 0, 1) := by decide +kernel
theorem dX9_begins_21 : decode cX9_begins 21 = .ok (.putfield 219, 3) := by decide +kernel
theorem dX9_begins_24 : decode cX9_begins 24 = .ok (.iconst 0, 1) := by decide +kernel
theorem dX9_begins_25 : decode cX9_begins 25 = .ok (.istore_n 1, 1) := by decide +kernel
theorem dX9_begins_26 : decode cX9_begins 26 = .ok (.iload_n 1, 1) := by decide +kernel
theorem dX9_begins_27 : decode cX9_begins 27 = .ok (.bipush 12, 2) := by decide +kernel
theorem dX9_begins_29 : decode cX9_begins 29 = .ok (.if_icmp .ge 35, 3) := by decide +kernel
theorem dX9_begins_32 : decode cX9_begins 32 = .ok (.aload_n 0, 1) := by decide +kernel
theorem dX9_begins_33 : decode cX9_begins 33 = .ok (.getfield 165, 3) := by decide +kernel
theorem dX9_begins_36 : decode cX9_begins 36 = .ok (.iload_n 1, 1) := by decide +kernel
theorem dX9_begins_37 : decode cX9_begins 37 = .ok (.iload_n 1, 1) := by decide +kernel
theorem dX9_begins_38 : decode cX9_begins 38 = .ok (.iastore, 1) := by decide +kernel
theorem dX9_begins_39 : decode cX9_begins 39 = .ok (.aload_n 0, 1) := by decide +kernel
theorem dX9_begins_40 : decode cX9_begins 40 = .ok (.getfield 168, 3) := by decide +kernel
theorem dX9_begins_43 : decode cX9_begins 43 = .ok (.iload_n 1, 1) := by decide +kernel
theorem dX9_begins_44 : decode cX9_begins 44 = .ok (.iconst 1, 1) := by decide +kernel
theorem dX9_begins_45 : decode cX9_begins 45 = .ok (.iastore, 1) := by decide +kernel
theorem dX9_begins_46 : decode cX9_begins 46 = .ok (.aload_n 0, 1) := by decide +kernel
theorem dX9_begins_47 : decode cX9_begins 47 = .ok (.getfield 186, 3) := by decide +kernel
theorem dX9_begins_50 : decode cX9_begins 50 = .ok (.iload_n 1, 1) := by decide +kernel
theorem dX9_begins_51 : decode cX9_begins 51 = .ok (.iconst 0, 1) := by decide +kernel
theorem dX9_begins_52 : decode cX9_begins 52 = .ok (.iastore, 1) := by decide +kernel
theorem dX9_begins_53 : decode cX9_begins 53 = .ok (.aload_n 0, 1) := by decide +kernel
theorem dX9_begins_54 : decode cX9_begins 54 = .ok (.iload_n 1, 1) := by decide +kernel
theorem dX9_begins_55 : decode cX9_begins 55 = .ok (.invokevirtual 442, 3) := by decide +kernel
theorem dX9_begins_58 : decode cX9_begins 58 = .ok (.iinc 1 1, 3) := by decide +kernel
theorem dX9_begins_61 : decode cX9_begins 61 = .ok (.goto (-35), 3) := by decide +kernel
theorem dX9_begins_64 : decode cX9_begins 64 = .ok (.iconst 0, 1) := by decide +kernel
theorem dX9_begins_65 : decode cX9_begins 65 = .ok (.istore_n 1, 1) := by decide +kernel
theorem dX9_begins_66 : decode cX9_begins 66 = .ok (.iload_n 1, 1) := by decide +kernel
theorem dX9_begins_67 : decode cX9_begins 67 = .ok (.bipush 11, 2) := by decide +kernel
theorem dX9_begins_69 : decode cX9_begins 69 = .ok (.if_icmp .ge 36, 3) := by decide +kernel
theorem dX9_begins_72 : decode cX9_begins 72 = .ok (.aload_n 0, 1) := by decide +kernel
theorem dX9_begins_73 : decode cX9_begins 73 = .ok (.getfield 195, 3) := by decide +kernel
theorem dX9_begins_76 : decode cX9_begins 76 = .ok (.iload_n 1, 1) := by decide +kernel
theorem dX9_begins_77 : decode cX9_begins 77 = .ok (.iconst 1, 1) := by decide +kernel
theorem dX9_begins_78 : decode cX9_begins 78 = .ok (.iastore, 1) := by decide +kernel
theorem dX9_begins_79 : decode cX9_begins 79 = .ok (.aload_n 0, 1) := by decide +kernel
theorem dX9_begins_80 : decode cX9_begins 80 = .ok (.getfield 198, 3) := by decide +kernel
theorem dX9_begins_83 : decode cX9_begins 83 = .ok (.iload_n 1, 1) := by decide +kernel
theorem dX9_begins_84 : decode cX9_begins 84 = .ok (.aload_n 0, 1) := by decide +kernel
theorem dX9_begins_85 : decode cX9_begins 85 = .ok (.getfield 73, 3) := by decide +kernel
theorem dX9_begins_88 : decode cX9_begins 88 = .ok (.bipush 11, 2) := by decide +kernel
theorem dX9_begins_90 : decode cX9_begins 90 = .ok (.aload_n 0, 1) := by decide +kernel
theorem dX9_begins_91 : decode cX9_begins 91 = .ok (.getfield 48, 3) := by decide +kernel
theorem dX9_begins_94 : decode cX9_begins 94 = .ok (.imul, 1) := by decide +kernel
theorem dX9_begins_95 : decode cX9_begins 95 = .ok (.iload_n 1, 1) := by decide +kernel
theorem dX9_begins_96 : decode cX9_begins 96 = .ok (.iadd, 1) := by decide +kernel
theorem dX9_begins_97 : decode cX9_begins 97 = .ok (.iaload, 1) := by decide +kernel
theorem dX9_begins_98 : decode cX9_begins 98 = .ok (.iastore, 1) := by decide +kernel
theorem dX9_begins_99 : decode cX9_begins 99 = .ok (.iinc 1 1, 3) := by decide +kernel
theorem dX9_begins_102 : decode cX9_begins 102 = .ok (.goto (-36), 3) := by decide +kernel
theorem dX9_begins_105 : decode cX9_begins 105 = .ok (.return_, 1) := by decide +kernel
theorem dX9_beside_0 : decode cX9_beside 0 = .ok (.iload_n 1, 1) := by decide +kernel
theorem dX9_beside_1 : decode cX9_beside 1 = .ok (.ifCond .le 32, 3) := by decide +kernel
theorem dX9_beside_4 : decode cX9_beside 4 = .ok (.aload_n 0, 1) := by decide +kernel
theorem dX9_beside_5 : decode cX9_beside 5 = .ok (.iload_n 1, 1) := by decide +kernel
theorem dX9_beside_6 : decode cX9_beside 6 = .ok (.iconst 1, 1) := by decide +kernel
theorem dX9_beside_7 : decode cX9_beside 7 = .ok (.isub, 1) := by decide +kernel
theorem dX9_beside_8 : decode cX9_beside 8 = .ok (.invokevirtual 455, 3) := by decide +kernel
theorem dX9_beside_11 : decode cX9_beside 11 = .ok (.ifCond .eq 22, 3) := by decide +kernel
theorem dX9_beside_14 : decode cX9_beside 14 = .ok (.aload_n 0, 1) := by decide +kernel
theorem dX9_beside_15 : decode cX9_beside 15 = .ok (.aload_n 0, 1) := by decide +kernel
theorem dX9_beside_16 : decode cX9_beside 16 = .ok (.getfield 222, 3) := by decide +kernel
theorem dX9_beside_19 : decode cX9_beside 19 = .ok (.iload_n 1, 1) := by decide +kernel
theorem dX9_beside_20 : decode cX9_beside 20 = .ok (.iconst 1, 1) := by decide +kernel
theorem dX9_beside_21 : decode cX9_beside 21 = .ok (.isub, 1) := by decide +kernel
theorem dX9_beside_22 : decode cX9_beside 22 = .ok (.iaload, 1) := by decide +kernel
theorem dX9_beside_23 : decode cX9_beside 23 = .ok (.invokevirtual 458, 3) := by decide +kernel
theorem dX9_beside_26 : decode cX9_beside 26 = .ok (.ifCond .eq 7, 3) := by decide +kernel
theorem dX9_beside_29 : decode cX9_beside 29 = .ok (.iconst 1, 1) := by decide +kernel
theorem dX9_beside_30 : decode cX9_beside 30 = .ok (.goto 4, 3) := by decide +kernel
theorem dX9_beside_33 : decode cX9_beside 33 = .ok (.iconst 0, 1) := by decide +kernel
theorem dX9_beside_34 : decode cX9_beside 34 = .ok (.istore_n 2, 1) := by decide +kernel
theorem dX9_beside_35 : decode cX9_beside 35 = .ok (.iload_n 2, 1) := by decide +kernel
theorem dX9_beside_36 : decode cX9_beside 36 = .ok (.iload_n 1, 1) := by decide +kernel
theorem dX9_beside_37 : decode cX9_beside 37 = .ok (.aload_n 0, 1) := by decide +kernel
theorem dX9_beside_38 : decode cX9_beside 38 = .ok (.getfield 225, 3) := by decide +kernel
theorem dX9_beside_41 : decode cX9_beside 41 = .ok (.iconst 1, 1) := by decide +kernel
theorem dX9_beside_42 : decode cX9_beside 42 = .ok (.isub, 1) := by decide +kernel
theorem dX9_beside_43 : decode cX9_beside 43 = .ok (.if_icmp .ge 30, 3) := by decide +kernel
theorem dX9_beside_46 : decode cX9_beside 46 = .ok (.aload_n 0, 1) := by decide +kernel
theorem dX9_beside_47 : decode cX9_beside 47 = .ok (.iload_n 1, 1) := by decide +kernel
theorem dX9_beside_48 : decode cX9_beside 48 = .ok (.invokevirtual 455, 3) := by decide +kernel
theorem dX9_beside_51 : decode cX9_beside 51 = .ok (.ifCond .eq 22, 3) := by decide +kernel
theorem dX9_beside_54 : decode cX9_beside 54 = .ok (.aload_n 0, 1) := by decide +kernel
theorem dX9_beside_55 : decode cX9_beside 55 = .ok (.aload_n 0, 1) := by decide +kernel
theorem dX9_beside_56 : decode cX9_beside 56 = .ok (.getfield 222, 3) := by decide +kernel
theorem dX9_beside_59 : decode cX9_beside 59 = .ok (.iload_n 1, 1) := by decide +kernel
theorem dX9_beside_60 : decode cX9_beside 60 = .ok (.iconst 1, 1) := by decide +kernel
theorem dX9_beside_61 : decode cX9_beside 61 = .ok (.iadd, 1) := by decide +kernel
theorem dX9_beside_62 : decode cX9_beside 62 = .ok (.iaload, 1) := by decide +kernel
theorem dX9_beside_63 : decode cX9_beside 63 = .ok (.invokevirtual 458, 3) := by decide +kernel
theorem dX9_beside_66 : decode cX9_beside 66 = .ok (.ifCond .eq 7, 3) := by decide +kernel
theorem dX9_beside_69 : decode cX9_beside 69 = .ok (.iconst 1, 1) := by decide +kernel
theorem dX9_beside_70 : decode cX9_beside 70 = .ok (.goto 4, 3) := by decide +kernel
theorem dX9_beside_73 : decode cX9_beside 73 = .ok (.iconst 0, 1) := by decide +kernel
theorem dX9_beside_74 : decode cX9_beside 74 = .ok (.iadd, 1) := by decide +kernel
theorem dX9_beside_75 : decode cX9_beside 75 = .ok (.ireturn, 1) := by decide +kernel
theorem dX9_best_0 : decode cX9_best 0 = .ok (.aload_n 0, 1) := by decide +kernel
theorem dX9_best_1 : decode cX9_best 1 = .ok (.invokevirtual 445, 3) := by decide +kernel
theorem dX9_best_4 : decode cX9_best 4 = .ok (.iconst 1, 1) := by decide +kernel
theorem dX9_best_5 : decode cX9_best 5 = .ok (.bipush 6, 2) := by decide +kernel
theorem dX9_best_7 : decode cX9_best 7 = .ok (.invokestatic 340, 3) := by decide +kernel
theorem dX9_best_10 : decode cX9_best 10 = .ok (.ifCond .eq 16, 3) := by decide +kernel
theorem dX9_best_13 : decode cX9_best 13 = .ok (.iload_n 1, 1) := by decide +kernel
theorem dX9_best_14 : decode cX9_best 14 = .ok (.iconst (-1), 1) := by decide +kernel
theorem dX9_best_15 : decode cX9_best 15 = .ok (.if_icmp .eq 13, 3) := by decide +kernel
theorem dX9_best_18 : decode cX9_best 18 = .ok (.aload_n 0, 1) := by decide +kernel
theorem dX9_best_19 : decode cX9_best 19 = .ok (.iload_n 1, 1) := by decide +kernel
theorem dX9_best_20 : decode cX9_best 20 = .ok (.invokevirtual 543, 3) := by decide +kernel
theorem dX9_best_23 : decode cX9_best 23 = .ok (.ifCond .ne 5, 3) := by decide +kernel
theorem dX9_best_26 : decode cX9_best 26 = .ok (.iconst (-1), 1) := by decide +kernel
theorem dX9_best_27 : decode cX9_best 27 = .ok (.ireturn, 1) := by decide +kernel
theorem dX9_best_28 : decode cX9_best 28 = .ok (.aload_n 0, 1) := by decide +kernel
theorem dX9_best_29 : decode cX9_best 29 = .ok (.iconst 0, 1) := by decide +kernel
theorem dX9_best_30 : decode cX9_best 30 = .ok (.invokevirtual 502, 3) := by decide +kernel
theorem dX9_best_33 : decode cX9_best 33 = .ok (.iconst 0, 1) := by decide +kernel
theorem dX9_best_34 : decode cX9_best 34 = .ok (.istore_n 2, 1) := by decide +kernel
theorem dX9_best_35 : decode cX9_best 35 = .ok (.iload_n 2, 1) := by decide +kernel
theorem dX9_best_36 : decode cX9_best 36 = .ok (.aload_n 0, 1) := by decide +kernel
theorem dX9_best_37 : decode cX9_best 37 = .ok (.getfield 225, 3) := by decide +kernel
theorem dX9_best_40 : decode cX9_best 40 = .ok (.if_icmp .ge 16, 3) := by decide +kernel
theorem dX9_best_43 : decode cX9_best 43 = .ok (.aload_n 0, 1) := by decide +kernel
theorem dX9_best_44 : decode cX9_best 44 = .ok (.getfield 222, 3) := by decide +kernel
theorem dX9_best_47 : decode cX9_best 47 = .ok (.iload_n 2, 1) := by decide +kernel
theorem dX9_best_48 : decode cX9_best 48 = .ok (.iload_n 2, 1) := by decide +kernel
theorem dX9_best_49 : decode cX9_best 49 = .ok (.iastore, 1) := by decide +kernel
theorem dX9_best_50 : decode cX9_best 50 = .ok (.iinc 2 1, 3) := by decide +kernel
theorem dX9_best_53 : decode cX9_best 53 = .ok (.goto (-18), 3) := by decide +kernel
theorem dX9_best_56 : decode cX9_best 56 = .ok (.iconst 0, 1) := by decide +kernel
theorem dX9_best_57 : decode cX9_best 57 = .ok (.istore_n 2, 1) := by decide +kernel
theorem dX9_best_58 : decode cX9_best 58 = .ok (.iconst 0, 1) := by decide +kernel
theorem dX9_best_59 : decode cX9_best 59 = .ok (.istore_n 3, 1) := by decide +kernel
theorem dX9_best_60 : decode cX9_best 60 = .ok (.iconst 1, 1) := by decide +kernel
theorem dX9_best_61 : decode cX9_best 61 = .ok (.istore 4, 2) := by decide +kernel
theorem dX9_best_63 : decode cX9_best 63 = .ok (.iload 4, 2) := by decide +kernel
theorem dX9_best_65 : decode cX9_best 65 = .ok (.ifCond .eq 65, 3) := by decide +kernel
theorem dX9_best_68 : decode cX9_best 68 = .ok (.aload_n 0, 1) := by decide +kernel
theorem dX9_best_69 : decode cX9_best 69 = .ok (.invokevirtual 561, 3) := by decide +kernel
theorem dX9_best_72 : decode cX9_best 72 = .ok (.istore 5, 2) := by decide +kernel
theorem dX9_best_74 : decode cX9_best 74 = .ok (.iload_n 3, 1) := by decide +kernel
theorem dX9_best_75 : decode cX9_best 75 = .ok (.ifCond .eq 9, 3) := by decide +kernel
theorem dX9_best_78 : decode cX9_best 78 = .ok (.iload 5, 2) := by decide +kernel
theorem dX9_best_80 : decode cX9_best 80 = .ok (.iload_n 2, 1) := by decide +kernel
theorem dX9_best_81 : decode cX9_best 81 = .ok (.if_icmp .ge 38, 3) := by decide +kernel
theorem dX9_best_84 : decode cX9_best 84 = .ok (.iload 5, 2) := by decide +kernel
theorem dX9_best_86 : decode cX9_best 86 = .ok (.istore_n 2, 1) := by decide +kernel
theorem dX9_best_87 : decode cX9_best 87 = .ok (.iconst 0, 1) := by decide +kernel
theorem dX9_best_88 : decode cX9_best 88 = .ok (.istore 6, 2) := by decide +kernel
theorem dX9_best_90 : decode cX9_best 90 = .ok (.iload 6, 2) := by decide +kernel
theorem dX9_best_92 : decode cX9_best 92 = .ok (.aload_n 0, 1) := by decide +kernel
theorem dX9_best_93 : decode cX9_best 93 = .ok (.getfield 225, 3) := by decide +kernel
theorem dX9_best_96 : decode cX9_best 96 = .ok (.if_icmp .ge 23, 3) := by decide +kernel
theorem dX9_best_99 : decode cX9_best 99 = .ok (.aload_n 0, 1) := by decide +kernel
theorem dX9_best_100 : decode cX9_best 100 = .ok (.getfield 243, 3) := by decide +kernel
theorem dX9_best_103 : decode cX9_best 103 = .ok (.iload 6, 2) := by decide +kernel
theorem dX9_best_105 : decode cX9_best 105 = .ok (.aload_n 0, 1) := by decide +kernel
theorem dX9_best_106 : decode cX9_best 106 = .ok (.getfield 222, 3) := by decide +kernel
theorem dX9_best_109 : decode cX9_best 109 = .ok (.iload 6, 2) := by decide +kernel
theorem dX9_best_111 : decode cX9_best 111 = .ok (.iaload, 1) := by decide +kernel
theorem dX9_best_112 : decode cX9_best 112 = .ok (.iastore, 1) := by decide +kernel
theorem dX9_best_113 : decode cX9_best 113 = .ok (.iinc 6 1, 3) := by decide +kernel
theorem dX9_best_116 : decode cX9_best 116 = .ok (.goto (-26), 3) := by decide +kernel
theorem dX9_best_119 : decode cX9_best 119 = .ok (.iconst 1, 1) := by decide +kernel
theorem dX9_best_120 : decode cX9_best 120 = .ok (.istore_n 3, 1) := by decide +kernel
theorem dX9_best_121 : decode cX9_best 121 = .ok (.aload_n 0, 1) := by decide +kernel
theorem dX9_best_122 : decode cX9_best 122 = .ok (.invokevirtual 567, 3) := by decide +kernel
theorem dX9_best_125 : decode cX9_best 125 = .ok (.istore 4, 2) := by decide +kernel
theorem dX9_best_127 : decode cX9_best 127 = .ok (.goto (-64), 3) := by decide +kernel
theorem dX9_best_130 : decode cX9_best 130 = .ok (.iload_n 1, 1) := by decide +kernel
theorem dX9_best_131 : decode cX9_best 131 = .ok (.iconst (-1), 1) := by decide +kernel
theorem dX9_best_132 : decode cX9_best 132 = .ok (.if_icmp .ne 7, 3) := by decide +kernel
theorem dX9_best_135 : decode cX9_best 135 = .ok (.iload_n 2, 1) := by decide +kernel
theorem dX9_best_136 : decode cX9_best 136 = .ok (.goto 9, 3) := by decide +kernel
theorem dX9_best_139 : decode cX9_best 139 = .ok (.aload_n 0, 1) := by decide +kernel
theorem dX9_best_140 : decode cX9_best 140 = .ok (.getfield 243, 3) := by decide +kernel
theorem dX9_best_143 : decode cX9_best 143 = .ok (.iload_n 1, 1) := by decide +kernel
theorem dX9_best_144 : decode cX9_best 144 = .ok (.iaload, 1) := by decide +kernel
theorem dX9_best_145 : decode cX9_best 145 = .ok (.ireturn, 1) := by decide +kernel
theorem dX9_bits_0 : decode cX9_bits 0 = .ok (.iconst 0, 1) := by decide +kernel
theorem dX9_bits_1 : decode cX9_bits 1 = .ok (.istore_n 1, 1) := by decide +kernel
theorem dX9_bits_2 : decode cX9_bits 2 = .ok (.iload_n 0, 1) := by decide +kernel
theorem dX9_bits_3 : decode cX9_bits 3 = .ok (.istore_n 2, 1) := by decide +kernel
theorem dX9_bits_4 : decode cX9_bits 4 = .ok (.iload_n 2, 1) := by decide +kernel
theorem dX9_bits_5 : decode cX9_bits 5 = .ok (.ifCond .eq 16, 3) := by decide +kernel
theorem dX9_bits_8 : decode cX9_bits 8 = .ok (.iload_n 1, 1) := by decide +kernel
theorem dX9_bits_9 : decode cX9_bits 9 = .ok (.iload_n 2, 1) := by decide +kernel
theorem dX9_bits_10 : decode cX9_bits 10 = .ok (.iconst 1, 1) := by decide +kernel
theorem dX9_bits_11 : decode cX9_bits 11 = .ok (.iand, 1) := by decide +kernel
theorem dX9_bits_12 : decode cX9_bits 12 = .ok (.iadd, 1) := by decide +kernel
theorem dX9_bits_13 : decode cX9_bits 13 = .ok (.istore_n 1, 1) := by decide +kernel
theorem dX9_bits_14 : decode cX9_bits 14 = .ok (.iload_n 2, 1) := by decide +kernel
theorem dX9_bits_15 : decode cX9_bits 15 = .ok (.iconst 1, 1) := by decide +kernel
theorem dX9_bits_16 : decode cX9_bits 16 = .ok (.ishr, 1) := by decide +kernel
theorem dX9_bits_17 : decode cX9_bits 17 = .ok (.istore_n 2, 1) := by decide +kernel
theorem dX9_bits_18 : decode cX9_bits 18 = .ok (.goto (-14), 3) := by decide +kernel
theorem dX9_bits_21 : decode cX9_bits 21 = .ok (.iload_n 1, 1) := by decide +kernel
theorem dX9_bits_22 : decode cX9_bits 22 = .ok (.ireturn, 1) := by decide +kernel
theorem dX9_blame_0 : decode cX9_blame 0 = .ok (.aload_n 0, 1) := by decide +kernel
theorem dX9_blame_1 : decode cX9_blame 1 = .ok (.getfield 36, 3) := by decide +kernel
theorem dX9_blame_4 : decode cX9_blame 4 = .ok (.ifCond .le 4, 3) := by decide +kernel
theorem dX9_blame_7 : decode cX9_blame 7 = .ok (.return_, 1) := by decide +kernel
theorem dX9_blame_8 : decode cX9_blame 8 = .ok (.aload_n 0, 1) := by decide +kernel
theorem dX9_blame_9 : decode cX9_blame 9 = .ok (.iload_n 1, 1) := by decide +kernel
theorem dX9_blame_10 : decode cX9_blame 10 = .ok (.putfield 36, 3) := by decide +kernel
theorem dX9_blame_13 : decode cX9_blame 13 = .ok (.aload_n 0, 1) := by decide +kernel
theorem dX9_blame_14 : decode cX9_blame 14 = .ok (.iload_n 2, 1) := by decide +kernel
theorem dX9_blame_15 : decode cX9_blame 15 = .ok (.putfield 39, 3) := by decide +kernel
theorem dX9_blame_18 : decode cX9_blame 18 = .ok (.return_, 1) := by decide +kernel
theorem dX9_bounded_0 : decode cX9_bounded 0 = .ok (.lload_n 0, 1) := by decide +kernel
theorem dX9_bounded_1 : decode cX9_bounded 1 = .ok (.ldc2_w 426, 3) := by decide +kernel
theorem dX9_bounded_4 : decode cX9_bounded 4 = .ok (.lcmp, 1) := by decide +kernel
theorem dX9_bounded_5 : decode cX9_bounded 5 = .ok (.ifCond .le 9, 3) := by decide +kernel
theorem dX9_bounded_8 : decode cX9_bounded 8 = .ok (.ldc2_w 426, 3) := by decide +kernel
theorem dX9_bounded_11 : decode cX9_bounded 11 = .ok (.goto 18, 3) := by decide +kernel
theorem dX9_bounded_14 : decode cX9_bounded 14 = .ok (.lload_n 0, 1) := by decide +kernel
theorem dX9_bounded_15 : decode cX9_bounded 15 = .ok (.ldc2_w 428, 3) := by decide +kernel
theorem dX9_bounded_18 : decode cX9_bounded 18 = .ok (.lcmp, 1) := by decide +kernel
theorem dX9_bounded_19 : decode cX9_bounded 19 = .ok (.ifCond .ge 9, 3) := by decide +kernel
theorem dX9_bounded_22 : decode cX9_bounded 22 = .ok (.ldc2_w 428, 3) := by decide +kernel
theorem dX9_bounded_25 : decode cX9_bounded 25 = .ok (.goto 4, 3) := by decide +kernel
theorem dX9_bounded_28 : decode cX9_bounded 28 = .ok (.lload_n 0, 1) := by decide +kernel
theorem dX9_bounded_29 : decode cX9_bounded 29 = .ok (.lreturn, 1) := by decide +kernel
theorem dX9_boy_0 : decode cX9_boy 0 = .ok (.aload_n 0, 1) := by decide +kernel
theorem dX9_boy_1 : decode cX9_boy 1 = .ok (.iload_n 1, 1) := by decide +kernel
theorem dX9_boy_2 : decode cX9_boy 2 = .ok (.invokevirtual 543, 3) := by decide +kernel
theorem dX9_boy_5 : decode cX9_boy 5 = .ok (.ifCond .ne 5, 3) := by decide +kernel
theorem dX9_boy_8 : decode cX9_boy 8 = .ok (.iconst (-1), 1) := by decide +kernel
theorem dX9_boy_9 : decode cX9_boy 9 = .ok (.ireturn, 1) := by decide +kernel
theorem dX9_boy_10 : decode cX9_boy 10 = .ok (.iload_n 2, 1) := by decide +kernel
theorem dX9_boy_11 : decode cX9_boy 11 = .ok (.tableswitch 196 0 12 #[65, 80, 95, 110, 125, 140, 147, 154, 161, 168, 175, 182, 189], 65) := by decide +kernel
theorem dX9_boy_76 : decode cX9_boy 76 = .ok (.aload_n 0, 1) := by decide +kernel
theorem dX9_boy_77 : decode cX9_boy 77 = .ok (.getfield 58, 3) := by decide +kernel
theorem dX9_boy_80 : decode cX9_boy 80 = .ok (.bipush 12, 2) := by decide +kernel
theorem dX9_boy_82 : decode cX9_boy 82 = .ok (.aload_n 0, 1) := by decide +kernel
theorem dX9_boy_83 : decode cX9_boy 83 = .ok (.getfield 48, 3) := by decide +kernel
theorem dX9_boy_86 : decode cX9_boy 86 = .ok (.imul, 1) := by decide +kernel
theorem dX9_boy_87 : decode cX9_boy 87 = .ok (.iload_n 1, 1) := by decide +kernel
theorem dX9_boy_88 : decode cX9_boy 88 = .ok (.iadd, 1) := by decide +kernel
theorem dX9_boy_89 : decode cX9_boy 89 = .ok (.iaload, 1) := by decide +kernel
theorem dX9_boy_90 : decode cX9_boy 90 = .ok (.ireturn, 1) := by decide +kernel
theorem dX9_boy_91 : decode cX9_boy 91 = .ok (.aload_n 0, 1) := by decide +kernel
theorem dX9_boy_92 : decode cX9_boy 92 = .ok (.getfield 61, 3) := by decide +kernel
theorem dX9_boy_95 : decode cX9_boy 95 = .ok (.bipush 12, 2) := by decide +kernel
theorem dX9_boy_97 : decode cX9_boy 97 = .ok (.aload_n 0, 1) := by decide +kernel
theorem dX9_boy_98 : decode cX9_boy 98 = .ok (.getfield 48, 3) := by decide +kernel
theorem dX9_boy_101 : decode cX9_boy 101 = .ok (.imul, 1) := by decide +kernel
theorem dX9_boy_102 : decode cX9_boy 102 = .ok (.iload_n 1, 1) := by decide +kernel
theorem dX9_boy_103 : decode cX9_boy 103 = .ok (.iadd, 1) := by decide +kernel
theorem dX9_boy_104 : decode cX9_boy 104 = .ok (.iaload, 1) := by decide +kernel
theorem dX9_boy_105 : decode cX9_boy 105 = .ok (.ireturn, 1) := by decide +kernel
theorem dX9_boy_106 : decode cX9_boy 106 = .ok (.aload_n 0, 1) := by decide +kernel
theorem dX9_boy_107 : decode cX9_boy 107 = .ok (.getfield 64, 3) := by decide +kernel
theorem dX9_boy_110 : decode cX9_boy 110 = .ok (.bipush 12, 2) := by decide +kernel
theorem dX9_boy_112 : decode cX9_boy 112 = .ok (.aload_n 0, 1) := by decide +kernel
theorem dX9_boy_113 : decode cX9_boy 113 = .ok (.getfield 48, 3) := by decide +kernel
theorem dX9_boy_116 : decode cX9_boy 116 = .ok (.imul, 1) := by decide +kernel
theorem dX9_boy_117 : decode cX9_boy 117 = .ok (.iload_n 1, 1) := by decide +kernel
theorem dX9_boy_118 : decode cX9_boy 118 = .ok (.iadd, 1) := by decide +kernel
theorem dX9_boy_119 : decode cX9_boy 119 = .ok (.iaload, 1) := by decide +kernel
theorem dX9_boy_120 : decode cX9_boy 120 = .ok (.ireturn, 1) := by decide +kernel
theorem dX9_boy_121 : decode cX9_boy 121 = .ok (.aload_n 0, 1) := by decide +kernel
theorem dX9_boy_122 : decode cX9_boy 122 = .ok (.getfield 67, 3) := by decide +kernel
theorem dX9_boy_125 : decode cX9_boy 125 = .ok (.bipush 12, 2) := by decide +kernel
theorem dX9_boy_127 : decode cX9_boy 127 = .ok (.aload_n 0, 1) := by decide +kernel
theorem dX9_boy_128 : decode cX9_boy 128 = .ok (.getfield 48, 3) := by decide +kernel
theorem dX9_boy_131 : decode cX9_boy 131 = .ok (.imul, 1) := by decide +kernel
theorem dX9_boy_132 : decode cX9_boy 132 = .ok (.iload_n 1, 1) := by decide +kernel
theorem dX9_boy_133 : decode cX9_boy 133 = .ok (.iadd, 1) := by decide +kernel
theorem dX9_boy_134 : decode cX9_boy 134 = .ok (.iaload, 1) := by decide +kernel
theorem dX9_boy_135 : decode cX9_boy 135 = .ok (.ireturn, 1) := by decide +kernel
theorem dX9_boy_136 : decode cX9_boy 136 = .ok (.aload_n 0, 1) := by decide +kernel
theorem dX9_boy_137 : decode cX9_boy 137 = .ok (.getfield 70, 3) := by decide +kernel
theorem dX9_boy_140 : decode cX9_boy 140 = .ok (.bipush 12, 2) := by decide +kernel
theorem dX9_boy_142 : decode cX9_boy 142 = .ok (.aload_n 0, 1) := by decide +kernel
theorem dX9_boy_143 : decode cX9_boy 143 = .ok (.getfield 48, 3) := by decide +kernel
theorem dX9_boy_146 : decode cX9_boy 146 = .ok (.imul, 1) := by decide +kernel
theorem dX9_boy_147 : decode cX9_boy 147 = .ok (.iload_n 1, 1) := by decide +kernel
theorem dX9_boy_148 : decode cX9_boy 148 = .ok (.iadd, 1) := by decide +kernel
theorem dX9_boy_149 : decode cX9_boy 149 = .ok (.iaload, 1) := by decide +kernel
theorem dX9_boy_150 : decode cX9_boy 150 = .ok (.ireturn, 1) := by decide +kernel
theorem dX9_boy_151 : decode cX9_boy 151 = .ok (.aload_n 0, 1) := by decide +kernel
theorem dX9_boy_152 : decode cX9_boy 152 = .ok (.iconst 0, 1) := by decide +kernel
theorem dX9_boy_153 : decode cX9_boy 153 = .ok (.iload_n 1, 1) := by decide +kernel
theorem dX9_boy_154 : decode cX9_boy 154 = .ok (.invokevirtual 505, 3) := by decide +kernel
theorem dX9_boy_157 : decode cX9_boy 157 = .ok (.ireturn, 1) := by decide +kernel
theorem dX9_boy_158 : decode cX9_boy 158 = .ok (.aload_n 0, 1) := by decide +kernel
theorem dX9_boy_159 : decode cX9_boy 159 = .ok (.getfield 168, 3) := by decide +kernel
theorem dX9_boy_162 : decode cX9_boy 162 = .ok (.iload_n 1, 1) := by decide +kernel
theorem dX9_boy_163 : decode cX9_boy 163 = .ok (.iaload, 1) := by decide +kernel
theorem dX9_boy_164 : decode cX9_boy 164 = .ok (.ireturn, 1) := by decide +kernel
theorem dX9_boy_165 : decode cX9_boy 165 = .ok (.aload_n 0, 1) := by decide +kernel
theorem dX9_boy_166 : decode cX9_boy 166 = .ok (.getfield 171, 3) := by decide +kernel
theorem dX9_boy_169 : decode cX9_boy 169 = .ok (.iload_n 1, 1) := by decide +kernel
theorem dX9_boy_170 : decode cX9_boy 170 = .ok (.iaload, 1) := by decide +kernel
theorem dX9_boy_171 : decode cX9_boy 171 = .ok (.ireturn, 1) := by decide +kernel
theorem dX9_boy_172 : decode cX9_boy 172 = .ok (.aload_n 0, 1) := by decide +kernel
theorem dX9_boy_173 : decode cX9_boy 173 = .ok (.getfield 174, 3) := by decide +kernel
theorem dX9_boy_176 : decode cX9_boy 176 = .ok (.iload_n 1, 1) := by decide +kernel
theorem dX9_boy_177 : decode cX9_boy 177 = .ok (.iaload, 1) := by decide +kernel
theorem dX9_boy_178 : decode cX9_boy 178 = .ok (.ireturn, 1) := by decide +kernel
theorem dX9_boy_179 : decode cX9_boy 179 = .ok (.aload_n 0, 1) := by decide +kernel
theorem dX9_boy_180 : decode cX9_boy 180 = .ok (.getfield 177, 3) := by decide +kernel
theorem dX9_boy_183 : decode cX9_boy 183 = .ok (.iload_n 1, 1) := by decide +kernel
theorem dX9_boy_184 : decode cX9_boy 184 = .ok (.iaload, 1) := by decide +kernel
theorem dX9_boy_185 : decode cX9_boy 185 = .ok (.ireturn, 1) := by decide +kernel
theorem dX9_boy_186 : decode cX9_boy 186 = .ok (.aload_n 0, 1) := by decide +kernel
theorem dX9_boy_187 : decode cX9_boy 187 = .ok (.getfield 186, 3) := by decide +kernel
theorem dX9_boy_190 : decode cX9_boy 190 = .ok (.iload_n 1, 1) := by decide +kernel
theorem dX9_boy_191 : decode cX9_boy 191 = .ok (.iaload, 1) := by decide +kernel
theorem dX9_boy_192 : decode cX9_boy 192 = .ok (.ireturn, 1) := by decide +kernel
theorem dX9_boy_193 : decode cX9_boy 193 = .ok (.aload_n 0, 1) := by decide +kernel
theorem dX9_boy_194 : decode cX9_boy 194 = .ok (.getfield 189, 3) := by decide +kernel
theorem dX9_boy_197 : decode cX9_boy 197 = .ok (.iload_n 1, 1) := by decide +kernel
theorem dX9_boy_198 : decode cX9_boy 198 = .ok (.iaload, 1) := by decide +kernel
theorem dX9_boy_199 : decode cX9_boy 199 = .ok (.ireturn, 1) := by decide +kernel
theorem dX9_boy_200 : decode cX9_boy 200 = .ok (.aload_n 0, 1) := by decide +kernel
theorem dX9_boy_201 : decode cX9_boy 201 = .ok (.getfield 192, 3) := by decide +kernel
theorem dX9_boy_204 : decode cX9_boy 204 = .ok (.iload_n 1, 1) := by decide +kernel
theorem dX9_boy_205 : decode cX9_boy 205 = .ok (.iaload, 1) := by decide +kernel
theorem dX9_boy_206 : decode cX9_boy 206 = .ok (.ireturn, 1) := by decide +kernel
theorem dX9_boy_207 : decode cX9_boy 207 = .ok (.iconst (-1), 1) := by decide +kernel
theorem dX9_boy_208 : decode cX9_boy 208 = .ok (.ireturn, 1) := by decide +kernel
theorem dX9_boying_0 : decode cX9_boying 0 = .ok (.aload_n 0, 1) := by decide +kernel
theorem dX9_boying_1 : decode cX9_boying 1 = .ok (.aload_n 0, 1) := by decide +kernel
theorem dX9_boying_2 : decode cX9_boying 2 = .ok (.getfield 51, 3) := by decide +kernel
theorem dX9_boying_5 : decode cX9_boying 5 = .ok (.aload_n 0, 1) := by decide +kernel
theorem dX9_boying_6 : decode cX9_boying 6 = .ok (.getfield 118, 3) := by decide +kernel
theorem dX9_boying_9 : decode cX9_boying 9 = .ok (.iaload, 1) := by decide +kernel
theorem dX9_boying_10 : decode cX9_boying 10 = .ok (.bipush 12, 2) := by decide +kernel
theorem dX9_boying_12 : decode cX9_boying 12 = .ok (.if_icmp .ne 7, 3) := by decide +kernel
theorem dX9_boying_15 : decode cX9_boying 15 = .ok (.iconst 1, 1) := by decide +kernel
theorem dX9_boying_16 : decode cX9_boying 16 = .ok (.goto 4, 3) := by decide +kernel
theorem dX9_boying_19 : decode cX9_boying 19 = .ok (.iconst 0, 1) := by decide +kernel
theorem dX9_boying_20 : decode cX9_boying 20 = .ok (.invokevirtual 381, 3) := by decide +kernel
theorem dX9_boying_23 : decode cX9_boying 23 = .ok (.ifCond .ne 4, 3) := by decide +kernel
theorem dX9_boying_26 : decode cX9_boying 26 = .ok (.return_, 1) := by decide +kernel
theorem dX9_boying_27 : decode cX9_boying 27 = .ok (.bipush 12, 2) := by decide +kernel
theorem dX9_boying_29 : decode cX9_boying 29 = .ok (.aload_n 0, 1) := by decide +kernel
theorem dX9_boying_30 : decode cX9_boying 30 = .ok (.getfield 118, 3) := by decide +kernel
theorem dX9_boying_33 : decode cX9_boying 33 = .ok (.imul, 1) := by decide +kernel
theorem dX9_boying_34 : decode cX9_boying 34 = .ok (.aload_n 0, 1) := by decide +kernel
theorem dX9_boying_35 : decode cX9_boying 35 = .ok (.getfield 51, 3) := by decide +kernel
theorem dX9_boying_38 : decode cX9_boying 38 = .ok (.aload_n 0, 1) := by decide +kernel
theorem dX9_boying_39 : decode cX9_boying 39 = .ok (.getfield 118, 3) := by decide +kernel
theorem dX9_boying_42 : decode cX9_boying 42 = .ok (.iaload, 1) := by decide +kernel
theorem dX9_boying_43 : decode cX9_boying 43 = .ok (.iadd, 1) := by decide +kernel
theorem dX9_boying_44 : decode cX9_boying 44 = .ok (.istore_n 1, 1) := by decide +kernel
theorem dX9_boying_45 : decode cX9_boying 45 = .ok (.aload_n 0, 1) := by decide +kernel
theorem dX9_boying_46 : decode cX9_boying 46 = .ok (.getfield 54, 3) := by decide +kernel
theorem dX9_boying_49 : decode cX9_boying 49 = .ok (.iload_n 1, 1) := by decide +kernel
theorem dX9_boying_50 : decode cX9_boying 50 = .ok (.aload_n 0, 1) := by decide +kernel
theorem dX9_boying_51 : decode cX9_boying 51 = .ok (.invokevirtual 385, 3) := by decide +kernel
theorem dX9_boying_54 : decode cX9_boying 54 = .ok (.lastore, 1) := by decide +kernel
theorem dX9_boying_55 : decode cX9_boying 55 = .ok (.aload_n 0, 1) := by decide +kernel
theorem dX9_boying_56 : decode cX9_boying 56 = .ok (.ldc2_w 288, 3) := by decide +kernel
theorem dX9_boying_59 : decode cX9_boying 59 = .ok (.invokevirtual 389, 3) := by decide +kernel
theorem dX9_boying_62 : decode cX9_boying 62 = .ok (.aload_n 0, 1) := by decide +kernel
theorem dX9_boying_63 : decode cX9_boying 63 = .ok (.getfield 58, 3) := by decide +kernel
theorem dX9_boying_66 : decode cX9_boying 66 = .ok (.iload_n 1, 1) := by decide +kernel
theorem dX9_boying_67 : decode cX9_boying 67 = .ok (.aload_n 0, 1) := by decide +kernel
theorem dX9_boying_68 : decode cX9_boying 68 = .ok (.iconst 1, 1) := by decide +kernel
theorem dX9_boying_69 : decode cX9_boying 69 = .ok (.bipush 99, 2) := by decide +kernel
theorem dX9_boying_71 : decode cX9_boying 71 = .ok (.invokevirtual 393, 3) := by decide +kernel
theorem dX9_boying_74 : decode cX9_boying 74 = .ok (.iastore, 1) := by decide +kernel
theorem dX9_boying_75 : decode cX9_boying 75 = .ok (.aload_n 0, 1) := by decide +kernel
theorem dX9_boying_76 : decode cX9_boying 76 = .ok (.ldc2_w 290, 3) := by decide +kernel
theorem dX9_boying_79 : decode cX9_boying 79 = .ok (.invokevirtual 389, 3) := by decide +kernel
theorem dX9_boying_82 : decode cX9_boying 82 = .ok (.aload_n 0, 1) := by decide +kernel
theorem dX9_boying_83 : decode cX9_boying 83 = .ok (.getfield 61, 3) := by decide +kernel
theorem dX9_boying_86 : decode cX9_boying 86 = .ok (.iload_n 1, 1) := by decide +kernel
theorem dX9_boying_87 : decode cX9_boying 87 = .ok (.aload_n 0, 1) := by decide +kernel
theorem dX9_boying_88 : decode cX9_boying 88 = .ok (.iconst 1, 1) := by decide +kernel
theorem dX9_boying_89 : decode cX9_boying 89 = .ok (.sipush 999, 3) := by decide +kernel
theorem dX9_boying_92 : decode cX9_boying 92 = .ok (.invokevirtual 393, 3) := by decide +kernel
theorem dX9_boying_95 : decode cX9_boying 95 = .ok (.iastore, 1) := by decide +kernel
theorem dX9_boying_96 : decode cX9_boying 96 = .ok (.aload_n 0, 1) := by decide +kernel
theorem dX9_boying_97 : decode cX9_boying 97 = .ok (.ldc2_w 292, 3) := by decide +kernel
theorem dX9_boying_100 : decode cX9_boying 100 = .ok (.invokevirtual 389, 3) := by decide +kernel
theorem dX9_boying_103 : decode cX9_boying 103 = .ok (.aload_n 0, 1) := by decide +kernel
theorem dX9_boying_104 : decode cX9_boying 104 = .ok (.getfield 64, 3) := by decide +kernel
theorem dX9_boying_107 : decode cX9_boying 107 = .ok (.iload_n 1, 1) := by decide +kernel
theorem dX9_boying_108 : decode cX9_boying 108 = .ok (.aload_n 0, 1) := by decide +kernel
theorem dX9_boying_109 : decode cX9_boying 109 = .ok (.iconst 0, 1) := by decide +kernel
theorem dX9_boying_110 : decode cX9_boying 110 = .ok (.bipush 100, 2) := by decide +kernel
theorem dX9_boying_112 : decode cX9_boying 112 = .ok (.invokevirtual 393, 3) := by decide +kernel
theorem dX9_boying_115 : decode cX9_boying 115 = .ok (.iastore, 1) := by decide +kernel
theorem dX9_boying_116 : decode cX9_boying 116 = .ok (.aload_n 0, 1) := by decide +kernel
theorem dX9_boying_117 : decode cX9_boying 117 = .ok (.ldc2_w 294, 3) := by decide +kernel
theorem dX9_boying_120 : decode cX9_boying 120 = .ok (.invokevirtual 389, 3) := by decide +kernel
theorem dX9_boying_123 : decode cX9_boying 123 = .ok (.aload_n 0, 1) := by decide +kernel
theorem dX9_boying_124 : decode cX9_boying 124 = .ok (.getfield 67, 3) := by decide +kernel
theorem dX9_boying_127 : decode cX9_boying 127 = .ok (.iload_n 1, 1) := by decide +kernel
theorem dX9_boying_128 : decode cX9_boying 128 = .ok (.aload_n 0, 1) := by decide +kernel
theorem dX9_boying_129 : decode cX9_boying 129 = .ok (.iconst 0, 1) := by decide +kernel
theorem dX9_boying_130 : decode cX9_boying 130 = .ok (.bipush 99, 2) := by decide +kernel
theorem dX9_boying_132 : decode cX9_boying 132 = .ok (.invokevirtual 393, 3) := by decide +kernel
theorem dX9_boying_135 : decode cX9_boying 135 = .ok (.iastore, 1) := by decide +kernel
theorem dX9_boying_136 : decode cX9_boying 136 = .ok (.aload_n 0, 1) := by decide +kernel
theorem dX9_boying_137 : decode cX9_boying 137 = .ok (.iload_n 1, 1) := by decide +kernel
theorem dX9_boying_138 : decode cX9_boying 138 = .ok (.invokevirtual 397, 3) := by decide +kernel
theorem dX9_boying_141 : decode cX9_boying 141 = .ok (.aload_n 0, 1) := by decide +kernel
theorem dX9_boying_142 : decode cX9_boying 142 = .ok (.getfield 36, 3) := by decide +kernel
theorem dX9_boying_145 : decode cX9_boying 145 = .ok (.ifCond .ne 16, 3) := by decide +kernel
theorem dX9_boying_148 : decode cX9_boying 148 = .ok (.aload_n 0, 1) := by decide +kernel
theorem dX9_boying_149 : decode cX9_boying 149 = .ok (.getfield 51, 3) := by decide +kernel
theorem dX9_boying_152 : decode cX9_boying 152 = .ok (.aload_n 0, 1) := by decide +kernel
theorem dX9_boying_153 : decode cX9_boying 153 = .ok (.getfield 118, 3) := by decide +kernel
theorem dX9_boying_156 : decode cX9_boying 156 = .ok (.dup2, 1) := by decide +kernel
theorem dX9_boying_157 : decode cX9_boying 157 = .ok (.iaload, 1) := by decide +kernel
theorem dX9_boying_158 : decode cX9_boying 158 = .ok (.iconst 1, 1) := by decide +kernel
theorem dX9_boying_159 : decode cX9_boying 159 = .ok (.iadd, 1) := by decide +kernel
theorem dX9_boying_160 : decode cX9_boying 160 = .ok (.iastore, 1) := by decide +kernel
theorem dX9_boying_161 : decode cX9_boying 161 = .ok (.return_, 1) := by decide +kernel
theorem dX9_canDream_0 : decode cX9_canDream 0 = .ok (.aload_n 0, 1) := by decide +kernel
theorem dX9_canDream_1 : decode cX9_canDream 1 = .ok (.getfield 168, 3) := by decide +kernel
theorem dX9_canDream_4 : decode cX9_canDream 4 = .ok (.bipush 12, 2) := by decide +kernel
theorem dX9_canDream_6 : decode cX9_canDream 6 = .ok (.iload_n 1, 1) := by decide +kernel
theorem dX9_canDream_7 : decode cX9_canDream 7 = .ok (.imul, 1) := by decide +kernel
theorem dX9_canDream_8 : decode cX9_canDream 8 = .ok (.iload_n 2, 1) := by decide +kernel
theorem dX9_canDream_9 : decode cX9_canDream 9 = .ok (.iadd, 1) := by decide +kernel
theorem dX9_canDream_10 : decode cX9_canDream 10 = .ok (.iaload, 1) := by decide +kernel
theorem dX9_canDream_11 : decode cX9_canDream 11 = .ok (.iconst 1, 1) := by decide +kernel
theorem dX9_canDream_12 : decode cX9_canDream 12 = .ok (.if_icmp .ne 30, 3) := by decide +kernel
theorem dX9_canDream_15 : decode cX9_canDream 15 = .ok (.aload_n 0, 1) := by decide +kernel
theorem dX9_canDream_16 : decode cX9_canDream 16 = .ok (.iload_n 2, 1) := by decide +kernel
theorem dX9_canDream_17 : decode cX9_canDream 17 = .ok (.invokevirtual 475, 3) := by decide +kernel
theorem dX9_canDream_20 : decode cX9_canDream 20 = .ok (.ifCond .ne 22, 3) := by decide +kernel
theorem dX9_canDream_23 : decode cX9_canDream 23 = .ok (.aload_n 0, 1) := by decide +kernel
theorem dX9_canDream_24 : decode cX9_canDream 24 = .ok (.getfield 171, 3) := by decide +kernel
theorem dX9_canDream_27 : decode cX9_canDream 27 = .ok (.bipush 12, 2) := by decide +kernel
theorem dX9_canDream_29 : decode cX9_canDream 29 = .ok (.iload_n 1, 1) := by decide +kernel
theorem dX9_canDream_30 : decode cX9_canDream 30 = .ok (.imul, 1) := by decide +kernel
theorem dX9_canDream_31 : decode cX9_canDream 31 = .ok (.iload_n 2, 1) := by decide +kernel
theorem dX9_canDream_32 : decode cX9_canDream 32 = .ok (.iadd, 1) := by decide +kernel
theorem dX9_canDream_33 : decode cX9_canDream 33 = .ok (.iaload, 1) := by decide +kernel
theorem dX9_canDream_34 : decode cX9_canDream 34 = .ok (.iconst (-1), 1) := by decide +kernel
theorem dX9_canDream_35 : decode cX9_canDream 35 = .ok (.if_icmp .ne 7, 3) := by decide +kernel
theorem dX9_canDream_38 : decode cX9_canDream 38 = .ok (.iconst 1, 1) := by decide +kernel
theorem dX9_canDream_39 : decode cX9_canDream 39 = .ok (.goto 4, 3) := by decide +kernel
theorem dX9_canDream_42 : decode cX9_canDream 42 = .ok (.iconst 0, 1) := by decide +kernel
theorem dX9_canDream_43 : decode cX9_canDream 43 = .ok (.ireturn, 1) := by decide +kernel
theorem dX9_changes_0 : decode cX9_changes 0 = .ok (.aload_n 0, 1) := by decide +kernel
theorem dX9_changes_1 : decode cX9_changes 1 = .ok (.getfield 222, 3) := by decide +kernel
theorem dX9_changes_4 : decode cX9_changes 4 = .ok (.iload_n 1, 1) := by decide +kernel
theorem dX9_changes_5 : decode cX9_changes 5 = .ok (.iaload, 1) := by decide +kernel
theorem dX9_changes_6 : decode cX9_changes 6 = .ok (.istore_n 3, 1) := by decide +kernel
theorem dX9_changes_7 : decode cX9_changes 7 = .ok (.aload_n 0, 1) := by decide +kernel
theorem dX9_changes_8 : decode cX9_changes 8 = .ok (.getfield 222, 3) := by decide +kernel
theorem dX9_changes_11 : decode cX9_changes 11 = .ok (.iload_n 1, 1) := by decide +kernel
theorem dX9_changes_12 : decode cX9_changes 12 = .ok (.aload_n 0, 1) := by decide +kernel
theorem dX9_changes_13 : decode cX9_changes 13 = .ok (.getfield 222, 3) := by decide +kernel
theorem dX9_changes_16 : decode cX9_changes 16 = .ok (.iload_n 2, 1) := by decide +kernel
theorem dX9_changes_17 : decode cX9_changes 17 = .ok (.iaload, 1) := by decide +kernel
theorem dX9_changes_18 : decode cX9_changes 18 = .ok (.iastore, 1) := by decide +kernel
theorem dX9_changes_19 : decode cX9_changes 19 = .ok (.aload_n 0, 1) := by decide +kernel
theorem dX9_changes_20 : decode cX9_changes 20 = .ok (.getfield 222, 3) := by decide +kernel
theorem dX9_changes_23 : decode cX9_changes 23 = .ok (.iload_n 2, 1) := by decide +kernel
theorem dX9_changes_24 : decode cX9_changes 24 = .ok (.iload_n 3, 1) := by decide +kernel
theorem dX9_changes_25 : decode cX9_changes 25 = .ok (.iastore, 1) := by decide +kernel
theorem dX9_changes_26 : decode cX9_changes 26 = .ok (.return_, 1) := by decide +kernel
theorem dX9_clears_0 : decode cX9_clears 0 = .ok (.aload_n 0, 1) := by decide +kernel
theorem dX9_clears_1 : decode cX9_clears 1 = .ok (.getfield 171, 3) := by decide +kernel
theorem dX9_clears_4 : decode cX9_clears 4 = .ok (.iload_n 1, 1) := by decide +kernel
theorem dX9_clears_5 : decode cX9_clears 5 = .ok (.iconst (-1), 1) := by decide +kernel
theorem dX9_clears_6 : decode cX9_clears 6 = .ok (.iastore, 1) := by decide +kernel
theorem dX9_clears_7 : decode cX9_clears 7 = .ok (.aload_n 0, 1) := by decide +kernel
theorem dX9_clears_8 : decode cX9_clears 8 = .ok (.getfield 174, 3) := by decide +kernel
theorem dX9_clears_11 : decode cX9_clears 11 = .ok (.iload_n 1, 1) := by decide +kernel
theorem dX9_clears_12 : decode cX9_clears 12 = .ok (.iconst 0, 1) := by decide +kernel
theorem dX9_clears_13 : decode cX9_clears 13 = .ok (.iastore, 1) := by decide +kernel
theorem dX9_clears_14 : decode cX9_clears 14 = .ok (.aload_n 0, 1) := by decide +kernel
theorem dX9_clears_15 : decode cX9_clears 15 = .ok (.getfield 177, 3) := by decide +kernel
theorem dX9_clears_18 : decode cX9_clears 18 = .ok (.iload_n 1, 1) := by decide +kernel
theorem dX9_clears_19 : decode cX9_clears 19 = .ok (.iconst (-1), 1) := by decide +kernel
theorem dX9_clears_20 : decode cX9_clears 20 = .ok (.iastore, 1) := by decide +kernel
theorem dX9_clears_21 : decode cX9_clears 21 = .ok (.aload_n 0, 1) := by decide +kernel
theorem dX9_clears_22 : decode cX9_clears 22 = .ok (.getfield 180, 3) := by decide +kernel
theorem dX9_clears_25 : decode cX9_clears 25 = .ok (.iload_n 1, 1) := by decide +kernel
theorem dX9_clears_26 : decode cX9_clears 26 = .ok (.iconst 0, 1) := by decide +kernel
theorem dX9_clears_27 : decode cX9_clears 27 = .ok (.iastore, 1) := by decide +kernel
theorem dX9_clears_28 : decode cX9_clears 28 = .ok (.aload_n 0, 1) := by decide +kernel
theorem dX9_clears_29 : decode cX9_clears 29 = .ok (.getfield 183, 3) := by decide +kernel
theorem dX9_clears_32 : decode cX9_clears 32 = .ok (.iload_n 1, 1) := by decide +kernel
theorem dX9_clears_33 : decode cX9_clears 33 = .ok (.iconst 0, 1) := by decide +kernel
theorem dX9_clears_34 : decode cX9_clears 34 = .ok (.iastore, 1) := by decide +kernel
theorem dX9_clears_35 : decode cX9_clears 35 = .ok (.aload_n 0, 1) := by decide +kernel
theorem dX9_clears_36 : decode cX9_clears 36 = .ok (.getfield 189, 3) := by decide +kernel
theorem dX9_clears_39 : decode cX9_clears 39 = .ok (.iload_n 1, 1) := by decide +kernel
theorem dX9_clears_40 : decode cX9_clears 40 = .ok (.iconst 0, 1) := by decide +kernel
theorem dX9_clears_41 : decode cX9_clears 41 = .ok (.iastore, 1) := by decide +kernel
theorem dX9_clears_42 : decode cX9_clears 42 = .ok (.aload_n 0, 1) := by decide +kernel
theorem dX9_clears_43 : decode cX9_clears 43 = .ok (.getfield 192, 3) := by decide +kernel
theorem dX9_clears_46 : decode cX9_clears 46 = .ok (.iload_n 1, 1) := by decide +kernel
theorem dX9_clears_47 : decode cX9_clears 47 = .ok (.iconst 0, 1) := by decide +kernel
theorem dX9_clears_48 : decode cX9_clears 48 = .ok (.iastore, 1) := by decide +kernel
theorem dX9_clears_49 : decode cX9_clears 49 = .ok (.return_, 1) := by decide +kernel
theorem dX9_comes_0 : decode cX9_comes 0 = .ok (.aload_n 0, 1) := by decide +kernel
theorem dX9_comes_1 : decode cX9_comes 1 = .ok (.getfield 222, 3) := by decide +kernel
theorem dX9_comes_4 : decode cX9_comes 4 = .ok (.iload_n 1, 1) := by decide +kernel
theorem dX9_comes_5 : decode cX9_comes 5 = .ok (.iaload, 1) := by decide +kernel
theorem dX9_comes_6 : decode cX9_comes 6 = .ok (.istore_n 3, 1) := by decide +kernel
theorem dX9_comes_7 : decode cX9_comes 7 = .ok (.aload_n 0, 1) := by decide +kernel
theorem dX9_comes_8 : decode cX9_comes 8 = .ok (.getfield 234, 3) := by decide +kernel
theorem dX9_comes_11 : decode cX9_comes 11 = .ok (.iload_n 1, 1) := by decide +kernel
theorem dX9_comes_12 : decode cX9_comes 12 = .ok (.iload_n 2, 1) := by decide +kernel
theorem dX9_comes_13 : decode cX9_comes 13 = .ok (.iastore, 1) := by decide +kernel
theorem dX9_comes_14 : decode cX9_comes 14 = .ok (.aload_n 0, 1) := by decide +kernel
theorem dX9_comes_15 : decode cX9_comes 15 = .ok (.iload_n 3, 1) := by decide +kernel
theorem dX9_comes_16 : decode cX9_comes 16 = .ok (.invokevirtual 475, 3) := by decide +kernel
theorem dX9_comes_19 : decode cX9_comes 19 = .ok (.ifCond .eq 5, 3) := by decide +kernel
theorem dX9_comes_22 : decode cX9_comes 22 = .ok (.iload_n 2, 1) := by decide +kernel
theorem dX9_comes_23 : decode cX9_comes 23 = .ok (.ireturn, 1) := by decide +kernel
theorem dX9_comes_24 : decode cX9_comes 24 = .ok (.aload_n 0, 1) := by decide +kernel
theorem dX9_comes_25 : decode cX9_comes 25 = .ok (.getfield 228, 3) := by decide +kernel
theorem dX9_comes_28 : decode cX9_comes 28 = .ok (.ifCond .ne 22, 3) := by decide +kernel
theorem dX9_comes_31 : decode cX9_comes 31 = .ok (.aload_n 0, 1) := by decide +kernel
theorem dX9_comes_32 : decode cX9_comes 32 = .ok (.getfield 168, 3) := by decide +kernel
theorem dX9_comes_35 : decode cX9_comes 35 = .ok (.bipush 12, 2) := by decide +kernel
theorem dX9_comes_37 : decode cX9_comes 37 = .ok (.aload_n 0, 1) := by decide +kernel
theorem dX9_comes_38 : decode cX9_comes 38 = .ok (.getfield 231, 3) := by decide +kernel
theorem dX9_comes_41 : decode cX9_comes 41 = .ok (.imul, 1) := by decide +kernel
theorem dX9_comes_42 : decode cX9_comes 42 = .ok (.iload_n 3, 1) := by decide +kernel
theorem dX9_comes_43 : decode cX9_comes 43 = .ok (.iadd, 1) := by decide +kernel
theorem dX9_comes_44 : decode cX9_comes 44 = .ok (.iaload, 1) := by decide +kernel
theorem dX9_comes_45 : decode cX9_comes 45 = .ok (.ifCond .ne 5, 3) := by decide +kernel
theorem dX9_comes_48 : decode cX9_comes 48 = .ok (.iconst 0, 1) := by decide +kernel
theorem dX9_comes_49 : decode cX9_comes 49 = .ok (.ireturn, 1) := by decide +kernel
theorem dX9_comes_50 : decode cX9_comes 50 = .ok (.iload_n 2, 1) := by decide +kernel
theorem dX9_comes_51 : decode cX9_comes 51 = .ok (.aload_n 0, 1) := by decide +kernel
theorem dX9_comes_52 : decode cX9_comes 52 = .ok (.iload_n 1, 1) := by decide +kernel
theorem dX9_comes_53 : decode cX9_comes 53 = .ok (.iload_n 2, 1) := by decide +kernel
theorem dX9_comes_54 : decode cX9_comes 54 = .ok (.invokevirtual 478, 3) := by decide +kernel
theorem dX9_comes_57 : decode cX9_comes 57 = .ok (.if_icmp .le 17, 3) := by decide +kernel
theorem dX9_comes_60 : decode cX9_comes 60 = .ok (.aload_n 0, 1) := by decide +kernel
theorem dX9_comes_61 : decode cX9_comes 61 = .ok (.dup, 1) := by decide +kernel
theorem dX9_comes_62 : decode cX9_comes 62 = .ok (.getfield 237, 3) := by decide +kernel
theorem dX9_comes_65 : decode cX9_comes 65 = .ok (.iconst 1, 1) := by decide +kernel
theorem dX9_comes_66 : decode cX9_comes 66 = .ok (.iload_n 1, 1) := by decide +kernel
theorem dX9_comes_67 : decode cX9_comes 67 = .ok (.ishl, 1) := by decide +kernel
theorem dX9_comes_68 : decode cX9_comes 68 = .ok (.ior, 1) := by decide +kernel
theorem dX9_comes_69 : decode cX9_comes 69 = .ok (.putfield 237, 3) := by decide +kernel
theorem dX9_comes_72 : decode cX9_comes 72 = .ok (.iconst 0, 1) := by decide +kernel
theorem dX9_comes_73 : decode cX9_comes 73 = .ok (.ireturn, 1) := by decide +kernel
theorem dX9_comes_74 : decode cX9_comes 74 = .ok (.aload_n 0, 1) := by decide +kernel
theorem dX9_comes_75 : decode cX9_comes 75 = .ok (.iload_n 1, 1) := by decide +kernel
theorem dX9_comes_76 : decode cX9_comes 76 = .ok (.iload_n 2, 1) := by decide +kernel
theorem dX9_comes_77 : decode cX9_comes 77 = .ok (.invokevirtual 481, 3) := by decide +kernel
theorem dX9_comes_80 : decode cX9_comes 80 = .ok (.ireturn, 1) := by decide +kernel
theorem dX9_copies_0 : decode cX9_copies 0 = .ok (.aload_n 0, 1) := by decide +kernel
theorem dX9_copies_1 : decode cX9_copies 1 = .ok (.getfield 162, 3) := by decide +kernel
theorem dX9_copies_4 : decode cX9_copies 4 = .ok (.iload_n 1, 1) := by decide +kernel
theorem dX9_copies_5 : decode cX9_copies 5 = .ok (.aload_n 0, 1) := by decide +kernel
theorem dX9_copies_6 : decode cX9_copies 6 = .ok (.getfield 162, 3) := by decide +kernel
theorem dX9_copies_9 : decode cX9_copies 9 = .ok (.iload_n 2, 1) := by decide +kernel
theorem dX9_copies_10 : decode cX9_copies 10 = .ok (.iaload, 1) := by decide +kernel
theorem dX9_copies_11 : decode cX9_copies 11 = .ok (.iastore, 1) := by decide +kernel
theorem dX9_copies_12 : decode cX9_copies 12 = .ok (.iconst 0, 1) := by decide +kernel
theorem dX9_copies_13 : decode cX9_copies 13 = .ok (.istore_n 3, 1) := by decide +kernel
theorem dX9_copies_14 : decode cX9_copies 14 = .ok (.iload_n 3, 1) := by decide +kernel
theorem dX9_copies_15 : decode cX9_copies 15 = .ok (.bipush 12, 2) := by decide +kernel
theorem dX9_copies_17 : decode cX9_copies 17 = .ok (.if_icmp .ge 165, 3) := by decide +kernel
theorem dX9_copies_20 : decode cX9_copies 20 = .ok (.bipush 12, 2) := by decide +kernel
theorem dX9_copies_22 : decode cX9_copies 22 = .ok (.iload_n 1, 1) := by decide +kernel
theorem dX9_copies_23 : decode cX9_copies 23 = .ok (.imul, 1) := by decide +kernel
theorem dX9_copies_24 : decode cX9_copies 24 = .ok (.iload_n 3, 1) := by decide +kernel
theorem dX9_copies_25 : decode cX9_copies 25 = .ok (.iadd, 1) := by decide +kernel
theorem dX9_copies_26 : decode cX9_copies 26 = .ok (.istore 4, 2) := by decide +kernel
theorem dX9_copies_28 : decode cX9_copies 28 = .ok (.bipush 12, 2) := by decide +kernel
theorem dX9_copies_30 : decode cX9_copies 30 = .ok (.iload_n 2, 1) := by decide +kernel
theorem dX9_copies_31 : decode cX9_copies 31 = .ok (.imul, 1) := by decide +kernel
theorem dX9_copies_32 : decode cX9_copies 32 = .ok (.iload_n 3, 1) := by decide +kernel
theorem dX9_copies_33 : decode cX9_copies 33 = .ok (.iadd, 1) := by decide +kernel
theorem dX9_copies_34 : decode cX9_copies 34 = .ok (.istore 5, 2) := by decide +kernel
theorem dX9_copies_36 : decode cX9_copies 36 = .ok (.aload_n 0, 1) := by decide +kernel
theorem dX9_copies_37 : decode cX9_copies 37 = .ok (.getfield 165, 3) := by decide +kernel
theorem dX9_copies_40 : decode cX9_copies 40 = .ok (.iload 4, 2) := by decide +kernel
theorem dX9_copies_42 : decode cX9_copies 42 = .ok (.aload_n 0, 1) := by decide +kernel
theorem dX9_copies_43 : decode cX9_copies 43 = .ok (.getfield 165, 3) := by decide +kernel
theorem dX9_copies_46 : decode cX9_copies 46 = .ok (.iload 5, 2) := by decide +kernel
theorem dX9_copies_48 : decode cX9_copies 48 = .ok (.iaload, 1) := by decide +kernel
theorem dX9_copies_49 : decode cX9_copies 49 = .ok (.iastore, 1) := by decide +kernel
theorem dX9_copies_50 : decode cX9_copies 50 = .ok (.aload_n 0, 1) := by decide +kernel
theorem dX9_copies_51 : decode cX9_copies 51 = .ok (.getfield 168, 3) := by decide +kernel
theorem dX9_copies_54 : decode cX9_copies 54 = .ok (.iload 4, 2) := by decide +kernel
theorem dX9_copies_56 : decode cX9_copies 56 = .ok (.aload_n 0, 1) := by decide +kernel
theorem dX9_copies_57 : decode cX9_copies 57 = .ok (.getfield 168, 3) := by decide +kernel
theorem dX9_copies_60 : decode cX9_copies 60 = .ok (.iload 5, 2) := by decide +kernel
theorem dX9_copies_62 : decode cX9_copies 62 = .ok (.iaload, 1) := by decide +kernel
theorem dX9_copies_63 : decode cX9_copies 63 = .ok (.iastore, 1) := by decide +kernel
theorem dX9_copies_64 : decode cX9_copies 64 = .ok (.aload_n 0, 1) := by decide +kernel
theorem dX9_copies_65 : decode cX9_copies 65 = .ok (.getfield 171, 3) := by decide +kernel
theorem dX9_copies_68 : decode cX9_copies 68 = .ok (.iload 4, 2) := by decide +kernel
theorem dX9_copies_70 : decode cX9_copies 70 = .ok (.aload_n 0, 1) := by decide +kernel
theorem dX9_copies_71 : decode cX9_copies 71 = .ok (.getfield 171, 3) := by decide +kernel
theorem dX9_copies_74 : decode cX9_copies 74 = .ok (.iload 5, 2) := by decide +kernel
theorem dX9_copies_76 : decode cX9_copies 76 = .ok (.iaload, 1) := by decide +kernel
theorem dX9_copies_77 : decode cX9_copies 77 = .ok (.iastore, 1) := by decide +kernel
theorem dX9_copies_78 : decode cX9_copies 78 = .ok (.aload_n 0, 1) := by decide +kernel
theorem dX9_copies_79 : decode cX9_copies 79 = .ok (.getfield 174, 3) := by decide +kernel
theorem dX9_copies_82 : decode cX9_copies 82 = .ok (.iload 4, 2) := by decide +kernel
theorem dX9_copies_84 : decode cX9_copies 84 = .ok (.aload_n 0, 1) := by decide +kernel
theorem dX9_copies_85 : decode cX9_copies 85 = .ok (.getfield 174, 3) := by decide +kernel
theorem dX9_copies_88 : decode cX9_copies 88 = .ok (.iload 5, 2) := by decide +kernel
theorem dX9_copies_90 : decode cX9_copies 90 = .ok (.iaload, 1) := by decide +kernel
theorem dX9_copies_91 : decode cX9_copies 91 = .ok (.iastore, 1) := by decide +kernel
theorem dX9_copies_92 : decode cX9_copies 92 = .ok (.aload_n 0, 1) := by decide +kernel
theorem dX9_copies_93 : decode cX9_copies 93 = .ok (.getfield 177, 3) := by decide +kernel
theorem dX9_copies_96 : decode cX9_copies 96 = .ok (.iload 4, 2) := by decide +kernel
theorem dX9_copies_98 : decode cX9_copies 98 = .ok (.aload_n 0, 1) := by decide +kernel
theorem dX9_copies_99 : decode cX9_copies 99 = .ok (.getfield 177, 3) := by decide +kernel
theorem dX9_copies_102 : decode cX9_copies 102 = .ok (.iload 5, 2) := by decide +kernel
theorem dX9_copies_104 : decode cX9_copies 104 = .ok (.iaload, 1) := by decide +kernel
theorem dX9_copies_105 : decode cX9_copies 105 = .ok (.iastore, 1) := by decide +kernel
theorem dX9_copies_106 : decode cX9_copies 106 = .ok (.aload_n 0, 1) := by decide +kernel
theorem dX9_copies_107 : decode cX9_copies 107 = .ok (.getfield 180, 3) := by decide +kernel
theorem dX9_copies_110 : decode cX9_copies 110 = .ok (.iload 4, 2) := by decide +kernel
theorem dX9_copies_112 : decode cX9_copies 112 = .ok (.aload_n 0, 1) := by decide +kernel
theorem dX9_copies_113 : decode cX9_copies 113 = .ok (.getfield 180, 3) := by decide +kernel
theorem dX9_copies_116 : decode cX9_copies 116 = .ok (.iload 5, 2) := by decide +kernel
theorem dX9_copies_118 : decode cX9_copies 118 = .ok (.iaload, 1) := by decide +kernel
theorem dX9_copies_119 : decode cX9_copies 119 = .ok (.iastore, 1) := by decide +kernel
theorem dX9_copies_120 : decode cX9_copies 120 = .ok (.aload_n 0, 1) := by decide +kernel
theorem dX9_copies_121 : decode cX9_copies 121 = .ok (.getfield 183, 3) := by decide +kernel
theorem dX9_copies_124 : decode cX9_copies 124 = .ok (.iload 4, 2) := by decide +kernel
theorem dX9_copies_126 : decode cX9_copies 126 = .ok (.aload_n 0, 1) := by decide +kernel
theorem dX9_copies_127 : decode cX9_copies 127 = .ok (.getfield 183, 3) := by decide +kernel
theorem dX9_copies_130 : decode cX9_copies 130 = .ok (.iload 5, 2) := by decide +kernel
theorem dX9_copies_132 : decode cX9_copies 132 = .ok (.iaload, 1) := by decide +kernel
theorem dX9_copies_133 : decode cX9_copies 133 = .ok (.iastore, 1) := by decide +kernel
theorem dX9_copies_134 : decode cX9_copies 134 = .ok (.aload_n 0, 1) := by decide +kernel
theorem dX9_copies_135 : decode cX9_copies 135 = .ok (.getfield 186, 3) := by decide +kernel
theorem dX9_copies_138 : decode cX9_copies 138 = .ok (.iload 4, 2) := by decide +kernel
theorem dX9_copies_140 : decode cX9_copies 140 = .ok (.aload_n 0, 1) := by decide +kernel
theorem dX9_copies_141 : decode cX9_copies 141 = .ok (.getfield 186, 3) := by decide +kernel
theorem dX9_copies_144 : decode cX9_copies 144 = .ok (.iload 5, 2) := by decide +kernel
theorem dX9_copies_146 : decode cX9_copies 146 = .ok (.iaload, 1) := by decide +kernel
theorem dX9_copies_147 : decode cX9_copies 147 = .ok (.iastore, 1) := by decide +kernel
theorem dX9_copies_148 : decode cX9_copies 148 = .ok (.aload_n 0, 1) := by decide +kernel
theorem dX9_copies_149 : decode cX9_copies 149 = .ok (.getfield 189, 3) := by decide +kernel
theorem dX9_copies_152 : decode cX9_copies 152 = .ok (.iload 4, 2) := by decide +kernel
theorem dX9_copies_154 : decode cX9_copies 154 = .ok (.aload_n 0, 1) := by decide +kernel
theorem dX9_copies_155 : decode cX9_copies 155 = .ok (.getfield 189, 3) := by decide +kernel
theorem dX9_copies_158 : decode cX9_copies 158 = .ok (.iload 5, 2) := by decide +kernel
theorem dX9_copies_160 : decode cX9_copies 160 = .ok (.iaload, 1) := by decide +kernel
theorem dX9_copies_161 : decode cX9_copies 161 = .ok (.iastore, 1) := by decide +kernel
theorem dX9_copies_162 : decode cX9_copies 162 = .ok (.aload_n 0, 1) := by decide +kernel
theorem dX9_copies_163 : decode cX9_copies 163 = .ok (.getfield 192, 3) := by decide +kernel
theorem dX9_copies_166 : decode cX9_copies 166 = .ok (.iload 4, 2) := by decide +kernel
theorem dX9_copies_168 : decode cX9_copies 168 = .ok (.aload_n 0, 1) := by decide +kernel
theorem dX9_copies_169 : decode cX9_copies 169 = .ok (.getfield 192, 3) := by decide +kernel
theorem dX9_copies_172 : decode cX9_copies 172 = .ok (.iload 5, 2) := by decide +kernel
theorem dX9_copies_174 : decode cX9_copies 174 = .ok (.iaload, 1) := by decide +kernel
theorem dX9_copies_175 : decode cX9_copies 175 = .ok (.iastore, 1) := by decide +kernel
theorem dX9_copies_176 : decode cX9_copies 176 = .ok (.iinc 3 1, 3) := by decide +kernel
theorem dX9_copies_179 : decode cX9_copies 179 = .ok (.goto (-165), 3) := by decide +kernel
theorem dX9_copies_182 : decode cX9_copies 182 = .ok (.iconst 0, 1) := by decide +kernel
theorem dX9_copies_183 : decode cX9_copies 183 = .ok (.istore_n 3, 1) := by decide +kernel
theorem dX9_copies_184 : decode cX9_copies 184 = .ok (.iload_n 3, 1) := by decide +kernel
theorem dX9_copies_185 : decode cX9_copies 185 = .ok (.bipush 11, 2) := by decide +kernel
theorem dX9_copies_187 : decode cX9_copies 187 = .ok (.if_icmp .ge 53, 3) := by decide +kernel
theorem dX9_copies_190 : decode cX9_copies 190 = .ok (.aload_n 0, 1) := by decide +kernel
theorem dX9_copies_191 : decode cX9_copies 191 = .ok (.getfield 195, 3) := by decide +kernel
theorem dX9_copies_194 : decode cX9_copies 194 = .ok (.bipush 11, 2) := by decide +kernel
theorem dX9_copies_196 : decode cX9_copies 196 = .ok (.iload_n 1, 1) := by decide +kernel
theorem dX9_copies_197 : decode cX9_copies 197 = .ok (.imul, 1) := by decide +kernel
theorem dX9_copies_198 : decode cX9_copies 198 = .ok (.iload_n 3, 1) := by decide +kernel
theorem dX9_copies_199 : decode cX9_copies 199 = .ok (.iadd, 1) := by decide +kernel
theorem dX9_copies_200 : decode cX9_copies 200 = .ok (.aload_n 0, 1) := by decide +kernel
theorem dX9_copies_201 : decode cX9_copies 201 = .ok (.getfield 195, 3) := by decide +kernel
theorem dX9_copies_204 : decode cX9_copies 204 = .ok (.bipush 11, 2) := by decide +kernel
theorem dX9_copies_206 : decode cX9_copies 206 = .ok (.iload_n 2, 1) := by decide +kernel
theorem dX9_copies_207 : decode cX9_copies 207 = .ok (.imul, 1) := by decide +kernel
theorem dX9_copies_208 : decode cX9_copies 208 = .ok (.iload_n 3, 1) := by decide +kernel
theorem dX9_copies_209 : decode cX9_copies 209 = .ok (.iadd, 1) := by decide +kernel
theorem dX9_copies_210 : decode cX9_copies 210 = .ok (.iaload, 1) := by decide +kernel
theorem dX9_copies_211 : decode cX9_copies 211 = .ok (.iastore, 1) := by decide +kernel
theorem dX9_copies_212 : decode cX9_copies 212 = .ok (.aload_n 0, 1) := by decide +kernel
theorem dX9_copies_213 : decode cX9_copies 213 = .ok (.getfield 198, 3) := by decide +kernel
theorem dX9_copies_216 : decode cX9_copies 216 = .ok (.bipush 11, 2) := by decide +kernel
theorem dX9_copies_218 : decode cX9_copies 218 = .ok (.iload_n 1, 1) := by decide +kernel
theorem dX9_copies_219 : decode cX9_copies 219 = .ok (.imul, 1) := by decide +kernel
theorem dX9_copies_220 : decode cX9_copies 220 = .ok (.iload_n 3, 1) := by decide +kernel
theorem dX9_copies_221 : decode cX9_copies 221 = .ok (.iadd, 1) := by decide +kernel
theorem dX9_copies_222 : decode cX9_copies 222 = .ok (.aload_n 0, 1) := by decide +kernel
theorem dX9_copies_223 : decode cX9_copies 223 = .ok (.getfield 198, 3) := by decide +kernel
theorem dX9_copies_226 : decode cX9_copies 226 = .ok (.bipush 11, 2) := by decide +kernel
theorem dX9_copies_228 : decode cX9_copies 228 = .ok (.iload_n 2, 1) := by decide +kernel
theorem dX9_copies_229 : decode cX9_copies 229 = .ok (.imul, 1) := by decide +kernel
theorem dX9_copies_230 : decode cX9_copies 230 = .ok (.iload_n 3, 1) := by decide +kernel
theorem dX9_copies_231 : decode cX9_copies 231 = .ok (.iadd, 1) := by decide +kernel
theorem dX9_copies_232 : decode cX9_copies 232 = .ok (.iaload, 1) := by decide +kernel
theorem dX9_copies_233 : decode cX9_copies 233 = .ok (.iastore, 1) := by decide +kernel
theorem dX9_copies_234 : decode cX9_copies 234 = .ok (.iinc 3 1, 3) := by decide +kernel
theorem dX9_copies_237 : decode cX9_copies 237 = .ok (.goto (-53), 3) := by decide +kernel
theorem dX9_copies_240 : decode cX9_copies 240 = .ok (.aload_n 0, 1) := by decide +kernel
theorem dX9_copies_241 : decode cX9_copies 241 = .ok (.getfield 201, 3) := by decide +kernel
theorem dX9_copies_244 : decode cX9_copies 244 = .ok (.iload_n 1, 1) := by decide +kernel
theorem dX9_copies_245 : decode cX9_copies 245 = .ok (.aload_n 0, 1) := by decide +kernel
theorem dX9_copies_246 : decode cX9_copies 246 = .ok (.getfield 201, 3) := by decide +kernel
theorem dX9_copies_249 : decode cX9_copies 249 = .ok (.iload_n 2, 1) := by decide +kernel
theorem dX9_copies_250 : decode cX9_copies 250 = .ok (.iaload, 1) := by decide +kernel
theorem dX9_copies_251 : decode cX9_copies 251 = .ok (.iastore, 1) := by decide +kernel
theorem dX9_copies_252 : decode cX9_copies 252 = .ok (.iconst 0, 1) := by decide +kernel
theorem dX9_copies_253 : decode cX9_copies 253 = .ok (.istore_n 3, 1) := by decide +kernel
theorem dX9_copies_254 : decode cX9_copies 254 = .ok (.iload_n 3, 1) := by decide +kernel
theorem dX9_copies_255 : decode cX9_copies 255 = .ok (.iconst 5, 1) := by decide +kernel
theorem dX9_copies_256 : decode cX9_copies 256 = .ok (.aload_n 0, 1) := by decide +kernel
theorem dX9_copies_257 : decode cX9_copies 257 = .ok (.getfield 201, 3) := by decide +kernel
theorem dX9_copies_260 : decode cX9_copies 260 = .ok (.iload_n 2, 1) := by decide +kernel
theorem dX9_copies_261 : decode cX9_copies 261 = .ok (.iaload, 1) := by decide +kernel
theorem dX9_copies_262 : decode cX9_copies 262 = .ok (.imul, 1) := by decide +kernel
theorem dX9_copies_263 : decode cX9_copies 263 = .ok (.if_icmp .ge 33, 3) := by decide +kernel
theorem dX9_copies_266 : decode cX9_copies 266 = .ok (.aload_n 0, 1) := by decide +kernel
theorem dX9_copies_267 : decode cX9_copies 267 = .ok (.getfield 204, 3) := by decide +kernel
theorem dX9_copies_270 : decode cX9_copies 270 = .ok (.sipush 1000, 3) := by decide +kernel
theorem dX9_copies_273 : decode cX9_copies 273 = .ok (.iload_n 1, 1) := by decide +kernel
theorem dX9_copies_274 : decode cX9_copies 274 = .ok (.imul, 1) := by decide +kernel
theorem dX9_copies_275 : decode cX9_copies 275 = .ok (.iload_n 3, 1) := by decide +kernel
theorem dX9_copies_276 : decode cX9_copies 276 = .ok (.iadd, 1) := by decide +kernel
theorem dX9_copies_277 : decode cX9_copies 277 = .ok (.aload_n 0, 1) := by decide +kernel
theorem dX9_copies_278 : decode cX9_copies 278 = .ok (.getfield 204, 3) := by decide +kernel
theorem dX9_copies_281 : decode cX9_copies 281 = .ok (.sipush 1000, 3) := by decide +kernel
theorem dX9_copies_284 : decode cX9_copies 284 = .ok (.iload_n 2, 1) := by decide +kernel
theorem dX9_copies_285 : decode cX9_copies 285 = .ok (.imul, 1) := by decide +kernel
theorem dX9_copies_286 : decode cX9_copies 286 = .ok (.iload_n 3, 1) := by decide +kernel
theorem dX9_copies_287 : decode cX9_copies 287 = .ok (.iadd, 1) := by decide +kernel
theorem dX9_copies_288 : decode cX9_copies 288 = .ok (.iaload, 1) := by decide +kernel
theorem dX9_copies_289 : decode cX9_copies 289 = .ok (.iastore, 1) := by decide +kernel
theorem dX9_copies_290 : decode cX9_copies 290 = .ok (.iinc 3 1, 3) := by decide +kernel
theorem dX9_copies_293 : decode cX9_copies 293 = .ok (.goto (-39), 3) := by decide +kernel
theorem dX9_copies_296 : decode cX9_copies 296 = .ok (.return_, 1) := by decide +kernel
theorem dX9_counts_0 : decode cX9_counts 0 = .ok (.aload_n 0, 1) := by decide +kernel
theorem dX9_counts_1 : decode cX9_counts 1 = .ok (.getfield 36, 3) := by decide +kernel
theorem dX9_counts_4 : decode cX9_counts 4 = .ok (.ifCond .ne 16, 3) := by decide +kernel
theorem dX9_counts_7 : decode cX9_counts 7 = .ok (.iload_n 1, 1) := by decide +kernel
theorem dX9_counts_8 : decode cX9_counts 8 = .ok (.ifCond .eq 12, 3) := by decide +kernel
theorem dX9_counts_11 : decode cX9_counts 11 = .ok (.aload_n 0, 1) := by decide +kernel
theorem dX9_counts_12 : decode cX9_counts 12 = .ok (.iconst 5, 1) := by decide +kernel
theorem dX9_counts_13 : decode cX9_counts 13 = .ok (.aload_n 0, 1) := by decide +kernel
theorem dX9_counts_14 : decode cX9_counts 14 = .ok (.getfield 23, 3) := by decide +kernel
theorem dX9_counts_17 : decode cX9_counts 17 = .ok (.invokevirtual 276, 3) := by decide +kernel
theorem dX9_counts_20 : decode cX9_counts 20 = .ok (.aload_n 0, 1) := by decide +kernel
theorem dX9_counts_21 : decode cX9_counts 21 = .ok (.getfield 36, 3) := by decide +kernel
theorem dX9_counts_24 : decode cX9_counts 24 = .ok (.ifCond .ne 7, 3) := by decide +kernel
theorem dX9_counts_27 : decode cX9_counts 27 = .ok (.aload_n 0, 1) := by decide +kernel
theorem dX9_counts_28 : decode cX9_counts 28 = .ok (.invokevirtual 283, 3) := by decide +kernel
theorem dX9_counts_31 : decode cX9_counts 31 = .ok (.aload_n 0, 1) := by decide +kernel
theorem dX9_counts_32 : decode cX9_counts 32 = .ok (.getfield 36, 3) := by decide +kernel
theorem dX9_counts_35 : decode cX9_counts 35 = .ok (.ifCond .ne 7, 3) := by decide +kernel
theorem dX9_counts_38 : decode cX9_counts 38 = .ok (.iconst 1, 1) := by decide +kernel
theorem dX9_counts_39 : decode cX9_counts 39 = .ok (.goto 4, 3) := by decide +kernel
theorem dX9_counts_42 : decode cX9_counts 42 = .ok (.iconst 0, 1) := by decide +kernel
theorem dX9_counts_43 : decode cX9_counts 43 = .ok (.ireturn, 1) := by decide +kernel
theorem dX9_cut_0 : decode cX9_cut 0 = .ok (.iload_n 1, 1) := by decide +kernel
theorem dX9_cut_1 : decode cX9_cut 1 = .ok (.iconst 0, 1) := by decide +kernel
theorem dX9_cut_2 : decode cX9_cut 2 = .ok (.iconst 4, 1) := by decide +kernel
theorem dX9_cut_3 : decode cX9_cut 3 = .ok (.invokestatic 340, 3) := by decide +kernel
theorem dX9_cut_6 : decode cX9_cut 6 = .ok (.ifCond .eq 34, 3) := by decide +kernel
theorem dX9_cut_9 : decode cX9_cut 9 = .ok (.aload_n 0, 1) := by decide +kernel
theorem dX9_cut_10 : decode cX9_cut 10 = .ok (.invokevirtual 445, 3) := by decide +kernel
theorem dX9_cut_13 : decode cX9_cut 13 = .ok (.ifCond .eq 27, 3) := by decide +kernel
theorem dX9_cut_16 : decode cX9_cut 16 = .ok (.iload_n 2, 1) := by decide +kernel
theorem dX9_cut_17 : decode cX9_cut 17 = .ok (.iconst (-1), 1) := by decide +kernel
theorem dX9_cut_18 : decode cX9_cut 18 = .ok (.if_icmp .eq 14, 3) := by decide +kernel
theorem dX9_cut_21 : decode cX9_cut 21 = .ok (.iload_n 2, 1) := by decide +kernel
theorem dX9_cut_22 : decode cX9_cut 22 = .ok (.iconst 0, 1) := by decide +kernel
theorem dX9_cut_23 : decode cX9_cut 23 = .ok (.iload_n 1, 1) := by decide +kernel
theorem dX9_cut_24 : decode cX9_cut 24 = .ok (.iconst 1, 1) := by decide +kernel
theorem dX9_cut_25 : decode cX9_cut 25 = .ok (.isub, 1) := by decide +kernel
theorem dX9_cut_26 : decode cX9_cut 26 = .ok (.invokestatic 340, 3) := by decide +kernel
theorem dX9_cut_29 : decode cX9_cut 29 = .ok (.ifCond .eq 11, 3) := by decide +kernel
theorem dX9_cut_32 : decode cX9_cut 32 = .ok (.aload_n 0, 1) := by decide +kernel
theorem dX9_cut_33 : decode cX9_cut 33 = .ok (.iload_n 1, 1) := by decide +kernel
theorem dX9_cut_34 : decode cX9_cut 34 = .ok (.invokevirtual 588, 3) := by decide +kernel
theorem dX9_cut_37 : decode cX9_cut 37 = .ok (.ifCond .ne 5, 3) := by decide +kernel
theorem dX9_cut_40 : decode cX9_cut 40 = .ok (.iconst (-1), 1) := by decide +kernel
theorem dX9_cut_41 : decode cX9_cut 41 = .ok (.ireturn, 1) := by decide +kernel
theorem dX9_cut_42 : decode cX9_cut 42 = .ok (.iconst (-1), 1) := by decide +kernel
theorem dX9_cut_43 : decode cX9_cut 43 = .ok (.istore_n 3, 1) := by decide +kernel
theorem dX9_cut_44 : decode cX9_cut 44 = .ok (.iconst 1, 1) := by decide +kernel
theorem dX9_cut_45 : decode cX9_cut 45 = .ok (.istore 4, 2) := by decide +kernel
theorem dX9_cut_47 : decode cX9_cut 47 = .ok (.iload 4, 2) := by decide +kernel
theorem dX9_cut_49 : decode cX9_cut 49 = .ok (.ifCond .eq 63, 3) := by decide +kernel
theorem dX9_cut_52 : decode cX9_cut 52 = .ok (.aload_n 0, 1) := by decide +kernel
theorem dX9_cut_53 : decode cX9_cut 53 = .ok (.iload_n 1, 1) := by decide +kernel
theorem dX9_cut_54 : decode cX9_cut 54 = .ok (.invokevirtual 591, 3) := by decide +kernel
theorem dX9_cut_57 : decode cX9_cut 57 = .ok (.istore 5, 2) := by decide +kernel
theorem dX9_cut_59 : decode cX9_cut 59 = .ok (.iload_n 3, 1) := by decide +kernel
theorem dX9_cut_60 : decode cX9_cut 60 = .ok (.iconst (-1), 1) := by decide +kernel
theorem dX9_cut_61 : decode cX9_cut 61 = .ok (.if_icmp .eq 9, 3) := by decide +kernel
theorem dX9_cut_64 : decode cX9_cut 64 = .ok (.iload 5, 2) := by decide +kernel
theorem dX9_cut_66 : decode cX9_cut 66 = .ok (.iload_n 3, 1) := by decide +kernel
theorem dX9_cut_67 : decode cX9_cut 67 = .ok (.if_icmp .ge 35, 3) := by decide +kernel
theorem dX9_cut_70 : decode cX9_cut 70 = .ok (.iload 5, 2) := by decide +kernel
theorem dX9_cut_72 : decode cX9_cut 72 = .ok (.istore_n 3, 1) := by decide +kernel
theorem dX9_cut_73 : decode cX9_cut 73 = .ok (.iconst 0, 1) := by decide +kernel
theorem dX9_cut_74 : decode cX9_cut 74 = .ok (.istore 6, 2) := by decide +kernel
theorem dX9_cut_76 : decode cX9_cut 76 = .ok (.iload 6, 2) := by decide +kernel
theorem dX9_cut_78 : decode cX9_cut 78 = .ok (.iload_n 1, 1) := by decide +kernel
theorem dX9_cut_79 : decode cX9_cut 79 = .ok (.if_icmp .ge 23, 3) := by decide +kernel
theorem dX9_cut_82 : decode cX9_cut 82 = .ok (.aload_n 0, 1) := by decide +kernel
theorem dX9_cut_83 : decode cX9_cut 83 = .ok (.getfield 252, 3) := by decide +kernel
theorem dX9_cut_86 : decode cX9_cut 86 = .ok (.iload 6, 2) := by decide +kernel
theorem dX9_cut_88 : decode cX9_cut 88 = .ok (.aload_n 0, 1) := by decide +kernel
theorem dX9_cut_89 : decode cX9_cut 89 = .ok (.getfield 249, 3) := by decide +kernel
theorem dX9_cut_92 : decode cX9_cut 92 = .ok (.iload 6, 2) := by decide +kernel
theorem dX9_cut_94 : decode cX9_cut 94 = .ok (.iaload, 1) := by decide +kernel
theorem dX9_cut_95 : decode cX9_cut 95 = .ok (.iastore, 1) := by decide +kernel
theorem dX9_cut_96 : decode cX9_cut 96 = .ok (.iinc 6 1, 3) := by decide +kernel
theorem dX9_cut_99 : decode cX9_cut 99 = .ok (.goto (-23), 3) := by decide +kernel
theorem dX9_cut_102 : decode cX9_cut 102 = .ok (.aload_n 0, 1) := by decide +kernel
theorem dX9_cut_103 : decode cX9_cut 103 = .ok (.iload_n 1, 1) := by decide +kernel
theorem dX9_cut_104 : decode cX9_cut 104 = .ok (.invokevirtual 594, 3) := by decide +kernel
theorem dX9_cut_107 : decode cX9_cut 107 = .ok (.istore 4, 2) := by decide +kernel
theorem dX9_cut_109 : decode cX9_cut 109 = .ok (.goto (-62), 3) := by decide +kernel
theorem dX9_cut_112 : decode cX9_cut 112 = .ok (.iload_n 2, 1) := by decide +kernel
theorem dX9_cut_113 : decode cX9_cut 113 = .ok (.iconst (-1), 1) := by decide +kernel
theorem dX9_cut_114 : decode cX9_cut 114 = .ok (.if_icmp .ne 7, 3) := by decide +kernel
theorem dX9_cut_117 : decode cX9_cut 117 = .ok (.iload_n 3, 1) := by decide +kernel
theorem dX9_cut_118 : decode cX9_cut 118 = .ok (.goto 9, 3) := by decide +kernel
theorem dX9_cut_121 : decode cX9_cut 121 = .ok (.aload_n 0, 1) := by decide +kernel
theorem dX9_cut_122 : decode cX9_cut 122 = .ok (.getfield 252, 3) := by decide +kernel
theorem dX9_cut_125 : decode cX9_cut 125 = .ok (.iload_n 2, 1) := by decide +kernel
theorem dX9_cut_126 : decode cX9_cut 126 = .ok (.iaload, 1) := by decide +kernel
theorem dX9_cut_127 : decode cX9_cut 127 = .ok (.ireturn, 1) := by decide +kernel
theorem dX9_deepOf_0 : decode cX9_deepOf 0 = .ok (.aload_n 0, 1) := by decide +kernel
theorem dX9_deepOf_1 : decode cX9_deepOf 1 = .ok (.iload_n 1, 1) := by decide +kernel
theorem dX9_deepOf_2 : decode cX9_deepOf 2 = .ok (.iload_n 2, 1) := by decide +kernel
theorem dX9_deepOf_3 : decode cX9_deepOf 3 = .ok (.invokevirtual 468, 3) := by decide +kernel
theorem dX9_deepOf_6 : decode cX9_deepOf 6 = .ok (.aload_n 0, 1) := by decide +kernel
theorem dX9_deepOf_7 : decode cX9_deepOf 7 = .ok (.iconst 1, 1) := by decide +kernel
theorem dX9_deepOf_8 : decode cX9_deepOf 8 = .ok (.sipush 9999, 3) := by decide +kernel
theorem dX9_deepOf_11 : decode cX9_deepOf 11 = .ok (.aload_n 0, 1) := by decide +kernel
theorem dX9_deepOf_12 : decode cX9_deepOf 12 = .ok (.getfield 61, 3) := by decide +kernel
theorem dX9_deepOf_15 : decode cX9_deepOf 15 = .ok (.bipush 12, 2) := by decide +kernel
theorem dX9_deepOf_17 : decode cX9_deepOf 17 = .ok (.aload_n 0, 1) := by decide +kernel
theorem dX9_deepOf_18 : decode cX9_deepOf 18 = .ok (.getfield 48, 3) := by decide +kernel
theorem dX9_deepOf_21 : decode cX9_deepOf 21 = .ok (.imul, 1) := by decide +kernel
theorem dX9_deepOf_22 : decode cX9_deepOf 22 = .ok (.aload_n 0, 1) := by decide +kernel
theorem dX9_deepOf_23 : decode cX9_deepOf 23 = .ok (.getfield 222, 3) := by decide +kernel
theorem dX9_deepOf_26 : decode cX9_deepOf 26 = .ok (.iload_n 1, 1) := by decide +kernel
theorem dX9_deepOf_27 : decode cX9_deepOf 27 = .ok (.iaload, 1) := by decide +kernel
theorem dX9_deepOf_28 : decode cX9_deepOf 28 = .ok (.iadd, 1) := by decide +kernel
theorem dX9_deepOf_29 : decode cX9_deepOf 29 = .ok (.iaload, 1) := by decide +kernel
theorem dX9_deepOf_30 : decode cX9_deepOf 30 = .ok (.invokevirtual 471, 3) := by decide +kernel
theorem dX9_deepOf_33 : decode cX9_deepOf 33 = .ok (.ireturn, 1) := by decide +kernel
theorem dX9_dorm_0 : decode cX9_dorm 0 = .ok (.aload_n 0, 1) := by decide +kernel
theorem dX9_dorm_1 : decode cX9_dorm 1 = .ok (.aload_n 0, 1) := by decide +kernel
theorem dX9_dorm_2 : decode cX9_dorm 2 = .ok (.getfield 13, 3) := by decide +kernel
theorem dX9_dorm_5 : decode cX9_dorm 5 = .ok (.putfield 17, 3) := by decide +kernel
theorem dX9_dorm_8 : decode cX9_dorm 8 = .ok (.aload_n 0, 1) := by decide +kernel
theorem dX9_dorm_9 : decode cX9_dorm 9 = .ok (.iconst 0, 1) := by decide +kernel
theorem dX9_dorm_10 : decode cX9_dorm 10 = .ok (.putfield 13, 3) := by decide +kernel
theorem dX9_dorm_13 : decode cX9_dorm 13 = .ok (.aload_n 0, 1) := by decide +kernel
theorem dX9_dorm_14 : decode cX9_dorm 14 = .ok (.iconst 0, 1) := by decide +kernel
theorem dX9_dorm_15 : decode cX9_dorm 15 = .ok (.putfield 26, 3) := by decide +kernel
theorem dX9_dorm_18 : decode cX9_dorm 18 = .ok (.aload_n 0, 1) := by decide +kernel
theorem dX9_dorm_19 : decode cX9_dorm 19 = .ok (.iconst 0, 1) := by decide +kernel
theorem dX9_dorm_20 : decode cX9_dorm 20 = .ok (.putfield 36, 3) := by decide +kernel
theorem dX9_dorm_23 : decode cX9_dorm 23 = .ok (.aload_n 0, 1) := by decide +kernel
theorem dX9_dorm_24 : decode cX9_dorm 24 = .ok (.iconst (-1), 1) := by decide +kernel
theorem dX9_dorm_25 : decode cX9_dorm 25 = .ok (.putfield 39, 3) := by decide +kernel
theorem dX9_dorm_28 : decode cX9_dorm 28 = .ok (.aload_n 0, 1) := by decide +kernel
theorem dX9_dorm_29 : decode cX9_dorm 29 = .ok (.iconst 1, 1) := by decide +kernel
theorem dX9_dorm_30 : decode cX9_dorm 30 = .ok (.aload_n 0, 1) := by decide +kernel
theorem dX9_dorm_31 : decode cX9_dorm 31 = .ok (.getfield 48, 3) := by decide +kernel
theorem dX9_dorm_34 : decode cX9_dorm 34 = .ok (.isub, 1) := by decide +kernel
theorem dX9_dorm_35 : decode cX9_dorm 35 = .ok (.putfield 118, 3) := by decide +kernel
theorem dX9_dorm_38 : decode cX9_dorm 38 = .ok (.aload_n 0, 1) := by decide +kernel
theorem dX9_dorm_39 : decode cX9_dorm 39 = .ok (.getfield 51, 3) := by decide +kernel
theorem dX9_dorm_42 : decode cX9_dorm 42 = .ok (.aload_n 0, 1) := by decide +kernel
theorem dX9_dorm_43 : decode cX9_dorm 43 = .ok (.getfield 118, 3) := by decide +kernel
theorem dX9_dorm_46 : decode cX9_dorm 46 = .ok (.iconst 0, 1) := by decide +kernel
theorem dX9_dorm_47 : decode cX9_dorm 47 = .ok (.iastore, 1) := by decide +kernel
theorem dX9_dorm_48 : decode cX9_dorm 48 = .ok (.aload_n 0, 1) := by decide +kernel
theorem dX9_dorm_49 : decode cX9_dorm 49 = .ok (.getfield 76, 3) := by decide +kernel
theorem dX9_dorm_52 : decode cX9_dorm 52 = .ok (.aload_n 0, 1) := by decide +kernel
theorem dX9_dorm_53 : decode cX9_dorm 53 = .ok (.getfield 118, 3) := by decide +kernel
theorem dX9_dorm_56 : decode cX9_dorm 56 = .ok (.iconst 0, 1) := by decide +kernel
theorem dX9_dorm_57 : decode cX9_dorm 57 = .ok (.iastore, 1) := by decide +kernel
theorem dX9_dorm_58 : decode cX9_dorm 58 = .ok (.aload_n 0, 1) := by decide +kernel
theorem dX9_dorm_59 : decode cX9_dorm 59 = .ok (.getfield 94, 3) := by decide +kernel
theorem dX9_dorm_62 : decode cX9_dorm 62 = .ok (.aload_n 0, 1) := by decide +kernel
theorem dX9_dorm_63 : decode cX9_dorm 63 = .ok (.getfield 118, 3) := by decide +kernel
theorem dX9_dorm_66 : decode cX9_dorm 66 = .ok (.iconst 0, 1) := by decide +kernel
theorem dX9_dorm_67 : decode cX9_dorm 67 = .ok (.iastore, 1) := by decide +kernel
theorem dX9_dorm_68 : decode cX9_dorm 68 = .ok (.bipush 11, 2) := by decide +kernel
theorem dX9_dorm_70 : decode cX9_dorm 70 = .ok (.aload_n 0, 1) := by decide +kernel
theorem dX9_dorm_71 : decode cX9_dorm 71 = .ok (.getfield 118, 3) := by decide +kernel
theorem dX9_dorm_74 : decode cX9_dorm 74 = .ok (.imul, 1) := by decide +kernel
theorem dX9_dorm_75 : decode cX9_dorm 75 = .ok (.istore_n 1, 1) := by decide +kernel
theorem dX9_dorm_76 : decode cX9_dorm 76 = .ok (.iload_n 1, 1) := by decide +kernel
theorem dX9_dorm_77 : decode cX9_dorm 77 = .ok (.bipush 11, 2) := by decide +kernel
theorem dX9_dorm_79 : decode cX9_dorm 79 = .ok (.aload_n 0, 1) := by decide +kernel
theorem dX9_dorm_80 : decode cX9_dorm 80 = .ok (.getfield 118, 3) := by decide +kernel
theorem dX9_dorm_83 : decode cX9_dorm 83 = .ok (.imul, 1) := by decide +kernel
theorem dX9_dorm_84 : decode cX9_dorm 84 = .ok (.bipush 11, 2) := by decide +kernel
theorem dX9_dorm_86 : decode cX9_dorm 86 = .ok (.iadd, 1) := by decide +kernel
theorem dX9_dorm_87 : decode cX9_dorm 87 = .ok (.if_icmp .ge 16, 3) := by decide +kernel
theorem dX9_dorm_90 : decode cX9_dorm 90 = .ok (.aload_n 0, 1) := by decide +kernel
theorem dX9_dorm_91 : decode cX9_dorm 91 = .ok (.getfield 73, 3) := by decide +kernel
theorem dX9_dorm_94 : decode cX9_dorm 94 = .ok (.iload_n 1, 1) := by decide +kernel
theorem dX9_dorm_95 : decode cX9_dorm 95 = .ok (.iconst 0, 1) := by decide +kernel
theorem dX9_dorm_96 : decode cX9_dorm 96 = .ok (.iastore, 1) := by decide +kernel
theorem dX9_dorm_97 : decode cX9_dorm 97 = .ok (.iinc 1 1, 3) := by decide +kernel
theorem dX9_dorm_100 : decode cX9_dorm 100 = .ok (.goto (-24), 3) := by decide +kernel
theorem dX9_dorm_103 : decode cX9_dorm 103 = .ok (.aload_n 0, 1) := by decide +kernel
theorem dX9_dorm_104 : decode cX9_dorm 104 = .ok (.iconst 0, 1) := by decide +kernel
theorem dX9_dorm_105 : decode cX9_dorm 105 = .ok (.putfield 115, 3) := by decide +kernel
theorem dX9_dorm_108 : decode cX9_dorm 108 = .ok (.iconst 0, 1) := by decide +kernel
theorem dX9_dorm_109 : decode cX9_dorm 109 = .ok (.istore_n 1, 1) := by decide +kernel
theorem dX9_dorm_110 : decode cX9_dorm 110 = .ok (.aload_n 0, 1) := by decide +kernel
theorem dX9_dorm_111 : decode cX9_dorm 111 = .ok (.invokevirtual 283, 3) := by decide +kernel
theorem dX9_dorm_114 : decode cX9_dorm 114 = .ok (.aload_n 0, 1) := by decide +kernel
theorem dX9_dorm_115 : decode cX9_dorm 115 = .ok (.getfield 36, 3) := by decide +kernel
theorem dX9_dorm_118 : decode cX9_dorm 118 = .ok (.ifCond .ne 25, 3) := by decide +kernel
theorem dX9_dorm_121 : decode cX9_dorm 121 = .ok (.aload_n 0, 1) := by decide +kernel
theorem dX9_dorm_122 : decode cX9_dorm 122 = .ok (.getfield 20, 3) := by decide +kernel
theorem dX9_dorm_125 : decode cX9_dorm 125 = .ok (.ifCond .eq 18, 3) := by decide +kernel
theorem dX9_dorm_128 : decode cX9_dorm 128 = .ok (.aload_n 0, 1) := by decide +kernel
theorem dX9_dorm_129 : decode cX9_dorm 129 = .ok (.invokevirtual 418, 3) := by decide +kernel
theorem dX9_dorm_132 : decode cX9_dorm 132 = .ok (.iinc 1 1, 3) := by decide +kernel
theorem dX9_dorm_135 : decode cX9_dorm 135 = .ok (.aload_n 0, 1) := by decide +kernel
theorem dX9_dorm_136 : decode cX9_dorm 136 = .ok (.iload_n 1, 1) := by decide +kernel
theorem dX9_dorm_137 : decode cX9_dorm 137 = .ok (.invokevirtual 421, 3) := by decide +kernel
theorem dX9_dorm_140 : decode cX9_dorm 140 = .ok (.goto (-26), 3) := by decide +kernel
theorem dX9_dorm_143 : decode cX9_dorm 143 = .ok (.aload_n 0, 1) := by decide +kernel
theorem dX9_dorm_144 : decode cX9_dorm 144 = .ok (.aload_n 0, 1) := by decide +kernel
theorem dX9_dorm_145 : decode cX9_dorm 145 = .ok (.getfield 36, 3) := by decide +kernel
theorem dX9_dorm_148 : decode cX9_dorm 148 = .ok (.putfield 42, 3) := by decide +kernel
theorem dX9_dorm_151 : decode cX9_dorm 151 = .ok (.aload_n 0, 1) := by decide +kernel
theorem dX9_dorm_152 : decode cX9_dorm 152 = .ok (.aload_n 0, 1) := by decide +kernel
theorem dX9_dorm_153 : decode cX9_dorm 153 = .ok (.getfield 39, 3) := by decide +kernel
theorem dX9_dorm_156 : decode cX9_dorm 156 = .ok (.putfield 45, 3) := by decide +kernel
theorem dX9_dorm_159 : decode cX9_dorm 159 = .ok (.aload_n 0, 1) := by decide +kernel
theorem dX9_dorm_160 : decode cX9_dorm 160 = .ok (.getfield 36, 3) := by decide +kernel
theorem dX9_dorm_163 : decode cX9_dorm 163 = .ok (.ifCond .le 9, 3) := by decide +kernel
theorem dX9_dorm_166 : decode cX9_dorm 166 = .ok (.aload_n 0, 1) := by decide +kernel
theorem dX9_dorm_167 : decode cX9_dorm 167 = .ok (.iconst 1, 1) := by decide +kernel
theorem dX9_dorm_168 : decode cX9_dorm 168 = .ok (.invokevirtual 261, 3) := by decide +kernel
theorem dX9_dorm_171 : decode cX9_dorm 171 = .ok (.ireturn, 1) := by decide +kernel
theorem dX9_dorm_172 : decode cX9_dorm 172 = .ok (.aload_n 0, 1) := by decide +kernel
theorem dX9_dorm_173 : decode cX9_dorm 173 = .ok (.aload_n 0, 1) := by decide +kernel
theorem dX9_dorm_174 : decode cX9_dorm 174 = .ok (.getfield 118, 3) := by decide +kernel
theorem dX9_dorm_177 : decode cX9_dorm 177 = .ok (.putfield 48, 3) := by decide +kernel
theorem dX9_dorm_180 : decode cX9_dorm 180 = .ok (.aload_n 0, 1) := by decide +kernel
theorem dX9_dorm_181 : decode cX9_dorm 181 = .ok (.invokevirtual 424, 3) := by decide +kernel
theorem dX9_dorm_184 : decode cX9_dorm 184 = .ok (.iload_n 1, 1) := by decide +kernel
theorem dX9_dorm_185 : decode cX9_dorm 185 = .ok (.ireturn, 1) := by decide +kernel
theorem dX9_draw_0 : decode cX9_draw 0 = .ok (.aload_n 0, 1) := by decide +kernel
theorem dX9_draw_1 : decode cX9_draw 1 = .ok (.ldc2_w 517, 3) := by decide +kernel
theorem dX9_draw_4 : decode cX9_draw 4 = .ok (.aload_n 0, 1) := by decide +kernel
theorem dX9_draw_5 : decode cX9_draw 5 = .ok (.getfield 213, 3) := by decide +kernel
theorem dX9_draw_8 : decode cX9_draw 8 = .ok (.lmul, 1) := by decide +kernel
theorem dX9_draw_9 : decode cX9_draw 9 = .ok (.ldc2_w 519, 3) := by decide +kernel
theorem dX9_draw_12 : decode cX9_draw 12 = .ok (.ladd, 1) := by decide +kernel
theorem dX9_draw_13 : decode cX9_draw 13 = .ok (.ldc2_w 521, 3) := by decide +kernel
theorem dX9_draw_16 : decode cX9_draw 16 = .ok (.lrem, 1) := by decide +kernel
theorem dX9_draw_17 : decode cX9_draw 17 = .ok (.putfield 213, 3) := by decide +kernel
theorem dX9_draw_20 : decode cX9_draw 20 = .ok (.aload_n 0, 1) := by decide +kernel
theorem dX9_draw_21 : decode cX9_draw 21 = .ok (.getfield 213, 3) := by decide +kernel
theorem dX9_draw_24 : decode cX9_draw 24 = .ok (.ldc2_w 523, 3) := by decide +kernel
theorem dX9_draw_27 : decode cX9_draw 27 = .ok (.ldiv, 1) := by decide +kernel
theorem dX9_draw_28 : decode cX9_draw 28 = .ok (.iload_n 1, 1) := by decide +kernel
theorem dX9_draw_29 : decode cX9_draw 29 = .ok (.i2l, 1) := by decide +kernel
theorem dX9_draw_30 : decode cX9_draw 30 = .ok (.lrem, 1) := by decide +kernel
theorem dX9_draw_31 : decode cX9_draw 31 = .ok (.l2i, 1) := by decide +kernel
theorem dX9_draw_32 : decode cX9_draw 32 = .ok (.ireturn, 1) := by decide +kernel
theorem dX9_drawn_0 : decode cX9_drawn 0 = .ok (.aload_n 0, 1) := by decide +kernel
theorem dX9_drawn_1 : decode cX9_drawn 1 = .ok (.aload_n 0, 1) := by decide +kernel
theorem dX9_drawn_2 : decode cX9_drawn 2 = .ok (.invokevirtual 525, 3) := by decide +kernel
theorem dX9_drawn_5 : decode cX9_drawn 5 = .ok (.invokevirtual 528, 3) := by decide +kernel
theorem dX9_drawn_8 : decode cX9_drawn 8 = .ok (.istore_n 1, 1) := by decide +kernel
theorem dX9_drawn_9 : decode cX9_drawn 9 = .ok (.iconst 0, 1) := by decide +kernel
theorem dX9_drawn_10 : decode cX9_drawn 10 = .ok (.istore_n 2, 1) := by decide +kernel
theorem dX9_drawn_11 : decode cX9_drawn 11 = .ok (.iload_n 1, 1) := by decide +kernel
theorem dX9_drawn_12 : decode cX9_drawn 12 = .ok (.aload_n 0, 1) := by decide +kernel
theorem dX9_drawn_13 : decode cX9_drawn 13 = .ok (.getfield 91, 3) := by decide +kernel
theorem dX9_drawn_16 : decode cX9_drawn 16 = .ok (.bipush 6, 2) := by decide +kernel
theorem dX9_drawn_18 : decode cX9_drawn 18 = .ok (.aload_n 0, 1) := by decide +kernel
theorem dX9_drawn_19 : decode cX9_drawn 19 = .ok (.getfield 48, 3) := by decide +kernel
theorem dX9_drawn_22 : decode cX9_drawn 22 = .ok (.imul, 1) := by decide +kernel
theorem dX9_drawn_23 : decode cX9_drawn 23 = .ok (.iload_n 2, 1) := by decide +kernel
theorem dX9_drawn_24 : decode cX9_drawn 24 = .ok (.iadd, 1) := by decide +kernel
theorem dX9_drawn_25 : decode cX9_drawn 25 = .ok (.iaload, 1) := by decide +kernel
theorem dX9_drawn_26 : decode cX9_drawn 26 = .ok (.if_icmp .lt 26, 3) := by decide +kernel
theorem dX9_drawn_29 : decode cX9_drawn 29 = .ok (.iload_n 1, 1) := by decide +kernel
theorem dX9_drawn_30 : decode cX9_drawn 30 = .ok (.aload_n 0, 1) := by decide +kernel
theorem dX9_drawn_31 : decode cX9_drawn 31 = .ok (.getfield 91, 3) := by decide +kernel
theorem dX9_drawn_34 : decode cX9_drawn 34 = .ok (.bipush 6, 2) := by decide +kernel
theorem dX9_drawn_36 : decode cX9_drawn 36 = .ok (.aload_n 0, 1) := by decide +kernel
theorem dX9_drawn_37 : decode cX9_drawn 37 = .ok (.getfield 48, 3) := by decide +kernel
theorem dX9_drawn_40 : decode cX9_drawn 40 = .ok (.imul, 1) := by decide +kernel
theorem dX9_drawn_41 : decode cX9_drawn 41 = .ok (.iload_n 2, 1) := by decide +kernel
theorem dX9_drawn_42 : decode cX9_drawn 42 = .ok (.iadd, 1) := by decide +kernel
theorem dX9_drawn_43 : decode cX9_drawn 43 = .ok (.iaload, 1) := by decide +kernel
theorem dX9_drawn_44 : decode cX9_drawn 44 = .ok (.isub, 1) := by decide +kernel
theorem dX9_drawn_45 : decode cX9_drawn 45 = .ok (.istore_n 1, 1) := by decide +kernel
theorem dX9_drawn_46 : decode cX9_drawn 46 = .ok (.iinc 2 1, 3) := by decide +kernel
theorem dX9_drawn_49 : decode cX9_drawn 49 = .ok (.goto (-38), 3) := by decide +kernel
theorem dX9_drawn_52 : decode cX9_drawn 52 = .ok (.iload_n 2, 1) := by decide +kernel
theorem dX9_drawn_53 : decode cX9_drawn 53 = .ok (.ireturn, 1) := by decide +kernel
theorem dX9_dream_0 : decode cX9_dream 0 = .ok (.aload_n 0, 1) := by decide +kernel
theorem dX9_dream_1 : decode cX9_dream 1 = .ok (.iload_n 1, 1) := by decide +kernel
theorem dX9_dream_2 : decode cX9_dream 2 = .ok (.invokevirtual 552, 3) := by decide +kernel
theorem dX9_dream_5 : decode cX9_dream 5 = .ok (.ifCond .ne 5, 3) := by decide +kernel
theorem dX9_dream_8 : decode cX9_dream 8 = .ok (.iconst (-1), 1) := by decide +kernel
theorem dX9_dream_9 : decode cX9_dream 9 = .ok (.ireturn, 1) := by decide +kernel
theorem dX9_dream_10 : decode cX9_dream 10 = .ok (.iload_n 2, 1) := by decide +kernel
theorem dX9_dream_11 : decode cX9_dream 11 = .ok (.tableswitch 134 0 4 #[33, 48, 63, 78, 93], 33) := by decide +kernel
theorem dX9_dream_44 : decode cX9_dream 44 = .ok (.aload_n 0, 1) := by decide +kernel
theorem dX9_dream_45 : decode cX9_dream 45 = .ok (.getfield 82, 3) := by decide +kernel
theorem dX9_dream_48 : decode cX9_dream 48 = .ok (.bipush 6, 2) := by decide +kernel
theorem dX9_dream_50 : decode cX9_dream 50 = .ok (.aload_n 0, 1) := by decide +kernel
theorem dX9_dream_51 : decode cX9_dream 51 = .ok (.getfield 48, 3) := by decide +kernel
theorem dX9_dream_54 : decode cX9_dream 54 = .ok (.imul, 1) := by decide +kernel
theorem dX9_dream_55 : decode cX9_dream 55 = .ok (.iload_n 1, 1) := by decide +kernel
theorem dX9_dream_56 : decode cX9_dream 56 = .ok (.iadd, 1) := by decide +kernel
theorem dX9_dream_57 : decode cX9_dream 57 = .ok (.iaload, 1) := by decide +kernel
theorem dX9_dream_58 : decode cX9_dream 58 = .ok (.ireturn, 1) := by decide +kernel
theorem dX9_dream_59 : decode cX9_dream 59 = .ok (.aload_n 0, 1) := by decide +kernel
theorem dX9_dream_60 : decode cX9_dream 60 = .ok (.getfield 85, 3) := by decide +kernel
theorem dX9_dream_63 : decode cX9_dream 63 = .ok (.bipush 6, 2) := by decide +kernel
theorem dX9_dream_65 : decode cX9_dream 65 = .ok (.aload_n 0, 1) := by decide +kernel
theorem dX9_dream_66 : decode cX9_dream 66 = .ok (.getfield 48, 3) := by decide +kernel
theorem dX9_dream_69 : decode cX9_dream 69 = .ok (.imul, 1) := by decide +kernel
theorem dX9_dream_70 : decode cX9_dream 70 = .ok (.iload_n 1, 1) := by decide +kernel
theorem dX9_dream_71 : decode cX9_dream 71 = .ok (.iadd, 1) := by decide +kernel
theorem dX9_dream_72 : decode cX9_dream 72 = .ok (.iaload, 1) := by decide +kernel
theorem dX9_dream_73 : decode cX9_dream 73 = .ok (.ireturn, 1) := by decide +kernel
theorem dX9_dream_74 : decode cX9_dream 74 = .ok (.aload_n 0, 1) := by decide +kernel
theorem dX9_dream_75 : decode cX9_dream 75 = .ok (.getfield 88, 3) := by decide +kernel
theorem dX9_dream_78 : decode cX9_dream 78 = .ok (.bipush 6, 2) := by decide +kernel
theorem dX9_dream_80 : decode cX9_dream 80 = .ok (.aload_n 0, 1) := by decide +kernel
theorem dX9_dream_81 : decode cX9_dream 81 = .ok (.getfield 48, 3) := by decide +kernel
theorem dX9_dream_84 : decode cX9_dream 84 = .ok (.imul, 1) := by decide +kernel
theorem dX9_dream_85 : decode cX9_dream 85 = .ok (.iload_n 1, 1) := by decide +kernel
theorem dX9_dream_86 : decode cX9_dream 86 = .ok (.iadd, 1) := by decide +kernel
theorem dX9_dream_87 : decode cX9_dream 87 = .ok (.iaload, 1) := by decide +kernel
theorem dX9_dream_88 : decode cX9_dream 88 = .ok (.ireturn, 1) := by decide +kernel
theorem dX9_dream_89 : decode cX9_dream 89 = .ok (.aload_n 0, 1) := by decide +kernel
theorem dX9_dream_90 : decode cX9_dream 90 = .ok (.getfield 91, 3) := by decide +kernel
theorem dX9_dream_93 : decode cX9_dream 93 = .ok (.bipush 6, 2) := by decide +kernel
theorem dX9_dream_95 : decode cX9_dream 95 = .ok (.aload_n 0, 1) := by decide +kernel
theorem dX9_dream_96 : decode cX9_dream 96 = .ok (.getfield 48, 3) := by decide +kernel
theorem dX9_dream_99 : decode cX9_dream 99 = .ok (.imul, 1) := by decide +kernel
theorem dX9_dream_100 : decode cX9_dream 100 = .ok (.iload_n 1, 1) := by decide +kernel
theorem dX9_dream_101 : decode cX9_dream 101 = .ok (.iadd, 1) := by decide +kernel
theorem dX9_dream_102 : decode cX9_dream 102 = .ok (.iaload, 1) := by decide +kernel
theorem dX9_dream_103 : decode cX9_dream 103 = .ok (.ireturn, 1) := by decide +kernel
theorem dX9_dream_104 : decode cX9_dream 104 = .ok (.iconst 0, 1) := by decide +kernel
theorem dX9_dream_105 : decode cX9_dream 105 = .ok (.istore_n 3, 1) := by decide +kernel
theorem dX9_dream_106 : decode cX9_dream 106 = .ok (.iconst 0, 1) := by decide +kernel
theorem dX9_dream_107 : decode cX9_dream 107 = .ok (.istore 4, 2) := by decide +kernel
theorem dX9_dream_109 : decode cX9_dream 109 = .ok (.iload 4, 2) := by decide +kernel
theorem dX9_dream_111 : decode cX9_dream 111 = .ok (.aload_n 0, 1) := by decide +kernel
theorem dX9_dream_112 : decode cX9_dream 112 = .ok (.invokevirtual 445, 3) := by decide +kernel
theorem dX9_dream_115 : decode cX9_dream 115 = .ok (.if_icmp .ge 28, 3) := by decide +kernel
theorem dX9_dream_118 : decode cX9_dream 118 = .ok (.iload_n 3, 1) := by decide +kernel
theorem dX9_dream_119 : decode cX9_dream 119 = .ok (.aload_n 0, 1) := by decide +kernel
theorem dX9_dream_120 : decode cX9_dream 120 = .ok (.getfield 171, 3) := by decide +kernel
theorem dX9_dream_123 : decode cX9_dream 123 = .ok (.iload 4, 2) := by decide +kernel
theorem dX9_dream_125 : decode cX9_dream 125 = .ok (.iaload, 1) := by decide +kernel
theorem dX9_dream_126 : decode cX9_dream 126 = .ok (.iload_n 1, 1) := by decide +kernel
theorem dX9_dream_127 : decode cX9_dream 127 = .ok (.if_icmp .ne 7, 3) := by decide +kernel
theorem dX9_dream_130 : decode cX9_dream 130 = .ok (.iconst 1, 1) := by decide +kernel
theorem dX9_dream_131 : decode cX9_dream 131 = .ok (.goto 4, 3) := by decide +kernel
theorem dX9_dream_134 : decode cX9_dream 134 = .ok (.iconst 0, 1) := by decide +kernel
theorem dX9_dream_135 : decode cX9_dream 135 = .ok (.iadd, 1) := by decide +kernel
theorem dX9_dream_136 : decode cX9_dream 136 = .ok (.istore_n 3, 1) := by decide +kernel
theorem dX9_dream_137 : decode cX9_dream 137 = .ok (.iinc 4 1, 3) := by decide +kernel
theorem dX9_dream_140 : decode cX9_dream 140 = .ok (.goto (-31), 3) := by decide +kernel
theorem dX9_dream_143 : decode cX9_dream 143 = .ok (.iload_n 3, 1) := by decide +kernel
theorem dX9_dream_144 : decode cX9_dream 144 = .ok (.ireturn, 1) := by decide +kernel
theorem dX9_dream_145 : decode cX9_dream 145 = .ok (.iconst (-1), 1) := by decide +kernel
theorem dX9_dream_146 : decode cX9_dream 146 = .ok (.ireturn, 1) := by decide +kernel
theorem dX9_dreaming_0 : decode cX9_dreaming 0 = .ok (.aload_n 0, 1) := by decide +kernel
theorem dX9_dreaming_1 : decode cX9_dreaming 1 = .ok (.aload_n 0, 1) := by decide +kernel
theorem dX9_dreaming_2 : decode cX9_dreaming 2 = .ok (.getfield 76, 3) := by decide +kernel
theorem dX9_dreaming_5 : decode cX9_dreaming 5 = .ok (.aload_n 0, 1) := by decide +kernel
theorem dX9_dreaming_6 : decode cX9_dreaming 6 = .ok (.getfield 118, 3) := by decide +kernel
theorem dX9_dreaming_9 : decode cX9_dreaming 9 = .ok (.iaload, 1) := by decide +kernel
theorem dX9_dreaming_10 : decode cX9_dreaming 10 = .ok (.bipush 6, 2) := by decide +kernel
theorem dX9_dreaming_12 : decode cX9_dreaming 12 = .ok (.if_icmp .ne 7, 3) := by decide +kernel
theorem dX9_dreaming_15 : decode cX9_dreaming 15 = .ok (.iconst 1, 1) := by decide +kernel
theorem dX9_dreaming_16 : decode cX9_dreaming 16 = .ok (.goto 4, 3) := by decide +kernel
theorem dX9_dreaming_19 : decode cX9_dreaming 19 = .ok (.iconst 0, 1) := by decide +kernel
theorem dX9_dreaming_20 : decode cX9_dreaming 20 = .ok (.invokevirtual 381, 3) := by decide +kernel
theorem dX9_dreaming_23 : decode cX9_dreaming 23 = .ok (.ifCond .ne 4, 3) := by decide +kernel
theorem dX9_dreaming_26 : decode cX9_dreaming 26 = .ok (.return_, 1) := by decide +kernel
theorem dX9_dreaming_27 : decode cX9_dreaming 27 = .ok (.bipush 6, 2) := by decide +kernel
theorem dX9_dreaming_29 : decode cX9_dreaming 29 = .ok (.aload_n 0, 1) := by decide +kernel
theorem dX9_dreaming_30 : decode cX9_dreaming 30 = .ok (.getfield 118, 3) := by decide +kernel
theorem dX9_dreaming_33 : decode cX9_dreaming 33 = .ok (.imul, 1) := by decide +kernel
theorem dX9_dreaming_34 : decode cX9_dreaming 34 = .ok (.aload_n 0, 1) := by decide +kernel
theorem dX9_dreaming_35 : decode cX9_dreaming 35 = .ok (.getfield 76, 3) := by decide +kernel
theorem dX9_dreaming_38 : decode cX9_dreaming 38 = .ok (.aload_n 0, 1) := by decide +kernel
theorem dX9_dreaming_39 : decode cX9_dreaming 39 = .ok (.getfield 118, 3) := by decide +kernel
theorem dX9_dreaming_42 : decode cX9_dreaming 42 = .ok (.iaload, 1) := by decide +kernel
theorem dX9_dreaming_43 : decode cX9_dreaming 43 = .ok (.iadd, 1) := by decide +kernel
theorem dX9_dreaming_44 : decode cX9_dreaming 44 = .ok (.istore_n 1, 1) := by decide +kernel
theorem dX9_dreaming_45 : decode cX9_dreaming 45 = .ok (.aload_n 0, 1) := by decide +kernel
theorem dX9_dreaming_46 : decode cX9_dreaming 46 = .ok (.getfield 79, 3) := by decide +kernel
theorem dX9_dreaming_49 : decode cX9_dreaming 49 = .ok (.iload_n 1, 1) := by decide +kernel
theorem dX9_dreaming_50 : decode cX9_dreaming 50 = .ok (.aload_n 0, 1) := by decide +kernel
theorem dX9_dreaming_51 : decode cX9_dreaming 51 = .ok (.invokevirtual 385, 3) := by decide +kernel
theorem dX9_dreaming_54 : decode cX9_dreaming 54 = .ok (.lastore, 1) := by decide +kernel
theorem dX9_dreaming_55 : decode cX9_dreaming 55 = .ok (.aload_n 0, 1) := by decide +kernel
theorem dX9_dreaming_56 : decode cX9_dreaming 56 = .ok (.ldc2_w 306, 3) := by decide +kernel
theorem dX9_dreaming_59 : decode cX9_dreaming 59 = .ok (.invokevirtual 389, 3) := by decide +kernel
theorem dX9_dreaming_62 : decode cX9_dreaming 62 = .ok (.aload_n 0, 1) := by decide +kernel
theorem dX9_dreaming_63 : decode cX9_dreaming 63 = .ok (.getfield 82, 3) := by decide +kernel
theorem dX9_dreaming_66 : decode cX9_dreaming 66 = .ok (.iload_n 1, 1) := by decide +kernel
theorem dX9_dreaming_67 : decode cX9_dreaming 67 = .ok (.aload_n 0, 1) := by decide +kernel
theorem dX9_dreaming_68 : decode cX9_dreaming 68 = .ok (.iconst 1, 1) := by decide +kernel
theorem dX9_dreaming_69 : decode cX9_dreaming 69 = .ok (.sipush 999, 3) := by decide +kernel
theorem dX9_dreaming_72 : decode cX9_dreaming 72 = .ok (.invokevirtual 393, 3) := by decide +kernel
theorem dX9_dreaming_75 : decode cX9_dreaming 75 = .ok (.iastore, 1) := by decide +kernel
theorem dX9_dreaming_76 : decode cX9_dreaming 76 = .ok (.aload_n 0, 1) := by decide +kernel
theorem dX9_dreaming_77 : decode cX9_dreaming 77 = .ok (.ldc2_w 308, 3) := by decide +kernel
theorem dX9_dreaming_80 : decode cX9_dreaming 80 = .ok (.invokevirtual 389, 3) := by decide +kernel
theorem dX9_dreaming_83 : decode cX9_dreaming 83 = .ok (.aload_n 0, 1) := by decide +kernel
theorem dX9_dreaming_84 : decode cX9_dreaming 84 = .ok (.getfield 85, 3) := by decide +kernel
theorem dX9_dreaming_87 : decode cX9_dreaming 87 = .ok (.iload_n 1, 1) := by decide +kernel
theorem dX9_dreaming_88 : decode cX9_dreaming 88 = .ok (.aload_n 0, 1) := by decide +kernel
theorem dX9_dreaming_89 : decode cX9_dreaming 89 = .ok (.iconst 1, 1) := by decide +kernel
theorem dX9_dreaming_90 : decode cX9_dreaming 90 = .ok (.bipush 60, 2) := by decide +kernel
theorem dX9_dreaming_92 : decode cX9_dreaming 92 = .ok (.invokevirtual 393, 3) := by decide +kernel
theorem dX9_dreaming_95 : decode cX9_dreaming 95 = .ok (.iastore, 1) := by decide +kernel
theorem dX9_dreaming_96 : decode cX9_dreaming 96 = .ok (.aload_n 0, 1) := by decide +kernel
theorem dX9_dreaming_97 : decode cX9_dreaming 97 = .ok (.ldc2_w 310, 3) := by decide +kernel
theorem dX9_dreaming_100 : decode cX9_dreaming 100 = .ok (.invokevirtual 389, 3) := by decide +kernel
theorem dX9_dreaming_103 : decode cX9_dreaming 103 = .ok (.aload_n 0, 1) := by decide +kernel
theorem dX9_dreaming_104 : decode cX9_dreaming 104 = .ok (.getfield 88, 3) := by decide +kernel
theorem dX9_dreaming_107 : decode cX9_dreaming 107 = .ok (.iload_n 1, 1) := by decide +kernel
theorem dX9_dreaming_108 : decode cX9_dreaming 108 = .ok (.aload_n 0, 1) := by decide +kernel
theorem dX9_dreaming_109 : decode cX9_dreaming 109 = .ok (.iconst 1, 1) := by decide +kernel
theorem dX9_dreaming_110 : decode cX9_dreaming 110 = .ok (.sipush 999, 3) := by decide +kernel
theorem dX9_dreaming_113 : decode cX9_dreaming 113 = .ok (.invokevirtual 393, 3) := by decide +kernel
theorem dX9_dreaming_116 : decode cX9_dreaming 116 = .ok (.iastore, 1) := by decide +kernel
theorem dX9_dreaming_117 : decode cX9_dreaming 117 = .ok (.aload_n 0, 1) := by decide +kernel
theorem dX9_dreaming_118 : decode cX9_dreaming 118 = .ok (.ldc2_w 292, 3) := by decide +kernel
theorem dX9_dreaming_121 : decode cX9_dreaming 121 = .ok (.invokevirtual 389, 3) := by decide +kernel
theorem dX9_dreaming_124 : decode cX9_dreaming 124 = .ok (.aload_n 0, 1) := by decide +kernel
theorem dX9_dreaming_125 : decode cX9_dreaming 125 = .ok (.getfield 91, 3) := by decide +kernel
theorem dX9_dreaming_128 : decode cX9_dreaming 128 = .ok (.iload_n 1, 1) := by decide +kernel
theorem dX9_dreaming_129 : decode cX9_dreaming 129 = .ok (.aload_n 0, 1) := by decide +kernel
theorem dX9_dreaming_130 : decode cX9_dreaming 130 = .ok (.iconst 1, 1) := by decide +kernel
theorem dX9_dreaming_131 : decode cX9_dreaming 131 = .ok (.bipush 99, 2) := by decide +kernel
theorem dX9_dreaming_133 : decode cX9_dreaming 133 = .ok (.invokevirtual 393, 3) := by decide +kernel
theorem dX9_dreaming_136 : decode cX9_dreaming 136 = .ok (.iastore, 1) := by decide +kernel
theorem dX9_dreaming_137 : decode cX9_dreaming 137 = .ok (.aload_n 0, 1) := by decide +kernel
theorem dX9_dreaming_138 : decode cX9_dreaming 138 = .ok (.getfield 36, 3) := by decide +kernel
theorem dX9_dreaming_141 : decode cX9_dreaming 141 = .ok (.ifCond .ne 16, 3) := by decide +kernel
theorem dX9_dreaming_144 : decode cX9_dreaming 144 = .ok (.aload_n 0, 1) := by decide +kernel
theorem dX9_dreaming_145 : decode cX9_dreaming 145 = .ok (.getfield 76, 3) := by decide +kernel
theorem dX9_dreaming_148 : decode cX9_dreaming 148 = .ok (.aload_n 0, 1) := by decide +kernel
theorem dX9_dreaming_149 : decode cX9_dreaming 149 = .ok (.getfield 118, 3) := by decide +kernel
theorem dX9_dreaming_152 : decode cX9_dreaming 152 = .ok (.dup2, 1) := by decide +kernel
theorem dX9_dreaming_153 : decode cX9_dreaming 153 = .ok (.iaload, 1) := by decide +kernel
theorem dX9_dreaming_154 : decode cX9_dreaming 154 = .ok (.iconst 1, 1) := by decide +kernel
theorem dX9_dreaming_155 : decode cX9_dreaming 155 = .ok (.iadd, 1) := by decide +kernel
theorem dX9_dreaming_156 : decode cX9_dreaming 156 = .ok (.iastore, 1) := by decide +kernel
theorem dX9_dreaming_157 : decode cX9_dreaming 157 = .ok (.return_, 1) := by decide +kernel
theorem dX9_dreams_0 : decode cX9_dreams 0 = .ok (.aload_n 0, 1) := by decide +kernel
theorem dX9_dreams_1 : decode cX9_dreams 1 = .ok (.iload_n 1, 1) := by decide +kernel
theorem dX9_dreams_2 : decode cX9_dreams 2 = .ok (.invokevirtual 543, 3) := by decide +kernel
theorem dX9_dreams_5 : decode cX9_dreams 5 = .ok (.ifCond .eq 20, 3) := by decide +kernel
theorem dX9_dreams_8 : decode cX9_dreams 8 = .ok (.aload_n 0, 1) := by decide +kernel
theorem dX9_dreams_9 : decode cX9_dreams 9 = .ok (.iload_n 2, 1) := by decide +kernel
theorem dX9_dreams_10 : decode cX9_dreams 10 = .ok (.invokevirtual 552, 3) := by decide +kernel
theorem dX9_dreams_13 : decode cX9_dreams 13 = .ok (.ifCond .eq 12, 3) := by decide +kernel
theorem dX9_dreams_16 : decode cX9_dreams 16 = .ok (.aload_n 0, 1) := by decide +kernel
theorem dX9_dreams_17 : decode cX9_dreams 17 = .ok (.iconst 0, 1) := by decide +kernel
theorem dX9_dreams_18 : decode cX9_dreams 18 = .ok (.iload_n 1, 1) := by decide +kernel
theorem dX9_dreams_19 : decode cX9_dreams 19 = .ok (.invokevirtual 494, 3) := by decide +kernel
theorem dX9_dreams_22 : decode cX9_dreams 22 = .ok (.ifCond .ne 9, 3) := by decide +kernel
theorem dX9_dreams_25 : decode cX9_dreams 25 = .ok (.aload_n 0, 1) := by decide +kernel
theorem dX9_dreams_26 : decode cX9_dreams 26 = .ok (.iconst 2, 1) := by decide +kernel
theorem dX9_dreams_27 : decode cX9_dreams 27 = .ok (.invokevirtual 261, 3) := by decide +kernel
theorem dX9_dreams_30 : decode cX9_dreams 30 = .ok (.ireturn, 1) := by decide +kernel
theorem dX9_dreams_31 : decode cX9_dreams 31 = .ok (.aload_n 0, 1) := by decide +kernel
theorem dX9_dreams_32 : decode cX9_dreams 32 = .ok (.invokevirtual 555, 3) := by decide +kernel
theorem dX9_dreams_35 : decode cX9_dreams 35 = .ok (.aload_n 0, 1) := by decide +kernel
theorem dX9_dreams_36 : decode cX9_dreams 36 = .ok (.iconst 0, 1) := by decide +kernel
theorem dX9_dreams_37 : decode cX9_dreams 37 = .ok (.iload_n 1, 1) := by decide +kernel
theorem dX9_dreams_38 : decode cX9_dreams 38 = .ok (.iload_n 2, 1) := by decide +kernel
theorem dX9_dreams_39 : decode cX9_dreams 39 = .ok (.aload_n 0, 1) := by decide +kernel
theorem dX9_dreams_40 : decode cX9_dreams 40 = .ok (.getfield 162, 3) := by decide +kernel
theorem dX9_dreams_43 : decode cX9_dreams 43 = .ok (.iconst 0, 1) := by decide +kernel
theorem dX9_dreams_44 : decode cX9_dreams 44 = .ok (.iaload, 1) := by decide +kernel
theorem dX9_dreams_45 : decode cX9_dreams 45 = .ok (.iload_n 1, 1) := by decide +kernel
theorem dX9_dreams_46 : decode cX9_dreams 46 = .ok (.invokevirtual 531, 3) := by decide +kernel
theorem dX9_dreams_49 : decode cX9_dreams 49 = .ok (.ireturn, 1) := by decide +kernel
theorem dX9_end_0 : decode cX9_end 0 = .ok (.iload_n 1, 1) := by decide +kernel
theorem dX9_end_1 : decode cX9_end 1 = .ok (.ifCond .lt 11, 3) := by decide +kernel
theorem dX9_end_4 : decode cX9_end 4 = .ok (.iload_n 1, 1) := by decide +kernel
theorem dX9_end_5 : decode cX9_end 5 = .ok (.aload_n 0, 1) := by decide +kernel
theorem dX9_end_6 : decode cX9_end 6 = .ok (.getfield 13, 3) := by decide +kernel
theorem dX9_end_9 : decode cX9_end 9 = .ok (.if_icmp .le 17, 3) := by decide +kernel
theorem dX9_end_12 : decode cX9_end 12 = .ok (.aload_n 0, 1) := by decide +kernel
theorem dX9_end_13 : decode cX9_end 13 = .ok (.iconst 0, 1) := by decide +kernel
theorem dX9_end_14 : decode cX9_end 14 = .ok (.invokevirtual 261, 3) := by decide +kernel
theorem dX9_end_17 : decode cX9_end 17 = .ok (.ifCond .lt 7, 3) := by decide +kernel
theorem dX9_end_20 : decode cX9_end 20 = .ok (.iconst 1, 1) := by decide +kernel
theorem dX9_end_21 : decode cX9_end 21 = .ok (.goto 4, 3) := by decide +kernel
theorem dX9_end_24 : decode cX9_end 24 = .ok (.iconst 0, 1) := by decide +kernel
theorem dX9_end_25 : decode cX9_end 25 = .ok (.ireturn, 1) := by decide +kernel
theorem dX9_end_26 : decode cX9_end 26 = .ok (.aload_n 0, 1) := by decide +kernel
theorem dX9_end_27 : decode cX9_end 27 = .ok (.iload_n 1, 1) := by decide +kernel
theorem dX9_end_28 : decode cX9_end 28 = .ok (.putfield 13, 3) := by decide +kernel
theorem dX9_end_31 : decode cX9_end 31 = .ok (.iconst 1, 1) := by decide +kernel
theorem dX9_end_32 : decode cX9_end 32 = .ok (.ireturn, 1) := by decide +kernel
theorem dX9_ends_0 : decode cX9_ends 0 = .ok (.aload_n 0, 1) := by decide +kernel
theorem dX9_ends_1 : decode cX9_ends 1 = .ok (.getfield 36, 3) := by decide +kernel
theorem dX9_ends_4 : decode cX9_ends 4 = .ok (.ifCond .le 4, 3) := by decide +kernel
theorem dX9_ends_7 : decode cX9_ends 7 = .ok (.return_, 1) := by decide +kernel
theorem dX9_ends_8 : decode cX9_ends 8 = .ok (.aload_n 0, 1) := by decide +kernel
theorem dX9_ends_9 : decode cX9_ends 9 = .ok (.getfield 26, 3) := by decide +kernel
theorem dX9_ends_12 : decode cX9_ends 12 = .ok (.istore_n 2, 1) := by decide +kernel
theorem dX9_ends_13 : decode cX9_ends 13 = .ok (.iload_n 2, 1) := by decide +kernel
theorem dX9_ends_14 : decode cX9_ends 14 = .ok (.aload_n 0, 1) := by decide +kernel
theorem dX9_ends_15 : decode cX9_ends 15 = .ok (.getfield 17, 3) := by decide +kernel
theorem dX9_ends_18 : decode cX9_ends 18 = .ok (.if_icmp .ge 31, 3) := by decide +kernel
theorem dX9_ends_21 : decode cX9_ends 21 = .ok (.aload_n 0, 1) := by decide +kernel
theorem dX9_ends_22 : decode cX9_ends 22 = .ok (.getfield 7, 3) := by decide +kernel
theorem dX9_ends_25 : decode cX9_ends 25 = .ok (.iload_n 2, 1) := by decide +kernel
theorem dX9_ends_26 : decode cX9_ends 26 = .ok (.iaload, 1) := by decide +kernel
theorem dX9_ends_27 : decode cX9_ends 27 = .ok (.bipush 32, 2) := by decide +kernel
theorem dX9_ends_29 : decode cX9_ends 29 = .ok (.if_icmp .eq 14, 3) := by decide +kernel
theorem dX9_ends_32 : decode cX9_ends 32 = .ok (.aload_n 0, 1) := by decide +kernel
theorem dX9_ends_33 : decode cX9_ends 33 = .ok (.getfield 7, 3) := by decide +kernel
theorem dX9_ends_36 : decode cX9_ends 36 = .ok (.iload_n 2, 1) := by decide +kernel
theorem dX9_ends_37 : decode cX9_ends 37 = .ok (.iaload, 1) := by decide +kernel
theorem dX9_ends_38 : decode cX9_ends 38 = .ok (.bipush 10, 2) := by decide +kernel
theorem dX9_ends_40 : decode cX9_ends 40 = .ok (.if_icmp .ne 9, 3) := by decide +kernel
theorem dX9_ends_43 : decode cX9_ends 43 = .ok (.iinc 2 1, 3) := by decide +kernel
theorem dX9_ends_46 : decode cX9_ends 46 = .ok (.goto (-33), 3) := by decide +kernel
theorem dX9_ends_49 : decode cX9_ends 49 = .ok (.aload_n 0, 1) := by decide +kernel
theorem dX9_ends_50 : decode cX9_ends 50 = .ok (.bipush 59, 2) := by decide +kernel
theorem dX9_ends_52 : decode cX9_ends 52 = .ok (.invokevirtual 280, 3) := by decide +kernel
theorem dX9_ends_55 : decode cX9_ends 55 = .ok (.ifCond .eq 23, 3) := by decide +kernel
theorem dX9_ends_58 : decode cX9_ends 58 = .ok (.iload_n 1, 1) := by decide +kernel
theorem dX9_ends_59 : decode cX9_ends 59 = .ok (.bipush 90, 2) := by decide +kernel
theorem dX9_ends_61 : decode cX9_ends 61 = .ok (.if_icmp .ne 17, 3) := by decide +kernel
theorem dX9_ends_64 : decode cX9_ends 64 = .ok (.iload_n 2, 1) := by decide +kernel
theorem dX9_ends_65 : decode cX9_ends 65 = .ok (.aload_n 0, 1) := by decide +kernel
theorem dX9_ends_66 : decode cX9_ends 66 = .ok (.getfield 17, 3) := by decide +kernel
theorem dX9_ends_69 : decode cX9_ends 69 = .ok (.if_icmp .ge 9, 3) := by decide +kernel
theorem dX9_ends_72 : decode cX9_ends 72 = .ok (.aload_n 0, 1) := by decide +kernel
theorem dX9_ends_73 : decode cX9_ends 73 = .ok (.iconst 5, 1) := by decide +kernel
theorem dX9_ends_74 : decode cX9_ends 74 = .ok (.iload_n 2, 1) := by decide +kernel
theorem dX9_ends_75 : decode cX9_ends 75 = .ok (.invokevirtual 276, 3) := by decide +kernel
theorem dX9_ends_78 : decode cX9_ends 78 = .ok (.aload_n 0, 1) := by decide +kernel
theorem dX9_ends_79 : decode cX9_ends 79 = .ok (.bipush 59, 2) := by decide +kernel
theorem dX9_ends_81 : decode cX9_ends 81 = .ok (.invokevirtual 416, 3) := by decide +kernel
theorem dX9_ends_84 : decode cX9_ends 84 = .ok (.return_, 1) := by decide +kernel
theorem dX9_exchange_0 : decode cX9_exchange 0 = .ok (.aload_n 0, 1) := by decide +kernel
theorem dX9_exchange_1 : decode cX9_exchange 1 = .ok (.invokevirtual 445, 3) := by decide +kernel
theorem dX9_exchange_4 : decode cX9_exchange 4 = .ok (.ifCond .eq 22, 3) := by decide +kernel
theorem dX9_exchange_7 : decode cX9_exchange 7 = .ok (.iload_n 1, 1) := by decide +kernel
theorem dX9_exchange_8 : decode cX9_exchange 8 = .ok (.iconst (-1), 1) := by decide +kernel
theorem dX9_exchange_9 : decode cX9_exchange 9 = .ok (.if_icmp .eq 19, 3) := by decide +kernel
theorem dX9_exchange_12 : decode cX9_exchange 12 = .ok (.iload_n 1, 1) := by decide +kernel
theorem dX9_exchange_13 : decode cX9_exchange 13 = .ok (.bipush 20, 2) := by decide +kernel
theorem dX9_exchange_15 : decode cX9_exchange 15 = .ok (.if_icmp .eq 13, 3) := by decide +kernel
theorem dX9_exchange_18 : decode cX9_exchange 18 = .ok (.aload_n 0, 1) := by decide +kernel
theorem dX9_exchange_19 : decode cX9_exchange 19 = .ok (.iload_n 1, 1) := by decide +kernel
theorem dX9_exchange_20 : decode cX9_exchange 20 = .ok (.invokevirtual 543, 3) := by decide +kernel
theorem dX9_exchange_23 : decode cX9_exchange 23 = .ok (.ifCond .ne 5, 3) := by decide +kernel
theorem dX9_exchange_26 : decode cX9_exchange 26 = .ok (.iconst (-1), 1) := by decide +kernel
theorem dX9_exchange_27 : decode cX9_exchange 27 = .ok (.ireturn, 1) := by decide +kernel
theorem dX9_exchange_28 : decode cX9_exchange 28 = .ok (.aload_n 0, 1) := by decide +kernel
theorem dX9_exchange_29 : decode cX9_exchange 29 = .ok (.invokevirtual 570, 3) := by decide +kernel
theorem dX9_exchange_32 : decode cX9_exchange 32 = .ok (.istore_n 2, 1) := by decide +kernel
theorem dX9_exchange_33 : decode cX9_exchange 33 = .ok (.iload_n 1, 1) := by decide +kernel
theorem dX9_exchange_34 : decode cX9_exchange 34 = .ok (.iconst (-1), 1) := by decide +kernel
theorem dX9_exchange_35 : decode cX9_exchange 35 = .ok (.if_icmp .ne 7, 3) := by decide +kernel
theorem dX9_exchange_38 : decode cX9_exchange 38 = .ok (.iload_n 2, 1) := by decide +kernel
theorem dX9_exchange_39 : decode cX9_exchange 39 = .ok (.goto 22, 3) := by decide +kernel
theorem dX9_exchange_42 : decode cX9_exchange 42 = .ok (.iload_n 1, 1) := by decide +kernel
theorem dX9_exchange_43 : decode cX9_exchange 43 = .ok (.bipush 20, 2) := by decide +kernel
theorem dX9_exchange_45 : decode cX9_exchange 45 = .ok (.if_icmp .ne 10, 3) := by decide +kernel
theorem dX9_exchange_48 : decode cX9_exchange 48 = .ok (.aload_n 0, 1) := by decide +kernel
theorem dX9_exchange_49 : decode cX9_exchange 49 = .ok (.getfield 246, 3) := by decide +kernel
theorem dX9_exchange_52 : decode cX9_exchange 52 = .ok (.goto 9, 3) := by decide +kernel
theorem dX9_exchange_55 : decode cX9_exchange 55 = .ok (.aload_n 0, 1) := by decide +kernel
theorem dX9_exchange_56 : decode cX9_exchange 56 = .ok (.getfield 222, 3) := by decide +kernel
theorem dX9_exchange_59 : decode cX9_exchange 59 = .ok (.iload_n 1, 1) := by decide +kernel
theorem dX9_exchange_60 : decode cX9_exchange 60 = .ok (.iaload, 1) := by decide +kernel
theorem dX9_exchange_61 : decode cX9_exchange 61 = .ok (.ireturn, 1) := by decide +kernel
theorem dX9_exchanged_0 : decode cX9_exchanged 0 = .ok (.aload_n 0, 1) := by decide +kernel
theorem dX9_exchanged_1 : decode cX9_exchanged 1 = .ok (.iconst 0, 1) := by decide +kernel
theorem dX9_exchanged_2 : decode cX9_exchanged 2 = .ok (.invokevirtual 502, 3) := by decide +kernel
theorem dX9_exchanged_5 : decode cX9_exchanged 5 = .ok (.aload_n 0, 1) := by decide +kernel
theorem dX9_exchanged_6 : decode cX9_exchanged 6 = .ok (.iconst 0, 1) := by decide +kernel
theorem dX9_exchanged_7 : decode cX9_exchanged 7 = .ok (.putfield 246, 3) := by decide +kernel
theorem dX9_exchanged_10 : decode cX9_exchanged 10 = .ok (.aload_n 0, 1) := by decide +kernel
theorem dX9_exchanged_11 : decode cX9_exchanged 11 = .ok (.invokevirtual 561, 3) := by decide +kernel
theorem dX9_exchanged_14 : decode cX9_exchanged 14 = .ok (.istore_n 1, 1) := by decide +kernel
theorem dX9_exchanged_15 : decode cX9_exchanged 15 = .ok (.iconst 1, 1) := by decide +kernel
theorem dX9_exchanged_16 : decode cX9_exchanged 16 = .ok (.istore_n 2, 1) := by decide +kernel
theorem dX9_exchanged_17 : decode cX9_exchanged 17 = .ok (.iload_n 2, 1) := by decide +kernel
theorem dX9_exchanged_18 : decode cX9_exchanged 18 = .ok (.ifCond .eq 139, 3) := by decide +kernel
theorem dX9_exchanged_21 : decode cX9_exchanged 21 = .ok (.iconst (-1), 1) := by decide +kernel
theorem dX9_exchanged_22 : decode cX9_exchanged 22 = .ok (.istore_n 3, 1) := by decide +kernel
theorem dX9_exchanged_23 : decode cX9_exchanged 23 = .ok (.iconst (-1), 1) := by decide +kernel
theorem dX9_exchanged_24 : decode cX9_exchanged 24 = .ok (.istore 4, 2) := by decide +kernel
theorem dX9_exchanged_26 : decode cX9_exchanged 26 = .ok (.iload_n 1, 1) := by decide +kernel
theorem dX9_exchanged_27 : decode cX9_exchanged 27 = .ok (.istore 5, 2) := by decide +kernel
theorem dX9_exchanged_29 : decode cX9_exchanged 29 = .ok (.iconst 0, 1) := by decide +kernel
theorem dX9_exchanged_30 : decode cX9_exchanged 30 = .ok (.istore 6, 2) := by decide +kernel
theorem dX9_exchanged_32 : decode cX9_exchanged 32 = .ok (.iload 6, 2) := by decide +kernel
theorem dX9_exchanged_34 : decode cX9_exchanged 34 = .ok (.aload_n 0, 1) := by decide +kernel
theorem dX9_exchanged_35 : decode cX9_exchanged 35 = .ok (.getfield 225, 3) := by decide +kernel
theorem dX9_exchanged_38 : decode cX9_exchanged 38 = .ok (.if_icmp .ge 73, 3) := by decide +kernel
theorem dX9_exchanged_41 : decode cX9_exchanged 41 = .ok (.iload 6, 2) := by decide +kernel
theorem dX9_exchanged_43 : decode cX9_exchanged 43 = .ok (.iconst 1, 1) := by decide +kernel
theorem dX9_exchanged_44 : decode cX9_exchanged 44 = .ok (.iadd, 1) := by decide +kernel
theorem dX9_exchanged_45 : decode cX9_exchanged 45 = .ok (.istore 7, 2) := by decide +kernel
theorem dX9_exchanged_47 : decode cX9_exchanged 47 = .ok (.iload 7, 2) := by decide +kernel
theorem dX9_exchanged_49 : decode cX9_exchanged 49 = .ok (.aload_n 0, 1) := by decide +kernel
theorem dX9_exchanged_50 : decode cX9_exchanged 50 = .ok (.getfield 225, 3) := by decide +kernel
theorem dX9_exchanged_53 : decode cX9_exchanged 53 = .ok (.if_icmp .ge 52, 3) := by decide +kernel
theorem dX9_exchanged_56 : decode cX9_exchanged 56 = .ok (.aload_n 0, 1) := by decide +kernel
theorem dX9_exchanged_57 : decode cX9_exchanged 57 = .ok (.iload 6, 2) := by decide +kernel
theorem dX9_exchanged_59 : decode cX9_exchanged 59 = .ok (.iload 7, 2) := by decide +kernel
theorem dX9_exchanged_61 : decode cX9_exchanged 61 = .ok (.invokevirtual 564, 3) := by decide +kernel
theorem dX9_exchanged_64 : decode cX9_exchanged 64 = .ok (.aload_n 0, 1) := by decide +kernel
theorem dX9_exchanged_65 : decode cX9_exchanged 65 = .ok (.invokevirtual 561, 3) := by decide +kernel
theorem dX9_exchanged_68 : decode cX9_exchanged 68 = .ok (.istore 8, 2) := by decide +kernel
theorem dX9_exchanged_70 : decode cX9_exchanged 70 = .ok (.aload_n 0, 1) := by decide +kernel
theorem dX9_exchanged_71 : decode cX9_exchanged 71 = .ok (.iload 6, 2) := by decide +kernel
theorem dX9_exchanged_73 : decode cX9_exchanged 73 = .ok (.iload 7, 2) := by decide +kernel
theorem dX9_exchanged_75 : decode cX9_exchanged 75 = .ok (.invokevirtual 564, 3) := by decide +kernel
theorem dX9_exchanged_78 : decode cX9_exchanged 78 = .ok (.iload 8, 2) := by decide +kernel
theorem dX9_exchanged_80 : decode cX9_exchanged 80 = .ok (.iload 5, 2) := by decide +kernel
theorem dX9_exchanged_82 : decode cX9_exchanged 82 = .ok (.if_icmp .lt 6, 3) := by decide +kernel
theorem dX9_exchanged_85 : decode cX9_exchanged 85 = .ok (.goto 14, 3) := by decide +kernel
theorem dX9_exchanged_88 : decode cX9_exchanged 88 = .ok (.iload 8, 2) := by decide +kernel
theorem dX9_exchanged_90 : decode cX9_exchanged 90 = .ok (.istore 5, 2) := by decide +kernel
theorem dX9_exchanged_92 : decode cX9_exchanged 92 = .ok (.iload 6, 2) := by decide +kernel
theorem dX9_exchanged_94 : decode cX9_exchanged 94 = .ok (.istore_n 3, 1) := by decide +kernel
theorem dX9_exchanged_95 : decode cX9_exchanged 95 = .ok (.iload 7, 2) := by decide +kernel
theorem dX9_exchanged_97 : decode cX9_exchanged 97 = .ok (.istore 4, 2) := by decide +kernel
theorem dX9_exchanged_99 : decode cX9_exchanged 99 = .ok (.iinc 7 1, 3) := by decide +kernel
theorem dX9_exchanged_102 : decode cX9_exchanged 102 = .ok (.goto (-55), 3) := by decide +kernel
theorem dX9_exchanged_105 : decode cX9_exchanged 105 = .ok (.iinc 6 1, 3) := by decide +kernel
theorem dX9_exchanged_108 : decode cX9_exchanged 108 = .ok (.goto (-76), 3) := by decide +kernel
theorem dX9_exchanged_111 : decode cX9_exchanged 111 = .ok (.iload_n 3, 1) := by decide +kernel
theorem dX9_exchanged_112 : decode cX9_exchanged 112 = .ok (.iconst (-1), 1) := by decide +kernel
theorem dX9_exchanged_113 : decode cX9_exchanged 113 = .ok (.if_icmp .eq 7, 3) := by decide +kernel
theorem dX9_exchanged_116 : decode cX9_exchanged 116 = .ok (.iconst 1, 1) := by decide +kernel
theorem dX9_exchanged_117 : decode cX9_exchanged 117 = .ok (.goto 4, 3) := by decide +kernel
theorem dX9_exchanged_120 : decode cX9_exchanged 120 = .ok (.iconst 0, 1) := by decide +kernel
theorem dX9_exchanged_121 : decode cX9_exchanged 121 = .ok (.istore_n 2, 1) := by decide +kernel
theorem dX9_exchanged_122 : decode cX9_exchanged 122 = .ok (.iload_n 2, 1) := by decide +kernel
theorem dX9_exchanged_123 : decode cX9_exchanged 123 = .ok (.ifCond .eq 10, 3) := by decide +kernel
theorem dX9_exchanged_126 : decode cX9_exchanged 126 = .ok (.aload_n 0, 1) := by decide +kernel
theorem dX9_exchanged_127 : decode cX9_exchanged 127 = .ok (.iload_n 3, 1) := by decide +kernel
theorem dX9_exchanged_128 : decode cX9_exchanged 128 = .ok (.iload 4, 2) := by decide +kernel
theorem dX9_exchanged_130 : decode cX9_exchanged 130 = .ok (.invokevirtual 564, 3) := by decide +kernel
theorem dX9_exchanged_133 : decode cX9_exchanged 133 = .ok (.aload_n 0, 1) := by decide +kernel
theorem dX9_exchanged_134 : decode cX9_exchanged 134 = .ok (.dup, 1) := by decide +kernel
theorem dX9_exchanged_135 : decode cX9_exchanged 135 = .ok (.getfield 246, 3) := by decide +kernel
theorem dX9_exchanged_138 : decode cX9_exchanged 138 = .ok (.iload_n 2, 1) := by decide +kernel
theorem dX9_exchanged_139 : decode cX9_exchanged 139 = .ok (.ifCond .eq 7, 3) := by decide +kernel
theorem dX9_exchanged_142 : decode cX9_exchanged 142 = .ok (.iconst 1, 1) := by decide +kernel
theorem dX9_exchanged_143 : decode cX9_exchanged 143 = .ok (.goto 4, 3) := by decide +kernel
theorem dX9_exchanged_146 : decode cX9_exchanged 146 = .ok (.iconst 0, 1) := by decide +kernel
theorem dX9_exchanged_147 : decode cX9_exchanged 147 = .ok (.iadd, 1) := by decide +kernel
theorem dX9_exchanged_148 : decode cX9_exchanged 148 = .ok (.putfield 246, 3) := by decide +kernel
theorem dX9_exchanged_151 : decode cX9_exchanged 151 = .ok (.iload 5, 2) := by decide +kernel
theorem dX9_exchanged_153 : decode cX9_exchanged 153 = .ok (.istore_n 1, 1) := by decide +kernel
theorem dX9_exchanged_154 : decode cX9_exchanged 154 = .ok (.goto (-137), 3) := by decide +kernel
theorem dX9_exchanged_157 : decode cX9_exchanged 157 = .ok (.iload_n 1, 1) := by decide +kernel
theorem dX9_exchanged_158 : decode cX9_exchanged 158 = .ok (.ireturn, 1) := by decide +kernel
theorem dX9_fault_0 : decode cX9_fault 0 = .ok (.iload_n 1, 1) := by decide +kernel
theorem dX9_fault_1 : decode cX9_fault 1 = .ok (.ifCond .ne 10, 3) := by decide +kernel
theorem dX9_fault_4 : decode cX9_fault 4 = .ok (.aload_n 0, 1) := by decide +kernel
theorem dX9_fault_5 : decode cX9_fault 5 = .ok (.getfield 42, 3) := by decide +kernel
theorem dX9_fault_8 : decode cX9_fault 8 = .ok (.goto 16, 3) := by decide +kernel
theorem dX9_fault_11 : decode cX9_fault 11 = .ok (.iload_n 1, 1) := by decide +kernel
theorem dX9_fault_12 : decode cX9_fault 12 = .ok (.iconst 1, 1) := by decide +kernel
theorem dX9_fault_13 : decode cX9_fault 13 = .ok (.if_icmp .ne 10, 3) := by decide +kernel
theorem dX9_fault_16 : decode cX9_fault 16 = .ok (.aload_n 0, 1) := by decide +kernel
theorem dX9_fault_17 : decode cX9_fault 17 = .ok (.getfield 45, 3) := by decide +kernel
theorem dX9_fault_20 : decode cX9_fault 20 = .ok (.goto 4, 3) := by decide +kernel
theorem dX9_fault_23 : decode cX9_fault 23 = .ok (.iconst (-1), 1) := by decide +kernel
theorem dX9_fault_24 : decode cX9_fault 24 = .ok (.ireturn, 1) := by decide +kernel
theorem dX9_feed_0 : decode cX9_feed 0 = .ok (.aload_n 0, 1) := by decide +kernel
theorem dX9_feed_1 : decode cX9_feed 1 = .ok (.getfield 13, 3) := by decide +kernel
theorem dX9_feed_4 : decode cX9_feed 4 = .ok (.bipush 20, 2) := by decide +kernel
theorem dX9_feed_6 : decode cX9_feed 6 = .ok (.iadd, 1) := by decide +kernel
theorem dX9_feed_7 : decode cX9_feed 7 = .ok (.sipush 1600, 3) := by decide +kernel
theorem dX9_feed_10 : decode cX9_feed 10 = .ok (.if_icmp .le 9, 3) := by decide +kernel
theorem dX9_feed_13 : decode cX9_feed 13 = .ok (.aload_n 0, 1) := by decide +kernel
theorem dX9_feed_14 : decode cX9_feed 14 = .ok (.iconst 0, 1) := by decide +kernel
theorem dX9_feed_15 : decode cX9_feed 15 = .ok (.invokevirtual 261, 3) := by decide +kernel
theorem dX9_feed_18 : decode cX9_feed 18 = .ok (.ireturn, 1) := by decide +kernel
theorem dX9_feed_19 : decode cX9_feed 19 = .ok (.aload_n 0, 1) := by decide +kernel
theorem dX9_feed_20 : decode cX9_feed 20 = .ok (.iload_n 1, 1) := by decide +kernel
theorem dX9_feed_21 : decode cX9_feed 21 = .ok (.invokevirtual 265, 3) := by decide +kernel
theorem dX9_feed_24 : decode cX9_feed 24 = .ok (.aload_n 0, 1) := by decide +kernel
theorem dX9_feed_25 : decode cX9_feed 25 = .ok (.iload_n 2, 1) := by decide +kernel
theorem dX9_feed_26 : decode cX9_feed 26 = .ok (.invokevirtual 265, 3) := by decide +kernel
theorem dX9_feed_29 : decode cX9_feed 29 = .ok (.aload_n 0, 1) := by decide +kernel
theorem dX9_feed_30 : decode cX9_feed 30 = .ok (.iload_n 3, 1) := by decide +kernel
theorem dX9_feed_31 : decode cX9_feed 31 = .ok (.invokevirtual 265, 3) := by decide +kernel
theorem dX9_feed_34 : decode cX9_feed 34 = .ok (.aload_n 0, 1) := by decide +kernel
theorem dX9_feed_35 : decode cX9_feed 35 = .ok (.iload 4, 2) := by decide +kernel
theorem dX9_feed_37 : decode cX9_feed 37 = .ok (.invokevirtual 265, 3) := by decide +kernel
theorem dX9_feed_40 : decode cX9_feed 40 = .ok (.aload_n 0, 1) := by decide +kernel
theorem dX9_feed_41 : decode cX9_feed 41 = .ok (.iload 5, 2) := by decide +kernel
theorem dX9_feed_43 : decode cX9_feed 43 = .ok (.invokevirtual 265, 3) := by decide +kernel
theorem dX9_feed_46 : decode cX9_feed 46 = .ok (.aload_n 0, 1) := by decide +kernel
theorem dX9_feed_47 : decode cX9_feed 47 = .ok (.getfield 13, 3) := by decide +kernel
theorem dX9_feed_50 : decode cX9_feed 50 = .ok (.ireturn, 1) := by decide +kernel
theorem dX9_feels_0 : decode cX9_feels 0 = .ok (.aload_n 0, 1) := by decide +kernel
theorem dX9_feels_1 : decode cX9_feels 1 = .ok (.iload_n 1, 1) := by decide +kernel
theorem dX9_feels_2 : decode cX9_feels 2 = .ok (.invokevirtual 543, 3) := by decide +kernel
theorem dX9_feels_5 : decode cX9_feels 5 = .ok (.ifCond .eq 27, 3) := by decide +kernel
theorem dX9_feels_8 : decode cX9_feels 8 = .ok (.aload_n 0, 1) := by decide +kernel
theorem dX9_feels_9 : decode cX9_feels 9 = .ok (.iload_n 3, 1) := by decide +kernel
theorem dX9_feels_10 : decode cX9_feels 10 = .ok (.invokevirtual 543, 3) := by decide +kernel
theorem dX9_feels_13 : decode cX9_feels 13 = .ok (.ifCond .eq 19, 3) := by decide +kernel
theorem dX9_feels_16 : decode cX9_feels 16 = .ok (.iload_n 1, 1) := by decide +kernel
theorem dX9_feels_17 : decode cX9_feels 17 = .ok (.iload_n 3, 1) := by decide +kernel
theorem dX9_feels_18 : decode cX9_feels 18 = .ok (.if_icmp .eq 14, 3) := by decide +kernel
theorem dX9_feels_21 : decode cX9_feels 21 = .ok (.iload_n 2, 1) := by decide +kernel
theorem dX9_feels_22 : decode cX9_feels 22 = .ok (.iconst 1, 1) := by decide +kernel
theorem dX9_feels_23 : decode cX9_feels 23 = .ok (.sipush 9999, 3) := by decide +kernel
theorem dX9_feels_26 : decode cX9_feels 26 = .ok (.invokestatic 340, 3) := by decide +kernel
theorem dX9_feels_29 : decode cX9_feels 29 = .ok (.ifCond .ne 5, 3) := by decide +kernel
theorem dX9_feels_32 : decode cX9_feels 32 = .ok (.iconst (-1), 1) := by decide +kernel
theorem dX9_feels_33 : decode cX9_feels 33 = .ok (.ireturn, 1) := by decide +kernel
theorem dX9_feels_34 : decode cX9_feels 34 = .ok (.aload_n 0, 1) := by decide +kernel
theorem dX9_feels_35 : decode cX9_feels 35 = .ok (.iconst 0, 1) := by decide +kernel
theorem dX9_feels_36 : decode cX9_feels 36 = .ok (.invokevirtual 502, 3) := by decide +kernel
theorem dX9_feels_39 : decode cX9_feels 39 = .ok (.aload_n 0, 1) := by decide +kernel
theorem dX9_feels_40 : decode cX9_feels 40 = .ok (.iload_n 1, 1) := by decide +kernel
theorem dX9_feels_41 : decode cX9_feels 41 = .ok (.iload_n 2, 1) := by decide +kernel
theorem dX9_feels_42 : decode cX9_feels 42 = .ok (.invokevirtual 508, 3) := by decide +kernel
theorem dX9_feels_45 : decode cX9_feels 45 = .ok (.aload_n 0, 1) := by decide +kernel
theorem dX9_feels_46 : decode cX9_feels 46 = .ok (.getfield 234, 3) := by decide +kernel
theorem dX9_feels_49 : decode cX9_feels 49 = .ok (.iload_n 3, 1) := by decide +kernel
theorem dX9_feels_50 : decode cX9_feels 50 = .ok (.iaload, 1) := by decide +kernel
theorem dX9_feels_51 : decode cX9_feels 51 = .ok (.ireturn, 1) := by decide +kernel
theorem dX9_firstCuts_0 : decode cX9_firstCuts 0 = .ok (.iconst 0, 1) := by decide +kernel
theorem dX9_firstCuts_1 : decode cX9_firstCuts 1 = .ok (.istore_n 2, 1) := by decide +kernel
theorem dX9_firstCuts_2 : decode cX9_firstCuts 2 = .ok (.iconst 0, 1) := by decide +kernel
theorem dX9_firstCuts_3 : decode cX9_firstCuts 3 = .ok (.istore_n 3, 1) := by decide +kernel
theorem dX9_firstCuts_4 : decode cX9_firstCuts 4 = .ok (.iload_n 3, 1) := by decide +kernel
theorem dX9_firstCuts_5 : decode cX9_firstCuts 5 = .ok (.iload_n 1, 1) := by decide +kernel
theorem dX9_firstCuts_6 : decode cX9_firstCuts 6 = .ok (.if_icmp .ge 41, 3) := by decide +kernel
theorem dX9_firstCuts_9 : decode cX9_firstCuts 9 = .ok (.aload_n 0, 1) := by decide +kernel
theorem dX9_firstCuts_10 : decode cX9_firstCuts 10 = .ok (.getfield 249, 3) := by decide +kernel
theorem dX9_firstCuts_13 : decode cX9_firstCuts 13 = .ok (.iload_n 3, 1) := by decide +kernel
theorem dX9_firstCuts_14 : decode cX9_firstCuts 14 = .ok (.aload_n 0, 1) := by decide +kernel
theorem dX9_firstCuts_15 : decode cX9_firstCuts 15 = .ok (.iload_n 2, 1) := by decide +kernel
theorem dX9_firstCuts_16 : decode cX9_firstCuts 16 = .ok (.invokevirtual 585, 3) := by decide +kernel
theorem dX9_firstCuts_19 : decode cX9_firstCuts 19 = .ok (.iastore, 1) := by decide +kernel
theorem dX9_firstCuts_20 : decode cX9_firstCuts 20 = .ok (.aload_n 0, 1) := by decide +kernel
theorem dX9_firstCuts_21 : decode cX9_firstCuts 21 = .ok (.getfield 249, 3) := by decide +kernel
theorem dX9_firstCuts_24 : decode cX9_firstCuts 24 = .ok (.iload_n 3, 1) := by decide +kernel
theorem dX9_firstCuts_25 : decode cX9_firstCuts 25 = .ok (.iaload, 1) := by decide +kernel
theorem dX9_firstCuts_26 : decode cX9_firstCuts 26 = .ok (.iconst (-1), 1) := by decide +kernel
theorem dX9_firstCuts_27 : decode cX9_firstCuts 27 = .ok (.if_icmp .ne 5, 3) := by decide +kernel
theorem dX9_firstCuts_30 : decode cX9_firstCuts 30 = .ok (.iconst 0, 1) := by decide +kernel
theorem dX9_firstCuts_31 : decode cX9_firstCuts 31 = .ok (.ireturn, 1) := by decide +kernel
theorem dX9_firstCuts_32 : decode cX9_firstCuts 32 = .ok (.aload_n 0, 1) := by decide +kernel
theorem dX9_firstCuts_33 : decode cX9_firstCuts 33 = .ok (.getfield 249, 3) := by decide +kernel
theorem dX9_firstCuts_36 : decode cX9_firstCuts 36 = .ok (.iload_n 3, 1) := by decide +kernel
theorem dX9_firstCuts_37 : decode cX9_firstCuts 37 = .ok (.iaload, 1) := by decide +kernel
theorem dX9_firstCuts_38 : decode cX9_firstCuts 38 = .ok (.iconst 1, 1) := by decide +kernel
theorem dX9_firstCuts_39 : decode cX9_firstCuts 39 = .ok (.iadd, 1) := by decide +kernel
theorem dX9_firstCuts_40 : decode cX9_firstCuts 40 = .ok (.istore_n 2, 1) := by decide +kernel
theorem dX9_firstCuts_41 : decode cX9_firstCuts 41 = .ok (.iinc 3 1, 3) := by decide +kernel
theorem dX9_firstCuts_44 : decode cX9_firstCuts 44 = .ok (.goto (-40), 3) := by decide +kernel
theorem dX9_firstCuts_47 : decode cX9_firstCuts 47 = .ok (.iconst 1, 1) := by decide +kernel
theorem dX9_firstCuts_48 : decode cX9_firstCuts 48 = .ok (.ireturn, 1) := by decide +kernel
theorem dX9_fresh_0 : decode cX9_fresh 0 = .ok (.aload_n 0, 1) := by decide +kernel
theorem dX9_fresh_1 : decode cX9_fresh 1 = .ok (.getfield 36, 3) := by decide +kernel
theorem dX9_fresh_4 : decode cX9_fresh 4 = .ok (.ifCond .le 5, 3) := by decide +kernel
theorem dX9_fresh_7 : decode cX9_fresh 7 = .ok (.lconst 0, 1) := by decide +kernel
theorem dX9_fresh_8 : decode cX9_fresh 8 = .ok (.lreturn, 1) := by decide +kernel
theorem dX9_fresh_9 : decode cX9_fresh 9 = .ok (.aload_n 0, 1) := by decide +kernel
theorem dX9_fresh_10 : decode cX9_fresh 10 = .ok (.getfield 20, 3) := by decide +kernel
theorem dX9_fresh_13 : decode cX9_fresh 13 = .ok (.iconst 1, 1) := by decide +kernel
theorem dX9_fresh_14 : decode cX9_fresh 14 = .ok (.if_icmp .ne 14, 3) := by decide +kernel
theorem dX9_fresh_17 : decode cX9_fresh 17 = .ok (.aload_n 0, 1) := by decide +kernel
theorem dX9_fresh_18 : decode cX9_fresh 18 = .ok (.aload_n 0, 1) := by decide +kernel
theorem dX9_fresh_19 : decode cX9_fresh 19 = .ok (.getfield 32, 3) := by decide +kernel
theorem dX9_fresh_22 : decode cX9_fresh 22 = .ok (.invokevirtual 375, 3) := by decide +kernel
theorem dX9_fresh_25 : decode cX9_fresh 25 = .ok (.ifCond .eq 12, 3) := by decide +kernel
theorem dX9_fresh_28 : decode cX9_fresh 28 = .ok (.aload_n 0, 1) := by decide +kernel
theorem dX9_fresh_29 : decode cX9_fresh 29 = .ok (.iconst 1, 1) := by decide +kernel
theorem dX9_fresh_30 : decode cX9_fresh 30 = .ok (.aload_n 0, 1) := by decide +kernel
theorem dX9_fresh_31 : decode cX9_fresh 31 = .ok (.getfield 23, 3) := by decide +kernel
theorem dX9_fresh_34 : decode cX9_fresh 34 = .ok (.invokevirtual 276, 3) := by decide +kernel
theorem dX9_fresh_37 : decode cX9_fresh 37 = .ok (.aload_n 0, 1) := by decide +kernel
theorem dX9_fresh_38 : decode cX9_fresh 38 = .ok (.getfield 36, 3) := by decide +kernel
theorem dX9_fresh_41 : decode cX9_fresh 41 = .ok (.ifCond .ne 23, 3) := by decide +kernel
theorem dX9_fresh_44 : decode cX9_fresh 44 = .ok (.aload_n 0, 1) := by decide +kernel
theorem dX9_fresh_45 : decode cX9_fresh 45 = .ok (.aload_n 0, 1) := by decide +kernel
theorem dX9_fresh_46 : decode cX9_fresh 46 = .ok (.getfield 32, 3) := by decide +kernel
theorem dX9_fresh_49 : decode cX9_fresh 49 = .ok (.invokevirtual 378, 3) := by decide +kernel
theorem dX9_fresh_52 : decode cX9_fresh 52 = .ok (.ifCond .eq 12, 3) := by decide +kernel
theorem dX9_fresh_55 : decode cX9_fresh 55 = .ok (.aload_n 0, 1) := by decide +kernel
theorem dX9_fresh_56 : decode cX9_fresh 56 = .ok (.iconst 2, 1) := by decide +kernel
theorem dX9_fresh_57 : decode cX9_fresh 57 = .ok (.aload_n 0, 1) := by decide +kernel
theorem dX9_fresh_58 : decode cX9_fresh 58 = .ok (.getfield 23, 3) := by decide +kernel
theorem dX9_fresh_61 : decode cX9_fresh 61 = .ok (.invokevirtual 276, 3) := by decide +kernel
theorem dX9_fresh_64 : decode cX9_fresh 64 = .ok (.aload_n 0, 1) := by decide +kernel
theorem dX9_fresh_65 : decode cX9_fresh 65 = .ok (.getfield 32, 3) := by decide +kernel
theorem dX9_fresh_68 : decode cX9_fresh 68 = .ok (.lstore_n 1, 1) := by decide +kernel
theorem dX9_fresh_69 : decode cX9_fresh 69 = .ok (.aload_n 0, 1) := by decide +kernel
theorem dX9_fresh_70 : decode cX9_fresh 70 = .ok (.getfield 36, 3) := by decide +kernel
theorem dX9_fresh_73 : decode cX9_fresh 73 = .ok (.ifCond .ne 7, 3) := by decide +kernel
theorem dX9_fresh_76 : decode cX9_fresh 76 = .ok (.aload_n 0, 1) := by decide +kernel
theorem dX9_fresh_77 : decode cX9_fresh 77 = .ok (.invokevirtual 283, 3) := by decide +kernel
theorem dX9_fresh_80 : decode cX9_fresh 80 = .ok (.lload_n 1, 1) := by decide +kernel
theorem dX9_fresh_81 : decode cX9_fresh 81 = .ok (.lreturn, 1) := by decide +kernel
theorem dX9_go_0 : decode cX9_go 0 = .ok (.iload_n 1, 1) := by decide +kernel
theorem dX9_go_1 : decode cX9_go 1 = .ok (.iconst 1, 1) := by decide +kernel
theorem dX9_go_2 : decode cX9_go 2 = .ok (.bipush 99, 2) := by decide +kernel
theorem dX9_go_4 : decode cX9_go 4 = .ok (.invokestatic 340, 3) := by decide +kernel
theorem dX9_go_7 : decode cX9_go 7 = .ok (.ifCond .eq 22, 3) := by decide +kernel
theorem dX9_go_10 : decode cX9_go 10 = .ok (.aload_n 0, 1) := by decide +kernel
theorem dX9_go_11 : decode cX9_go 11 = .ok (.invokevirtual 445, 3) := by decide +kernel
theorem dX9_go_14 : decode cX9_go 14 = .ok (.ifCond .eq 15, 3) := by decide +kernel
theorem dX9_go_17 : decode cX9_go 17 = .ok (.aload_n 0, 1) := by decide +kernel
theorem dX9_go_18 : decode cX9_go 18 = .ok (.getfield 162, 3) := by decide +kernel
theorem dX9_go_21 : decode cX9_go 21 = .ok (.iconst 0, 1) := by decide +kernel
theorem dX9_go_22 : decode cX9_go 22 = .ok (.iaload, 1) := by decide +kernel
theorem dX9_go_23 : decode cX9_go 23 = .ok (.sipush 999, 3) := by decide +kernel
theorem dX9_go_26 : decode cX9_go 26 = .ok (.if_icmp .ne 9, 3) := by decide +kernel
theorem dX9_go_29 : decode cX9_go 29 = .ok (.aload_n 0, 1) := by decide +kernel
theorem dX9_go_30 : decode cX9_go 30 = .ok (.iconst 2, 1) := by decide +kernel
theorem dX9_go_31 : decode cX9_go 31 = .ok (.invokevirtual 261, 3) := by decide +kernel
theorem dX9_go_34 : decode cX9_go 34 = .ok (.ireturn, 1) := by decide +kernel
theorem dX9_go_35 : decode cX9_go 35 = .ok (.aload_n 0, 1) := by decide +kernel
theorem dX9_go_36 : decode cX9_go 36 = .ok (.invokevirtual 555, 3) := by decide +kernel
theorem dX9_go_39 : decode cX9_go 39 = .ok (.aload_n 0, 1) := by decide +kernel
theorem dX9_go_40 : decode cX9_go 40 = .ok (.iconst 0, 1) := by decide +kernel
theorem dX9_go_41 : decode cX9_go 41 = .ok (.putfield 240, 3) := by decide +kernel
theorem dX9_go_44 : decode cX9_go 44 = .ok (.iconst 0, 1) := by decide +kernel
theorem dX9_go_45 : decode cX9_go 45 = .ok (.istore_n 2, 1) := by decide +kernel
theorem dX9_go_46 : decode cX9_go 46 = .ok (.iload_n 2, 1) := by decide +kernel
theorem dX9_go_47 : decode cX9_go 47 = .ok (.iload_n 1, 1) := by decide +kernel
theorem dX9_go_48 : decode cX9_go 48 = .ok (.if_icmp .ge 26, 3) := by decide +kernel
theorem dX9_go_51 : decode cX9_go 51 = .ok (.aload_n 0, 1) := by decide +kernel
theorem dX9_go_52 : decode cX9_go 52 = .ok (.getfield 162, 3) := by decide +kernel
theorem dX9_go_55 : decode cX9_go 55 = .ok (.iconst 0, 1) := by decide +kernel
theorem dX9_go_56 : decode cX9_go 56 = .ok (.iaload, 1) := by decide +kernel
theorem dX9_go_57 : decode cX9_go 57 = .ok (.sipush 999, 3) := by decide +kernel
theorem dX9_go_60 : decode cX9_go 60 = .ok (.if_icmp .ge 14, 3) := by decide +kernel
theorem dX9_go_63 : decode cX9_go 63 = .ok (.aload_n 0, 1) := by decide +kernel
theorem dX9_go_64 : decode cX9_go 64 = .ok (.iconst 0, 1) := by decide +kernel
theorem dX9_go_65 : decode cX9_go 65 = .ok (.invokevirtual 558, 3) := by decide +kernel
theorem dX9_go_68 : decode cX9_go 68 = .ok (.iinc 2 1, 3) := by decide +kernel
theorem dX9_go_71 : decode cX9_go 71 = .ok (.goto (-25), 3) := by decide +kernel
theorem dX9_go_74 : decode cX9_go 74 = .ok (.aload_n 0, 1) := by decide +kernel
theorem dX9_go_75 : decode cX9_go 75 = .ok (.getfield 240, 3) := by decide +kernel
theorem dX9_go_78 : decode cX9_go 78 = .ok (.ireturn, 1) := by decide +kernel
theorem dX9_goesOn_0 : decode cX9_goesOn 0 = .ok (.aload_n 0, 1) := by decide +kernel
theorem dX9_goesOn_1 : decode cX9_goesOn 1 = .ok (.getfield 137, 3) := by decide +kernel
theorem dX9_goesOn_4 : decode cX9_goesOn 4 = .ok (.iconst 1, 1) := by decide +kernel
theorem dX9_goesOn_5 : decode cX9_goesOn 5 = .ok (.isub, 1) := by decide +kernel
theorem dX9_goesOn_6 : decode cX9_goesOn 6 = .ok (.istore_n 1, 1) := by decide +kernel
theorem dX9_goesOn_7 : decode cX9_goesOn 7 = .ok (.aload_n 0, 1) := by decide +kernel
theorem dX9_goesOn_8 : decode cX9_goesOn 8 = .ok (.getfield 121, 3) := by decide +kernel
theorem dX9_goesOn_11 : decode cX9_goesOn 11 = .ok (.iload_n 1, 1) := by decide +kernel
theorem dX9_goesOn_12 : decode cX9_goesOn 12 = .ok (.iaload, 1) := by decide +kernel
theorem dX9_goesOn_13 : decode cX9_goesOn 13 = .ok (.istore_n 2, 1) := by decide +kernel
theorem dX9_goesOn_14 : decode cX9_goesOn 14 = .ok (.iload_n 2, 1) := by decide +kernel
theorem dX9_goesOn_15 : decode cX9_goesOn 15 = .ok (.invokestatic 353, 3) := by decide +kernel
theorem dX9_goesOn_18 : decode cX9_goesOn 18 = .ok (.istore_n 3, 1) := by decide +kernel
theorem dX9_goesOn_19 : decode cX9_goesOn 19 = .ok (.aload_n 0, 1) := by decide +kernel
theorem dX9_goesOn_20 : decode cX9_goesOn 20 = .ok (.getfield 124, 3) := by decide +kernel
theorem dX9_goesOn_23 : decode cX9_goesOn 23 = .ok (.iload_n 1, 1) := by decide +kernel
theorem dX9_goesOn_24 : decode cX9_goesOn 24 = .ok (.iaload, 1) := by decide +kernel
theorem dX9_goesOn_25 : decode cX9_goesOn 25 = .ok (.iconst 2, 1) := by decide +kernel
theorem dX9_goesOn_26 : decode cX9_goesOn 26 = .ok (.if_icmp .ge 149, 3) := by decide +kernel
theorem dX9_goesOn_29 : decode cX9_goesOn 29 = .ok (.aload_n 0, 1) := by decide +kernel
theorem dX9_goesOn_30 : decode cX9_goesOn 30 = .ok (.bipush 43, 2) := by decide +kernel
theorem dX9_goesOn_32 : decode cX9_goesOn 32 = .ok (.invokevirtual 280, 3) := by decide +kernel
theorem dX9_goesOn_35 : decode cX9_goesOn 35 = .ok (.ifCond .ne 39, 3) := by decide +kernel
theorem dX9_goesOn_38 : decode cX9_goesOn 38 = .ok (.aload_n 0, 1) := by decide +kernel
theorem dX9_goesOn_39 : decode cX9_goesOn 39 = .ok (.bipush 45, 2) := by decide +kernel
theorem dX9_goesOn_41 : decode cX9_goesOn 41 = .ok (.invokevirtual 280, 3) := by decide +kernel
theorem dX9_goesOn_44 : decode cX9_goesOn 44 = .ok (.ifCond .ne 30, 3) := by decide +kernel
theorem dX9_goesOn_47 : decode cX9_goesOn 47 = .ok (.aload_n 0, 1) := by decide +kernel
theorem dX9_goesOn_48 : decode cX9_goesOn 48 = .ok (.bipush 42, 2) := by decide +kernel
theorem dX9_goesOn_50 : decode cX9_goesOn 50 = .ok (.invokevirtual 280, 3) := by decide +kernel
theorem dX9_goesOn_53 : decode cX9_goesOn 53 = .ok (.ifCond .ne 21, 3) := by decide +kernel
theorem dX9_goesOn_56 : decode cX9_goesOn 56 = .ok (.aload_n 0, 1) := by decide +kernel
theorem dX9_goesOn_57 : decode cX9_goesOn 57 = .ok (.bipush 47, 2) := by decide +kernel
theorem dX9_goesOn_59 : decode cX9_goesOn 59 = .ok (.invokevirtual 280, 3) := by decide +kernel
theorem dX9_goesOn_62 : decode cX9_goesOn 62 = .ok (.ifCond .ne 12, 3) := by decide +kernel
theorem dX9_goesOn_65 : decode cX9_goesOn 65 = .ok (.aload_n 0, 1) := by decide +kernel
theorem dX9_goesOn_66 : decode cX9_goesOn 66 = .ok (.bipush 37, 2) := by decide +kernel
theorem dX9_goesOn_68 : decode cX9_goesOn 68 = .ok (.invokevirtual 280, 3) := by decide +kernel
theorem dX9_goesOn_71 : decode cX9_goesOn 71 = .ok (.ifCond .eq 104, 3) := by decide +kernel
theorem dX9_goesOn_74 : decode cX9_goesOn 74 = .ok (.aload_n 0, 1) := by decide +kernel
theorem dX9_goesOn_75 : decode cX9_goesOn 75 = .ok (.aload_n 0, 1) := by decide +kernel
theorem dX9_goesOn_76 : decode cX9_goesOn 76 = .ok (.bipush 43, 2) := by decide +kernel
theorem dX9_goesOn_78 : decode cX9_goesOn 78 = .ok (.invokevirtual 280, 3) := by decide +kernel
theorem dX9_goesOn_81 : decode cX9_goesOn 81 = .ok (.ifCond .ne 12, 3) := by decide +kernel
theorem dX9_goesOn_84 : decode cX9_goesOn 84 = .ok (.aload_n 0, 1) := by decide +kernel
theorem dX9_goesOn_85 : decode cX9_goesOn 85 = .ok (.bipush 45, 2) := by decide +kernel
theorem dX9_goesOn_87 : decode cX9_goesOn 87 = .ok (.invokevirtual 280, 3) := by decide +kernel
theorem dX9_goesOn_90 : decode cX9_goesOn 90 = .ok (.ifCond .eq 7, 3) := by decide +kernel
theorem dX9_goesOn_93 : decode cX9_goesOn 93 = .ok (.iconst 5, 1) := by decide +kernel
theorem dX9_goesOn_94 : decode cX9_goesOn 94 = .ok (.goto 5, 3) := by decide +kernel
theorem dX9_goesOn_97 : decode cX9_goesOn 97 = .ok (.bipush 6, 2) := by decide +kernel
theorem dX9_goesOn_99 : decode cX9_goesOn 99 = .ok (.invokevirtual 366, 3) := by decide +kernel
theorem dX9_goesOn_102 : decode cX9_goesOn 102 = .ok (.aload_n 0, 1) := by decide +kernel
theorem dX9_goesOn_103 : decode cX9_goesOn 103 = .ok (.aload_n 0, 1) := by decide +kernel
theorem dX9_goesOn_104 : decode cX9_goesOn 104 = .ok (.bipush 43, 2) := by decide +kernel
theorem dX9_goesOn_106 : decode cX9_goesOn 106 = .ok (.invokevirtual 280, 3) := by decide +kernel
theorem dX9_goesOn_109 : decode cX9_goesOn 109 = .ok (.ifCond .eq 8, 3) := by decide +kernel
theorem dX9_goesOn_112 : decode cX9_goesOn 112 = .ok (.bipush 10, 2) := by decide +kernel
theorem dX9_goesOn_114 : decode cX9_goesOn 114 = .ok (.goto 47, 3) := by decide +kernel
theorem dX9_goesOn_117 : decode cX9_goesOn 117 = .ok (.aload_n 0, 1) := by decide +kernel
theorem dX9_goesOn_118 : decode cX9_goesOn 118 = .ok (.bipush 45, 2) := by decide +kernel
theorem dX9_goesOn_120 : decode cX9_goesOn 120 = .ok (.invokevirtual 280, 3) := by decide +kernel
theorem dX9_goesOn_123 : decode cX9_goesOn 123 = .ok (.ifCond .eq 8, 3) := by decide +kernel
theorem dX9_goesOn_126 : decode cX9_goesOn 126 = .ok (.bipush 11, 2) := by decide +kernel
theorem dX9_goesOn_128 : decode cX9_goesOn 128 = .ok (.goto 33, 3) := by decide +kernel
theorem dX9_goesOn_131 : decode cX9_goesOn 131 = .ok (.aload_n 0, 1) := by decide +kernel
theorem dX9_goesOn_132 : decode cX9_goesOn 132 = .ok (.bipush 42, 2) := by decide +kernel
theorem dX9_goesOn_134 : decode cX9_goesOn 134 = .ok (.invokevirtual 280, 3) := by decide +kernel
theorem dX9_goesOn_137 : decode cX9_goesOn 137 = .ok (.ifCond .eq 8, 3) := by decide +kernel
theorem dX9_goesOn_140 : decode cX9_goesOn 140 = .ok (.bipush 12, 2) := by decide +kernel
theorem dX9_goesOn_142 : decode cX9_goesOn 142 = .ok (.goto 19, 3) := by decide +kernel
theorem dX9_goesOn_145 : decode cX9_goesOn 145 = .ok (.aload_n 0, 1) := by decide +kernel
theorem dX9_goesOn_146 : decode cX9_goesOn 146 = .ok (.bipush 47, 2) := by decide +kernel
theorem dX9_goesOn_148 : decode cX9_goesOn 148 = .ok (.invokevirtual 280, 3) := by decide +kernel
theorem dX9_goesOn_151 : decode cX9_goesOn 151 = .ok (.ifCond .eq 8, 3) := by decide +kernel
theorem dX9_goesOn_154 : decode cX9_goesOn 154 = .ok (.bipush 13, 2) := by decide +kernel
theorem dX9_goesOn_156 : decode cX9_goesOn 156 = .ok (.goto 5, 3) := by decide +kernel
theorem dX9_goesOn_159 : decode cX9_goesOn 159 = .ok (.bipush 14, 2) := by decide +kernel
theorem dX9_goesOn_161 : decode cX9_goesOn 161 = .ok (.invokevirtual 360, 3) := by decide +kernel
theorem dX9_goesOn_164 : decode cX9_goesOn 164 = .ok (.aload_n 0, 1) := by decide +kernel
theorem dX9_goesOn_165 : decode cX9_goesOn 165 = .ok (.invokevirtual 283, 3) := by decide +kernel
theorem dX9_goesOn_168 : decode cX9_goesOn 168 = .ok (.aload_n 0, 1) := by decide +kernel
theorem dX9_goesOn_169 : decode cX9_goesOn 169 = .ok (.iconst 0, 1) := by decide +kernel
theorem dX9_goesOn_170 : decode cX9_goesOn 170 = .ok (.putfield 149, 3) := by decide +kernel
theorem dX9_goesOn_173 : decode cX9_goesOn 173 = .ok (.iconst 1, 1) := by decide +kernel
theorem dX9_goesOn_174 : decode cX9_goesOn 174 = .ok (.ireturn, 1) := by decide +kernel
theorem dX9_goesOn_175 : decode cX9_goesOn 175 = .ok (.iload_n 3, 1) := by decide +kernel
theorem dX9_goesOn_176 : decode cX9_goesOn 176 = .ok (.ifCond .eq 96, 3) := by decide +kernel
theorem dX9_goesOn_179 : decode cX9_goesOn 179 = .ok (.aload_n 0, 1) := by decide +kernel
theorem dX9_goesOn_180 : decode cX9_goesOn 180 = .ok (.getfield 124, 3) := by decide +kernel
theorem dX9_goesOn_183 : decode cX9_goesOn 183 = .ok (.iload_n 1, 1) := by decide +kernel
theorem dX9_goesOn_184 : decode cX9_goesOn 184 = .ok (.iaload, 1) := by decide +kernel
theorem dX9_goesOn_185 : decode cX9_goesOn 185 = .ok (.ifCond .ne 87, 3) := by decide +kernel
theorem dX9_goesOn_188 : decode cX9_goesOn 188 = .ok (.aload_n 0, 1) := by decide +kernel
theorem dX9_goesOn_189 : decode cX9_goesOn 189 = .ok (.bipush 60, 2) := by decide +kernel
theorem dX9_goesOn_191 : decode cX9_goesOn 191 = .ok (.invokevirtual 280, 3) := by decide +kernel
theorem dX9_goesOn_194 : decode cX9_goesOn 194 = .ok (.ifCond .ne 21, 3) := by decide +kernel
theorem dX9_goesOn_197 : decode cX9_goesOn 197 = .ok (.aload_n 0, 1) := by decide +kernel
theorem dX9_goesOn_198 : decode cX9_goesOn 198 = .ok (.bipush 62, 2) := by decide +kernel
theorem dX9_goesOn_200 : decode cX9_goesOn 200 = .ok (.invokevirtual 280, 3) := by decide +kernel
theorem dX9_goesOn_203 : decode cX9_goesOn 203 = .ok (.ifCond .ne 12, 3) := by decide +kernel
theorem dX9_goesOn_206 : decode cX9_goesOn 206 = .ok (.aload_n 0, 1) := by decide +kernel
theorem dX9_goesOn_207 : decode cX9_goesOn 207 = .ok (.bipush 61, 2) := by decide +kernel
theorem dX9_goesOn_209 : decode cX9_goesOn 209 = .ok (.invokevirtual 280, 3) := by decide +kernel
theorem dX9_goesOn_212 : decode cX9_goesOn 212 = .ok (.ifCond .eq 60, 3) := by decide +kernel
theorem dX9_goesOn_215 : decode cX9_goesOn 215 = .ok (.aload_n 0, 1) := by decide +kernel
theorem dX9_goesOn_216 : decode cX9_goesOn 216 = .ok (.iconst 5, 1) := by decide +kernel
theorem dX9_goesOn_217 : decode cX9_goesOn 217 = .ok (.invokevirtual 366, 3) := by decide +kernel
theorem dX9_goesOn_220 : decode cX9_goesOn 220 = .ok (.aload_n 0, 1) := by decide +kernel
theorem dX9_goesOn_221 : decode cX9_goesOn 221 = .ok (.aload_n 0, 1) := by decide +kernel
theorem dX9_goesOn_222 : decode cX9_goesOn 222 = .ok (.bipush 60, 2) := by decide +kernel
theorem dX9_goesOn_224 : decode cX9_goesOn 224 = .ok (.invokevirtual 280, 3) := by decide +kernel
theorem dX9_goesOn_227 : decode cX9_goesOn 227 = .ok (.ifCond .eq 8, 3) := by decide +kernel
theorem dX9_goesOn_230 : decode cX9_goesOn 230 = .ok (.bipush 17, 2) := by decide +kernel
theorem dX9_goesOn_232 : decode cX9_goesOn 232 = .ok (.goto 19, 3) := by decide +kernel
theorem dX9_goesOn_235 : decode cX9_goesOn 235 = .ok (.aload_n 0, 1) := by decide +kernel
theorem dX9_goesOn_236 : decode cX9_goesOn 236 = .ok (.bipush 62, 2) := by decide +kernel
theorem dX9_goesOn_238 : decode cX9_goesOn 238 = .ok (.invokevirtual 280, 3) := by decide +kernel
theorem dX9_goesOn_241 : decode cX9_goesOn 241 = .ok (.ifCond .eq 8, 3) := by decide +kernel
theorem dX9_goesOn_244 : decode cX9_goesOn 244 = .ok (.bipush 18, 2) := by decide +kernel
theorem dX9_goesOn_246 : decode cX9_goesOn 246 = .ok (.goto 5, 3) := by decide +kernel
theorem dX9_goesOn_249 : decode cX9_goesOn 249 = .ok (.bipush 19, 2) := by decide +kernel
theorem dX9_goesOn_251 : decode cX9_goesOn 251 = .ok (.invokevirtual 360, 3) := by decide +kernel
theorem dX9_goesOn_254 : decode cX9_goesOn 254 = .ok (.aload_n 0, 1) := by decide +kernel
theorem dX9_goesOn_255 : decode cX9_goesOn 255 = .ok (.getfield 124, 3) := by decide +kernel
theorem dX9_goesOn_258 : decode cX9_goesOn 258 = .ok (.iload_n 1, 1) := by decide +kernel
theorem dX9_goesOn_259 : decode cX9_goesOn 259 = .ok (.iconst 1, 1) := by decide +kernel
theorem dX9_goesOn_260 : decode cX9_goesOn 260 = .ok (.iastore, 1) := by decide +kernel
theorem dX9_goesOn_261 : decode cX9_goesOn 261 = .ok (.aload_n 0, 1) := by decide +kernel
theorem dX9_goesOn_262 : decode cX9_goesOn 262 = .ok (.invokevirtual 283, 3) := by decide +kernel
theorem dX9_goesOn_265 : decode cX9_goesOn 265 = .ok (.aload_n 0, 1) := by decide +kernel
theorem dX9_goesOn_266 : decode cX9_goesOn 266 = .ok (.iconst 0, 1) := by decide +kernel
theorem dX9_goesOn_267 : decode cX9_goesOn 267 = .ok (.putfield 149, 3) := by decide +kernel
theorem dX9_goesOn_270 : decode cX9_goesOn 270 = .ok (.iconst 1, 1) := by decide +kernel
theorem dX9_goesOn_271 : decode cX9_goesOn 271 = .ok (.ireturn, 1) := by decide +kernel
theorem dX9_goesOn_272 : decode cX9_goesOn 272 = .ok (.iload_n 3, 1) := by decide +kernel
theorem dX9_goesOn_273 : decode cX9_goesOn 273 = .ok (.ifCond .eq 114, 3) := by decide +kernel
theorem dX9_goesOn_276 : decode cX9_goesOn 276 = .ok (.aload_n 0, 1) := by decide +kernel
theorem dX9_goesOn_277 : decode cX9_goesOn 277 = .ok (.ldc2_w 320, 3) := by decide +kernel
theorem dX9_goesOn_280 : decode cX9_goesOn 280 = .ok (.invokevirtual 356, 3) := by decide +kernel
theorem dX9_goesOn_283 : decode cX9_goesOn 283 = .ok (.ifCond .ne 13, 3) := by decide +kernel
theorem dX9_goesOn_286 : decode cX9_goesOn 286 = .ok (.aload_n 0, 1) := by decide +kernel
theorem dX9_goesOn_287 : decode cX9_goesOn 287 = .ok (.ldc2_w 318, 3) := by decide +kernel
theorem dX9_goesOn_290 : decode cX9_goesOn 290 = .ok (.invokevirtual 356, 3) := by decide +kernel
theorem dX9_goesOn_293 : decode cX9_goesOn 293 = .ok (.ifCond .eq 94, 3) := by decide +kernel
theorem dX9_goesOn_296 : decode cX9_goesOn 296 = .ok (.aload_n 0, 1) := by decide +kernel
theorem dX9_goesOn_297 : decode cX9_goesOn 297 = .ok (.getfield 124, 3) := by decide +kernel
theorem dX9_goesOn_300 : decode cX9_goesOn 300 = .ok (.iload_n 1, 1) := by decide +kernel
theorem dX9_goesOn_301 : decode cX9_goesOn 301 = .ok (.iaload, 1) := by decide +kernel
theorem dX9_goesOn_302 : decode cX9_goesOn 302 = .ok (.ifCond .ne 12, 3) := by decide +kernel
theorem dX9_goesOn_305 : decode cX9_goesOn 305 = .ok (.aload_n 0, 1) := by decide +kernel
theorem dX9_goesOn_306 : decode cX9_goesOn 306 = .ok (.iconst 1, 1) := by decide +kernel
theorem dX9_goesOn_307 : decode cX9_goesOn 307 = .ok (.aload_n 0, 1) := by decide +kernel
theorem dX9_goesOn_308 : decode cX9_goesOn 308 = .ok (.getfield 23, 3) := by decide +kernel
theorem dX9_goesOn_311 : decode cX9_goesOn 311 = .ok (.invokevirtual 276, 3) := by decide +kernel
theorem dX9_goesOn_314 : decode cX9_goesOn 314 = .ok (.aload_n 0, 1) := by decide +kernel
theorem dX9_goesOn_315 : decode cX9_goesOn 315 = .ok (.getfield 36, 3) := by decide +kernel
theorem dX9_goesOn_318 : decode cX9_goesOn 318 = .ok (.ifCond .le 5, 3) := by decide +kernel
theorem dX9_goesOn_321 : decode cX9_goesOn 321 = .ok (.iconst 0, 1) := by decide +kernel
theorem dX9_goesOn_322 : decode cX9_goesOn 322 = .ok (.ireturn, 1) := by decide +kernel
theorem dX9_goesOn_323 : decode cX9_goesOn 323 = .ok (.aload_n 0, 1) := by decide +kernel
theorem dX9_goesOn_324 : decode cX9_goesOn 324 = .ok (.ldc2_w 320, 3) := by decide +kernel
theorem dX9_goesOn_327 : decode cX9_goesOn 327 = .ok (.invokevirtual 356, 3) := by decide +kernel
theorem dX9_goesOn_330 : decode cX9_goesOn 330 = .ok (.istore 4, 2) := by decide +kernel
theorem dX9_goesOn_332 : decode cX9_goesOn 332 = .ok (.aload_n 0, 1) := by decide +kernel
theorem dX9_goesOn_333 : decode cX9_goesOn 333 = .ok (.iload 4, 2) := by decide +kernel
theorem dX9_goesOn_335 : decode cX9_goesOn 335 = .ok (.ifCond .eq 7, 3) := by decide +kernel
theorem dX9_goesOn_338 : decode cX9_goesOn 338 = .ok (.iconst 2, 1) := by decide +kernel
theorem dX9_goesOn_339 : decode cX9_goesOn 339 = .ok (.goto 4, 3) := by decide +kernel
theorem dX9_goesOn_342 : decode cX9_goesOn 342 = .ok (.iconst 1, 1) := by decide +kernel
theorem dX9_goesOn_343 : decode cX9_goesOn 343 = .ok (.invokevirtual 366, 3) := by decide +kernel
theorem dX9_goesOn_346 : decode cX9_goesOn 346 = .ok (.aload_n 0, 1) := by decide +kernel
theorem dX9_goesOn_347 : decode cX9_goesOn 347 = .ok (.iload 4, 2) := by decide +kernel
theorem dX9_goesOn_349 : decode cX9_goesOn 349 = .ok (.ifCond .eq 8, 3) := by decide +kernel
theorem dX9_goesOn_352 : decode cX9_goesOn 352 = .ok (.bipush 20, 2) := by decide +kernel
theorem dX9_goesOn_354 : decode cX9_goesOn 354 = .ok (.goto 5, 3) := by decide +kernel
theorem dX9_goesOn_357 : decode cX9_goesOn 357 = .ok (.bipush 21, 2) := by decide +kernel
theorem dX9_goesOn_359 : decode cX9_goesOn 359 = .ok (.invokevirtual 360, 3) := by decide +kernel
theorem dX9_goesOn_362 : decode cX9_goesOn 362 = .ok (.aload_n 0, 1) := by decide +kernel
theorem dX9_goesOn_363 : decode cX9_goesOn 363 = .ok (.getfield 124, 3) := by decide +kernel
theorem dX9_goesOn_366 : decode cX9_goesOn 366 = .ok (.iload_n 1, 1) := by decide +kernel
theorem dX9_goesOn_367 : decode cX9_goesOn 367 = .ok (.iconst 0, 1) := by decide +kernel
theorem dX9_goesOn_368 : decode cX9_goesOn 368 = .ok (.iastore, 1) := by decide +kernel
theorem dX9_goesOn_369 : decode cX9_goesOn 369 = .ok (.aload_n 0, 1) := by decide +kernel
theorem dX9_goesOn_370 : decode cX9_goesOn 370 = .ok (.getfield 127, 3) := by decide +kernel
theorem dX9_goesOn_373 : decode cX9_goesOn 373 = .ok (.iload_n 1, 1) := by decide +kernel
theorem dX9_goesOn_374 : decode cX9_goesOn 374 = .ok (.iconst 1, 1) := by decide +kernel
theorem dX9_goesOn_375 : decode cX9_goesOn 375 = .ok (.bastore, 1) := by decide +kernel
theorem dX9_goesOn_376 : decode cX9_goesOn 376 = .ok (.aload_n 0, 1) := by decide +kernel
theorem dX9_goesOn_377 : decode cX9_goesOn 377 = .ok (.invokevirtual 283, 3) := by decide +kernel
theorem dX9_goesOn_380 : decode cX9_goesOn 380 = .ok (.aload_n 0, 1) := by decide +kernel
theorem dX9_goesOn_381 : decode cX9_goesOn 381 = .ok (.iconst 0, 1) := by decide +kernel
theorem dX9_goesOn_382 : decode cX9_goesOn 382 = .ok (.putfield 149, 3) := by decide +kernel
theorem dX9_goesOn_385 : decode cX9_goesOn 385 = .ok (.iconst 1, 1) := by decide +kernel
theorem dX9_goesOn_386 : decode cX9_goesOn 386 = .ok (.ireturn, 1) := by decide +kernel
theorem dX9_goesOn_387 : decode cX9_goesOn 387 = .ok (.iload_n 3, 1) := by decide +kernel
theorem dX9_goesOn_388 : decode cX9_goesOn 388 = .ok (.ifCond .eq 21, 3) := by decide +kernel
theorem dX9_goesOn_391 : decode cX9_goesOn 391 = .ok (.aload_n 0, 1) := by decide +kernel
theorem dX9_goesOn_392 : decode cX9_goesOn 392 = .ok (.getfield 124, 3) := by decide +kernel
theorem dX9_goesOn_395 : decode cX9_goesOn 395 = .ok (.iload_n 1, 1) := by decide +kernel
theorem dX9_goesOn_396 : decode cX9_goesOn 396 = .ok (.iaload, 1) := by decide +kernel
theorem dX9_goesOn_397 : decode cX9_goesOn 397 = .ok (.ifCond .ne 12, 3) := by decide +kernel
theorem dX9_goesOn_400 : decode cX9_goesOn 400 = .ok (.aload_n 0, 1) := by decide +kernel
theorem dX9_goesOn_401 : decode cX9_goesOn 401 = .ok (.iconst 1, 1) := by decide +kernel
theorem dX9_goesOn_402 : decode cX9_goesOn 402 = .ok (.aload_n 0, 1) := by decide +kernel
theorem dX9_goesOn_403 : decode cX9_goesOn 403 = .ok (.getfield 23, 3) := by decide +kernel
theorem dX9_goesOn_406 : decode cX9_goesOn 406 = .ok (.invokevirtual 276, 3) := by decide +kernel
theorem dX9_goesOn_409 : decode cX9_goesOn 409 = .ok (.iload_n 2, 1) := by decide +kernel
theorem dX9_goesOn_410 : decode cX9_goesOn 410 = .ok (.iconst 2, 1) := by decide +kernel
theorem dX9_goesOn_411 : decode cX9_goesOn 411 = .ok (.if_icmp .ge 17, 3) := by decide +kernel
theorem dX9_goesOn_414 : decode cX9_goesOn 414 = .ok (.aload_n 0, 1) := by decide +kernel
theorem dX9_goesOn_415 : decode cX9_goesOn 415 = .ok (.getfield 36, 3) := by decide +kernel
theorem dX9_goesOn_418 : decode cX9_goesOn 418 = .ok (.ifCond .ne 8, 3) := by decide +kernel
theorem dX9_goesOn_421 : decode cX9_goesOn 421 = .ok (.aload_n 0, 1) := by decide +kernel
theorem dX9_goesOn_422 : decode cX9_goesOn 422 = .ok (.iconst 1, 1) := by decide +kernel
theorem dX9_goesOn_423 : decode cX9_goesOn 423 = .ok (.invokevirtual 366, 3) := by decide +kernel
theorem dX9_goesOn_426 : decode cX9_goesOn 426 = .ok (.iconst 0, 1) := by decide +kernel
theorem dX9_goesOn_427 : decode cX9_goesOn 427 = .ok (.ireturn, 1) := by decide +kernel
theorem dX9_goesOn_428 : decode cX9_goesOn 428 = .ok (.iload_n 2, 1) := by decide +kernel
theorem dX9_goesOn_429 : decode cX9_goesOn 429 = .ok (.iconst 3, 1) := by decide +kernel
theorem dX9_goesOn_430 : decode cX9_goesOn 430 = .ok (.if_icmp .ne 53, 3) := by decide +kernel
theorem dX9_goesOn_433 : decode cX9_goesOn 433 = .ok (.aload_n 0, 1) := by decide +kernel
theorem dX9_goesOn_434 : decode cX9_goesOn 434 = .ok (.bipush 44, 2) := by decide +kernel
theorem dX9_goesOn_436 : decode cX9_goesOn 436 = .ok (.invokevirtual 280, 3) := by decide +kernel
theorem dX9_goesOn_439 : decode cX9_goesOn 439 = .ok (.ifCond .ne 12, 3) := by decide +kernel
theorem dX9_goesOn_442 : decode cX9_goesOn 442 = .ok (.aload_n 0, 1) := by decide +kernel
theorem dX9_goesOn_443 : decode cX9_goesOn 443 = .ok (.iconst 1, 1) := by decide +kernel
theorem dX9_goesOn_444 : decode cX9_goesOn 444 = .ok (.aload_n 0, 1) := by decide +kernel
theorem dX9_goesOn_445 : decode cX9_goesOn 445 = .ok (.getfield 23, 3) := by decide +kernel
theorem dX9_goesOn_448 : decode cX9_goesOn 448 = .ok (.invokevirtual 276, 3) := by decide +kernel
theorem dX9_goesOn_451 : decode cX9_goesOn 451 = .ok (.aload_n 0, 1) := by decide +kernel
theorem dX9_goesOn_452 : decode cX9_goesOn 452 = .ok (.getfield 36, 3) := by decide +kernel
theorem dX9_goesOn_455 : decode cX9_goesOn 455 = .ok (.ifCond .le 5, 3) := by decide +kernel
theorem dX9_goesOn_458 : decode cX9_goesOn 458 = .ok (.iconst 0, 1) := by decide +kernel
theorem dX9_goesOn_459 : decode cX9_goesOn 459 = .ok (.ireturn, 1) := by decide +kernel
theorem dX9_goesOn_460 : decode cX9_goesOn 460 = .ok (.aload_n 0, 1) := by decide +kernel
theorem dX9_goesOn_461 : decode cX9_goesOn 461 = .ok (.iconst 1, 1) := by decide +kernel
theorem dX9_goesOn_462 : decode cX9_goesOn 462 = .ok (.invokevirtual 366, 3) := by decide +kernel
theorem dX9_goesOn_465 : decode cX9_goesOn 465 = .ok (.aload_n 0, 1) := by decide +kernel
theorem dX9_goesOn_466 : decode cX9_goesOn 466 = .ok (.getfield 121, 3) := by decide +kernel
theorem dX9_goesOn_469 : decode cX9_goesOn 469 = .ok (.iload_n 1, 1) := by decide +kernel
theorem dX9_goesOn_470 : decode cX9_goesOn 470 = .ok (.iconst 4, 1) := by decide +kernel
theorem dX9_goesOn_471 : decode cX9_goesOn 471 = .ok (.iastore, 1) := by decide +kernel
theorem dX9_goesOn_472 : decode cX9_goesOn 472 = .ok (.aload_n 0, 1) := by decide +kernel
theorem dX9_goesOn_473 : decode cX9_goesOn 473 = .ok (.invokevirtual 283, 3) := by decide +kernel
theorem dX9_goesOn_476 : decode cX9_goesOn 476 = .ok (.aload_n 0, 1) := by decide +kernel
theorem dX9_goesOn_477 : decode cX9_goesOn 477 = .ok (.iconst 0, 1) := by decide +kernel
theorem dX9_goesOn_478 : decode cX9_goesOn 478 = .ok (.putfield 149, 3) := by decide +kernel
theorem dX9_goesOn_481 : decode cX9_goesOn 481 = .ok (.iconst 1, 1) := by decide +kernel
theorem dX9_goesOn_482 : decode cX9_goesOn 482 = .ok (.ireturn, 1) := by decide +kernel
theorem dX9_goesOn_483 : decode cX9_goesOn 483 = .ok (.aload_n 0, 1) := by decide +kernel
theorem dX9_goesOn_484 : decode cX9_goesOn 484 = .ok (.iload_n 2, 1) := by decide +kernel
theorem dX9_goesOn_485 : decode cX9_goesOn 485 = .ok (.iconst 5, 1) := by decide +kernel
theorem dX9_goesOn_486 : decode cX9_goesOn 486 = .ok (.if_icmp .ne 8, 3) := by decide +kernel
theorem dX9_goesOn_489 : decode cX9_goesOn 489 = .ok (.bipush 93, 2) := by decide +kernel
theorem dX9_goesOn_491 : decode cX9_goesOn 491 = .ok (.goto 5, 3) := by decide +kernel
theorem dX9_goesOn_494 : decode cX9_goesOn 494 = .ok (.bipush 41, 2) := by decide +kernel
theorem dX9_goesOn_496 : decode cX9_goesOn 496 = .ok (.invokevirtual 280, 3) := by decide +kernel
theorem dX9_goesOn_499 : decode cX9_goesOn 499 = .ok (.ifCond .ne 12, 3) := by decide +kernel
theorem dX9_goesOn_502 : decode cX9_goesOn 502 = .ok (.aload_n 0, 1) := by decide +kernel
theorem dX9_goesOn_503 : decode cX9_goesOn 503 = .ok (.iconst 1, 1) := by decide +kernel
theorem dX9_goesOn_504 : decode cX9_goesOn 504 = .ok (.aload_n 0, 1) := by decide +kernel
theorem dX9_goesOn_505 : decode cX9_goesOn 505 = .ok (.getfield 23, 3) := by decide +kernel
theorem dX9_goesOn_508 : decode cX9_goesOn 508 = .ok (.invokevirtual 276, 3) := by decide +kernel
theorem dX9_goesOn_511 : decode cX9_goesOn 511 = .ok (.aload_n 0, 1) := by decide +kernel
theorem dX9_goesOn_512 : decode cX9_goesOn 512 = .ok (.getfield 36, 3) := by decide +kernel
theorem dX9_goesOn_515 : decode cX9_goesOn 515 = .ok (.ifCond .le 5, 3) := by decide +kernel
theorem dX9_goesOn_518 : decode cX9_goesOn 518 = .ok (.iconst 0, 1) := by decide +kernel
theorem dX9_goesOn_519 : decode cX9_goesOn 519 = .ok (.ireturn, 1) := by decide +kernel
theorem dX9_goesOn_520 : decode cX9_goesOn 520 = .ok (.aload_n 0, 1) := by decide +kernel
theorem dX9_goesOn_521 : decode cX9_goesOn 521 = .ok (.iconst 1, 1) := by decide +kernel
theorem dX9_goesOn_522 : decode cX9_goesOn 522 = .ok (.invokevirtual 366, 3) := by decide +kernel
theorem dX9_goesOn_525 : decode cX9_goesOn 525 = .ok (.aload_n 0, 1) := by decide +kernel
theorem dX9_goesOn_526 : decode cX9_goesOn 526 = .ok (.dup, 1) := by decide +kernel
theorem dX9_goesOn_527 : decode cX9_goesOn 527 = .ok (.getfield 137, 3) := by decide +kernel
theorem dX9_goesOn_530 : decode cX9_goesOn 530 = .ok (.iconst 1, 1) := by decide +kernel
theorem dX9_goesOn_531 : decode cX9_goesOn 531 = .ok (.isub, 1) := by decide +kernel
theorem dX9_goesOn_532 : decode cX9_goesOn 532 = .ok (.putfield 137, 3) := by decide +kernel
theorem dX9_goesOn_535 : decode cX9_goesOn 535 = .ok (.aload_n 0, 1) := by decide +kernel
theorem dX9_goesOn_536 : decode cX9_goesOn 536 = .ok (.dup, 1) := by decide +kernel
theorem dX9_goesOn_537 : decode cX9_goesOn 537 = .ok (.getfield 140, 3) := by decide +kernel
theorem dX9_goesOn_540 : decode cX9_goesOn 540 = .ok (.iconst 1, 1) := by decide +kernel
theorem dX9_goesOn_541 : decode cX9_goesOn 541 = .ok (.isub, 1) := by decide +kernel
theorem dX9_goesOn_542 : decode cX9_goesOn 542 = .ok (.putfield 140, 3) := by decide +kernel
theorem dX9_goesOn_545 : decode cX9_goesOn 545 = .ok (.iload_n 2, 1) := by decide +kernel
theorem dX9_goesOn_546 : decode cX9_goesOn 546 = .ok (.iconst 4, 1) := by decide +kernel
theorem dX9_goesOn_547 : decode cX9_goesOn 547 = .ok (.if_icmp .ne 14, 3) := by decide +kernel
theorem dX9_goesOn_550 : decode cX9_goesOn 550 = .ok (.aload_n 0, 1) := by decide +kernel
theorem dX9_goesOn_551 : decode cX9_goesOn 551 = .ok (.aload_n 0, 1) := by decide +kernel
theorem dX9_goesOn_552 : decode cX9_goesOn 552 = .ok (.getfield 131, 3) := by decide +kernel
theorem dX9_goesOn_555 : decode cX9_goesOn 555 = .ok (.iload_n 1, 1) := by decide +kernel
theorem dX9_goesOn_556 : decode cX9_goesOn 556 = .ok (.iaload, 1) := by decide +kernel
theorem dX9_goesOn_557 : decode cX9_goesOn 557 = .ok (.iconst 0, 1) := by decide +kernel
theorem dX9_goesOn_558 : decode cX9_goesOn 558 = .ok (.invokevirtual 347, 3) := by decide +kernel
theorem dX9_goesOn_561 : decode cX9_goesOn 561 = .ok (.iload_n 2, 1) := by decide +kernel
theorem dX9_goesOn_562 : decode cX9_goesOn 562 = .ok (.iconst 5, 1) := by decide +kernel
theorem dX9_goesOn_563 : decode cX9_goesOn 563 = .ok (.if_icmp .ne 15, 3) := by decide +kernel
theorem dX9_goesOn_566 : decode cX9_goesOn 566 = .ok (.aload_n 0, 1) := by decide +kernel
theorem dX9_goesOn_567 : decode cX9_goesOn 567 = .ok (.getfield 124, 3) := by decide +kernel
theorem dX9_goesOn_570 : decode cX9_goesOn 570 = .ok (.aload_n 0, 1) := by decide +kernel
theorem dX9_goesOn_571 : decode cX9_goesOn 571 = .ok (.getfield 137, 3) := by decide +kernel
theorem dX9_goesOn_574 : decode cX9_goesOn 574 = .ok (.iconst 1, 1) := by decide +kernel
theorem dX9_goesOn_575 : decode cX9_goesOn 575 = .ok (.isub, 1) := by decide +kernel
theorem dX9_goesOn_576 : decode cX9_goesOn 576 = .ok (.iconst 2, 1) := by decide +kernel
theorem dX9_goesOn_577 : decode cX9_goesOn 577 = .ok (.iastore, 1) := by decide +kernel
theorem dX9_goesOn_578 : decode cX9_goesOn 578 = .ok (.aload_n 0, 1) := by decide +kernel
theorem dX9_goesOn_579 : decode cX9_goesOn 579 = .ok (.invokevirtual 283, 3) := by decide +kernel
theorem dX9_goesOn_582 : decode cX9_goesOn 582 = .ok (.iconst 1, 1) := by decide +kernel
theorem dX9_goesOn_583 : decode cX9_goesOn 583 = .ok (.ireturn, 1) := by decide +kernel
theorem dX9_has_0 : decode cX9_has 0 = .ok (.iconst 0, 1) := by decide +kernel
theorem dX9_has_1 : decode cX9_has 1 = .ok (.istore_n 2, 1) := by decide +kernel
theorem dX9_has_2 : decode cX9_has 2 = .ok (.iload_n 1, 1) := by decide +kernel
theorem dX9_has_3 : decode cX9_has 3 = .ok (.tableswitch 244 0 11 #[61, 66, 76, 86, 115, 122, 149, 185, 221, 228, 233, 238], 61) := by decide +kernel
theorem dX9_has_64 : decode cX9_has 64 = .ok (.aload_n 0, 1) := by decide +kernel
theorem dX9_has_65 : decode cX9_has 65 = .ok (.invokevirtual 445, 3) := by decide +kernel
theorem dX9_has_68 : decode cX9_has 68 = .ok (.ireturn, 1) := by decide +kernel
theorem dX9_has_69 : decode cX9_has 69 = .ok (.aload_n 0, 1) := by decide +kernel
theorem dX9_has_70 : decode cX9_has 70 = .ok (.getfield 76, 3) := by decide +kernel
theorem dX9_has_73 : decode cX9_has 73 = .ok (.aload_n 0, 1) := by decide +kernel
theorem dX9_has_74 : decode cX9_has 74 = .ok (.getfield 48, 3) := by decide +kernel
theorem dX9_has_77 : decode cX9_has 77 = .ok (.iaload, 1) := by decide +kernel
theorem dX9_has_78 : decode cX9_has 78 = .ok (.ireturn, 1) := by decide +kernel
theorem dX9_has_79 : decode cX9_has 79 = .ok (.aload_n 0, 1) := by decide +kernel
theorem dX9_has_80 : decode cX9_has 80 = .ok (.getfield 94, 3) := by decide +kernel
theorem dX9_has_83 : decode cX9_has 83 = .ok (.aload_n 0, 1) := by decide +kernel
theorem dX9_has_84 : decode cX9_has 84 = .ok (.getfield 48, 3) := by decide +kernel
theorem dX9_has_87 : decode cX9_has 87 = .ok (.iaload, 1) := by decide +kernel
theorem dX9_has_88 : decode cX9_has 88 = .ok (.ireturn, 1) := by decide +kernel
theorem dX9_has_89 : decode cX9_has 89 = .ok (.iconst 0, 1) := by decide +kernel
theorem dX9_has_90 : decode cX9_has 90 = .ok (.istore_n 3, 1) := by decide +kernel
theorem dX9_has_91 : decode cX9_has 91 = .ok (.iload_n 3, 1) := by decide +kernel
theorem dX9_has_92 : decode cX9_has 92 = .ok (.aload_n 0, 1) := by decide +kernel
theorem dX9_has_93 : decode cX9_has 93 = .ok (.invokevirtual 445, 3) := by decide +kernel
theorem dX9_has_96 : decode cX9_has 96 = .ok (.iconst 1, 1) := by decide +kernel
theorem dX9_has_97 : decode cX9_has 97 = .ok (.isub, 1) := by decide +kernel
theorem dX9_has_98 : decode cX9_has 98 = .ok (.if_icmp .ge 18, 3) := by decide +kernel
theorem dX9_has_101 : decode cX9_has 101 = .ok (.iload_n 2, 1) := by decide +kernel
theorem dX9_has_102 : decode cX9_has 102 = .ok (.aload_n 0, 1) := by decide +kernel
theorem dX9_has_103 : decode cX9_has 103 = .ok (.getfield 195, 3) := by decide +kernel
theorem dX9_has_106 : decode cX9_has 106 = .ok (.iload_n 3, 1) := by decide +kernel
theorem dX9_has_107 : decode cX9_has 107 = .ok (.iaload, 1) := by decide +kernel
theorem dX9_has_108 : decode cX9_has 108 = .ok (.iadd, 1) := by decide +kernel
theorem dX9_has_109 : decode cX9_has 109 = .ok (.istore_n 2, 1) := by decide +kernel
theorem dX9_has_110 : decode cX9_has 110 = .ok (.iinc 3 1, 3) := by decide +kernel
theorem dX9_has_113 : decode cX9_has 113 = .ok (.goto (-22), 3) := by decide +kernel
theorem dX9_has_116 : decode cX9_has 116 = .ok (.iload_n 2, 1) := by decide +kernel
theorem dX9_has_117 : decode cX9_has 117 = .ok (.ireturn, 1) := by decide +kernel
theorem dX9_has_118 : decode cX9_has 118 = .ok (.aload_n 0, 1) := by decide +kernel
theorem dX9_has_119 : decode cX9_has 119 = .ok (.getfield 162, 3) := by decide +kernel
theorem dX9_has_122 : decode cX9_has 122 = .ok (.iconst 0, 1) := by decide +kernel
theorem dX9_has_123 : decode cX9_has 123 = .ok (.iaload, 1) := by decide +kernel
theorem dX9_has_124 : decode cX9_has 124 = .ok (.ireturn, 1) := by decide +kernel
theorem dX9_has_125 : decode cX9_has 125 = .ok (.iconst 0, 1) := by decide +kernel
theorem dX9_has_126 : decode cX9_has 126 = .ok (.istore_n 3, 1) := by decide +kernel
theorem dX9_has_127 : decode cX9_has 127 = .ok (.iload_n 3, 1) := by decide +kernel
theorem dX9_has_128 : decode cX9_has 128 = .ok (.aload_n 0, 1) := by decide +kernel
theorem dX9_has_129 : decode cX9_has 129 = .ok (.invokevirtual 445, 3) := by decide +kernel
theorem dX9_has_132 : decode cX9_has 132 = .ok (.if_icmp .ge 18, 3) := by decide +kernel
theorem dX9_has_135 : decode cX9_has 135 = .ok (.iload_n 2, 1) := by decide +kernel
theorem dX9_has_136 : decode cX9_has 136 = .ok (.aload_n 0, 1) := by decide +kernel
theorem dX9_has_137 : decode cX9_has 137 = .ok (.getfield 168, 3) := by decide +kernel
theorem dX9_has_140 : decode cX9_has 140 = .ok (.iload_n 3, 1) := by decide +kernel
theorem dX9_has_141 : decode cX9_has 141 = .ok (.iaload, 1) := by decide +kernel
theorem dX9_has_142 : decode cX9_has 142 = .ok (.iadd, 1) := by decide +kernel
theorem dX9_has_143 : decode cX9_has 143 = .ok (.istore_n 2, 1) := by decide +kernel
theorem dX9_has_144 : decode cX9_has 144 = .ok (.iinc 3 1, 3) := by decide +kernel
theorem dX9_has_147 : decode cX9_has 147 = .ok (.goto (-20), 3) := by decide +kernel
theorem dX9_has_150 : decode cX9_has 150 = .ok (.iload_n 2, 1) := by decide +kernel
theorem dX9_has_151 : decode cX9_has 151 = .ok (.ireturn, 1) := by decide +kernel
theorem dX9_has_152 : decode cX9_has 152 = .ok (.iconst 0, 1) := by decide +kernel
theorem dX9_has_153 : decode cX9_has 153 = .ok (.istore_n 3, 1) := by decide +kernel
theorem dX9_has_154 : decode cX9_has 154 = .ok (.iload_n 3, 1) := by decide +kernel
theorem dX9_has_155 : decode cX9_has 155 = .ok (.aload_n 0, 1) := by decide +kernel
theorem dX9_has_156 : decode cX9_has 156 = .ok (.invokevirtual 445, 3) := by decide +kernel
theorem dX9_has_159 : decode cX9_has 159 = .ok (.if_icmp .ge 27, 3) := by decide +kernel
theorem dX9_has_162 : decode cX9_has 162 = .ok (.iload_n 2, 1) := by decide +kernel
theorem dX9_has_163 : decode cX9_has 163 = .ok (.aload_n 0, 1) := by decide +kernel
theorem dX9_has_164 : decode cX9_has 164 = .ok (.getfield 171, 3) := by decide +kernel
theorem dX9_has_167 : decode cX9_has 167 = .ok (.iload_n 3, 1) := by decide +kernel
theorem dX9_has_168 : decode cX9_has 168 = .ok (.iaload, 1) := by decide +kernel
theorem dX9_has_169 : decode cX9_has 169 = .ok (.iconst (-1), 1) := by decide +kernel
theorem dX9_has_170 : decode cX9_has 170 = .ok (.if_icmp .eq 7, 3) := by decide +kernel
theorem dX9_has_173 : decode cX9_has 173 = .ok (.iconst 1, 1) := by decide +kernel
theorem dX9_has_174 : decode cX9_has 174 = .ok (.goto 4, 3) := by decide +kernel
theorem dX9_has_177 : decode cX9_has 177 = .ok (.iconst 0, 1) := by decide +kernel
theorem dX9_has_178 : decode cX9_has 178 = .ok (.iadd, 1) := by decide +kernel
theorem dX9_has_179 : decode cX9_has 179 = .ok (.istore_n 2, 1) := by decide +kernel
theorem dX9_has_180 : decode cX9_has 180 = .ok (.iinc 3 1, 3) := by decide +kernel
theorem dX9_has_183 : decode cX9_has 183 = .ok (.goto (-29), 3) := by decide +kernel
theorem dX9_has_186 : decode cX9_has 186 = .ok (.iload_n 2, 1) := by decide +kernel
theorem dX9_has_187 : decode cX9_has 187 = .ok (.ireturn, 1) := by decide +kernel
theorem dX9_has_188 : decode cX9_has 188 = .ok (.iconst 0, 1) := by decide +kernel
theorem dX9_has_189 : decode cX9_has 189 = .ok (.istore_n 3, 1) := by decide +kernel
theorem dX9_has_190 : decode cX9_has 190 = .ok (.iload_n 3, 1) := by decide +kernel
theorem dX9_has_191 : decode cX9_has 191 = .ok (.aload_n 0, 1) := by decide +kernel
theorem dX9_has_192 : decode cX9_has 192 = .ok (.invokevirtual 445, 3) := by decide +kernel
theorem dX9_has_195 : decode cX9_has 195 = .ok (.if_icmp .ge 27, 3) := by decide +kernel
theorem dX9_has_198 : decode cX9_has 198 = .ok (.iload_n 2, 1) := by decide +kernel
theorem dX9_has_199 : decode cX9_has 199 = .ok (.aload_n 0, 1) := by decide +kernel
theorem dX9_has_200 : decode cX9_has 200 = .ok (.getfield 177, 3) := by decide +kernel
theorem dX9_has_203 : decode cX9_has 203 = .ok (.iload_n 3, 1) := by decide +kernel
theorem dX9_has_204 : decode cX9_has 204 = .ok (.iaload, 1) := by decide +kernel
theorem dX9_has_205 : decode cX9_has 205 = .ok (.iconst (-1), 1) := by decide +kernel
theorem dX9_has_206 : decode cX9_has 206 = .ok (.if_icmp .eq 7, 3) := by decide +kernel
theorem dX9_has_209 : decode cX9_has 209 = .ok (.iconst 1, 1) := by decide +kernel
theorem dX9_has_210 : decode cX9_has 210 = .ok (.goto 4, 3) := by decide +kernel
theorem dX9_has_213 : decode cX9_has 213 = .ok (.iconst 0, 1) := by decide +kernel
theorem dX9_has_214 : decode cX9_has 214 = .ok (.iadd, 1) := by decide +kernel
theorem dX9_has_215 : decode cX9_has 215 = .ok (.istore_n 2, 1) := by decide +kernel
theorem dX9_has_216 : decode cX9_has 216 = .ok (.iinc 3 1, 3) := by decide +kernel
theorem dX9_has_219 : decode cX9_has 219 = .ok (.goto (-29), 3) := by decide +kernel
theorem dX9_has_222 : decode cX9_has 222 = .ok (.iload_n 2, 1) := by decide +kernel
theorem dX9_has_223 : decode cX9_has 223 = .ok (.ireturn, 1) := by decide +kernel
theorem dX9_has_224 : decode cX9_has 224 = .ok (.aload_n 0, 1) := by decide +kernel
theorem dX9_has_225 : decode cX9_has 225 = .ok (.getfield 201, 3) := by decide +kernel
theorem dX9_has_228 : decode cX9_has 228 = .ok (.iconst 0, 1) := by decide +kernel
theorem dX9_has_229 : decode cX9_has 229 = .ok (.iaload, 1) := by decide +kernel
theorem dX9_has_230 : decode cX9_has 230 = .ok (.ireturn, 1) := by decide +kernel
theorem dX9_has_231 : decode cX9_has 231 = .ok (.aload_n 0, 1) := by decide +kernel
theorem dX9_has_232 : decode cX9_has 232 = .ok (.getfield 210, 3) := by decide +kernel
theorem dX9_has_235 : decode cX9_has 235 = .ok (.ireturn, 1) := by decide +kernel
theorem dX9_has_236 : decode cX9_has 236 = .ok (.aload_n 0, 1) := by decide +kernel
theorem dX9_has_237 : decode cX9_has 237 = .ok (.invokevirtual 538, 3) := by decide +kernel
theorem dX9_has_240 : decode cX9_has 240 = .ok (.ireturn, 1) := by decide +kernel
theorem dX9_has_241 : decode cX9_has 241 = .ok (.aload_n 0, 1) := by decide +kernel
theorem dX9_has_242 : decode cX9_has 242 = .ok (.getfield 213, 3) := by decide +kernel
theorem dX9_has_245 : decode cX9_has 245 = .ok (.l2i, 1) := by decide +kernel
theorem dX9_has_246 : decode cX9_has 246 = .ok (.ireturn, 1) := by decide +kernel
theorem dX9_has_247 : decode cX9_has 247 = .ok (.iconst (-1), 1) := by decide +kernel
theorem dX9_has_248 : decode cX9_has 248 = .ok (.ireturn, 1) := by decide +kernel
theorem dX9_hear_0 : decode cX9_hear 0 = .ok (.aload_n 0, 1) := by decide +kernel
theorem dX9_hear_1 : decode cX9_hear 1 = .ok (.getfield 13, 3) := by decide +kernel
theorem dX9_hear_4 : decode cX9_hear 4 = .ok (.istore_n 1, 1) := by decide +kernel
theorem dX9_hear_5 : decode cX9_hear 5 = .ok (.aload_n 0, 1) := by decide +kernel
theorem dX9_hear_6 : decode cX9_hear 6 = .ok (.iconst 0, 1) := by decide +kernel
theorem dX9_hear_7 : decode cX9_hear 7 = .ok (.putfield 13, 3) := by decide +kernel
theorem dX9_hear_10 : decode cX9_hear 10 = .ok (.aload_n 0, 1) := by decide +kernel
theorem dX9_hear_11 : decode cX9_hear 11 = .ok (.invokevirtual 445, 3) := by decide +kernel
theorem dX9_hear_14 : decode cX9_hear 14 = .ok (.ifCond .eq 13, 3) := by decide +kernel
theorem dX9_hear_17 : decode cX9_hear 17 = .ok (.iload_n 1, 1) := by decide +kernel
theorem dX9_hear_18 : decode cX9_hear 18 = .ok (.iconst 2, 1) := by decide +kernel
theorem dX9_hear_19 : decode cX9_hear 19 = .ok (.aload_n 0, 1) := by decide +kernel
theorem dX9_hear_20 : decode cX9_hear 20 = .ok (.invokevirtual 445, 3) := by decide +kernel
theorem dX9_hear_23 : decode cX9_hear 23 = .ok (.imul, 1) := by decide +kernel
theorem dX9_hear_24 : decode cX9_hear 24 = .ok (.if_icmp .eq 17, 3) := by decide +kernel
theorem dX9_hear_27 : decode cX9_hear 27 = .ok (.aload_n 0, 1) := by decide +kernel
theorem dX9_hear_28 : decode cX9_hear 28 = .ok (.iconst 1, 1) := by decide +kernel
theorem dX9_hear_29 : decode cX9_hear 29 = .ok (.invokevirtual 261, 3) := by decide +kernel
theorem dX9_hear_32 : decode cX9_hear 32 = .ok (.ifCond .lt 7, 3) := by decide +kernel
theorem dX9_hear_35 : decode cX9_hear 35 = .ok (.iconst 1, 1) := by decide +kernel
theorem dX9_hear_36 : decode cX9_hear 36 = .ok (.goto 4, 3) := by decide +kernel
theorem dX9_hear_39 : decode cX9_hear 39 = .ok (.iconst 0, 1) := by decide +kernel
theorem dX9_hear_40 : decode cX9_hear 40 = .ok (.ireturn, 1) := by decide +kernel
theorem dX9_hear_41 : decode cX9_hear 41 = .ok (.iconst 0, 1) := by decide +kernel
theorem dX9_hear_42 : decode cX9_hear 42 = .ok (.istore_n 2, 1) := by decide +kernel
theorem dX9_hear_43 : decode cX9_hear 43 = .ok (.iload_n 2, 1) := by decide +kernel
theorem dX9_hear_44 : decode cX9_hear 44 = .ok (.aload_n 0, 1) := by decide +kernel
theorem dX9_hear_45 : decode cX9_hear 45 = .ok (.invokevirtual 445, 3) := by decide +kernel
theorem dX9_hear_48 : decode cX9_hear 48 = .ok (.if_icmp .ge 37, 3) := by decide +kernel
theorem dX9_hear_51 : decode cX9_hear 51 = .ok (.aload_n 0, 1) := by decide +kernel
theorem dX9_hear_52 : decode cX9_hear 52 = .ok (.getfield 216, 3) := by decide +kernel
theorem dX9_hear_55 : decode cX9_hear 55 = .ok (.iload_n 2, 1) := by decide +kernel
theorem dX9_hear_56 : decode cX9_hear 56 = .ok (.aload_n 0, 1) := by decide +kernel
theorem dX9_hear_57 : decode cX9_hear 57 = .ok (.getfield 7, 3) := by decide +kernel
theorem dX9_hear_60 : decode cX9_hear 60 = .ok (.iconst 2, 1) := by decide +kernel
theorem dX9_hear_61 : decode cX9_hear 61 = .ok (.iload_n 2, 1) := by decide +kernel
theorem dX9_hear_62 : decode cX9_hear 62 = .ok (.imul, 1) := by decide +kernel
theorem dX9_hear_63 : decode cX9_hear 63 = .ok (.iaload, 1) := by decide +kernel
theorem dX9_hear_64 : decode cX9_hear 64 = .ok (.bipush 8, 2) := by decide +kernel
theorem dX9_hear_66 : decode cX9_hear 66 = .ok (.ishl, 1) := by decide +kernel
theorem dX9_hear_67 : decode cX9_hear 67 = .ok (.aload_n 0, 1) := by decide +kernel
theorem dX9_hear_68 : decode cX9_hear 68 = .ok (.getfield 7, 3) := by decide +kernel
theorem dX9_hear_71 : decode cX9_hear 71 = .ok (.iconst 2, 1) := by decide +kernel
theorem dX9_hear_72 : decode cX9_hear 72 = .ok (.iload_n 2, 1) := by decide +kernel
theorem dX9_hear_73 : decode cX9_hear 73 = .ok (.imul, 1) := by decide +kernel
theorem dX9_hear_74 : decode cX9_hear 74 = .ok (.iconst 1, 1) := by decide +kernel
theorem dX9_hear_75 : decode cX9_hear 75 = .ok (.iadd, 1) := by decide +kernel
theorem dX9_hear_76 : decode cX9_hear 76 = .ok (.iaload, 1) := by decide +kernel
theorem dX9_hear_77 : decode cX9_hear 77 = .ok (.ior, 1) := by decide +kernel
theorem dX9_hear_78 : decode cX9_hear 78 = .ok (.iastore, 1) := by decide +kernel
theorem dX9_hear_79 : decode cX9_hear 79 = .ok (.iinc 2 1, 3) := by decide +kernel
theorem dX9_hear_82 : decode cX9_hear 82 = .ok (.goto (-39), 3) := by decide +kernel
theorem dX9_hear_85 : decode cX9_hear 85 = .ok (.aload_n 0, 1) := by decide +kernel
theorem dX9_hear_86 : decode cX9_hear 86 = .ok (.iconst 1, 1) := by decide +kernel
theorem dX9_hear_87 : decode cX9_hear 87 = .ok (.putfield 219, 3) := by decide +kernel
theorem dX9_hear_90 : decode cX9_hear 90 = .ok (.iconst 1, 1) := by decide +kernel
theorem dX9_hear_91 : decode cX9_hear 91 = .ok (.ireturn, 1) := by decide +kernel
theorem dX9_heaviest_0 : decode cX9_heaviest 0 = .ok (.iconst 0, 1) := by decide +kernel
theorem dX9_heaviest_1 : decode cX9_heaviest 1 = .ok (.istore_n 2, 1) := by decide +kernel
theorem dX9_heaviest_2 : decode cX9_heaviest 2 = .ok (.iconst 0, 1) := by decide +kernel
theorem dX9_heaviest_3 : decode cX9_heaviest 3 = .ok (.istore_n 3, 1) := by decide +kernel
theorem dX9_heaviest_4 : decode cX9_heaviest 4 = .ok (.iconst 0, 1) := by decide +kernel
theorem dX9_heaviest_5 : decode cX9_heaviest 5 = .ok (.istore 4, 2) := by decide +kernel
theorem dX9_heaviest_7 : decode cX9_heaviest 7 = .ok (.iload 4, 2) := by decide +kernel
theorem dX9_heaviest_9 : decode cX9_heaviest 9 = .ok (.aload_n 0, 1) := by decide +kernel
theorem dX9_heaviest_10 : decode cX9_heaviest 10 = .ok (.invokevirtual 445, 3) := by decide +kernel
theorem dX9_heaviest_13 : decode cX9_heaviest 13 = .ok (.if_icmp .ge 66, 3) := by decide +kernel
theorem dX9_heaviest_16 : decode cX9_heaviest 16 = .ok (.iload 4, 2) := by decide +kernel
theorem dX9_heaviest_18 : decode cX9_heaviest 18 = .ok (.ifCond .le 19, 3) := by decide +kernel
theorem dX9_heaviest_21 : decode cX9_heaviest 21 = .ok (.aload_n 0, 1) := by decide +kernel
theorem dX9_heaviest_22 : decode cX9_heaviest 22 = .ok (.iload 4, 2) := by decide +kernel
theorem dX9_heaviest_24 : decode cX9_heaviest 24 = .ok (.iconst 1, 1) := by decide +kernel
theorem dX9_heaviest_25 : decode cX9_heaviest 25 = .ok (.isub, 1) := by decide +kernel
theorem dX9_heaviest_26 : decode cX9_heaviest 26 = .ok (.iload_n 1, 1) := by decide +kernel
theorem dX9_heaviest_27 : decode cX9_heaviest 27 = .ok (.invokevirtual 582, 3) := by decide +kernel
theorem dX9_heaviest_30 : decode cX9_heaviest 30 = .ok (.ifCond .eq 7, 3) := by decide +kernel
theorem dX9_heaviest_33 : decode cX9_heaviest 33 = .ok (.iconst 0, 1) := by decide +kernel
theorem dX9_heaviest_34 : decode cX9_heaviest 34 = .ok (.goto 4, 3) := by decide +kernel
theorem dX9_heaviest_37 : decode cX9_heaviest 37 = .ok (.iload_n 3, 1) := by decide +kernel
theorem dX9_heaviest_38 : decode cX9_heaviest 38 = .ok (.istore_n 3, 1) := by decide +kernel
theorem dX9_heaviest_39 : decode cX9_heaviest 39 = .ok (.iload_n 3, 1) := by decide +kernel
theorem dX9_heaviest_40 : decode cX9_heaviest 40 = .ok (.aload_n 0, 1) := by decide +kernel
theorem dX9_heaviest_41 : decode cX9_heaviest 41 = .ok (.getfield 58, 3) := by decide +kernel
theorem dX9_heaviest_44 : decode cX9_heaviest 44 = .ok (.bipush 12, 2) := by decide +kernel
theorem dX9_heaviest_46 : decode cX9_heaviest 46 = .ok (.aload_n 0, 1) := by decide +kernel
theorem dX9_heaviest_47 : decode cX9_heaviest 47 = .ok (.getfield 48, 3) := by decide +kernel
theorem dX9_heaviest_50 : decode cX9_heaviest 50 = .ok (.imul, 1) := by decide +kernel
theorem dX9_heaviest_51 : decode cX9_heaviest 51 = .ok (.aload_n 0, 1) := by decide +kernel
theorem dX9_heaviest_52 : decode cX9_heaviest 52 = .ok (.getfield 165, 3) := by decide +kernel
theorem dX9_heaviest_55 : decode cX9_heaviest 55 = .ok (.iload 4, 2) := by decide +kernel
theorem dX9_heaviest_57 : decode cX9_heaviest 57 = .ok (.iaload, 1) := by decide +kernel
theorem dX9_heaviest_58 : decode cX9_heaviest 58 = .ok (.iadd, 1) := by decide +kernel
theorem dX9_heaviest_59 : decode cX9_heaviest 59 = .ok (.iaload, 1) := by decide +kernel
theorem dX9_heaviest_60 : decode cX9_heaviest 60 = .ok (.iadd, 1) := by decide +kernel
theorem dX9_heaviest_61 : decode cX9_heaviest 61 = .ok (.istore_n 3, 1) := by decide +kernel
theorem dX9_heaviest_62 : decode cX9_heaviest 62 = .ok (.iload_n 3, 1) := by decide +kernel
theorem dX9_heaviest_63 : decode cX9_heaviest 63 = .ok (.iload_n 2, 1) := by decide +kernel
theorem dX9_heaviest_64 : decode cX9_heaviest 64 = .ok (.if_icmp .le 7, 3) := by decide +kernel
theorem dX9_heaviest_67 : decode cX9_heaviest 67 = .ok (.iload_n 3, 1) := by decide +kernel
theorem dX9_heaviest_68 : decode cX9_heaviest 68 = .ok (.goto 4, 3) := by decide +kernel
theorem dX9_heaviest_71 : decode cX9_heaviest 71 = .ok (.iload_n 2, 1) := by decide +kernel
theorem dX9_heaviest_72 : decode cX9_heaviest 72 = .ok (.istore_n 2, 1) := by decide +kernel
theorem dX9_heaviest_73 : decode cX9_heaviest 73 = .ok (.iinc 4 1, 3) := by decide +kernel
theorem dX9_heaviest_76 : decode cX9_heaviest 76 = .ok (.goto (-69), 3) := by decide +kernel
theorem dX9_heaviest_79 : decode cX9_heaviest 79 = .ok (.iload_n 2, 1) := by decide +kernel
theorem dX9_heaviest_80 : decode cX9_heaviest 80 = .ok (.ireturn, 1) := by decide +kernel
theorem dX9_holdsBack_0 : decode cX9_holdsBack 0 = .ok (.aload_n 0, 1) := by decide +kernel
theorem dX9_holdsBack_1 : decode cX9_holdsBack 1 = .ok (.getfield 143, 3) := by decide +kernel
theorem dX9_holdsBack_4 : decode cX9_holdsBack 4 = .ok (.aload_n 0, 1) := by decide +kernel
theorem dX9_holdsBack_5 : decode cX9_holdsBack 5 = .ok (.getfield 146, 3) := by decide +kernel
theorem dX9_holdsBack_8 : decode cX9_holdsBack 8 = .ok (.iload_n 1, 1) := by decide +kernel
theorem dX9_holdsBack_9 : decode cX9_holdsBack 9 = .ok (.iastore, 1) := by decide +kernel
theorem dX9_holdsBack_10 : decode cX9_holdsBack 10 = .ok (.aload_n 0, 1) := by decide +kernel
theorem dX9_holdsBack_11 : decode cX9_holdsBack 11 = .ok (.dup, 1) := by decide +kernel
theorem dX9_holdsBack_12 : decode cX9_holdsBack 12 = .ok (.getfield 146, 3) := by decide +kernel
theorem dX9_holdsBack_15 : decode cX9_holdsBack 15 = .ok (.iconst 1, 1) := by decide +kernel
theorem dX9_holdsBack_16 : decode cX9_holdsBack 16 = .ok (.iadd, 1) := by decide +kernel
theorem dX9_holdsBack_17 : decode cX9_holdsBack 17 = .ok (.putfield 146, 3) := by decide +kernel
theorem dX9_holdsBack_20 : decode cX9_holdsBack 20 = .ok (.return_, 1) := by decide +kernel
theorem dX9_image_0 : decode cX9_image 0 = .ok (.aload_n 0, 1) := by decide +kernel
theorem dX9_image_1 : decode cX9_image 1 = .ok (.iconst 0, 1) := by decide +kernel
theorem dX9_image_2 : decode cX9_image 2 = .ok (.putfield 258, 3) := by decide +kernel
theorem dX9_image_5 : decode cX9_image 5 = .ok (.aload_n 0, 1) := by decide +kernel
theorem dX9_image_6 : decode cX9_image 6 = .ok (.aload_n 0, 1) := by decide +kernel
theorem dX9_image_7 : decode cX9_image 7 = .ok (.getfield 162, 3) := by decide +kernel
theorem dX9_image_10 : decode cX9_image 10 = .ok (.iconst 0, 1) := by decide +kernel
theorem dX9_image_11 : decode cX9_image 11 = .ok (.iaload, 1) := by decide +kernel
theorem dX9_image_12 : decode cX9_image 12 = .ok (.bipush 8, 2) := by decide +kernel
theorem dX9_image_14 : decode cX9_image 14 = .ok (.ishr, 1) := by decide +kernel
theorem dX9_image_15 : decode cX9_image 15 = .ok (.invokevirtual 597, 3) := by decide +kernel
theorem dX9_image_18 : decode cX9_image 18 = .ok (.aload_n 0, 1) := by decide +kernel
theorem dX9_image_19 : decode cX9_image 19 = .ok (.aload_n 0, 1) := by decide +kernel
theorem dX9_image_20 : decode cX9_image 20 = .ok (.getfield 162, 3) := by decide +kernel
theorem dX9_image_23 : decode cX9_image 23 = .ok (.iconst 0, 1) := by decide +kernel
theorem dX9_image_24 : decode cX9_image 24 = .ok (.iaload, 1) := by decide +kernel
theorem dX9_image_25 : decode cX9_image 25 = .ok (.invokevirtual 597, 3) := by decide +kernel
theorem dX9_image_28 : decode cX9_image 28 = .ok (.iconst 0, 1) := by decide +kernel
theorem dX9_image_29 : decode cX9_image 29 = .ok (.istore_n 1, 1) := by decide +kernel
theorem dX9_image_30 : decode cX9_image 30 = .ok (.iload_n 1, 1) := by decide +kernel
theorem dX9_image_31 : decode cX9_image 31 = .ok (.aload_n 0, 1) := by decide +kernel
theorem dX9_image_32 : decode cX9_image 32 = .ok (.invokevirtual 445, 3) := by decide +kernel
theorem dX9_image_35 : decode cX9_image 35 = .ok (.if_icmp .ge 103, 3) := by decide +kernel
theorem dX9_image_38 : decode cX9_image 38 = .ok (.aload_n 0, 1) := by decide +kernel
theorem dX9_image_39 : decode cX9_image 39 = .ok (.getfield 165, 3) := by decide +kernel
theorem dX9_image_42 : decode cX9_image 42 = .ok (.iload_n 1, 1) := by decide +kernel
theorem dX9_image_43 : decode cX9_image 43 = .ok (.iaload, 1) := by decide +kernel
theorem dX9_image_44 : decode cX9_image 44 = .ok (.istore_n 2, 1) := by decide +kernel
theorem dX9_image_45 : decode cX9_image 45 = .ok (.aload_n 0, 1) := by decide +kernel
theorem dX9_image_46 : decode cX9_image 46 = .ok (.getfield 186, 3) := by decide +kernel
theorem dX9_image_49 : decode cX9_image 49 = .ok (.iload_n 2, 1) := by decide +kernel
theorem dX9_image_50 : decode cX9_image 50 = .ok (.iaload, 1) := by decide +kernel
theorem dX9_image_51 : decode cX9_image 51 = .ok (.sipush 9999, 3) := by decide +kernel
theorem dX9_image_54 : decode cX9_image 54 = .ok (.if_icmp .le 9, 3) := by decide +kernel
theorem dX9_image_57 : decode cX9_image 57 = .ok (.sipush 9999, 3) := by decide +kernel
theorem dX9_image_60 : decode cX9_image 60 = .ok (.goto 9, 3) := by decide +kernel
theorem dX9_image_63 : decode cX9_image 63 = .ok (.aload_n 0, 1) := by decide +kernel
theorem dX9_image_64 : decode cX9_image 64 = .ok (.getfield 186, 3) := by decide +kernel
theorem dX9_image_67 : decode cX9_image 67 = .ok (.iload_n 2, 1) := by decide +kernel
theorem dX9_image_68 : decode cX9_image 68 = .ok (.iaload, 1) := by decide +kernel
theorem dX9_image_69 : decode cX9_image 69 = .ok (.istore_n 3, 1) := by decide +kernel
theorem dX9_image_70 : decode cX9_image 70 = .ok (.aload_n 0, 1) := by decide +kernel
theorem dX9_image_71 : decode cX9_image 71 = .ok (.iload_n 2, 1) := by decide +kernel
theorem dX9_image_72 : decode cX9_image 72 = .ok (.invokevirtual 597, 3) := by decide +kernel
theorem dX9_image_75 : decode cX9_image 75 = .ok (.aload_n 0, 1) := by decide +kernel
theorem dX9_image_76 : decode cX9_image 76 = .ok (.aload_n 0, 1) := by decide +kernel
theorem dX9_image_77 : decode cX9_image 77 = .ok (.getfield 168, 3) := by decide +kernel
theorem dX9_image_80 : decode cX9_image 80 = .ok (.iload_n 2, 1) := by decide +kernel
theorem dX9_image_81 : decode cX9_image 81 = .ok (.iaload, 1) := by decide +kernel
theorem dX9_image_82 : decode cX9_image 82 = .ok (.invokevirtual 597, 3) := by decide +kernel
theorem dX9_image_85 : decode cX9_image 85 = .ok (.aload_n 0, 1) := by decide +kernel
theorem dX9_image_86 : decode cX9_image 86 = .ok (.aload_n 0, 1) := by decide +kernel
theorem dX9_image_87 : decode cX9_image 87 = .ok (.getfield 171, 3) := by decide +kernel
theorem dX9_image_90 : decode cX9_image 90 = .ok (.iload_n 2, 1) := by decide +kernel
theorem dX9_image_91 : decode cX9_image 91 = .ok (.iaload, 1) := by decide +kernel
theorem dX9_image_92 : decode cX9_image 92 = .ok (.iconst 1, 1) := by decide +kernel
theorem dX9_image_93 : decode cX9_image 93 = .ok (.iadd, 1) := by decide +kernel
theorem dX9_image_94 : decode cX9_image 94 = .ok (.invokevirtual 597, 3) := by decide +kernel
theorem dX9_image_97 : decode cX9_image 97 = .ok (.aload_n 0, 1) := by decide +kernel
theorem dX9_image_98 : decode cX9_image 98 = .ok (.aload_n 0, 1) := by decide +kernel
theorem dX9_image_99 : decode cX9_image 99 = .ok (.getfield 174, 3) := by decide +kernel
theorem dX9_image_102 : decode cX9_image 102 = .ok (.iload_n 2, 1) := by decide +kernel
theorem dX9_image_103 : decode cX9_image 103 = .ok (.iaload, 1) := by decide +kernel
theorem dX9_image_104 : decode cX9_image 104 = .ok (.invokevirtual 597, 3) := by decide +kernel
theorem dX9_image_107 : decode cX9_image 107 = .ok (.aload_n 0, 1) := by decide +kernel
theorem dX9_image_108 : decode cX9_image 108 = .ok (.aload_n 0, 1) := by decide +kernel
theorem dX9_image_109 : decode cX9_image 109 = .ok (.getfield 177, 3) := by decide +kernel
theorem dX9_image_112 : decode cX9_image 112 = .ok (.iload_n 2, 1) := by decide +kernel
theorem dX9_image_113 : decode cX9_image 113 = .ok (.iaload, 1) := by decide +kernel
theorem dX9_image_114 : decode cX9_image 114 = .ok (.iconst 1, 1) := by decide +kernel
theorem dX9_image_115 : decode cX9_image 115 = .ok (.iadd, 1) := by decide +kernel
theorem dX9_image_116 : decode cX9_image 116 = .ok (.invokevirtual 597, 3) := by decide +kernel
theorem dX9_image_119 : decode cX9_image 119 = .ok (.aload_n 0, 1) := by decide +kernel
theorem dX9_image_120 : decode cX9_image 120 = .ok (.iload_n 3, 1) := by decide +kernel
theorem dX9_image_121 : decode cX9_image 121 = .ok (.bipush 8, 2) := by decide +kernel
theorem dX9_image_123 : decode cX9_image 123 = .ok (.ishr, 1) := by decide +kernel
theorem dX9_image_124 : decode cX9_image 124 = .ok (.invokevirtual 597, 3) := by decide +kernel
theorem dX9_image_127 : decode cX9_image 127 = .ok (.aload_n 0, 1) := by decide +kernel
theorem dX9_image_128 : decode cX9_image 128 = .ok (.iload_n 3, 1) := by decide +kernel
theorem dX9_image_129 : decode cX9_image 129 = .ok (.invokevirtual 597, 3) := by decide +kernel
theorem dX9_image_132 : decode cX9_image 132 = .ok (.iinc 1 1, 3) := by decide +kernel
theorem dX9_image_135 : decode cX9_image 135 = .ok (.goto (-105), 3) := by decide +kernel
theorem dX9_image_138 : decode cX9_image 138 = .ok (.iconst 0, 1) := by decide +kernel
theorem dX9_image_139 : decode cX9_image 139 = .ok (.istore_n 1, 1) := by decide +kernel
theorem dX9_image_140 : decode cX9_image 140 = .ok (.iload_n 1, 1) := by decide +kernel
theorem dX9_image_141 : decode cX9_image 141 = .ok (.aload_n 0, 1) := by decide +kernel
theorem dX9_image_142 : decode cX9_image 142 = .ok (.invokevirtual 445, 3) := by decide +kernel
theorem dX9_image_145 : decode cX9_image 145 = .ok (.iconst 1, 1) := by decide +kernel
theorem dX9_image_146 : decode cX9_image 146 = .ok (.isub, 1) := by decide +kernel
theorem dX9_image_147 : decode cX9_image 147 = .ok (.if_icmp .ge 29, 3) := by decide +kernel
theorem dX9_image_150 : decode cX9_image 150 = .ok (.aload_n 0, 1) := by decide +kernel
theorem dX9_image_151 : decode cX9_image 151 = .ok (.aload_n 0, 1) := by decide +kernel
theorem dX9_image_152 : decode cX9_image 152 = .ok (.getfield 195, 3) := by decide +kernel
theorem dX9_image_155 : decode cX9_image 155 = .ok (.iload_n 1, 1) := by decide +kernel
theorem dX9_image_156 : decode cX9_image 156 = .ok (.iaload, 1) := by decide +kernel
theorem dX9_image_157 : decode cX9_image 157 = .ok (.invokevirtual 597, 3) := by decide +kernel
theorem dX9_image_160 : decode cX9_image 160 = .ok (.aload_n 0, 1) := by decide +kernel
theorem dX9_image_161 : decode cX9_image 161 = .ok (.aload_n 0, 1) := by decide +kernel
theorem dX9_image_162 : decode cX9_image 162 = .ok (.getfield 198, 3) := by decide +kernel
theorem dX9_image_165 : decode cX9_image 165 = .ok (.iload_n 1, 1) := by decide +kernel
theorem dX9_image_166 : decode cX9_image 166 = .ok (.iaload, 1) := by decide +kernel
theorem dX9_image_167 : decode cX9_image 167 = .ok (.invokevirtual 597, 3) := by decide +kernel
theorem dX9_image_170 : decode cX9_image 170 = .ok (.iinc 1 1, 3) := by decide +kernel
theorem dX9_image_173 : decode cX9_image 173 = .ok (.goto (-33), 3) := by decide +kernel
theorem dX9_image_176 : decode cX9_image 176 = .ok (.bipush 89, 2) := by decide +kernel
theorem dX9_image_178 : decode cX9_image 178 = .ok (.istore_n 1, 1) := by decide +kernel
theorem dX9_image_179 : decode cX9_image 179 = .ok (.iconst 0, 1) := by decide +kernel
theorem dX9_image_180 : decode cX9_image 180 = .ok (.istore_n 2, 1) := by decide +kernel
theorem dX9_image_181 : decode cX9_image 181 = .ok (.iload_n 2, 1) := by decide +kernel
theorem dX9_image_182 : decode cX9_image 182 = .ok (.aload_n 0, 1) := by decide +kernel
theorem dX9_image_183 : decode cX9_image 183 = .ok (.getfield 258, 3) := by decide +kernel
theorem dX9_image_186 : decode cX9_image 186 = .ok (.if_icmp .ge 24, 3) := by decide +kernel
theorem dX9_image_189 : decode cX9_image 189 = .ok (.iconst 5, 1) := by decide +kernel
theorem dX9_image_190 : decode cX9_image 190 = .ok (.iload_n 1, 1) := by decide +kernel
theorem dX9_image_191 : decode cX9_image 191 = .ok (.imul, 1) := by decide +kernel
theorem dX9_image_192 : decode cX9_image 192 = .ok (.aload_n 0, 1) := by decide +kernel
theorem dX9_image_193 : decode cX9_image 193 = .ok (.getfield 255, 3) := by decide +kernel
theorem dX9_image_196 : decode cX9_image 196 = .ok (.iload_n 2, 1) := by decide +kernel
theorem dX9_image_197 : decode cX9_image 197 = .ok (.iaload, 1) := by decide +kernel
theorem dX9_image_198 : decode cX9_image 198 = .ok (.iadd, 1) := by decide +kernel
theorem dX9_image_199 : decode cX9_image 199 = .ok (.sipush 251, 3) := by decide +kernel
theorem dX9_image_202 : decode cX9_image 202 = .ok (.irem, 1) := by decide +kernel
theorem dX9_image_203 : decode cX9_image 203 = .ok (.istore_n 1, 1) := by decide +kernel
theorem dX9_image_204 : decode cX9_image 204 = .ok (.iinc 2 1, 3) := by decide +kernel
theorem dX9_image_207 : decode cX9_image 207 = .ok (.goto (-26), 3) := by decide +kernel
theorem dX9_image_210 : decode cX9_image 210 = .ok (.aload_n 0, 1) := by decide +kernel
theorem dX9_image_211 : decode cX9_image 211 = .ok (.iload_n 1, 1) := by decide +kernel
theorem dX9_image_212 : decode cX9_image 212 = .ok (.invokevirtual 597, 3) := by decide +kernel
theorem dX9_image_215 : decode cX9_image 215 = .ok (.aload_n 0, 1) := by decide +kernel
theorem dX9_image_216 : decode cX9_image 216 = .ok (.getfield 258, 3) := by decide +kernel
theorem dX9_image_219 : decode cX9_image 219 = .ok (.ireturn, 1) := by decide +kernel
theorem dX9_is_0 : decode cX9_is 0 = .ok (.iload_n 0, 1) := by decide +kernel
theorem dX9_is_1 : decode cX9_is 1 = .ok (.iload_n 1, 1) := by decide +kernel
theorem dX9_is_2 : decode cX9_is 2 = .ok (.if_icmp .lt 12, 3) := by decide +kernel
theorem dX9_is_5 : decode cX9_is 5 = .ok (.iload_n 0, 1) := by decide +kernel
theorem dX9_is_6 : decode cX9_is 6 = .ok (.iload_n 2, 1) := by decide +kernel
theorem dX9_is_7 : decode cX9_is 7 = .ok (.if_icmp .gt 7, 3) := by decide +kernel
theorem dX9_is_10 : decode cX9_is 10 = .ok (.iconst 1, 1) := by decide +kernel
theorem dX9_is_11 : decode cX9_is 11 = .ok (.goto 4, 3) := by decide +kernel
theorem dX9_is_14 : decode cX9_is 14 = .ok (.iconst 0, 1) := by decide +kernel
theorem dX9_is_15 : decode cX9_is 15 = .ok (.ireturn, 1) := by decide +kernel
theorem dX9_isBoy_0 : decode cX9_isBoy 0 = .ok (.iload_n 1, 1) := by decide +kernel
theorem dX9_isBoy_1 : decode cX9_isBoy 1 = .ok (.ifCond .lt 20, 3) := by decide +kernel
theorem dX9_isBoy_4 : decode cX9_isBoy 4 = .ok (.iload_n 1, 1) := by decide +kernel
theorem dX9_isBoy_5 : decode cX9_isBoy 5 = .ok (.aload_n 0, 1) := by decide +kernel
theorem dX9_isBoy_6 : decode cX9_isBoy 6 = .ok (.getfield 51, 3) := by decide +kernel
theorem dX9_isBoy_9 : decode cX9_isBoy 9 = .ok (.aload_n 0, 1) := by decide +kernel
theorem dX9_isBoy_10 : decode cX9_isBoy 10 = .ok (.getfield 48, 3) := by decide +kernel
theorem dX9_isBoy_13 : decode cX9_isBoy 13 = .ok (.iaload, 1) := by decide +kernel
theorem dX9_isBoy_14 : decode cX9_isBoy 14 = .ok (.if_icmp .ge 7, 3) := by decide +kernel
theorem dX9_isBoy_17 : decode cX9_isBoy 17 = .ok (.iconst 1, 1) := by decide +kernel
theorem dX9_isBoy_18 : decode cX9_isBoy 18 = .ok (.goto 4, 3) := by decide +kernel
theorem dX9_isBoy_21 : decode cX9_isBoy 21 = .ok (.iconst 0, 1) := by decide +kernel
theorem dX9_isBoy_22 : decode cX9_isBoy 22 = .ok (.ireturn, 1) := by decide +kernel
theorem dX9_isBoyOn_0 : decode cX9_isBoyOn 0 = .ok (.aload_n 0, 1) := by decide +kernel
theorem dX9_isBoyOn_1 : decode cX9_isBoyOn 1 = .ok (.getfield 7, 3) := by decide +kernel
theorem dX9_isBoyOn_4 : decode cX9_isBoyOn 4 = .ok (.iload_n 1, 1) := by decide +kernel
theorem dX9_isBoyOn_5 : decode cX9_isBoyOn 5 = .ok (.iaload, 1) := by decide +kernel
theorem dX9_isBoyOn_6 : decode cX9_isBoyOn 6 = .ok (.istore_n 2, 1) := by decide +kernel
theorem dX9_isBoyOn_7 : decode cX9_isBoyOn 7 = .ok (.aload_n 0, 1) := by decide +kernel
theorem dX9_isBoyOn_8 : decode cX9_isBoyOn 8 = .ok (.getfield 7, 3) := by decide +kernel
theorem dX9_isBoyOn_11 : decode cX9_isBoyOn 11 = .ok (.iload_n 1, 1) := by decide +kernel
theorem dX9_isBoyOn_12 : decode cX9_isBoyOn 12 = .ok (.iconst 2, 1) := by decide +kernel
theorem dX9_isBoyOn_13 : decode cX9_isBoyOn 13 = .ok (.iadd, 1) := by decide +kernel
theorem dX9_isBoyOn_14 : decode cX9_isBoyOn 14 = .ok (.iaload, 1) := by decide +kernel
theorem dX9_isBoyOn_15 : decode cX9_isBoyOn 15 = .ok (.iconst 1, 1) := by decide +kernel
theorem dX9_isBoyOn_16 : decode cX9_isBoyOn 16 = .ok (.isub, 1) := by decide +kernel
theorem dX9_isBoyOn_17 : decode cX9_isBoyOn 17 = .ok (.istore_n 3, 1) := by decide +kernel
theorem dX9_isBoyOn_18 : decode cX9_isBoyOn 18 = .ok (.aload_n 0, 1) := by decide +kernel
theorem dX9_isBoyOn_19 : decode cX9_isBoyOn 19 = .ok (.getfield 7, 3) := by decide +kernel
theorem dX9_isBoyOn_22 : decode cX9_isBoyOn 22 = .ok (.iload_n 1, 1) := by decide +kernel
theorem dX9_isBoyOn_23 : decode cX9_isBoyOn 23 = .ok (.iconst 4, 1) := by decide +kernel
theorem dX9_isBoyOn_24 : decode cX9_isBoyOn 24 = .ok (.iadd, 1) := by decide +kernel
theorem dX9_isBoyOn_25 : decode cX9_isBoyOn 25 = .ok (.iaload, 1) := by decide +kernel
theorem dX9_isBoyOn_26 : decode cX9_isBoyOn 26 = .ok (.iconst 1, 1) := by decide +kernel
theorem dX9_isBoyOn_27 : decode cX9_isBoyOn 27 = .ok (.isub, 1) := by decide +kernel
theorem dX9_isBoyOn_28 : decode cX9_isBoyOn 28 = .ok (.istore 4, 2) := by decide +kernel
theorem dX9_isBoyOn_30 : decode cX9_isBoyOn 30 = .ok (.iload_n 2, 1) := by decide +kernel
theorem dX9_isBoyOn_31 : decode cX9_isBoyOn 31 = .ok (.aload_n 0, 1) := by decide +kernel
theorem dX9_isBoyOn_32 : decode cX9_isBoyOn 32 = .ok (.invokevirtual 445, 3) := by decide +kernel
theorem dX9_isBoyOn_35 : decode cX9_isBoyOn 35 = .ok (.if_icmp .ge 42, 3) := by decide +kernel
theorem dX9_isBoyOn_38 : decode cX9_isBoyOn 38 = .ok (.aload_n 0, 1) := by decide +kernel
theorem dX9_isBoyOn_39 : decode cX9_isBoyOn 39 = .ok (.getfield 7, 3) := by decide +kernel
theorem dX9_isBoyOn_42 : decode cX9_isBoyOn 42 = .ok (.iload_n 1, 1) := by decide +kernel
theorem dX9_isBoyOn_43 : decode cX9_isBoyOn 43 = .ok (.iconst 1, 1) := by decide +kernel
theorem dX9_isBoyOn_44 : decode cX9_isBoyOn 44 = .ok (.iadd, 1) := by decide +kernel
theorem dX9_isBoyOn_45 : decode cX9_isBoyOn 45 = .ok (.iaload, 1) := by decide +kernel
theorem dX9_isBoyOn_46 : decode cX9_isBoyOn 46 = .ok (.iconst 1, 1) := by decide +kernel
theorem dX9_isBoyOn_47 : decode cX9_isBoyOn 47 = .ok (.if_icmp .gt 30, 3) := by decide +kernel
theorem dX9_isBoyOn_50 : decode cX9_isBoyOn 50 = .ok (.iload_n 3, 1) := by decide +kernel
theorem dX9_isBoyOn_51 : decode cX9_isBoyOn 51 = .ok (.aload_n 0, 1) := by decide +kernel
theorem dX9_isBoyOn_52 : decode cX9_isBoyOn 52 = .ok (.getfield 76, 3) := by decide +kernel
theorem dX9_isBoyOn_55 : decode cX9_isBoyOn 55 = .ok (.aload_n 0, 1) := by decide +kernel
theorem dX9_isBoyOn_56 : decode cX9_isBoyOn 56 = .ok (.getfield 48, 3) := by decide +kernel
theorem dX9_isBoyOn_59 : decode cX9_isBoyOn 59 = .ok (.iaload, 1) := by decide +kernel
theorem dX9_isBoyOn_60 : decode cX9_isBoyOn 60 = .ok (.if_icmp .ge 17, 3) := by decide +kernel
theorem dX9_isBoyOn_63 : decode cX9_isBoyOn 63 = .ok (.iload 4, 2) := by decide +kernel
theorem dX9_isBoyOn_65 : decode cX9_isBoyOn 65 = .ok (.aload_n 0, 1) := by decide +kernel
theorem dX9_isBoyOn_66 : decode cX9_isBoyOn 66 = .ok (.getfield 76, 3) := by decide +kernel
theorem dX9_isBoyOn_69 : decode cX9_isBoyOn 69 = .ok (.aload_n 0, 1) := by decide +kernel
theorem dX9_isBoyOn_70 : decode cX9_isBoyOn 70 = .ok (.getfield 48, 3) := by decide +kernel
theorem dX9_isBoyOn_73 : decode cX9_isBoyOn 73 = .ok (.iaload, 1) := by decide +kernel
theorem dX9_isBoyOn_74 : decode cX9_isBoyOn 74 = .ok (.if_icmp .lt 5, 3) := by decide +kernel
theorem dX9_isBoyOn_77 : decode cX9_isBoyOn 77 = .ok (.iconst 0, 1) := by decide +kernel
theorem dX9_isBoyOn_78 : decode cX9_isBoyOn 78 = .ok (.ireturn, 1) := by decide +kernel
theorem dX9_isBoyOn_79 : decode cX9_isBoyOn 79 = .ok (.iload_n 3, 1) := by decide +kernel
theorem dX9_isBoyOn_80 : decode cX9_isBoyOn 80 = .ok (.iconst (-1), 1) := by decide +kernel
theorem dX9_isBoyOn_81 : decode cX9_isBoyOn 81 = .ok (.if_icmp .ne 17, 3) := by decide +kernel
theorem dX9_isBoyOn_84 : decode cX9_isBoyOn 84 = .ok (.aload_n 0, 1) := by decide +kernel
theorem dX9_isBoyOn_85 : decode cX9_isBoyOn 85 = .ok (.getfield 7, 3) := by decide +kernel
theorem dX9_isBoyOn_88 : decode cX9_isBoyOn 88 = .ok (.iload_n 1, 1) := by decide +kernel
theorem dX9_isBoyOn_89 : decode cX9_isBoyOn 89 = .ok (.iconst 3, 1) := by decide +kernel
theorem dX9_isBoyOn_90 : decode cX9_isBoyOn 90 = .ok (.iadd, 1) := by decide +kernel
theorem dX9_isBoyOn_91 : decode cX9_isBoyOn 91 = .ok (.iaload, 1) := by decide +kernel
theorem dX9_isBoyOn_92 : decode cX9_isBoyOn 92 = .ok (.ifCond .eq 37, 3) := by decide +kernel
theorem dX9_isBoyOn_95 : decode cX9_isBoyOn 95 = .ok (.goto 32, 3) := by decide +kernel
theorem dX9_isBoyOn_98 : decode cX9_isBoyOn 98 = .ok (.aload_n 0, 1) := by decide +kernel
theorem dX9_isBoyOn_99 : decode cX9_isBoyOn 99 = .ok (.getfield 7, 3) := by decide +kernel
theorem dX9_isBoyOn_102 : decode cX9_isBoyOn 102 = .ok (.iload_n 1, 1) := by decide +kernel
theorem dX9_isBoyOn_103 : decode cX9_isBoyOn 103 = .ok (.iconst 3, 1) := by decide +kernel
theorem dX9_isBoyOn_104 : decode cX9_isBoyOn 104 = .ok (.iadd, 1) := by decide +kernel
theorem dX9_isBoyOn_105 : decode cX9_isBoyOn 105 = .ok (.iaload, 1) := by decide +kernel
theorem dX9_isBoyOn_106 : decode cX9_isBoyOn 106 = .ok (.iconst 1, 1) := by decide +kernel
theorem dX9_isBoyOn_107 : decode cX9_isBoyOn 107 = .ok (.aload_n 0, 1) := by decide +kernel
theorem dX9_isBoyOn_108 : decode cX9_isBoyOn 108 = .ok (.getfield 85, 3) := by decide +kernel
theorem dX9_isBoyOn_111 : decode cX9_isBoyOn 111 = .ok (.bipush 6, 2) := by decide +kernel
theorem dX9_isBoyOn_113 : decode cX9_isBoyOn 113 = .ok (.aload_n 0, 1) := by decide +kernel
theorem dX9_isBoyOn_114 : decode cX9_isBoyOn 114 = .ok (.getfield 48, 3) := by decide +kernel
theorem dX9_isBoyOn_117 : decode cX9_isBoyOn 117 = .ok (.imul, 1) := by decide +kernel
theorem dX9_isBoyOn_118 : decode cX9_isBoyOn 118 = .ok (.iload_n 3, 1) := by decide +kernel
theorem dX9_isBoyOn_119 : decode cX9_isBoyOn 119 = .ok (.iadd, 1) := by decide +kernel
theorem dX9_isBoyOn_120 : decode cX9_isBoyOn 120 = .ok (.iaload, 1) := by decide +kernel
theorem dX9_isBoyOn_121 : decode cX9_isBoyOn 121 = .ok (.invokestatic 340, 3) := by decide +kernel
theorem dX9_isBoyOn_124 : decode cX9_isBoyOn 124 = .ok (.ifCond .ne 5, 3) := by decide +kernel
theorem dX9_isBoyOn_127 : decode cX9_isBoyOn 127 = .ok (.iconst 0, 1) := by decide +kernel
theorem dX9_isBoyOn_128 : decode cX9_isBoyOn 128 = .ok (.ireturn, 1) := by decide +kernel
theorem dX9_isBoyOn_129 : decode cX9_isBoyOn 129 = .ok (.iload_n 3, 1) := by decide +kernel
theorem dX9_isBoyOn_130 : decode cX9_isBoyOn 130 = .ok (.iconst (-1), 1) := by decide +kernel
theorem dX9_isBoyOn_131 : decode cX9_isBoyOn 131 = .ok (.if_icmp .ne 9, 3) := by decide +kernel
theorem dX9_isBoyOn_134 : decode cX9_isBoyOn 134 = .ok (.iload 4, 2) := by decide +kernel
theorem dX9_isBoyOn_136 : decode cX9_isBoyOn 136 = .ok (.iconst (-1), 1) := by decide +kernel
theorem dX9_isBoyOn_137 : decode cX9_isBoyOn 137 = .ok (.if_icmp .eq 22, 3) := by decide +kernel
theorem dX9_isBoyOn_140 : decode cX9_isBoyOn 140 = .ok (.aload_n 0, 1) := by decide +kernel
theorem dX9_isBoyOn_141 : decode cX9_isBoyOn 141 = .ok (.getfield 7, 3) := by decide +kernel
theorem dX9_isBoyOn_144 : decode cX9_isBoyOn 144 = .ok (.iload_n 1, 1) := by decide +kernel
theorem dX9_isBoyOn_145 : decode cX9_isBoyOn 145 = .ok (.iconst 1, 1) := by decide +kernel
theorem dX9_isBoyOn_146 : decode cX9_isBoyOn 146 = .ok (.iadd, 1) := by decide +kernel
theorem dX9_isBoyOn_147 : decode cX9_isBoyOn 147 = .ok (.iaload, 1) := by decide +kernel
theorem dX9_isBoyOn_148 : decode cX9_isBoyOn 148 = .ok (.ifCond .eq 22, 3) := by decide +kernel
theorem dX9_isBoyOn_151 : decode cX9_isBoyOn 151 = .ok (.aload_n 0, 1) := by decide +kernel
theorem dX9_isBoyOn_152 : decode cX9_isBoyOn 152 = .ok (.iload_n 2, 1) := by decide +kernel
theorem dX9_isBoyOn_153 : decode cX9_isBoyOn 153 = .ok (.invokevirtual 475, 3) := by decide +kernel
theorem dX9_isBoyOn_156 : decode cX9_isBoyOn 156 = .ok (.ifCond .ne 14, 3) := by decide +kernel
theorem dX9_isBoyOn_159 : decode cX9_isBoyOn 159 = .ok (.iload_n 3, 1) := by decide +kernel
theorem dX9_isBoyOn_160 : decode cX9_isBoyOn 160 = .ok (.iconst (-1), 1) := by decide +kernel
theorem dX9_isBoyOn_161 : decode cX9_isBoyOn 161 = .ok (.if_icmp .eq 11, 3) := by decide +kernel
theorem dX9_isBoyOn_164 : decode cX9_isBoyOn 164 = .ok (.iload 4, 2) := by decide +kernel
theorem dX9_isBoyOn_166 : decode cX9_isBoyOn 166 = .ok (.iconst (-1), 1) := by decide +kernel
theorem dX9_isBoyOn_167 : decode cX9_isBoyOn 167 = .ok (.if_icmp .eq 5, 3) := by decide +kernel
theorem dX9_isBoyOn_170 : decode cX9_isBoyOn 170 = .ok (.iconst 0, 1) := by decide +kernel
theorem dX9_isBoyOn_171 : decode cX9_isBoyOn 171 = .ok (.ireturn, 1) := by decide +kernel
theorem dX9_isBoyOn_172 : decode cX9_isBoyOn 172 = .ok (.aload_n 0, 1) := by decide +kernel
theorem dX9_isBoyOn_173 : decode cX9_isBoyOn 173 = .ok (.getfield 7, 3) := by decide +kernel
theorem dX9_isBoyOn_176 : decode cX9_isBoyOn 176 = .ok (.iload_n 1, 1) := by decide +kernel
theorem dX9_isBoyOn_177 : decode cX9_isBoyOn 177 = .ok (.iconst 5, 1) := by decide +kernel
theorem dX9_isBoyOn_178 : decode cX9_isBoyOn 178 = .ok (.iadd, 1) := by decide +kernel
theorem dX9_isBoyOn_179 : decode cX9_isBoyOn 179 = .ok (.iaload, 1) := by decide +kernel
theorem dX9_isBoyOn_180 : decode cX9_isBoyOn 180 = .ok (.bipush 8, 2) := by decide +kernel
theorem dX9_isBoyOn_182 : decode cX9_isBoyOn 182 = .ok (.ishl, 1) := by decide +kernel
theorem dX9_isBoyOn_183 : decode cX9_isBoyOn 183 = .ok (.aload_n 0, 1) := by decide +kernel
theorem dX9_isBoyOn_184 : decode cX9_isBoyOn 184 = .ok (.getfield 7, 3) := by decide +kernel
theorem dX9_isBoyOn_187 : decode cX9_isBoyOn 187 = .ok (.iload_n 1, 1) := by decide +kernel
theorem dX9_isBoyOn_188 : decode cX9_isBoyOn 188 = .ok (.bipush 6, 2) := by decide +kernel
theorem dX9_isBoyOn_190 : decode cX9_isBoyOn 190 = .ok (.iadd, 1) := by decide +kernel
theorem dX9_isBoyOn_191 : decode cX9_isBoyOn 191 = .ok (.iaload, 1) := by decide +kernel
theorem dX9_isBoyOn_192 : decode cX9_isBoyOn 192 = .ok (.ior, 1) := by decide +kernel
theorem dX9_isBoyOn_193 : decode cX9_isBoyOn 193 = .ok (.sipush 9999, 3) := by decide +kernel
theorem dX9_isBoyOn_196 : decode cX9_isBoyOn 196 = .ok (.if_icmp .gt 7, 3) := by decide +kernel
theorem dX9_isBoyOn_199 : decode cX9_isBoyOn 199 = .ok (.iconst 1, 1) := by decide +kernel
theorem dX9_isBoyOn_200 : decode cX9_isBoyOn 200 = .ok (.goto 4, 3) := by decide +kernel
theorem dX9_isBoyOn_203 : decode cX9_isBoyOn 203 = .ok (.iconst 0, 1) := by decide +kernel
theorem dX9_isBoyOn_204 : decode cX9_isBoyOn 204 = .ok (.ireturn, 1) := by decide +kernel
theorem dX9_isCut_0 : decode cX9_isCut 0 = .ok (.aload_n 0, 1) := by decide +kernel
theorem dX9_isCut_1 : decode cX9_isCut 1 = .ok (.getfield 195, 3) := by decide +kernel
theorem dX9_isCut_4 : decode cX9_isCut 4 = .ok (.iload_n 1, 1) := by decide +kernel
theorem dX9_isCut_5 : decode cX9_isCut 5 = .ok (.iaload, 1) := by decide +kernel
theorem dX9_isCut_6 : decode cX9_isCut 6 = .ok (.ifCond .ne 5, 3) := by decide +kernel
theorem dX9_isCut_9 : decode cX9_isCut 9 = .ok (.iconst 1, 1) := by decide +kernel
theorem dX9_isCut_10 : decode cX9_isCut 10 = .ok (.ireturn, 1) := by decide +kernel
theorem dX9_isCut_11 : decode cX9_isCut 11 = .ok (.iconst 0, 1) := by decide +kernel
theorem dX9_isCut_12 : decode cX9_isCut 12 = .ok (.istore_n 3, 1) := by decide +kernel
theorem dX9_isCut_13 : decode cX9_isCut 13 = .ok (.iload_n 3, 1) := by decide +kernel
theorem dX9_isCut_14 : decode cX9_isCut 14 = .ok (.iload_n 2, 1) := by decide +kernel
theorem dX9_isCut_15 : decode cX9_isCut 15 = .ok (.if_icmp .ge 21, 3) := by decide +kernel
theorem dX9_isCut_18 : decode cX9_isCut 18 = .ok (.aload_n 0, 1) := by decide +kernel
theorem dX9_isCut_19 : decode cX9_isCut 19 = .ok (.getfield 249, 3) := by decide +kernel
theorem dX9_isCut_22 : decode cX9_isCut 22 = .ok (.iload_n 3, 1) := by decide +kernel
theorem dX9_isCut_23 : decode cX9_isCut 23 = .ok (.iaload, 1) := by decide +kernel
theorem dX9_isCut_24 : decode cX9_isCut 24 = .ok (.iload_n 1, 1) := by decide +kernel
theorem dX9_isCut_25 : decode cX9_isCut 25 = .ok (.if_icmp .ne 5, 3) := by decide +kernel
theorem dX9_isCut_28 : decode cX9_isCut 28 = .ok (.iconst 1, 1) := by decide +kernel
theorem dX9_isCut_29 : decode cX9_isCut 29 = .ok (.ireturn, 1) := by decide +kernel
theorem dX9_isCut_30 : decode cX9_isCut 30 = .ok (.iinc 3 1, 3) := by decide +kernel
theorem dX9_isCut_33 : decode cX9_isCut 33 = .ok (.goto (-20), 3) := by decide +kernel
theorem dX9_isCut_36 : decode cX9_isCut 36 = .ok (.iconst 0, 1) := by decide +kernel
theorem dX9_isCut_37 : decode cX9_isCut 37 = .ok (.ireturn, 1) := by decide +kernel
theorem dX9_isDigit_0 : decode cX9_isDigit 0 = .ok (.iload_n 0, 1) := by decide +kernel
theorem dX9_isDigit_1 : decode cX9_isDigit 1 = .ok (.bipush 48, 2) := by decide +kernel
theorem dX9_isDigit_3 : decode cX9_isDigit 3 = .ok (.if_icmp .lt 13, 3) := by decide +kernel
theorem dX9_isDigit_6 : decode cX9_isDigit 6 = .ok (.iload_n 0, 1) := by decide +kernel
theorem dX9_isDigit_7 : decode cX9_isDigit 7 = .ok (.bipush 57, 2) := by decide +kernel
theorem dX9_isDigit_9 : decode cX9_isDigit 9 = .ok (.if_icmp .gt 7, 3) := by decide +kernel
theorem dX9_isDigit_12 : decode cX9_isDigit 12 = .ok (.iconst 1, 1) := by decide +kernel
theorem dX9_isDigit_13 : decode cX9_isDigit 13 = .ok (.goto 4, 3) := by decide +kernel
theorem dX9_isDigit_16 : decode cX9_isDigit 16 = .ok (.iconst 0, 1) := by decide +kernel
theorem dX9_isDigit_17 : decode cX9_isDigit 17 = .ok (.ireturn, 1) := by decide +kernel
theorem dX9_isDream_0 : decode cX9_isDream 0 = .ok (.iload_n 1, 1) := by decide +kernel
theorem dX9_isDream_1 : decode cX9_isDream 1 = .ok (.ifCond .lt 20, 3) := by decide +kernel
theorem dX9_isDream_4 : decode cX9_isDream 4 = .ok (.iload_n 1, 1) := by decide +kernel
theorem dX9_isDream_5 : decode cX9_isDream 5 = .ok (.aload_n 0, 1) := by decide +kernel
theorem dX9_isDream_6 : decode cX9_isDream 6 = .ok (.getfield 76, 3) := by decide +kernel
theorem dX9_isDream_9 : decode cX9_isDream 9 = .ok (.aload_n 0, 1) := by decide +kernel
theorem dX9_isDream_10 : decode cX9_isDream 10 = .ok (.getfield 48, 3) := by decide +kernel
theorem dX9_isDream_13 : decode cX9_isDream 13 = .ok (.iaload, 1) := by decide +kernel
theorem dX9_isDream_14 : decode cX9_isDream 14 = .ok (.if_icmp .ge 7, 3) := by decide +kernel
theorem dX9_isDream_17 : decode cX9_isDream 17 = .ok (.iconst 1, 1) := by decide +kernel
theorem dX9_isDream_18 : decode cX9_isDream 18 = .ok (.goto 4, 3) := by decide +kernel
theorem dX9_isDream_21 : decode cX9_isDream 21 = .ok (.iconst 0, 1) := by decide +kernel
theorem dX9_isDream_22 : decode cX9_isDream 22 = .ok (.ireturn, 1) := by decide +kernel
theorem dX9_isFelt_0 : decode cX9_isFelt 0 = .ok (.aload_n 0, 1) := by decide +kernel
theorem dX9_isFelt_1 : decode cX9_isFelt 1 = .ok (.getfield 222, 3) := by decide +kernel
theorem dX9_isFelt_4 : decode cX9_isFelt 4 = .ok (.iload_n 2, 1) := by decide +kernel
theorem dX9_isFelt_5 : decode cX9_isFelt 5 = .ok (.iaload, 1) := by decide +kernel
theorem dX9_isFelt_6 : decode cX9_isFelt 6 = .ok (.istore 6, 2) := by decide +kernel
theorem dX9_isFelt_8 : decode cX9_isFelt 8 = .ok (.bipush 12, 2) := by decide +kernel
theorem dX9_isFelt_10 : decode cX9_isFelt 10 = .ok (.iload_n 1, 1) := by decide +kernel
theorem dX9_isFelt_11 : decode cX9_isFelt 11 = .ok (.imul, 1) := by decide +kernel
theorem dX9_isFelt_12 : decode cX9_isFelt 12 = .ok (.iload 6, 2) := by decide +kernel
theorem dX9_isFelt_14 : decode cX9_isFelt 14 = .ok (.iadd, 1) := by decide +kernel
theorem dX9_isFelt_15 : decode cX9_isFelt 15 = .ok (.istore 7, 2) := by decide +kernel
theorem dX9_isFelt_17 : decode cX9_isFelt 17 = .ok (.aload_n 0, 1) := by decide +kernel
theorem dX9_isFelt_18 : decode cX9_isFelt 18 = .ok (.getfield 186, 3) := by decide +kernel
theorem dX9_isFelt_21 : decode cX9_isFelt 21 = .ok (.iload 7, 2) := by decide +kernel
theorem dX9_isFelt_23 : decode cX9_isFelt 23 = .ok (.dup2, 1) := by decide +kernel
theorem dX9_isFelt_24 : decode cX9_isFelt 24 = .ok (.iaload, 1) := by decide +kernel
theorem dX9_isFelt_25 : decode cX9_isFelt 25 = .ok (.iconst 1, 1) := by decide +kernel
theorem dX9_isFelt_26 : decode cX9_isFelt 26 = .ok (.iadd, 1) := by decide +kernel
theorem dX9_isFelt_27 : decode cX9_isFelt 27 = .ok (.iastore, 1) := by decide +kernel
theorem dX9_isFelt_28 : decode cX9_isFelt 28 = .ok (.aload_n 0, 1) := by decide +kernel
theorem dX9_isFelt_29 : decode cX9_isFelt 29 = .ok (.getfield 189, 3) := by decide +kernel
theorem dX9_isFelt_32 : decode cX9_isFelt 32 = .ok (.iload 7, 2) := by decide +kernel
theorem dX9_isFelt_34 : decode cX9_isFelt 34 = .ok (.aload_n 0, 1) := by decide +kernel
theorem dX9_isFelt_35 : decode cX9_isFelt 35 = .ok (.getfield 234, 3) := by decide +kernel
theorem dX9_isFelt_38 : decode cX9_isFelt 38 = .ok (.iload_n 2, 1) := by decide +kernel
theorem dX9_isFelt_39 : decode cX9_isFelt 39 = .ok (.iaload, 1) := by decide +kernel
theorem dX9_isFelt_40 : decode cX9_isFelt 40 = .ok (.aload_n 0, 1) := by decide +kernel
theorem dX9_isFelt_41 : decode cX9_isFelt 41 = .ok (.getfield 189, 3) := by decide +kernel
theorem dX9_isFelt_44 : decode cX9_isFelt 44 = .ok (.iload 7, 2) := by decide +kernel
theorem dX9_isFelt_46 : decode cX9_isFelt 46 = .ok (.iaload, 1) := by decide +kernel
theorem dX9_isFelt_47 : decode cX9_isFelt 47 = .ok (.if_icmp .le 12, 3) := by decide +kernel
theorem dX9_isFelt_50 : decode cX9_isFelt 50 = .ok (.aload_n 0, 1) := by decide +kernel
theorem dX9_isFelt_51 : decode cX9_isFelt 51 = .ok (.getfield 234, 3) := by decide +kernel
theorem dX9_isFelt_54 : decode cX9_isFelt 54 = .ok (.iload_n 2, 1) := by decide +kernel
theorem dX9_isFelt_55 : decode cX9_isFelt 55 = .ok (.iaload, 1) := by decide +kernel
theorem dX9_isFelt_56 : decode cX9_isFelt 56 = .ok (.goto 10, 3) := by decide +kernel
theorem dX9_isFelt_59 : decode cX9_isFelt 59 = .ok (.aload_n 0, 1) := by decide +kernel
theorem dX9_isFelt_60 : decode cX9_isFelt 60 = .ok (.getfield 189, 3) := by decide +kernel
theorem dX9_isFelt_63 : decode cX9_isFelt 63 = .ok (.iload 7, 2) := by decide +kernel
theorem dX9_isFelt_65 : decode cX9_isFelt 65 = .ok (.iaload, 1) := by decide +kernel
theorem dX9_isFelt_66 : decode cX9_isFelt 66 = .ok (.iastore, 1) := by decide +kernel
theorem dX9_isFelt_67 : decode cX9_isFelt 67 = .ok (.aload_n 0, 1) := by decide +kernel
theorem dX9_isFelt_68 : decode cX9_isFelt 68 = .ok (.getfield 192, 3) := by decide +kernel
theorem dX9_isFelt_71 : decode cX9_isFelt 71 = .ok (.iload 7, 2) := by decide +kernel
theorem dX9_isFelt_73 : decode cX9_isFelt 73 = .ok (.aload_n 0, 1) := by decide +kernel
theorem dX9_isFelt_74 : decode cX9_isFelt 74 = .ok (.getfield 192, 3) := by decide +kernel
theorem dX9_isFelt_77 : decode cX9_isFelt 77 = .ok (.iload 7, 2) := by decide +kernel
theorem dX9_isFelt_79 : decode cX9_isFelt 79 = .ok (.iaload, 1) := by decide +kernel
theorem dX9_isFelt_80 : decode cX9_isFelt 80 = .ok (.aload_n 0, 1) := by decide +kernel
theorem dX9_isFelt_81 : decode cX9_isFelt 81 = .ok (.getfield 234, 3) := by decide +kernel
theorem dX9_isFelt_84 : decode cX9_isFelt 84 = .ok (.iload_n 2, 1) := by decide +kernel
theorem dX9_isFelt_85 : decode cX9_isFelt 85 = .ok (.iaload, 1) := by decide +kernel
theorem dX9_isFelt_86 : decode cX9_isFelt 86 = .ok (.iadd, 1) := by decide +kernel
theorem dX9_isFelt_87 : decode cX9_isFelt 87 = .ok (.ldc_w 490, 3) := by decide +kernel
theorem dX9_isFelt_90 : decode cX9_isFelt 90 = .ok (.if_icmp .le 9, 3) := by decide +kernel
theorem dX9_isFelt_93 : decode cX9_isFelt 93 = .ok (.ldc_w 490, 3) := by decide +kernel
theorem dX9_isFelt_96 : decode cX9_isFelt 96 = .ok (.goto 17, 3) := by decide +kernel
theorem dX9_isFelt_99 : decode cX9_isFelt 99 = .ok (.aload_n 0, 1) := by decide +kernel
theorem dX9_isFelt_100 : decode cX9_isFelt 100 = .ok (.getfield 192, 3) := by decide +kernel
theorem dX9_isFelt_103 : decode cX9_isFelt 103 = .ok (.iload 7, 2) := by decide +kernel
theorem dX9_isFelt_105 : decode cX9_isFelt 105 = .ok (.iaload, 1) := by decide +kernel
theorem dX9_isFelt_106 : decode cX9_isFelt 106 = .ok (.aload_n 0, 1) := by decide +kernel
theorem dX9_isFelt_107 : decode cX9_isFelt 107 = .ok (.getfield 234, 3) := by decide +kernel
theorem dX9_isFelt_110 : decode cX9_isFelt 110 = .ok (.iload_n 2, 1) := by decide +kernel
theorem dX9_isFelt_111 : decode cX9_isFelt 111 = .ok (.iaload, 1) := by decide +kernel
theorem dX9_isFelt_112 : decode cX9_isFelt 112 = .ok (.iadd, 1) := by decide +kernel
theorem dX9_isFelt_113 : decode cX9_isFelt 113 = .ok (.iastore, 1) := by decide +kernel
theorem dX9_isFelt_114 : decode cX9_isFelt 114 = .ok (.aload_n 0, 1) := by decide +kernel
theorem dX9_isFelt_115 : decode cX9_isFelt 115 = .ok (.getfield 237, 3) := by decide +kernel
theorem dX9_isFelt_118 : decode cX9_isFelt 118 = .ok (.iload_n 2, 1) := by decide +kernel
theorem dX9_isFelt_119 : decode cX9_isFelt 119 = .ok (.ishr, 1) := by decide +kernel
theorem dX9_isFelt_120 : decode cX9_isFelt 120 = .ok (.iconst 1, 1) := by decide +kernel
theorem dX9_isFelt_121 : decode cX9_isFelt 121 = .ok (.iand, 1) := by decide +kernel
theorem dX9_isFelt_122 : decode cX9_isFelt 122 = .ok (.iconst 1, 1) := by decide +kernel
theorem dX9_isFelt_123 : decode cX9_isFelt 123 = .ok (.if_icmp .ne 11, 3) := by decide +kernel
theorem dX9_isFelt_126 : decode cX9_isFelt 126 = .ok (.aload_n 0, 1) := by decide +kernel
theorem dX9_isFelt_127 : decode cX9_isFelt 127 = .ok (.iload_n 1, 1) := by decide +kernel
theorem dX9_isFelt_128 : decode cX9_isFelt 128 = .ok (.iload 6, 2) := by decide +kernel
theorem dX9_isFelt_130 : decode cX9_isFelt 130 = .ok (.invokevirtual 491, 3) := by decide +kernel
theorem dX9_isFelt_133 : decode cX9_isFelt 133 = .ok (.return_, 1) := by decide +kernel
theorem dX9_isFelt_134 : decode cX9_isFelt 134 = .ok (.aload_n 0, 1) := by decide +kernel
theorem dX9_isFelt_135 : decode cX9_isFelt 135 = .ok (.getfield 234, 3) := by decide +kernel
theorem dX9_isFelt_138 : decode cX9_isFelt 138 = .ok (.iload_n 2, 1) := by decide +kernel
theorem dX9_isFelt_139 : decode cX9_isFelt 139 = .ok (.iaload, 1) := by decide +kernel
theorem dX9_isFelt_140 : decode cX9_isFelt 140 = .ok (.aload_n 0, 1) := by decide +kernel
theorem dX9_isFelt_141 : decode cX9_isFelt 141 = .ok (.getfield 88, 3) := by decide +kernel
theorem dX9_isFelt_144 : decode cX9_isFelt 144 = .ok (.bipush 6, 2) := by decide +kernel
theorem dX9_isFelt_146 : decode cX9_isFelt 146 = .ok (.aload_n 0, 1) := by decide +kernel
theorem dX9_isFelt_147 : decode cX9_isFelt 147 = .ok (.getfield 48, 3) := by decide +kernel
theorem dX9_isFelt_150 : decode cX9_isFelt 150 = .ok (.imul, 1) := by decide +kernel
theorem dX9_isFelt_151 : decode cX9_isFelt 151 = .ok (.iload_n 3, 1) := by decide +kernel
theorem dX9_isFelt_152 : decode cX9_isFelt 152 = .ok (.iadd, 1) := by decide +kernel
theorem dX9_isFelt_153 : decode cX9_isFelt 153 = .ok (.iaload, 1) := by decide +kernel
theorem dX9_isFelt_154 : decode cX9_isFelt 154 = .ok (.if_icmp .lt 24, 3) := by decide +kernel
theorem dX9_isFelt_157 : decode cX9_isFelt 157 = .ok (.aload_n 0, 1) := by decide +kernel
theorem dX9_isFelt_158 : decode cX9_isFelt 158 = .ok (.iload_n 1, 1) := by decide +kernel
theorem dX9_isFelt_159 : decode cX9_isFelt 159 = .ok (.iload 6, 2) := by decide +kernel
theorem dX9_isFelt_161 : decode cX9_isFelt 161 = .ok (.invokevirtual 494, 3) := by decide +kernel
theorem dX9_isFelt_164 : decode cX9_isFelt 164 = .ok (.ifCond .eq 14, 3) := by decide +kernel
theorem dX9_isFelt_167 : decode cX9_isFelt 167 = .ok (.aload_n 0, 1) := by decide +kernel
theorem dX9_isFelt_168 : decode cX9_isFelt 168 = .ok (.getfield 177, 3) := by decide +kernel
theorem dX9_isFelt_171 : decode cX9_isFelt 171 = .ok (.iload 7, 2) := by decide +kernel
theorem dX9_isFelt_173 : decode cX9_isFelt 173 = .ok (.iaload, 1) := by decide +kernel
theorem dX9_isFelt_174 : decode cX9_isFelt 174 = .ok (.iconst (-1), 1) := by decide +kernel
theorem dX9_isFelt_175 : decode cX9_isFelt 175 = .ok (.if_icmp .eq 4, 3) := by decide +kernel
theorem dX9_isFelt_178 : decode cX9_isFelt 178 = .ok (.return_, 1) := by decide +kernel
theorem dX9_isFelt_179 : decode cX9_isFelt 179 = .ok (.aload_n 0, 1) := by decide +kernel
theorem dX9_isFelt_180 : decode cX9_isFelt 180 = .ok (.getfield 177, 3) := by decide +kernel
theorem dX9_isFelt_183 : decode cX9_isFelt 183 = .ok (.iload 7, 2) := by decide +kernel
theorem dX9_isFelt_185 : decode cX9_isFelt 185 = .ok (.iload_n 3, 1) := by decide +kernel
theorem dX9_isFelt_186 : decode cX9_isFelt 186 = .ok (.iastore, 1) := by decide +kernel
theorem dX9_isFelt_187 : decode cX9_isFelt 187 = .ok (.aload_n 0, 1) := by decide +kernel
theorem dX9_isFelt_188 : decode cX9_isFelt 188 = .ok (.getfield 180, 3) := by decide +kernel
theorem dX9_isFelt_191 : decode cX9_isFelt 191 = .ok (.iload 7, 2) := by decide +kernel
theorem dX9_isFelt_193 : decode cX9_isFelt 193 = .ok (.iload 4, 2) := by decide +kernel
theorem dX9_isFelt_195 : decode cX9_isFelt 195 = .ok (.iastore, 1) := by decide +kernel
theorem dX9_isFelt_196 : decode cX9_isFelt 196 = .ok (.aload_n 0, 1) := by decide +kernel
theorem dX9_isFelt_197 : decode cX9_isFelt 197 = .ok (.getfield 183, 3) := by decide +kernel
theorem dX9_isFelt_200 : decode cX9_isFelt 200 = .ok (.iload 7, 2) := by decide +kernel
theorem dX9_isFelt_202 : decode cX9_isFelt 202 = .ok (.iload 5, 2) := by decide +kernel
theorem dX9_isFelt_204 : decode cX9_isFelt 204 = .ok (.iastore, 1) := by decide +kernel
theorem dX9_isFelt_205 : decode cX9_isFelt 205 = .ok (.return_, 1) := by decide +kernel
theorem dX9_isGhost_0 : decode cX9_isGhost 0 = .ok (.aload_n 0, 1) := by decide +kernel
theorem dX9_isGhost_1 : decode cX9_isGhost 1 = .ok (.getfield 70, 3) := by decide +kernel
theorem dX9_isGhost_4 : decode cX9_isGhost 4 = .ok (.bipush 12, 2) := by decide +kernel
theorem dX9_isGhost_6 : decode cX9_isGhost 6 = .ok (.aload_n 0, 1) := by decide +kernel
theorem dX9_isGhost_7 : decode cX9_isGhost 7 = .ok (.getfield 48, 3) := by decide +kernel
theorem dX9_isGhost_10 : decode cX9_isGhost 10 = .ok (.imul, 1) := by decide +kernel
theorem dX9_isGhost_11 : decode cX9_isGhost 11 = .ok (.iload_n 1, 1) := by decide +kernel
theorem dX9_isGhost_12 : decode cX9_isGhost 12 = .ok (.iadd, 1) := by decide +kernel
theorem dX9_isGhost_13 : decode cX9_isGhost 13 = .ok (.iaload, 1) := by decide +kernel
theorem dX9_isGhost_14 : decode cX9_isGhost 14 = .ok (.iconst 2, 1) := by decide +kernel
theorem dX9_isGhost_15 : decode cX9_isGhost 15 = .ok (.iand, 1) := by decide +kernel
theorem dX9_isGhost_16 : decode cX9_isGhost 16 = .ok (.ifCond .eq 7, 3) := by decide +kernel
theorem dX9_isGhost_19 : decode cX9_isGhost 19 = .ok (.iconst 1, 1) := by decide +kernel
theorem dX9_isGhost_20 : decode cX9_isGhost 20 = .ok (.goto 4, 3) := by decide +kernel
theorem dX9_isGhost_23 : decode cX9_isGhost 23 = .ok (.iconst 0, 1) := by decide +kernel
theorem dX9_isGhost_24 : decode cX9_isGhost 24 = .ok (.ireturn, 1) := by decide +kernel
theorem dX9_isImage_0 : decode cX9_isImage 0 = .ok (.iload_n 1, 1) := by decide +kernel
theorem dX9_isImage_1 : decode cX9_isImage 1 = .ok (.iconst 3, 1) := by decide +kernel
theorem dX9_isImage_2 : decode cX9_isImage 2 = .ok (.bipush 7, 2) := by decide +kernel
theorem dX9_isImage_4 : decode cX9_isImage 4 = .ok (.aload_n 0, 1) := by decide +kernel
theorem dX9_isImage_5 : decode cX9_isImage 5 = .ok (.invokevirtual 445, 3) := by decide +kernel
theorem dX9_isImage_8 : decode cX9_isImage 8 = .ok (.imul, 1) := by decide +kernel
theorem dX9_isImage_9 : decode cX9_isImage 9 = .ok (.iadd, 1) := by decide +kernel
theorem dX9_isImage_10 : decode cX9_isImage 10 = .ok (.iconst 2, 1) := by decide +kernel
theorem dX9_isImage_11 : decode cX9_isImage 11 = .ok (.aload_n 0, 1) := by decide +kernel
theorem dX9_isImage_12 : decode cX9_isImage 12 = .ok (.invokevirtual 600, 3) := by decide +kernel
theorem dX9_isImage_15 : decode cX9_isImage 15 = .ok (.imul, 1) := by decide +kernel
theorem dX9_isImage_16 : decode cX9_isImage 16 = .ok (.iadd, 1) := by decide +kernel
theorem dX9_isImage_17 : decode cX9_isImage 17 = .ok (.if_icmp .eq 5, 3) := by decide +kernel
theorem dX9_isImage_20 : decode cX9_isImage 20 = .ok (.iconst 0, 1) := by decide +kernel
theorem dX9_isImage_21 : decode cX9_isImage 21 = .ok (.ireturn, 1) := by decide +kernel
theorem dX9_isImage_22 : decode cX9_isImage 22 = .ok (.bipush 89, 2) := by decide +kernel
theorem dX9_isImage_24 : decode cX9_isImage 24 = .ok (.istore_n 2, 1) := by decide +kernel
theorem dX9_isImage_25 : decode cX9_isImage 25 = .ok (.iconst 0, 1) := by decide +kernel
theorem dX9_isImage_26 : decode cX9_isImage 26 = .ok (.istore_n 3, 1) := by decide +kernel
theorem dX9_isImage_27 : decode cX9_isImage 27 = .ok (.iload_n 3, 1) := by decide +kernel
theorem dX9_isImage_28 : decode cX9_isImage 28 = .ok (.iload_n 1, 1) := by decide +kernel
theorem dX9_isImage_29 : decode cX9_isImage 29 = .ok (.iconst 1, 1) := by decide +kernel
theorem dX9_isImage_30 : decode cX9_isImage 30 = .ok (.isub, 1) := by decide +kernel
theorem dX9_isImage_31 : decode cX9_isImage 31 = .ok (.if_icmp .ge 24, 3) := by decide +kernel
theorem dX9_isImage_34 : decode cX9_isImage 34 = .ok (.iconst 5, 1) := by decide +kernel
theorem dX9_isImage_35 : decode cX9_isImage 35 = .ok (.iload_n 2, 1) := by decide +kernel
theorem dX9_isImage_36 : decode cX9_isImage 36 = .ok (.imul, 1) := by decide +kernel
theorem dX9_isImage_37 : decode cX9_isImage 37 = .ok (.aload_n 0, 1) := by decide +kernel
theorem dX9_isImage_38 : decode cX9_isImage 38 = .ok (.getfield 7, 3) := by decide +kernel
theorem dX9_isImage_41 : decode cX9_isImage 41 = .ok (.iload_n 3, 1) := by decide +kernel
theorem dX9_isImage_42 : decode cX9_isImage 42 = .ok (.iaload, 1) := by decide +kernel
theorem dX9_isImage_43 : decode cX9_isImage 43 = .ok (.iadd, 1) := by decide +kernel
theorem dX9_isImage_44 : decode cX9_isImage 44 = .ok (.sipush 251, 3) := by decide +kernel
theorem dX9_isImage_47 : decode cX9_isImage 47 = .ok (.irem, 1) := by decide +kernel
theorem dX9_isImage_48 : decode cX9_isImage 48 = .ok (.istore_n 2, 1) := by decide +kernel
theorem dX9_isImage_49 : decode cX9_isImage 49 = .ok (.iinc 3 1, 3) := by decide +kernel
theorem dX9_isImage_52 : decode cX9_isImage 52 = .ok (.goto (-25), 3) := by decide +kernel
theorem dX9_isImage_55 : decode cX9_isImage 55 = .ok (.aload_n 0, 1) := by decide +kernel
theorem dX9_isImage_56 : decode cX9_isImage 56 = .ok (.getfield 7, 3) := by decide +kernel
theorem dX9_isImage_59 : decode cX9_isImage 59 = .ok (.iload_n 1, 1) := by decide +kernel
theorem dX9_isImage_60 : decode cX9_isImage 60 = .ok (.iconst 1, 1) := by decide +kernel
theorem dX9_isImage_61 : decode cX9_isImage 61 = .ok (.isub, 1) := by decide +kernel
theorem dX9_isImage_62 : decode cX9_isImage 62 = .ok (.iaload, 1) := by decide +kernel
theorem dX9_isImage_63 : decode cX9_isImage 63 = .ok (.iload_n 2, 1) := by decide +kernel
theorem dX9_isImage_64 : decode cX9_isImage 64 = .ok (.if_icmp .ne 25, 3) := by decide +kernel
theorem dX9_isImage_67 : decode cX9_isImage 67 = .ok (.aload_n 0, 1) := by decide +kernel
theorem dX9_isImage_68 : decode cX9_isImage 68 = .ok (.getfield 7, 3) := by decide +kernel
theorem dX9_isImage_71 : decode cX9_isImage 71 = .ok (.iconst 0, 1) := by decide +kernel
theorem dX9_isImage_72 : decode cX9_isImage 72 = .ok (.iaload, 1) := by decide +kernel
theorem dX9_isImage_73 : decode cX9_isImage 73 = .ok (.bipush 8, 2) := by decide +kernel
theorem dX9_isImage_75 : decode cX9_isImage 75 = .ok (.ishl, 1) := by decide +kernel
theorem dX9_isImage_76 : decode cX9_isImage 76 = .ok (.aload_n 0, 1) := by decide +kernel
theorem dX9_isImage_77 : decode cX9_isImage 77 = .ok (.getfield 7, 3) := by decide +kernel
theorem dX9_isImage_80 : decode cX9_isImage 80 = .ok (.iconst 1, 1) := by decide +kernel
theorem dX9_isImage_81 : decode cX9_isImage 81 = .ok (.iaload, 1) := by decide +kernel
theorem dX9_isImage_82 : decode cX9_isImage 82 = .ok (.ior, 1) := by decide +kernel
theorem dX9_isImage_83 : decode cX9_isImage 83 = .ok (.sipush 999, 3) := by decide +kernel
theorem dX9_isImage_86 : decode cX9_isImage 86 = .ok (.if_icmp .le 5, 3) := by decide +kernel
theorem dX9_isImage_89 : decode cX9_isImage 89 = .ok (.iconst 0, 1) := by decide +kernel
theorem dX9_isImage_90 : decode cX9_isImage 90 = .ok (.ireturn, 1) := by decide +kernel
theorem dX9_isImage_91 : decode cX9_isImage 91 = .ok (.iconst 0, 1) := by decide +kernel
theorem dX9_isImage_92 : decode cX9_isImage 92 = .ok (.istore_n 3, 1) := by decide +kernel
theorem dX9_isImage_93 : decode cX9_isImage 93 = .ok (.iload_n 3, 1) := by decide +kernel
theorem dX9_isImage_94 : decode cX9_isImage 94 = .ok (.aload_n 0, 1) := by decide +kernel
theorem dX9_isImage_95 : decode cX9_isImage 95 = .ok (.invokevirtual 445, 3) := by decide +kernel
theorem dX9_isImage_98 : decode cX9_isImage 98 = .ok (.if_icmp .ge 67, 3) := by decide +kernel
theorem dX9_isImage_101 : decode cX9_isImage 101 = .ok (.aload_n 0, 1) := by decide +kernel
theorem dX9_isImage_102 : decode cX9_isImage 102 = .ok (.iconst 2, 1) := by decide +kernel
theorem dX9_isImage_103 : decode cX9_isImage 103 = .ok (.bipush 7, 2) := by decide +kernel
theorem dX9_isImage_105 : decode cX9_isImage 105 = .ok (.iload_n 3, 1) := by decide +kernel
theorem dX9_isImage_106 : decode cX9_isImage 106 = .ok (.imul, 1) := by decide +kernel
theorem dX9_isImage_107 : decode cX9_isImage 107 = .ok (.iadd, 1) := by decide +kernel
theorem dX9_isImage_108 : decode cX9_isImage 108 = .ok (.invokevirtual 603, 3) := by decide +kernel
theorem dX9_isImage_111 : decode cX9_isImage 111 = .ok (.ifCond .ne 5, 3) := by decide +kernel
theorem dX9_isImage_114 : decode cX9_isImage 114 = .ok (.iconst 0, 1) := by decide +kernel
theorem dX9_isImage_115 : decode cX9_isImage 115 = .ok (.ireturn, 1) := by decide +kernel
theorem dX9_isImage_116 : decode cX9_isImage 116 = .ok (.iconst 0, 1) := by decide +kernel
theorem dX9_isImage_117 : decode cX9_isImage 117 = .ok (.istore 4, 2) := by decide +kernel
theorem dX9_isImage_119 : decode cX9_isImage 119 = .ok (.iload 4, 2) := by decide +kernel
theorem dX9_isImage_121 : decode cX9_isImage 121 = .ok (.iload_n 3, 1) := by decide +kernel
theorem dX9_isImage_122 : decode cX9_isImage 122 = .ok (.if_icmp .ge 37, 3) := by decide +kernel
theorem dX9_isImage_125 : decode cX9_isImage 125 = .ok (.aload_n 0, 1) := by decide +kernel
theorem dX9_isImage_126 : decode cX9_isImage 126 = .ok (.getfield 7, 3) := by decide +kernel
theorem dX9_isImage_129 : decode cX9_isImage 129 = .ok (.iconst 2, 1) := by decide +kernel
theorem dX9_isImage_130 : decode cX9_isImage 130 = .ok (.bipush 7, 2) := by decide +kernel
theorem dX9_isImage_132 : decode cX9_isImage 132 = .ok (.iload 4, 2) := by decide +kernel
theorem dX9_isImage_134 : decode cX9_isImage 134 = .ok (.imul, 1) := by decide +kernel
theorem dX9_isImage_135 : decode cX9_isImage 135 = .ok (.iadd, 1) := by decide +kernel
theorem dX9_isImage_136 : decode cX9_isImage 136 = .ok (.iaload, 1) := by decide +kernel
theorem dX9_isImage_137 : decode cX9_isImage 137 = .ok (.aload_n 0, 1) := by decide +kernel
theorem dX9_isImage_138 : decode cX9_isImage 138 = .ok (.getfield 7, 3) := by decide +kernel
theorem dX9_isImage_141 : decode cX9_isImage 141 = .ok (.iconst 2, 1) := by decide +kernel
theorem dX9_isImage_142 : decode cX9_isImage 142 = .ok (.bipush 7, 2) := by decide +kernel
theorem dX9_isImage_144 : decode cX9_isImage 144 = .ok (.iload_n 3, 1) := by decide +kernel
theorem dX9_isImage_145 : decode cX9_isImage 145 = .ok (.imul, 1) := by decide +kernel
theorem dX9_isImage_146 : decode cX9_isImage 146 = .ok (.iadd, 1) := by decide +kernel
theorem dX9_isImage_147 : decode cX9_isImage 147 = .ok (.iaload, 1) := by decide +kernel
theorem dX9_isImage_148 : decode cX9_isImage 148 = .ok (.if_icmp .ne 5, 3) := by decide +kernel
theorem dX9_isImage_151 : decode cX9_isImage 151 = .ok (.iconst 0, 1) := by decide +kernel
theorem dX9_isImage_152 : decode cX9_isImage 152 = .ok (.ireturn, 1) := by decide +kernel
theorem dX9_isImage_153 : decode cX9_isImage 153 = .ok (.iinc 4 1, 3) := by decide +kernel
theorem dX9_isImage_156 : decode cX9_isImage 156 = .ok (.goto (-37), 3) := by decide +kernel
theorem dX9_isImage_159 : decode cX9_isImage 159 = .ok (.iinc 3 1, 3) := by decide +kernel
theorem dX9_isImage_162 : decode cX9_isImage 162 = .ok (.goto (-69), 3) := by decide +kernel
theorem dX9_isImage_165 : decode cX9_isImage 165 = .ok (.iconst 0, 1) := by decide +kernel
theorem dX9_isImage_166 : decode cX9_isImage 166 = .ok (.istore_n 3, 1) := by decide +kernel
theorem dX9_isImage_167 : decode cX9_isImage 167 = .ok (.iload_n 3, 1) := by decide +kernel
theorem dX9_isImage_168 : decode cX9_isImage 168 = .ok (.aload_n 0, 1) := by decide +kernel
theorem dX9_isImage_169 : decode cX9_isImage 169 = .ok (.invokevirtual 600, 3) := by decide +kernel
theorem dX9_isImage_172 : decode cX9_isImage 172 = .ok (.if_icmp .ge 51, 3) := by decide +kernel
theorem dX9_isImage_175 : decode cX9_isImage 175 = .ok (.iconst 2, 1) := by decide +kernel
theorem dX9_isImage_176 : decode cX9_isImage 176 = .ok (.bipush 7, 2) := by decide +kernel
theorem dX9_isImage_178 : decode cX9_isImage 178 = .ok (.aload_n 0, 1) := by decide +kernel
theorem dX9_isImage_179 : decode cX9_isImage 179 = .ok (.invokevirtual 445, 3) := by decide +kernel
theorem dX9_isImage_182 : decode cX9_isImage 182 = .ok (.imul, 1) := by decide +kernel
theorem dX9_isImage_183 : decode cX9_isImage 183 = .ok (.iadd, 1) := by decide +kernel
theorem dX9_isImage_184 : decode cX9_isImage 184 = .ok (.iconst 2, 1) := by decide +kernel
theorem dX9_isImage_185 : decode cX9_isImage 185 = .ok (.iload_n 3, 1) := by decide +kernel
theorem dX9_isImage_186 : decode cX9_isImage 186 = .ok (.imul, 1) := by decide +kernel
theorem dX9_isImage_187 : decode cX9_isImage 187 = .ok (.iadd, 1) := by decide +kernel
theorem dX9_isImage_188 : decode cX9_isImage 188 = .ok (.istore 4, 2) := by decide +kernel
theorem dX9_isImage_190 : decode cX9_isImage 190 = .ok (.aload_n 0, 1) := by decide +kernel
theorem dX9_isImage_191 : decode cX9_isImage 191 = .ok (.getfield 7, 3) := by decide +kernel
theorem dX9_isImage_194 : decode cX9_isImage 194 = .ok (.iload 4, 2) := by decide +kernel
theorem dX9_isImage_196 : decode cX9_isImage 196 = .ok (.iaload, 1) := by decide +kernel
theorem dX9_isImage_197 : decode cX9_isImage 197 = .ok (.iconst 1, 1) := by decide +kernel
theorem dX9_isImage_198 : decode cX9_isImage 198 = .ok (.if_icmp .gt 17, 3) := by decide +kernel
theorem dX9_isImage_201 : decode cX9_isImage 201 = .ok (.aload_n 0, 1) := by decide +kernel
theorem dX9_isImage_202 : decode cX9_isImage 202 = .ok (.getfield 7, 3) := by decide +kernel
theorem dX9_isImage_205 : decode cX9_isImage 205 = .ok (.iload 4, 2) := by decide +kernel
theorem dX9_isImage_207 : decode cX9_isImage 207 = .ok (.iconst 1, 1) := by decide +kernel
theorem dX9_isImage_208 : decode cX9_isImage 208 = .ok (.iadd, 1) := by decide +kernel
theorem dX9_isImage_209 : decode cX9_isImage 209 = .ok (.iaload, 1) := by decide +kernel
theorem dX9_isImage_210 : decode cX9_isImage 210 = .ok (.bipush 99, 2) := by decide +kernel
theorem dX9_isImage_212 : decode cX9_isImage 212 = .ok (.if_icmp .le 5, 3) := by decide +kernel
theorem dX9_isImage_215 : decode cX9_isImage 215 = .ok (.iconst 0, 1) := by decide +kernel
theorem dX9_isImage_216 : decode cX9_isImage 216 = .ok (.ireturn, 1) := by decide +kernel
theorem dX9_isImage_217 : decode cX9_isImage 217 = .ok (.iinc 3 1, 3) := by decide +kernel
theorem dX9_isImage_220 : decode cX9_isImage 220 = .ok (.goto (-53), 3) := by decide +kernel
theorem dX9_isImage_223 : decode cX9_isImage 223 = .ok (.iconst 1, 1) := by decide +kernel
theorem dX9_isImage_224 : decode cX9_isImage 224 = .ok (.ireturn, 1) := by decide +kernel
theorem dX9_isKnot_0 : decode cX9_isKnot 0 = .ok (.iload_n 1, 1) := by decide +kernel
theorem dX9_isKnot_1 : decode cX9_isKnot 1 = .ok (.ifCond .lt 22, 3) := by decide +kernel
theorem dX9_isKnot_4 : decode cX9_isKnot 4 = .ok (.iload_n 1, 1) := by decide +kernel
theorem dX9_isKnot_5 : decode cX9_isKnot 5 = .ok (.aload_n 0, 1) := by decide +kernel
theorem dX9_isKnot_6 : decode cX9_isKnot 6 = .ok (.getfield 51, 3) := by decide +kernel
theorem dX9_isKnot_9 : decode cX9_isKnot 9 = .ok (.aload_n 0, 1) := by decide +kernel
theorem dX9_isKnot_10 : decode cX9_isKnot 10 = .ok (.getfield 48, 3) := by decide +kernel
theorem dX9_isKnot_13 : decode cX9_isKnot 13 = .ok (.iaload, 1) := by decide +kernel
theorem dX9_isKnot_14 : decode cX9_isKnot 14 = .ok (.iconst 1, 1) := by decide +kernel
theorem dX9_isKnot_15 : decode cX9_isKnot 15 = .ok (.isub, 1) := by decide +kernel
theorem dX9_isKnot_16 : decode cX9_isKnot 16 = .ok (.if_icmp .ge 7, 3) := by decide +kernel
theorem dX9_isKnot_19 : decode cX9_isKnot 19 = .ok (.iconst 1, 1) := by decide +kernel
theorem dX9_isKnot_20 : decode cX9_isKnot 20 = .ok (.goto 4, 3) := by decide +kernel
theorem dX9_isKnot_23 : decode cX9_isKnot 23 = .ok (.iconst 0, 1) := by decide +kernel
theorem dX9_isKnot_24 : decode cX9_isKnot 24 = .ok (.ireturn, 1) := by decide +kernel
theorem dX9_isLetter_0 : decode cX9_isLetter 0 = .ok (.iload_n 0, 1) := by decide +kernel
theorem dX9_isLetter_1 : decode cX9_isLetter 1 = .ok (.bipush 97, 2) := by decide +kernel
theorem dX9_isLetter_3 : decode cX9_isLetter 3 = .ok (.if_icmp .lt 13, 3) := by decide +kernel
theorem dX9_isLetter_6 : decode cX9_isLetter 6 = .ok (.iload_n 0, 1) := by decide +kernel
theorem dX9_isLetter_7 : decode cX9_isLetter 7 = .ok (.bipush 122, 2) := by decide +kernel
theorem dX9_isLetter_9 : decode cX9_isLetter 9 = .ok (.if_icmp .gt 7, 3) := by decide +kernel
theorem dX9_isLetter_12 : decode cX9_isLetter 12 = .ok (.iconst 1, 1) := by decide +kernel
theorem dX9_isLetter_13 : decode cX9_isLetter 13 = .ok (.goto 4, 3) := by decide +kernel
theorem dX9_isLetter_16 : decode cX9_isLetter 16 = .ok (.iconst 0, 1) := by decide +kernel
theorem dX9_isLetter_17 : decode cX9_isLetter 17 = .ok (.ireturn, 1) := by decide +kernel
theorem dX9_isOwn_0 : decode cX9_isOwn 0 = .ok (.lload_n 1, 1) := by decide +kernel
theorem dX9_isOwn_1 : decode cX9_isOwn 1 = .ok (.ldc2_w 286, 3) := by decide +kernel
theorem dX9_isOwn_4 : decode cX9_isOwn 4 = .ok (.lcmp, 1) := by decide +kernel
theorem dX9_isOwn_5 : decode cX9_isOwn 5 = .ok (.ifCond .eq 35, 3) := by decide +kernel
theorem dX9_isOwn_8 : decode cX9_isOwn 8 = .ok (.lload_n 1, 1) := by decide +kernel
theorem dX9_isOwn_9 : decode cX9_isOwn 9 = .ok (.ldc2_w 288, 3) := by decide +kernel
theorem dX9_isOwn_12 : decode cX9_isOwn 12 = .ok (.lcmp, 1) := by decide +kernel
theorem dX9_isOwn_13 : decode cX9_isOwn 13 = .ok (.ifCond .eq 27, 3) := by decide +kernel
theorem dX9_isOwn_16 : decode cX9_isOwn 16 = .ok (.lload_n 1, 1) := by decide +kernel
theorem dX9_isOwn_17 : decode cX9_isOwn 17 = .ok (.ldc2_w 290, 3) := by decide +kernel
theorem dX9_isOwn_20 : decode cX9_isOwn 20 = .ok (.lcmp, 1) := by decide +kernel
theorem dX9_isOwn_21 : decode cX9_isOwn 21 = .ok (.ifCond .eq 19, 3) := by decide +kernel
theorem dX9_isOwn_24 : decode cX9_isOwn 24 = .ok (.lload_n 1, 1) := by decide +kernel
theorem dX9_isOwn_25 : decode cX9_isOwn 25 = .ok (.ldc2_w 292, 3) := by decide +kernel
theorem dX9_isOwn_28 : decode cX9_isOwn 28 = .ok (.lcmp, 1) := by decide +kernel
theorem dX9_isOwn_29 : decode cX9_isOwn 29 = .ok (.ifCond .eq 11, 3) := by decide +kernel
theorem dX9_isOwn_32 : decode cX9_isOwn 32 = .ok (.lload_n 1, 1) := by decide +kernel
theorem dX9_isOwn_33 : decode cX9_isOwn 33 = .ok (.ldc2_w 294, 3) := by decide +kernel
theorem dX9_isOwn_36 : decode cX9_isOwn 36 = .ok (.lcmp, 1) := by decide +kernel
theorem dX9_isOwn_37 : decode cX9_isOwn 37 = .ok (.ifCond .ne 5, 3) := by decide +kernel
theorem dX9_isOwn_40 : decode cX9_isOwn 40 = .ok (.iconst 1, 1) := by decide +kernel
theorem dX9_isOwn_41 : decode cX9_isOwn 41 = .ok (.ireturn, 1) := by decide +kernel
theorem dX9_isOwn_42 : decode cX9_isOwn 42 = .ok (.lload_n 1, 1) := by decide +kernel
theorem dX9_isOwn_43 : decode cX9_isOwn 43 = .ok (.ldc2_w 296, 3) := by decide +kernel
theorem dX9_isOwn_46 : decode cX9_isOwn 46 = .ok (.lcmp, 1) := by decide +kernel
theorem dX9_isOwn_47 : decode cX9_isOwn 47 = .ok (.ifCond .eq 35, 3) := by decide +kernel
theorem dX9_isOwn_50 : decode cX9_isOwn 50 = .ok (.lload_n 1, 1) := by decide +kernel
theorem dX9_isOwn_51 : decode cX9_isOwn 51 = .ok (.ldc2_w 298, 3) := by decide +kernel
theorem dX9_isOwn_54 : decode cX9_isOwn 54 = .ok (.lcmp, 1) := by decide +kernel
theorem dX9_isOwn_55 : decode cX9_isOwn 55 = .ok (.ifCond .eq 27, 3) := by decide +kernel
theorem dX9_isOwn_58 : decode cX9_isOwn 58 = .ok (.lload_n 1, 1) := by decide +kernel
theorem dX9_isOwn_59 : decode cX9_isOwn 59 = .ok (.ldc2_w 300, 3) := by decide +kernel
theorem dX9_isOwn_62 : decode cX9_isOwn 62 = .ok (.lcmp, 1) := by decide +kernel
theorem dX9_isOwn_63 : decode cX9_isOwn 63 = .ok (.ifCond .eq 19, 3) := by decide +kernel
theorem dX9_isOwn_66 : decode cX9_isOwn 66 = .ok (.lload_n 1, 1) := by decide +kernel
theorem dX9_isOwn_67 : decode cX9_isOwn 67 = .ok (.ldc2_w 302, 3) := by decide +kernel
theorem dX9_isOwn_70 : decode cX9_isOwn 70 = .ok (.lcmp, 1) := by decide +kernel
theorem dX9_isOwn_71 : decode cX9_isOwn 71 = .ok (.ifCond .eq 11, 3) := by decide +kernel
theorem dX9_isOwn_74 : decode cX9_isOwn 74 = .ok (.lload_n 1, 1) := by decide +kernel
theorem dX9_isOwn_75 : decode cX9_isOwn 75 = .ok (.ldc2_w 304, 3) := by decide +kernel
theorem dX9_isOwn_78 : decode cX9_isOwn 78 = .ok (.lcmp, 1) := by decide +kernel
theorem dX9_isOwn_79 : decode cX9_isOwn 79 = .ok (.ifCond .ne 5, 3) := by decide +kernel
theorem dX9_isOwn_82 : decode cX9_isOwn 82 = .ok (.iconst 1, 1) := by decide +kernel
theorem dX9_isOwn_83 : decode cX9_isOwn 83 = .ok (.ireturn, 1) := by decide +kernel
theorem dX9_isOwn_84 : decode cX9_isOwn 84 = .ok (.lload_n 1, 1) := by decide +kernel
theorem dX9_isOwn_85 : decode cX9_isOwn 85 = .ok (.ldc2_w 306, 3) := by decide +kernel
theorem dX9_isOwn_88 : decode cX9_isOwn 88 = .ok (.lcmp, 1) := by decide +kernel
theorem dX9_isOwn_89 : decode cX9_isOwn 89 = .ok (.ifCond .eq 35, 3) := by decide +kernel
theorem dX9_isOwn_92 : decode cX9_isOwn 92 = .ok (.lload_n 1, 1) := by decide +kernel
theorem dX9_isOwn_93 : decode cX9_isOwn 93 = .ok (.ldc2_w 308, 3) := by decide +kernel
theorem dX9_isOwn_96 : decode cX9_isOwn 96 = .ok (.lcmp, 1) := by decide +kernel
theorem dX9_isOwn_97 : decode cX9_isOwn 97 = .ok (.ifCond .eq 27, 3) := by decide +kernel
theorem dX9_isOwn_100 : decode cX9_isOwn 100 = .ok (.lload_n 1, 1) := by decide +kernel
theorem dX9_isOwn_101 : decode cX9_isOwn 101 = .ok (.ldc2_w 310, 3) := by decide +kernel
theorem dX9_isOwn_104 : decode cX9_isOwn 104 = .ok (.lcmp, 1) := by decide +kernel
theorem dX9_isOwn_105 : decode cX9_isOwn 105 = .ok (.ifCond .eq 19, 3) := by decide +kernel
theorem dX9_isOwn_108 : decode cX9_isOwn 108 = .ok (.lload_n 1, 1) := by decide +kernel
theorem dX9_isOwn_109 : decode cX9_isOwn 109 = .ok (.ldc2_w 312, 3) := by decide +kernel
theorem dX9_isOwn_112 : decode cX9_isOwn 112 = .ok (.lcmp, 1) := by decide +kernel
theorem dX9_isOwn_113 : decode cX9_isOwn 113 = .ok (.ifCond .eq 11, 3) := by decide +kernel
theorem dX9_isOwn_116 : decode cX9_isOwn 116 = .ok (.lload_n 1, 1) := by decide +kernel
theorem dX9_isOwn_117 : decode cX9_isOwn 117 = .ok (.ldc2_w 314, 3) := by decide +kernel
theorem dX9_isOwn_120 : decode cX9_isOwn 120 = .ok (.lcmp, 1) := by decide +kernel
theorem dX9_isOwn_121 : decode cX9_isOwn 121 = .ok (.ifCond .ne 5, 3) := by decide +kernel
theorem dX9_isOwn_124 : decode cX9_isOwn 124 = .ok (.iconst 1, 1) := by decide +kernel
theorem dX9_isOwn_125 : decode cX9_isOwn 125 = .ok (.ireturn, 1) := by decide +kernel
theorem dX9_isOwn_126 : decode cX9_isOwn 126 = .ok (.lload_n 1, 1) := by decide +kernel
theorem dX9_isOwn_127 : decode cX9_isOwn 127 = .ok (.ldc2_w 316, 3) := by decide +kernel
theorem dX9_isOwn_130 : decode cX9_isOwn 130 = .ok (.lcmp, 1) := by decide +kernel
theorem dX9_isOwn_131 : decode cX9_isOwn 131 = .ok (.ifCond .eq 35, 3) := by decide +kernel
theorem dX9_isOwn_134 : decode cX9_isOwn 134 = .ok (.lload_n 1, 1) := by decide +kernel
theorem dX9_isOwn_135 : decode cX9_isOwn 135 = .ok (.ldc2_w 318, 3) := by decide +kernel
theorem dX9_isOwn_138 : decode cX9_isOwn 138 = .ok (.lcmp, 1) := by decide +kernel
theorem dX9_isOwn_139 : decode cX9_isOwn 139 = .ok (.ifCond .eq 27, 3) := by decide +kernel
theorem dX9_isOwn_142 : decode cX9_isOwn 142 = .ok (.lload_n 1, 1) := by decide +kernel
theorem dX9_isOwn_143 : decode cX9_isOwn 143 = .ok (.ldc2_w 320, 3) := by decide +kernel
theorem dX9_isOwn_146 : decode cX9_isOwn 146 = .ok (.lcmp, 1) := by decide +kernel
theorem dX9_isOwn_147 : decode cX9_isOwn 147 = .ok (.ifCond .eq 19, 3) := by decide +kernel
theorem dX9_isOwn_150 : decode cX9_isOwn 150 = .ok (.lload_n 1, 1) := by decide +kernel
theorem dX9_isOwn_151 : decode cX9_isOwn 151 = .ok (.ldc2_w 322, 3) := by decide +kernel
theorem dX9_isOwn_154 : decode cX9_isOwn 154 = .ok (.lcmp, 1) := by decide +kernel
theorem dX9_isOwn_155 : decode cX9_isOwn 155 = .ok (.ifCond .eq 11, 3) := by decide +kernel
theorem dX9_isOwn_158 : decode cX9_isOwn 158 = .ok (.lload_n 1, 1) := by decide +kernel
theorem dX9_isOwn_159 : decode cX9_isOwn 159 = .ok (.ldc2_w 324, 3) := by decide +kernel
theorem dX9_isOwn_162 : decode cX9_isOwn 162 = .ok (.lcmp, 1) := by decide +kernel
theorem dX9_isOwn_163 : decode cX9_isOwn 163 = .ok (.ifCond .ne 5, 3) := by decide +kernel
theorem dX9_isOwn_166 : decode cX9_isOwn 166 = .ok (.iconst 1, 1) := by decide +kernel
theorem dX9_isOwn_167 : decode cX9_isOwn 167 = .ok (.ireturn, 1) := by decide +kernel
theorem dX9_isOwn_168 : decode cX9_isOwn 168 = .ok (.lload_n 1, 1) := by decide +kernel
theorem dX9_isOwn_169 : decode cX9_isOwn 169 = .ok (.ldc2_w 326, 3) := by decide +kernel
theorem dX9_isOwn_172 : decode cX9_isOwn 172 = .ok (.lcmp, 1) := by decide +kernel
theorem dX9_isOwn_173 : decode cX9_isOwn 173 = .ok (.ifCond .eq 35, 3) := by decide +kernel
theorem dX9_isOwn_176 : decode cX9_isOwn 176 = .ok (.lload_n 1, 1) := by decide +kernel
theorem dX9_isOwn_177 : decode cX9_isOwn 177 = .ok (.ldc2_w 328, 3) := by decide +kernel
theorem dX9_isOwn_180 : decode cX9_isOwn 180 = .ok (.lcmp, 1) := by decide +kernel
theorem dX9_isOwn_181 : decode cX9_isOwn 181 = .ok (.ifCond .eq 27, 3) := by decide +kernel
theorem dX9_isOwn_184 : decode cX9_isOwn 184 = .ok (.lload_n 1, 1) := by decide +kernel
theorem dX9_isOwn_185 : decode cX9_isOwn 185 = .ok (.ldc2_w 330, 3) := by decide +kernel
theorem dX9_isOwn_188 : decode cX9_isOwn 188 = .ok (.lcmp, 1) := by decide +kernel
theorem dX9_isOwn_189 : decode cX9_isOwn 189 = .ok (.ifCond .eq 19, 3) := by decide +kernel
theorem dX9_isOwn_192 : decode cX9_isOwn 192 = .ok (.lload_n 1, 1) := by decide +kernel
theorem dX9_isOwn_193 : decode cX9_isOwn 193 = .ok (.ldc2_w 332, 3) := by decide +kernel
theorem dX9_isOwn_196 : decode cX9_isOwn 196 = .ok (.lcmp, 1) := by decide +kernel
theorem dX9_isOwn_197 : decode cX9_isOwn 197 = .ok (.ifCond .eq 11, 3) := by decide +kernel
theorem dX9_isOwn_200 : decode cX9_isOwn 200 = .ok (.lload_n 1, 1) := by decide +kernel
theorem dX9_isOwn_201 : decode cX9_isOwn 201 = .ok (.ldc2_w 334, 3) := by decide +kernel
theorem dX9_isOwn_204 : decode cX9_isOwn 204 = .ok (.lcmp, 1) := by decide +kernel
theorem dX9_isOwn_205 : decode cX9_isOwn 205 = .ok (.ifCond .ne 5, 3) := by decide +kernel
theorem dX9_isOwn_208 : decode cX9_isOwn 208 = .ok (.iconst 1, 1) := by decide +kernel
theorem dX9_isOwn_209 : decode cX9_isOwn 209 = .ok (.ireturn, 1) := by decide +kernel
theorem dX9_isOwn_210 : decode cX9_isOwn 210 = .ok (.lload_n 1, 1) := by decide +kernel
theorem dX9_isOwn_211 : decode cX9_isOwn 211 = .ok (.ldc2_w 336, 3) := by decide +kernel
theorem dX9_isOwn_214 : decode cX9_isOwn 214 = .ok (.lcmp, 1) := by decide +kernel
theorem dX9_isOwn_215 : decode cX9_isOwn 215 = .ok (.ifCond .eq 11, 3) := by decide +kernel
theorem dX9_isOwn_218 : decode cX9_isOwn 218 = .ok (.lload_n 1, 1) := by decide +kernel
theorem dX9_isOwn_219 : decode cX9_isOwn 219 = .ok (.ldc2_w 338, 3) := by decide +kernel
theorem dX9_isOwn_222 : decode cX9_isOwn 222 = .ok (.lcmp, 1) := by decide +kernel
theorem dX9_isOwn_223 : decode cX9_isOwn 223 = .ok (.ifCond .ne 5, 3) := by decide +kernel
theorem dX9_isOwn_226 : decode cX9_isOwn 226 = .ok (.iconst 1, 1) := by decide +kernel
theorem dX9_isOwn_227 : decode cX9_isOwn 227 = .ok (.ireturn, 1) := by decide +kernel
theorem dX9_isOwn_228 : decode cX9_isOwn 228 = .ok (.iconst 0, 1) := by decide +kernel
theorem dX9_isOwn_229 : decode cX9_isOwn 229 = .ok (.ireturn, 1) := by decide +kernel
theorem dX9_isSign_0 : decode cX9_isSign 0 = .ok (.aload_n 0, 1) := by decide +kernel
theorem dX9_isSign_1 : decode cX9_isSign 1 = .ok (.getfield 20, 3) := by decide +kernel
theorem dX9_isSign_4 : decode cX9_isSign 4 = .ok (.iconst 3, 1) := by decide +kernel
theorem dX9_isSign_5 : decode cX9_isSign 5 = .ok (.if_icmp .ne 15, 3) := by decide +kernel
theorem dX9_isSign_8 : decode cX9_isSign 8 = .ok (.aload_n 0, 1) := by decide +kernel
theorem dX9_isSign_9 : decode cX9_isSign 9 = .ok (.getfield 29, 3) := by decide +kernel
theorem dX9_isSign_12 : decode cX9_isSign 12 = .ok (.iload_n 1, 1) := by decide +kernel
theorem dX9_isSign_13 : decode cX9_isSign 13 = .ok (.if_icmp .ne 7, 3) := by decide +kernel
theorem dX9_isSign_16 : decode cX9_isSign 16 = .ok (.iconst 1, 1) := by decide +kernel
theorem dX9_isSign_17 : decode cX9_isSign 17 = .ok (.goto 4, 3) := by decide +kernel
theorem dX9_isSign_20 : decode cX9_isSign 20 = .ok (.iconst 0, 1) := by decide +kernel
theorem dX9_isSign_21 : decode cX9_isSign 21 = .ok (.ireturn, 1) := by decide +kernel
theorem dX9_isTest_0 : decode cX9_isTest 0 = .ok (.iload_n 0, 1) := by decide +kernel
theorem dX9_isTest_1 : decode cX9_isTest 1 = .ok (.iconst 1, 1) := by decide +kernel
theorem dX9_isTest_2 : decode cX9_isTest 2 = .ok (.if_icmp .eq 8, 3) := by decide +kernel
theorem dX9_isTest_5 : decode cX9_isTest 5 = .ok (.iload_n 0, 1) := by decide +kernel
theorem dX9_isTest_6 : decode cX9_isTest 6 = .ok (.iconst 5, 1) := by decide +kernel
theorem dX9_isTest_7 : decode cX9_isTest 7 = .ok (.if_icmp .ne 7, 3) := by decide +kernel
theorem dX9_isTest_10 : decode cX9_isTest 10 = .ok (.iconst 1, 1) := by decide +kernel
theorem dX9_isTest_11 : decode cX9_isTest 11 = .ok (.goto 4, 3) := by decide +kernel
theorem dX9_isTest_14 : decode cX9_isTest 14 = .ok (.iconst 0, 1) := by decide +kernel
theorem dX9_isTest_15 : decode cX9_isTest 15 = .ok (.ireturn, 1) := by decide +kernel
theorem dX9_isThere_0 : decode cX9_isThere 0 = .ok (.iconst 0, 1) := by decide +kernel
theorem dX9_isThere_1 : decode cX9_isThere 1 = .ok (.istore_n 3, 1) := by decide +kernel
theorem dX9_isThere_2 : decode cX9_isThere 2 = .ok (.iload_n 3, 1) := by decide +kernel
theorem dX9_isThere_3 : decode cX9_isThere 3 = .ok (.aload_n 0, 1) := by decide +kernel
theorem dX9_isThere_4 : decode cX9_isThere 4 = .ok (.getfield 51, 3) := by decide +kernel
theorem dX9_isThere_7 : decode cX9_isThere 7 = .ok (.aload_n 0, 1) := by decide +kernel
theorem dX9_isThere_8 : decode cX9_isThere 8 = .ok (.getfield 118, 3) := by decide +kernel
theorem dX9_isThere_11 : decode cX9_isThere 11 = .ok (.iaload, 1) := by decide +kernel
theorem dX9_isThere_12 : decode cX9_isThere 12 = .ok (.if_icmp .ge 30, 3) := by decide +kernel
theorem dX9_isThere_15 : decode cX9_isThere 15 = .ok (.aload_n 0, 1) := by decide +kernel
theorem dX9_isThere_16 : decode cX9_isThere 16 = .ok (.getfield 54, 3) := by decide +kernel
theorem dX9_isThere_19 : decode cX9_isThere 19 = .ok (.bipush 12, 2) := by decide +kernel
theorem dX9_isThere_21 : decode cX9_isThere 21 = .ok (.aload_n 0, 1) := by decide +kernel
theorem dX9_isThere_22 : decode cX9_isThere 22 = .ok (.getfield 118, 3) := by decide +kernel
theorem dX9_isThere_25 : decode cX9_isThere 25 = .ok (.imul, 1) := by decide +kernel
theorem dX9_isThere_26 : decode cX9_isThere 26 = .ok (.iload_n 3, 1) := by decide +kernel
theorem dX9_isThere_27 : decode cX9_isThere 27 = .ok (.iadd, 1) := by decide +kernel
theorem dX9_isThere_28 : decode cX9_isThere 28 = .ok (.laload, 1) := by decide +kernel
theorem dX9_isThere_29 : decode cX9_isThere 29 = .ok (.lload_n 1, 1) := by decide +kernel
theorem dX9_isThere_30 : decode cX9_isThere 30 = .ok (.lcmp, 1) := by decide +kernel
theorem dX9_isThere_31 : decode cX9_isThere 31 = .ok (.ifCond .ne 5, 3) := by decide +kernel
theorem dX9_isThere_34 : decode cX9_isThere 34 = .ok (.iconst 1, 1) := by decide +kernel
theorem dX9_isThere_35 : decode cX9_isThere 35 = .ok (.ireturn, 1) := by decide +kernel
theorem dX9_isThere_36 : decode cX9_isThere 36 = .ok (.iinc 3 1, 3) := by decide +kernel
theorem dX9_isThere_39 : decode cX9_isThere 39 = .ok (.goto (-37), 3) := by decide +kernel
theorem dX9_isThere_42 : decode cX9_isThere 42 = .ok (.iconst 0, 1) := by decide +kernel
theorem dX9_isThere_43 : decode cX9_isThere 43 = .ok (.istore_n 3, 1) := by decide +kernel
theorem dX9_isThere_44 : decode cX9_isThere 44 = .ok (.iload_n 3, 1) := by decide +kernel
theorem dX9_isThere_45 : decode cX9_isThere 45 = .ok (.aload_n 0, 1) := by decide +kernel
theorem dX9_isThere_46 : decode cX9_isThere 46 = .ok (.getfield 76, 3) := by decide +kernel
theorem dX9_isThere_49 : decode cX9_isThere 49 = .ok (.aload_n 0, 1) := by decide +kernel
theorem dX9_isThere_50 : decode cX9_isThere 50 = .ok (.getfield 118, 3) := by decide +kernel
theorem dX9_isThere_53 : decode cX9_isThere 53 = .ok (.iaload, 1) := by decide +kernel
theorem dX9_isThere_54 : decode cX9_isThere 54 = .ok (.if_icmp .ge 30, 3) := by decide +kernel
theorem dX9_isThere_57 : decode cX9_isThere 57 = .ok (.aload_n 0, 1) := by decide +kernel
theorem dX9_isThere_58 : decode cX9_isThere 58 = .ok (.getfield 79, 3) := by decide +kernel
theorem dX9_isThere_61 : decode cX9_isThere 61 = .ok (.bipush 6, 2) := by decide +kernel
theorem dX9_isThere_63 : decode cX9_isThere 63 = .ok (.aload_n 0, 1) := by decide +kernel
theorem dX9_isThere_64 : decode cX9_isThere 64 = .ok (.getfield 118, 3) := by decide +kernel
theorem dX9_isThere_67 : decode cX9_isThere 67 = .ok (.imul, 1) := by decide +kernel
theorem dX9_isThere_68 : decode cX9_isThere 68 = .ok (.iload_n 3, 1) := by decide +kernel
theorem dX9_isThere_69 : decode cX9_isThere 69 = .ok (.iadd, 1) := by decide +kernel
theorem dX9_isThere_70 : decode cX9_isThere 70 = .ok (.laload, 1) := by decide +kernel
theorem dX9_isThere_71 : decode cX9_isThere 71 = .ok (.lload_n 1, 1) := by decide +kernel
theorem dX9_isThere_72 : decode cX9_isThere 72 = .ok (.lcmp, 1) := by decide +kernel
theorem dX9_isThere_73 : decode cX9_isThere 73 = .ok (.ifCond .ne 5, 3) := by decide +kernel
theorem dX9_isThere_76 : decode cX9_isThere 76 = .ok (.iconst 1, 1) := by decide +kernel
theorem dX9_isThere_77 : decode cX9_isThere 77 = .ok (.ireturn, 1) := by decide +kernel
theorem dX9_isThere_78 : decode cX9_isThere 78 = .ok (.iinc 3 1, 3) := by decide +kernel
theorem dX9_isThere_81 : decode cX9_isThere 81 = .ok (.goto (-37), 3) := by decide +kernel
theorem dX9_isThere_84 : decode cX9_isThere 84 = .ok (.iconst 0, 1) := by decide +kernel
theorem dX9_isThere_85 : decode cX9_isThere 85 = .ok (.ireturn, 1) := by decide +kernel
theorem dX9_isTied_0 : decode cX9_isTied 0 = .ok (.aload_n 0, 1) := by decide +kernel
theorem dX9_isTied_1 : decode cX9_isTied 1 = .ok (.getfield 195, 3) := by decide +kernel
theorem dX9_isTied_4 : decode cX9_isTied 4 = .ok (.bipush 11, 2) := by decide +kernel
theorem dX9_isTied_6 : decode cX9_isTied 6 = .ok (.aload_n 0, 1) := by decide +kernel
theorem dX9_isTied_7 : decode cX9_isTied 7 = .ok (.getfield 228, 3) := by decide +kernel
theorem dX9_isTied_10 : decode cX9_isTied 10 = .ok (.ifCond .eq 7, 3) := by decide +kernel
theorem dX9_isTied_13 : decode cX9_isTied 13 = .ok (.iconst 0, 1) := by decide +kernel
theorem dX9_isTied_14 : decode cX9_isTied 14 = .ok (.goto 7, 3) := by decide +kernel
theorem dX9_isTied_17 : decode cX9_isTied 17 = .ok (.aload_n 0, 1) := by decide +kernel
theorem dX9_isTied_18 : decode cX9_isTied 18 = .ok (.getfield 231, 3) := by decide +kernel
theorem dX9_isTied_21 : decode cX9_isTied 21 = .ok (.imul, 1) := by decide +kernel
theorem dX9_isTied_22 : decode cX9_isTied 22 = .ok (.iload_n 1, 1) := by decide +kernel
theorem dX9_isTied_23 : decode cX9_isTied 23 = .ok (.iadd, 1) := by decide +kernel
theorem dX9_isTied_24 : decode cX9_isTied 24 = .ok (.iaload, 1) := by decide +kernel
theorem dX9_isTied_25 : decode cX9_isTied 25 = .ok (.iconst 1, 1) := by decide +kernel
theorem dX9_isTied_26 : decode cX9_isTied 26 = .ok (.if_icmp .ne 7, 3) := by decide +kernel
theorem dX9_isTied_29 : decode cX9_isTied 29 = .ok (.iconst 1, 1) := by decide +kernel
theorem dX9_isTied_30 : decode cX9_isTied 30 = .ok (.goto 4, 3) := by decide +kernel
theorem dX9_isTied_33 : decode cX9_isTied 33 = .ok (.iconst 0, 1) := by decide +kernel
theorem dX9_isTied_34 : decode cX9_isTied 34 = .ok (.ireturn, 1) := by decide +kernel
theorem dX9_isWord_0 : decode cX9_isWord 0 = .ok (.aload_n 0, 1) := by decide +kernel
theorem dX9_isWord_1 : decode cX9_isWord 1 = .ok (.getfield 20, 3) := by decide +kernel
theorem dX9_isWord_4 : decode cX9_isWord 4 = .ok (.iconst 1, 1) := by decide +kernel
theorem dX9_isWord_5 : decode cX9_isWord 5 = .ok (.if_icmp .ne 16, 3) := by decide +kernel
theorem dX9_isWord_8 : decode cX9_isWord 8 = .ok (.aload_n 0, 1) := by decide +kernel
theorem dX9_isWord_9 : decode cX9_isWord 9 = .ok (.getfield 32, 3) := by decide +kernel
theorem dX9_isWord_12 : decode cX9_isWord 12 = .ok (.lload_n 1, 1) := by decide +kernel
theorem dX9_isWord_13 : decode cX9_isWord 13 = .ok (.lcmp, 1) := by decide +kernel
theorem dX9_isWord_14 : decode cX9_isWord 14 = .ok (.ifCond .ne 7, 3) := by decide +kernel
theorem dX9_isWord_17 : decode cX9_isWord 17 = .ok (.iconst 1, 1) := by decide +kernel
theorem dX9_isWord_18 : decode cX9_isWord 18 = .ok (.goto 4, 3) := by decide +kernel
theorem dX9_isWord_21 : decode cX9_isWord 21 = .ok (.iconst 0, 1) := by decide +kernel
theorem dX9_isWord_22 : decode cX9_isWord 22 = .ok (.ireturn, 1) := by decide +kernel
theorem dX9_joins_0 : decode cX9_joins 0 = .ok (.aload_n 0, 1) := by decide +kernel
theorem dX9_joins_1 : decode cX9_joins 1 = .ok (.getfield 146, 3) := by decide +kernel
theorem dX9_joins_4 : decode cX9_joins 4 = .ok (.aload_n 0, 1) := by decide +kernel
theorem dX9_joins_5 : decode cX9_joins 5 = .ok (.getfield 134, 3) := by decide +kernel
theorem dX9_joins_8 : decode cX9_joins 8 = .ok (.aload_n 0, 1) := by decide +kernel
theorem dX9_joins_9 : decode cX9_joins 9 = .ok (.getfield 137, 3) := by decide +kernel
theorem dX9_joins_12 : decode cX9_joins 12 = .ok (.iconst 1, 1) := by decide +kernel
theorem dX9_joins_13 : decode cX9_joins 13 = .ok (.isub, 1) := by decide +kernel
theorem dX9_joins_14 : decode cX9_joins 14 = .ok (.iaload, 1) := by decide +kernel
theorem dX9_joins_15 : decode cX9_joins 15 = .ok (.if_icmp .le 48, 3) := by decide +kernel
theorem dX9_joins_18 : decode cX9_joins 18 = .ok (.aload_n 0, 1) := by decide +kernel
theorem dX9_joins_19 : decode cX9_joins 19 = .ok (.getfield 143, 3) := by decide +kernel
theorem dX9_joins_22 : decode cX9_joins 22 = .ok (.aload_n 0, 1) := by decide +kernel
theorem dX9_joins_23 : decode cX9_joins 23 = .ok (.getfield 146, 3) := by decide +kernel
theorem dX9_joins_26 : decode cX9_joins 26 = .ok (.iconst 1, 1) := by decide +kernel
theorem dX9_joins_27 : decode cX9_joins 27 = .ok (.isub, 1) := by decide +kernel
theorem dX9_joins_28 : decode cX9_joins 28 = .ok (.iaload, 1) := by decide +kernel
theorem dX9_joins_29 : decode cX9_joins 29 = .ok (.invokestatic 344, 3) := by decide +kernel
theorem dX9_joins_32 : decode cX9_joins 32 = .ok (.iload_n 1, 1) := by decide +kernel
theorem dX9_joins_33 : decode cX9_joins 33 = .ok (.if_icmp .lt 30, 3) := by decide +kernel
theorem dX9_joins_36 : decode cX9_joins 36 = .ok (.aload_n 0, 1) := by decide +kernel
theorem dX9_joins_37 : decode cX9_joins 37 = .ok (.dup, 1) := by decide +kernel
theorem dX9_joins_38 : decode cX9_joins 38 = .ok (.getfield 146, 3) := by decide +kernel
theorem dX9_joins_41 : decode cX9_joins 41 = .ok (.iconst 1, 1) := by decide +kernel
theorem dX9_joins_42 : decode cX9_joins 42 = .ok (.isub, 1) := by decide +kernel
theorem dX9_joins_43 : decode cX9_joins 43 = .ok (.putfield 146, 3) := by decide +kernel
theorem dX9_joins_46 : decode cX9_joins 46 = .ok (.aload_n 0, 1) := by decide +kernel
theorem dX9_joins_47 : decode cX9_joins 47 = .ok (.aload_n 0, 1) := by decide +kernel
theorem dX9_joins_48 : decode cX9_joins 48 = .ok (.getfield 143, 3) := by decide +kernel
theorem dX9_joins_51 : decode cX9_joins 51 = .ok (.aload_n 0, 1) := by decide +kernel
theorem dX9_joins_52 : decode cX9_joins 52 = .ok (.getfield 146, 3) := by decide +kernel
theorem dX9_joins_55 : decode cX9_joins 55 = .ok (.iaload, 1) := by decide +kernel
theorem dX9_joins_56 : decode cX9_joins 56 = .ok (.iconst 0, 1) := by decide +kernel
theorem dX9_joins_57 : decode cX9_joins 57 = .ok (.invokevirtual 347, 3) := by decide +kernel
theorem dX9_joins_60 : decode cX9_joins 60 = .ok (.goto (-60), 3) := by decide +kernel
theorem dX9_joins_63 : decode cX9_joins 63 = .ok (.return_, 1) := by decide +kernel
theorem dX9_keeps_0 : decode cX9_keeps 0 = .ok (.aload_n 0, 1) := by decide +kernel
theorem dX9_keeps_1 : decode cX9_keeps 1 = .ok (.getfield 210, 3) := by decide +kernel
theorem dX9_keeps_4 : decode cX9_keeps 4 = .ok (.bipush 20, 2) := by decide +kernel
theorem dX9_keeps_6 : decode cX9_keeps 6 = .ok (.if_icmp .ne 26, 3) := by decide +kernel
theorem dX9_keeps_9 : decode cX9_keeps 9 = .ok (.aload_n 0, 1) := by decide +kernel
theorem dX9_keeps_10 : decode cX9_keeps 10 = .ok (.aload_n 0, 1) := by decide +kernel
theorem dX9_keeps_11 : decode cX9_keeps 11 = .ok (.getfield 207, 3) := by decide +kernel
theorem dX9_keeps_14 : decode cX9_keeps 14 = .ok (.iconst 1, 1) := by decide +kernel
theorem dX9_keeps_15 : decode cX9_keeps 15 = .ok (.iadd, 1) := by decide +kernel
theorem dX9_keeps_16 : decode cX9_keeps 16 = .ok (.bipush 20, 2) := by decide +kernel
theorem dX9_keeps_18 : decode cX9_keeps 18 = .ok (.irem, 1) := by decide +kernel
theorem dX9_keeps_19 : decode cX9_keeps 19 = .ok (.putfield 207, 3) := by decide +kernel
theorem dX9_keeps_22 : decode cX9_keeps 22 = .ok (.aload_n 0, 1) := by decide +kernel
theorem dX9_keeps_23 : decode cX9_keeps 23 = .ok (.dup, 1) := by decide +kernel
theorem dX9_keeps_24 : decode cX9_keeps 24 = .ok (.getfield 210, 3) := by decide +kernel
theorem dX9_keeps_27 : decode cX9_keeps 27 = .ok (.iconst 1, 1) := by decide +kernel
theorem dX9_keeps_28 : decode cX9_keeps 28 = .ok (.isub, 1) := by decide +kernel
theorem dX9_keeps_29 : decode cX9_keeps 29 = .ok (.putfield 210, 3) := by decide +kernel
theorem dX9_keeps_32 : decode cX9_keeps 32 = .ok (.aload_n 0, 1) := by decide +kernel
theorem dX9_keeps_33 : decode cX9_keeps 33 = .ok (.aload_n 0, 1) := by decide +kernel
theorem dX9_keeps_34 : decode cX9_keeps 34 = .ok (.aload_n 0, 1) := by decide +kernel
theorem dX9_keeps_35 : decode cX9_keeps 35 = .ok (.getfield 210, 3) := by decide +kernel
theorem dX9_keeps_38 : decode cX9_keeps 38 = .ok (.invokevirtual 449, 3) := by decide +kernel
theorem dX9_keeps_41 : decode cX9_keeps 41 = .ok (.iconst 0, 1) := by decide +kernel
theorem dX9_keeps_42 : decode cX9_keeps 42 = .ok (.invokevirtual 452, 3) := by decide +kernel
theorem dX9_keeps_45 : decode cX9_keeps 45 = .ok (.aload_n 0, 1) := by decide +kernel
theorem dX9_keeps_46 : decode cX9_keeps 46 = .ok (.dup, 1) := by decide +kernel
theorem dX9_keeps_47 : decode cX9_keeps 47 = .ok (.getfield 210, 3) := by decide +kernel
theorem dX9_keeps_50 : decode cX9_keeps 50 = .ok (.iconst 1, 1) := by decide +kernel
theorem dX9_keeps_51 : decode cX9_keeps 51 = .ok (.iadd, 1) := by decide +kernel
theorem dX9_keeps_52 : decode cX9_keeps 52 = .ok (.putfield 210, 3) := by decide +kernel
theorem dX9_keeps_55 : decode cX9_keeps 55 = .ok (.return_, 1) := by decide +kernel
theorem dX9_knot_0 : decode cX9_knot 0 = .ok (.aload_n 0, 1) := by decide +kernel
theorem dX9_knot_1 : decode cX9_knot 1 = .ok (.iload_n 1, 1) := by decide +kernel
theorem dX9_knot_2 : decode cX9_knot 2 = .ok (.invokevirtual 546, 3) := by decide +kernel
theorem dX9_knot_5 : decode cX9_knot 5 = .ok (.ifCond .ne 7, 3) := by decide +kernel
theorem dX9_knot_8 : decode cX9_knot 8 = .ok (.iconst (-1), 1) := by decide +kernel
theorem dX9_knot_9 : decode cX9_knot 9 = .ok (.goto 44, 3) := by decide +kernel
theorem dX9_knot_12 : decode cX9_knot 12 = .ok (.iload_n 2, 1) := by decide +kernel
theorem dX9_knot_13 : decode cX9_knot 13 = .ok (.ifCond .ne 12, 3) := by decide +kernel
theorem dX9_knot_16 : decode cX9_knot 16 = .ok (.aload_n 0, 1) := by decide +kernel
theorem dX9_knot_17 : decode cX9_knot 17 = .ok (.getfield 195, 3) := by decide +kernel
theorem dX9_knot_20 : decode cX9_knot 20 = .ok (.iload_n 1, 1) := by decide +kernel
theorem dX9_knot_21 : decode cX9_knot 21 = .ok (.iaload, 1) := by decide +kernel
theorem dX9_knot_22 : decode cX9_knot 22 = .ok (.goto 31, 3) := by decide +kernel
theorem dX9_knot_25 : decode cX9_knot 25 = .ok (.iload_n 2, 1) := by decide +kernel
theorem dX9_knot_26 : decode cX9_knot 26 = .ok (.iconst 1, 1) := by decide +kernel
theorem dX9_knot_27 : decode cX9_knot 27 = .ok (.if_icmp .ne 12, 3) := by decide +kernel
theorem dX9_knot_30 : decode cX9_knot 30 = .ok (.aload_n 0, 1) := by decide +kernel
theorem dX9_knot_31 : decode cX9_knot 31 = .ok (.getfield 198, 3) := by decide +kernel
theorem dX9_knot_34 : decode cX9_knot 34 = .ok (.iload_n 1, 1) := by decide +kernel
theorem dX9_knot_35 : decode cX9_knot 35 = .ok (.iaload, 1) := by decide +kernel
theorem dX9_knot_36 : decode cX9_knot 36 = .ok (.goto 17, 3) := by decide +kernel
theorem dX9_knot_39 : decode cX9_knot 39 = .ok (.iload_n 2, 1) := by decide +kernel
theorem dX9_knot_40 : decode cX9_knot 40 = .ok (.iconst 2, 1) := by decide +kernel
theorem dX9_knot_41 : decode cX9_knot 41 = .ok (.if_icmp .ne 11, 3) := by decide +kernel
theorem dX9_knot_44 : decode cX9_knot 44 = .ok (.aload_n 0, 1) := by decide +kernel
theorem dX9_knot_45 : decode cX9_knot 45 = .ok (.iload_n 1, 1) := by decide +kernel
theorem dX9_knot_46 : decode cX9_knot 46 = .ok (.invokevirtual 549, 3) := by decide +kernel
theorem dX9_knot_49 : decode cX9_knot 49 = .ok (.goto 4, 3) := by decide +kernel
theorem dX9_knot_52 : decode cX9_knot 52 = .ok (.iconst (-1), 1) := by decide +kernel
theorem dX9_knot_53 : decode cX9_knot 53 = .ok (.ireturn, 1) := by decide +kernel
theorem dX9_knotsMany_0 : decode cX9_knotsMany 0 = .ok (.aload_n 0, 1) := by decide +kernel
theorem dX9_knotsMany_1 : decode cX9_knotsMany 1 = .ok (.invokevirtual 445, 3) := by decide +kernel
theorem dX9_knotsMany_4 : decode cX9_knotsMany 4 = .ok (.ifCond .le 12, 3) := by decide +kernel
theorem dX9_knotsMany_7 : decode cX9_knotsMany 7 = .ok (.aload_n 0, 1) := by decide +kernel
theorem dX9_knotsMany_8 : decode cX9_knotsMany 8 = .ok (.invokevirtual 445, 3) := by decide +kernel
theorem dX9_knotsMany_11 : decode cX9_knotsMany 11 = .ok (.iconst 1, 1) := by decide +kernel
theorem dX9_knotsMany_12 : decode cX9_knotsMany 12 = .ok (.isub, 1) := by decide +kernel
theorem dX9_knotsMany_13 : decode cX9_knotsMany 13 = .ok (.goto 4, 3) := by decide +kernel
theorem dX9_knotsMany_16 : decode cX9_knotsMany 16 = .ok (.iconst 0, 1) := by decide +kernel
theorem dX9_knotsMany_17 : decode cX9_knotsMany 17 = .ok (.ireturn, 1) := by decide +kernel
theorem dX9_law_0 : decode cX9_law 0 = .ok (.aload_n 0, 1) := by decide +kernel
theorem dX9_law_1 : decode cX9_law 1 = .ok (.iload_n 1, 1) := by decide +kernel
theorem dX9_law_2 : decode cX9_law 2 = .ok (.invokevirtual 543, 3) := by decide +kernel
theorem dX9_law_5 : decode cX9_law 5 = .ok (.ifCond .eq 14, 3) := by decide +kernel
theorem dX9_law_8 : decode cX9_law 8 = .ok (.iload_n 2, 1) := by decide +kernel
theorem dX9_law_9 : decode cX9_law 9 = .ok (.iconst 1, 1) := by decide +kernel
theorem dX9_law_10 : decode cX9_law 10 = .ok (.sipush 9999, 3) := by decide +kernel
theorem dX9_law_13 : decode cX9_law 13 = .ok (.invokestatic 340, 3) := by decide +kernel
theorem dX9_law_16 : decode cX9_law 16 = .ok (.ifCond .ne 5, 3) := by decide +kernel
theorem dX9_law_19 : decode cX9_law 19 = .ok (.iconst (-1), 1) := by decide +kernel
theorem dX9_law_20 : decode cX9_law 20 = .ok (.ireturn, 1) := by decide +kernel
theorem dX9_law_21 : decode cX9_law 21 = .ok (.aload_n 0, 1) := by decide +kernel
theorem dX9_law_22 : decode cX9_law 22 = .ok (.iconst 0, 1) := by decide +kernel
theorem dX9_law_23 : decode cX9_law 23 = .ok (.invokevirtual 502, 3) := by decide +kernel
theorem dX9_law_26 : decode cX9_law 26 = .ok (.iload_n 3, 1) := by decide +kernel
theorem dX9_law_27 : decode cX9_law 27 = .ok (.ifCond .eq 12, 3) := by decide +kernel
theorem dX9_law_30 : decode cX9_law 30 = .ok (.aload_n 0, 1) := by decide +kernel
theorem dX9_law_31 : decode cX9_law 31 = .ok (.iload_n 1, 1) := by decide +kernel
theorem dX9_law_32 : decode cX9_law 32 = .ok (.iload_n 2, 1) := by decide +kernel
theorem dX9_law_33 : decode cX9_law 33 = .ok (.invokevirtual 481, 3) := by decide +kernel
theorem dX9_law_36 : decode cX9_law 36 = .ok (.goto 9, 3) := by decide +kernel
theorem dX9_law_39 : decode cX9_law 39 = .ok (.aload_n 0, 1) := by decide +kernel
theorem dX9_law_40 : decode cX9_law 40 = .ok (.iload_n 1, 1) := by decide +kernel
theorem dX9_law_41 : decode cX9_law 41 = .ok (.iload_n 2, 1) := by decide +kernel
theorem dX9_law_42 : decode cX9_law 42 = .ok (.invokevirtual 478, 3) := by decide +kernel
theorem dX9_law_45 : decode cX9_law 45 = .ok (.ireturn, 1) := by decide +kernel
theorem dX9_lawOf_0 : decode cX9_lawOf 0 = .ok (.bipush 8, 2) := by decide +kernel
theorem dX9_lawOf_2 : decode cX9_lawOf 2 = .ok (.aload_n 0, 1) := by decide +kernel
theorem dX9_lawOf_3 : decode cX9_lawOf 3 = .ok (.getfield 48, 3) := by decide +kernel
theorem dX9_lawOf_6 : decode cX9_lawOf 6 = .ok (.imul, 1) := by decide +kernel
theorem dX9_lawOf_7 : decode cX9_lawOf 7 = .ok (.istore 4, 2) := by decide +kernel
theorem dX9_lawOf_9 : decode cX9_lawOf 9 = .ok (.iload 4, 2) := by decide +kernel
theorem dX9_lawOf_11 : decode cX9_lawOf 11 = .ok (.bipush 8, 2) := by decide +kernel
theorem dX9_lawOf_13 : decode cX9_lawOf 13 = .ok (.aload_n 0, 1) := by decide +kernel
theorem dX9_lawOf_14 : decode cX9_lawOf 14 = .ok (.getfield 48, 3) := by decide +kernel
theorem dX9_lawOf_17 : decode cX9_lawOf 17 = .ok (.imul, 1) := by decide +kernel
theorem dX9_lawOf_18 : decode cX9_lawOf 18 = .ok (.aload_n 0, 1) := by decide +kernel
theorem dX9_lawOf_19 : decode cX9_lawOf 19 = .ok (.getfield 94, 3) := by decide +kernel
theorem dX9_lawOf_22 : decode cX9_lawOf 22 = .ok (.aload_n 0, 1) := by decide +kernel
theorem dX9_lawOf_23 : decode cX9_lawOf 23 = .ok (.getfield 48, 3) := by decide +kernel
theorem dX9_lawOf_26 : decode cX9_lawOf 26 = .ok (.iaload, 1) := by decide +kernel
theorem dX9_lawOf_27 : decode cX9_lawOf 27 = .ok (.iadd, 1) := by decide +kernel
theorem dX9_lawOf_28 : decode cX9_lawOf 28 = .ok (.if_icmp .ge 93, 3) := by decide +kernel
theorem dX9_lawOf_31 : decode cX9_lawOf 31 = .ok (.aload_n 0, 1) := by decide +kernel
theorem dX9_lawOf_32 : decode cX9_lawOf 32 = .ok (.getfield 97, 3) := by decide +kernel
theorem dX9_lawOf_35 : decode cX9_lawOf 35 = .ok (.iload 4, 2) := by decide +kernel
theorem dX9_lawOf_37 : decode cX9_lawOf 37 = .ok (.iaload, 1) := by decide +kernel
theorem dX9_lawOf_38 : decode cX9_lawOf 38 = .ok (.iload_n 1, 1) := by decide +kernel
theorem dX9_lawOf_39 : decode cX9_lawOf 39 = .ok (.if_icmp .ne 76, 3) := by decide +kernel
theorem dX9_lawOf_42 : decode cX9_lawOf 42 = .ok (.aload_n 0, 1) := by decide +kernel
theorem dX9_lawOf_43 : decode cX9_lawOf 43 = .ok (.aload_n 0, 1) := by decide +kernel
theorem dX9_lawOf_44 : decode cX9_lawOf 44 = .ok (.getfield 103, 3) := by decide +kernel
theorem dX9_lawOf_47 : decode cX9_lawOf 47 = .ok (.iload 4, 2) := by decide +kernel
theorem dX9_lawOf_49 : decode cX9_lawOf 49 = .ok (.iaload, 1) := by decide +kernel
theorem dX9_lawOf_50 : decode cX9_lawOf 50 = .ok (.aload_n 0, 1) := by decide +kernel
theorem dX9_lawOf_51 : decode cX9_lawOf 51 = .ok (.getfield 106, 3) := by decide +kernel
theorem dX9_lawOf_54 : decode cX9_lawOf 54 = .ok (.iload 4, 2) := by decide +kernel
theorem dX9_lawOf_56 : decode cX9_lawOf 56 = .ok (.iaload, 1) := by decide +kernel
theorem dX9_lawOf_57 : decode cX9_lawOf 57 = .ok (.invokevirtual 464, 3) := by decide +kernel
theorem dX9_lawOf_60 : decode cX9_lawOf 60 = .ok (.lconst 0, 1) := by decide +kernel
theorem dX9_lawOf_61 : decode cX9_lawOf 61 = .ok (.lcmp, 1) := by decide +kernel
theorem dX9_lawOf_62 : decode cX9_lawOf 62 = .ok (.ifCond .ne 6, 3) := by decide +kernel
theorem dX9_lawOf_65 : decode cX9_lawOf 65 = .ok (.goto 50, 3) := by decide +kernel
theorem dX9_lawOf_68 : decode cX9_lawOf 68 = .ok (.aload_n 0, 1) := by decide +kernel
theorem dX9_lawOf_69 : decode cX9_lawOf 69 = .ok (.aload_n 0, 1) := by decide +kernel
theorem dX9_lawOf_70 : decode cX9_lawOf 70 = .ok (.getfield 100, 3) := by decide +kernel
theorem dX9_lawOf_73 : decode cX9_lawOf 73 = .ok (.iload 4, 2) := by decide +kernel
theorem dX9_lawOf_75 : decode cX9_lawOf 75 = .ok (.iaload, 1) := by decide +kernel
theorem dX9_lawOf_76 : decode cX9_lawOf 76 = .ok (.aload_n 0, 1) := by decide +kernel
theorem dX9_lawOf_77 : decode cX9_lawOf 77 = .ok (.getfield 103, 3) := by decide +kernel
theorem dX9_lawOf_80 : decode cX9_lawOf 80 = .ok (.iload 4, 2) := by decide +kernel
theorem dX9_lawOf_82 : decode cX9_lawOf 82 = .ok (.iaload, 1) := by decide +kernel
theorem dX9_lawOf_83 : decode cX9_lawOf 83 = .ok (.invokevirtual 464, 3) := by decide +kernel
theorem dX9_lawOf_86 : decode cX9_lawOf 86 = .ok (.lstore 5, 2) := by decide +kernel
theorem dX9_lawOf_88 : decode cX9_lawOf 88 = .ok (.lload 5, 2) := by decide +kernel
theorem dX9_lawOf_90 : decode cX9_lawOf 90 = .ok (.lconst 0, 1) := by decide +kernel
theorem dX9_lawOf_91 : decode cX9_lawOf 91 = .ok (.lcmp, 1) := by decide +kernel
theorem dX9_lawOf_92 : decode cX9_lawOf 92 = .ok (.ifCond .ge 7, 3) := by decide +kernel
theorem dX9_lawOf_95 : decode cX9_lawOf 95 = .ok (.iconst 0, 1) := by decide +kernel
theorem dX9_lawOf_96 : decode cX9_lawOf 96 = .ok (.goto 18, 3) := by decide +kernel
theorem dX9_lawOf_99 : decode cX9_lawOf 99 = .ok (.lload 5, 2) := by decide +kernel
theorem dX9_lawOf_101 : decode cX9_lawOf 101 = .ok (.iload_n 2, 1) := by decide +kernel
theorem dX9_lawOf_102 : decode cX9_lawOf 102 = .ok (.i2l, 1) := by decide +kernel
theorem dX9_lawOf_103 : decode cX9_lawOf 103 = .ok (.lcmp, 1) := by decide +kernel
theorem dX9_lawOf_104 : decode cX9_lawOf 104 = .ok (.ifCond .le 7, 3) := by decide +kernel
theorem dX9_lawOf_107 : decode cX9_lawOf 107 = .ok (.iload_n 2, 1) := by decide +kernel
theorem dX9_lawOf_108 : decode cX9_lawOf 108 = .ok (.goto 6, 3) := by decide +kernel
theorem dX9_lawOf_111 : decode cX9_lawOf 111 = .ok (.lload 5, 2) := by decide +kernel
theorem dX9_lawOf_113 : decode cX9_lawOf 113 = .ok (.l2i, 1) := by decide +kernel
theorem dX9_lawOf_114 : decode cX9_lawOf 114 = .ok (.ireturn, 1) := by decide +kernel
theorem dX9_lawOf_115 : decode cX9_lawOf 115 = .ok (.iinc 4 1, 3) := by decide +kernel
theorem dX9_lawOf_118 : decode cX9_lawOf 118 = .ok (.goto (-109), 3) := by decide +kernel
theorem dX9_lawOf_121 : decode cX9_lawOf 121 = .ok (.iload_n 3, 1) := by decide +kernel
theorem dX9_lawOf_122 : decode cX9_lawOf 122 = .ok (.ireturn, 1) := by decide +kernel
theorem dX9_lawing_0 : decode cX9_lawing 0 = .ok (.aload_n 0, 1) := by decide +kernel
theorem dX9_lawing_1 : decode cX9_lawing 1 = .ok (.aload_n 0, 1) := by decide +kernel
theorem dX9_lawing_2 : decode cX9_lawing 2 = .ok (.getfield 94, 3) := by decide +kernel
theorem dX9_lawing_5 : decode cX9_lawing 5 = .ok (.aload_n 0, 1) := by decide +kernel
theorem dX9_lawing_6 : decode cX9_lawing 6 = .ok (.getfield 118, 3) := by decide +kernel
theorem dX9_lawing_9 : decode cX9_lawing 9 = .ok (.iaload, 1) := by decide +kernel
theorem dX9_lawing_10 : decode cX9_lawing 10 = .ok (.bipush 8, 2) := by decide +kernel
theorem dX9_lawing_12 : decode cX9_lawing 12 = .ok (.if_icmp .ne 7, 3) := by decide +kernel
theorem dX9_lawing_15 : decode cX9_lawing 15 = .ok (.iconst 1, 1) := by decide +kernel
theorem dX9_lawing_16 : decode cX9_lawing 16 = .ok (.goto 4, 3) := by decide +kernel
theorem dX9_lawing_19 : decode cX9_lawing 19 = .ok (.iconst 0, 1) := by decide +kernel
theorem dX9_lawing_20 : decode cX9_lawing 20 = .ok (.invokevirtual 381, 3) := by decide +kernel
theorem dX9_lawing_23 : decode cX9_lawing 23 = .ok (.ifCond .ne 4, 3) := by decide +kernel
theorem dX9_lawing_26 : decode cX9_lawing 26 = .ok (.return_, 1) := by decide +kernel
theorem dX9_lawing_27 : decode cX9_lawing 27 = .ok (.bipush 8, 2) := by decide +kernel
theorem dX9_lawing_29 : decode cX9_lawing 29 = .ok (.aload_n 0, 1) := by decide +kernel
theorem dX9_lawing_30 : decode cX9_lawing 30 = .ok (.getfield 118, 3) := by decide +kernel
theorem dX9_lawing_33 : decode cX9_lawing 33 = .ok (.imul, 1) := by decide +kernel
theorem dX9_lawing_34 : decode cX9_lawing 34 = .ok (.aload_n 0, 1) := by decide +kernel
theorem dX9_lawing_35 : decode cX9_lawing 35 = .ok (.getfield 94, 3) := by decide +kernel
theorem dX9_lawing_38 : decode cX9_lawing 38 = .ok (.aload_n 0, 1) := by decide +kernel
theorem dX9_lawing_39 : decode cX9_lawing 39 = .ok (.getfield 118, 3) := by decide +kernel
theorem dX9_lawing_42 : decode cX9_lawing 42 = .ok (.iaload, 1) := by decide +kernel
theorem dX9_lawing_43 : decode cX9_lawing 43 = .ok (.iadd, 1) := by decide +kernel
theorem dX9_lawing_44 : decode cX9_lawing 44 = .ok (.istore_n 2, 1) := by decide +kernel
theorem dX9_lawing_45 : decode cX9_lawing 45 = .ok (.aload_n 0, 1) := by decide +kernel
theorem dX9_lawing_46 : decode cX9_lawing 46 = .ok (.getfield 97, 3) := by decide +kernel
theorem dX9_lawing_49 : decode cX9_lawing 49 = .ok (.iload_n 2, 1) := by decide +kernel
theorem dX9_lawing_50 : decode cX9_lawing 50 = .ok (.iload_n 1, 1) := by decide +kernel
theorem dX9_lawing_51 : decode cX9_lawing 51 = .ok (.iastore, 1) := by decide +kernel
theorem dX9_lawing_52 : decode cX9_lawing 52 = .ok (.aload_n 0, 1) := by decide +kernel
theorem dX9_lawing_53 : decode cX9_lawing 53 = .ok (.getfield 100, 3) := by decide +kernel
theorem dX9_lawing_56 : decode cX9_lawing 56 = .ok (.iload_n 2, 1) := by decide +kernel
theorem dX9_lawing_57 : decode cX9_lawing 57 = .ok (.aload_n 0, 1) := by decide +kernel
theorem dX9_lawing_58 : decode cX9_lawing 58 = .ok (.getfield 115, 3) := by decide +kernel
theorem dX9_lawing_61 : decode cX9_lawing 61 = .ok (.iastore, 1) := by decide +kernel
theorem dX9_lawing_62 : decode cX9_lawing 62 = .ok (.aload_n 0, 1) := by decide +kernel
theorem dX9_lawing_63 : decode cX9_lawing 63 = .ok (.iconst 0, 1) := by decide +kernel
theorem dX9_lawing_64 : decode cX9_lawing 64 = .ok (.invokevirtual 400, 3) := by decide +kernel
theorem dX9_lawing_67 : decode cX9_lawing 67 = .ok (.aload_n 0, 1) := by decide +kernel
theorem dX9_lawing_68 : decode cX9_lawing 68 = .ok (.getfield 103, 3) := by decide +kernel
theorem dX9_lawing_71 : decode cX9_lawing 71 = .ok (.iload_n 2, 1) := by decide +kernel
theorem dX9_lawing_72 : decode cX9_lawing 72 = .ok (.aload_n 0, 1) := by decide +kernel
theorem dX9_lawing_73 : decode cX9_lawing 73 = .ok (.getfield 115, 3) := by decide +kernel
theorem dX9_lawing_76 : decode cX9_lawing 76 = .ok (.iastore, 1) := by decide +kernel
theorem dX9_lawing_77 : decode cX9_lawing 77 = .ok (.aload_n 0, 1) := by decide +kernel
theorem dX9_lawing_78 : decode cX9_lawing 78 = .ok (.ldc2_w 316, 3) := by decide +kernel
theorem dX9_lawing_81 : decode cX9_lawing 81 = .ok (.invokevirtual 389, 3) := by decide +kernel
theorem dX9_lawing_84 : decode cX9_lawing 84 = .ok (.aload_n 0, 1) := by decide +kernel
theorem dX9_lawing_85 : decode cX9_lawing 85 = .ok (.iconst 1, 1) := by decide +kernel
theorem dX9_lawing_86 : decode cX9_lawing 86 = .ok (.invokevirtual 400, 3) := by decide +kernel
theorem dX9_lawing_89 : decode cX9_lawing 89 = .ok (.aload_n 0, 1) := by decide +kernel
theorem dX9_lawing_90 : decode cX9_lawing 90 = .ok (.getfield 106, 3) := by decide +kernel
theorem dX9_lawing_93 : decode cX9_lawing 93 = .ok (.iload_n 2, 1) := by decide +kernel
theorem dX9_lawing_94 : decode cX9_lawing 94 = .ok (.aload_n 0, 1) := by decide +kernel
theorem dX9_lawing_95 : decode cX9_lawing 95 = .ok (.getfield 115, 3) := by decide +kernel
theorem dX9_lawing_98 : decode cX9_lawing 98 = .ok (.iastore, 1) := by decide +kernel
theorem dX9_lawing_99 : decode cX9_lawing 99 = .ok (.aload_n 0, 1) := by decide +kernel
theorem dX9_lawing_100 : decode cX9_lawing 100 = .ok (.getfield 36, 3) := by decide +kernel
theorem dX9_lawing_103 : decode cX9_lawing 103 = .ok (.ifCond .ne 16, 3) := by decide +kernel
theorem dX9_lawing_106 : decode cX9_lawing 106 = .ok (.aload_n 0, 1) := by decide +kernel
theorem dX9_lawing_107 : decode cX9_lawing 107 = .ok (.getfield 94, 3) := by decide +kernel
theorem dX9_lawing_110 : decode cX9_lawing 110 = .ok (.aload_n 0, 1) := by decide +kernel
theorem dX9_lawing_111 : decode cX9_lawing 111 = .ok (.getfield 118, 3) := by decide +kernel
theorem dX9_lawing_114 : decode cX9_lawing 114 = .ok (.dup2, 1) := by decide +kernel
theorem dX9_lawing_115 : decode cX9_lawing 115 = .ok (.iaload, 1) := by decide +kernel
theorem dX9_lawing_116 : decode cX9_lawing 116 = .ok (.iconst 1, 1) := by decide +kernel
theorem dX9_lawing_117 : decode cX9_lawing 117 = .ok (.iadd, 1) := by decide +kernel
theorem dX9_lawing_118 : decode cX9_lawing 118 = .ok (.iastore, 1) := by decide +kernel
theorem dX9_lawing_119 : decode cX9_lawing 119 = .ok (.return_, 1) := by decide +kernel
theorem dX9_lay_0 : decode cX9_lay 0 = .ok (.aload_n 0, 1) := by decide +kernel
theorem dX9_lay_1 : decode cX9_lay 1 = .ok (.invokevirtual 445, 3) := by decide +kernel
theorem dX9_lay_4 : decode cX9_lay 4 = .ok (.ifCond .ne 9, 3) := by decide +kernel
theorem dX9_lay_7 : decode cX9_lay 7 = .ok (.aload_n 0, 1) := by decide +kernel
theorem dX9_lay_8 : decode cX9_lay 8 = .ok (.iconst 3, 1) := by decide +kernel
theorem dX9_lay_9 : decode cX9_lay 9 = .ok (.invokevirtual 261, 3) := by decide +kernel
theorem dX9_lay_12 : decode cX9_lay 12 = .ok (.ireturn, 1) := by decide +kernel
theorem dX9_lay_13 : decode cX9_lay 13 = .ok (.aload_n 0, 1) := by decide +kernel
theorem dX9_lay_14 : decode cX9_lay 14 = .ok (.invokevirtual 570, 3) := by decide +kernel
theorem dX9_lay_17 : decode cX9_lay 17 = .ok (.pop, 1) := by decide +kernel
theorem dX9_lay_18 : decode cX9_lay 18 = .ok (.aload_n 0, 1) := by decide +kernel
theorem dX9_lay_19 : decode cX9_lay 19 = .ok (.getfield 246, 3) := by decide +kernel
theorem dX9_lay_22 : decode cX9_lay 22 = .ok (.ifCond .ne 5, 3) := by decide +kernel
theorem dX9_lay_25 : decode cX9_lay 25 = .ok (.iconst 0, 1) := by decide +kernel
theorem dX9_lay_26 : decode cX9_lay 26 = .ok (.ireturn, 1) := by decide +kernel
theorem dX9_lay_27 : decode cX9_lay 27 = .ok (.aload_n 0, 1) := by decide +kernel
theorem dX9_lay_28 : decode cX9_lay 28 = .ok (.invokevirtual 555, 3) := by decide +kernel
theorem dX9_lay_31 : decode cX9_lay 31 = .ok (.iconst 0, 1) := by decide +kernel
theorem dX9_lay_32 : decode cX9_lay 32 = .ok (.istore_n 1, 1) := by decide +kernel
theorem dX9_lay_33 : decode cX9_lay 33 = .ok (.iload_n 1, 1) := by decide +kernel
theorem dX9_lay_34 : decode cX9_lay 34 = .ok (.aload_n 0, 1) := by decide +kernel
theorem dX9_lay_35 : decode cX9_lay 35 = .ok (.getfield 225, 3) := by decide +kernel
theorem dX9_lay_38 : decode cX9_lay 38 = .ok (.if_icmp .ge 21, 3) := by decide +kernel
theorem dX9_lay_41 : decode cX9_lay 41 = .ok (.aload_n 0, 1) := by decide +kernel
theorem dX9_lay_42 : decode cX9_lay 42 = .ok (.getfield 165, 3) := by decide +kernel
theorem dX9_lay_45 : decode cX9_lay 45 = .ok (.iload_n 1, 1) := by decide +kernel
theorem dX9_lay_46 : decode cX9_lay 46 = .ok (.aload_n 0, 1) := by decide +kernel
theorem dX9_lay_47 : decode cX9_lay 47 = .ok (.getfield 222, 3) := by decide +kernel
theorem dX9_lay_50 : decode cX9_lay 50 = .ok (.iload_n 1, 1) := by decide +kernel
theorem dX9_lay_51 : decode cX9_lay 51 = .ok (.iaload, 1) := by decide +kernel
theorem dX9_lay_52 : decode cX9_lay 52 = .ok (.iastore, 1) := by decide +kernel
theorem dX9_lay_53 : decode cX9_lay 53 = .ok (.iinc 1 1, 3) := by decide +kernel
theorem dX9_lay_56 : decode cX9_lay 56 = .ok (.goto (-23), 3) := by decide +kernel
theorem dX9_lay_59 : decode cX9_lay 59 = .ok (.aload_n 0, 1) := by decide +kernel
theorem dX9_lay_60 : decode cX9_lay 60 = .ok (.getfield 246, 3) := by decide +kernel
theorem dX9_lay_63 : decode cX9_lay 63 = .ok (.ireturn, 1) := by decide +kernel
theorem dX9_least_0 : decode cX9_least 0 = .ok (.aload_n 0, 1) := by decide +kernel
theorem dX9_least_1 : decode cX9_least 1 = .ok (.iload_n 1, 1) := by decide +kernel
theorem dX9_least_2 : decode cX9_least 2 = .ok (.invokevirtual 543, 3) := by decide +kernel
theorem dX9_least_5 : decode cX9_least 5 = .ok (.ifCond .eq 16, 3) := by decide +kernel
theorem dX9_least_8 : decode cX9_least 8 = .ok (.aload_n 0, 1) := by decide +kernel
theorem dX9_least_9 : decode cX9_least 9 = .ok (.iload_n 2, 1) := by decide +kernel
theorem dX9_least_10 : decode cX9_least 10 = .ok (.invokevirtual 543, 3) := by decide +kernel
theorem dX9_least_13 : decode cX9_least 13 = .ok (.ifCond .eq 8, 3) := by decide +kernel
theorem dX9_least_16 : decode cX9_least 16 = .ok (.iload_n 1, 1) := by decide +kernel
theorem dX9_least_17 : decode cX9_least 17 = .ok (.iload_n 2, 1) := by decide +kernel
theorem dX9_least_18 : decode cX9_least 18 = .ok (.if_icmp .ne 5, 3) := by decide +kernel
theorem dX9_least_21 : decode cX9_least 21 = .ok (.iconst (-1), 1) := by decide +kernel
theorem dX9_least_22 : decode cX9_least 22 = .ok (.ireturn, 1) := by decide +kernel
theorem dX9_least_23 : decode cX9_least 23 = .ok (.aload_n 0, 1) := by decide +kernel
theorem dX9_least_24 : decode cX9_least 24 = .ok (.iconst 0, 1) := by decide +kernel
theorem dX9_least_25 : decode cX9_least 25 = .ok (.invokevirtual 502, 3) := by decide +kernel
theorem dX9_least_28 : decode cX9_least 28 = .ok (.iconst 1, 1) := by decide +kernel
theorem dX9_least_29 : decode cX9_least 29 = .ok (.istore_n 3, 1) := by decide +kernel
theorem dX9_least_30 : decode cX9_least 30 = .ok (.iload_n 3, 1) := by decide +kernel
theorem dX9_least_31 : decode cX9_least 31 = .ok (.sipush 9999, 3) := by decide +kernel
theorem dX9_least_34 : decode cX9_least 34 = .ok (.if_icmp .gt 29, 3) := by decide +kernel
theorem dX9_least_37 : decode cX9_least 37 = .ok (.aload_n 0, 1) := by decide +kernel
theorem dX9_least_38 : decode cX9_least 38 = .ok (.iload_n 1, 1) := by decide +kernel
theorem dX9_least_39 : decode cX9_least 39 = .ok (.iload_n 3, 1) := by decide +kernel
theorem dX9_least_40 : decode cX9_least 40 = .ok (.invokevirtual 508, 3) := by decide +kernel
theorem dX9_least_43 : decode cX9_least 43 = .ok (.aload_n 0, 1) := by decide +kernel
theorem dX9_least_44 : decode cX9_least 44 = .ok (.getfield 237, 3) := by decide +kernel
theorem dX9_least_47 : decode cX9_least 47 = .ok (.iload_n 2, 1) := by decide +kernel
theorem dX9_least_48 : decode cX9_least 48 = .ok (.ishr, 1) := by decide +kernel
theorem dX9_least_49 : decode cX9_least 49 = .ok (.iconst 1, 1) := by decide +kernel
theorem dX9_least_50 : decode cX9_least 50 = .ok (.iand, 1) := by decide +kernel
theorem dX9_least_51 : decode cX9_least 51 = .ok (.iconst 1, 1) := by decide +kernel
theorem dX9_least_52 : decode cX9_least 52 = .ok (.if_icmp .ne 5, 3) := by decide +kernel
theorem dX9_least_55 : decode cX9_least 55 = .ok (.iload_n 3, 1) := by decide +kernel
theorem dX9_least_56 : decode cX9_least 56 = .ok (.ireturn, 1) := by decide +kernel
theorem dX9_least_57 : decode cX9_least 57 = .ok (.iinc 3 1, 3) := by decide +kernel
theorem dX9_least_60 : decode cX9_least 60 = .ok (.goto (-30), 3) := by decide +kernel
theorem dX9_least_63 : decode cX9_least 63 = .ok (.iconst (-1), 1) := by decide +kernel
theorem dX9_least_64 : decode cX9_least 64 = .ok (.ireturn, 1) := by decide +kernel
theorem dX9_letter_0 : decode cX9_letter 0 = .ok (.iload_n 1, 1) := by decide +kernel
theorem dX9_letter_1 : decode cX9_letter 1 = .ok (.iconst 0, 1) := by decide +kernel
theorem dX9_letter_2 : decode cX9_letter 2 = .ok (.iconst 1, 1) := by decide +kernel
theorem dX9_letter_3 : decode cX9_letter 3 = .ok (.invokestatic 340, 3) := by decide +kernel
theorem dX9_letter_6 : decode cX9_letter 6 = .ok (.ifCond .eq 42, 3) := by decide +kernel
theorem dX9_letter_9 : decode cX9_letter 9 = .ok (.iload_n 2, 1) := by decide +kernel
theorem dX9_letter_10 : decode cX9_letter 10 = .ok (.iconst 0, 1) := by decide +kernel
theorem dX9_letter_11 : decode cX9_letter 11 = .ok (.iload_n 1, 1) := by decide +kernel
theorem dX9_letter_12 : decode cX9_letter 12 = .ok (.ifCond .ne 10, 3) := by decide +kernel
theorem dX9_letter_15 : decode cX9_letter 15 = .ok (.aload_n 0, 1) := by decide +kernel
theorem dX9_letter_16 : decode cX9_letter 16 = .ok (.invokevirtual 445, 3) := by decide +kernel
theorem dX9_letter_19 : decode cX9_letter 19 = .ok (.goto 12, 3) := by decide +kernel
theorem dX9_letter_22 : decode cX9_letter 22 = .ok (.aload_n 0, 1) := by decide +kernel
theorem dX9_letter_23 : decode cX9_letter 23 = .ok (.getfield 76, 3) := by decide +kernel
theorem dX9_letter_26 : decode cX9_letter 26 = .ok (.aload_n 0, 1) := by decide +kernel
theorem dX9_letter_27 : decode cX9_letter 27 = .ok (.getfield 48, 3) := by decide +kernel
theorem dX9_letter_30 : decode cX9_letter 30 = .ok (.iaload, 1) := by decide +kernel
theorem dX9_letter_31 : decode cX9_letter 31 = .ok (.iconst 1, 1) := by decide +kernel
theorem dX9_letter_32 : decode cX9_letter 32 = .ok (.isub, 1) := by decide +kernel
theorem dX9_letter_33 : decode cX9_letter 33 = .ok (.invokestatic 340, 3) := by decide +kernel
theorem dX9_letter_36 : decode cX9_letter 36 = .ok (.ifCond .eq 12, 3) := by decide +kernel
theorem dX9_letter_39 : decode cX9_letter 39 = .ok (.iload_n 3, 1) := by decide +kernel
theorem dX9_letter_40 : decode cX9_letter 40 = .ok (.iconst 0, 1) := by decide +kernel
theorem dX9_letter_41 : decode cX9_letter 41 = .ok (.iconst 5, 1) := by decide +kernel
theorem dX9_letter_42 : decode cX9_letter 42 = .ok (.invokestatic 340, 3) := by decide +kernel
theorem dX9_letter_45 : decode cX9_letter 45 = .ok (.ifCond .ne 5, 3) := by decide +kernel
theorem dX9_letter_48 : decode cX9_letter 48 = .ok (.iconst (-1), 1) := by decide +kernel
theorem dX9_letter_49 : decode cX9_letter 49 = .ok (.ireturn, 1) := by decide +kernel
theorem dX9_letter_50 : decode cX9_letter 50 = .ok (.iload_n 1, 1) := by decide +kernel
theorem dX9_letter_51 : decode cX9_letter 51 = .ok (.ifCond .ne 20, 3) := by decide +kernel
theorem dX9_letter_54 : decode cX9_letter 54 = .ok (.aload_n 0, 1) := by decide +kernel
theorem dX9_letter_55 : decode cX9_letter 55 = .ok (.getfield 54, 3) := by decide +kernel
theorem dX9_letter_58 : decode cX9_letter 58 = .ok (.bipush 12, 2) := by decide +kernel
theorem dX9_letter_60 : decode cX9_letter 60 = .ok (.aload_n 0, 1) := by decide +kernel
theorem dX9_letter_61 : decode cX9_letter 61 = .ok (.getfield 48, 3) := by decide +kernel
theorem dX9_letter_64 : decode cX9_letter 64 = .ok (.imul, 1) := by decide +kernel
theorem dX9_letter_65 : decode cX9_letter 65 = .ok (.iload_n 2, 1) := by decide +kernel
theorem dX9_letter_66 : decode cX9_letter 66 = .ok (.iadd, 1) := by decide +kernel
theorem dX9_letter_67 : decode cX9_letter 67 = .ok (.laload, 1) := by decide +kernel
theorem dX9_letter_68 : decode cX9_letter 68 = .ok (.goto 17, 3) := by decide +kernel
theorem dX9_letter_71 : decode cX9_letter 71 = .ok (.aload_n 0, 1) := by decide +kernel
theorem dX9_letter_72 : decode cX9_letter 72 = .ok (.getfield 79, 3) := by decide +kernel
theorem dX9_letter_75 : decode cX9_letter 75 = .ok (.bipush 6, 2) := by decide +kernel
theorem dX9_letter_77 : decode cX9_letter 77 = .ok (.aload_n 0, 1) := by decide +kernel
theorem dX9_letter_78 : decode cX9_letter 78 = .ok (.getfield 48, 3) := by decide +kernel
theorem dX9_letter_81 : decode cX9_letter 81 = .ok (.imul, 1) := by decide +kernel
theorem dX9_letter_82 : decode cX9_letter 82 = .ok (.iload_n 2, 1) := by decide +kernel
theorem dX9_letter_83 : decode cX9_letter 83 = .ok (.iadd, 1) := by decide +kernel
theorem dX9_letter_84 : decode cX9_letter 84 = .ok (.laload, 1) := by decide +kernel
theorem dX9_letter_85 : decode cX9_letter 85 = .ok (.lstore 4, 2) := by decide +kernel
theorem dX9_letter_87 : decode cX9_letter 87 = .ok (.iconst 0, 1) := by decide +kernel
theorem dX9_letter_88 : decode cX9_letter 88 = .ok (.istore 6, 2) := by decide +kernel
theorem dX9_letter_90 : decode cX9_letter 90 = .ok (.lload 4, 2) := by decide +kernel
theorem dX9_letter_92 : decode cX9_letter 92 = .ok (.lstore 7, 2) := by decide +kernel
theorem dX9_letter_94 : decode cX9_letter 94 = .ok (.lload 7, 2) := by decide +kernel
theorem dX9_letter_96 : decode cX9_letter 96 = .ok (.lconst 0, 1) := by decide +kernel
theorem dX9_letter_97 : decode cX9_letter 97 = .ok (.lcmp, 1) := by decide +kernel
theorem dX9_letter_98 : decode cX9_letter 98 = .ok (.ifCond .le 16, 3) := by decide +kernel
theorem dX9_letter_101 : decode cX9_letter 101 = .ok (.iinc 6 1, 3) := by decide +kernel
theorem dX9_letter_104 : decode cX9_letter 104 = .ok (.lload 7, 2) := by decide +kernel
theorem dX9_letter_106 : decode cX9_letter 106 = .ok (.bipush 8, 2) := by decide +kernel
theorem dX9_letter_108 : decode cX9_letter 108 = .ok (.lshr, 1) := by decide +kernel
theorem dX9_letter_109 : decode cX9_letter 109 = .ok (.lstore 7, 2) := by decide +kernel
theorem dX9_letter_111 : decode cX9_letter 111 = .ok (.goto (-17), 3) := by decide +kernel
theorem dX9_letter_114 : decode cX9_letter 114 = .ok (.iload_n 3, 1) := by decide +kernel
theorem dX9_letter_115 : decode cX9_letter 115 = .ok (.iload 6, 2) := by decide +kernel
theorem dX9_letter_117 : decode cX9_letter 117 = .ok (.if_icmp .lt 7, 3) := by decide +kernel
theorem dX9_letter_120 : decode cX9_letter 120 = .ok (.iconst 0, 1) := by decide +kernel
theorem dX9_letter_121 : decode cX9_letter 121 = .ok (.goto 25, 3) := by decide +kernel
theorem dX9_letter_124 : decode cX9_letter 124 = .ok (.lload 4, 2) := by decide +kernel
theorem dX9_letter_126 : decode cX9_letter 126 = .ok (.bipush 8, 2) := by decide +kernel
theorem dX9_letter_128 : decode cX9_letter 128 = .ok (.iload 6, 2) := by decide +kernel
theorem dX9_letter_130 : decode cX9_letter 130 = .ok (.iconst 1, 1) := by decide +kernel
theorem dX9_letter_131 : decode cX9_letter 131 = .ok (.isub, 1) := by decide +kernel
theorem dX9_letter_132 : decode cX9_letter 132 = .ok (.iload_n 3, 1) := by decide +kernel
theorem dX9_letter_133 : decode cX9_letter 133 = .ok (.isub, 1) := by decide +kernel
theorem dX9_letter_134 : decode cX9_letter 134 = .ok (.imul, 1) := by decide +kernel
theorem dX9_letter_135 : decode cX9_letter 135 = .ok (.lshr, 1) := by decide +kernel
theorem dX9_letter_136 : decode cX9_letter 136 = .ok (.ldc2_w 541, 3) := by decide +kernel
theorem dX9_letter_139 : decode cX9_letter 139 = .ok (.land, 1) := by decide +kernel
theorem dX9_letter_140 : decode cX9_letter 140 = .ok (.l2i, 1) := by decide +kernel
theorem dX9_letter_141 : decode cX9_letter 141 = .ok (.bipush 97, 2) := by decide +kernel
theorem dX9_letter_143 : decode cX9_letter 143 = .ok (.isub, 1) := by decide +kernel
theorem dX9_letter_144 : decode cX9_letter 144 = .ok (.iconst 1, 1) := by decide +kernel
theorem dX9_letter_145 : decode cX9_letter 145 = .ok (.iadd, 1) := by decide +kernel
theorem dX9_letter_146 : decode cX9_letter 146 = .ok (.ireturn, 1) := by decide +kernel
theorem dX9_made_0 : decode cX9_made 0 = .ok (.iload_n 0, 1) := by decide +kernel
theorem dX9_made_1 : decode cX9_made 1 = .ok (.tableswitch 170 10 20 #[59, 66, 73, 80, 86, 106, 118, 130, 142, 154, 166], 59) := by decide +kernel
theorem dX9_made_60 : decode cX9_made 60 = .ok (.lload_n 1, 1) := by decide +kernel
theorem dX9_made_61 : decode cX9_made 61 = .ok (.lload_n 3, 1) := by decide +kernel
theorem dX9_made_62 : decode cX9_made 62 = .ok (.ladd, 1) := by decide +kernel
theorem dX9_made_63 : decode cX9_made 63 = .ok (.invokestatic 430, 3) := by decide +kernel
theorem dX9_made_66 : decode cX9_made 66 = .ok (.lreturn, 1) := by decide +kernel
theorem dX9_made_67 : decode cX9_made 67 = .ok (.lload_n 1, 1) := by decide +kernel
theorem dX9_made_68 : decode cX9_made 68 = .ok (.lload_n 3, 1) := by decide +kernel
theorem dX9_made_69 : decode cX9_made 69 = .ok (.lsub, 1) := by decide +kernel
theorem dX9_made_70 : decode cX9_made 70 = .ok (.invokestatic 430, 3) := by decide +kernel
theorem dX9_made_73 : decode cX9_made 73 = .ok (.lreturn, 1) := by decide +kernel
theorem dX9_made_74 : decode cX9_made 74 = .ok (.lload_n 1, 1) := by decide +kernel
theorem dX9_made_75 : decode cX9_made 75 = .ok (.lload_n 3, 1) := by decide +kernel
theorem dX9_made_76 : decode cX9_made 76 = .ok (.lmul, 1) := by decide +kernel
theorem dX9_made_77 : decode cX9_made 77 = .ok (.invokestatic 430, 3) := by decide +kernel
theorem dX9_made_80 : decode cX9_made 80 = .ok (.lreturn, 1) := by decide +kernel
theorem dX9_made_81 : decode cX9_made 81 = .ok (.lload_n 1, 1) := by decide +kernel
theorem dX9_made_82 : decode cX9_made 82 = .ok (.lload_n 3, 1) := by decide +kernel
theorem dX9_made_83 : decode cX9_made 83 = .ok (.invokestatic 434, 3) := by decide +kernel
theorem dX9_made_86 : decode cX9_made 86 = .ok (.lreturn, 1) := by decide +kernel
theorem dX9_made_87 : decode cX9_made 87 = .ok (.lload_n 3, 1) := by decide +kernel
theorem dX9_made_88 : decode cX9_made 88 = .ok (.lconst 0, 1) := by decide +kernel
theorem dX9_made_89 : decode cX9_made 89 = .ok (.lcmp, 1) := by decide +kernel
theorem dX9_made_90 : decode cX9_made 90 = .ok (.ifCond .ne 7, 3) := by decide +kernel
theorem dX9_made_93 : decode cX9_made 93 = .ok (.lconst 0, 1) := by decide +kernel
theorem dX9_made_94 : decode cX9_made 94 = .ok (.goto 12, 3) := by decide +kernel
theorem dX9_made_97 : decode cX9_made 97 = .ok (.lload_n 1, 1) := by decide +kernel
theorem dX9_made_98 : decode cX9_made 98 = .ok (.lload_n 3, 1) := by decide +kernel
theorem dX9_made_99 : decode cX9_made 99 = .ok (.lload_n 1, 1) := by decide +kernel
theorem dX9_made_100 : decode cX9_made 100 = .ok (.lload_n 3, 1) := by decide +kernel
theorem dX9_made_101 : decode cX9_made 101 = .ok (.invokestatic 434, 3) := by decide +kernel
theorem dX9_made_104 : decode cX9_made 104 = .ok (.lmul, 1) := by decide +kernel
theorem dX9_made_105 : decode cX9_made 105 = .ok (.lsub, 1) := by decide +kernel
theorem dX9_made_106 : decode cX9_made 106 = .ok (.lreturn, 1) := by decide +kernel
theorem dX9_made_107 : decode cX9_made 107 = .ok (.lload_n 1, 1) := by decide +kernel
theorem dX9_made_108 : decode cX9_made 108 = .ok (.lload_n 3, 1) := by decide +kernel
theorem dX9_made_109 : decode cX9_made 109 = .ok (.lcmp, 1) := by decide +kernel
theorem dX9_made_110 : decode cX9_made 110 = .ok (.ifCond .ge 7, 3) := by decide +kernel
theorem dX9_made_113 : decode cX9_made 113 = .ok (.lload_n 1, 1) := by decide +kernel
theorem dX9_made_114 : decode cX9_made 114 = .ok (.goto 4, 3) := by decide +kernel
theorem dX9_made_117 : decode cX9_made 117 = .ok (.lload_n 3, 1) := by decide +kernel
theorem dX9_made_118 : decode cX9_made 118 = .ok (.lreturn, 1) := by decide +kernel
theorem dX9_made_119 : decode cX9_made 119 = .ok (.lload_n 1, 1) := by decide +kernel
theorem dX9_made_120 : decode cX9_made 120 = .ok (.lload_n 3, 1) := by decide +kernel
theorem dX9_made_121 : decode cX9_made 121 = .ok (.lcmp, 1) := by decide +kernel
theorem dX9_made_122 : decode cX9_made 122 = .ok (.ifCond .le 7, 3) := by decide +kernel
theorem dX9_made_125 : decode cX9_made 125 = .ok (.lload_n 1, 1) := by decide +kernel
theorem dX9_made_126 : decode cX9_made 126 = .ok (.goto 4, 3) := by decide +kernel
theorem dX9_made_129 : decode cX9_made 129 = .ok (.lload_n 3, 1) := by decide +kernel
theorem dX9_made_130 : decode cX9_made 130 = .ok (.lreturn, 1) := by decide +kernel
theorem dX9_made_131 : decode cX9_made 131 = .ok (.lload_n 1, 1) := by decide +kernel
theorem dX9_made_132 : decode cX9_made 132 = .ok (.lload_n 3, 1) := by decide +kernel
theorem dX9_made_133 : decode cX9_made 133 = .ok (.lcmp, 1) := by decide +kernel
theorem dX9_made_134 : decode cX9_made 134 = .ok (.ifCond .ge 7, 3) := by decide +kernel
theorem dX9_made_137 : decode cX9_made 137 = .ok (.lconst 1, 1) := by decide +kernel
theorem dX9_made_138 : decode cX9_made 138 = .ok (.goto 4, 3) := by decide +kernel
theorem dX9_made_141 : decode cX9_made 141 = .ok (.lconst 0, 1) := by decide +kernel
theorem dX9_made_142 : decode cX9_made 142 = .ok (.lreturn, 1) := by decide +kernel
theorem dX9_made_143 : decode cX9_made 143 = .ok (.lload_n 1, 1) := by decide +kernel
theorem dX9_made_144 : decode cX9_made 144 = .ok (.lload_n 3, 1) := by decide +kernel
theorem dX9_made_145 : decode cX9_made 145 = .ok (.lcmp, 1) := by decide +kernel
theorem dX9_made_146 : decode cX9_made 146 = .ok (.ifCond .le 7, 3) := by decide +kernel
theorem dX9_made_149 : decode cX9_made 149 = .ok (.lconst 1, 1) := by decide +kernel
theorem dX9_made_150 : decode cX9_made 150 = .ok (.goto 4, 3) := by decide +kernel
theorem dX9_made_153 : decode cX9_made 153 = .ok (.lconst 0, 1) := by decide +kernel
theorem dX9_made_154 : decode cX9_made 154 = .ok (.lreturn, 1) := by decide +kernel
theorem dX9_made_155 : decode cX9_made 155 = .ok (.lload_n 1, 1) := by decide +kernel
theorem dX9_made_156 : decode cX9_made 156 = .ok (.lload_n 3, 1) := by decide +kernel
theorem dX9_made_157 : decode cX9_made 157 = .ok (.lcmp, 1) := by decide +kernel
theorem dX9_made_158 : decode cX9_made 158 = .ok (.ifCond .ne 7, 3) := by decide +kernel
theorem dX9_made_161 : decode cX9_made 161 = .ok (.lconst 1, 1) := by decide +kernel
theorem dX9_made_162 : decode cX9_made 162 = .ok (.goto 4, 3) := by decide +kernel
theorem dX9_made_165 : decode cX9_made 165 = .ok (.lconst 0, 1) := by decide +kernel
theorem dX9_made_166 : decode cX9_made 166 = .ok (.lreturn, 1) := by decide +kernel
theorem dX9_made_167 : decode cX9_made 167 = .ok (.lload_n 1, 1) := by decide +kernel
theorem dX9_made_168 : decode cX9_made 168 = .ok (.lload_n 3, 1) := by decide +kernel
theorem dX9_made_169 : decode cX9_made 169 = .ok (.lmul, 1) := by decide +kernel
theorem dX9_made_170 : decode cX9_made 170 = .ok (.lreturn, 1) := by decide +kernel
theorem dX9_made_171 : decode cX9_made 171 = .ok (.lload_n 1, 1) := by decide +kernel
theorem dX9_made_172 : decode cX9_made 172 = .ok (.lload_n 3, 1) := by decide +kernel
theorem dX9_made_173 : decode cX9_made 173 = .ok (.ladd, 1) := by decide +kernel
theorem dX9_made_174 : decode cX9_made 174 = .ok (.lconst 0, 1) := by decide +kernel
theorem dX9_made_175 : decode cX9_made 175 = .ok (.lcmp, 1) := by decide +kernel
theorem dX9_made_176 : decode cX9_made 176 = .ok (.ifCond .le 7, 3) := by decide +kernel
theorem dX9_made_179 : decode cX9_made 179 = .ok (.lconst 1, 1) := by decide +kernel
theorem dX9_made_180 : decode cX9_made 180 = .ok (.goto 4, 3) := by decide +kernel
theorem dX9_made_183 : decode cX9_made 183 = .ok (.lconst 0, 1) := by decide +kernel
theorem dX9_made_184 : decode cX9_made 184 = .ok (.lreturn, 1) := by decide +kernel
theorem dX9_many_0 : decode cX9_many 0 = .ok (.aload_n 0, 1) := by decide +kernel
theorem dX9_many_1 : decode cX9_many 1 = .ok (.getfield 51, 3) := by decide +kernel
theorem dX9_many_4 : decode cX9_many 4 = .ok (.aload_n 0, 1) := by decide +kernel
theorem dX9_many_5 : decode cX9_many 5 = .ok (.getfield 48, 3) := by decide +kernel
theorem dX9_many_8 : decode cX9_many 8 = .ok (.iaload, 1) := by decide +kernel
theorem dX9_many_9 : decode cX9_many 9 = .ok (.ireturn, 1) := by decide +kernel
theorem dX9_marking_0 : decode cX9_marking 0 = .ok (.aload_n 0, 1) := by decide +kernel
theorem dX9_marking_1 : decode cX9_marking 1 = .ok (.getfield 70, 3) := by decide +kernel
theorem dX9_marking_4 : decode cX9_marking 4 = .ok (.iload_n 1, 1) := by decide +kernel
theorem dX9_marking_5 : decode cX9_marking 5 = .ok (.iconst 0, 1) := by decide +kernel
theorem dX9_marking_6 : decode cX9_marking 6 = .ok (.iastore, 1) := by decide +kernel
theorem dX9_marking_7 : decode cX9_marking 7 = .ok (.aload_n 0, 1) := by decide +kernel
theorem dX9_marking_8 : decode cX9_marking 8 = .ok (.getfield 36, 3) := by decide +kernel
theorem dX9_marking_11 : decode cX9_marking 11 = .ok (.ifCond .ne 89, 3) := by decide +kernel
theorem dX9_marking_14 : decode cX9_marking 14 = .ok (.aload_n 0, 1) := by decide +kernel
theorem dX9_marking_15 : decode cX9_marking 15 = .ok (.getfield 20, 3) := by decide +kernel
theorem dX9_marking_18 : decode cX9_marking 18 = .ok (.iconst 1, 1) := by decide +kernel
theorem dX9_marking_19 : decode cX9_marking 19 = .ok (.if_icmp .ne 81, 3) := by decide +kernel
theorem dX9_marking_22 : decode cX9_marking 22 = .ok (.aload_n 0, 1) := by decide +kernel
theorem dX9_marking_23 : decode cX9_marking 23 = .ok (.ldc2_w 296, 3) := by decide +kernel
theorem dX9_marking_26 : decode cX9_marking 26 = .ok (.invokevirtual 356, 3) := by decide +kernel
theorem dX9_marking_29 : decode cX9_marking 29 = .ok (.ifCond .eq 7, 3) := by decide +kernel
theorem dX9_marking_32 : decode cX9_marking 32 = .ok (.iconst 1, 1) := by decide +kernel
theorem dX9_marking_33 : decode cX9_marking 33 = .ok (.goto 18, 3) := by decide +kernel
theorem dX9_marking_36 : decode cX9_marking 36 = .ok (.aload_n 0, 1) := by decide +kernel
theorem dX9_marking_37 : decode cX9_marking 37 = .ok (.ldc2_w 298, 3) := by decide +kernel
theorem dX9_marking_40 : decode cX9_marking 40 = .ok (.invokevirtual 356, 3) := by decide +kernel
theorem dX9_marking_43 : decode cX9_marking 43 = .ok (.ifCond .eq 7, 3) := by decide +kernel
theorem dX9_marking_46 : decode cX9_marking 46 = .ok (.iconst 2, 1) := by decide +kernel
theorem dX9_marking_47 : decode cX9_marking 47 = .ok (.goto 4, 3) := by decide +kernel
theorem dX9_marking_50 : decode cX9_marking 50 = .ok (.iconst 0, 1) := by decide +kernel
theorem dX9_marking_51 : decode cX9_marking 51 = .ok (.istore_n 2, 1) := by decide +kernel
theorem dX9_marking_52 : decode cX9_marking 52 = .ok (.iload_n 2, 1) := by decide +kernel
theorem dX9_marking_53 : decode cX9_marking 53 = .ok (.ifCond .eq 14, 3) := by decide +kernel
theorem dX9_marking_56 : decode cX9_marking 56 = .ok (.aload_n 0, 1) := by decide +kernel
theorem dX9_marking_57 : decode cX9_marking 57 = .ok (.getfield 70, 3) := by decide +kernel
theorem dX9_marking_60 : decode cX9_marking 60 = .ok (.iload_n 1, 1) := by decide +kernel
theorem dX9_marking_61 : decode cX9_marking 61 = .ok (.iaload, 1) := by decide +kernel
theorem dX9_marking_62 : decode cX9_marking 62 = .ok (.iload_n 2, 1) := by decide +kernel
theorem dX9_marking_63 : decode cX9_marking 63 = .ok (.iand, 1) := by decide +kernel
theorem dX9_marking_64 : decode cX9_marking 64 = .ok (.ifCond .eq 12, 3) := by decide +kernel
theorem dX9_marking_67 : decode cX9_marking 67 = .ok (.aload_n 0, 1) := by decide +kernel
theorem dX9_marking_68 : decode cX9_marking 68 = .ok (.iconst 1, 1) := by decide +kernel
theorem dX9_marking_69 : decode cX9_marking 69 = .ok (.aload_n 0, 1) := by decide +kernel
theorem dX9_marking_70 : decode cX9_marking 70 = .ok (.getfield 23, 3) := by decide +kernel
theorem dX9_marking_73 : decode cX9_marking 73 = .ok (.invokevirtual 276, 3) := by decide +kernel
theorem dX9_marking_76 : decode cX9_marking 76 = .ok (.aload_n 0, 1) := by decide +kernel
theorem dX9_marking_77 : decode cX9_marking 77 = .ok (.getfield 70, 3) := by decide +kernel
theorem dX9_marking_80 : decode cX9_marking 80 = .ok (.iload_n 1, 1) := by decide +kernel
theorem dX9_marking_81 : decode cX9_marking 81 = .ok (.dup2, 1) := by decide +kernel
theorem dX9_marking_82 : decode cX9_marking 82 = .ok (.iaload, 1) := by decide +kernel
theorem dX9_marking_83 : decode cX9_marking 83 = .ok (.iload_n 2, 1) := by decide +kernel
theorem dX9_marking_84 : decode cX9_marking 84 = .ok (.ior, 1) := by decide +kernel
theorem dX9_marking_85 : decode cX9_marking 85 = .ok (.iastore, 1) := by decide +kernel
theorem dX9_marking_86 : decode cX9_marking 86 = .ok (.aload_n 0, 1) := by decide +kernel
theorem dX9_marking_87 : decode cX9_marking 87 = .ok (.getfield 36, 3) := by decide +kernel
theorem dX9_marking_90 : decode cX9_marking 90 = .ok (.ifCond .ne 7, 3) := by decide +kernel
theorem dX9_marking_93 : decode cX9_marking 93 = .ok (.aload_n 0, 1) := by decide +kernel
theorem dX9_marking_94 : decode cX9_marking 94 = .ok (.invokevirtual 283, 3) := by decide +kernel
theorem dX9_marking_97 : decode cX9_marking 97 = .ok (.goto (-90), 3) := by decide +kernel
theorem dX9_marking_100 : decode cX9_marking 100 = .ok (.return_, 1) := by decide +kernel
theorem dX9_meets_0 : decode cX9_meets 0 = .ok (.aload_n 0, 1) := by decide +kernel
theorem dX9_meets_1 : decode cX9_meets 1 = .ok (.getfield 222, 3) := by decide +kernel
theorem dX9_meets_4 : decode cX9_meets 4 = .ok (.iload_n 1, 1) := by decide +kernel
theorem dX9_meets_5 : decode cX9_meets 5 = .ok (.iaload, 1) := by decide +kernel
theorem dX9_meets_6 : decode cX9_meets 6 = .ok (.istore_n 3, 1) := by decide +kernel
theorem dX9_meets_7 : decode cX9_meets 7 = .ok (.aload_n 0, 1) := by decide +kernel
theorem dX9_meets_8 : decode cX9_meets 8 = .ok (.getfield 159, 3) := by decide +kernel
theorem dX9_meets_11 : decode cX9_meets 11 = .ok (.iconst 1, 1) := by decide +kernel
theorem dX9_meets_12 : decode cX9_meets 12 = .ok (.iload_n 2, 1) := by decide +kernel
theorem dX9_meets_13 : decode cX9_meets 13 = .ok (.iastore, 1) := by decide +kernel
theorem dX9_meets_14 : decode cX9_meets 14 = .ok (.aload_n 0, 1) := by decide +kernel
theorem dX9_meets_15 : decode cX9_meets 15 = .ok (.getfield 159, 3) := by decide +kernel
theorem dX9_meets_18 : decode cX9_meets 18 = .ok (.iconst 2, 1) := by decide +kernel
theorem dX9_meets_19 : decode cX9_meets 19 = .ok (.aload_n 0, 1) := by decide +kernel
theorem dX9_meets_20 : decode cX9_meets 20 = .ok (.getfield 58, 3) := by decide +kernel
theorem dX9_meets_23 : decode cX9_meets 23 = .ok (.bipush 12, 2) := by decide +kernel
theorem dX9_meets_25 : decode cX9_meets 25 = .ok (.aload_n 0, 1) := by decide +kernel
theorem dX9_meets_26 : decode cX9_meets 26 = .ok (.getfield 48, 3) := by decide +kernel
theorem dX9_meets_29 : decode cX9_meets 29 = .ok (.imul, 1) := by decide +kernel
theorem dX9_meets_30 : decode cX9_meets 30 = .ok (.iload_n 3, 1) := by decide +kernel
theorem dX9_meets_31 : decode cX9_meets 31 = .ok (.iadd, 1) := by decide +kernel
theorem dX9_meets_32 : decode cX9_meets 32 = .ok (.iaload, 1) := by decide +kernel
theorem dX9_meets_33 : decode cX9_meets 33 = .ok (.iastore, 1) := by decide +kernel
theorem dX9_meets_34 : decode cX9_meets 34 = .ok (.aload_n 0, 1) := by decide +kernel
theorem dX9_meets_35 : decode cX9_meets 35 = .ok (.getfield 159, 3) := by decide +kernel
theorem dX9_meets_38 : decode cX9_meets 38 = .ok (.iconst 3, 1) := by decide +kernel
theorem dX9_meets_39 : decode cX9_meets 39 = .ok (.aload_n 0, 1) := by decide +kernel
theorem dX9_meets_40 : decode cX9_meets 40 = .ok (.getfield 61, 3) := by decide +kernel
theorem dX9_meets_43 : decode cX9_meets 43 = .ok (.bipush 12, 2) := by decide +kernel
theorem dX9_meets_45 : decode cX9_meets 45 = .ok (.aload_n 0, 1) := by decide +kernel
theorem dX9_meets_46 : decode cX9_meets 46 = .ok (.getfield 48, 3) := by decide +kernel
theorem dX9_meets_49 : decode cX9_meets 49 = .ok (.imul, 1) := by decide +kernel
theorem dX9_meets_50 : decode cX9_meets 50 = .ok (.iload_n 3, 1) := by decide +kernel
theorem dX9_meets_51 : decode cX9_meets 51 = .ok (.iadd, 1) := by decide +kernel
theorem dX9_meets_52 : decode cX9_meets 52 = .ok (.iaload, 1) := by decide +kernel
theorem dX9_meets_53 : decode cX9_meets 53 = .ok (.iastore, 1) := by decide +kernel
theorem dX9_meets_54 : decode cX9_meets 54 = .ok (.aload_n 0, 1) := by decide +kernel
theorem dX9_meets_55 : decode cX9_meets 55 = .ok (.getfield 159, 3) := by decide +kernel
theorem dX9_meets_58 : decode cX9_meets 58 = .ok (.iconst 4, 1) := by decide +kernel
theorem dX9_meets_59 : decode cX9_meets 59 = .ok (.iload_n 1, 1) := by decide +kernel
theorem dX9_meets_60 : decode cX9_meets 60 = .ok (.iastore, 1) := by decide +kernel
theorem dX9_meets_61 : decode cX9_meets 61 = .ok (.aload_n 0, 1) := by decide +kernel
theorem dX9_meets_62 : decode cX9_meets 62 = .ok (.getfield 159, 3) := by decide +kernel
theorem dX9_meets_65 : decode cX9_meets 65 = .ok (.iconst 5, 1) := by decide +kernel
theorem dX9_meets_66 : decode cX9_meets 66 = .ok (.aload_n 0, 1) := by decide +kernel
theorem dX9_meets_67 : decode cX9_meets 67 = .ok (.getfield 228, 3) := by decide +kernel
theorem dX9_meets_70 : decode cX9_meets 70 = .ok (.ifCond .eq 7, 3) := by decide +kernel
theorem dX9_meets_73 : decode cX9_meets 73 = .ok (.iconst 0, 1) := by decide +kernel
theorem dX9_meets_74 : decode cX9_meets 74 = .ok (.goto 12, 3) := by decide +kernel
theorem dX9_meets_77 : decode cX9_meets 77 = .ok (.aload_n 0, 1) := by decide +kernel
theorem dX9_meets_78 : decode cX9_meets 78 = .ok (.getfield 162, 3) := by decide +kernel
theorem dX9_meets_81 : decode cX9_meets 81 = .ok (.aload_n 0, 1) := by decide +kernel
theorem dX9_meets_82 : decode cX9_meets 82 = .ok (.getfield 231, 3) := by decide +kernel
theorem dX9_meets_85 : decode cX9_meets 85 = .ok (.iaload, 1) := by decide +kernel
theorem dX9_meets_86 : decode cX9_meets 86 = .ok (.iastore, 1) := by decide +kernel
theorem dX9_meets_87 : decode cX9_meets 87 = .ok (.aload_n 0, 1) := by decide +kernel
theorem dX9_meets_88 : decode cX9_meets 88 = .ok (.getfield 159, 3) := by decide +kernel
theorem dX9_meets_91 : decode cX9_meets 91 = .ok (.bipush 6, 2) := by decide +kernel
theorem dX9_meets_93 : decode cX9_meets 93 = .ok (.aload_n 0, 1) := by decide +kernel
theorem dX9_meets_94 : decode cX9_meets 94 = .ok (.iload_n 1, 1) := by decide +kernel
theorem dX9_meets_95 : decode cX9_meets 95 = .ok (.invokevirtual 461, 3) := by decide +kernel
theorem dX9_meets_98 : decode cX9_meets 98 = .ok (.iastore, 1) := by decide +kernel
theorem dX9_meets_99 : decode cX9_meets 99 = .ok (.aload_n 0, 1) := by decide +kernel
theorem dX9_meets_100 : decode cX9_meets 100 = .ok (.getfield 159, 3) := by decide +kernel
theorem dX9_meets_103 : decode cX9_meets 103 = .ok (.bipush 7, 2) := by decide +kernel
theorem dX9_meets_105 : decode cX9_meets 105 = .ok (.aload_n 0, 1) := by decide +kernel
theorem dX9_meets_106 : decode cX9_meets 106 = .ok (.getfield 228, 3) := by decide +kernel
theorem dX9_meets_109 : decode cX9_meets 109 = .ok (.ifCond .eq 7, 3) := by decide +kernel
theorem dX9_meets_112 : decode cX9_meets 112 = .ok (.iconst 0, 1) := by decide +kernel
theorem dX9_meets_113 : decode cX9_meets 113 = .ok (.goto 17, 3) := by decide +kernel
theorem dX9_meets_116 : decode cX9_meets 116 = .ok (.aload_n 0, 1) := by decide +kernel
theorem dX9_meets_117 : decode cX9_meets 117 = .ok (.getfield 186, 3) := by decide +kernel
theorem dX9_meets_120 : decode cX9_meets 120 = .ok (.bipush 12, 2) := by decide +kernel
theorem dX9_meets_122 : decode cX9_meets 122 = .ok (.aload_n 0, 1) := by decide +kernel
theorem dX9_meets_123 : decode cX9_meets 123 = .ok (.getfield 231, 3) := by decide +kernel
theorem dX9_meets_126 : decode cX9_meets 126 = .ok (.imul, 1) := by decide +kernel
theorem dX9_meets_127 : decode cX9_meets 127 = .ok (.iload_n 3, 1) := by decide +kernel
theorem dX9_meets_128 : decode cX9_meets 128 = .ok (.iadd, 1) := by decide +kernel
theorem dX9_meets_129 : decode cX9_meets 129 = .ok (.iaload, 1) := by decide +kernel
theorem dX9_meets_130 : decode cX9_meets 130 = .ok (.iastore, 1) := by decide +kernel
theorem dX9_meets_131 : decode cX9_meets 131 = .ok (.return_, 1) := by decide +kernel
theorem dX9_minuteGoes_0 : decode cX9_minuteGoes 0 = .ok (.iconst 0, 1) := by decide +kernel
theorem dX9_minuteGoes_1 : decode cX9_minuteGoes 1 = .ok (.istore_n 2, 1) := by decide +kernel
theorem dX9_minuteGoes_2 : decode cX9_minuteGoes 2 = .ok (.iload_n 2, 1) := by decide +kernel
theorem dX9_minuteGoes_3 : decode cX9_minuteGoes 3 = .ok (.aload_n 0, 1) := by decide +kernel
theorem dX9_minuteGoes_4 : decode cX9_minuteGoes 4 = .ok (.invokevirtual 445, 3) := by decide +kernel
theorem dX9_minuteGoes_7 : decode cX9_minuteGoes 7 = .ok (.if_icmp .ge 128, 3) := by decide +kernel
theorem dX9_minuteGoes_10 : decode cX9_minuteGoes 10 = .ok (.aload_n 0, 1) := by decide +kernel
theorem dX9_minuteGoes_11 : decode cX9_minuteGoes 11 = .ok (.getfield 165, 3) := by decide +kernel
theorem dX9_minuteGoes_14 : decode cX9_minuteGoes 14 = .ok (.bipush 12, 2) := by decide +kernel
theorem dX9_minuteGoes_16 : decode cX9_minuteGoes 16 = .ok (.iload_n 1, 1) := by decide +kernel
theorem dX9_minuteGoes_17 : decode cX9_minuteGoes 17 = .ok (.imul, 1) := by decide +kernel
theorem dX9_minuteGoes_18 : decode cX9_minuteGoes 18 = .ok (.iload_n 2, 1) := by decide +kernel
theorem dX9_minuteGoes_19 : decode cX9_minuteGoes 19 = .ok (.iadd, 1) := by decide +kernel
theorem dX9_minuteGoes_20 : decode cX9_minuteGoes 20 = .ok (.iaload, 1) := by decide +kernel
theorem dX9_minuteGoes_21 : decode cX9_minuteGoes 21 = .ok (.istore_n 3, 1) := by decide +kernel
theorem dX9_minuteGoes_22 : decode cX9_minuteGoes 22 = .ok (.bipush 12, 2) := by decide +kernel
theorem dX9_minuteGoes_24 : decode cX9_minuteGoes 24 = .ok (.iload_n 1, 1) := by decide +kernel
theorem dX9_minuteGoes_25 : decode cX9_minuteGoes 25 = .ok (.imul, 1) := by decide +kernel
theorem dX9_minuteGoes_26 : decode cX9_minuteGoes 26 = .ok (.iload_n 3, 1) := by decide +kernel
theorem dX9_minuteGoes_27 : decode cX9_minuteGoes 27 = .ok (.iadd, 1) := by decide +kernel
theorem dX9_minuteGoes_28 : decode cX9_minuteGoes 28 = .ok (.istore 4, 2) := by decide +kernel
theorem dX9_minuteGoes_30 : decode cX9_minuteGoes 30 = .ok (.aload_n 0, 1) := by decide +kernel
theorem dX9_minuteGoes_31 : decode cX9_minuteGoes 31 = .ok (.getfield 177, 3) := by decide +kernel
theorem dX9_minuteGoes_34 : decode cX9_minuteGoes 34 = .ok (.iload 4, 2) := by decide +kernel
theorem dX9_minuteGoes_36 : decode cX9_minuteGoes 36 = .ok (.iaload, 1) := by decide +kernel
theorem dX9_minuteGoes_37 : decode cX9_minuteGoes 37 = .ok (.istore 5, 2) := by decide +kernel
theorem dX9_minuteGoes_39 : decode cX9_minuteGoes 39 = .ok (.iload 5, 2) := by decide +kernel
theorem dX9_minuteGoes_41 : decode cX9_minuteGoes 41 = .ok (.iconst (-1), 1) := by decide +kernel
theorem dX9_minuteGoes_42 : decode cX9_minuteGoes 42 = .ok (.if_icmp .ne 6, 3) := by decide +kernel
theorem dX9_minuteGoes_45 : decode cX9_minuteGoes 45 = .ok (.goto 84, 3) := by decide +kernel
theorem dX9_minuteGoes_48 : decode cX9_minuteGoes 48 = .ok (.aload_n 0, 1) := by decide +kernel
theorem dX9_minuteGoes_49 : decode cX9_minuteGoes 49 = .ok (.getfield 177, 3) := by decide +kernel
theorem dX9_minuteGoes_52 : decode cX9_minuteGoes 52 = .ok (.iload 4, 2) := by decide +kernel
theorem dX9_minuteGoes_54 : decode cX9_minuteGoes 54 = .ok (.iconst (-1), 1) := by decide +kernel
theorem dX9_minuteGoes_55 : decode cX9_minuteGoes 55 = .ok (.iastore, 1) := by decide +kernel
theorem dX9_minuteGoes_56 : decode cX9_minuteGoes 56 = .ok (.aload_n 0, 1) := by decide +kernel
theorem dX9_minuteGoes_57 : decode cX9_minuteGoes 57 = .ok (.getfield 183, 3) := by decide +kernel
theorem dX9_minuteGoes_60 : decode cX9_minuteGoes 60 = .ok (.iload 4, 2) := by decide +kernel
theorem dX9_minuteGoes_62 : decode cX9_minuteGoes 62 = .ok (.iaload, 1) := by decide +kernel
theorem dX9_minuteGoes_63 : decode cX9_minuteGoes 63 = .ok (.iconst (-1), 1) := by decide +kernel
theorem dX9_minuteGoes_64 : decode cX9_minuteGoes 64 = .ok (.if_icmp .ne 7, 3) := by decide +kernel
theorem dX9_minuteGoes_67 : decode cX9_minuteGoes 67 = .ok (.iconst 1, 1) := by decide +kernel
theorem dX9_minuteGoes_68 : decode cX9_minuteGoes 68 = .ok (.goto 4, 3) := by decide +kernel
theorem dX9_minuteGoes_71 : decode cX9_minuteGoes 71 = .ok (.iconst 0, 1) := by decide +kernel
theorem dX9_minuteGoes_72 : decode cX9_minuteGoes 72 = .ok (.istore 6, 2) := by decide +kernel
theorem dX9_minuteGoes_74 : decode cX9_minuteGoes 74 = .ok (.aload_n 0, 1) := by decide +kernel
theorem dX9_minuteGoes_75 : decode cX9_minuteGoes 75 = .ok (.iload_n 1, 1) := by decide +kernel
theorem dX9_minuteGoes_76 : decode cX9_minuteGoes 76 = .ok (.iload_n 3, 1) := by decide +kernel
theorem dX9_minuteGoes_77 : decode cX9_minuteGoes 77 = .ok (.invokevirtual 494, 3) := by decide +kernel
theorem dX9_minuteGoes_80 : decode cX9_minuteGoes 80 = .ok (.ifCond .eq 49, 3) := by decide +kernel
theorem dX9_minuteGoes_83 : decode cX9_minuteGoes 83 = .ok (.aload_n 0, 1) := by decide +kernel
theorem dX9_minuteGoes_84 : decode cX9_minuteGoes 84 = .ok (.iload_n 1, 1) := by decide +kernel
theorem dX9_minuteGoes_85 : decode cX9_minuteGoes 85 = .ok (.iload_n 3, 1) := by decide +kernel
theorem dX9_minuteGoes_86 : decode cX9_minuteGoes 86 = .ok (.iload 5, 2) := by decide +kernel
theorem dX9_minuteGoes_88 : decode cX9_minuteGoes 88 = .ok (.iload 6, 2) := by decide +kernel
theorem dX9_minuteGoes_90 : decode cX9_minuteGoes 90 = .ok (.ifCond .eq 12, 3) := by decide +kernel
theorem dX9_minuteGoes_93 : decode cX9_minuteGoes 93 = .ok (.aload_n 0, 1) := by decide +kernel
theorem dX9_minuteGoes_94 : decode cX9_minuteGoes 94 = .ok (.getfield 162, 3) := by decide +kernel
theorem dX9_minuteGoes_97 : decode cX9_minuteGoes 97 = .ok (.iload_n 1, 1) := by decide +kernel
theorem dX9_minuteGoes_98 : decode cX9_minuteGoes 98 = .ok (.iaload, 1) := by decide +kernel
theorem dX9_minuteGoes_99 : decode cX9_minuteGoes 99 = .ok (.goto 10, 3) := by decide +kernel
theorem dX9_minuteGoes_102 : decode cX9_minuteGoes 102 = .ok (.aload_n 0, 1) := by decide +kernel
theorem dX9_minuteGoes_103 : decode cX9_minuteGoes 103 = .ok (.getfield 180, 3) := by decide +kernel
theorem dX9_minuteGoes_106 : decode cX9_minuteGoes 106 = .ok (.iload 4, 2) := by decide +kernel
theorem dX9_minuteGoes_108 : decode cX9_minuteGoes 108 = .ok (.iaload, 1) := by decide +kernel
theorem dX9_minuteGoes_109 : decode cX9_minuteGoes 109 = .ok (.iload 6, 2) := by decide +kernel
theorem dX9_minuteGoes_111 : decode cX9_minuteGoes 111 = .ok (.ifCond .eq 7, 3) := by decide +kernel
theorem dX9_minuteGoes_114 : decode cX9_minuteGoes 114 = .ok (.iload_n 3, 1) := by decide +kernel
theorem dX9_minuteGoes_115 : decode cX9_minuteGoes 115 = .ok (.goto 10, 3) := by decide +kernel
theorem dX9_minuteGoes_118 : decode cX9_minuteGoes 118 = .ok (.aload_n 0, 1) := by decide +kernel
theorem dX9_minuteGoes_119 : decode cX9_minuteGoes 119 = .ok (.getfield 183, 3) := by decide +kernel
theorem dX9_minuteGoes_122 : decode cX9_minuteGoes 122 = .ok (.iload 4, 2) := by decide +kernel
theorem dX9_minuteGoes_124 : decode cX9_minuteGoes 124 = .ok (.iaload, 1) := by decide +kernel
theorem dX9_minuteGoes_125 : decode cX9_minuteGoes 125 = .ok (.invokevirtual 531, 3) := by decide +kernel
theorem dX9_minuteGoes_128 : decode cX9_minuteGoes 128 = .ok (.pop, 1) := by decide +kernel
theorem dX9_minuteGoes_129 : decode cX9_minuteGoes 129 = .ok (.iinc 2 1, 3) := by decide +kernel
theorem dX9_minuteGoes_132 : decode cX9_minuteGoes 132 = .ok (.goto (-130), 3) := by decide +kernel
theorem dX9_minuteGoes_135 : decode cX9_minuteGoes 135 = .ok (.iconst 0, 1) := by decide +kernel
theorem dX9_minuteGoes_136 : decode cX9_minuteGoes 136 = .ok (.istore_n 2, 1) := by decide +kernel
theorem dX9_minuteGoes_137 : decode cX9_minuteGoes 137 = .ok (.iload_n 2, 1) := by decide +kernel
theorem dX9_minuteGoes_138 : decode cX9_minuteGoes 138 = .ok (.aload_n 0, 1) := by decide +kernel
theorem dX9_minuteGoes_139 : decode cX9_minuteGoes 139 = .ok (.invokevirtual 445, 3) := by decide +kernel
theorem dX9_minuteGoes_142 : decode cX9_minuteGoes 142 = .ok (.if_icmp .ge 98, 3) := by decide +kernel
theorem dX9_minuteGoes_145 : decode cX9_minuteGoes 145 = .ok (.aload_n 0, 1) := by decide +kernel
theorem dX9_minuteGoes_146 : decode cX9_minuteGoes 146 = .ok (.getfield 165, 3) := by decide +kernel
theorem dX9_minuteGoes_149 : decode cX9_minuteGoes 149 = .ok (.bipush 12, 2) := by decide +kernel
theorem dX9_minuteGoes_151 : decode cX9_minuteGoes 151 = .ok (.iload_n 1, 1) := by decide +kernel
theorem dX9_minuteGoes_152 : decode cX9_minuteGoes 152 = .ok (.imul, 1) := by decide +kernel
theorem dX9_minuteGoes_153 : decode cX9_minuteGoes 153 = .ok (.iload_n 2, 1) := by decide +kernel
theorem dX9_minuteGoes_154 : decode cX9_minuteGoes 154 = .ok (.iadd, 1) := by decide +kernel
theorem dX9_minuteGoes_155 : decode cX9_minuteGoes 155 = .ok (.iaload, 1) := by decide +kernel
theorem dX9_minuteGoes_156 : decode cX9_minuteGoes 156 = .ok (.istore_n 3, 1) := by decide +kernel
theorem dX9_minuteGoes_157 : decode cX9_minuteGoes 157 = .ok (.aload_n 0, 1) := by decide +kernel
theorem dX9_minuteGoes_158 : decode cX9_minuteGoes 158 = .ok (.iload_n 1, 1) := by decide +kernel
theorem dX9_minuteGoes_159 : decode cX9_minuteGoes 159 = .ok (.iload_n 3, 1) := by decide +kernel
theorem dX9_minuteGoes_160 : decode cX9_minuteGoes 160 = .ok (.invokevirtual 494, 3) := by decide +kernel
theorem dX9_minuteGoes_163 : decode cX9_minuteGoes 163 = .ok (.ifCond .ne 6, 3) := by decide +kernel
theorem dX9_minuteGoes_166 : decode cX9_minuteGoes 166 = .ok (.goto 68, 3) := by decide +kernel
theorem dX9_minuteGoes_169 : decode cX9_minuteGoes 169 = .ok (.aload_n 0, 1) := by decide +kernel
theorem dX9_minuteGoes_170 : decode cX9_minuteGoes 170 = .ok (.bipush 100, 2) := by decide +kernel
theorem dX9_minuteGoes_172 : decode cX9_minuteGoes 172 = .ok (.invokevirtual 528, 3) := by decide +kernel
theorem dX9_minuteGoes_175 : decode cX9_minuteGoes 175 = .ok (.aload_n 0, 1) := by decide +kernel
theorem dX9_minuteGoes_176 : decode cX9_minuteGoes 176 = .ok (.getfield 64, 3) := by decide +kernel
theorem dX9_minuteGoes_179 : decode cX9_minuteGoes 179 = .ok (.bipush 12, 2) := by decide +kernel
theorem dX9_minuteGoes_181 : decode cX9_minuteGoes 181 = .ok (.aload_n 0, 1) := by decide +kernel
theorem dX9_minuteGoes_182 : decode cX9_minuteGoes 182 = .ok (.getfield 48, 3) := by decide +kernel
theorem dX9_minuteGoes_185 : decode cX9_minuteGoes 185 = .ok (.imul, 1) := by decide +kernel
theorem dX9_minuteGoes_186 : decode cX9_minuteGoes 186 = .ok (.iload_n 3, 1) := by decide +kernel
theorem dX9_minuteGoes_187 : decode cX9_minuteGoes 187 = .ok (.iadd, 1) := by decide +kernel
theorem dX9_minuteGoes_188 : decode cX9_minuteGoes 188 = .ok (.iaload, 1) := by decide +kernel
theorem dX9_minuteGoes_189 : decode cX9_minuteGoes 189 = .ok (.if_icmp .ge 7, 3) := by decide +kernel
theorem dX9_minuteGoes_192 : decode cX9_minuteGoes 192 = .ok (.iconst 1, 1) := by decide +kernel
theorem dX9_minuteGoes_193 : decode cX9_minuteGoes 193 = .ok (.goto 4, 3) := by decide +kernel
theorem dX9_minuteGoes_196 : decode cX9_minuteGoes 196 = .ok (.iconst 0, 1) := by decide +kernel
theorem dX9_minuteGoes_197 : decode cX9_minuteGoes 197 = .ok (.istore 4, 2) := by decide +kernel
theorem dX9_minuteGoes_199 : decode cX9_minuteGoes 199 = .ok (.iload 4, 2) := by decide +kernel
theorem dX9_minuteGoes_201 : decode cX9_minuteGoes 201 = .ok (.ifCond .eq 33, 3) := by decide +kernel
theorem dX9_minuteGoes_204 : decode cX9_minuteGoes 204 = .ok (.aload_n 0, 1) := by decide +kernel
theorem dX9_minuteGoes_205 : decode cX9_minuteGoes 205 = .ok (.getfield 76, 3) := by decide +kernel
theorem dX9_minuteGoes_208 : decode cX9_minuteGoes 208 = .ok (.aload_n 0, 1) := by decide +kernel
theorem dX9_minuteGoes_209 : decode cX9_minuteGoes 209 = .ok (.getfield 48, 3) := by decide +kernel
theorem dX9_minuteGoes_212 : decode cX9_minuteGoes 212 = .ok (.iaload, 1) := by decide +kernel
theorem dX9_minuteGoes_213 : decode cX9_minuteGoes 213 = .ok (.ifCond .le 21, 3) := by decide +kernel
theorem dX9_minuteGoes_216 : decode cX9_minuteGoes 216 = .ok (.aload_n 0, 1) := by decide +kernel
theorem dX9_minuteGoes_217 : decode cX9_minuteGoes 217 = .ok (.iload_n 1, 1) := by decide +kernel
theorem dX9_minuteGoes_218 : decode cX9_minuteGoes 218 = .ok (.iload_n 3, 1) := by decide +kernel
theorem dX9_minuteGoes_219 : decode cX9_minuteGoes 219 = .ok (.aload_n 0, 1) := by decide +kernel
theorem dX9_minuteGoes_220 : decode cX9_minuteGoes 220 = .ok (.invokevirtual 535, 3) := by decide +kernel
theorem dX9_minuteGoes_223 : decode cX9_minuteGoes 223 = .ok (.aload_n 0, 1) := by decide +kernel
theorem dX9_minuteGoes_224 : decode cX9_minuteGoes 224 = .ok (.getfield 162, 3) := by decide +kernel
theorem dX9_minuteGoes_227 : decode cX9_minuteGoes 227 = .ok (.iload_n 1, 1) := by decide +kernel
theorem dX9_minuteGoes_228 : decode cX9_minuteGoes 228 = .ok (.iaload, 1) := by decide +kernel
theorem dX9_minuteGoes_229 : decode cX9_minuteGoes 229 = .ok (.iload_n 3, 1) := by decide +kernel
theorem dX9_minuteGoes_230 : decode cX9_minuteGoes 230 = .ok (.invokevirtual 531, 3) := by decide +kernel
theorem dX9_minuteGoes_233 : decode cX9_minuteGoes 233 = .ok (.pop, 1) := by decide +kernel
theorem dX9_minuteGoes_234 : decode cX9_minuteGoes 234 = .ok (.iinc 2 1, 3) := by decide +kernel
theorem dX9_minuteGoes_237 : decode cX9_minuteGoes 237 = .ok (.goto (-100), 3) := by decide +kernel
theorem dX9_minuteGoes_240 : decode cX9_minuteGoes 240 = .ok (.iconst 0, 1) := by decide +kernel
theorem dX9_minuteGoes_241 : decode cX9_minuteGoes 241 = .ok (.istore_n 2, 1) := by decide +kernel
theorem dX9_minuteGoes_242 : decode cX9_minuteGoes 242 = .ok (.iload_n 2, 1) := by decide +kernel
theorem dX9_minuteGoes_243 : decode cX9_minuteGoes 243 = .ok (.aload_n 0, 1) := by decide +kernel
theorem dX9_minuteGoes_244 : decode cX9_minuteGoes 244 = .ok (.invokevirtual 445, 3) := by decide +kernel
theorem dX9_minuteGoes_247 : decode cX9_minuteGoes 247 = .ok (.if_icmp .ge 55, 3) := by decide +kernel
theorem dX9_minuteGoes_250 : decode cX9_minuteGoes 250 = .ok (.bipush 12, 2) := by decide +kernel
theorem dX9_minuteGoes_252 : decode cX9_minuteGoes 252 = .ok (.iload_n 1, 1) := by decide +kernel
theorem dX9_minuteGoes_253 : decode cX9_minuteGoes 253 = .ok (.imul, 1) := by decide +kernel
theorem dX9_minuteGoes_254 : decode cX9_minuteGoes 254 = .ok (.iload_n 2, 1) := by decide +kernel
theorem dX9_minuteGoes_255 : decode cX9_minuteGoes 255 = .ok (.iadd, 1) := by decide +kernel
theorem dX9_minuteGoes_256 : decode cX9_minuteGoes 256 = .ok (.istore_n 3, 1) := by decide +kernel
theorem dX9_minuteGoes_257 : decode cX9_minuteGoes 257 = .ok (.aload_n 0, 1) := by decide +kernel
theorem dX9_minuteGoes_258 : decode cX9_minuteGoes 258 = .ok (.getfield 171, 3) := by decide +kernel
theorem dX9_minuteGoes_261 : decode cX9_minuteGoes 261 = .ok (.iload_n 3, 1) := by decide +kernel
theorem dX9_minuteGoes_262 : decode cX9_minuteGoes 262 = .ok (.iaload, 1) := by decide +kernel
theorem dX9_minuteGoes_263 : decode cX9_minuteGoes 263 = .ok (.iconst (-1), 1) := by decide +kernel
theorem dX9_minuteGoes_264 : decode cX9_minuteGoes 264 = .ok (.if_icmp .ne 6, 3) := by decide +kernel
theorem dX9_minuteGoes_267 : decode cX9_minuteGoes 267 = .ok (.goto 29, 3) := by decide +kernel
theorem dX9_minuteGoes_270 : decode cX9_minuteGoes 270 = .ok (.aload_n 0, 1) := by decide +kernel
theorem dX9_minuteGoes_271 : decode cX9_minuteGoes 271 = .ok (.getfield 174, 3) := by decide +kernel
theorem dX9_minuteGoes_274 : decode cX9_minuteGoes 274 = .ok (.iload_n 3, 1) := by decide +kernel
theorem dX9_minuteGoes_275 : decode cX9_minuteGoes 275 = .ok (.dup2, 1) := by decide +kernel
theorem dX9_minuteGoes_276 : decode cX9_minuteGoes 276 = .ok (.iaload, 1) := by decide +kernel
theorem dX9_minuteGoes_277 : decode cX9_minuteGoes 277 = .ok (.iconst 1, 1) := by decide +kernel
theorem dX9_minuteGoes_278 : decode cX9_minuteGoes 278 = .ok (.isub, 1) := by decide +kernel
theorem dX9_minuteGoes_279 : decode cX9_minuteGoes 279 = .ok (.iastore, 1) := by decide +kernel
theorem dX9_minuteGoes_280 : decode cX9_minuteGoes 280 = .ok (.aload_n 0, 1) := by decide +kernel
theorem dX9_minuteGoes_281 : decode cX9_minuteGoes 281 = .ok (.getfield 174, 3) := by decide +kernel
theorem dX9_minuteGoes_284 : decode cX9_minuteGoes 284 = .ok (.iload_n 3, 1) := by decide +kernel
theorem dX9_minuteGoes_285 : decode cX9_minuteGoes 285 = .ok (.iaload, 1) := by decide +kernel
theorem dX9_minuteGoes_286 : decode cX9_minuteGoes 286 = .ok (.ifCond .ne 10, 3) := by decide +kernel
theorem dX9_minuteGoes_289 : decode cX9_minuteGoes 289 = .ok (.aload_n 0, 1) := by decide +kernel
theorem dX9_minuteGoes_290 : decode cX9_minuteGoes 290 = .ok (.getfield 171, 3) := by decide +kernel
theorem dX9_minuteGoes_293 : decode cX9_minuteGoes 293 = .ok (.iload_n 3, 1) := by decide +kernel
theorem dX9_minuteGoes_294 : decode cX9_minuteGoes 294 = .ok (.iconst (-1), 1) := by decide +kernel
theorem dX9_minuteGoes_295 : decode cX9_minuteGoes 295 = .ok (.iastore, 1) := by decide +kernel
theorem dX9_minuteGoes_296 : decode cX9_minuteGoes 296 = .ok (.iinc 2 1, 3) := by decide +kernel
theorem dX9_minuteGoes_299 : decode cX9_minuteGoes 299 = .ok (.goto (-57), 3) := by decide +kernel
theorem dX9_minuteGoes_302 : decode cX9_minuteGoes 302 = .ok (.aload_n 0, 1) := by decide +kernel
theorem dX9_minuteGoes_303 : decode cX9_minuteGoes 303 = .ok (.getfield 162, 3) := by decide +kernel
theorem dX9_minuteGoes_306 : decode cX9_minuteGoes 306 = .ok (.iload_n 1, 1) := by decide +kernel
theorem dX9_minuteGoes_307 : decode cX9_minuteGoes 307 = .ok (.dup2, 1) := by decide +kernel
theorem dX9_minuteGoes_308 : decode cX9_minuteGoes 308 = .ok (.iaload, 1) := by decide +kernel
theorem dX9_minuteGoes_309 : decode cX9_minuteGoes 309 = .ok (.iconst 1, 1) := by decide +kernel
theorem dX9_minuteGoes_310 : decode cX9_minuteGoes 310 = .ok (.iadd, 1) := by decide +kernel
theorem dX9_minuteGoes_311 : decode cX9_minuteGoes 311 = .ok (.iastore, 1) := by decide +kernel
theorem dX9_minuteGoes_312 : decode cX9_minuteGoes 312 = .ok (.return_, 1) := by decide +kernel
theorem dX9_must_0 : decode cX9_must 0 = .ok (.aload_n 0, 1) := by decide +kernel
theorem dX9_must_1 : decode cX9_must 1 = .ok (.iload_n 1, 1) := by decide +kernel
theorem dX9_must_2 : decode cX9_must 2 = .ok (.invokevirtual 280, 3) := by decide +kernel
theorem dX9_must_5 : decode cX9_must 5 = .ok (.ifCond .ne 12, 3) := by decide +kernel
theorem dX9_must_8 : decode cX9_must 8 = .ok (.aload_n 0, 1) := by decide +kernel
theorem dX9_must_9 : decode cX9_must 9 = .ok (.iconst 1, 1) := by decide +kernel
theorem dX9_must_10 : decode cX9_must 10 = .ok (.aload_n 0, 1) := by decide +kernel
theorem dX9_must_11 : decode cX9_must 11 = .ok (.getfield 23, 3) := by decide +kernel
theorem dX9_must_14 : decode cX9_must 14 = .ok (.invokevirtual 276, 3) := by decide +kernel
theorem dX9_must_17 : decode cX9_must 17 = .ok (.aload_n 0, 1) := by decide +kernel
theorem dX9_must_18 : decode cX9_must 18 = .ok (.getfield 36, 3) := by decide +kernel
theorem dX9_must_21 : decode cX9_must 21 = .ok (.ifCond .ne 7, 3) := by decide +kernel
theorem dX9_must_24 : decode cX9_must 24 = .ok (.aload_n 0, 1) := by decide +kernel
theorem dX9_must_25 : decode cX9_must 25 = .ok (.invokevirtual 283, 3) := by decide +kernel
theorem dX9_must_28 : decode cX9_must 28 = .ok (.return_, 1) := by decide +kernel
theorem dX9_must__0 : decode cX9_must_ 0 = .ok (.aload_n 0, 1) := by decide +kernel
theorem dX9_must__1 : decode cX9_must_ 1 = .ok (.getfield 36, 3) := by decide +kernel
theorem dX9_must__4 : decode cX9_must_ 4 = .ok (.ifCond .le 4, 3) := by decide +kernel
theorem dX9_must__7 : decode cX9_must_ 7 = .ok (.return_, 1) := by decide +kernel
theorem dX9_must__8 : decode cX9_must_ 8 = .ok (.aload_n 0, 1) := by decide +kernel
theorem dX9_must__9 : decode cX9_must_ 9 = .ok (.lload_n 1, 1) := by decide +kernel
theorem dX9_must__10 : decode cX9_must_ 10 = .ok (.invokevirtual 356, 3) := by decide +kernel
theorem dX9_must__13 : decode cX9_must_ 13 = .ok (.ifCond .ne 12, 3) := by decide +kernel
theorem dX9_must__16 : decode cX9_must_ 16 = .ok (.aload_n 0, 1) := by decide +kernel
theorem dX9_must__17 : decode cX9_must_ 17 = .ok (.iconst 1, 1) := by decide +kernel
theorem dX9_must__18 : decode cX9_must_ 18 = .ok (.aload_n 0, 1) := by decide +kernel
theorem dX9_must__19 : decode cX9_must_ 19 = .ok (.getfield 23, 3) := by decide +kernel
theorem dX9_must__22 : decode cX9_must_ 22 = .ok (.invokevirtual 276, 3) := by decide +kernel
theorem dX9_must__25 : decode cX9_must_ 25 = .ok (.aload_n 0, 1) := by decide +kernel
theorem dX9_must__26 : decode cX9_must_ 26 = .ok (.getfield 36, 3) := by decide +kernel
theorem dX9_must__29 : decode cX9_must_ 29 = .ok (.ifCond .ne 7, 3) := by decide +kernel
theorem dX9_must__32 : decode cX9_must_ 32 = .ok (.aload_n 0, 1) := by decide +kernel
theorem dX9_must__33 : decode cX9_must_ 33 = .ok (.invokevirtual 283, 3) := by decide +kernel
theorem dX9_must__36 : decode cX9_must_ 36 = .ok (.return_, 1) := by decide +kernel
theorem dX9_nextCuts_0 : decode cX9_nextCuts 0 = .ok (.iload_n 1, 1) := by decide +kernel
theorem dX9_nextCuts_1 : decode cX9_nextCuts 1 = .ok (.iconst 1, 1) := by decide +kernel
theorem dX9_nextCuts_2 : decode cX9_nextCuts 2 = .ok (.isub, 1) := by decide +kernel
theorem dX9_nextCuts_3 : decode cX9_nextCuts 3 = .ok (.istore_n 2, 1) := by decide +kernel
theorem dX9_nextCuts_4 : decode cX9_nextCuts 4 = .ok (.iload_n 2, 1) := by decide +kernel
theorem dX9_nextCuts_5 : decode cX9_nextCuts 5 = .ok (.ifCond .lt 110, 3) := by decide +kernel
theorem dX9_nextCuts_8 : decode cX9_nextCuts 8 = .ok (.aload_n 0, 1) := by decide +kernel
theorem dX9_nextCuts_9 : decode cX9_nextCuts 9 = .ok (.aload_n 0, 1) := by decide +kernel
theorem dX9_nextCuts_10 : decode cX9_nextCuts 10 = .ok (.getfield 249, 3) := by decide +kernel
theorem dX9_nextCuts_13 : decode cX9_nextCuts 13 = .ok (.iload_n 2, 1) := by decide +kernel
theorem dX9_nextCuts_14 : decode cX9_nextCuts 14 = .ok (.iaload, 1) := by decide +kernel
theorem dX9_nextCuts_15 : decode cX9_nextCuts 15 = .ok (.iconst 1, 1) := by decide +kernel
theorem dX9_nextCuts_16 : decode cX9_nextCuts 16 = .ok (.iadd, 1) := by decide +kernel
theorem dX9_nextCuts_17 : decode cX9_nextCuts 17 = .ok (.invokevirtual 585, 3) := by decide +kernel
theorem dX9_nextCuts_20 : decode cX9_nextCuts 20 = .ok (.istore_n 3, 1) := by decide +kernel
theorem dX9_nextCuts_21 : decode cX9_nextCuts 21 = .ok (.iload_n 3, 1) := by decide +kernel
theorem dX9_nextCuts_22 : decode cX9_nextCuts 22 = .ok (.iconst (-1), 1) := by decide +kernel
theorem dX9_nextCuts_23 : decode cX9_nextCuts 23 = .ok (.if_icmp .eq 7, 3) := by decide +kernel
theorem dX9_nextCuts_26 : decode cX9_nextCuts 26 = .ok (.iconst 1, 1) := by decide +kernel
theorem dX9_nextCuts_27 : decode cX9_nextCuts 27 = .ok (.goto 4, 3) := by decide +kernel
theorem dX9_nextCuts_30 : decode cX9_nextCuts 30 = .ok (.iconst 0, 1) := by decide +kernel
theorem dX9_nextCuts_31 : decode cX9_nextCuts 31 = .ok (.istore 4, 2) := by decide +kernel
theorem dX9_nextCuts_33 : decode cX9_nextCuts 33 = .ok (.aload_n 0, 1) := by decide +kernel
theorem dX9_nextCuts_34 : decode cX9_nextCuts 34 = .ok (.getfield 249, 3) := by decide +kernel
theorem dX9_nextCuts_37 : decode cX9_nextCuts 37 = .ok (.iload_n 2, 1) := by decide +kernel
theorem dX9_nextCuts_38 : decode cX9_nextCuts 38 = .ok (.iload_n 3, 1) := by decide +kernel
theorem dX9_nextCuts_39 : decode cX9_nextCuts 39 = .ok (.iastore, 1) := by decide +kernel
theorem dX9_nextCuts_40 : decode cX9_nextCuts 40 = .ok (.iload_n 2, 1) := by decide +kernel
theorem dX9_nextCuts_41 : decode cX9_nextCuts 41 = .ok (.iconst 1, 1) := by decide +kernel
theorem dX9_nextCuts_42 : decode cX9_nextCuts 42 = .ok (.iadd, 1) := by decide +kernel
theorem dX9_nextCuts_43 : decode cX9_nextCuts 43 = .ok (.istore 5, 2) := by decide +kernel
theorem dX9_nextCuts_45 : decode cX9_nextCuts 45 = .ok (.iload 5, 2) := by decide +kernel
theorem dX9_nextCuts_47 : decode cX9_nextCuts 47 = .ok (.iload_n 1, 1) := by decide +kernel
theorem dX9_nextCuts_48 : decode cX9_nextCuts 48 = .ok (.if_icmp .ge 54, 3) := by decide +kernel
theorem dX9_nextCuts_51 : decode cX9_nextCuts 51 = .ok (.iload 4, 2) := by decide +kernel
theorem dX9_nextCuts_53 : decode cX9_nextCuts 53 = .ok (.ifCond .eq 49, 3) := by decide +kernel
theorem dX9_nextCuts_56 : decode cX9_nextCuts 56 = .ok (.aload_n 0, 1) := by decide +kernel
theorem dX9_nextCuts_57 : decode cX9_nextCuts 57 = .ok (.getfield 249, 3) := by decide +kernel
theorem dX9_nextCuts_60 : decode cX9_nextCuts 60 = .ok (.iload 5, 2) := by decide +kernel
theorem dX9_nextCuts_62 : decode cX9_nextCuts 62 = .ok (.aload_n 0, 1) := by decide +kernel
theorem dX9_nextCuts_63 : decode cX9_nextCuts 63 = .ok (.aload_n 0, 1) := by decide +kernel
theorem dX9_nextCuts_64 : decode cX9_nextCuts 64 = .ok (.getfield 249, 3) := by decide +kernel
theorem dX9_nextCuts_67 : decode cX9_nextCuts 67 = .ok (.iload 5, 2) := by decide +kernel
theorem dX9_nextCuts_69 : decode cX9_nextCuts 69 = .ok (.iconst 1, 1) := by decide +kernel
theorem dX9_nextCuts_70 : decode cX9_nextCuts 70 = .ok (.isub, 1) := by decide +kernel
theorem dX9_nextCuts_71 : decode cX9_nextCuts 71 = .ok (.iaload, 1) := by decide +kernel
theorem dX9_nextCuts_72 : decode cX9_nextCuts 72 = .ok (.iconst 1, 1) := by decide +kernel
theorem dX9_nextCuts_73 : decode cX9_nextCuts 73 = .ok (.iadd, 1) := by decide +kernel
theorem dX9_nextCuts_74 : decode cX9_nextCuts 74 = .ok (.invokevirtual 585, 3) := by decide +kernel
theorem dX9_nextCuts_77 : decode cX9_nextCuts 77 = .ok (.iastore, 1) := by decide +kernel
theorem dX9_nextCuts_78 : decode cX9_nextCuts 78 = .ok (.aload_n 0, 1) := by decide +kernel
theorem dX9_nextCuts_79 : decode cX9_nextCuts 79 = .ok (.getfield 249, 3) := by decide +kernel
theorem dX9_nextCuts_82 : decode cX9_nextCuts 82 = .ok (.iload 5, 2) := by decide +kernel
theorem dX9_nextCuts_84 : decode cX9_nextCuts 84 = .ok (.iaload, 1) := by decide +kernel
theorem dX9_nextCuts_85 : decode cX9_nextCuts 85 = .ok (.iconst (-1), 1) := by decide +kernel
theorem dX9_nextCuts_86 : decode cX9_nextCuts 86 = .ok (.if_icmp .eq 7, 3) := by decide +kernel
theorem dX9_nextCuts_89 : decode cX9_nextCuts 89 = .ok (.iconst 1, 1) := by decide +kernel
theorem dX9_nextCuts_90 : decode cX9_nextCuts 90 = .ok (.goto 4, 3) := by decide +kernel
theorem dX9_nextCuts_93 : decode cX9_nextCuts 93 = .ok (.iconst 0, 1) := by decide +kernel
theorem dX9_nextCuts_94 : decode cX9_nextCuts 94 = .ok (.istore 4, 2) := by decide +kernel
theorem dX9_nextCuts_96 : decode cX9_nextCuts 96 = .ok (.iinc 5 1, 3) := by decide +kernel
theorem dX9_nextCuts_99 : decode cX9_nextCuts 99 = .ok (.goto (-54), 3) := by decide +kernel
theorem dX9_nextCuts_102 : decode cX9_nextCuts 102 = .ok (.iload 4, 2) := by decide +kernel
theorem dX9_nextCuts_104 : decode cX9_nextCuts 104 = .ok (.ifCond .eq 5, 3) := by decide +kernel
theorem dX9_nextCuts_107 : decode cX9_nextCuts 107 = .ok (.iconst 1, 1) := by decide +kernel
theorem dX9_nextCuts_108 : decode cX9_nextCuts 108 = .ok (.ireturn, 1) := by decide +kernel
theorem dX9_nextCuts_109 : decode cX9_nextCuts 109 = .ok (.iinc 2 (-1), 3) := by decide +kernel
theorem dX9_nextCuts_112 : decode cX9_nextCuts 112 = .ok (.goto (-108), 3) := by decide +kernel
theorem dX9_nextCuts_115 : decode cX9_nextCuts 115 = .ok (.iconst 0, 1) := by decide +kernel
theorem dX9_nextCuts_116 : decode cX9_nextCuts 116 = .ok (.ireturn, 1) := by decide +kernel
theorem dX9_nextRow_0 : decode cX9_nextRow 0 = .ok (.aload_n 0, 1) := by decide +kernel
theorem dX9_nextRow_1 : decode cX9_nextRow 1 = .ok (.getfield 225, 3) := by decide +kernel
theorem dX9_nextRow_4 : decode cX9_nextRow 4 = .ok (.iconst 2, 1) := by decide +kernel
theorem dX9_nextRow_5 : decode cX9_nextRow 5 = .ok (.isub, 1) := by decide +kernel
theorem dX9_nextRow_6 : decode cX9_nextRow 6 = .ok (.istore_n 1, 1) := by decide +kernel
theorem dX9_nextRow_7 : decode cX9_nextRow 7 = .ok (.iload_n 1, 1) := by decide +kernel
theorem dX9_nextRow_8 : decode cX9_nextRow 8 = .ok (.ifCond .lt 26, 3) := by decide +kernel
theorem dX9_nextRow_11 : decode cX9_nextRow 11 = .ok (.aload_n 0, 1) := by decide +kernel
theorem dX9_nextRow_12 : decode cX9_nextRow 12 = .ok (.getfield 222, 3) := by decide +kernel
theorem dX9_nextRow_15 : decode cX9_nextRow 15 = .ok (.iload_n 1, 1) := by decide +kernel
theorem dX9_nextRow_16 : decode cX9_nextRow 16 = .ok (.iaload, 1) := by decide +kernel
theorem dX9_nextRow_17 : decode cX9_nextRow 17 = .ok (.aload_n 0, 1) := by decide +kernel
theorem dX9_nextRow_18 : decode cX9_nextRow 18 = .ok (.getfield 222, 3) := by decide +kernel
theorem dX9_nextRow_21 : decode cX9_nextRow 21 = .ok (.iload_n 1, 1) := by decide +kernel
theorem dX9_nextRow_22 : decode cX9_nextRow 22 = .ok (.iconst 1, 1) := by decide +kernel
theorem dX9_nextRow_23 : decode cX9_nextRow 23 = .ok (.iadd, 1) := by decide +kernel
theorem dX9_nextRow_24 : decode cX9_nextRow 24 = .ok (.iaload, 1) := by decide +kernel
theorem dX9_nextRow_25 : decode cX9_nextRow 25 = .ok (.if_icmp .le 9, 3) := by decide +kernel
theorem dX9_nextRow_28 : decode cX9_nextRow 28 = .ok (.iinc 1 (-1), 3) := by decide +kernel
theorem dX9_nextRow_31 : decode cX9_nextRow 31 = .ok (.goto (-24), 3) := by decide +kernel
theorem dX9_nextRow_34 : decode cX9_nextRow 34 = .ok (.iload_n 1, 1) := by decide +kernel
theorem dX9_nextRow_35 : decode cX9_nextRow 35 = .ok (.ifCond .ge 5, 3) := by decide +kernel
theorem dX9_nextRow_38 : decode cX9_nextRow 38 = .ok (.iconst 0, 1) := by decide +kernel
theorem dX9_nextRow_39 : decode cX9_nextRow 39 = .ok (.ireturn, 1) := by decide +kernel
theorem dX9_nextRow_40 : decode cX9_nextRow 40 = .ok (.aload_n 0, 1) := by decide +kernel
theorem dX9_nextRow_41 : decode cX9_nextRow 41 = .ok (.getfield 225, 3) := by decide +kernel
theorem dX9_nextRow_44 : decode cX9_nextRow 44 = .ok (.iconst 1, 1) := by decide +kernel
theorem dX9_nextRow_45 : decode cX9_nextRow 45 = .ok (.isub, 1) := by decide +kernel
theorem dX9_nextRow_46 : decode cX9_nextRow 46 = .ok (.istore_n 2, 1) := by decide +kernel
theorem dX9_nextRow_47 : decode cX9_nextRow 47 = .ok (.aload_n 0, 1) := by decide +kernel
theorem dX9_nextRow_48 : decode cX9_nextRow 48 = .ok (.getfield 222, 3) := by decide +kernel
theorem dX9_nextRow_51 : decode cX9_nextRow 51 = .ok (.iload_n 2, 1) := by decide +kernel
theorem dX9_nextRow_52 : decode cX9_nextRow 52 = .ok (.iaload, 1) := by decide +kernel
theorem dX9_nextRow_53 : decode cX9_nextRow 53 = .ok (.aload_n 0, 1) := by decide +kernel
theorem dX9_nextRow_54 : decode cX9_nextRow 54 = .ok (.getfield 222, 3) := by decide +kernel
theorem dX9_nextRow_57 : decode cX9_nextRow 57 = .ok (.iload_n 1, 1) := by decide +kernel
theorem dX9_nextRow_58 : decode cX9_nextRow 58 = .ok (.iaload, 1) := by decide +kernel
theorem dX9_nextRow_59 : decode cX9_nextRow 59 = .ok (.if_icmp .ge 9, 3) := by decide +kernel
theorem dX9_nextRow_62 : decode cX9_nextRow 62 = .ok (.iinc 2 (-1), 3) := by decide +kernel
theorem dX9_nextRow_65 : decode cX9_nextRow 65 = .ok (.goto (-18), 3) := by decide +kernel
theorem dX9_nextRow_68 : decode cX9_nextRow 68 = .ok (.aload_n 0, 1) := by decide +kernel
theorem dX9_nextRow_69 : decode cX9_nextRow 69 = .ok (.iload_n 1, 1) := by decide +kernel
theorem dX9_nextRow_70 : decode cX9_nextRow 70 = .ok (.iload_n 2, 1) := by decide +kernel
theorem dX9_nextRow_71 : decode cX9_nextRow 71 = .ok (.invokevirtual 564, 3) := by decide +kernel
theorem dX9_nextRow_74 : decode cX9_nextRow 74 = .ok (.iload_n 1, 1) := by decide +kernel
theorem dX9_nextRow_75 : decode cX9_nextRow 75 = .ok (.iconst 1, 1) := by decide +kernel
theorem dX9_nextRow_76 : decode cX9_nextRow 76 = .ok (.iadd, 1) := by decide +kernel
theorem dX9_nextRow_77 : decode cX9_nextRow 77 = .ok (.istore_n 3, 1) := by decide +kernel
theorem dX9_nextRow_78 : decode cX9_nextRow 78 = .ok (.aload_n 0, 1) := by decide +kernel
theorem dX9_nextRow_79 : decode cX9_nextRow 79 = .ok (.getfield 225, 3) := by decide +kernel
theorem dX9_nextRow_82 : decode cX9_nextRow 82 = .ok (.iconst 1, 1) := by decide +kernel
theorem dX9_nextRow_83 : decode cX9_nextRow 83 = .ok (.isub, 1) := by decide +kernel
theorem dX9_nextRow_84 : decode cX9_nextRow 84 = .ok (.istore 4, 2) := by decide +kernel
theorem dX9_nextRow_86 : decode cX9_nextRow 86 = .ok (.iload_n 3, 1) := by decide +kernel
theorem dX9_nextRow_87 : decode cX9_nextRow 87 = .ok (.iload 4, 2) := by decide +kernel
theorem dX9_nextRow_89 : decode cX9_nextRow 89 = .ok (.if_icmp .ge 19, 3) := by decide +kernel
theorem dX9_nextRow_92 : decode cX9_nextRow 92 = .ok (.aload_n 0, 1) := by decide +kernel
theorem dX9_nextRow_93 : decode cX9_nextRow 93 = .ok (.iload_n 3, 1) := by decide +kernel
theorem dX9_nextRow_94 : decode cX9_nextRow 94 = .ok (.iload 4, 2) := by decide +kernel
theorem dX9_nextRow_96 : decode cX9_nextRow 96 = .ok (.invokevirtual 564, 3) := by decide +kernel
theorem dX9_nextRow_99 : decode cX9_nextRow 99 = .ok (.iinc 3 1, 3) := by decide +kernel
theorem dX9_nextRow_102 : decode cX9_nextRow 102 = .ok (.iinc 4 (-1), 3) := by decide +kernel
theorem dX9_nextRow_105 : decode cX9_nextRow 105 = .ok (.goto (-19), 3) := by decide +kernel
theorem dX9_nextRow_108 : decode cX9_nextRow 108 = .ok (.iconst 1, 1) := by decide +kernel
theorem dX9_nextRow_109 : decode cX9_nextRow 109 = .ok (.ireturn, 1) := by decide +kernel
theorem dX9_nextTied_0 : decode cX9_nextTied 0 = .ok (.iload_n 1, 1) := by decide +kernel
theorem dX9_nextTied_1 : decode cX9_nextTied 1 = .ok (.istore_n 2, 1) := by decide +kernel
theorem dX9_nextTied_2 : decode cX9_nextTied 2 = .ok (.iload_n 2, 1) := by decide +kernel
theorem dX9_nextTied_3 : decode cX9_nextTied 3 = .ok (.aload_n 0, 1) := by decide +kernel
theorem dX9_nextTied_4 : decode cX9_nextTied 4 = .ok (.invokevirtual 445, 3) := by decide +kernel
theorem dX9_nextTied_7 : decode cX9_nextTied 7 = .ok (.iconst 1, 1) := by decide +kernel
theorem dX9_nextTied_8 : decode cX9_nextTied 8 = .ok (.isub, 1) := by decide +kernel
theorem dX9_nextTied_9 : decode cX9_nextTied 9 = .ok (.if_icmp .ge 18, 3) := by decide +kernel
theorem dX9_nextTied_12 : decode cX9_nextTied 12 = .ok (.aload_n 0, 1) := by decide +kernel
theorem dX9_nextTied_13 : decode cX9_nextTied 13 = .ok (.getfield 195, 3) := by decide +kernel
theorem dX9_nextTied_16 : decode cX9_nextTied 16 = .ok (.iload_n 2, 1) := by decide +kernel
theorem dX9_nextTied_17 : decode cX9_nextTied 17 = .ok (.iaload, 1) := by decide +kernel
theorem dX9_nextTied_18 : decode cX9_nextTied 18 = .ok (.ifCond .ne 9, 3) := by decide +kernel
theorem dX9_nextTied_21 : decode cX9_nextTied 21 = .ok (.iinc 2 1, 3) := by decide +kernel
theorem dX9_nextTied_24 : decode cX9_nextTied 24 = .ok (.goto (-22), 3) := by decide +kernel
theorem dX9_nextTied_27 : decode cX9_nextTied 27 = .ok (.iload_n 2, 1) := by decide +kernel
theorem dX9_nextTied_28 : decode cX9_nextTied 28 = .ok (.aload_n 0, 1) := by decide +kernel
theorem dX9_nextTied_29 : decode cX9_nextTied 29 = .ok (.invokevirtual 445, 3) := by decide +kernel
theorem dX9_nextTied_32 : decode cX9_nextTied 32 = .ok (.iconst 1, 1) := by decide +kernel
theorem dX9_nextTied_33 : decode cX9_nextTied 33 = .ok (.isub, 1) := by decide +kernel
theorem dX9_nextTied_34 : decode cX9_nextTied 34 = .ok (.if_icmp .ge 7, 3) := by decide +kernel
theorem dX9_nextTied_37 : decode cX9_nextTied 37 = .ok (.iload_n 2, 1) := by decide +kernel
theorem dX9_nextTied_38 : decode cX9_nextTied 38 = .ok (.goto 4, 3) := by decide +kernel
theorem dX9_nextTied_41 : decode cX9_nextTied 41 = .ok (.iconst (-1), 1) := by decide +kernel
theorem dX9_nextTied_42 : decode cX9_nextTied 42 = .ok (.ireturn, 1) := by decide +kernel
theorem dX9_nights_0 : decode cX9_nights 0 = .ok (.iload_n 1, 1) := by decide +kernel
theorem dX9_nights_1 : decode cX9_nights 1 = .ok (.iconst 1, 1) := by decide +kernel
theorem dX9_nights_2 : decode cX9_nights 2 = .ok (.bipush 20, 2) := by decide +kernel
theorem dX9_nights_4 : decode cX9_nights 4 = .ok (.invokestatic 340, 3) := by decide +kernel
theorem dX9_nights_7 : decode cX9_nights 7 = .ok (.ifCond .eq 29, 3) := by decide +kernel
theorem dX9_nights_10 : decode cX9_nights 10 = .ok (.iload_n 2, 1) := by decide +kernel
theorem dX9_nights_11 : decode cX9_nights 11 = .ok (.iconst 1, 1) := by decide +kernel
theorem dX9_nights_12 : decode cX9_nights 12 = .ok (.bipush 60, 2) := by decide +kernel
theorem dX9_nights_14 : decode cX9_nights 14 = .ok (.invokestatic 340, 3) := by decide +kernel
theorem dX9_nights_17 : decode cX9_nights 17 = .ok (.ifCond .eq 19, 3) := by decide +kernel
theorem dX9_nights_20 : decode cX9_nights 20 = .ok (.iload_n 3, 1) := by decide +kernel
theorem dX9_nights_21 : decode cX9_nights 21 = .ok (.iconst 0, 1) := by decide +kernel
theorem dX9_nights_22 : decode cX9_nights 22 = .ok (.iconst 2, 1) := by decide +kernel
theorem dX9_nights_23 : decode cX9_nights 23 = .ok (.invokestatic 340, 3) := by decide +kernel
theorem dX9_nights_26 : decode cX9_nights 26 = .ok (.ifCond .eq 10, 3) := by decide +kernel
theorem dX9_nights_29 : decode cX9_nights 29 = .ok (.aload_n 0, 1) := by decide +kernel
theorem dX9_nights_30 : decode cX9_nights 30 = .ok (.invokevirtual 445, 3) := by decide +kernel
theorem dX9_nights_33 : decode cX9_nights 33 = .ok (.ifCond .ne 5, 3) := by decide +kernel
theorem dX9_nights_36 : decode cX9_nights 36 = .ok (.iconst (-1), 1) := by decide +kernel
theorem dX9_nights_37 : decode cX9_nights 37 = .ok (.ireturn, 1) := by decide +kernel
theorem dX9_nights_38 : decode cX9_nights 38 = .ok (.aload_n 0, 1) := by decide +kernel
theorem dX9_nights_39 : decode cX9_nights 39 = .ok (.iconst 0, 1) := by decide +kernel
theorem dX9_nights_40 : decode cX9_nights 40 = .ok (.putfield 240, 3) := by decide +kernel
theorem dX9_nights_43 : decode cX9_nights 43 = .ok (.iconst 0, 1) := by decide +kernel
theorem dX9_nights_44 : decode cX9_nights 44 = .ok (.istore 4, 2) := by decide +kernel
theorem dX9_nights_46 : decode cX9_nights 46 = .ok (.iconst 0, 1) := by decide +kernel
theorem dX9_nights_47 : decode cX9_nights 47 = .ok (.istore 5, 2) := by decide +kernel
theorem dX9_nights_49 : decode cX9_nights 49 = .ok (.iconst 0, 1) := by decide +kernel
theorem dX9_nights_50 : decode cX9_nights 50 = .ok (.istore 6, 2) := by decide +kernel
theorem dX9_nights_52 : decode cX9_nights 52 = .ok (.iload 6, 2) := by decide +kernel
theorem dX9_nights_54 : decode cX9_nights 54 = .ok (.iload_n 1, 1) := by decide +kernel
theorem dX9_nights_55 : decode cX9_nights 55 = .ok (.if_icmp .ge 134, 3) := by decide +kernel
theorem dX9_nights_58 : decode cX9_nights 58 = .ok (.aload_n 0, 1) := by decide +kernel
theorem dX9_nights_59 : decode cX9_nights 59 = .ok (.iconst 1, 1) := by decide +kernel
theorem dX9_nights_60 : decode cX9_nights 60 = .ok (.iconst 0, 1) := by decide +kernel
theorem dX9_nights_61 : decode cX9_nights 61 = .ok (.invokevirtual 452, 3) := by decide +kernel
theorem dX9_nights_64 : decode cX9_nights 64 = .ok (.iconst 0, 1) := by decide +kernel
theorem dX9_nights_65 : decode cX9_nights 65 = .ok (.istore 7, 2) := by decide +kernel
theorem dX9_nights_67 : decode cX9_nights 67 = .ok (.iload 7, 2) := by decide +kernel
theorem dX9_nights_69 : decode cX9_nights 69 = .ok (.iload_n 2, 1) := by decide +kernel
theorem dX9_nights_70 : decode cX9_nights 70 = .ok (.if_icmp .ge 26, 3) := by decide +kernel
theorem dX9_nights_73 : decode cX9_nights 73 = .ok (.aload_n 0, 1) := by decide +kernel
theorem dX9_nights_74 : decode cX9_nights 74 = .ok (.getfield 162, 3) := by decide +kernel
theorem dX9_nights_77 : decode cX9_nights 77 = .ok (.iconst 1, 1) := by decide +kernel
theorem dX9_nights_78 : decode cX9_nights 78 = .ok (.iaload, 1) := by decide +kernel
theorem dX9_nights_79 : decode cX9_nights 79 = .ok (.sipush 999, 3) := by decide +kernel
theorem dX9_nights_82 : decode cX9_nights 82 = .ok (.if_icmp .ge 14, 3) := by decide +kernel
theorem dX9_nights_85 : decode cX9_nights 85 = .ok (.aload_n 0, 1) := by decide +kernel
theorem dX9_nights_86 : decode cX9_nights 86 = .ok (.iconst 1, 1) := by decide +kernel
theorem dX9_nights_87 : decode cX9_nights 87 = .ok (.invokevirtual 558, 3) := by decide +kernel
theorem dX9_nights_90 : decode cX9_nights 90 = .ok (.iinc 7 1, 3) := by decide +kernel
theorem dX9_nights_93 : decode cX9_nights 93 = .ok (.goto (-26), 3) := by decide +kernel
theorem dX9_nights_96 : decode cX9_nights 96 = .ok (.iconst 1, 1) := by decide +kernel
theorem dX9_nights_97 : decode cX9_nights 97 = .ok (.istore 7, 2) := by decide +kernel
theorem dX9_nights_99 : decode cX9_nights 99 = .ok (.iconst 0, 1) := by decide +kernel
theorem dX9_nights_100 : decode cX9_nights 100 = .ok (.istore 8, 2) := by decide +kernel
theorem dX9_nights_102 : decode cX9_nights 102 = .ok (.iload 8, 2) := by decide +kernel
theorem dX9_nights_104 : decode cX9_nights 104 = .ok (.aload_n 0, 1) := by decide +kernel
theorem dX9_nights_105 : decode cX9_nights 105 = .ok (.invokevirtual 445, 3) := by decide +kernel
theorem dX9_nights_108 : decode cX9_nights 108 = .ok (.if_icmp .ge 60, 3) := by decide +kernel
theorem dX9_nights_111 : decode cX9_nights 111 = .ok (.iload 4, 2) := by decide +kernel
theorem dX9_nights_113 : decode cX9_nights 113 = .ok (.iconst 1, 1) := by decide +kernel
theorem dX9_nights_114 : decode cX9_nights 114 = .ok (.aload_n 0, 1) := by decide +kernel
theorem dX9_nights_115 : decode cX9_nights 115 = .ok (.getfield 168, 3) := by decide +kernel
theorem dX9_nights_118 : decode cX9_nights 118 = .ok (.bipush 12, 2) := by decide +kernel
theorem dX9_nights_120 : decode cX9_nights 120 = .ok (.iload 8, 2) := by decide +kernel
theorem dX9_nights_122 : decode cX9_nights 122 = .ok (.iadd, 1) := by decide +kernel
theorem dX9_nights_123 : decode cX9_nights 123 = .ok (.iaload, 1) := by decide +kernel
theorem dX9_nights_124 : decode cX9_nights 124 = .ok (.isub, 1) := by decide +kernel
theorem dX9_nights_125 : decode cX9_nights 125 = .ok (.iadd, 1) := by decide +kernel
theorem dX9_nights_126 : decode cX9_nights 126 = .ok (.istore 4, 2) := by decide +kernel
theorem dX9_nights_128 : decode cX9_nights 128 = .ok (.iload 7, 2) := by decide +kernel
theorem dX9_nights_130 : decode cX9_nights 130 = .ok (.ifCond .eq 29, 3) := by decide +kernel
theorem dX9_nights_133 : decode cX9_nights 133 = .ok (.aload_n 0, 1) := by decide +kernel
theorem dX9_nights_134 : decode cX9_nights 134 = .ok (.iload 8, 2) := by decide +kernel
theorem dX9_nights_136 : decode cX9_nights 136 = .ok (.invokevirtual 475, 3) := by decide +kernel
theorem dX9_nights_139 : decode cX9_nights 139 = .ok (.ifCond .ne 16, 3) := by decide +kernel
theorem dX9_nights_142 : decode cX9_nights 142 = .ok (.aload_n 0, 1) := by decide +kernel
theorem dX9_nights_143 : decode cX9_nights 143 = .ok (.getfield 168, 3) := by decide +kernel
theorem dX9_nights_146 : decode cX9_nights 146 = .ok (.bipush 12, 2) := by decide +kernel
theorem dX9_nights_148 : decode cX9_nights 148 = .ok (.iload 8, 2) := by decide +kernel
theorem dX9_nights_150 : decode cX9_nights 150 = .ok (.iadd, 1) := by decide +kernel
theorem dX9_nights_151 : decode cX9_nights 151 = .ok (.iaload, 1) := by decide +kernel
theorem dX9_nights_152 : decode cX9_nights 152 = .ok (.ifCond .ne 7, 3) := by decide +kernel
theorem dX9_nights_155 : decode cX9_nights 155 = .ok (.iconst 1, 1) := by decide +kernel
theorem dX9_nights_156 : decode cX9_nights 156 = .ok (.goto 4, 3) := by decide +kernel
theorem dX9_nights_159 : decode cX9_nights 159 = .ok (.iconst 0, 1) := by decide +kernel
theorem dX9_nights_160 : decode cX9_nights 160 = .ok (.istore 7, 2) := by decide +kernel
theorem dX9_nights_162 : decode cX9_nights 162 = .ok (.iinc 8 1, 3) := by decide +kernel
theorem dX9_nights_165 : decode cX9_nights 165 = .ok (.goto (-63), 3) := by decide +kernel
theorem dX9_nights_168 : decode cX9_nights 168 = .ok (.iload 5, 2) := by decide +kernel
theorem dX9_nights_170 : decode cX9_nights 170 = .ok (.iload 7, 2) := by decide +kernel
theorem dX9_nights_172 : decode cX9_nights 172 = .ok (.ifCond .eq 7, 3) := by decide +kernel
theorem dX9_nights_175 : decode cX9_nights 175 = .ok (.iconst 1, 1) := by decide +kernel
theorem dX9_nights_176 : decode cX9_nights 176 = .ok (.goto 4, 3) := by decide +kernel
theorem dX9_nights_179 : decode cX9_nights 179 = .ok (.iconst 0, 1) := by decide +kernel
theorem dX9_nights_180 : decode cX9_nights 180 = .ok (.iadd, 1) := by decide +kernel
theorem dX9_nights_181 : decode cX9_nights 181 = .ok (.istore 5, 2) := by decide +kernel
theorem dX9_nights_183 : decode cX9_nights 183 = .ok (.iinc 6 1, 3) := by decide +kernel
theorem dX9_nights_186 : decode cX9_nights 186 = .ok (.goto (-134), 3) := by decide +kernel
theorem dX9_nights_189 : decode cX9_nights 189 = .ok (.iload_n 3, 1) := by decide +kernel
theorem dX9_nights_190 : decode cX9_nights 190 = .ok (.ifCond .ne 10, 3) := by decide +kernel
theorem dX9_nights_193 : decode cX9_nights 193 = .ok (.aload_n 0, 1) := by decide +kernel
theorem dX9_nights_194 : decode cX9_nights 194 = .ok (.getfield 240, 3) := by decide +kernel
theorem dX9_nights_197 : decode cX9_nights 197 = .ok (.goto 15, 3) := by decide +kernel
theorem dX9_nights_200 : decode cX9_nights 200 = .ok (.iload_n 3, 1) := by decide +kernel
theorem dX9_nights_201 : decode cX9_nights 201 = .ok (.iconst 1, 1) := by decide +kernel
theorem dX9_nights_202 : decode cX9_nights 202 = .ok (.if_icmp .ne 8, 3) := by decide +kernel
theorem dX9_nights_205 : decode cX9_nights 205 = .ok (.iload 4, 2) := by decide +kernel
theorem dX9_nights_207 : decode cX9_nights 207 = .ok (.goto 5, 3) := by decide +kernel
theorem dX9_nights_210 : decode cX9_nights 210 = .ok (.iload 5, 2) := by decide +kernel
theorem dX9_nights_212 : decode cX9_nights 212 = .ok (.ireturn, 1) := by decide +kernel
theorem dX9_number_0 : decode cX9_number 0 = .ok (.aload_n 0, 1) := by decide +kernel
theorem dX9_number_1 : decode cX9_number 1 = .ok (.getfield 36, 3) := by decide +kernel
theorem dX9_number_4 : decode cX9_number 4 = .ok (.ifCond .le 5, 3) := by decide +kernel
theorem dX9_number_7 : decode cX9_number 7 = .ok (.iconst 0, 1) := by decide +kernel
theorem dX9_number_8 : decode cX9_number 8 = .ok (.ireturn, 1) := by decide +kernel
theorem dX9_number_9 : decode cX9_number 9 = .ok (.aload_n 0, 1) := by decide +kernel
theorem dX9_number_10 : decode cX9_number 10 = .ok (.getfield 20, 3) := by decide +kernel
theorem dX9_number_13 : decode cX9_number 13 = .ok (.iconst 2, 1) := by decide +kernel
theorem dX9_number_14 : decode cX9_number 14 = .ok (.if_icmp .eq 12, 3) := by decide +kernel
theorem dX9_number_17 : decode cX9_number 17 = .ok (.aload_n 0, 1) := by decide +kernel
theorem dX9_number_18 : decode cX9_number 18 = .ok (.iconst 1, 1) := by decide +kernel
theorem dX9_number_19 : decode cX9_number 19 = .ok (.aload_n 0, 1) := by decide +kernel
theorem dX9_number_20 : decode cX9_number 20 = .ok (.getfield 23, 3) := by decide +kernel
theorem dX9_number_23 : decode cX9_number 23 = .ok (.invokevirtual 276, 3) := by decide +kernel
theorem dX9_number_26 : decode cX9_number 26 = .ok (.aload_n 0, 1) := by decide +kernel
theorem dX9_number_27 : decode cX9_number 27 = .ok (.getfield 36, 3) := by decide +kernel
theorem dX9_number_30 : decode cX9_number 30 = .ok (.ifCond .ne 24, 3) := by decide +kernel
theorem dX9_number_33 : decode cX9_number 33 = .ok (.aload_n 0, 1) := by decide +kernel
theorem dX9_number_34 : decode cX9_number 34 = .ok (.getfield 29, 3) := by decide +kernel
theorem dX9_number_37 : decode cX9_number 37 = .ok (.iload_n 1, 1) := by decide +kernel
theorem dX9_number_38 : decode cX9_number 38 = .ok (.iload_n 2, 1) := by decide +kernel
theorem dX9_number_39 : decode cX9_number 39 = .ok (.invokestatic 340, 3) := by decide +kernel
theorem dX9_number_42 : decode cX9_number 42 = .ok (.ifCond .ne 12, 3) := by decide +kernel
theorem dX9_number_45 : decode cX9_number 45 = .ok (.aload_n 0, 1) := by decide +kernel
theorem dX9_number_46 : decode cX9_number 46 = .ok (.iconst 4, 1) := by decide +kernel
theorem dX9_number_47 : decode cX9_number 47 = .ok (.aload_n 0, 1) := by decide +kernel
theorem dX9_number_48 : decode cX9_number 48 = .ok (.getfield 23, 3) := by decide +kernel
theorem dX9_number_51 : decode cX9_number 51 = .ok (.invokevirtual 276, 3) := by decide +kernel
theorem dX9_number_54 : decode cX9_number 54 = .ok (.aload_n 0, 1) := by decide +kernel
theorem dX9_number_55 : decode cX9_number 55 = .ok (.getfield 29, 3) := by decide +kernel
theorem dX9_number_58 : decode cX9_number 58 = .ok (.istore_n 3, 1) := by decide +kernel
theorem dX9_number_59 : decode cX9_number 59 = .ok (.aload_n 0, 1) := by decide +kernel
theorem dX9_number_60 : decode cX9_number 60 = .ok (.getfield 36, 3) := by decide +kernel
theorem dX9_number_63 : decode cX9_number 63 = .ok (.ifCond .ne 7, 3) := by decide +kernel
theorem dX9_number_66 : decode cX9_number 66 = .ok (.aload_n 0, 1) := by decide +kernel
theorem dX9_number_67 : decode cX9_number 67 = .ok (.invokevirtual 283, 3) := by decide +kernel
theorem dX9_number_70 : decode cX9_number 70 = .ok (.iload_n 3, 1) := by decide +kernel
theorem dX9_number_71 : decode cX9_number 71 = .ok (.ireturn, 1) := by decide +kernel
theorem dX9_octet_0 : decode cX9_octet 0 = .ok (.iload_n 1, 1) := by decide +kernel
theorem dX9_octet_1 : decode cX9_octet 1 = .ok (.iconst 0, 1) := by decide +kernel
theorem dX9_octet_2 : decode cX9_octet 2 = .ok (.aload_n 0, 1) := by decide +kernel
theorem dX9_octet_3 : decode cX9_octet 3 = .ok (.getfield 258, 3) := by decide +kernel
theorem dX9_octet_6 : decode cX9_octet 6 = .ok (.iconst 1, 1) := by decide +kernel
theorem dX9_octet_7 : decode cX9_octet 7 = .ok (.isub, 1) := by decide +kernel
theorem dX9_octet_8 : decode cX9_octet 8 = .ok (.invokestatic 340, 3) := by decide +kernel
theorem dX9_octet_11 : decode cX9_octet 11 = .ok (.ifCond .eq 12, 3) := by decide +kernel
theorem dX9_octet_14 : decode cX9_octet 14 = .ok (.aload_n 0, 1) := by decide +kernel
theorem dX9_octet_15 : decode cX9_octet 15 = .ok (.getfield 255, 3) := by decide +kernel
theorem dX9_octet_18 : decode cX9_octet 18 = .ok (.iload_n 1, 1) := by decide +kernel
theorem dX9_octet_19 : decode cX9_octet 19 = .ok (.iaload, 1) := by decide +kernel
theorem dX9_octet_20 : decode cX9_octet 20 = .ok (.goto 4, 3) := by decide +kernel
theorem dX9_octet_23 : decode cX9_octet 23 = .ok (.iconst (-1), 1) := by decide +kernel
theorem dX9_octet_24 : decode cX9_octet 24 = .ok (.ireturn, 1) := by decide +kernel
theorem dX9_oddsAll_0 : decode cX9_oddsAll 0 = .ok (.iconst 0, 1) := by decide +kernel
theorem dX9_oddsAll_1 : decode cX9_oddsAll 1 = .ok (.istore_n 1, 1) := by decide +kernel
theorem dX9_oddsAll_2 : decode cX9_oddsAll 2 = .ok (.iconst 0, 1) := by decide +kernel
theorem dX9_oddsAll_3 : decode cX9_oddsAll 3 = .ok (.istore_n 2, 1) := by decide +kernel
theorem dX9_oddsAll_4 : decode cX9_oddsAll 4 = .ok (.iload_n 2, 1) := by decide +kernel
theorem dX9_oddsAll_5 : decode cX9_oddsAll 5 = .ok (.aload_n 0, 1) := by decide +kernel
theorem dX9_oddsAll_6 : decode cX9_oddsAll 6 = .ok (.getfield 76, 3) := by decide +kernel
theorem dX9_oddsAll_9 : decode cX9_oddsAll 9 = .ok (.aload_n 0, 1) := by decide +kernel
theorem dX9_oddsAll_10 : decode cX9_oddsAll 10 = .ok (.getfield 48, 3) := by decide +kernel
theorem dX9_oddsAll_13 : decode cX9_oddsAll 13 = .ok (.iaload, 1) := by decide +kernel
theorem dX9_oddsAll_14 : decode cX9_oddsAll 14 = .ok (.if_icmp .ge 26, 3) := by decide +kernel
theorem dX9_oddsAll_17 : decode cX9_oddsAll 17 = .ok (.iload_n 1, 1) := by decide +kernel
theorem dX9_oddsAll_18 : decode cX9_oddsAll 18 = .ok (.aload_n 0, 1) := by decide +kernel
theorem dX9_oddsAll_19 : decode cX9_oddsAll 19 = .ok (.getfield 91, 3) := by decide +kernel
theorem dX9_oddsAll_22 : decode cX9_oddsAll 22 = .ok (.bipush 6, 2) := by decide +kernel
theorem dX9_oddsAll_24 : decode cX9_oddsAll 24 = .ok (.aload_n 0, 1) := by decide +kernel
theorem dX9_oddsAll_25 : decode cX9_oddsAll 25 = .ok (.getfield 48, 3) := by decide +kernel
theorem dX9_oddsAll_28 : decode cX9_oddsAll 28 = .ok (.imul, 1) := by decide +kernel
theorem dX9_oddsAll_29 : decode cX9_oddsAll 29 = .ok (.iload_n 2, 1) := by decide +kernel
theorem dX9_oddsAll_30 : decode cX9_oddsAll 30 = .ok (.iadd, 1) := by decide +kernel
theorem dX9_oddsAll_31 : decode cX9_oddsAll 31 = .ok (.iaload, 1) := by decide +kernel
theorem dX9_oddsAll_32 : decode cX9_oddsAll 32 = .ok (.iadd, 1) := by decide +kernel
theorem dX9_oddsAll_33 : decode cX9_oddsAll 33 = .ok (.istore_n 1, 1) := by decide +kernel
theorem dX9_oddsAll_34 : decode cX9_oddsAll 34 = .ok (.iinc 2 1, 3) := by decide +kernel
theorem dX9_oddsAll_37 : decode cX9_oddsAll 37 = .ok (.goto (-33), 3) := by decide +kernel
theorem dX9_oddsAll_40 : decode cX9_oddsAll 40 = .ok (.iload_n 1, 1) := by decide +kernel
theorem dX9_oddsAll_41 : decode cX9_oddsAll 41 = .ok (.ireturn, 1) := by decide +kernel
theorem dX9_oddsIf_0 : decode cX9_oddsIf 0 = .ok (.aload_n 0, 1) := by decide +kernel
theorem dX9_oddsIf_1 : decode cX9_oddsIf 1 = .ok (.iload_n 1, 1) := by decide +kernel
theorem dX9_oddsIf_2 : decode cX9_oddsIf 2 = .ok (.invokevirtual 475, 3) := by decide +kernel
theorem dX9_oddsIf_5 : decode cX9_oddsIf 5 = .ok (.ifCond .eq 5, 3) := by decide +kernel
theorem dX9_oddsIf_8 : decode cX9_oddsIf 8 = .ok (.iconst 0, 1) := by decide +kernel
theorem dX9_oddsIf_9 : decode cX9_oddsIf 9 = .ok (.ireturn, 1) := by decide +kernel
theorem dX9_oddsIf_10 : decode cX9_oddsIf 10 = .ok (.aload_n 0, 1) := by decide +kernel
theorem dX9_oddsIf_11 : decode cX9_oddsIf 11 = .ok (.iconst 0, 1) := by decide +kernel
theorem dX9_oddsIf_12 : decode cX9_oddsIf 12 = .ok (.invokevirtual 502, 3) := by decide +kernel
theorem dX9_oddsIf_15 : decode cX9_oddsIf 15 = .ok (.aload_n 0, 1) := by decide +kernel
theorem dX9_oddsIf_16 : decode cX9_oddsIf 16 = .ok (.aload_n 0, 1) := by decide +kernel
theorem dX9_oddsIf_17 : decode cX9_oddsIf 17 = .ok (.iconst 0, 1) := by decide +kernel
theorem dX9_oddsIf_18 : decode cX9_oddsIf 18 = .ok (.iload_n 1, 1) := by decide +kernel
theorem dX9_oddsIf_19 : decode cX9_oddsIf 19 = .ok (.invokevirtual 505, 3) := by decide +kernel
theorem dX9_oddsIf_22 : decode cX9_oddsIf 22 = .ok (.aload_n 0, 1) := by decide +kernel
theorem dX9_oddsIf_23 : decode cX9_oddsIf 23 = .ok (.getfield 82, 3) := by decide +kernel
theorem dX9_oddsIf_26 : decode cX9_oddsIf 26 = .ok (.bipush 6, 2) := by decide +kernel
theorem dX9_oddsIf_28 : decode cX9_oddsIf 28 = .ok (.aload_n 0, 1) := by decide +kernel
theorem dX9_oddsIf_29 : decode cX9_oddsIf 29 = .ok (.getfield 48, 3) := by decide +kernel
theorem dX9_oddsIf_32 : decode cX9_oddsIf 32 = .ok (.imul, 1) := by decide +kernel
theorem dX9_oddsIf_33 : decode cX9_oddsIf 33 = .ok (.iload_n 2, 1) := by decide +kernel
theorem dX9_oddsIf_34 : decode cX9_oddsIf 34 = .ok (.iadd, 1) := by decide +kernel
theorem dX9_oddsIf_35 : decode cX9_oddsIf 35 = .ok (.iaload, 1) := by decide +kernel
theorem dX9_oddsIf_36 : decode cX9_oddsIf 36 = .ok (.invokevirtual 508, 3) := by decide +kernel
theorem dX9_oddsIf_39 : decode cX9_oddsIf 39 = .ok (.iconst 0, 1) := by decide +kernel
theorem dX9_oddsIf_40 : decode cX9_oddsIf 40 = .ok (.istore_n 3, 1) := by decide +kernel
theorem dX9_oddsIf_41 : decode cX9_oddsIf 41 = .ok (.iload_n 3, 1) := by decide +kernel
theorem dX9_oddsIf_42 : decode cX9_oddsIf 42 = .ok (.aload_n 0, 1) := by decide +kernel
theorem dX9_oddsIf_43 : decode cX9_oddsIf 43 = .ok (.invokevirtual 445, 3) := by decide +kernel
theorem dX9_oddsIf_46 : decode cX9_oddsIf 46 = .ok (.if_icmp .ge 26, 3) := by decide +kernel
theorem dX9_oddsIf_49 : decode cX9_oddsIf 49 = .ok (.aload_n 0, 1) := by decide +kernel
theorem dX9_oddsIf_50 : decode cX9_oddsIf 50 = .ok (.getfield 234, 3) := by decide +kernel
theorem dX9_oddsIf_53 : decode cX9_oddsIf 53 = .ok (.iload_n 3, 1) := by decide +kernel
theorem dX9_oddsIf_54 : decode cX9_oddsIf 54 = .ok (.iaload, 1) := by decide +kernel
theorem dX9_oddsIf_55 : decode cX9_oddsIf 55 = .ok (.aload_n 0, 1) := by decide +kernel
theorem dX9_oddsIf_56 : decode cX9_oddsIf 56 = .ok (.getfield 216, 3) := by decide +kernel
theorem dX9_oddsIf_59 : decode cX9_oddsIf 59 = .ok (.iload_n 3, 1) := by decide +kernel
theorem dX9_oddsIf_60 : decode cX9_oddsIf 60 = .ok (.iaload, 1) := by decide +kernel
theorem dX9_oddsIf_61 : decode cX9_oddsIf 61 = .ok (.if_icmp .eq 5, 3) := by decide +kernel
theorem dX9_oddsIf_64 : decode cX9_oddsIf 64 = .ok (.iconst 0, 1) := by decide +kernel
theorem dX9_oddsIf_65 : decode cX9_oddsIf 65 = .ok (.ireturn, 1) := by decide +kernel
theorem dX9_oddsIf_66 : decode cX9_oddsIf 66 = .ok (.iinc 3 1, 3) := by decide +kernel
theorem dX9_oddsIf_69 : decode cX9_oddsIf 69 = .ok (.goto (-28), 3) := by decide +kernel
theorem dX9_oddsIf_72 : decode cX9_oddsIf 72 = .ok (.aload_n 0, 1) := by decide +kernel
theorem dX9_oddsIf_73 : decode cX9_oddsIf 73 = .ok (.getfield 64, 3) := by decide +kernel
theorem dX9_oddsIf_76 : decode cX9_oddsIf 76 = .ok (.bipush 12, 2) := by decide +kernel
theorem dX9_oddsIf_78 : decode cX9_oddsIf 78 = .ok (.aload_n 0, 1) := by decide +kernel
theorem dX9_oddsIf_79 : decode cX9_oddsIf 79 = .ok (.getfield 48, 3) := by decide +kernel
theorem dX9_oddsIf_82 : decode cX9_oddsIf 82 = .ok (.imul, 1) := by decide +kernel
theorem dX9_oddsIf_83 : decode cX9_oddsIf 83 = .ok (.iload_n 1, 1) := by decide +kernel
theorem dX9_oddsIf_84 : decode cX9_oddsIf 84 = .ok (.iadd, 1) := by decide +kernel
theorem dX9_oddsIf_85 : decode cX9_oddsIf 85 = .ok (.iaload, 1) := by decide +kernel
theorem dX9_oddsIf_86 : decode cX9_oddsIf 86 = .ok (.aload_n 0, 1) := by decide +kernel
theorem dX9_oddsIf_87 : decode cX9_oddsIf 87 = .ok (.getfield 91, 3) := by decide +kernel
theorem dX9_oddsIf_90 : decode cX9_oddsIf 90 = .ok (.bipush 6, 2) := by decide +kernel
theorem dX9_oddsIf_92 : decode cX9_oddsIf 92 = .ok (.aload_n 0, 1) := by decide +kernel
theorem dX9_oddsIf_93 : decode cX9_oddsIf 93 = .ok (.getfield 48, 3) := by decide +kernel
theorem dX9_oddsIf_96 : decode cX9_oddsIf 96 = .ok (.imul, 1) := by decide +kernel
theorem dX9_oddsIf_97 : decode cX9_oddsIf 97 = .ok (.iload_n 2, 1) := by decide +kernel
theorem dX9_oddsIf_98 : decode cX9_oddsIf 98 = .ok (.iadd, 1) := by decide +kernel
theorem dX9_oddsIf_99 : decode cX9_oddsIf 99 = .ok (.iaload, 1) := by decide +kernel
theorem dX9_oddsIf_100 : decode cX9_oddsIf 100 = .ok (.imul, 1) := by decide +kernel
theorem dX9_oddsIf_101 : decode cX9_oddsIf 101 = .ok (.ireturn, 1) := by decide +kernel
theorem dX9_on_0 : decode cX9_on 0 = .ok (.aload_n 0, 1) := by decide +kernel
theorem dX9_on_1 : decode cX9_on 1 = .ok (.getfield 13, 3) := by decide +kernel
theorem dX9_on_4 : decode cX9_on 4 = .ok (.istore_n 1, 1) := by decide +kernel
theorem dX9_on_5 : decode cX9_on 5 = .ok (.aload_n 0, 1) := by decide +kernel
theorem dX9_on_6 : decode cX9_on 6 = .ok (.iconst 0, 1) := by decide +kernel
theorem dX9_on_7 : decode cX9_on 7 = .ok (.putfield 13, 3) := by decide +kernel
theorem dX9_on_10 : decode cX9_on 10 = .ok (.aload_n 0, 1) := by decide +kernel
theorem dX9_on_11 : decode cX9_on 11 = .ok (.iload_n 1, 1) := by decide +kernel
theorem dX9_on_12 : decode cX9_on 12 = .ok (.invokevirtual 606, 3) := by decide +kernel
theorem dX9_on_15 : decode cX9_on 15 = .ok (.ifCond .ne 17, 3) := by decide +kernel
theorem dX9_on_18 : decode cX9_on 18 = .ok (.aload_n 0, 1) := by decide +kernel
theorem dX9_on_19 : decode cX9_on 19 = .ok (.iconst 5, 1) := by decide +kernel
theorem dX9_on_20 : decode cX9_on 20 = .ok (.invokevirtual 261, 3) := by decide +kernel
theorem dX9_on_23 : decode cX9_on 23 = .ok (.ifCond .lt 7, 3) := by decide +kernel
theorem dX9_on_26 : decode cX9_on 26 = .ok (.iconst 1, 1) := by decide +kernel
theorem dX9_on_27 : decode cX9_on 27 = .ok (.goto 4, 3) := by decide +kernel
theorem dX9_on_30 : decode cX9_on 30 = .ok (.iconst 0, 1) := by decide +kernel
theorem dX9_on_31 : decode cX9_on 31 = .ok (.ireturn, 1) := by decide +kernel
theorem dX9_on_32 : decode cX9_on 32 = .ok (.aload_n 0, 1) := by decide +kernel
theorem dX9_on_33 : decode cX9_on 33 = .ok (.getfield 162, 3) := by decide +kernel
theorem dX9_on_36 : decode cX9_on 36 = .ok (.iconst 0, 1) := by decide +kernel
theorem dX9_on_37 : decode cX9_on 37 = .ok (.aload_n 0, 1) := by decide +kernel
theorem dX9_on_38 : decode cX9_on 38 = .ok (.getfield 7, 3) := by decide +kernel
theorem dX9_on_41 : decode cX9_on 41 = .ok (.iconst 0, 1) := by decide +kernel
theorem dX9_on_42 : decode cX9_on 42 = .ok (.iaload, 1) := by decide +kernel
theorem dX9_on_43 : decode cX9_on 43 = .ok (.bipush 8, 2) := by decide +kernel
theorem dX9_on_45 : decode cX9_on 45 = .ok (.ishl, 1) := by decide +kernel
theorem dX9_on_46 : decode cX9_on 46 = .ok (.aload_n 0, 1) := by decide +kernel
theorem dX9_on_47 : decode cX9_on 47 = .ok (.getfield 7, 3) := by decide +kernel
theorem dX9_on_50 : decode cX9_on 50 = .ok (.iconst 1, 1) := by decide +kernel
theorem dX9_on_51 : decode cX9_on 51 = .ok (.iaload, 1) := by decide +kernel
theorem dX9_on_52 : decode cX9_on 52 = .ok (.ior, 1) := by decide +kernel
theorem dX9_on_53 : decode cX9_on 53 = .ok (.iastore, 1) := by decide +kernel
theorem dX9_on_54 : decode cX9_on 54 = .ok (.iconst 0, 1) := by decide +kernel
theorem dX9_on_55 : decode cX9_on 55 = .ok (.istore_n 2, 1) := by decide +kernel
theorem dX9_on_56 : decode cX9_on 56 = .ok (.iload_n 2, 1) := by decide +kernel
theorem dX9_on_57 : decode cX9_on 57 = .ok (.aload_n 0, 1) := by decide +kernel
theorem dX9_on_58 : decode cX9_on 58 = .ok (.invokevirtual 445, 3) := by decide +kernel
theorem dX9_on_61 : decode cX9_on 61 = .ok (.if_icmp .ge 146, 3) := by decide +kernel
theorem dX9_on_64 : decode cX9_on 64 = .ok (.iconst 2, 1) := by decide +kernel
theorem dX9_on_65 : decode cX9_on 65 = .ok (.bipush 7, 2) := by decide +kernel
theorem dX9_on_67 : decode cX9_on 67 = .ok (.iload_n 2, 1) := by decide +kernel
theorem dX9_on_68 : decode cX9_on 68 = .ok (.imul, 1) := by decide +kernel
theorem dX9_on_69 : decode cX9_on 69 = .ok (.iadd, 1) := by decide +kernel
theorem dX9_on_70 : decode cX9_on 70 = .ok (.istore_n 3, 1) := by decide +kernel
theorem dX9_on_71 : decode cX9_on 71 = .ok (.aload_n 0, 1) := by decide +kernel
theorem dX9_on_72 : decode cX9_on 72 = .ok (.getfield 7, 3) := by decide +kernel
theorem dX9_on_75 : decode cX9_on 75 = .ok (.iload_n 3, 1) := by decide +kernel
theorem dX9_on_76 : decode cX9_on 76 = .ok (.iaload, 1) := by decide +kernel
theorem dX9_on_77 : decode cX9_on 77 = .ok (.istore 4, 2) := by decide +kernel
theorem dX9_on_79 : decode cX9_on 79 = .ok (.aload_n 0, 1) := by decide +kernel
theorem dX9_on_80 : decode cX9_on 80 = .ok (.iload 4, 2) := by decide +kernel
theorem dX9_on_82 : decode cX9_on 82 = .ok (.invokevirtual 442, 3) := by decide +kernel
theorem dX9_on_85 : decode cX9_on 85 = .ok (.aload_n 0, 1) := by decide +kernel
theorem dX9_on_86 : decode cX9_on 86 = .ok (.getfield 165, 3) := by decide +kernel
theorem dX9_on_89 : decode cX9_on 89 = .ok (.iload_n 2, 1) := by decide +kernel
theorem dX9_on_90 : decode cX9_on 90 = .ok (.iload 4, 2) := by decide +kernel
theorem dX9_on_92 : decode cX9_on 92 = .ok (.iastore, 1) := by decide +kernel
theorem dX9_on_93 : decode cX9_on 93 = .ok (.aload_n 0, 1) := by decide +kernel
theorem dX9_on_94 : decode cX9_on 94 = .ok (.getfield 168, 3) := by decide +kernel
theorem dX9_on_97 : decode cX9_on 97 = .ok (.iload 4, 2) := by decide +kernel
theorem dX9_on_99 : decode cX9_on 99 = .ok (.aload_n 0, 1) := by decide +kernel
theorem dX9_on_100 : decode cX9_on 100 = .ok (.getfield 7, 3) := by decide +kernel
theorem dX9_on_103 : decode cX9_on 103 = .ok (.iload_n 3, 1) := by decide +kernel
theorem dX9_on_104 : decode cX9_on 104 = .ok (.iconst 1, 1) := by decide +kernel
theorem dX9_on_105 : decode cX9_on 105 = .ok (.iadd, 1) := by decide +kernel
theorem dX9_on_106 : decode cX9_on 106 = .ok (.iaload, 1) := by decide +kernel
theorem dX9_on_107 : decode cX9_on 107 = .ok (.iastore, 1) := by decide +kernel
theorem dX9_on_108 : decode cX9_on 108 = .ok (.aload_n 0, 1) := by decide +kernel
theorem dX9_on_109 : decode cX9_on 109 = .ok (.getfield 171, 3) := by decide +kernel
theorem dX9_on_112 : decode cX9_on 112 = .ok (.iload 4, 2) := by decide +kernel
theorem dX9_on_114 : decode cX9_on 114 = .ok (.aload_n 0, 1) := by decide +kernel
theorem dX9_on_115 : decode cX9_on 115 = .ok (.getfield 7, 3) := by decide +kernel
theorem dX9_on_118 : decode cX9_on 118 = .ok (.iload_n 3, 1) := by decide +kernel
theorem dX9_on_119 : decode cX9_on 119 = .ok (.iconst 2, 1) := by decide +kernel
theorem dX9_on_120 : decode cX9_on 120 = .ok (.iadd, 1) := by decide +kernel
theorem dX9_on_121 : decode cX9_on 121 = .ok (.iaload, 1) := by decide +kernel
theorem dX9_on_122 : decode cX9_on 122 = .ok (.iconst 1, 1) := by decide +kernel
theorem dX9_on_123 : decode cX9_on 123 = .ok (.isub, 1) := by decide +kernel
theorem dX9_on_124 : decode cX9_on 124 = .ok (.iastore, 1) := by decide +kernel
theorem dX9_on_125 : decode cX9_on 125 = .ok (.aload_n 0, 1) := by decide +kernel
theorem dX9_on_126 : decode cX9_on 126 = .ok (.getfield 174, 3) := by decide +kernel
theorem dX9_on_129 : decode cX9_on 129 = .ok (.iload 4, 2) := by decide +kernel
theorem dX9_on_131 : decode cX9_on 131 = .ok (.aload_n 0, 1) := by decide +kernel
theorem dX9_on_132 : decode cX9_on 132 = .ok (.getfield 7, 3) := by decide +kernel
theorem dX9_on_135 : decode cX9_on 135 = .ok (.iload_n 3, 1) := by decide +kernel
theorem dX9_on_136 : decode cX9_on 136 = .ok (.iconst 3, 1) := by decide +kernel
theorem dX9_on_137 : decode cX9_on 137 = .ok (.iadd, 1) := by decide +kernel
theorem dX9_on_138 : decode cX9_on 138 = .ok (.iaload, 1) := by decide +kernel
theorem dX9_on_139 : decode cX9_on 139 = .ok (.iastore, 1) := by decide +kernel
theorem dX9_on_140 : decode cX9_on 140 = .ok (.aload_n 0, 1) := by decide +kernel
theorem dX9_on_141 : decode cX9_on 141 = .ok (.getfield 177, 3) := by decide +kernel
theorem dX9_on_144 : decode cX9_on 144 = .ok (.iload 4, 2) := by decide +kernel
theorem dX9_on_146 : decode cX9_on 146 = .ok (.aload_n 0, 1) := by decide +kernel
theorem dX9_on_147 : decode cX9_on 147 = .ok (.getfield 7, 3) := by decide +kernel
theorem dX9_on_150 : decode cX9_on 150 = .ok (.iload_n 3, 1) := by decide +kernel
theorem dX9_on_151 : decode cX9_on 151 = .ok (.iconst 4, 1) := by decide +kernel
theorem dX9_on_152 : decode cX9_on 152 = .ok (.iadd, 1) := by decide +kernel
theorem dX9_on_153 : decode cX9_on 153 = .ok (.iaload, 1) := by decide +kernel
theorem dX9_on_154 : decode cX9_on 154 = .ok (.iconst 1, 1) := by decide +kernel
theorem dX9_on_155 : decode cX9_on 155 = .ok (.isub, 1) := by decide +kernel
theorem dX9_on_156 : decode cX9_on 156 = .ok (.iastore, 1) := by decide +kernel
theorem dX9_on_157 : decode cX9_on 157 = .ok (.aload_n 0, 1) := by decide +kernel
theorem dX9_on_158 : decode cX9_on 158 = .ok (.getfield 186, 3) := by decide +kernel
theorem dX9_on_161 : decode cX9_on 161 = .ok (.iload 4, 2) := by decide +kernel
theorem dX9_on_163 : decode cX9_on 163 = .ok (.aload_n 0, 1) := by decide +kernel
theorem dX9_on_164 : decode cX9_on 164 = .ok (.getfield 7, 3) := by decide +kernel
theorem dX9_on_167 : decode cX9_on 167 = .ok (.iload_n 3, 1) := by decide +kernel
theorem dX9_on_168 : decode cX9_on 168 = .ok (.iconst 5, 1) := by decide +kernel
theorem dX9_on_169 : decode cX9_on 169 = .ok (.iadd, 1) := by decide +kernel
theorem dX9_on_170 : decode cX9_on 170 = .ok (.iaload, 1) := by decide +kernel
theorem dX9_on_171 : decode cX9_on 171 = .ok (.bipush 8, 2) := by decide +kernel
theorem dX9_on_173 : decode cX9_on 173 = .ok (.ishl, 1) := by decide +kernel
theorem dX9_on_174 : decode cX9_on 174 = .ok (.aload_n 0, 1) := by decide +kernel
theorem dX9_on_175 : decode cX9_on 175 = .ok (.getfield 7, 3) := by decide +kernel
theorem dX9_on_178 : decode cX9_on 178 = .ok (.iload_n 3, 1) := by decide +kernel
theorem dX9_on_179 : decode cX9_on 179 = .ok (.bipush 6, 2) := by decide +kernel
theorem dX9_on_181 : decode cX9_on 181 = .ok (.iadd, 1) := by decide +kernel
theorem dX9_on_182 : decode cX9_on 182 = .ok (.iaload, 1) := by decide +kernel
theorem dX9_on_183 : decode cX9_on 183 = .ok (.ior, 1) := by decide +kernel
theorem dX9_on_184 : decode cX9_on 184 = .ok (.iastore, 1) := by decide +kernel
theorem dX9_on_185 : decode cX9_on 185 = .ok (.aload_n 0, 1) := by decide +kernel
theorem dX9_on_186 : decode cX9_on 186 = .ok (.getfield 180, 3) := by decide +kernel
theorem dX9_on_189 : decode cX9_on 189 = .ok (.iload 4, 2) := by decide +kernel
theorem dX9_on_191 : decode cX9_on 191 = .ok (.iconst (-1), 1) := by decide +kernel
theorem dX9_on_192 : decode cX9_on 192 = .ok (.iastore, 1) := by decide +kernel
theorem dX9_on_193 : decode cX9_on 193 = .ok (.aload_n 0, 1) := by decide +kernel
theorem dX9_on_194 : decode cX9_on 194 = .ok (.getfield 183, 3) := by decide +kernel
theorem dX9_on_197 : decode cX9_on 197 = .ok (.iload 4, 2) := by decide +kernel
theorem dX9_on_199 : decode cX9_on 199 = .ok (.iconst (-1), 1) := by decide +kernel
theorem dX9_on_200 : decode cX9_on 200 = .ok (.iastore, 1) := by decide +kernel
theorem dX9_on_201 : decode cX9_on 201 = .ok (.iinc 2 1, 3) := by decide +kernel
theorem dX9_on_204 : decode cX9_on 204 = .ok (.goto (-148), 3) := by decide +kernel
theorem dX9_on_207 : decode cX9_on 207 = .ok (.iconst 0, 1) := by decide +kernel
theorem dX9_on_208 : decode cX9_on 208 = .ok (.istore_n 2, 1) := by decide +kernel
theorem dX9_on_209 : decode cX9_on 209 = .ok (.iload_n 2, 1) := by decide +kernel
theorem dX9_on_210 : decode cX9_on 210 = .ok (.aload_n 0, 1) := by decide +kernel
theorem dX9_on_211 : decode cX9_on 211 = .ok (.invokevirtual 600, 3) := by decide +kernel
theorem dX9_on_214 : decode cX9_on 214 = .ok (.if_icmp .ge 57, 3) := by decide +kernel
theorem dX9_on_217 : decode cX9_on 217 = .ok (.aload_n 0, 1) := by decide +kernel
theorem dX9_on_218 : decode cX9_on 218 = .ok (.getfield 195, 3) := by decide +kernel
theorem dX9_on_221 : decode cX9_on 221 = .ok (.iload_n 2, 1) := by decide +kernel
theorem dX9_on_222 : decode cX9_on 222 = .ok (.aload_n 0, 1) := by decide +kernel
theorem dX9_on_223 : decode cX9_on 223 = .ok (.getfield 7, 3) := by decide +kernel
theorem dX9_on_226 : decode cX9_on 226 = .ok (.iconst 2, 1) := by decide +kernel
theorem dX9_on_227 : decode cX9_on 227 = .ok (.bipush 7, 2) := by decide +kernel
theorem dX9_on_229 : decode cX9_on 229 = .ok (.aload_n 0, 1) := by decide +kernel
theorem dX9_on_230 : decode cX9_on 230 = .ok (.invokevirtual 445, 3) := by decide +kernel
theorem dX9_on_233 : decode cX9_on 233 = .ok (.imul, 1) := by decide +kernel
theorem dX9_on_234 : decode cX9_on 234 = .ok (.iadd, 1) := by decide +kernel
theorem dX9_on_235 : decode cX9_on 235 = .ok (.iconst 2, 1) := by decide +kernel
theorem dX9_on_236 : decode cX9_on 236 = .ok (.iload_n 2, 1) := by decide +kernel
theorem dX9_on_237 : decode cX9_on 237 = .ok (.imul, 1) := by decide +kernel
theorem dX9_on_238 : decode cX9_on 238 = .ok (.iadd, 1) := by decide +kernel
theorem dX9_on_239 : decode cX9_on 239 = .ok (.iaload, 1) := by decide +kernel
theorem dX9_on_240 : decode cX9_on 240 = .ok (.iastore, 1) := by decide +kernel
theorem dX9_on_241 : decode cX9_on 241 = .ok (.aload_n 0, 1) := by decide +kernel
theorem dX9_on_242 : decode cX9_on 242 = .ok (.getfield 198, 3) := by decide +kernel
theorem dX9_on_245 : decode cX9_on 245 = .ok (.iload_n 2, 1) := by decide +kernel
theorem dX9_on_246 : decode cX9_on 246 = .ok (.aload_n 0, 1) := by decide +kernel
theorem dX9_on_247 : decode cX9_on 247 = .ok (.getfield 7, 3) := by decide +kernel
theorem dX9_on_250 : decode cX9_on 250 = .ok (.iconst 3, 1) := by decide +kernel
theorem dX9_on_251 : decode cX9_on 251 = .ok (.bipush 7, 2) := by decide +kernel
theorem dX9_on_253 : decode cX9_on 253 = .ok (.aload_n 0, 1) := by decide +kernel
theorem dX9_on_254 : decode cX9_on 254 = .ok (.invokevirtual 445, 3) := by decide +kernel
theorem dX9_on_257 : decode cX9_on 257 = .ok (.imul, 1) := by decide +kernel
theorem dX9_on_258 : decode cX9_on 258 = .ok (.iadd, 1) := by decide +kernel
theorem dX9_on_259 : decode cX9_on 259 = .ok (.iconst 2, 1) := by decide +kernel
theorem dX9_on_260 : decode cX9_on 260 = .ok (.iload_n 2, 1) := by decide +kernel
theorem dX9_on_261 : decode cX9_on 261 = .ok (.imul, 1) := by decide +kernel
theorem dX9_on_262 : decode cX9_on 262 = .ok (.iadd, 1) := by decide +kernel
theorem dX9_on_263 : decode cX9_on 263 = .ok (.iaload, 1) := by decide +kernel
theorem dX9_on_264 : decode cX9_on 264 = .ok (.iastore, 1) := by decide +kernel
theorem dX9_on_265 : decode cX9_on 265 = .ok (.iinc 2 1, 3) := by decide +kernel
theorem dX9_on_268 : decode cX9_on 268 = .ok (.goto (-59), 3) := by decide +kernel
theorem dX9_on_271 : decode cX9_on 271 = .ok (.aload_n 0, 1) := by decide +kernel
theorem dX9_on_272 : decode cX9_on 272 = .ok (.getfield 201, 3) := by decide +kernel
theorem dX9_on_275 : decode cX9_on 275 = .ok (.iconst 0, 1) := by decide +kernel
theorem dX9_on_276 : decode cX9_on 276 = .ok (.iconst 0, 1) := by decide +kernel
theorem dX9_on_277 : decode cX9_on 277 = .ok (.iastore, 1) := by decide +kernel
theorem dX9_on_278 : decode cX9_on 278 = .ok (.aload_n 0, 1) := by decide +kernel
theorem dX9_on_279 : decode cX9_on 279 = .ok (.iconst 0, 1) := by decide +kernel
theorem dX9_on_280 : decode cX9_on 280 = .ok (.putfield 210, 3) := by decide +kernel
theorem dX9_on_283 : decode cX9_on 283 = .ok (.aload_n 0, 1) := by decide +kernel
theorem dX9_on_284 : decode cX9_on 284 = .ok (.iconst 0, 1) := by decide +kernel
theorem dX9_on_285 : decode cX9_on 285 = .ok (.putfield 219, 3) := by decide +kernel
theorem dX9_on_288 : decode cX9_on 288 = .ok (.iconst 1, 1) := by decide +kernel
theorem dX9_on_289 : decode cX9_on 289 = .ok (.ireturn, 1) := by decide +kernel
theorem dX9_opens_0 : decode cX9_opens 0 = .ok (.aload_n 0, 1) := by decide +kernel
theorem dX9_opens_1 : decode cX9_opens 1 = .ok (.getfield 140, 3) := by decide +kernel
theorem dX9_opens_4 : decode cX9_opens 4 = .ok (.bipush 8, 2) := by decide +kernel
theorem dX9_opens_6 : decode cX9_opens 6 = .ok (.if_icmp .ne 12, 3) := by decide +kernel
theorem dX9_opens_9 : decode cX9_opens 9 = .ok (.aload_n 0, 1) := by decide +kernel
theorem dX9_opens_10 : decode cX9_opens 10 = .ok (.iconst 5, 1) := by decide +kernel
theorem dX9_opens_11 : decode cX9_opens 11 = .ok (.aload_n 0, 1) := by decide +kernel
theorem dX9_opens_12 : decode cX9_opens 12 = .ok (.getfield 23, 3) := by decide +kernel
theorem dX9_opens_15 : decode cX9_opens 15 = .ok (.invokevirtual 276, 3) := by decide +kernel
theorem dX9_opens_18 : decode cX9_opens 18 = .ok (.aload_n 0, 1) := by decide +kernel
theorem dX9_opens_19 : decode cX9_opens 19 = .ok (.getfield 36, 3) := by decide +kernel
theorem dX9_opens_22 : decode cX9_opens 22 = .ok (.ifCond .le 4, 3) := by decide +kernel
theorem dX9_opens_25 : decode cX9_opens 25 = .ok (.return_, 1) := by decide +kernel
theorem dX9_opens_26 : decode cX9_opens 26 = .ok (.aload_n 0, 1) := by decide +kernel
theorem dX9_opens_27 : decode cX9_opens 27 = .ok (.dup, 1) := by decide +kernel
theorem dX9_opens_28 : decode cX9_opens 28 = .ok (.getfield 140, 3) := by decide +kernel
theorem dX9_opens_31 : decode cX9_opens 31 = .ok (.iconst 1, 1) := by decide +kernel
theorem dX9_opens_32 : decode cX9_opens 32 = .ok (.iadd, 1) := by decide +kernel
theorem dX9_opens_33 : decode cX9_opens 33 = .ok (.putfield 140, 3) := by decide +kernel
theorem dX9_opens_36 : decode cX9_opens 36 = .ok (.aload_n 0, 1) := by decide +kernel
theorem dX9_opens_37 : decode cX9_opens 37 = .ok (.invokevirtual 283, 3) := by decide +kernel
theorem dX9_opens_40 : decode cX9_opens 40 = .ok (.aload_n 0, 1) := by decide +kernel
theorem dX9_opens_41 : decode cX9_opens 41 = .ok (.iload_n 1, 1) := by decide +kernel
theorem dX9_opens_42 : decode cX9_opens 42 = .ok (.invokevirtual 350, 3) := by decide +kernel
theorem dX9_opens_45 : decode cX9_opens 45 = .ok (.return_, 1) := by decide +kernel
theorem dX9_operand_0 : decode cX9_operand 0 = .ok (.aload_n 0, 1) := by decide +kernel
theorem dX9_operand_1 : decode cX9_operand 1 = .ok (.getfield 137, 3) := by decide +kernel
theorem dX9_operand_4 : decode cX9_operand 4 = .ok (.iconst 1, 1) := by decide +kernel
theorem dX9_operand_5 : decode cX9_operand 5 = .ok (.isub, 1) := by decide +kernel
theorem dX9_operand_6 : decode cX9_operand 6 = .ok (.istore_n 1, 1) := by decide +kernel
theorem dX9_operand_7 : decode cX9_operand 7 = .ok (.aload_n 0, 1) := by decide +kernel
theorem dX9_operand_8 : decode cX9_operand 8 = .ok (.getfield 121, 3) := by decide +kernel
theorem dX9_operand_11 : decode cX9_operand 11 = .ok (.iload_n 1, 1) := by decide +kernel
theorem dX9_operand_12 : decode cX9_operand 12 = .ok (.iaload, 1) := by decide +kernel
theorem dX9_operand_13 : decode cX9_operand 13 = .ok (.invokestatic 353, 3) := by decide +kernel
theorem dX9_operand_16 : decode cX9_operand 16 = .ok (.ifCond .eq 16, 3) := by decide +kernel
theorem dX9_operand_19 : decode cX9_operand 19 = .ok (.aload_n 0, 1) := by decide +kernel
theorem dX9_operand_20 : decode cX9_operand 20 = .ok (.getfield 127, 3) := by decide +kernel
theorem dX9_operand_23 : decode cX9_operand 23 = .ok (.iload_n 1, 1) := by decide +kernel
theorem dX9_operand_24 : decode cX9_operand 24 = .ok (.baload, 1) := by decide +kernel
theorem dX9_operand_25 : decode cX9_operand 25 = .ok (.ifCond .eq 7, 3) := by decide +kernel
theorem dX9_operand_28 : decode cX9_operand 28 = .ok (.iconst 1, 1) := by decide +kernel
theorem dX9_operand_29 : decode cX9_operand 29 = .ok (.goto 4, 3) := by decide +kernel
theorem dX9_operand_32 : decode cX9_operand 32 = .ok (.iconst 0, 1) := by decide +kernel
theorem dX9_operand_33 : decode cX9_operand 33 = .ok (.istore_n 2, 1) := by decide +kernel
theorem dX9_operand_34 : decode cX9_operand 34 = .ok (.iload_n 2, 1) := by decide +kernel
theorem dX9_operand_35 : decode cX9_operand 35 = .ok (.ifCond .eq 25, 3) := by decide +kernel
theorem dX9_operand_38 : decode cX9_operand 38 = .ok (.aload_n 0, 1) := by decide +kernel
theorem dX9_operand_39 : decode cX9_operand 39 = .ok (.ldc2_w 322, 3) := by decide +kernel
theorem dX9_operand_42 : decode cX9_operand 42 = .ok (.invokevirtual 356, 3) := by decide +kernel
theorem dX9_operand_45 : decode cX9_operand 45 = .ok (.ifCond .eq 15, 3) := by decide +kernel
theorem dX9_operand_48 : decode cX9_operand 48 = .ok (.aload_n 0, 1) := by decide +kernel
theorem dX9_operand_49 : decode cX9_operand 49 = .ok (.bipush 22, 2) := by decide +kernel
theorem dX9_operand_51 : decode cX9_operand 51 = .ok (.invokevirtual 360, 3) := by decide +kernel
theorem dX9_operand_54 : decode cX9_operand 54 = .ok (.aload_n 0, 1) := by decide +kernel
theorem dX9_operand_55 : decode cX9_operand 55 = .ok (.invokevirtual 283, 3) := by decide +kernel
theorem dX9_operand_58 : decode cX9_operand 58 = .ok (.iconst 0, 1) := by decide +kernel
theorem dX9_operand_59 : decode cX9_operand 59 = .ok (.ireturn, 1) := by decide +kernel
theorem dX9_operand_60 : decode cX9_operand 60 = .ok (.aload_n 0, 1) := by decide +kernel
theorem dX9_operand_61 : decode cX9_operand 61 = .ok (.getfield 127, 3) := by decide +kernel
theorem dX9_operand_64 : decode cX9_operand 64 = .ok (.iload_n 1, 1) := by decide +kernel
theorem dX9_operand_65 : decode cX9_operand 65 = .ok (.iconst 0, 1) := by decide +kernel
theorem dX9_operand_66 : decode cX9_operand 66 = .ok (.bastore, 1) := by decide +kernel
theorem dX9_operand_67 : decode cX9_operand 67 = .ok (.iload_n 2, 1) := by decide +kernel
theorem dX9_operand_68 : decode cX9_operand 68 = .ok (.ifCond .eq 19, 3) := by decide +kernel
theorem dX9_operand_71 : decode cX9_operand 71 = .ok (.aload_n 0, 1) := by decide +kernel
theorem dX9_operand_72 : decode cX9_operand 72 = .ok (.bipush 91, 2) := by decide +kernel
theorem dX9_operand_74 : decode cX9_operand 74 = .ok (.invokevirtual 280, 3) := by decide +kernel
theorem dX9_operand_77 : decode cX9_operand 77 = .ok (.ifCond .eq 10, 3) := by decide +kernel
theorem dX9_operand_80 : decode cX9_operand 80 = .ok (.aload_n 0, 1) := by decide +kernel
theorem dX9_operand_81 : decode cX9_operand 81 = .ok (.iconst 5, 1) := by decide +kernel
theorem dX9_operand_82 : decode cX9_operand 82 = .ok (.invokevirtual 363, 3) := by decide +kernel
theorem dX9_operand_85 : decode cX9_operand 85 = .ok (.iconst 0, 1) := by decide +kernel
theorem dX9_operand_86 : decode cX9_operand 86 = .ok (.ireturn, 1) := by decide +kernel
theorem dX9_operand_87 : decode cX9_operand 87 = .ok (.iload_n 2, 1) := by decide +kernel
theorem dX9_operand_88 : decode cX9_operand 88 = .ok (.ifCond .eq 33, 3) := by decide +kernel
theorem dX9_operand_91 : decode cX9_operand 91 = .ok (.aload_n 0, 1) := by decide +kernel
theorem dX9_operand_92 : decode cX9_operand 92 = .ok (.ldc2_w 324, 3) := by decide +kernel
theorem dX9_operand_95 : decode cX9_operand 95 = .ok (.invokevirtual 356, 3) := by decide +kernel
theorem dX9_operand_98 : decode cX9_operand 98 = .ok (.ifCond .eq 23, 3) := by decide +kernel
theorem dX9_operand_101 : decode cX9_operand 101 = .ok (.aload_n 0, 1) := by decide +kernel
theorem dX9_operand_102 : decode cX9_operand 102 = .ok (.bipush 9, 2) := by decide +kernel
theorem dX9_operand_104 : decode cX9_operand 104 = .ok (.iconst 0, 1) := by decide +kernel
theorem dX9_operand_105 : decode cX9_operand 105 = .ok (.invokevirtual 347, 3) := by decide +kernel
theorem dX9_operand_108 : decode cX9_operand 108 = .ok (.aload_n 0, 1) := by decide +kernel
theorem dX9_operand_109 : decode cX9_operand 109 = .ok (.getfield 124, 3) := by decide +kernel
theorem dX9_operand_112 : decode cX9_operand 112 = .ok (.iload_n 1, 1) := by decide +kernel
theorem dX9_operand_113 : decode cX9_operand 113 = .ok (.iconst 2, 1) := by decide +kernel
theorem dX9_operand_114 : decode cX9_operand 114 = .ok (.iastore, 1) := by decide +kernel
theorem dX9_operand_115 : decode cX9_operand 115 = .ok (.aload_n 0, 1) := by decide +kernel
theorem dX9_operand_116 : decode cX9_operand 116 = .ok (.invokevirtual 283, 3) := by decide +kernel
theorem dX9_operand_119 : decode cX9_operand 119 = .ok (.iconst 1, 1) := by decide +kernel
theorem dX9_operand_120 : decode cX9_operand 120 = .ok (.ireturn, 1) := by decide +kernel
theorem dX9_operand_121 : decode cX9_operand 121 = .ok (.aload_n 0, 1) := by decide +kernel
theorem dX9_operand_122 : decode cX9_operand 122 = .ok (.bipush 40, 2) := by decide +kernel
theorem dX9_operand_124 : decode cX9_operand 124 = .ok (.invokevirtual 280, 3) := by decide +kernel
theorem dX9_operand_127 : decode cX9_operand 127 = .ok (.ifCond .eq 10, 3) := by decide +kernel
theorem dX9_operand_130 : decode cX9_operand 130 = .ok (.aload_n 0, 1) := by decide +kernel
theorem dX9_operand_131 : decode cX9_operand 131 = .ok (.iconst 2, 1) := by decide +kernel
theorem dX9_operand_132 : decode cX9_operand 132 = .ok (.invokevirtual 363, 3) := by decide +kernel
theorem dX9_operand_135 : decode cX9_operand 135 = .ok (.iconst 0, 1) := by decide +kernel
theorem dX9_operand_136 : decode cX9_operand 136 = .ok (.ireturn, 1) := by decide +kernel
theorem dX9_operand_137 : decode cX9_operand 137 = .ok (.aload_n 0, 1) := by decide +kernel
theorem dX9_operand_138 : decode cX9_operand 138 = .ok (.ldc2_w 336, 3) := by decide +kernel
theorem dX9_operand_141 : decode cX9_operand 141 = .ok (.invokevirtual 356, 3) := by decide +kernel
theorem dX9_operand_144 : decode cX9_operand 144 = .ok (.ifCond .ne 13, 3) := by decide +kernel
theorem dX9_operand_147 : decode cX9_operand 147 = .ok (.aload_n 0, 1) := by decide +kernel
theorem dX9_operand_148 : decode cX9_operand 148 = .ok (.ldc2_w 338, 3) := by decide +kernel
theorem dX9_operand_151 : decode cX9_operand 151 = .ok (.invokevirtual 356, 3) := by decide +kernel
theorem dX9_operand_154 : decode cX9_operand 154 = .ok (.ifCond .eq 69, 3) := by decide +kernel
theorem dX9_operand_157 : decode cX9_operand 157 = .ok (.aload_n 0, 1) := by decide +kernel
theorem dX9_operand_158 : decode cX9_operand 158 = .ok (.ldc2_w 336, 3) := by decide +kernel
theorem dX9_operand_161 : decode cX9_operand 161 = .ok (.invokevirtual 356, 3) := by decide +kernel
theorem dX9_operand_164 : decode cX9_operand 164 = .ok (.ifCond .eq 8, 3) := by decide +kernel
theorem dX9_operand_167 : decode cX9_operand 167 = .ok (.bipush 15, 2) := by decide +kernel
theorem dX9_operand_169 : decode cX9_operand 169 = .ok (.goto 5, 3) := by decide +kernel
theorem dX9_operand_172 : decode cX9_operand 172 = .ok (.bipush 16, 2) := by decide +kernel
theorem dX9_operand_174 : decode cX9_operand 174 = .ok (.istore_n 3, 1) := by decide +kernel
theorem dX9_operand_175 : decode cX9_operand 175 = .ok (.aload_n 0, 1) := by decide +kernel
theorem dX9_operand_176 : decode cX9_operand 176 = .ok (.invokevirtual 283, 3) := by decide +kernel
theorem dX9_operand_179 : decode cX9_operand 179 = .ok (.aload_n 0, 1) := by decide +kernel
theorem dX9_operand_180 : decode cX9_operand 180 = .ok (.bipush 40, 2) := by decide +kernel
theorem dX9_operand_182 : decode cX9_operand 182 = .ok (.invokevirtual 280, 3) := by decide +kernel
theorem dX9_operand_185 : decode cX9_operand 185 = .ok (.ifCond .ne 12, 3) := by decide +kernel
theorem dX9_operand_188 : decode cX9_operand 188 = .ok (.aload_n 0, 1) := by decide +kernel
theorem dX9_operand_189 : decode cX9_operand 189 = .ok (.iconst 1, 1) := by decide +kernel
theorem dX9_operand_190 : decode cX9_operand 190 = .ok (.aload_n 0, 1) := by decide +kernel
theorem dX9_operand_191 : decode cX9_operand 191 = .ok (.getfield 23, 3) := by decide +kernel
theorem dX9_operand_194 : decode cX9_operand 194 = .ok (.invokevirtual 276, 3) := by decide +kernel
theorem dX9_operand_197 : decode cX9_operand 197 = .ok (.aload_n 0, 1) := by decide +kernel
theorem dX9_operand_198 : decode cX9_operand 198 = .ok (.iconst 3, 1) := by decide +kernel
theorem dX9_operand_199 : decode cX9_operand 199 = .ok (.invokevirtual 363, 3) := by decide +kernel
theorem dX9_operand_202 : decode cX9_operand 202 = .ok (.aload_n 0, 1) := by decide +kernel
theorem dX9_operand_203 : decode cX9_operand 203 = .ok (.getfield 36, 3) := by decide +kernel
theorem dX9_operand_206 : decode cX9_operand 206 = .ok (.ifCond .ne 15, 3) := by decide +kernel
theorem dX9_operand_209 : decode cX9_operand 209 = .ok (.aload_n 0, 1) := by decide +kernel
theorem dX9_operand_210 : decode cX9_operand 210 = .ok (.getfield 131, 3) := by decide +kernel
theorem dX9_operand_213 : decode cX9_operand 213 = .ok (.aload_n 0, 1) := by decide +kernel
theorem dX9_operand_214 : decode cX9_operand 214 = .ok (.getfield 137, 3) := by decide +kernel
theorem dX9_operand_217 : decode cX9_operand 217 = .ok (.iconst 1, 1) := by decide +kernel
theorem dX9_operand_218 : decode cX9_operand 218 = .ok (.isub, 1) := by decide +kernel
theorem dX9_operand_219 : decode cX9_operand 219 = .ok (.iload_n 3, 1) := by decide +kernel
theorem dX9_operand_220 : decode cX9_operand 220 = .ok (.iastore, 1) := by decide +kernel
theorem dX9_operand_221 : decode cX9_operand 221 = .ok (.iconst 0, 1) := by decide +kernel
theorem dX9_operand_222 : decode cX9_operand 222 = .ok (.ireturn, 1) := by decide +kernel
theorem dX9_operand_223 : decode cX9_operand 223 = .ok (.aload_n 0, 1) := by decide +kernel
theorem dX9_operand_224 : decode cX9_operand 224 = .ok (.getfield 20, 3) := by decide +kernel
theorem dX9_operand_227 : decode cX9_operand 227 = .ok (.iconst 2, 1) := by decide +kernel
theorem dX9_operand_228 : decode cX9_operand 228 = .ok (.if_icmp .ne 7, 3) := by decide +kernel
theorem dX9_operand_231 : decode cX9_operand 231 = .ok (.iconst 0, 1) := by decide +kernel
theorem dX9_operand_232 : decode cX9_operand 232 = .ok (.goto 104, 3) := by decide +kernel
theorem dX9_operand_235 : decode cX9_operand 235 = .ok (.aload_n 0, 1) := by decide +kernel
theorem dX9_operand_236 : decode cX9_operand 236 = .ok (.ldc2_w 326, 3) := by decide +kernel
theorem dX9_operand_239 : decode cX9_operand 239 = .ok (.invokevirtual 356, 3) := by decide +kernel
theorem dX9_operand_242 : decode cX9_operand 242 = .ok (.ifCond .eq 7, 3) := by decide +kernel
theorem dX9_operand_245 : decode cX9_operand 245 = .ok (.iconst 1, 1) := by decide +kernel
theorem dX9_operand_246 : decode cX9_operand 246 = .ok (.goto 90, 3) := by decide +kernel
theorem dX9_operand_249 : decode cX9_operand 249 = .ok (.aload_n 0, 1) := by decide +kernel
theorem dX9_operand_250 : decode cX9_operand 250 = .ok (.ldc2_w 288, 3) := by decide +kernel
theorem dX9_operand_253 : decode cX9_operand 253 = .ok (.invokevirtual 356, 3) := by decide +kernel
theorem dX9_operand_256 : decode cX9_operand 256 = .ok (.ifCond .eq 7, 3) := by decide +kernel
theorem dX9_operand_259 : decode cX9_operand 259 = .ok (.iconst 2, 1) := by decide +kernel
theorem dX9_operand_260 : decode cX9_operand 260 = .ok (.goto 76, 3) := by decide +kernel
theorem dX9_operand_263 : decode cX9_operand 263 = .ok (.aload_n 0, 1) := by decide +kernel
theorem dX9_operand_264 : decode cX9_operand 264 = .ok (.ldc2_w 290, 3) := by decide +kernel
theorem dX9_operand_267 : decode cX9_operand 267 = .ok (.invokevirtual 356, 3) := by decide +kernel
theorem dX9_operand_270 : decode cX9_operand 270 = .ok (.ifCond .eq 7, 3) := by decide +kernel
theorem dX9_operand_273 : decode cX9_operand 273 = .ok (.iconst 3, 1) := by decide +kernel
theorem dX9_operand_274 : decode cX9_operand 274 = .ok (.goto 62, 3) := by decide +kernel
theorem dX9_operand_277 : decode cX9_operand 277 = .ok (.aload_n 0, 1) := by decide +kernel
theorem dX9_operand_278 : decode cX9_operand 278 = .ok (.ldc2_w 328, 3) := by decide +kernel
theorem dX9_operand_281 : decode cX9_operand 281 = .ok (.invokevirtual 356, 3) := by decide +kernel
theorem dX9_operand_284 : decode cX9_operand 284 = .ok (.ifCond .eq 7, 3) := by decide +kernel
theorem dX9_operand_287 : decode cX9_operand 287 = .ok (.iconst 4, 1) := by decide +kernel
theorem dX9_operand_288 : decode cX9_operand 288 = .ok (.goto 48, 3) := by decide +kernel
theorem dX9_operand_291 : decode cX9_operand 291 = .ok (.aload_n 0, 1) := by decide +kernel
theorem dX9_operand_292 : decode cX9_operand 292 = .ok (.ldc2_w 330, 3) := by decide +kernel
theorem dX9_operand_295 : decode cX9_operand 295 = .ok (.invokevirtual 356, 3) := by decide +kernel
theorem dX9_operand_298 : decode cX9_operand 298 = .ok (.ifCond .eq 7, 3) := by decide +kernel
theorem dX9_operand_301 : decode cX9_operand 301 = .ok (.iconst 5, 1) := by decide +kernel
theorem dX9_operand_302 : decode cX9_operand 302 = .ok (.goto 34, 3) := by decide +kernel
theorem dX9_operand_305 : decode cX9_operand 305 = .ok (.aload_n 0, 1) := by decide +kernel
theorem dX9_operand_306 : decode cX9_operand 306 = .ok (.ldc2_w 332, 3) := by decide +kernel
theorem dX9_operand_309 : decode cX9_operand 309 = .ok (.invokevirtual 356, 3) := by decide +kernel
theorem dX9_operand_312 : decode cX9_operand 312 = .ok (.ifCond .eq 8, 3) := by decide +kernel
theorem dX9_operand_315 : decode cX9_operand 315 = .ok (.bipush 6, 2) := by decide +kernel
theorem dX9_operand_317 : decode cX9_operand 317 = .ok (.goto 19, 3) := by decide +kernel
theorem dX9_operand_320 : decode cX9_operand 320 = .ok (.aload_n 0, 1) := by decide +kernel
theorem dX9_operand_321 : decode cX9_operand 321 = .ok (.ldc2_w 334, 3) := by decide +kernel
theorem dX9_operand_324 : decode cX9_operand 324 = .ok (.invokevirtual 356, 3) := by decide +kernel
theorem dX9_operand_327 : decode cX9_operand 327 = .ok (.ifCond .eq 8, 3) := by decide +kernel
theorem dX9_operand_330 : decode cX9_operand 330 = .ok (.bipush 7, 2) := by decide +kernel
theorem dX9_operand_332 : decode cX9_operand 332 = .ok (.goto 4, 3) := by decide +kernel
theorem dX9_operand_335 : decode cX9_operand 335 = .ok (.iconst (-1), 1) := by decide +kernel
theorem dX9_operand_336 : decode cX9_operand 336 = .ok (.istore_n 3, 1) := by decide +kernel
theorem dX9_operand_337 : decode cX9_operand 337 = .ok (.iload_n 3, 1) := by decide +kernel
theorem dX9_operand_338 : decode cX9_operand 338 = .ok (.iconst (-1), 1) := by decide +kernel
theorem dX9_operand_339 : decode cX9_operand 339 = .ok (.if_icmp .ne 12, 3) := by decide +kernel
theorem dX9_operand_342 : decode cX9_operand 342 = .ok (.aload_n 0, 1) := by decide +kernel
theorem dX9_operand_343 : decode cX9_operand 343 = .ok (.iconst 1, 1) := by decide +kernel
theorem dX9_operand_344 : decode cX9_operand 344 = .ok (.aload_n 0, 1) := by decide +kernel
theorem dX9_operand_345 : decode cX9_operand 345 = .ok (.getfield 23, 3) := by decide +kernel
theorem dX9_operand_348 : decode cX9_operand 348 = .ok (.invokevirtual 276, 3) := by decide +kernel
theorem dX9_operand_351 : decode cX9_operand 351 = .ok (.aload_n 0, 1) := by decide +kernel
theorem dX9_operand_352 : decode cX9_operand 352 = .ok (.getfield 36, 3) := by decide +kernel
theorem dX9_operand_355 : decode cX9_operand 355 = .ok (.ifCond .le 5, 3) := by decide +kernel
theorem dX9_operand_358 : decode cX9_operand 358 = .ok (.iconst 1, 1) := by decide +kernel
theorem dX9_operand_359 : decode cX9_operand 359 = .ok (.ireturn, 1) := by decide +kernel
theorem dX9_operand_360 : decode cX9_operand 360 = .ok (.aload_n 0, 1) := by decide +kernel
theorem dX9_operand_361 : decode cX9_operand 361 = .ok (.iload_n 3, 1) := by decide +kernel
theorem dX9_operand_362 : decode cX9_operand 362 = .ok (.aload_n 0, 1) := by decide +kernel
theorem dX9_operand_363 : decode cX9_operand 363 = .ok (.getfield 29, 3) := by decide +kernel
theorem dX9_operand_366 : decode cX9_operand 366 = .ok (.invokevirtual 347, 3) := by decide +kernel
theorem dX9_operand_369 : decode cX9_operand 369 = .ok (.aload_n 0, 1) := by decide +kernel
theorem dX9_operand_370 : decode cX9_operand 370 = .ok (.invokevirtual 283, 3) := by decide +kernel
theorem dX9_operand_373 : decode cX9_operand 373 = .ok (.iconst 1, 1) := by decide +kernel
theorem dX9_operand_374 : decode cX9_operand 374 = .ok (.ireturn, 1) := by decide +kernel
theorem dX9_over_0 : decode cX9_over 0 = .ok (.lload_n 2, 1) := by decide +kernel
theorem dX9_over_1 : decode cX9_over 1 = .ok (.lconst 0, 1) := by decide +kernel
theorem dX9_over_2 : decode cX9_over 2 = .ok (.lcmp, 1) := by decide +kernel
theorem dX9_over_3 : decode cX9_over 3 = .ok (.ifCond .ne 5, 3) := by decide +kernel
theorem dX9_over_6 : decode cX9_over 6 = .ok (.lconst 0, 1) := by decide +kernel
theorem dX9_over_7 : decode cX9_over 7 = .ok (.lreturn, 1) := by decide +kernel
theorem dX9_over_8 : decode cX9_over 8 = .ok (.lload_n 0, 1) := by decide +kernel
theorem dX9_over_9 : decode cX9_over 9 = .ok (.lload_n 2, 1) := by decide +kernel
theorem dX9_over_10 : decode cX9_over 10 = .ok (.ldiv, 1) := by decide +kernel
theorem dX9_over_11 : decode cX9_over 11 = .ok (.lstore 4, 2) := by decide +kernel
theorem dX9_over_13 : decode cX9_over 13 = .ok (.lload_n 0, 1) := by decide +kernel
theorem dX9_over_14 : decode cX9_over 14 = .ok (.lload_n 2, 1) := by decide +kernel
theorem dX9_over_15 : decode cX9_over 15 = .ok (.lrem, 1) := by decide +kernel
theorem dX9_over_16 : decode cX9_over 16 = .ok (.lconst 0, 1) := by decide +kernel
theorem dX9_over_17 : decode cX9_over 17 = .ok (.lcmp, 1) := by decide +kernel
theorem dX9_over_18 : decode cX9_over 18 = .ok (.ifCond .eq 35, 3) := by decide +kernel
theorem dX9_over_21 : decode cX9_over 21 = .ok (.lload_n 0, 1) := by decide +kernel
theorem dX9_over_22 : decode cX9_over 22 = .ok (.lconst 0, 1) := by decide +kernel
theorem dX9_over_23 : decode cX9_over 23 = .ok (.lcmp, 1) := by decide +kernel
theorem dX9_over_24 : decode cX9_over 24 = .ok (.ifCond .ge 7, 3) := by decide +kernel
theorem dX9_over_27 : decode cX9_over 27 = .ok (.iconst 1, 1) := by decide +kernel
theorem dX9_over_28 : decode cX9_over 28 = .ok (.goto 4, 3) := by decide +kernel
theorem dX9_over_31 : decode cX9_over 31 = .ok (.iconst 0, 1) := by decide +kernel
theorem dX9_over_32 : decode cX9_over 32 = .ok (.lload_n 2, 1) := by decide +kernel
theorem dX9_over_33 : decode cX9_over 33 = .ok (.lconst 0, 1) := by decide +kernel
theorem dX9_over_34 : decode cX9_over 34 = .ok (.lcmp, 1) := by decide +kernel
theorem dX9_over_35 : decode cX9_over 35 = .ok (.ifCond .ge 7, 3) := by decide +kernel
theorem dX9_over_38 : decode cX9_over 38 = .ok (.iconst 1, 1) := by decide +kernel
theorem dX9_over_39 : decode cX9_over 39 = .ok (.goto 4, 3) := by decide +kernel
theorem dX9_over_42 : decode cX9_over 42 = .ok (.iconst 0, 1) := by decide +kernel
theorem dX9_over_43 : decode cX9_over 43 = .ok (.if_icmp .eq 10, 3) := by decide +kernel
theorem dX9_over_46 : decode cX9_over 46 = .ok (.lload 4, 2) := by decide +kernel
theorem dX9_over_48 : decode cX9_over 48 = .ok (.lconst 1, 1) := by decide +kernel
theorem dX9_over_49 : decode cX9_over 49 = .ok (.lsub, 1) := by decide +kernel
theorem dX9_over_50 : decode cX9_over 50 = .ok (.goto 5, 3) := by decide +kernel
theorem dX9_over_53 : decode cX9_over 53 = .ok (.lload 4, 2) := by decide +kernel
theorem dX9_over_55 : decode cX9_over 55 = .ok (.lreturn, 1) := by decide +kernel
theorem dX9_passedOf_0 : decode cX9_passedOf 0 = .ok (.aload_n 0, 1) := by decide +kernel
theorem dX9_passedOf_1 : decode cX9_passedOf 1 = .ok (.aload_n 0, 1) := by decide +kernel
theorem dX9_passedOf_2 : decode cX9_passedOf 2 = .ok (.getfield 222, 3) := by decide +kernel
theorem dX9_passedOf_5 : decode cX9_passedOf 5 = .ok (.iload_n 1, 1) := by decide +kernel
theorem dX9_passedOf_6 : decode cX9_passedOf 6 = .ok (.iaload, 1) := by decide +kernel
theorem dX9_passedOf_7 : decode cX9_passedOf 7 = .ok (.invokevirtual 475, 3) := by decide +kernel
theorem dX9_passedOf_10 : decode cX9_passedOf 10 = .ok (.ifCond .eq 5, 3) := by decide +kernel
theorem dX9_passedOf_13 : decode cX9_passedOf 13 = .ok (.iload_n 2, 1) := by decide +kernel
theorem dX9_passedOf_14 : decode cX9_passedOf 14 = .ok (.ireturn, 1) := by decide +kernel
theorem dX9_passedOf_15 : decode cX9_passedOf 15 = .ok (.aload_n 0, 1) := by decide +kernel
theorem dX9_passedOf_16 : decode cX9_passedOf 16 = .ok (.iload_n 1, 1) := by decide +kernel
theorem dX9_passedOf_17 : decode cX9_passedOf 17 = .ok (.iload_n 2, 1) := by decide +kernel
theorem dX9_passedOf_18 : decode cX9_passedOf 18 = .ok (.invokevirtual 468, 3) := by decide +kernel
theorem dX9_passedOf_21 : decode cX9_passedOf 21 = .ok (.iload_n 2, 1) := by decide +kernel
theorem dX9_passedOf_22 : decode cX9_passedOf 22 = .ok (.aload_n 0, 1) := by decide +kernel
theorem dX9_passedOf_23 : decode cX9_passedOf 23 = .ok (.getfield 58, 3) := by decide +kernel
theorem dX9_passedOf_26 : decode cX9_passedOf 26 = .ok (.bipush 12, 2) := by decide +kernel
theorem dX9_passedOf_28 : decode cX9_passedOf 28 = .ok (.aload_n 0, 1) := by decide +kernel
theorem dX9_passedOf_29 : decode cX9_passedOf 29 = .ok (.getfield 48, 3) := by decide +kernel
theorem dX9_passedOf_32 : decode cX9_passedOf 32 = .ok (.imul, 1) := by decide +kernel
theorem dX9_passedOf_33 : decode cX9_passedOf 33 = .ok (.aload_n 0, 1) := by decide +kernel
theorem dX9_passedOf_34 : decode cX9_passedOf 34 = .ok (.getfield 222, 3) := by decide +kernel
theorem dX9_passedOf_37 : decode cX9_passedOf 37 = .ok (.iload_n 1, 1) := by decide +kernel
theorem dX9_passedOf_38 : decode cX9_passedOf 38 = .ok (.iaload, 1) := by decide +kernel
theorem dX9_passedOf_39 : decode cX9_passedOf 39 = .ok (.iadd, 1) := by decide +kernel
theorem dX9_passedOf_40 : decode cX9_passedOf 40 = .ok (.iaload, 1) := by decide +kernel
theorem dX9_passedOf_41 : decode cX9_passedOf 41 = .ok (.isub, 1) := by decide +kernel
theorem dX9_passedOf_42 : decode cX9_passedOf 42 = .ok (.istore_n 3, 1) := by decide +kernel
theorem dX9_passedOf_43 : decode cX9_passedOf 43 = .ok (.aload_n 0, 1) := by decide +kernel
theorem dX9_passedOf_44 : decode cX9_passedOf 44 = .ok (.iconst 0, 1) := by decide +kernel
theorem dX9_passedOf_45 : decode cX9_passedOf 45 = .ok (.iload_n 2, 1) := by decide +kernel
theorem dX9_passedOf_46 : decode cX9_passedOf 46 = .ok (.iload_n 3, 1) := by decide +kernel
theorem dX9_passedOf_47 : decode cX9_passedOf 47 = .ok (.ifCond .ge 7, 3) := by decide +kernel
theorem dX9_passedOf_50 : decode cX9_passedOf 50 = .ok (.iconst 0, 1) := by decide +kernel
theorem dX9_passedOf_51 : decode cX9_passedOf 51 = .ok (.goto 4, 3) := by decide +kernel
theorem dX9_passedOf_54 : decode cX9_passedOf 54 = .ok (.iload_n 3, 1) := by decide +kernel
theorem dX9_passedOf_55 : decode cX9_passedOf 55 = .ok (.invokevirtual 471, 3) := by decide +kernel
theorem dX9_passedOf_58 : decode cX9_passedOf 58 = .ok (.ireturn, 1) := by decide +kernel
theorem dX9_pieces_0 : decode cX9_pieces 0 = .ok (.aload_n 0, 1) := by decide +kernel
theorem dX9_pieces_1 : decode cX9_pieces 1 = .ok (.invokevirtual 445, 3) := by decide +kernel
theorem dX9_pieces_4 : decode cX9_pieces 4 = .ok (.ifCond .ne 7, 3) := by decide +kernel
theorem dX9_pieces_7 : decode cX9_pieces 7 = .ok (.iconst 0, 1) := by decide +kernel
theorem dX9_pieces_8 : decode cX9_pieces 8 = .ok (.goto 4, 3) := by decide +kernel
theorem dX9_pieces_11 : decode cX9_pieces 11 = .ok (.iconst 1, 1) := by decide +kernel
theorem dX9_pieces_12 : decode cX9_pieces 12 = .ok (.istore_n 1, 1) := by decide +kernel
theorem dX9_pieces_13 : decode cX9_pieces 13 = .ok (.iconst 0, 1) := by decide +kernel
theorem dX9_pieces_14 : decode cX9_pieces 14 = .ok (.istore_n 2, 1) := by decide +kernel
theorem dX9_pieces_15 : decode cX9_pieces 15 = .ok (.iload_n 2, 1) := by decide +kernel
theorem dX9_pieces_16 : decode cX9_pieces 16 = .ok (.aload_n 0, 1) := by decide +kernel
theorem dX9_pieces_17 : decode cX9_pieces 17 = .ok (.invokevirtual 445, 3) := by decide +kernel
theorem dX9_pieces_20 : decode cX9_pieces 20 = .ok (.iconst 1, 1) := by decide +kernel
theorem dX9_pieces_21 : decode cX9_pieces 21 = .ok (.isub, 1) := by decide +kernel
theorem dX9_pieces_22 : decode cX9_pieces 22 = .ok (.if_icmp .ge 20, 3) := by decide +kernel
theorem dX9_pieces_25 : decode cX9_pieces 25 = .ok (.iload_n 1, 1) := by decide +kernel
theorem dX9_pieces_26 : decode cX9_pieces 26 = .ok (.iconst 1, 1) := by decide +kernel
theorem dX9_pieces_27 : decode cX9_pieces 27 = .ok (.aload_n 0, 1) := by decide +kernel
theorem dX9_pieces_28 : decode cX9_pieces 28 = .ok (.getfield 195, 3) := by decide +kernel
theorem dX9_pieces_31 : decode cX9_pieces 31 = .ok (.iload_n 2, 1) := by decide +kernel
theorem dX9_pieces_32 : decode cX9_pieces 32 = .ok (.iaload, 1) := by decide +kernel
theorem dX9_pieces_33 : decode cX9_pieces 33 = .ok (.isub, 1) := by decide +kernel
theorem dX9_pieces_34 : decode cX9_pieces 34 = .ok (.iadd, 1) := by decide +kernel
theorem dX9_pieces_35 : decode cX9_pieces 35 = .ok (.istore_n 1, 1) := by decide +kernel
theorem dX9_pieces_36 : decode cX9_pieces 36 = .ok (.iinc 2 1, 3) := by decide +kernel
theorem dX9_pieces_39 : decode cX9_pieces 39 = .ok (.goto (-24), 3) := by decide +kernel
theorem dX9_pieces_42 : decode cX9_pieces 42 = .ok (.iload_n 1, 1) := by decide +kernel
theorem dX9_pieces_43 : decode cX9_pieces 43 = .ok (.ireturn, 1) := by decide +kernel
theorem dX9_placeOf_0 : decode cX9_placeOf 0 = .ok (.iconst 0, 1) := by decide +kernel
theorem dX9_placeOf_1 : decode cX9_placeOf 1 = .ok (.istore_n 3, 1) := by decide +kernel
theorem dX9_placeOf_2 : decode cX9_placeOf 2 = .ok (.iload_n 3, 1) := by decide +kernel
theorem dX9_placeOf_3 : decode cX9_placeOf 3 = .ok (.aload_n 0, 1) := by decide +kernel
theorem dX9_placeOf_4 : decode cX9_placeOf 4 = .ok (.invokevirtual 445, 3) := by decide +kernel
theorem dX9_placeOf_7 : decode cX9_placeOf 7 = .ok (.if_icmp .ge 26, 3) := by decide +kernel
theorem dX9_placeOf_10 : decode cX9_placeOf 10 = .ok (.aload_n 0, 1) := by decide +kernel
theorem dX9_placeOf_11 : decode cX9_placeOf 11 = .ok (.getfield 165, 3) := by decide +kernel
theorem dX9_placeOf_14 : decode cX9_placeOf 14 = .ok (.bipush 12, 2) := by decide +kernel
theorem dX9_placeOf_16 : decode cX9_placeOf 16 = .ok (.iload_n 1, 1) := by decide +kernel
theorem dX9_placeOf_17 : decode cX9_placeOf 17 = .ok (.imul, 1) := by decide +kernel
theorem dX9_placeOf_18 : decode cX9_placeOf 18 = .ok (.iload_n 3, 1) := by decide +kernel
theorem dX9_placeOf_19 : decode cX9_placeOf 19 = .ok (.iadd, 1) := by decide +kernel
theorem dX9_placeOf_20 : decode cX9_placeOf 20 = .ok (.iaload, 1) := by decide +kernel
theorem dX9_placeOf_21 : decode cX9_placeOf 21 = .ok (.iload_n 2, 1) := by decide +kernel
theorem dX9_placeOf_22 : decode cX9_placeOf 22 = .ok (.if_icmp .ne 5, 3) := by decide +kernel
theorem dX9_placeOf_25 : decode cX9_placeOf 25 = .ok (.iload_n 3, 1) := by decide +kernel
theorem dX9_placeOf_26 : decode cX9_placeOf 26 = .ok (.ireturn, 1) := by decide +kernel
theorem dX9_placeOf_27 : decode cX9_placeOf 27 = .ok (.iinc 3 1, 3) := by decide +kernel
theorem dX9_placeOf_30 : decode cX9_placeOf 30 = .ok (.goto (-28), 3) := by decide +kernel
theorem dX9_placeOf_33 : decode cX9_placeOf 33 = .ok (.iconst (-1), 1) := by decide +kernel
theorem dX9_placeOf_34 : decode cX9_placeOf 34 = .ok (.ireturn, 1) := by decide +kernel
theorem dX9_pulled_0 : decode cX9_pulled 0 = .ok (.aload_n 0, 1) := by decide +kernel
theorem dX9_pulled_1 : decode cX9_pulled 1 = .ok (.iload_n 1, 1) := by decide +kernel
theorem dX9_pulled_2 : decode cX9_pulled 2 = .ok (.invokevirtual 543, 3) := by decide +kernel
theorem dX9_pulled_5 : decode cX9_pulled 5 = .ok (.ifCond .eq 23, 3) := by decide +kernel
theorem dX9_pulled_8 : decode cX9_pulled 8 = .ok (.iload_n 2, 1) := by decide +kernel
theorem dX9_pulled_9 : decode cX9_pulled 9 = .ok (.iconst (-1), 1) := by decide +kernel
theorem dX9_pulled_10 : decode cX9_pulled 10 = .ok (.if_icmp .eq 11, 3) := by decide +kernel
theorem dX9_pulled_13 : decode cX9_pulled 13 = .ok (.aload_n 0, 1) := by decide +kernel
theorem dX9_pulled_14 : decode cX9_pulled 14 = .ok (.iload_n 2, 1) := by decide +kernel
theorem dX9_pulled_15 : decode cX9_pulled 15 = .ok (.invokevirtual 552, 3) := by decide +kernel
theorem dX9_pulled_18 : decode cX9_pulled 18 = .ok (.ifCond .eq 10, 3) := by decide +kernel
theorem dX9_pulled_21 : decode cX9_pulled 21 = .ok (.aload_n 0, 1) := by decide +kernel
theorem dX9_pulled_22 : decode cX9_pulled 22 = .ok (.getfield 219, 3) := by decide +kernel
theorem dX9_pulled_25 : decode cX9_pulled 25 = .ok (.ifCond .ne 5, 3) := by decide +kernel
theorem dX9_pulled_28 : decode cX9_pulled 28 = .ok (.iconst (-1), 1) := by decide +kernel
theorem dX9_pulled_29 : decode cX9_pulled 29 = .ok (.ireturn, 1) := by decide +kernel
theorem dX9_pulled_30 : decode cX9_pulled 30 = .ok (.aload_n 0, 1) := by decide +kernel
theorem dX9_pulled_31 : decode cX9_pulled 31 = .ok (.invokevirtual 579, 3) := by decide +kernel
theorem dX9_pulled_34 : decode cX9_pulled 34 = .ok (.istore_n 3, 1) := by decide +kernel
theorem dX9_pulled_35 : decode cX9_pulled 35 = .ok (.iload_n 3, 1) := by decide +kernel
theorem dX9_pulled_36 : decode cX9_pulled 36 = .ok (.ifCond .ne 5, 3) := by decide +kernel
theorem dX9_pulled_39 : decode cX9_pulled 39 = .ok (.iconst (-1), 1) := by decide +kernel
theorem dX9_pulled_40 : decode cX9_pulled 40 = .ok (.ireturn, 1) := by decide +kernel
theorem dX9_pulled_41 : decode cX9_pulled 41 = .ok (.iload_n 2, 1) := by decide +kernel
theorem dX9_pulled_42 : decode cX9_pulled 42 = .ok (.iconst (-1), 1) := by decide +kernel
theorem dX9_pulled_43 : decode cX9_pulled 43 = .ok (.if_icmp .eq 16, 3) := by decide +kernel
theorem dX9_pulled_46 : decode cX9_pulled 46 = .ok (.sipush 1000, 3) := by decide +kernel
theorem dX9_pulled_49 : decode cX9_pulled 49 = .ok (.aload_n 0, 1) := by decide +kernel
theorem dX9_pulled_50 : decode cX9_pulled 50 = .ok (.iload_n 1, 1) := by decide +kernel
theorem dX9_pulled_51 : decode cX9_pulled 51 = .ok (.iload_n 2, 1) := by decide +kernel
theorem dX9_pulled_52 : decode cX9_pulled 52 = .ok (.invokevirtual 576, 3) := by decide +kernel
theorem dX9_pulled_55 : decode cX9_pulled 55 = .ok (.imul, 1) := by decide +kernel
theorem dX9_pulled_56 : decode cX9_pulled 56 = .ok (.iload_n 3, 1) := by decide +kernel
theorem dX9_pulled_57 : decode cX9_pulled 57 = .ok (.idiv, 1) := by decide +kernel
theorem dX9_pulled_58 : decode cX9_pulled 58 = .ok (.ireturn, 1) := by decide +kernel
theorem dX9_pulled_59 : decode cX9_pulled 59 = .ok (.iconst 0, 1) := by decide +kernel
theorem dX9_pulled_60 : decode cX9_pulled 60 = .ok (.istore 4, 2) := by decide +kernel
theorem dX9_pulled_62 : decode cX9_pulled 62 = .ok (.iconst 0, 1) := by decide +kernel
theorem dX9_pulled_63 : decode cX9_pulled 63 = .ok (.istore 5, 2) := by decide +kernel
theorem dX9_pulled_65 : decode cX9_pulled 65 = .ok (.iload 5, 2) := by decide +kernel
theorem dX9_pulled_67 : decode cX9_pulled 67 = .ok (.aload_n 0, 1) := by decide +kernel
theorem dX9_pulled_68 : decode cX9_pulled 68 = .ok (.getfield 76, 3) := by decide +kernel
theorem dX9_pulled_71 : decode cX9_pulled 71 = .ok (.aload_n 0, 1) := by decide +kernel
theorem dX9_pulled_72 : decode cX9_pulled 72 = .ok (.getfield 48, 3) := by decide +kernel
theorem dX9_pulled_75 : decode cX9_pulled 75 = .ok (.iaload, 1) := by decide +kernel
theorem dX9_pulled_76 : decode cX9_pulled 76 = .ok (.if_icmp .ge 27, 3) := by decide +kernel
theorem dX9_pulled_79 : decode cX9_pulled 79 = .ok (.iload 4, 2) := by decide +kernel
theorem dX9_pulled_81 : decode cX9_pulled 81 = .ok (.sipush 1000, 3) := by decide +kernel
theorem dX9_pulled_84 : decode cX9_pulled 84 = .ok (.aload_n 0, 1) := by decide +kernel
theorem dX9_pulled_85 : decode cX9_pulled 85 = .ok (.iload_n 1, 1) := by decide +kernel
theorem dX9_pulled_86 : decode cX9_pulled 86 = .ok (.iload 5, 2) := by decide +kernel
theorem dX9_pulled_88 : decode cX9_pulled 88 = .ok (.invokevirtual 576, 3) := by decide +kernel
theorem dX9_pulled_91 : decode cX9_pulled 91 = .ok (.imul, 1) := by decide +kernel
theorem dX9_pulled_92 : decode cX9_pulled 92 = .ok (.iload_n 3, 1) := by decide +kernel
theorem dX9_pulled_93 : decode cX9_pulled 93 = .ok (.idiv, 1) := by decide +kernel
theorem dX9_pulled_94 : decode cX9_pulled 94 = .ok (.iadd, 1) := by decide +kernel
theorem dX9_pulled_95 : decode cX9_pulled 95 = .ok (.istore 4, 2) := by decide +kernel
theorem dX9_pulled_97 : decode cX9_pulled 97 = .ok (.iinc 5 1, 3) := by decide +kernel
theorem dX9_pulled_100 : decode cX9_pulled 100 = .ok (.goto (-35), 3) := by decide +kernel
theorem dX9_pulled_103 : decode cX9_pulled 103 = .ok (.iload 4, 2) := by decide +kernel
theorem dX9_pulled_105 : decode cX9_pulled 105 = .ok (.ireturn, 1) := by decide +kernel
theorem dX9_pushes_0 : decode cX9_pushes 0 = .ok (.aload_n 0, 1) := by decide +kernel
theorem dX9_pushes_1 : decode cX9_pushes 1 = .ok (.getfield 121, 3) := by decide +kernel
theorem dX9_pushes_4 : decode cX9_pushes 4 = .ok (.aload_n 0, 1) := by decide +kernel
theorem dX9_pushes_5 : decode cX9_pushes 5 = .ok (.getfield 137, 3) := by decide +kernel
theorem dX9_pushes_8 : decode cX9_pushes 8 = .ok (.iload_n 1, 1) := by decide +kernel
theorem dX9_pushes_9 : decode cX9_pushes 9 = .ok (.iastore, 1) := by decide +kernel
theorem dX9_pushes_10 : decode cX9_pushes 10 = .ok (.aload_n 0, 1) := by decide +kernel
theorem dX9_pushes_11 : decode cX9_pushes 11 = .ok (.getfield 124, 3) := by decide +kernel
theorem dX9_pushes_14 : decode cX9_pushes 14 = .ok (.aload_n 0, 1) := by decide +kernel
theorem dX9_pushes_15 : decode cX9_pushes 15 = .ok (.getfield 137, 3) := by decide +kernel
theorem dX9_pushes_18 : decode cX9_pushes 18 = .ok (.iconst 0, 1) := by decide +kernel
theorem dX9_pushes_19 : decode cX9_pushes 19 = .ok (.iastore, 1) := by decide +kernel
theorem dX9_pushes_20 : decode cX9_pushes 20 = .ok (.aload_n 0, 1) := by decide +kernel
theorem dX9_pushes_21 : decode cX9_pushes 21 = .ok (.getfield 127, 3) := by decide +kernel
theorem dX9_pushes_24 : decode cX9_pushes 24 = .ok (.aload_n 0, 1) := by decide +kernel
theorem dX9_pushes_25 : decode cX9_pushes 25 = .ok (.getfield 137, 3) := by decide +kernel
theorem dX9_pushes_28 : decode cX9_pushes 28 = .ok (.iconst 1, 1) := by decide +kernel
theorem dX9_pushes_29 : decode cX9_pushes 29 = .ok (.bastore, 1) := by decide +kernel
theorem dX9_pushes_30 : decode cX9_pushes 30 = .ok (.aload_n 0, 1) := by decide +kernel
theorem dX9_pushes_31 : decode cX9_pushes 31 = .ok (.getfield 134, 3) := by decide +kernel
theorem dX9_pushes_34 : decode cX9_pushes 34 = .ok (.aload_n 0, 1) := by decide +kernel
theorem dX9_pushes_35 : decode cX9_pushes 35 = .ok (.getfield 137, 3) := by decide +kernel
theorem dX9_pushes_38 : decode cX9_pushes 38 = .ok (.aload_n 0, 1) := by decide +kernel
theorem dX9_pushes_39 : decode cX9_pushes 39 = .ok (.getfield 146, 3) := by decide +kernel
theorem dX9_pushes_42 : decode cX9_pushes 42 = .ok (.iastore, 1) := by decide +kernel
theorem dX9_pushes_43 : decode cX9_pushes 43 = .ok (.aload_n 0, 1) := by decide +kernel
theorem dX9_pushes_44 : decode cX9_pushes 44 = .ok (.dup, 1) := by decide +kernel
theorem dX9_pushes_45 : decode cX9_pushes 45 = .ok (.getfield 137, 3) := by decide +kernel
theorem dX9_pushes_48 : decode cX9_pushes 48 = .ok (.iconst 1, 1) := by decide +kernel
theorem dX9_pushes_49 : decode cX9_pushes 49 = .ok (.iadd, 1) := by decide +kernel
theorem dX9_pushes_50 : decode cX9_pushes 50 = .ok (.putfield 137, 3) := by decide +kernel
theorem dX9_pushes_53 : decode cX9_pushes 53 = .ok (.return_, 1) := by decide +kernel
theorem dX9_put_0 : decode cX9_put 0 = .ok (.bipush 24, 2) := by decide +kernel
theorem dX9_put_2 : decode cX9_put 2 = .ok (.istore_n 2, 1) := by decide +kernel
theorem dX9_put_3 : decode cX9_put 3 = .ok (.iload_n 2, 1) := by decide +kernel
theorem dX9_put_4 : decode cX9_put 4 = .ok (.ifCond .lt 35, 3) := by decide +kernel
theorem dX9_put_7 : decode cX9_put 7 = .ok (.aload_n 0, 1) := by decide +kernel
theorem dX9_put_8 : decode cX9_put 8 = .ok (.getfield 7, 3) := by decide +kernel
theorem dX9_put_11 : decode cX9_put 11 = .ok (.aload_n 0, 1) := by decide +kernel
theorem dX9_put_12 : decode cX9_put 12 = .ok (.getfield 13, 3) := by decide +kernel
theorem dX9_put_15 : decode cX9_put 15 = .ok (.iload_n 1, 1) := by decide +kernel
theorem dX9_put_16 : decode cX9_put 16 = .ok (.iload_n 2, 1) := by decide +kernel
theorem dX9_put_17 : decode cX9_put 17 = .ok (.ishr, 1) := by decide +kernel
theorem dX9_put_18 : decode cX9_put 18 = .ok (.sipush 255, 3) := by decide +kernel
theorem dX9_put_21 : decode cX9_put 21 = .ok (.iand, 1) := by decide +kernel
theorem dX9_put_22 : decode cX9_put 22 = .ok (.iastore, 1) := by decide +kernel
theorem dX9_put_23 : decode cX9_put 23 = .ok (.aload_n 0, 1) := by decide +kernel
theorem dX9_put_24 : decode cX9_put 24 = .ok (.dup, 1) := by decide +kernel
theorem dX9_put_25 : decode cX9_put 25 = .ok (.getfield 13, 3) := by decide +kernel
theorem dX9_put_28 : decode cX9_put 28 = .ok (.iconst 1, 1) := by decide +kernel
theorem dX9_put_29 : decode cX9_put 29 = .ok (.iadd, 1) := by decide +kernel
theorem dX9_put_30 : decode cX9_put 30 = .ok (.putfield 13, 3) := by decide +kernel
theorem dX9_put_33 : decode cX9_put 33 = .ok (.iinc 2 (-8), 3) := by decide +kernel
theorem dX9_put_36 : decode cX9_put 36 = .ok (.goto (-33), 3) := by decide +kernel
theorem dX9_put_39 : decode cX9_put 39 = .ok (.return_, 1) := by decide +kernel
theorem dX9_rank_0 : decode cX9_rank 0 = .ok (.iload_n 0, 1) := by decide +kernel
theorem dX9_rank_1 : decode cX9_rank 1 = .ok (.bipush 21, 2) := by decide +kernel
theorem dX9_rank_3 : decode cX9_rank 3 = .ok (.if_icmp .ne 7, 3) := by decide +kernel
theorem dX9_rank_6 : decode cX9_rank 6 = .ok (.iconst 1, 1) := by decide +kernel
theorem dX9_rank_7 : decode cX9_rank 7 = .ok (.goto 63, 3) := by decide +kernel
theorem dX9_rank_10 : decode cX9_rank 10 = .ok (.iload_n 0, 1) := by decide +kernel
theorem dX9_rank_11 : decode cX9_rank 11 = .ok (.bipush 20, 2) := by decide +kernel
theorem dX9_rank_13 : decode cX9_rank 13 = .ok (.if_icmp .ne 7, 3) := by decide +kernel
theorem dX9_rank_16 : decode cX9_rank 16 = .ok (.iconst 2, 1) := by decide +kernel
theorem dX9_rank_17 : decode cX9_rank 17 = .ok (.goto 53, 3) := by decide +kernel
theorem dX9_rank_20 : decode cX9_rank 20 = .ok (.iload_n 0, 1) := by decide +kernel
theorem dX9_rank_21 : decode cX9_rank 21 = .ok (.bipush 22, 2) := by decide +kernel
theorem dX9_rank_23 : decode cX9_rank 23 = .ok (.if_icmp .ne 7, 3) := by decide +kernel
theorem dX9_rank_26 : decode cX9_rank 26 = .ok (.iconst 3, 1) := by decide +kernel
theorem dX9_rank_27 : decode cX9_rank 27 = .ok (.goto 43, 3) := by decide +kernel
theorem dX9_rank_30 : decode cX9_rank 30 = .ok (.iload_n 0, 1) := by decide +kernel
theorem dX9_rank_31 : decode cX9_rank 31 = .ok (.bipush 17, 2) := by decide +kernel
theorem dX9_rank_33 : decode cX9_rank 33 = .ok (.if_icmp .eq 15, 3) := by decide +kernel
theorem dX9_rank_36 : decode cX9_rank 36 = .ok (.iload_n 0, 1) := by decide +kernel
theorem dX9_rank_37 : decode cX9_rank 37 = .ok (.bipush 18, 2) := by decide +kernel
theorem dX9_rank_39 : decode cX9_rank 39 = .ok (.if_icmp .eq 9, 3) := by decide +kernel
theorem dX9_rank_42 : decode cX9_rank 42 = .ok (.iload_n 0, 1) := by decide +kernel
theorem dX9_rank_43 : decode cX9_rank 43 = .ok (.bipush 19, 2) := by decide +kernel
theorem dX9_rank_45 : decode cX9_rank 45 = .ok (.if_icmp .ne 7, 3) := by decide +kernel
theorem dX9_rank_48 : decode cX9_rank 48 = .ok (.iconst 4, 1) := by decide +kernel
theorem dX9_rank_49 : decode cX9_rank 49 = .ok (.goto 21, 3) := by decide +kernel
theorem dX9_rank_52 : decode cX9_rank 52 = .ok (.iload_n 0, 1) := by decide +kernel
theorem dX9_rank_53 : decode cX9_rank 53 = .ok (.bipush 10, 2) := by decide +kernel
theorem dX9_rank_55 : decode cX9_rank 55 = .ok (.if_icmp .eq 9, 3) := by decide +kernel
theorem dX9_rank_58 : decode cX9_rank 58 = .ok (.iload_n 0, 1) := by decide +kernel
theorem dX9_rank_59 : decode cX9_rank 59 = .ok (.bipush 11, 2) := by decide +kernel
theorem dX9_rank_61 : decode cX9_rank 61 = .ok (.if_icmp .ne 7, 3) := by decide +kernel
theorem dX9_rank_64 : decode cX9_rank 64 = .ok (.iconst 5, 1) := by decide +kernel
theorem dX9_rank_65 : decode cX9_rank 65 = .ok (.goto 5, 3) := by decide +kernel
theorem dX9_rank_68 : decode cX9_rank 68 = .ok (.bipush 6, 2) := by decide +kernel
theorem dX9_rank_70 : decode cX9_rank 70 = .ok (.ireturn, 1) := by decide +kernel
theorem dX9_reads_0 : decode cX9_reads 0 = .ok (.aload_n 0, 1) := by decide +kernel
theorem dX9_reads_1 : decode cX9_reads 1 = .ok (.getfield 36, 3) := by decide +kernel
theorem dX9_reads_4 : decode cX9_reads 4 = .ok (.ifCond .le 4, 3) := by decide +kernel
theorem dX9_reads_7 : decode cX9_reads 7 = .ok (.return_, 1) := by decide +kernel
theorem dX9_reads_8 : decode cX9_reads 8 = .ok (.aload_n 0, 1) := by decide +kernel
theorem dX9_reads_9 : decode cX9_reads 9 = .ok (.iconst 0, 1) := by decide +kernel
theorem dX9_reads_10 : decode cX9_reads 10 = .ok (.putfield 137, 3) := by decide +kernel
theorem dX9_reads_13 : decode cX9_reads 13 = .ok (.aload_n 0, 1) := by decide +kernel
theorem dX9_reads_14 : decode cX9_reads 14 = .ok (.iconst 0, 1) := by decide +kernel
theorem dX9_reads_15 : decode cX9_reads 15 = .ok (.putfield 140, 3) := by decide +kernel
theorem dX9_reads_18 : decode cX9_reads 18 = .ok (.aload_n 0, 1) := by decide +kernel
theorem dX9_reads_19 : decode cX9_reads 19 = .ok (.iconst 0, 1) := by decide +kernel
theorem dX9_reads_20 : decode cX9_reads 20 = .ok (.putfield 146, 3) := by decide +kernel
theorem dX9_reads_23 : decode cX9_reads 23 = .ok (.aload_n 0, 1) := by decide +kernel
theorem dX9_reads_24 : decode cX9_reads 24 = .ok (.iconst 0, 1) := by decide +kernel
theorem dX9_reads_25 : decode cX9_reads 25 = .ok (.putfield 149, 3) := by decide +kernel
theorem dX9_reads_28 : decode cX9_reads 28 = .ok (.aload_n 0, 1) := by decide +kernel
theorem dX9_reads_29 : decode cX9_reads 29 = .ok (.iload_n 1, 1) := by decide +kernel
theorem dX9_reads_30 : decode cX9_reads 30 = .ok (.ifCond .eq 7, 3) := by decide +kernel
theorem dX9_reads_33 : decode cX9_reads 33 = .ok (.iconst 1, 1) := by decide +kernel
theorem dX9_reads_34 : decode cX9_reads 34 = .ok (.goto 4, 3) := by decide +kernel
theorem dX9_reads_37 : decode cX9_reads 37 = .ok (.iconst 0, 1) := by decide +kernel
theorem dX9_reads_38 : decode cX9_reads 38 = .ok (.invokevirtual 350, 3) := by decide +kernel
theorem dX9_reads_41 : decode cX9_reads 41 = .ok (.iconst 1, 1) := by decide +kernel
theorem dX9_reads_42 : decode cX9_reads 42 = .ok (.istore_n 2, 1) := by decide +kernel
theorem dX9_reads_43 : decode cX9_reads 43 = .ok (.iload_n 2, 1) := by decide +kernel
theorem dX9_reads_44 : decode cX9_reads 44 = .ok (.ifCond .eq 46, 3) := by decide +kernel
theorem dX9_reads_47 : decode cX9_reads 47 = .ok (.aload_n 0, 1) := by decide +kernel
theorem dX9_reads_48 : decode cX9_reads 48 = .ok (.getfield 149, 3) := by decide +kernel
theorem dX9_reads_51 : decode cX9_reads 51 = .ok (.ifCond .ne 14, 3) := by decide +kernel
theorem dX9_reads_54 : decode cX9_reads 54 = .ok (.aload_n 0, 1) := by decide +kernel
theorem dX9_reads_55 : decode cX9_reads 55 = .ok (.aload_n 0, 1) := by decide +kernel
theorem dX9_reads_56 : decode cX9_reads 56 = .ok (.invokevirtual 369, 3) := by decide +kernel
theorem dX9_reads_59 : decode cX9_reads 59 = .ok (.putfield 149, 3) := by decide +kernel
theorem dX9_reads_62 : decode cX9_reads 62 = .ok (.goto 8, 3) := by decide +kernel
theorem dX9_reads_65 : decode cX9_reads 65 = .ok (.aload_n 0, 1) := by decide +kernel
theorem dX9_reads_66 : decode cX9_reads 66 = .ok (.invokevirtual 372, 3) := by decide +kernel
theorem dX9_reads_69 : decode cX9_reads 69 = .ok (.istore_n 2, 1) := by decide +kernel
theorem dX9_reads_70 : decode cX9_reads 70 = .ok (.iload_n 2, 1) := by decide +kernel
theorem dX9_reads_71 : decode cX9_reads 71 = .ok (.ifCond .eq 14, 3) := by decide +kernel
theorem dX9_reads_74 : decode cX9_reads 74 = .ok (.aload_n 0, 1) := by decide +kernel
theorem dX9_reads_75 : decode cX9_reads 75 = .ok (.getfield 36, 3) := by decide +kernel
theorem dX9_reads_78 : decode cX9_reads 78 = .ok (.ifCond .ne 7, 3) := by decide +kernel
theorem dX9_reads_81 : decode cX9_reads 81 = .ok (.iconst 1, 1) := by decide +kernel
theorem dX9_reads_82 : decode cX9_reads 82 = .ok (.goto 4, 3) := by decide +kernel
theorem dX9_reads_85 : decode cX9_reads 85 = .ok (.iconst 0, 1) := by decide +kernel
theorem dX9_reads_86 : decode cX9_reads 86 = .ok (.istore_n 2, 1) := by decide +kernel
theorem dX9_reads_87 : decode cX9_reads 87 = .ok (.goto (-44), 3) := by decide +kernel
theorem dX9_reads_90 : decode cX9_reads 90 = .ok (.return_, 1) := by decide +kernel
theorem dX9_reckons_0 : decode cX9_reckons 0 = .ok (.iconst 0, 1) := by decide +kernel
theorem dX9_reckons_1 : decode cX9_reckons 1 = .ok (.istore_n 3, 1) := by decide +kernel
theorem dX9_reckons_2 : decode cX9_reckons 2 = .ok (.sipush 1600, 3) := by decide +kernel
theorem dX9_reckons_5 : decode cX9_reckons 5 = .ok (.aload_n 0, 1) := by decide +kernel
theorem dX9_reckons_6 : decode cX9_reckons 6 = .ok (.getfield 48, 3) := by decide +kernel
theorem dX9_reckons_9 : decode cX9_reckons 9 = .ok (.imul, 1) := by decide +kernel
theorem dX9_reckons_10 : decode cX9_reckons 10 = .ok (.iload_n 1, 1) := by decide +kernel
theorem dX9_reckons_11 : decode cX9_reckons 11 = .ok (.iadd, 1) := by decide +kernel
theorem dX9_reckons_12 : decode cX9_reckons 12 = .ok (.istore 4, 2) := by decide +kernel
theorem dX9_reckons_14 : decode cX9_reckons 14 = .ok (.iload 4, 2) := by decide +kernel
theorem dX9_reckons_16 : decode cX9_reckons 16 = .ok (.sipush 1600, 3) := by decide +kernel
theorem dX9_reckons_19 : decode cX9_reckons 19 = .ok (.aload_n 0, 1) := by decide +kernel
theorem dX9_reckons_20 : decode cX9_reckons 20 = .ok (.getfield 48, 3) := by decide +kernel
theorem dX9_reckons_23 : decode cX9_reckons 23 = .ok (.imul, 1) := by decide +kernel
theorem dX9_reckons_24 : decode cX9_reckons 24 = .ok (.iload_n 2, 1) := by decide +kernel
theorem dX9_reckons_25 : decode cX9_reckons 25 = .ok (.iadd, 1) := by decide +kernel
theorem dX9_reckons_26 : decode cX9_reckons 26 = .ok (.if_icmp .ge 130, 3) := by decide +kernel
theorem dX9_reckons_29 : decode cX9_reckons 29 = .ok (.aload_n 0, 1) := by decide +kernel
theorem dX9_reckons_30 : decode cX9_reckons 30 = .ok (.getfield 109, 3) := by decide +kernel
theorem dX9_reckons_33 : decode cX9_reckons 33 = .ok (.iload 4, 2) := by decide +kernel
theorem dX9_reckons_35 : decode cX9_reckons 35 = .ok (.iaload, 1) := by decide +kernel
theorem dX9_reckons_36 : decode cX9_reckons 36 = .ok (.istore 5, 2) := by decide +kernel
theorem dX9_reckons_38 : decode cX9_reckons 38 = .ok (.iload 5, 2) := by decide +kernel
theorem dX9_reckons_40 : decode cX9_reckons 40 = .ok (.bipush 9, 2) := by decide +kernel
theorem dX9_reckons_42 : decode cX9_reckons 42 = .ok (.if_icmp .gt 50, 3) := by decide +kernel
theorem dX9_reckons_45 : decode cX9_reckons 45 = .ok (.aload_n 0, 1) := by decide +kernel
theorem dX9_reckons_46 : decode cX9_reckons 46 = .ok (.getfield 156, 3) := by decide +kernel
theorem dX9_reckons_49 : decode cX9_reckons 49 = .ok (.iload_n 3, 1) := by decide +kernel
theorem dX9_reckons_50 : decode cX9_reckons 50 = .ok (.iload 5, 2) := by decide +kernel
theorem dX9_reckons_52 : decode cX9_reckons 52 = .ok (.ifCond .ne 14, 3) := by decide +kernel
theorem dX9_reckons_55 : decode cX9_reckons 55 = .ok (.aload_n 0, 1) := by decide +kernel
theorem dX9_reckons_56 : decode cX9_reckons 56 = .ok (.getfield 112, 3) := by decide +kernel
theorem dX9_reckons_59 : decode cX9_reckons 59 = .ok (.iload 4, 2) := by decide +kernel
theorem dX9_reckons_61 : decode cX9_reckons 61 = .ok (.iaload, 1) := by decide +kernel
theorem dX9_reckons_62 : decode cX9_reckons 62 = .ok (.i2l, 1) := by decide +kernel
theorem dX9_reckons_63 : decode cX9_reckons 63 = .ok (.goto 22, 3) := by decide +kernel
theorem dX9_reckons_66 : decode cX9_reckons 66 = .ok (.iload 5, 2) := by decide +kernel
theorem dX9_reckons_68 : decode cX9_reckons 68 = .ok (.bipush 9, 2) := by decide +kernel
theorem dX9_reckons_70 : decode cX9_reckons 70 = .ok (.if_icmp .ne 7, 3) := by decide +kernel
theorem dX9_reckons_73 : decode cX9_reckons 73 = .ok (.lconst 1, 1) := by decide +kernel
theorem dX9_reckons_74 : decode cX9_reckons 74 = .ok (.goto 11, 3) := by decide +kernel
theorem dX9_reckons_77 : decode cX9_reckons 77 = .ok (.aload_n 0, 1) := by decide +kernel
theorem dX9_reckons_78 : decode cX9_reckons 78 = .ok (.getfield 159, 3) := by decide +kernel
theorem dX9_reckons_81 : decode cX9_reckons 81 = .ok (.iload 5, 2) := by decide +kernel
theorem dX9_reckons_83 : decode cX9_reckons 83 = .ok (.iaload, 1) := by decide +kernel
theorem dX9_reckons_84 : decode cX9_reckons 84 = .ok (.i2l, 1) := by decide +kernel
theorem dX9_reckons_85 : decode cX9_reckons 85 = .ok (.lastore, 1) := by decide +kernel
theorem dX9_reckons_86 : decode cX9_reckons 86 = .ok (.iinc 3 1, 3) := by decide +kernel
theorem dX9_reckons_89 : decode cX9_reckons 89 = .ok (.goto 61, 3) := by decide +kernel
theorem dX9_reckons_92 : decode cX9_reckons 92 = .ok (.iload 5, 2) := by decide +kernel
theorem dX9_reckons_94 : decode cX9_reckons 94 = .ok (.bipush 22, 2) := by decide +kernel
theorem dX9_reckons_96 : decode cX9_reckons 96 = .ok (.if_icmp .ne 24, 3) := by decide +kernel
theorem dX9_reckons_99 : decode cX9_reckons 99 = .ok (.aload_n 0, 1) := by decide +kernel
theorem dX9_reckons_100 : decode cX9_reckons 100 = .ok (.getfield 156, 3) := by decide +kernel
theorem dX9_reckons_103 : decode cX9_reckons 103 = .ok (.iload_n 3, 1) := by decide +kernel
theorem dX9_reckons_104 : decode cX9_reckons 104 = .ok (.iconst 1, 1) := by decide +kernel
theorem dX9_reckons_105 : decode cX9_reckons 105 = .ok (.isub, 1) := by decide +kernel
theorem dX9_reckons_106 : decode cX9_reckons 106 = .ok (.lconst 1, 1) := by decide +kernel
theorem dX9_reckons_107 : decode cX9_reckons 107 = .ok (.aload_n 0, 1) := by decide +kernel
theorem dX9_reckons_108 : decode cX9_reckons 108 = .ok (.getfield 156, 3) := by decide +kernel
theorem dX9_reckons_111 : decode cX9_reckons 111 = .ok (.iload_n 3, 1) := by decide +kernel
theorem dX9_reckons_112 : decode cX9_reckons 112 = .ok (.iconst 1, 1) := by decide +kernel
theorem dX9_reckons_113 : decode cX9_reckons 113 = .ok (.isub, 1) := by decide +kernel
theorem dX9_reckons_114 : decode cX9_reckons 114 = .ok (.laload, 1) := by decide +kernel
theorem dX9_reckons_115 : decode cX9_reckons 115 = .ok (.lsub, 1) := by decide +kernel
theorem dX9_reckons_116 : decode cX9_reckons 116 = .ok (.lastore, 1) := by decide +kernel
theorem dX9_reckons_117 : decode cX9_reckons 117 = .ok (.goto 33, 3) := by decide +kernel
theorem dX9_reckons_120 : decode cX9_reckons 120 = .ok (.iinc 3 (-1), 3) := by decide +kernel
theorem dX9_reckons_123 : decode cX9_reckons 123 = .ok (.aload_n 0, 1) := by decide +kernel
theorem dX9_reckons_124 : decode cX9_reckons 124 = .ok (.getfield 156, 3) := by decide +kernel
theorem dX9_reckons_127 : decode cX9_reckons 127 = .ok (.iload_n 3, 1) := by decide +kernel
theorem dX9_reckons_128 : decode cX9_reckons 128 = .ok (.iconst 1, 1) := by decide +kernel
theorem dX9_reckons_129 : decode cX9_reckons 129 = .ok (.isub, 1) := by decide +kernel
theorem dX9_reckons_130 : decode cX9_reckons 130 = .ok (.iload 5, 2) := by decide +kernel
theorem dX9_reckons_132 : decode cX9_reckons 132 = .ok (.aload_n 0, 1) := by decide +kernel
theorem dX9_reckons_133 : decode cX9_reckons 133 = .ok (.getfield 156, 3) := by decide +kernel
theorem dX9_reckons_136 : decode cX9_reckons 136 = .ok (.iload_n 3, 1) := by decide +kernel
theorem dX9_reckons_137 : decode cX9_reckons 137 = .ok (.iconst 1, 1) := by decide +kernel
theorem dX9_reckons_138 : decode cX9_reckons 138 = .ok (.isub, 1) := by decide +kernel
theorem dX9_reckons_139 : decode cX9_reckons 139 = .ok (.laload, 1) := by decide +kernel
theorem dX9_reckons_140 : decode cX9_reckons 140 = .ok (.aload_n 0, 1) := by decide +kernel
theorem dX9_reckons_141 : decode cX9_reckons 141 = .ok (.getfield 156, 3) := by decide +kernel
theorem dX9_reckons_144 : decode cX9_reckons 144 = .ok (.iload_n 3, 1) := by decide +kernel
theorem dX9_reckons_145 : decode cX9_reckons 145 = .ok (.laload, 1) := by decide +kernel
theorem dX9_reckons_146 : decode cX9_reckons 146 = .ok (.invokestatic 438, 3) := by decide +kernel
theorem dX9_reckons_149 : decode cX9_reckons 149 = .ok (.lastore, 1) := by decide +kernel
theorem dX9_reckons_150 : decode cX9_reckons 150 = .ok (.iinc 4 1, 3) := by decide +kernel
theorem dX9_reckons_153 : decode cX9_reckons 153 = .ok (.goto (-139), 3) := by decide +kernel
theorem dX9_reckons_156 : decode cX9_reckons 156 = .ok (.aload_n 0, 1) := by decide +kernel
theorem dX9_reckons_157 : decode cX9_reckons 157 = .ok (.getfield 156, 3) := by decide +kernel
theorem dX9_reckons_160 : decode cX9_reckons 160 = .ok (.iconst 0, 1) := by decide +kernel
theorem dX9_reckons_161 : decode cX9_reckons 161 = .ok (.laload, 1) := by decide +kernel
theorem dX9_reckons_162 : decode cX9_reckons 162 = .ok (.lreturn, 1) := by decide +kernel
theorem dX9_refuses_0 : decode cX9_refuses 0 = .ok (.aload_n 0, 1) := by decide +kernel
theorem dX9_refuses_1 : decode cX9_refuses 1 = .ok (.getfield 153, 3) := by decide +kernel
theorem dX9_refuses_4 : decode cX9_refuses 4 = .ok (.iload_n 1, 1) := by decide +kernel
theorem dX9_refuses_5 : decode cX9_refuses 5 = .ok (.dup2, 1) := by decide +kernel
theorem dX9_refuses_6 : decode cX9_refuses 6 = .ok (.iaload, 1) := by decide +kernel
theorem dX9_refuses_7 : decode cX9_refuses 7 = .ok (.iconst 1, 1) := by decide +kernel
theorem dX9_refuses_8 : decode cX9_refuses 8 = .ok (.iadd, 1) := by decide +kernel
theorem dX9_refuses_9 : decode cX9_refuses 9 = .ok (.iastore, 1) := by decide +kernel
theorem dX9_refuses_10 : decode cX9_refuses 10 = .ok (.iconst (-1), 1) := by decide +kernel
theorem dX9_refuses_11 : decode cX9_refuses 11 = .ok (.ireturn, 1) := by decide +kernel
theorem dX9_ring_0 : decode cX9_ring 0 = .ok (.iconst 2, 1) := by decide +kernel
theorem dX9_ring_1 : decode cX9_ring 1 = .ok (.aload_n 0, 1) := by decide +kernel
theorem dX9_ring_2 : decode cX9_ring 2 = .ok (.getfield 207, 3) := by decide +kernel
theorem dX9_ring_5 : decode cX9_ring 5 = .ok (.iload_n 1, 1) := by decide +kernel
theorem dX9_ring_6 : decode cX9_ring 6 = .ok (.iadd, 1) := by decide +kernel
theorem dX9_ring_7 : decode cX9_ring 7 = .ok (.bipush 20, 2) := by decide +kernel
theorem dX9_ring_9 : decode cX9_ring 9 = .ok (.irem, 1) := by decide +kernel
theorem dX9_ring_10 : decode cX9_ring 10 = .ok (.iadd, 1) := by decide +kernel
theorem dX9_ring_11 : decode cX9_ring 11 = .ok (.ireturn, 1) := by decide +kernel
theorem dX9_ropeOf_0 : decode cX9_ropeOf 0 = .ok (.aload_n 0, 1) := by decide +kernel
theorem dX9_ropeOf_1 : decode cX9_ropeOf 1 = .ok (.iconst 0, 1) := by decide +kernel
theorem dX9_ropeOf_2 : decode cX9_ropeOf 2 = .ok (.putfield 225, 3) := by decide +kernel
theorem dX9_ropeOf_5 : decode cX9_ropeOf 5 = .ok (.iconst 0, 1) := by decide +kernel
theorem dX9_ropeOf_6 : decode cX9_ropeOf 6 = .ok (.istore_n 2, 1) := by decide +kernel
theorem dX9_ropeOf_7 : decode cX9_ropeOf 7 = .ok (.iload_n 2, 1) := by decide +kernel
theorem dX9_ropeOf_8 : decode cX9_ropeOf 8 = .ok (.aload_n 0, 1) := by decide +kernel
theorem dX9_ropeOf_9 : decode cX9_ropeOf 9 = .ok (.invokevirtual 445, 3) := by decide +kernel
theorem dX9_ropeOf_12 : decode cX9_ropeOf 12 = .ok (.if_icmp .ge 50, 3) := by decide +kernel
theorem dX9_ropeOf_15 : decode cX9_ropeOf 15 = .ok (.iload_n 1, 1) := by decide +kernel
theorem dX9_ropeOf_16 : decode cX9_ropeOf 16 = .ok (.aload_n 0, 1) := by decide +kernel
theorem dX9_ropeOf_17 : decode cX9_ropeOf 17 = .ok (.getfield 165, 3) := by decide +kernel
theorem dX9_ropeOf_20 : decode cX9_ropeOf 20 = .ok (.iload_n 2, 1) := by decide +kernel
theorem dX9_ropeOf_21 : decode cX9_ropeOf 21 = .ok (.iaload, 1) := by decide +kernel
theorem dX9_ropeOf_22 : decode cX9_ropeOf 22 = .ok (.ishr, 1) := by decide +kernel
theorem dX9_ropeOf_23 : decode cX9_ropeOf 23 = .ok (.iconst 1, 1) := by decide +kernel
theorem dX9_ropeOf_24 : decode cX9_ropeOf 24 = .ok (.iand, 1) := by decide +kernel
theorem dX9_ropeOf_25 : decode cX9_ropeOf 25 = .ok (.ifCond .ne 6, 3) := by decide +kernel
theorem dX9_ropeOf_28 : decode cX9_ropeOf 28 = .ok (.goto 28, 3) := by decide +kernel
theorem dX9_ropeOf_31 : decode cX9_ropeOf 31 = .ok (.aload_n 0, 1) := by decide +kernel
theorem dX9_ropeOf_32 : decode cX9_ropeOf 32 = .ok (.getfield 222, 3) := by decide +kernel
theorem dX9_ropeOf_35 : decode cX9_ropeOf 35 = .ok (.aload_n 0, 1) := by decide +kernel
theorem dX9_ropeOf_36 : decode cX9_ropeOf 36 = .ok (.getfield 225, 3) := by decide +kernel
theorem dX9_ropeOf_39 : decode cX9_ropeOf 39 = .ok (.aload_n 0, 1) := by decide +kernel
theorem dX9_ropeOf_40 : decode cX9_ropeOf 40 = .ok (.getfield 165, 3) := by decide +kernel
theorem dX9_ropeOf_43 : decode cX9_ropeOf 43 = .ok (.iload_n 2, 1) := by decide +kernel
theorem dX9_ropeOf_44 : decode cX9_ropeOf 44 = .ok (.iaload, 1) := by decide +kernel
theorem dX9_ropeOf_45 : decode cX9_ropeOf 45 = .ok (.iastore, 1) := by decide +kernel
theorem dX9_ropeOf_46 : decode cX9_ropeOf 46 = .ok (.aload_n 0, 1) := by decide +kernel
theorem dX9_ropeOf_47 : decode cX9_ropeOf 47 = .ok (.dup, 1) := by decide +kernel
theorem dX9_ropeOf_48 : decode cX9_ropeOf 48 = .ok (.getfield 225, 3) := by decide +kernel
theorem dX9_ropeOf_51 : decode cX9_ropeOf 51 = .ok (.iconst 1, 1) := by decide +kernel
theorem dX9_ropeOf_52 : decode cX9_ropeOf 52 = .ok (.iadd, 1) := by decide +kernel
theorem dX9_ropeOf_53 : decode cX9_ropeOf 53 = .ok (.putfield 225, 3) := by decide +kernel
theorem dX9_ropeOf_56 : decode cX9_ropeOf 56 = .ok (.iinc 2 1, 3) := by decide +kernel
theorem dX9_ropeOf_59 : decode cX9_ropeOf 59 = .ok (.goto (-52), 3) := by decide +kernel
theorem dX9_ropeOf_62 : decode cX9_ropeOf 62 = .ok (.aload_n 0, 1) := by decide +kernel
theorem dX9_ropeOf_63 : decode cX9_ropeOf 63 = .ok (.invokevirtual 561, 3) := by decide +kernel
theorem dX9_ropeOf_66 : decode cX9_ropeOf 66 = .ok (.ireturn, 1) := by decide +kernel
theorem dX9_rowNow_0 : decode cX9_rowNow 0 = .ok (.aload_n 0, 1) := by decide +kernel
theorem dX9_rowNow_1 : decode cX9_rowNow 1 = .ok (.aload_n 0, 1) := by decide +kernel
theorem dX9_rowNow_2 : decode cX9_rowNow 2 = .ok (.invokevirtual 445, 3) := by decide +kernel
theorem dX9_rowNow_5 : decode cX9_rowNow 5 = .ok (.putfield 225, 3) := by decide +kernel
theorem dX9_rowNow_8 : decode cX9_rowNow 8 = .ok (.aload_n 0, 1) := by decide +kernel
theorem dX9_rowNow_9 : decode cX9_rowNow 9 = .ok (.iconst 0, 1) := by decide +kernel
theorem dX9_rowNow_10 : decode cX9_rowNow 10 = .ok (.putfield 228, 3) := by decide +kernel
theorem dX9_rowNow_13 : decode cX9_rowNow 13 = .ok (.aload_n 0, 1) := by decide +kernel
theorem dX9_rowNow_14 : decode cX9_rowNow 14 = .ok (.iload_n 1, 1) := by decide +kernel
theorem dX9_rowNow_15 : decode cX9_rowNow 15 = .ok (.putfield 231, 3) := by decide +kernel
theorem dX9_rowNow_18 : decode cX9_rowNow 18 = .ok (.iconst 0, 1) := by decide +kernel
theorem dX9_rowNow_19 : decode cX9_rowNow 19 = .ok (.istore_n 2, 1) := by decide +kernel
theorem dX9_rowNow_20 : decode cX9_rowNow 20 = .ok (.iload_n 2, 1) := by decide +kernel
theorem dX9_rowNow_21 : decode cX9_rowNow 21 = .ok (.aload_n 0, 1) := by decide +kernel
theorem dX9_rowNow_22 : decode cX9_rowNow 22 = .ok (.getfield 225, 3) := by decide +kernel
theorem dX9_rowNow_25 : decode cX9_rowNow 25 = .ok (.if_icmp .ge 26, 3) := by decide +kernel
theorem dX9_rowNow_28 : decode cX9_rowNow 28 = .ok (.aload_n 0, 1) := by decide +kernel
theorem dX9_rowNow_29 : decode cX9_rowNow 29 = .ok (.getfield 222, 3) := by decide +kernel
theorem dX9_rowNow_32 : decode cX9_rowNow 32 = .ok (.iload_n 2, 1) := by decide +kernel
theorem dX9_rowNow_33 : decode cX9_rowNow 33 = .ok (.aload_n 0, 1) := by decide +kernel
theorem dX9_rowNow_34 : decode cX9_rowNow 34 = .ok (.getfield 165, 3) := by decide +kernel
theorem dX9_rowNow_37 : decode cX9_rowNow 37 = .ok (.bipush 12, 2) := by decide +kernel
theorem dX9_rowNow_39 : decode cX9_rowNow 39 = .ok (.iload_n 1, 1) := by decide +kernel
theorem dX9_rowNow_40 : decode cX9_rowNow 40 = .ok (.imul, 1) := by decide +kernel
theorem dX9_rowNow_41 : decode cX9_rowNow 41 = .ok (.iload_n 2, 1) := by decide +kernel
theorem dX9_rowNow_42 : decode cX9_rowNow 42 = .ok (.iadd, 1) := by decide +kernel
theorem dX9_rowNow_43 : decode cX9_rowNow 43 = .ok (.iaload, 1) := by decide +kernel
theorem dX9_rowNow_44 : decode cX9_rowNow 44 = .ok (.iastore, 1) := by decide +kernel
theorem dX9_rowNow_45 : decode cX9_rowNow 45 = .ok (.iinc 2 1, 3) := by decide +kernel
theorem dX9_rowNow_48 : decode cX9_rowNow 48 = .ok (.goto (-28), 3) := by decide +kernel
theorem dX9_rowNow_51 : decode cX9_rowNow 51 = .ok (.return_, 1) := by decide +kernel
theorem dX9_seed_0 : decode cX9_seed 0 = .ok (.iload_n 1, 1) := by decide +kernel
theorem dX9_seed_1 : decode cX9_seed 1 = .ok (.ifCond .ge 17, 3) := by decide +kernel
theorem dX9_seed_4 : decode cX9_seed 4 = .ok (.aload_n 0, 1) := by decide +kernel
theorem dX9_seed_5 : decode cX9_seed 5 = .ok (.iconst 5, 1) := by decide +kernel
theorem dX9_seed_6 : decode cX9_seed 6 = .ok (.invokevirtual 261, 3) := by decide +kernel
theorem dX9_seed_9 : decode cX9_seed 9 = .ok (.ifCond .lt 7, 3) := by decide +kernel
theorem dX9_seed_12 : decode cX9_seed 12 = .ok (.iconst 1, 1) := by decide +kernel
theorem dX9_seed_13 : decode cX9_seed 13 = .ok (.goto 4, 3) := by decide +kernel
theorem dX9_seed_16 : decode cX9_seed 16 = .ok (.iconst 0, 1) := by decide +kernel
theorem dX9_seed_17 : decode cX9_seed 17 = .ok (.ireturn, 1) := by decide +kernel
theorem dX9_seed_18 : decode cX9_seed 18 = .ok (.aload_n 0, 1) := by decide +kernel
theorem dX9_seed_19 : decode cX9_seed 19 = .ok (.iload_n 1, 1) := by decide +kernel
theorem dX9_seed_20 : decode cX9_seed 20 = .ok (.i2l, 1) := by decide +kernel
theorem dX9_seed_21 : decode cX9_seed 21 = .ok (.putfield 213, 3) := by decide +kernel
theorem dX9_seed_24 : decode cX9_seed 24 = .ok (.iconst 1, 1) := by decide +kernel
theorem dX9_seed_25 : decode cX9_seed 25 = .ok (.ireturn, 1) := by decide +kernel
theorem dX9_slack_0 : decode cX9_slack 0 = .ok (.aload_n 0, 1) := by decide +kernel
theorem dX9_slack_1 : decode cX9_slack 1 = .ok (.iload_n 1, 1) := by decide +kernel
theorem dX9_slack_2 : decode cX9_slack 2 = .ok (.invokevirtual 546, 3) := by decide +kernel
theorem dX9_slack_5 : decode cX9_slack 5 = .ok (.ifCond .eq 13, 3) := by decide +kernel
theorem dX9_slack_8 : decode cX9_slack 8 = .ok (.iload_n 2, 1) := by decide +kernel
theorem dX9_slack_9 : decode cX9_slack 9 = .ok (.iconst 0, 1) := by decide +kernel
theorem dX9_slack_10 : decode cX9_slack 10 = .ok (.bipush 99, 2) := by decide +kernel
theorem dX9_slack_12 : decode cX9_slack 12 = .ok (.invokestatic 340, 3) := by decide +kernel
theorem dX9_slack_15 : decode cX9_slack 15 = .ok (.ifCond .ne 9, 3) := by decide +kernel
theorem dX9_slack_18 : decode cX9_slack 18 = .ok (.aload_n 0, 1) := by decide +kernel
theorem dX9_slack_19 : decode cX9_slack 19 = .ok (.iconst 3, 1) := by decide +kernel
theorem dX9_slack_20 : decode cX9_slack 20 = .ok (.invokevirtual 261, 3) := by decide +kernel
theorem dX9_slack_23 : decode cX9_slack 23 = .ok (.ireturn, 1) := by decide +kernel
theorem dX9_slack_24 : decode cX9_slack 24 = .ok (.aload_n 0, 1) := by decide +kernel
theorem dX9_slack_25 : decode cX9_slack 25 = .ok (.invokevirtual 555, 3) := by decide +kernel
theorem dX9_slack_28 : decode cX9_slack 28 = .ok (.aload_n 0, 1) := by decide +kernel
theorem dX9_slack_29 : decode cX9_slack 29 = .ok (.getfield 198, 3) := by decide +kernel
theorem dX9_slack_32 : decode cX9_slack 32 = .ok (.iload_n 1, 1) := by decide +kernel
theorem dX9_slack_33 : decode cX9_slack 33 = .ok (.iaload, 1) := by decide +kernel
theorem dX9_slack_34 : decode cX9_slack 34 = .ok (.istore_n 3, 1) := by decide +kernel
theorem dX9_slack_35 : decode cX9_slack 35 = .ok (.aload_n 0, 1) := by decide +kernel
theorem dX9_slack_36 : decode cX9_slack 36 = .ok (.getfield 198, 3) := by decide +kernel
theorem dX9_slack_39 : decode cX9_slack 39 = .ok (.iload_n 1, 1) := by decide +kernel
theorem dX9_slack_40 : decode cX9_slack 40 = .ok (.iload_n 2, 1) := by decide +kernel
theorem dX9_slack_41 : decode cX9_slack 41 = .ok (.iastore, 1) := by decide +kernel
theorem dX9_slack_42 : decode cX9_slack 42 = .ok (.iload_n 3, 1) := by decide +kernel
theorem dX9_slack_43 : decode cX9_slack 43 = .ok (.ireturn, 1) := by decide +kernel
theorem dX9_slackAt_0 : decode cX9_slackAt 0 = .ok (.aload_n 0, 1) := by decide +kernel
theorem dX9_slackAt_1 : decode cX9_slackAt 1 = .ok (.getfield 198, 3) := by decide +kernel
theorem dX9_slackAt_4 : decode cX9_slackAt 4 = .ok (.bipush 11, 2) := by decide +kernel
theorem dX9_slackAt_6 : decode cX9_slackAt 6 = .ok (.aload_n 0, 1) := by decide +kernel
theorem dX9_slackAt_7 : decode cX9_slackAt 7 = .ok (.getfield 228, 3) := by decide +kernel
theorem dX9_slackAt_10 : decode cX9_slackAt 10 = .ok (.ifCond .eq 7, 3) := by decide +kernel
theorem dX9_slackAt_13 : decode cX9_slackAt 13 = .ok (.iconst 0, 1) := by decide +kernel
theorem dX9_slackAt_14 : decode cX9_slackAt 14 = .ok (.goto 7, 3) := by decide +kernel
theorem dX9_slackAt_17 : decode cX9_slackAt 17 = .ok (.aload_n 0, 1) := by decide +kernel
theorem dX9_slackAt_18 : decode cX9_slackAt 18 = .ok (.getfield 231, 3) := by decide +kernel
theorem dX9_slackAt_21 : decode cX9_slackAt 21 = .ok (.imul, 1) := by decide +kernel
theorem dX9_slackAt_22 : decode cX9_slackAt 22 = .ok (.iload_n 1, 1) := by decide +kernel
theorem dX9_slackAt_23 : decode cX9_slackAt 23 = .ok (.iadd, 1) := by decide +kernel
theorem dX9_slackAt_24 : decode cX9_slackAt 24 = .ok (.iaload, 1) := by decide +kernel
theorem dX9_slackAt_25 : decode cX9_slackAt 25 = .ok (.ireturn, 1) := by decide +kernel
theorem dX9_slacking_0 : decode cX9_slacking 0 = .ok (.aload_n 0, 1) := by decide +kernel
theorem dX9_slacking_1 : decode cX9_slacking 1 = .ok (.iconst 0, 1) := by decide +kernel
theorem dX9_slacking_2 : decode cX9_slacking 2 = .ok (.invokevirtual 381, 3) := by decide +kernel
theorem dX9_slacking_5 : decode cX9_slacking 5 = .ok (.ifCond .ne 4, 3) := by decide +kernel
theorem dX9_slacking_8 : decode cX9_slacking 8 = .ok (.return_, 1) := by decide +kernel
theorem dX9_slacking_9 : decode cX9_slacking 9 = .ok (.aload_n 0, 1) := by decide +kernel
theorem dX9_slacking_10 : decode cX9_slacking 10 = .ok (.iconst 0, 1) := by decide +kernel
theorem dX9_slacking_11 : decode cX9_slacking 11 = .ok (.bipush 99, 2) := by decide +kernel
theorem dX9_slacking_13 : decode cX9_slacking 13 = .ok (.invokevirtual 393, 3) := by decide +kernel
theorem dX9_slacking_16 : decode cX9_slacking 16 = .ok (.istore_n 1, 1) := by decide +kernel
theorem dX9_slacking_17 : decode cX9_slacking 17 = .ok (.aload_n 0, 1) := by decide +kernel
theorem dX9_slacking_18 : decode cX9_slacking 18 = .ok (.ldc2_w 302, 3) := by decide +kernel
theorem dX9_slacking_21 : decode cX9_slacking 21 = .ok (.invokevirtual 389, 3) := by decide +kernel
theorem dX9_slacking_24 : decode cX9_slacking 24 = .ok (.aload_n 0, 1) := by decide +kernel
theorem dX9_slacking_25 : decode cX9_slacking 25 = .ok (.iconst 0, 1) := by decide +kernel
theorem dX9_slacking_26 : decode cX9_slacking 26 = .ok (.bipush 10, 2) := by decide +kernel
theorem dX9_slacking_28 : decode cX9_slacking 28 = .ok (.invokevirtual 393, 3) := by decide +kernel
theorem dX9_slacking_31 : decode cX9_slacking 31 = .ok (.istore_n 2, 1) := by decide +kernel
theorem dX9_slacking_32 : decode cX9_slacking 32 = .ok (.aload_n 0, 1) := by decide +kernel
theorem dX9_slacking_33 : decode cX9_slacking 33 = .ok (.getfield 36, 3) := by decide +kernel
theorem dX9_slacking_36 : decode cX9_slacking 36 = .ok (.ifCond .ne 18, 3) := by decide +kernel
theorem dX9_slacking_39 : decode cX9_slacking 39 = .ok (.aload_n 0, 1) := by decide +kernel
theorem dX9_slacking_40 : decode cX9_slacking 40 = .ok (.getfield 73, 3) := by decide +kernel
theorem dX9_slacking_43 : decode cX9_slacking 43 = .ok (.bipush 11, 2) := by decide +kernel
theorem dX9_slacking_45 : decode cX9_slacking 45 = .ok (.aload_n 0, 1) := by decide +kernel
theorem dX9_slacking_46 : decode cX9_slacking 46 = .ok (.getfield 118, 3) := by decide +kernel
theorem dX9_slacking_49 : decode cX9_slacking 49 = .ok (.imul, 1) := by decide +kernel
theorem dX9_slacking_50 : decode cX9_slacking 50 = .ok (.iload_n 2, 1) := by decide +kernel
theorem dX9_slacking_51 : decode cX9_slacking 51 = .ok (.iadd, 1) := by decide +kernel
theorem dX9_slacking_52 : decode cX9_slacking 52 = .ok (.iload_n 1, 1) := by decide +kernel
theorem dX9_slacking_53 : decode cX9_slacking 53 = .ok (.iastore, 1) := by decide +kernel
theorem dX9_slacking_54 : decode cX9_slacking 54 = .ok (.return_, 1) := by decide +kernel
theorem dX9_snores_0 : decode cX9_snores 0 = .ok (.aload_n 0, 1) := by decide +kernel
theorem dX9_snores_1 : decode cX9_snores 1 = .ok (.getfield 70, 3) := by decide +kernel
theorem dX9_snores_4 : decode cX9_snores 4 = .ok (.bipush 12, 2) := by decide +kernel
theorem dX9_snores_6 : decode cX9_snores 6 = .ok (.aload_n 0, 1) := by decide +kernel
theorem dX9_snores_7 : decode cX9_snores 7 = .ok (.getfield 48, 3) := by decide +kernel
theorem dX9_snores_10 : decode cX9_snores 10 = .ok (.imul, 1) := by decide +kernel
theorem dX9_snores_11 : decode cX9_snores 11 = .ok (.iload_n 1, 1) := by decide +kernel
theorem dX9_snores_12 : decode cX9_snores 12 = .ok (.iadd, 1) := by decide +kernel
theorem dX9_snores_13 : decode cX9_snores 13 = .ok (.iaload, 1) := by decide +kernel
theorem dX9_snores_14 : decode cX9_snores 14 = .ok (.iconst 1, 1) := by decide +kernel
theorem dX9_snores_15 : decode cX9_snores 15 = .ok (.iand, 1) := by decide +kernel
theorem dX9_snores_16 : decode cX9_snores 16 = .ok (.ifCond .eq 7, 3) := by decide +kernel
theorem dX9_snores_19 : decode cX9_snores 19 = .ok (.iconst 1, 1) := by decide +kernel
theorem dX9_snores_20 : decode cX9_snores 20 = .ok (.goto 4, 3) := by decide +kernel
theorem dX9_snores_23 : decode cX9_snores 23 = .ok (.iconst 0, 1) := by decide +kernel
theorem dX9_snores_24 : decode cX9_snores 24 = .ok (.ireturn, 1) := by decide +kernel
theorem dX9_statement_0 : decode cX9_statement 0 = .ok (.aload_n 0, 1) := by decide +kernel
theorem dX9_statement_1 : decode cX9_statement 1 = .ok (.ldc2_w 286, 3) := by decide +kernel
theorem dX9_statement_4 : decode cX9_statement 4 = .ok (.invokevirtual 356, 3) := by decide +kernel
theorem dX9_statement_7 : decode cX9_statement 7 = .ok (.ifCond .eq 10, 3) := by decide +kernel
theorem dX9_statement_10 : decode cX9_statement 10 = .ok (.aload_n 0, 1) := by decide +kernel
theorem dX9_statement_11 : decode cX9_statement 11 = .ok (.invokevirtual 404, 3) := by decide +kernel
theorem dX9_statement_14 : decode cX9_statement 14 = .ok (.goto 82, 3) := by decide +kernel
theorem dX9_statement_17 : decode cX9_statement 17 = .ok (.aload_n 0, 1) := by decide +kernel
theorem dX9_statement_18 : decode cX9_statement 18 = .ok (.ldc2_w 300, 3) := by decide +kernel
theorem dX9_statement_21 : decode cX9_statement 21 = .ok (.invokevirtual 356, 3) := by decide +kernel
theorem dX9_statement_24 : decode cX9_statement 24 = .ok (.ifCond .eq 10, 3) := by decide +kernel
theorem dX9_statement_27 : decode cX9_statement 27 = .ok (.aload_n 0, 1) := by decide +kernel
theorem dX9_statement_28 : decode cX9_statement 28 = .ok (.invokevirtual 407, 3) := by decide +kernel
theorem dX9_statement_31 : decode cX9_statement 31 = .ok (.goto 65, 3) := by decide +kernel
theorem dX9_statement_34 : decode cX9_statement 34 = .ok (.aload_n 0, 1) := by decide +kernel
theorem dX9_statement_35 : decode cX9_statement 35 = .ok (.ldc2_w 304, 3) := by decide +kernel
theorem dX9_statement_38 : decode cX9_statement 38 = .ok (.invokevirtual 356, 3) := by decide +kernel
theorem dX9_statement_41 : decode cX9_statement 41 = .ok (.ifCond .eq 10, 3) := by decide +kernel
theorem dX9_statement_44 : decode cX9_statement 44 = .ok (.aload_n 0, 1) := by decide +kernel
theorem dX9_statement_45 : decode cX9_statement 45 = .ok (.invokevirtual 410, 3) := by decide +kernel
theorem dX9_statement_48 : decode cX9_statement 48 = .ok (.goto 48, 3) := by decide +kernel
theorem dX9_statement_51 : decode cX9_statement 51 = .ok (.aload_n 0, 1) := by decide +kernel
theorem dX9_statement_52 : decode cX9_statement 52 = .ok (.ldc2_w 312, 3) := by decide +kernel
theorem dX9_statement_55 : decode cX9_statement 55 = .ok (.invokevirtual 356, 3) := by decide +kernel
theorem dX9_statement_58 : decode cX9_statement 58 = .ok (.ifCond .eq 11, 3) := by decide +kernel
theorem dX9_statement_61 : decode cX9_statement 61 = .ok (.aload_n 0, 1) := by decide +kernel
theorem dX9_statement_62 : decode cX9_statement 62 = .ok (.iconst 0, 1) := by decide +kernel
theorem dX9_statement_63 : decode cX9_statement 63 = .ok (.invokevirtual 413, 3) := by decide +kernel
theorem dX9_statement_66 : decode cX9_statement 66 = .ok (.goto 30, 3) := by decide +kernel
theorem dX9_statement_69 : decode cX9_statement 69 = .ok (.aload_n 0, 1) := by decide +kernel
theorem dX9_statement_70 : decode cX9_statement 70 = .ok (.ldc2_w 314, 3) := by decide +kernel
theorem dX9_statement_73 : decode cX9_statement 73 = .ok (.invokevirtual 356, 3) := by decide +kernel
theorem dX9_statement_76 : decode cX9_statement 76 = .ok (.ifCond .eq 11, 3) := by decide +kernel
theorem dX9_statement_79 : decode cX9_statement 79 = .ok (.aload_n 0, 1) := by decide +kernel
theorem dX9_statement_80 : decode cX9_statement 80 = .ok (.iconst 1, 1) := by decide +kernel
theorem dX9_statement_81 : decode cX9_statement 81 = .ok (.invokevirtual 413, 3) := by decide +kernel
theorem dX9_statement_84 : decode cX9_statement 84 = .ok (.goto 12, 3) := by decide +kernel
theorem dX9_statement_87 : decode cX9_statement 87 = .ok (.aload_n 0, 1) := by decide +kernel
theorem dX9_statement_88 : decode cX9_statement 88 = .ok (.iconst 1, 1) := by decide +kernel
theorem dX9_statement_89 : decode cX9_statement 89 = .ok (.aload_n 0, 1) := by decide +kernel
theorem dX9_statement_90 : decode cX9_statement 90 = .ok (.getfield 23, 3) := by decide +kernel
theorem dX9_statement_93 : decode cX9_statement 93 = .ok (.invokevirtual 276, 3) := by decide +kernel
theorem dX9_statement_96 : decode cX9_statement 96 = .ok (.return_, 1) := by decide +kernel
theorem dX9_status_0 : decode cX9_status 0 = .ok (.iload_n 1, 1) := by decide +kernel
theorem dX9_status_1 : decode cX9_status 1 = .ok (.iconst 0, 1) := by decide +kernel
theorem dX9_status_2 : decode cX9_status 2 = .ok (.iconst 5, 1) := by decide +kernel
theorem dX9_status_3 : decode cX9_status 3 = .ok (.invokestatic 340, 3) := by decide +kernel
theorem dX9_status_6 : decode cX9_status 6 = .ok (.ifCond .eq 12, 3) := by decide +kernel
theorem dX9_status_9 : decode cX9_status 9 = .ok (.aload_n 0, 1) := by decide +kernel
theorem dX9_status_10 : decode cX9_status 10 = .ok (.getfield 153, 3) := by decide +kernel
theorem dX9_status_13 : decode cX9_status 13 = .ok (.iload_n 1, 1) := by decide +kernel
theorem dX9_status_14 : decode cX9_status 14 = .ok (.iaload, 1) := by decide +kernel
theorem dX9_status_15 : decode cX9_status 15 = .ok (.goto 4, 3) := by decide +kernel
theorem dX9_status_18 : decode cX9_status 18 = .ok (.iconst (-1), 1) := by decide +kernel
theorem dX9_status_19 : decode cX9_status 19 = .ok (.ireturn, 1) := by decide +kernel
theorem dX9_strain_0 : decode cX9_strain 0 = .ok (.iconst 0, 1) := by decide +kernel
theorem dX9_strain_1 : decode cX9_strain 1 = .ok (.istore_n 2, 1) := by decide +kernel
theorem dX9_strain_2 : decode cX9_strain 2 = .ok (.iconst 0, 1) := by decide +kernel
theorem dX9_strain_3 : decode cX9_strain 3 = .ok (.istore_n 3, 1) := by decide +kernel
theorem dX9_strain_4 : decode cX9_strain 4 = .ok (.aload_n 0, 1) := by decide +kernel
theorem dX9_strain_5 : decode cX9_strain 5 = .ok (.invokevirtual 445, 3) := by decide +kernel
theorem dX9_strain_8 : decode cX9_strain 8 = .ok (.iconst 2, 1) := by decide +kernel
theorem dX9_strain_9 : decode cX9_strain 9 = .ok (.isub, 1) := by decide +kernel
theorem dX9_strain_10 : decode cX9_strain 10 = .ok (.istore 4, 2) := by decide +kernel
theorem dX9_strain_12 : decode cX9_strain 12 = .ok (.iload 4, 2) := by decide +kernel
theorem dX9_strain_14 : decode cX9_strain 14 = .ok (.iload_n 1, 1) := by decide +kernel
theorem dX9_strain_15 : decode cX9_strain 15 = .ok (.if_icmp .lt 92, 3) := by decide +kernel
theorem dX9_strain_18 : decode cX9_strain 18 = .ok (.aload_n 0, 1) := by decide +kernel
theorem dX9_strain_19 : decode cX9_strain 19 = .ok (.getfield 165, 3) := by decide +kernel
theorem dX9_strain_22 : decode cX9_strain 22 = .ok (.iload 4, 2) := by decide +kernel
theorem dX9_strain_24 : decode cX9_strain 24 = .ok (.iconst 1, 1) := by decide +kernel
theorem dX9_strain_25 : decode cX9_strain 25 = .ok (.iadd, 1) := by decide +kernel
theorem dX9_strain_26 : decode cX9_strain 26 = .ok (.iaload, 1) := by decide +kernel
theorem dX9_strain_27 : decode cX9_strain 27 = .ok (.istore 5, 2) := by decide +kernel
theorem dX9_strain_29 : decode cX9_strain 29 = .ok (.aload_n 0, 1) := by decide +kernel
theorem dX9_strain_30 : decode cX9_strain 30 = .ok (.getfield 195, 3) := by decide +kernel
theorem dX9_strain_33 : decode cX9_strain 33 = .ok (.iload 4, 2) := by decide +kernel
theorem dX9_strain_35 : decode cX9_strain 35 = .ok (.iaload, 1) := by decide +kernel
theorem dX9_strain_36 : decode cX9_strain 36 = .ok (.ifCond .ne 7, 3) := by decide +kernel
theorem dX9_strain_39 : decode cX9_strain 39 = .ok (.iconst 0, 1) := by decide +kernel
theorem dX9_strain_40 : decode cX9_strain 40 = .ok (.goto 35, 3) := by decide +kernel
theorem dX9_strain_43 : decode cX9_strain 43 = .ok (.aload_n 0, 1) := by decide +kernel
theorem dX9_strain_44 : decode cX9_strain 44 = .ok (.getfield 168, 3) := by decide +kernel
theorem dX9_strain_47 : decode cX9_strain 47 = .ok (.iload 5, 2) := by decide +kernel
theorem dX9_strain_49 : decode cX9_strain 49 = .ok (.iaload, 1) := by decide +kernel
theorem dX9_strain_50 : decode cX9_strain 50 = .ok (.iconst 1, 1) := by decide +kernel
theorem dX9_strain_51 : decode cX9_strain 51 = .ok (.if_icmp .ne 21, 3) := by decide +kernel
theorem dX9_strain_54 : decode cX9_strain 54 = .ok (.aload_n 0, 1) := by decide +kernel
theorem dX9_strain_55 : decode cX9_strain 55 = .ok (.getfield 67, 3) := by decide +kernel
theorem dX9_strain_58 : decode cX9_strain 58 = .ok (.bipush 12, 2) := by decide +kernel
theorem dX9_strain_60 : decode cX9_strain 60 = .ok (.aload_n 0, 1) := by decide +kernel
theorem dX9_strain_61 : decode cX9_strain 61 = .ok (.getfield 48, 3) := by decide +kernel
theorem dX9_strain_64 : decode cX9_strain 64 = .ok (.imul, 1) := by decide +kernel
theorem dX9_strain_65 : decode cX9_strain 65 = .ok (.iload 5, 2) := by decide +kernel
theorem dX9_strain_67 : decode cX9_strain 67 = .ok (.iadd, 1) := by decide +kernel
theorem dX9_strain_68 : decode cX9_strain 68 = .ok (.iaload, 1) := by decide +kernel
theorem dX9_strain_69 : decode cX9_strain 69 = .ok (.goto 4, 3) := by decide +kernel
theorem dX9_strain_72 : decode cX9_strain 72 = .ok (.iconst 0, 1) := by decide +kernel
theorem dX9_strain_73 : decode cX9_strain 73 = .ok (.iload_n 2, 1) := by decide +kernel
theorem dX9_strain_74 : decode cX9_strain 74 = .ok (.iadd, 1) := by decide +kernel
theorem dX9_strain_75 : decode cX9_strain 75 = .ok (.istore_n 3, 1) := by decide +kernel
theorem dX9_strain_76 : decode cX9_strain 76 = .ok (.iload_n 3, 1) := by decide +kernel
theorem dX9_strain_77 : decode cX9_strain 77 = .ok (.aload_n 0, 1) := by decide +kernel
theorem dX9_strain_78 : decode cX9_strain 78 = .ok (.getfield 198, 3) := by decide +kernel
theorem dX9_strain_81 : decode cX9_strain 81 = .ok (.iload 4, 2) := by decide +kernel
theorem dX9_strain_83 : decode cX9_strain 83 = .ok (.iaload, 1) := by decide +kernel
theorem dX9_strain_84 : decode cX9_strain 84 = .ok (.if_icmp .le 15, 3) := by decide +kernel
theorem dX9_strain_87 : decode cX9_strain 87 = .ok (.iload_n 3, 1) := by decide +kernel
theorem dX9_strain_88 : decode cX9_strain 88 = .ok (.aload_n 0, 1) := by decide +kernel
theorem dX9_strain_89 : decode cX9_strain 89 = .ok (.getfield 198, 3) := by decide +kernel
theorem dX9_strain_92 : decode cX9_strain 92 = .ok (.iload 4, 2) := by decide +kernel
theorem dX9_strain_94 : decode cX9_strain 94 = .ok (.iaload, 1) := by decide +kernel
theorem dX9_strain_95 : decode cX9_strain 95 = .ok (.isub, 1) := by decide +kernel
theorem dX9_strain_96 : decode cX9_strain 96 = .ok (.goto 4, 3) := by decide +kernel
theorem dX9_strain_99 : decode cX9_strain 99 = .ok (.iconst 0, 1) := by decide +kernel
theorem dX9_strain_100 : decode cX9_strain 100 = .ok (.istore_n 2, 1) := by decide +kernel
theorem dX9_strain_101 : decode cX9_strain 101 = .ok (.iinc 4 (-1), 3) := by decide +kernel
theorem dX9_strain_104 : decode cX9_strain 104 = .ok (.goto (-92), 3) := by decide +kernel
theorem dX9_strain_107 : decode cX9_strain 107 = .ok (.iload_n 3, 1) := by decide +kernel
theorem dX9_strain_108 : decode cX9_strain 108 = .ok (.ireturn, 1) := by decide +kernel
theorem dX9_swap_0 : decode cX9_swap 0 = .ok (.aload_n 0, 1) := by decide +kernel
theorem dX9_swap_1 : decode cX9_swap 1 = .ok (.iload_n 1, 1) := by decide +kernel
theorem dX9_swap_2 : decode cX9_swap 2 = .ok (.invokevirtual 543, 3) := by decide +kernel
theorem dX9_swap_5 : decode cX9_swap 5 = .ok (.ifCond .eq 16, 3) := by decide +kernel
theorem dX9_swap_8 : decode cX9_swap 8 = .ok (.aload_n 0, 1) := by decide +kernel
theorem dX9_swap_9 : decode cX9_swap 9 = .ok (.iload_n 2, 1) := by decide +kernel
theorem dX9_swap_10 : decode cX9_swap 10 = .ok (.invokevirtual 543, 3) := by decide +kernel
theorem dX9_swap_13 : decode cX9_swap 13 = .ok (.ifCond .eq 8, 3) := by decide +kernel
theorem dX9_swap_16 : decode cX9_swap 16 = .ok (.iload_n 1, 1) := by decide +kernel
theorem dX9_swap_17 : decode cX9_swap 17 = .ok (.iload_n 2, 1) := by decide +kernel
theorem dX9_swap_18 : decode cX9_swap 18 = .ok (.if_icmp .ne 17, 3) := by decide +kernel
theorem dX9_swap_21 : decode cX9_swap 21 = .ok (.aload_n 0, 1) := by decide +kernel
theorem dX9_swap_22 : decode cX9_swap 22 = .ok (.iconst 3, 1) := by decide +kernel
theorem dX9_swap_23 : decode cX9_swap 23 = .ok (.invokevirtual 261, 3) := by decide +kernel
theorem dX9_swap_26 : decode cX9_swap 26 = .ok (.ifCond .lt 7, 3) := by decide +kernel
theorem dX9_swap_29 : decode cX9_swap 29 = .ok (.iconst 1, 1) := by decide +kernel
theorem dX9_swap_30 : decode cX9_swap 30 = .ok (.goto 4, 3) := by decide +kernel
theorem dX9_swap_33 : decode cX9_swap 33 = .ok (.iconst 0, 1) := by decide +kernel
theorem dX9_swap_34 : decode cX9_swap 34 = .ok (.ireturn, 1) := by decide +kernel
theorem dX9_swap_35 : decode cX9_swap 35 = .ok (.aload_n 0, 1) := by decide +kernel
theorem dX9_swap_36 : decode cX9_swap 36 = .ok (.invokevirtual 555, 3) := by decide +kernel
theorem dX9_swap_39 : decode cX9_swap 39 = .ok (.aload_n 0, 1) := by decide +kernel
theorem dX9_swap_40 : decode cX9_swap 40 = .ok (.getfield 165, 3) := by decide +kernel
theorem dX9_swap_43 : decode cX9_swap 43 = .ok (.iload_n 1, 1) := by decide +kernel
theorem dX9_swap_44 : decode cX9_swap 44 = .ok (.iaload, 1) := by decide +kernel
theorem dX9_swap_45 : decode cX9_swap 45 = .ok (.istore_n 3, 1) := by decide +kernel
theorem dX9_swap_46 : decode cX9_swap 46 = .ok (.aload_n 0, 1) := by decide +kernel
theorem dX9_swap_47 : decode cX9_swap 47 = .ok (.getfield 165, 3) := by decide +kernel
theorem dX9_swap_50 : decode cX9_swap 50 = .ok (.iload_n 1, 1) := by decide +kernel
theorem dX9_swap_51 : decode cX9_swap 51 = .ok (.aload_n 0, 1) := by decide +kernel
theorem dX9_swap_52 : decode cX9_swap 52 = .ok (.getfield 165, 3) := by decide +kernel
theorem dX9_swap_55 : decode cX9_swap 55 = .ok (.iload_n 2, 1) := by decide +kernel
theorem dX9_swap_56 : decode cX9_swap 56 = .ok (.iaload, 1) := by decide +kernel
theorem dX9_swap_57 : decode cX9_swap 57 = .ok (.iastore, 1) := by decide +kernel
theorem dX9_swap_58 : decode cX9_swap 58 = .ok (.aload_n 0, 1) := by decide +kernel
theorem dX9_swap_59 : decode cX9_swap 59 = .ok (.getfield 165, 3) := by decide +kernel
theorem dX9_swap_62 : decode cX9_swap 62 = .ok (.iload_n 2, 1) := by decide +kernel
theorem dX9_swap_63 : decode cX9_swap 63 = .ok (.iload_n 3, 1) := by decide +kernel
theorem dX9_swap_64 : decode cX9_swap 64 = .ok (.iastore, 1) := by decide +kernel
theorem dX9_swap_65 : decode cX9_swap 65 = .ok (.iconst 1, 1) := by decide +kernel
theorem dX9_swap_66 : decode cX9_swap 66 = .ok (.ireturn, 1) := by decide +kernel
theorem dX9_tells_0 : decode cX9_tells 0 = .ok (.aload_n 0, 1) := by decide +kernel
theorem dX9_tells_1 : decode cX9_tells 1 = .ok (.getfield 201, 3) := by decide +kernel
theorem dX9_tells_4 : decode cX9_tells 4 = .ok (.iload_n 1, 1) := by decide +kernel
theorem dX9_tells_5 : decode cX9_tells 5 = .ok (.iaload, 1) := by decide +kernel
theorem dX9_tells_6 : decode cX9_tells 6 = .ok (.sipush 200, 3) := by decide +kernel
theorem dX9_tells_9 : decode cX9_tells 9 = .ok (.if_icmp .ne 58, 3) := by decide +kernel
theorem dX9_tells_12 : decode cX9_tells 12 = .ok (.iconst 5, 1) := by decide +kernel
theorem dX9_tells_13 : decode cX9_tells 13 = .ok (.istore 6, 2) := by decide +kernel
theorem dX9_tells_15 : decode cX9_tells 15 = .ok (.iload 6, 2) := by decide +kernel
theorem dX9_tells_17 : decode cX9_tells 17 = .ok (.sipush 1000, 3) := by decide +kernel
theorem dX9_tells_20 : decode cX9_tells 20 = .ok (.if_icmp .ge 37, 3) := by decide +kernel
theorem dX9_tells_23 : decode cX9_tells 23 = .ok (.aload_n 0, 1) := by decide +kernel
theorem dX9_tells_24 : decode cX9_tells 24 = .ok (.getfield 204, 3) := by decide +kernel
theorem dX9_tells_27 : decode cX9_tells 27 = .ok (.sipush 1000, 3) := by decide +kernel
theorem dX9_tells_30 : decode cX9_tells 30 = .ok (.iload_n 1, 1) := by decide +kernel
theorem dX9_tells_31 : decode cX9_tells 31 = .ok (.imul, 1) := by decide +kernel
theorem dX9_tells_32 : decode cX9_tells 32 = .ok (.iload 6, 2) := by decide +kernel
theorem dX9_tells_34 : decode cX9_tells 34 = .ok (.iadd, 1) := by decide +kernel
theorem dX9_tells_35 : decode cX9_tells 35 = .ok (.iconst 5, 1) := by decide +kernel
theorem dX9_tells_36 : decode cX9_tells 36 = .ok (.isub, 1) := by decide +kernel
theorem dX9_tells_37 : decode cX9_tells 37 = .ok (.aload_n 0, 1) := by decide +kernel
theorem dX9_tells_38 : decode cX9_tells 38 = .ok (.getfield 204, 3) := by decide +kernel
theorem dX9_tells_41 : decode cX9_tells 41 = .ok (.sipush 1000, 3) := by decide +kernel
theorem dX9_tells_44 : decode cX9_tells 44 = .ok (.iload_n 1, 1) := by decide +kernel
theorem dX9_tells_45 : decode cX9_tells 45 = .ok (.imul, 1) := by decide +kernel
theorem dX9_tells_46 : decode cX9_tells 46 = .ok (.iload 6, 2) := by decide +kernel
theorem dX9_tells_48 : decode cX9_tells 48 = .ok (.iadd, 1) := by decide +kernel
theorem dX9_tells_49 : decode cX9_tells 49 = .ok (.iaload, 1) := by decide +kernel
theorem dX9_tells_50 : decode cX9_tells 50 = .ok (.iastore, 1) := by decide +kernel
theorem dX9_tells_51 : decode cX9_tells 51 = .ok (.iinc 6 1, 3) := by decide +kernel
theorem dX9_tells_54 : decode cX9_tells 54 = .ok (.goto (-39), 3) := by decide +kernel
theorem dX9_tells_57 : decode cX9_tells 57 = .ok (.aload_n 0, 1) := by decide +kernel
theorem dX9_tells_58 : decode cX9_tells 58 = .ok (.getfield 201, 3) := by decide +kernel
theorem dX9_tells_61 : decode cX9_tells 61 = .ok (.iload_n 1, 1) := by decide +kernel
theorem dX9_tells_62 : decode cX9_tells 62 = .ok (.dup2, 1) := by decide +kernel
theorem dX9_tells_63 : decode cX9_tells 63 = .ok (.iaload, 1) := by decide +kernel
theorem dX9_tells_64 : decode cX9_tells 64 = .ok (.iconst 1, 1) := by decide +kernel
theorem dX9_tells_65 : decode cX9_tells 65 = .ok (.isub, 1) := by decide +kernel
theorem dX9_tells_66 : decode cX9_tells 66 = .ok (.iastore, 1) := by decide +kernel
theorem dX9_tells_67 : decode cX9_tells 67 = .ok (.sipush 1000, 3) := by decide +kernel
theorem dX9_tells_70 : decode cX9_tells 70 = .ok (.iload_n 1, 1) := by decide +kernel
theorem dX9_tells_71 : decode cX9_tells 71 = .ok (.imul, 1) := by decide +kernel
theorem dX9_tells_72 : decode cX9_tells 72 = .ok (.iconst 5, 1) := by decide +kernel
theorem dX9_tells_73 : decode cX9_tells 73 = .ok (.aload_n 0, 1) := by decide +kernel
theorem dX9_tells_74 : decode cX9_tells 74 = .ok (.getfield 201, 3) := by decide +kernel
theorem dX9_tells_77 : decode cX9_tells 77 = .ok (.iload_n 1, 1) := by decide +kernel
theorem dX9_tells_78 : decode cX9_tells 78 = .ok (.iaload, 1) := by decide +kernel
theorem dX9_tells_79 : decode cX9_tells 79 = .ok (.imul, 1) := by decide +kernel
theorem dX9_tells_80 : decode cX9_tells 80 = .ok (.iadd, 1) := by decide +kernel
theorem dX9_tells_81 : decode cX9_tells 81 = .ok (.istore 6, 2) := by decide +kernel
theorem dX9_tells_83 : decode cX9_tells 83 = .ok (.aload_n 0, 1) := by decide +kernel
theorem dX9_tells_84 : decode cX9_tells 84 = .ok (.getfield 204, 3) := by decide +kernel
theorem dX9_tells_87 : decode cX9_tells 87 = .ok (.iload 6, 2) := by decide +kernel
theorem dX9_tells_89 : decode cX9_tells 89 = .ok (.aload_n 0, 1) := by decide +kernel
theorem dX9_tells_90 : decode cX9_tells 90 = .ok (.getfield 162, 3) := by decide +kernel
theorem dX9_tells_93 : decode cX9_tells 93 = .ok (.iload_n 1, 1) := by decide +kernel
theorem dX9_tells_94 : decode cX9_tells 94 = .ok (.iaload, 1) := by decide +kernel
theorem dX9_tells_95 : decode cX9_tells 95 = .ok (.iastore, 1) := by decide +kernel
theorem dX9_tells_96 : decode cX9_tells 96 = .ok (.aload_n 0, 1) := by decide +kernel
theorem dX9_tells_97 : decode cX9_tells 97 = .ok (.getfield 204, 3) := by decide +kernel
theorem dX9_tells_100 : decode cX9_tells 100 = .ok (.iload 6, 2) := by decide +kernel
theorem dX9_tells_102 : decode cX9_tells 102 = .ok (.iconst 1, 1) := by decide +kernel
theorem dX9_tells_103 : decode cX9_tells 103 = .ok (.iadd, 1) := by decide +kernel
theorem dX9_tells_104 : decode cX9_tells 104 = .ok (.iload_n 2, 1) := by decide +kernel
theorem dX9_tells_105 : decode cX9_tells 105 = .ok (.iastore, 1) := by decide +kernel
theorem dX9_tells_106 : decode cX9_tells 106 = .ok (.aload_n 0, 1) := by decide +kernel
theorem dX9_tells_107 : decode cX9_tells 107 = .ok (.getfield 204, 3) := by decide +kernel
theorem dX9_tells_110 : decode cX9_tells 110 = .ok (.iload 6, 2) := by decide +kernel
theorem dX9_tells_112 : decode cX9_tells 112 = .ok (.iconst 2, 1) := by decide +kernel
theorem dX9_tells_113 : decode cX9_tells 113 = .ok (.iadd, 1) := by decide +kernel
theorem dX9_tells_114 : decode cX9_tells 114 = .ok (.iload_n 3, 1) := by decide +kernel
theorem dX9_tells_115 : decode cX9_tells 115 = .ok (.iastore, 1) := by decide +kernel
theorem dX9_tells_116 : decode cX9_tells 116 = .ok (.aload_n 0, 1) := by decide +kernel
theorem dX9_tells_117 : decode cX9_tells 117 = .ok (.getfield 204, 3) := by decide +kernel
theorem dX9_tells_120 : decode cX9_tells 120 = .ok (.iload 6, 2) := by decide +kernel
theorem dX9_tells_122 : decode cX9_tells 122 = .ok (.iconst 3, 1) := by decide +kernel
theorem dX9_tells_123 : decode cX9_tells 123 = .ok (.iadd, 1) := by decide +kernel
theorem dX9_tells_124 : decode cX9_tells 124 = .ok (.iload 4, 2) := by decide +kernel
theorem dX9_tells_126 : decode cX9_tells 126 = .ok (.iastore, 1) := by decide +kernel
theorem dX9_tells_127 : decode cX9_tells 127 = .ok (.aload_n 0, 1) := by decide +kernel
theorem dX9_tells_128 : decode cX9_tells 128 = .ok (.getfield 204, 3) := by decide +kernel
theorem dX9_tells_131 : decode cX9_tells 131 = .ok (.iload 6, 2) := by decide +kernel
theorem dX9_tells_133 : decode cX9_tells 133 = .ok (.iconst 4, 1) := by decide +kernel
theorem dX9_tells_134 : decode cX9_tells 134 = .ok (.iadd, 1) := by decide +kernel
theorem dX9_tells_135 : decode cX9_tells 135 = .ok (.iload 5, 2) := by decide +kernel
theorem dX9_tells_137 : decode cX9_tells 137 = .ok (.iastore, 1) := by decide +kernel
theorem dX9_tells_138 : decode cX9_tells 138 = .ok (.aload_n 0, 1) := by decide +kernel
theorem dX9_tells_139 : decode cX9_tells 139 = .ok (.getfield 201, 3) := by decide +kernel
theorem dX9_tells_142 : decode cX9_tells 142 = .ok (.iload_n 1, 1) := by decide +kernel
theorem dX9_tells_143 : decode cX9_tells 143 = .ok (.dup2, 1) := by decide +kernel
theorem dX9_tells_144 : decode cX9_tells 144 = .ok (.iaload, 1) := by decide +kernel
theorem dX9_tells_145 : decode cX9_tells 145 = .ok (.iconst 1, 1) := by decide +kernel
theorem dX9_tells_146 : decode cX9_tells 146 = .ok (.iadd, 1) := by decide +kernel
theorem dX9_tells_147 : decode cX9_tells 147 = .ok (.iastore, 1) := by decide +kernel
theorem dX9_tells_148 : decode cX9_tells 148 = .ok (.return_, 1) := by decide +kernel
theorem dX9_tie_0 : decode cX9_tie 0 = .ok (.aload_n 0, 1) := by decide +kernel
theorem dX9_tie_1 : decode cX9_tie 1 = .ok (.iload_n 1, 1) := by decide +kernel
theorem dX9_tie_2 : decode cX9_tie 2 = .ok (.invokevirtual 546, 3) := by decide +kernel
theorem dX9_tie_5 : decode cX9_tie 5 = .ok (.ifCond .eq 22, 3) := by decide +kernel
theorem dX9_tie_8 : decode cX9_tie 8 = .ok (.aload_n 0, 1) := by decide +kernel
theorem dX9_tie_9 : decode cX9_tie 9 = .ok (.getfield 195, 3) := by decide +kernel
theorem dX9_tie_12 : decode cX9_tie 12 = .ok (.iload_n 1, 1) := by decide +kernel
theorem dX9_tie_13 : decode cX9_tie 13 = .ok (.iaload, 1) := by decide +kernel
theorem dX9_tie_14 : decode cX9_tie 14 = .ok (.iconst 1, 1) := by decide +kernel
theorem dX9_tie_15 : decode cX9_tie 15 = .ok (.if_icmp .ne 7, 3) := by decide +kernel
theorem dX9_tie_18 : decode cX9_tie 18 = .ok (.iconst 1, 1) := by decide +kernel
theorem dX9_tie_19 : decode cX9_tie 19 = .ok (.goto 4, 3) := by decide +kernel
theorem dX9_tie_22 : decode cX9_tie 22 = .ok (.iconst 0, 1) := by decide +kernel
theorem dX9_tie_23 : decode cX9_tie 23 = .ok (.iload_n 2, 1) := by decide +kernel
theorem dX9_tie_24 : decode cX9_tie 24 = .ok (.if_icmp .ne 17, 3) := by decide +kernel
theorem dX9_tie_27 : decode cX9_tie 27 = .ok (.aload_n 0, 1) := by decide +kernel
theorem dX9_tie_28 : decode cX9_tie 28 = .ok (.iconst 3, 1) := by decide +kernel
theorem dX9_tie_29 : decode cX9_tie 29 = .ok (.invokevirtual 261, 3) := by decide +kernel
theorem dX9_tie_32 : decode cX9_tie 32 = .ok (.ifCond .lt 7, 3) := by decide +kernel
theorem dX9_tie_35 : decode cX9_tie 35 = .ok (.iconst 1, 1) := by decide +kernel
theorem dX9_tie_36 : decode cX9_tie 36 = .ok (.goto 4, 3) := by decide +kernel
theorem dX9_tie_39 : decode cX9_tie 39 = .ok (.iconst 0, 1) := by decide +kernel
theorem dX9_tie_40 : decode cX9_tie 40 = .ok (.ireturn, 1) := by decide +kernel
theorem dX9_tie_41 : decode cX9_tie 41 = .ok (.aload_n 0, 1) := by decide +kernel
theorem dX9_tie_42 : decode cX9_tie 42 = .ok (.invokevirtual 555, 3) := by decide +kernel
theorem dX9_tie_45 : decode cX9_tie 45 = .ok (.aload_n 0, 1) := by decide +kernel
theorem dX9_tie_46 : decode cX9_tie 46 = .ok (.getfield 195, 3) := by decide +kernel
theorem dX9_tie_49 : decode cX9_tie 49 = .ok (.iload_n 1, 1) := by decide +kernel
theorem dX9_tie_50 : decode cX9_tie 50 = .ok (.iload_n 2, 1) := by decide +kernel
theorem dX9_tie_51 : decode cX9_tie 51 = .ok (.ifCond .eq 7, 3) := by decide +kernel
theorem dX9_tie_54 : decode cX9_tie 54 = .ok (.iconst 1, 1) := by decide +kernel
theorem dX9_tie_55 : decode cX9_tie 55 = .ok (.goto 4, 3) := by decide +kernel
theorem dX9_tie_58 : decode cX9_tie 58 = .ok (.iconst 0, 1) := by decide +kernel
theorem dX9_tie_59 : decode cX9_tie 59 = .ok (.iastore, 1) := by decide +kernel
theorem dX9_tie_60 : decode cX9_tie 60 = .ok (.iconst 1, 1) := by decide +kernel
theorem dX9_tie_61 : decode cX9_tie 61 = .ok (.ireturn, 1) := by decide +kernel
theorem dX9_tug_0 : decode cX9_tug 0 = .ok (.iload_n 1, 1) := by decide +kernel
theorem dX9_tug_1 : decode cX9_tug 1 = .ok (.iconst 0, 1) := by decide +kernel
theorem dX9_tug_2 : decode cX9_tug 2 = .ok (.aload_n 0, 1) := by decide +kernel
theorem dX9_tug_3 : decode cX9_tug 3 = .ok (.getfield 201, 3) := by decide +kernel
theorem dX9_tug_6 : decode cX9_tug 6 = .ok (.iconst 0, 1) := by decide +kernel
theorem dX9_tug_7 : decode cX9_tug 7 = .ok (.iaload, 1) := by decide +kernel
theorem dX9_tug_8 : decode cX9_tug 8 = .ok (.iconst 1, 1) := by decide +kernel
theorem dX9_tug_9 : decode cX9_tug 9 = .ok (.isub, 1) := by decide +kernel
theorem dX9_tug_10 : decode cX9_tug 10 = .ok (.invokestatic 340, 3) := by decide +kernel
theorem dX9_tug_13 : decode cX9_tug 13 = .ok (.ifCond .eq 25, 3) := by decide +kernel
theorem dX9_tug_16 : decode cX9_tug 16 = .ok (.iload_n 2, 1) := by decide +kernel
theorem dX9_tug_17 : decode cX9_tug 17 = .ok (.iconst 0, 1) := by decide +kernel
theorem dX9_tug_18 : decode cX9_tug 18 = .ok (.iconst 4, 1) := by decide +kernel
theorem dX9_tug_19 : decode cX9_tug 19 = .ok (.invokestatic 340, 3) := by decide +kernel
theorem dX9_tug_22 : decode cX9_tug 22 = .ok (.ifCond .eq 16, 3) := by decide +kernel
theorem dX9_tug_25 : decode cX9_tug 25 = .ok (.aload_n 0, 1) := by decide +kernel
theorem dX9_tug_26 : decode cX9_tug 26 = .ok (.getfield 204, 3) := by decide +kernel
theorem dX9_tug_29 : decode cX9_tug 29 = .ok (.iconst 5, 1) := by decide +kernel
theorem dX9_tug_30 : decode cX9_tug 30 = .ok (.iload_n 1, 1) := by decide +kernel
theorem dX9_tug_31 : decode cX9_tug 31 = .ok (.imul, 1) := by decide +kernel
theorem dX9_tug_32 : decode cX9_tug 32 = .ok (.iload_n 2, 1) := by decide +kernel
theorem dX9_tug_33 : decode cX9_tug 33 = .ok (.iadd, 1) := by decide +kernel
theorem dX9_tug_34 : decode cX9_tug 34 = .ok (.iaload, 1) := by decide +kernel
theorem dX9_tug_35 : decode cX9_tug 35 = .ok (.goto 4, 3) := by decide +kernel
theorem dX9_tug_38 : decode cX9_tug 38 = .ok (.iconst (-1), 1) := by decide +kernel
theorem dX9_tug_39 : decode cX9_tug 39 = .ok (.ireturn, 1) := by decide +kernel
theorem dX9_tugs_0 : decode cX9_tugs 0 = .ok (.aload_n 0, 1) := by decide +kernel
theorem dX9_tugs_1 : decode cX9_tugs 1 = .ok (.iconst 0, 1) := by decide +kernel
theorem dX9_tugs_2 : decode cX9_tugs 2 = .ok (.putfield 237, 3) := by decide +kernel
theorem dX9_tugs_5 : decode cX9_tugs 5 = .ok (.iconst 0, 1) := by decide +kernel
theorem dX9_tugs_6 : decode cX9_tugs 6 = .ok (.istore_n 3, 1) := by decide +kernel
theorem dX9_tugs_7 : decode cX9_tugs 7 = .ok (.iload_n 3, 1) := by decide +kernel
theorem dX9_tugs_8 : decode cX9_tugs 8 = .ok (.bipush 12, 2) := by decide +kernel
theorem dX9_tugs_10 : decode cX9_tugs 10 = .ok (.if_icmp .ge 16, 3) := by decide +kernel
theorem dX9_tugs_13 : decode cX9_tugs 13 = .ok (.aload_n 0, 1) := by decide +kernel
theorem dX9_tugs_14 : decode cX9_tugs 14 = .ok (.getfield 234, 3) := by decide +kernel
theorem dX9_tugs_17 : decode cX9_tugs 17 = .ok (.iload_n 3, 1) := by decide +kernel
theorem dX9_tugs_18 : decode cX9_tugs 18 = .ok (.iconst 0, 1) := by decide +kernel
theorem dX9_tugs_19 : decode cX9_tugs 19 = .ok (.iastore, 1) := by decide +kernel
theorem dX9_tugs_20 : decode cX9_tugs 20 = .ok (.iinc 3 1, 3) := by decide +kernel
theorem dX9_tugs_23 : decode cX9_tugs 23 = .ok (.goto (-16), 3) := by decide +kernel
theorem dX9_tugs_26 : decode cX9_tugs 26 = .ok (.iload_n 2, 1) := by decide +kernel
theorem dX9_tugs_27 : decode cX9_tugs 27 = .ok (.istore_n 3, 1) := by decide +kernel
theorem dX9_tugs_28 : decode cX9_tugs 28 = .ok (.iload_n 1, 1) := by decide +kernel
theorem dX9_tugs_29 : decode cX9_tugs 29 = .ok (.iconst 1, 1) := by decide +kernel
theorem dX9_tugs_30 : decode cX9_tugs 30 = .ok (.iadd, 1) := by decide +kernel
theorem dX9_tugs_31 : decode cX9_tugs 31 = .ok (.istore 4, 2) := by decide +kernel
theorem dX9_tugs_33 : decode cX9_tugs 33 = .ok (.iload 4, 2) := by decide +kernel
theorem dX9_tugs_35 : decode cX9_tugs 35 = .ok (.aload_n 0, 1) := by decide +kernel
theorem dX9_tugs_36 : decode cX9_tugs 36 = .ok (.getfield 225, 3) := by decide +kernel
theorem dX9_tugs_39 : decode cX9_tugs 39 = .ok (.if_icmp .ge 47, 3) := by decide +kernel
theorem dX9_tugs_42 : decode cX9_tugs 42 = .ok (.iload_n 3, 1) := by decide +kernel
theorem dX9_tugs_43 : decode cX9_tugs 43 = .ok (.ifCond .le 43, 3) := by decide +kernel
theorem dX9_tugs_46 : decode cX9_tugs 46 = .ok (.aload_n 0, 1) := by decide +kernel
theorem dX9_tugs_47 : decode cX9_tugs 47 = .ok (.iload 4, 2) := by decide +kernel
theorem dX9_tugs_49 : decode cX9_tugs 49 = .ok (.iconst 1, 1) := by decide +kernel
theorem dX9_tugs_50 : decode cX9_tugs 50 = .ok (.isub, 1) := by decide +kernel
theorem dX9_tugs_51 : decode cX9_tugs 51 = .ok (.invokevirtual 455, 3) := by decide +kernel
theorem dX9_tugs_54 : decode cX9_tugs 54 = .ok (.ifCond .eq 32, 3) := by decide +kernel
theorem dX9_tugs_57 : decode cX9_tugs 57 = .ok (.iload_n 3, 1) := by decide +kernel
theorem dX9_tugs_58 : decode cX9_tugs 58 = .ok (.aload_n 0, 1) := by decide +kernel
theorem dX9_tugs_59 : decode cX9_tugs 59 = .ok (.iload 4, 2) := by decide +kernel
theorem dX9_tugs_61 : decode cX9_tugs 61 = .ok (.iconst 1, 1) := by decide +kernel
theorem dX9_tugs_62 : decode cX9_tugs 62 = .ok (.isub, 1) := by decide +kernel
theorem dX9_tugs_63 : decode cX9_tugs 63 = .ok (.invokevirtual 484, 3) := by decide +kernel
theorem dX9_tugs_66 : decode cX9_tugs 66 = .ok (.isub, 1) := by decide +kernel
theorem dX9_tugs_67 : decode cX9_tugs 67 = .ok (.istore_n 3, 1) := by decide +kernel
theorem dX9_tugs_68 : decode cX9_tugs 68 = .ok (.iload_n 3, 1) := by decide +kernel
theorem dX9_tugs_69 : decode cX9_tugs 69 = .ok (.ifCond .le 11, 3) := by decide +kernel
theorem dX9_tugs_72 : decode cX9_tugs 72 = .ok (.aload_n 0, 1) := by decide +kernel
theorem dX9_tugs_73 : decode cX9_tugs 73 = .ok (.iload 4, 2) := by decide +kernel
theorem dX9_tugs_75 : decode cX9_tugs 75 = .ok (.iload_n 3, 1) := by decide +kernel
theorem dX9_tugs_76 : decode cX9_tugs 76 = .ok (.invokevirtual 487, 3) := by decide +kernel
theorem dX9_tugs_79 : decode cX9_tugs 79 = .ok (.istore_n 3, 1) := by decide +kernel
theorem dX9_tugs_80 : decode cX9_tugs 80 = .ok (.iinc 4 1, 3) := by decide +kernel
theorem dX9_tugs_83 : decode cX9_tugs 83 = .ok (.goto (-50), 3) := by decide +kernel
theorem dX9_tugs_86 : decode cX9_tugs 86 = .ok (.iload_n 2, 1) := by decide +kernel
theorem dX9_tugs_87 : decode cX9_tugs 87 = .ok (.istore_n 3, 1) := by decide +kernel
theorem dX9_tugs_88 : decode cX9_tugs 88 = .ok (.iload_n 1, 1) := by decide +kernel
theorem dX9_tugs_89 : decode cX9_tugs 89 = .ok (.iconst 1, 1) := by decide +kernel
theorem dX9_tugs_90 : decode cX9_tugs 90 = .ok (.isub, 1) := by decide +kernel
theorem dX9_tugs_91 : decode cX9_tugs 91 = .ok (.istore 4, 2) := by decide +kernel
theorem dX9_tugs_93 : decode cX9_tugs 93 = .ok (.iload 4, 2) := by decide +kernel
theorem dX9_tugs_95 : decode cX9_tugs 95 = .ok (.ifCond .lt 43, 3) := by decide +kernel
theorem dX9_tugs_98 : decode cX9_tugs 98 = .ok (.iload_n 3, 1) := by decide +kernel
theorem dX9_tugs_99 : decode cX9_tugs 99 = .ok (.ifCond .le 39, 3) := by decide +kernel
theorem dX9_tugs_102 : decode cX9_tugs 102 = .ok (.aload_n 0, 1) := by decide +kernel
theorem dX9_tugs_103 : decode cX9_tugs 103 = .ok (.iload 4, 2) := by decide +kernel
theorem dX9_tugs_105 : decode cX9_tugs 105 = .ok (.invokevirtual 455, 3) := by decide +kernel
theorem dX9_tugs_108 : decode cX9_tugs 108 = .ok (.ifCond .eq 30, 3) := by decide +kernel
theorem dX9_tugs_111 : decode cX9_tugs 111 = .ok (.iload_n 3, 1) := by decide +kernel
theorem dX9_tugs_112 : decode cX9_tugs 112 = .ok (.aload_n 0, 1) := by decide +kernel
theorem dX9_tugs_113 : decode cX9_tugs 113 = .ok (.iload 4, 2) := by decide +kernel
theorem dX9_tugs_115 : decode cX9_tugs 115 = .ok (.invokevirtual 484, 3) := by decide +kernel
theorem dX9_tugs_118 : decode cX9_tugs 118 = .ok (.isub, 1) := by decide +kernel
theorem dX9_tugs_119 : decode cX9_tugs 119 = .ok (.istore_n 3, 1) := by decide +kernel
theorem dX9_tugs_120 : decode cX9_tugs 120 = .ok (.iload_n 3, 1) := by decide +kernel
theorem dX9_tugs_121 : decode cX9_tugs 121 = .ok (.ifCond .le 11, 3) := by decide +kernel
theorem dX9_tugs_124 : decode cX9_tugs 124 = .ok (.aload_n 0, 1) := by decide +kernel
theorem dX9_tugs_125 : decode cX9_tugs 125 = .ok (.iload 4, 2) := by decide +kernel
theorem dX9_tugs_127 : decode cX9_tugs 127 = .ok (.iload_n 3, 1) := by decide +kernel
theorem dX9_tugs_128 : decode cX9_tugs 128 = .ok (.invokevirtual 487, 3) := by decide +kernel
theorem dX9_tugs_131 : decode cX9_tugs 131 = .ok (.istore_n 3, 1) := by decide +kernel
theorem dX9_tugs_132 : decode cX9_tugs 132 = .ok (.iinc 4 (-1), 3) := by decide +kernel
theorem dX9_tugs_135 : decode cX9_tugs 135 = .ok (.goto (-42), 3) := by decide +kernel
theorem dX9_tugs_138 : decode cX9_tugs 138 = .ok (.return_, 1) := by decide +kernel
theorem dX9_two_0 : decode cX9_two 0 = .ok (.aload_n 0, 1) := by decide +kernel
theorem dX9_two_1 : decode cX9_two 1 = .ok (.invokevirtual 445, 3) := by decide +kernel
theorem dX9_two_4 : decode cX9_two 4 = .ok (.iconst 2, 1) := by decide +kernel
theorem dX9_two_5 : decode cX9_two 5 = .ok (.bipush 8, 2) := by decide +kernel
theorem dX9_two_7 : decode cX9_two 7 = .ok (.invokestatic 340, 3) := by decide +kernel
theorem dX9_two_10 : decode cX9_two 10 = .ok (.ifCond .eq 12, 3) := by decide +kernel
theorem dX9_two_13 : decode cX9_two 13 = .ok (.iload_n 1, 1) := by decide +kernel
theorem dX9_two_14 : decode cX9_two 14 = .ok (.iconst 0, 1) := by decide +kernel
theorem dX9_two_15 : decode cX9_two 15 = .ok (.iconst 1, 1) := by decide +kernel
theorem dX9_two_16 : decode cX9_two 16 = .ok (.invokestatic 340, 3) := by decide +kernel
theorem dX9_two_19 : decode cX9_two 19 = .ok (.ifCond .ne 5, 3) := by decide +kernel
theorem dX9_two_22 : decode cX9_two 22 = .ok (.iconst (-1), 1) := by decide +kernel
theorem dX9_two_23 : decode cX9_two 23 = .ok (.ireturn, 1) := by decide +kernel
theorem dX9_two_24 : decode cX9_two 24 = .ok (.iconst 1, 1) := by decide +kernel
theorem dX9_two_25 : decode cX9_two 25 = .ok (.aload_n 0, 1) := by decide +kernel
theorem dX9_two_26 : decode cX9_two 26 = .ok (.invokevirtual 445, 3) := by decide +kernel
theorem dX9_two_29 : decode cX9_two 29 = .ok (.ishl, 1) := by decide +kernel
theorem dX9_two_30 : decode cX9_two 30 = .ok (.iconst 1, 1) := by decide +kernel
theorem dX9_two_31 : decode cX9_two 31 = .ok (.isub, 1) := by decide +kernel
theorem dX9_two_32 : decode cX9_two 32 = .ok (.istore_n 2, 1) := by decide +kernel
theorem dX9_two_33 : decode cX9_two 33 = .ok (.iconst (-1), 1) := by decide +kernel
theorem dX9_two_34 : decode cX9_two 34 = .ok (.istore_n 3, 1) := by decide +kernel
theorem dX9_two_35 : decode cX9_two 35 = .ok (.iconst 0, 1) := by decide +kernel
theorem dX9_two_36 : decode cX9_two 36 = .ok (.istore 4, 2) := by decide +kernel
theorem dX9_two_38 : decode cX9_two 38 = .ok (.iconst 0, 1) := by decide +kernel
theorem dX9_two_39 : decode cX9_two 39 = .ok (.istore 5, 2) := by decide +kernel
theorem dX9_two_41 : decode cX9_two 41 = .ok (.iload 5, 2) := by decide +kernel
theorem dX9_two_43 : decode cX9_two 43 = .ok (.iload_n 2, 1) := by decide +kernel
theorem dX9_two_44 : decode cX9_two 44 = .ok (.if_icmp .gt 66, 3) := by decide +kernel
theorem dX9_two_47 : decode cX9_two 47 = .ok (.iload 5, 2) := by decide +kernel
theorem dX9_two_49 : decode cX9_two 49 = .ok (.aload_n 0, 1) := by decide +kernel
theorem dX9_two_50 : decode cX9_two 50 = .ok (.getfield 165, 3) := by decide +kernel
theorem dX9_two_53 : decode cX9_two 53 = .ok (.iconst 0, 1) := by decide +kernel
theorem dX9_two_54 : decode cX9_two 54 = .ok (.iaload, 1) := by decide +kernel
theorem dX9_two_55 : decode cX9_two 55 = .ok (.ishr, 1) := by decide +kernel
theorem dX9_two_56 : decode cX9_two 56 = .ok (.iconst 1, 1) := by decide +kernel
theorem dX9_two_57 : decode cX9_two 57 = .ok (.iand, 1) := by decide +kernel
theorem dX9_two_58 : decode cX9_two 58 = .ok (.iconst 1, 1) := by decide +kernel
theorem dX9_two_59 : decode cX9_two 59 = .ok (.if_icmp .ne 6, 3) := by decide +kernel
theorem dX9_two_62 : decode cX9_two 62 = .ok (.goto 42, 3) := by decide +kernel
theorem dX9_two_65 : decode cX9_two 65 = .ok (.aload_n 0, 1) := by decide +kernel
theorem dX9_two_66 : decode cX9_two 66 = .ok (.iload 5, 2) := by decide +kernel
theorem dX9_two_68 : decode cX9_two 68 = .ok (.invokevirtual 573, 3) := by decide +kernel
theorem dX9_two_71 : decode cX9_two 71 = .ok (.aload_n 0, 1) := by decide +kernel
theorem dX9_two_72 : decode cX9_two 72 = .ok (.iload_n 2, 1) := by decide +kernel
theorem dX9_two_73 : decode cX9_two 73 = .ok (.iload 5, 2) := by decide +kernel
theorem dX9_two_75 : decode cX9_two 75 = .ok (.isub, 1) := by decide +kernel
theorem dX9_two_76 : decode cX9_two 76 = .ok (.invokevirtual 573, 3) := by decide +kernel
theorem dX9_two_79 : decode cX9_two 79 = .ok (.iadd, 1) := by decide +kernel
theorem dX9_two_80 : decode cX9_two 80 = .ok (.istore 6, 2) := by decide +kernel
theorem dX9_two_82 : decode cX9_two 82 = .ok (.iload_n 3, 1) := by decide +kernel
theorem dX9_two_83 : decode cX9_two 83 = .ok (.iconst (-1), 1) := by decide +kernel
theorem dX9_two_84 : decode cX9_two 84 = .ok (.if_icmp .eq 13, 3) := by decide +kernel
theorem dX9_two_87 : decode cX9_two 87 = .ok (.iload 6, 2) := by decide +kernel
theorem dX9_two_89 : decode cX9_two 89 = .ok (.iload 4, 2) := by decide +kernel
theorem dX9_two_91 : decode cX9_two 91 = .ok (.if_icmp .lt 6, 3) := by decide +kernel
theorem dX9_two_94 : decode cX9_two 94 = .ok (.goto 10, 3) := by decide +kernel
theorem dX9_two_97 : decode cX9_two 97 = .ok (.iload 5, 2) := by decide +kernel
theorem dX9_two_99 : decode cX9_two 99 = .ok (.istore_n 3, 1) := by decide +kernel
theorem dX9_two_100 : decode cX9_two 100 = .ok (.iload 6, 2) := by decide +kernel
theorem dX9_two_102 : decode cX9_two 102 = .ok (.istore 4, 2) := by decide +kernel
theorem dX9_two_104 : decode cX9_two 104 = .ok (.iinc 5 1, 3) := by decide +kernel
theorem dX9_two_107 : decode cX9_two 107 = .ok (.goto (-66), 3) := by decide +kernel
theorem dX9_two_110 : decode cX9_two 110 = .ok (.iload_n 1, 1) := by decide +kernel
theorem dX9_two_111 : decode cX9_two 111 = .ok (.ifCond .ne 8, 3) := by decide +kernel
theorem dX9_two_114 : decode cX9_two 114 = .ok (.iload 4, 2) := by decide +kernel
theorem dX9_two_116 : decode cX9_two 116 = .ok (.goto 4, 3) := by decide +kernel
theorem dX9_two_119 : decode cX9_two 119 = .ok (.iload_n 3, 1) := by decide +kernel
theorem dX9_two_120 : decode cX9_two 120 = .ok (.ireturn, 1) := by decide +kernel
theorem dX9_undo_0 : decode cX9_undo 0 = .ok (.aload_n 0, 1) := by decide +kernel
theorem dX9_undo_1 : decode cX9_undo 1 = .ok (.getfield 210, 3) := by decide +kernel
theorem dX9_undo_4 : decode cX9_undo 4 = .ok (.ifCond .ne 17, 3) := by decide +kernel
theorem dX9_undo_7 : decode cX9_undo 7 = .ok (.aload_n 0, 1) := by decide +kernel
theorem dX9_undo_8 : decode cX9_undo 8 = .ok (.iconst 4, 1) := by decide +kernel
theorem dX9_undo_9 : decode cX9_undo 9 = .ok (.invokevirtual 261, 3) := by decide +kernel
theorem dX9_undo_12 : decode cX9_undo 12 = .ok (.ifCond .lt 7, 3) := by decide +kernel
theorem dX9_undo_15 : decode cX9_undo 15 = .ok (.iconst 1, 1) := by decide +kernel
theorem dX9_undo_16 : decode cX9_undo 16 = .ok (.goto 4, 3) := by decide +kernel
theorem dX9_undo_19 : decode cX9_undo 19 = .ok (.iconst 0, 1) := by decide +kernel
theorem dX9_undo_20 : decode cX9_undo 20 = .ok (.ireturn, 1) := by decide +kernel
theorem dX9_undo_21 : decode cX9_undo 21 = .ok (.aload_n 0, 1) := by decide +kernel
theorem dX9_undo_22 : decode cX9_undo 22 = .ok (.dup, 1) := by decide +kernel
theorem dX9_undo_23 : decode cX9_undo 23 = .ok (.getfield 210, 3) := by decide +kernel
theorem dX9_undo_26 : decode cX9_undo 26 = .ok (.iconst 1, 1) := by decide +kernel
theorem dX9_undo_27 : decode cX9_undo 27 = .ok (.isub, 1) := by decide +kernel
theorem dX9_undo_28 : decode cX9_undo 28 = .ok (.putfield 210, 3) := by decide +kernel
theorem dX9_undo_31 : decode cX9_undo 31 = .ok (.aload_n 0, 1) := by decide +kernel
theorem dX9_undo_32 : decode cX9_undo 32 = .ok (.iconst 0, 1) := by decide +kernel
theorem dX9_undo_33 : decode cX9_undo 33 = .ok (.aload_n 0, 1) := by decide +kernel
theorem dX9_undo_34 : decode cX9_undo 34 = .ok (.aload_n 0, 1) := by decide +kernel
theorem dX9_undo_35 : decode cX9_undo 35 = .ok (.getfield 210, 3) := by decide +kernel
theorem dX9_undo_38 : decode cX9_undo 38 = .ok (.invokevirtual 449, 3) := by decide +kernel
theorem dX9_undo_41 : decode cX9_undo 41 = .ok (.invokevirtual 452, 3) := by decide +kernel
theorem dX9_undo_44 : decode cX9_undo 44 = .ok (.iconst 1, 1) := by decide +kernel
theorem dX9_undo_45 : decode cX9_undo 45 = .ok (.ireturn, 1) := by decide +kernel
theorem dX9_wake_0 : decode cX9_wake 0 = .ok (.aload_n 0, 1) := by decide +kernel
theorem dX9_wake_1 : decode cX9_wake 1 = .ok (.iload_n 1, 1) := by decide +kernel
theorem dX9_wake_2 : decode cX9_wake 2 = .ok (.invokevirtual 543, 3) := by decide +kernel
theorem dX9_wake_5 : decode cX9_wake 5 = .ok (.ifCond .eq 21, 3) := by decide +kernel
theorem dX9_wake_8 : decode cX9_wake 8 = .ok (.aload_n 0, 1) := by decide +kernel
theorem dX9_wake_9 : decode cX9_wake 9 = .ok (.getfield 168, 3) := by decide +kernel
theorem dX9_wake_12 : decode cX9_wake 12 = .ok (.iload_n 1, 1) := by decide +kernel
theorem dX9_wake_13 : decode cX9_wake 13 = .ok (.iaload, 1) := by decide +kernel
theorem dX9_wake_14 : decode cX9_wake 14 = .ok (.ifCond .ne 7, 3) := by decide +kernel
theorem dX9_wake_17 : decode cX9_wake 17 = .ok (.iconst 1, 1) := by decide +kernel
theorem dX9_wake_18 : decode cX9_wake 18 = .ok (.goto 4, 3) := by decide +kernel
theorem dX9_wake_21 : decode cX9_wake 21 = .ok (.iconst 0, 1) := by decide +kernel
theorem dX9_wake_22 : decode cX9_wake 22 = .ok (.iload_n 2, 1) := by decide +kernel
theorem dX9_wake_23 : decode cX9_wake 23 = .ok (.if_icmp .ne 17, 3) := by decide +kernel
theorem dX9_wake_26 : decode cX9_wake 26 = .ok (.aload_n 0, 1) := by decide +kernel
theorem dX9_wake_27 : decode cX9_wake 27 = .ok (.iconst 2, 1) := by decide +kernel
theorem dX9_wake_28 : decode cX9_wake 28 = .ok (.invokevirtual 261, 3) := by decide +kernel
theorem dX9_wake_31 : decode cX9_wake 31 = .ok (.ifCond .lt 7, 3) := by decide +kernel
theorem dX9_wake_34 : decode cX9_wake 34 = .ok (.iconst 1, 1) := by decide +kernel
theorem dX9_wake_35 : decode cX9_wake 35 = .ok (.goto 4, 3) := by decide +kernel
theorem dX9_wake_38 : decode cX9_wake 38 = .ok (.iconst 0, 1) := by decide +kernel
theorem dX9_wake_39 : decode cX9_wake 39 = .ok (.ireturn, 1) := by decide +kernel
theorem dX9_wake_40 : decode cX9_wake 40 = .ok (.aload_n 0, 1) := by decide +kernel
theorem dX9_wake_41 : decode cX9_wake 41 = .ok (.invokevirtual 555, 3) := by decide +kernel
theorem dX9_wake_44 : decode cX9_wake 44 = .ok (.iload_n 2, 1) := by decide +kernel
theorem dX9_wake_45 : decode cX9_wake 45 = .ok (.ifCond .eq 12, 3) := by decide +kernel
theorem dX9_wake_48 : decode cX9_wake 48 = .ok (.aload_n 0, 1) := by decide +kernel
theorem dX9_wake_49 : decode cX9_wake 49 = .ok (.iconst 0, 1) := by decide +kernel
theorem dX9_wake_50 : decode cX9_wake 50 = .ok (.iload_n 1, 1) := by decide +kernel
theorem dX9_wake_51 : decode cX9_wake 51 = .ok (.invokevirtual 491, 3) := by decide +kernel
theorem dX9_wake_54 : decode cX9_wake 54 = .ok (.goto 10, 3) := by decide +kernel
theorem dX9_wake_57 : decode cX9_wake 57 = .ok (.aload_n 0, 1) := by decide +kernel
theorem dX9_wake_58 : decode cX9_wake 58 = .ok (.getfield 168, 3) := by decide +kernel
theorem dX9_wake_61 : decode cX9_wake 61 = .ok (.iload_n 1, 1) := by decide +kernel
theorem dX9_wake_62 : decode cX9_wake 62 = .ok (.iconst 1, 1) := by decide +kernel
theorem dX9_wake_63 : decode cX9_wake 63 = .ok (.iastore, 1) := by decide +kernel
theorem dX9_wake_64 : decode cX9_wake 64 = .ok (.iconst 1, 1) := by decide +kernel
theorem dX9_wake_65 : decode cX9_wake 65 = .ok (.ireturn, 1) := by decide +kernel
theorem dX9_wakes_0 : decode cX9_wakes 0 = .ok (.aload_n 0, 1) := by decide +kernel
theorem dX9_wakes_1 : decode cX9_wakes 1 = .ok (.iload_n 1, 1) := by decide +kernel
theorem dX9_wakes_2 : decode cX9_wakes 2 = .ok (.invokevirtual 543, 3) := by decide +kernel
theorem dX9_wakes_5 : decode cX9_wakes 5 = .ok (.ifCond .eq 14, 3) := by decide +kernel
theorem dX9_wakes_8 : decode cX9_wakes 8 = .ok (.iload_n 2, 1) := by decide +kernel
theorem dX9_wakes_9 : decode cX9_wakes 9 = .ok (.iconst 1, 1) := by decide +kernel
theorem dX9_wakes_10 : decode cX9_wakes 10 = .ok (.sipush 9999, 3) := by decide +kernel
theorem dX9_wakes_13 : decode cX9_wakes 13 = .ok (.invokestatic 340, 3) := by decide +kernel
theorem dX9_wakes_16 : decode cX9_wakes 16 = .ok (.ifCond .ne 5, 3) := by decide +kernel
theorem dX9_wakes_19 : decode cX9_wakes 19 = .ok (.iconst (-1), 1) := by decide +kernel
theorem dX9_wakes_20 : decode cX9_wakes 20 = .ok (.ireturn, 1) := by decide +kernel
theorem dX9_wakes_21 : decode cX9_wakes 21 = .ok (.aload_n 0, 1) := by decide +kernel
theorem dX9_wakes_22 : decode cX9_wakes 22 = .ok (.iconst 0, 1) := by decide +kernel
theorem dX9_wakes_23 : decode cX9_wakes 23 = .ok (.invokevirtual 502, 3) := by decide +kernel
theorem dX9_wakes_26 : decode cX9_wakes 26 = .ok (.aload_n 0, 1) := by decide +kernel
theorem dX9_wakes_27 : decode cX9_wakes 27 = .ok (.iload_n 1, 1) := by decide +kernel
theorem dX9_wakes_28 : decode cX9_wakes 28 = .ok (.iload_n 2, 1) := by decide +kernel
theorem dX9_wakes_29 : decode cX9_wakes 29 = .ok (.invokevirtual 508, 3) := by decide +kernel
theorem dX9_wakes_32 : decode cX9_wakes 32 = .ok (.aload_n 0, 1) := by decide +kernel
theorem dX9_wakes_33 : decode cX9_wakes 33 = .ok (.getfield 237, 3) := by decide +kernel
theorem dX9_wakes_36 : decode cX9_wakes 36 = .ok (.ireturn, 1) := by decide +kernel
theorem dX9_wakesUp_0 : decode cX9_wakesUp 0 = .ok (.aload_n 0, 1) := by decide +kernel
theorem dX9_wakesUp_1 : decode cX9_wakesUp 1 = .ok (.getfield 168, 3) := by decide +kernel
theorem dX9_wakesUp_4 : decode cX9_wakesUp 4 = .ok (.bipush 12, 2) := by decide +kernel
theorem dX9_wakesUp_6 : decode cX9_wakesUp 6 = .ok (.iload_n 1, 1) := by decide +kernel
theorem dX9_wakesUp_7 : decode cX9_wakesUp 7 = .ok (.imul, 1) := by decide +kernel
theorem dX9_wakesUp_8 : decode cX9_wakesUp 8 = .ok (.iload_n 2, 1) := by decide +kernel
theorem dX9_wakesUp_9 : decode cX9_wakesUp 9 = .ok (.iadd, 1) := by decide +kernel
theorem dX9_wakesUp_10 : decode cX9_wakesUp 10 = .ok (.iconst 0, 1) := by decide +kernel
theorem dX9_wakesUp_11 : decode cX9_wakesUp 11 = .ok (.iastore, 1) := by decide +kernel
theorem dX9_wakesUp_12 : decode cX9_wakesUp 12 = .ok (.aload_n 0, 1) := by decide +kernel
theorem dX9_wakesUp_13 : decode cX9_wakesUp 13 = .ok (.getfield 171, 3) := by decide +kernel
theorem dX9_wakesUp_16 : decode cX9_wakesUp 16 = .ok (.bipush 12, 2) := by decide +kernel
theorem dX9_wakesUp_18 : decode cX9_wakesUp 18 = .ok (.iload_n 1, 1) := by decide +kernel
theorem dX9_wakesUp_19 : decode cX9_wakesUp 19 = .ok (.imul, 1) := by decide +kernel
theorem dX9_wakesUp_20 : decode cX9_wakesUp 20 = .ok (.iload_n 2, 1) := by decide +kernel
theorem dX9_wakesUp_21 : decode cX9_wakesUp 21 = .ok (.iadd, 1) := by decide +kernel
theorem dX9_wakesUp_22 : decode cX9_wakesUp 22 = .ok (.iconst (-1), 1) := by decide +kernel
theorem dX9_wakesUp_23 : decode cX9_wakesUp 23 = .ok (.iastore, 1) := by decide +kernel
theorem dX9_wakesUp_24 : decode cX9_wakesUp 24 = .ok (.aload_n 0, 1) := by decide +kernel
theorem dX9_wakesUp_25 : decode cX9_wakesUp 25 = .ok (.getfield 174, 3) := by decide +kernel
theorem dX9_wakesUp_28 : decode cX9_wakesUp 28 = .ok (.bipush 12, 2) := by decide +kernel
theorem dX9_wakesUp_30 : decode cX9_wakesUp 30 = .ok (.iload_n 1, 1) := by decide +kernel
theorem dX9_wakesUp_31 : decode cX9_wakesUp 31 = .ok (.imul, 1) := by decide +kernel
theorem dX9_wakesUp_32 : decode cX9_wakesUp 32 = .ok (.iload_n 2, 1) := by decide +kernel
theorem dX9_wakesUp_33 : decode cX9_wakesUp 33 = .ok (.iadd, 1) := by decide +kernel
theorem dX9_wakesUp_34 : decode cX9_wakesUp 34 = .ok (.iconst 0, 1) := by decide +kernel
theorem dX9_wakesUp_35 : decode cX9_wakesUp 35 = .ok (.iastore, 1) := by decide +kernel
theorem dX9_wakesUp_36 : decode cX9_wakesUp 36 = .ok (.aload_n 0, 1) := by decide +kernel
theorem dX9_wakesUp_37 : decode cX9_wakesUp 37 = .ok (.getfield 177, 3) := by decide +kernel
theorem dX9_wakesUp_40 : decode cX9_wakesUp 40 = .ok (.bipush 12, 2) := by decide +kernel
theorem dX9_wakesUp_42 : decode cX9_wakesUp 42 = .ok (.iload_n 1, 1) := by decide +kernel
theorem dX9_wakesUp_43 : decode cX9_wakesUp 43 = .ok (.imul, 1) := by decide +kernel
theorem dX9_wakesUp_44 : decode cX9_wakesUp 44 = .ok (.iload_n 2, 1) := by decide +kernel
theorem dX9_wakesUp_45 : decode cX9_wakesUp 45 = .ok (.iadd, 1) := by decide +kernel
theorem dX9_wakesUp_46 : decode cX9_wakesUp 46 = .ok (.iconst (-1), 1) := by decide +kernel
theorem dX9_wakesUp_47 : decode cX9_wakesUp 47 = .ok (.iastore, 1) := by decide +kernel
theorem dX9_wakesUp_48 : decode cX9_wakesUp 48 = .ok (.return_, 1) := by decide +kernel
theorem dX9_walk_0 : decode cX9_walk 0 = .ok (.aload_n 0, 1) := by decide +kernel
theorem dX9_walk_1 : decode cX9_walk 1 = .ok (.iload_n 1, 1) := by decide +kernel
theorem dX9_walk_2 : decode cX9_walk 2 = .ok (.invokevirtual 543, 3) := by decide +kernel
theorem dX9_walk_5 : decode cX9_walk 5 = .ok (.ifCond .ne 5, 3) := by decide +kernel
theorem dX9_walk_8 : decode cX9_walk 8 = .ok (.iconst (-1), 1) := by decide +kernel
theorem dX9_walk_9 : decode cX9_walk 9 = .ok (.ireturn, 1) := by decide +kernel
theorem dX9_walk_10 : decode cX9_walk 10 = .ok (.iconst 0, 1) := by decide +kernel
theorem dX9_walk_11 : decode cX9_walk 11 = .ok (.istore_n 2, 1) := by decide +kernel
theorem dX9_walk_12 : decode cX9_walk 12 = .ok (.iconst 3, 1) := by decide +kernel
theorem dX9_walk_13 : decode cX9_walk 13 = .ok (.aload_n 0, 1) := by decide +kernel
theorem dX9_walk_14 : decode cX9_walk 14 = .ok (.getfield 58, 3) := by decide +kernel
theorem dX9_walk_17 : decode cX9_walk 17 = .ok (.bipush 12, 2) := by decide +kernel
theorem dX9_walk_19 : decode cX9_walk 19 = .ok (.aload_n 0, 1) := by decide +kernel
theorem dX9_walk_20 : decode cX9_walk 20 = .ok (.getfield 48, 3) := by decide +kernel
theorem dX9_walk_23 : decode cX9_walk 23 = .ok (.imul, 1) := by decide +kernel
theorem dX9_walk_24 : decode cX9_walk 24 = .ok (.aload_n 0, 1) := by decide +kernel
theorem dX9_walk_25 : decode cX9_walk 25 = .ok (.getfield 165, 3) := by decide +kernel
theorem dX9_walk_28 : decode cX9_walk 28 = .ok (.iload_n 1, 1) := by decide +kernel
theorem dX9_walk_29 : decode cX9_walk 29 = .ok (.iaload, 1) := by decide +kernel
theorem dX9_walk_30 : decode cX9_walk 30 = .ok (.iadd, 1) := by decide +kernel
theorem dX9_walk_31 : decode cX9_walk 31 = .ok (.iaload, 1) := by decide +kernel
theorem dX9_walk_32 : decode cX9_walk 32 = .ok (.imul, 1) := by decide +kernel
theorem dX9_walk_33 : decode cX9_walk 33 = .ok (.istore_n 3, 1) := by decide +kernel
theorem dX9_walk_34 : decode cX9_walk 34 = .ok (.iconst 1, 1) := by decide +kernel
theorem dX9_walk_35 : decode cX9_walk 35 = .ok (.istore 4, 2) := by decide +kernel
theorem dX9_walk_37 : decode cX9_walk 37 = .ok (.iload_n 1, 1) := by decide +kernel
theorem dX9_walk_38 : decode cX9_walk 38 = .ok (.iconst 1, 1) := by decide +kernel
theorem dX9_walk_39 : decode cX9_walk 39 = .ok (.iadd, 1) := by decide +kernel
theorem dX9_walk_40 : decode cX9_walk 40 = .ok (.istore 5, 2) := by decide +kernel
theorem dX9_walk_42 : decode cX9_walk 42 = .ok (.iload 5, 2) := by decide +kernel
theorem dX9_walk_44 : decode cX9_walk 44 = .ok (.aload_n 0, 1) := by decide +kernel
theorem dX9_walk_45 : decode cX9_walk 45 = .ok (.invokevirtual 445, 3) := by decide +kernel
theorem dX9_walk_48 : decode cX9_walk 48 = .ok (.if_icmp .ge 103, 3) := by decide +kernel
theorem dX9_walk_51 : decode cX9_walk 51 = .ok (.iload 4, 2) := by decide +kernel
theorem dX9_walk_53 : decode cX9_walk 53 = .ok (.ifCond .eq 98, 3) := by decide +kernel
theorem dX9_walk_56 : decode cX9_walk 56 = .ok (.aload_n 0, 1) := by decide +kernel
theorem dX9_walk_57 : decode cX9_walk 57 = .ok (.getfield 58, 3) := by decide +kernel
theorem dX9_walk_60 : decode cX9_walk 60 = .ok (.bipush 12, 2) := by decide +kernel
theorem dX9_walk_62 : decode cX9_walk 62 = .ok (.aload_n 0, 1) := by decide +kernel
theorem dX9_walk_63 : decode cX9_walk 63 = .ok (.getfield 48, 3) := by decide +kernel
theorem dX9_walk_66 : decode cX9_walk 66 = .ok (.imul, 1) := by decide +kernel
theorem dX9_walk_67 : decode cX9_walk 67 = .ok (.aload_n 0, 1) := by decide +kernel
theorem dX9_walk_68 : decode cX9_walk 68 = .ok (.getfield 165, 3) := by decide +kernel
theorem dX9_walk_71 : decode cX9_walk 71 = .ok (.iload 5, 2) := by decide +kernel
theorem dX9_walk_73 : decode cX9_walk 73 = .ok (.iaload, 1) := by decide +kernel
theorem dX9_walk_74 : decode cX9_walk 74 = .ok (.iadd, 1) := by decide +kernel
theorem dX9_walk_75 : decode cX9_walk 75 = .ok (.iaload, 1) := by decide +kernel
theorem dX9_walk_76 : decode cX9_walk 76 = .ok (.istore 6, 2) := by decide +kernel
theorem dX9_walk_78 : decode cX9_walk 78 = .ok (.aload_n 0, 1) := by decide +kernel
theorem dX9_walk_79 : decode cX9_walk 79 = .ok (.getfield 195, 3) := by decide +kernel
theorem dX9_walk_82 : decode cX9_walk 82 = .ok (.iload 5, 2) := by decide +kernel
theorem dX9_walk_84 : decode cX9_walk 84 = .ok (.iconst 1, 1) := by decide +kernel
theorem dX9_walk_85 : decode cX9_walk 85 = .ok (.isub, 1) := by decide +kernel
theorem dX9_walk_86 : decode cX9_walk 86 = .ok (.iaload, 1) := by decide +kernel
theorem dX9_walk_87 : decode cX9_walk 87 = .ok (.iconst 1, 1) := by decide +kernel
theorem dX9_walk_88 : decode cX9_walk 88 = .ok (.if_icmp .ne 23, 3) := by decide +kernel
theorem dX9_walk_91 : decode cX9_walk 91 = .ok (.iload_n 3, 1) := by decide +kernel
theorem dX9_walk_92 : decode cX9_walk 92 = .ok (.aload_n 0, 1) := by decide +kernel
theorem dX9_walk_93 : decode cX9_walk 93 = .ok (.getfield 198, 3) := by decide +kernel
theorem dX9_walk_96 : decode cX9_walk 96 = .ok (.iload 5, 2) := by decide +kernel
theorem dX9_walk_98 : decode cX9_walk 98 = .ok (.iconst 1, 1) := by decide +kernel
theorem dX9_walk_99 : decode cX9_walk 99 = .ok (.isub, 1) := by decide +kernel
theorem dX9_walk_100 : decode cX9_walk 100 = .ok (.iaload, 1) := by decide +kernel
theorem dX9_walk_101 : decode cX9_walk 101 = .ok (.isub, 1) := by decide +kernel
theorem dX9_walk_102 : decode cX9_walk 102 = .ok (.iload 6, 2) := by decide +kernel
theorem dX9_walk_104 : decode cX9_walk 104 = .ok (.if_icmp .lt 7, 3) := by decide +kernel
theorem dX9_walk_107 : decode cX9_walk 107 = .ok (.iconst 1, 1) := by decide +kernel
theorem dX9_walk_108 : decode cX9_walk 108 = .ok (.goto 4, 3) := by decide +kernel
theorem dX9_walk_111 : decode cX9_walk 111 = .ok (.iconst 0, 1) := by decide +kernel
theorem dX9_walk_112 : decode cX9_walk 112 = .ok (.istore 4, 2) := by decide +kernel
theorem dX9_walk_114 : decode cX9_walk 114 = .ok (.iload_n 2, 1) := by decide +kernel
theorem dX9_walk_115 : decode cX9_walk 115 = .ok (.iload 4, 2) := by decide +kernel
theorem dX9_walk_117 : decode cX9_walk 117 = .ok (.ifCond .eq 10, 3) := by decide +kernel
theorem dX9_walk_120 : decode cX9_walk 120 = .ok (.iconst 1, 1) := by decide +kernel
theorem dX9_walk_121 : decode cX9_walk 121 = .ok (.iload 5, 2) := by decide +kernel
theorem dX9_walk_123 : decode cX9_walk 123 = .ok (.ishl, 1) := by decide +kernel
theorem dX9_walk_124 : decode cX9_walk 124 = .ok (.goto 4, 3) := by decide +kernel
theorem dX9_walk_127 : decode cX9_walk 127 = .ok (.iconst 0, 1) := by decide +kernel
theorem dX9_walk_128 : decode cX9_walk 128 = .ok (.ior, 1) := by decide +kernel
theorem dX9_walk_129 : decode cX9_walk 129 = .ok (.istore_n 2, 1) := by decide +kernel
theorem dX9_walk_130 : decode cX9_walk 130 = .ok (.iload_n 3, 1) := by decide +kernel
theorem dX9_walk_131 : decode cX9_walk 131 = .ok (.aload_n 0, 1) := by decide +kernel
theorem dX9_walk_132 : decode cX9_walk 132 = .ok (.getfield 198, 3) := by decide +kernel
theorem dX9_walk_135 : decode cX9_walk 135 = .ok (.iload 5, 2) := by decide +kernel
theorem dX9_walk_137 : decode cX9_walk 137 = .ok (.iconst 1, 1) := by decide +kernel
theorem dX9_walk_138 : decode cX9_walk 138 = .ok (.isub, 1) := by decide +kernel
theorem dX9_walk_139 : decode cX9_walk 139 = .ok (.iaload, 1) := by decide +kernel
theorem dX9_walk_140 : decode cX9_walk 140 = .ok (.iload 6, 2) := by decide +kernel
theorem dX9_walk_142 : decode cX9_walk 142 = .ok (.iadd, 1) := by decide +kernel
theorem dX9_walk_143 : decode cX9_walk 143 = .ok (.isub, 1) := by decide +kernel
theorem dX9_walk_144 : decode cX9_walk 144 = .ok (.istore_n 3, 1) := by decide +kernel
theorem dX9_walk_145 : decode cX9_walk 145 = .ok (.iinc 5 1, 3) := by decide +kernel
theorem dX9_walk_148 : decode cX9_walk 148 = .ok (.goto (-106), 3) := by decide +kernel
theorem dX9_walk_151 : decode cX9_walk 151 = .ok (.iconst 3, 1) := by decide +kernel
theorem dX9_walk_152 : decode cX9_walk 152 = .ok (.aload_n 0, 1) := by decide +kernel
theorem dX9_walk_153 : decode cX9_walk 153 = .ok (.getfield 58, 3) := by decide +kernel
theorem dX9_walk_156 : decode cX9_walk 156 = .ok (.bipush 12, 2) := by decide +kernel
theorem dX9_walk_158 : decode cX9_walk 158 = .ok (.aload_n 0, 1) := by decide +kernel
theorem dX9_walk_159 : decode cX9_walk 159 = .ok (.getfield 48, 3) := by decide +kernel
theorem dX9_walk_162 : decode cX9_walk 162 = .ok (.imul, 1) := by decide +kernel
theorem dX9_walk_163 : decode cX9_walk 163 = .ok (.aload_n 0, 1) := by decide +kernel
theorem dX9_walk_164 : decode cX9_walk 164 = .ok (.getfield 165, 3) := by decide +kernel
theorem dX9_walk_167 : decode cX9_walk 167 = .ok (.iload_n 1, 1) := by decide +kernel
theorem dX9_walk_168 : decode cX9_walk 168 = .ok (.iaload, 1) := by decide +kernel
theorem dX9_walk_169 : decode cX9_walk 169 = .ok (.iadd, 1) := by decide +kernel
theorem dX9_walk_170 : decode cX9_walk 170 = .ok (.iaload, 1) := by decide +kernel
theorem dX9_walk_171 : decode cX9_walk 171 = .ok (.imul, 1) := by decide +kernel
theorem dX9_walk_172 : decode cX9_walk 172 = .ok (.istore_n 3, 1) := by decide +kernel
theorem dX9_walk_173 : decode cX9_walk 173 = .ok (.iconst 1, 1) := by decide +kernel
theorem dX9_walk_174 : decode cX9_walk 174 = .ok (.istore 4, 2) := by decide +kernel
theorem dX9_walk_176 : decode cX9_walk 176 = .ok (.iload_n 1, 1) := by decide +kernel
theorem dX9_walk_177 : decode cX9_walk 177 = .ok (.iconst 1, 1) := by decide +kernel
theorem dX9_walk_178 : decode cX9_walk 178 = .ok (.isub, 1) := by decide +kernel
theorem dX9_walk_179 : decode cX9_walk 179 = .ok (.istore 5, 2) := by decide +kernel
theorem dX9_walk_181 : decode cX9_walk 181 = .ok (.iload 5, 2) := by decide +kernel
theorem dX9_walk_183 : decode cX9_walk 183 = .ok (.ifCond .lt 97, 3) := by decide +kernel
theorem dX9_walk_186 : decode cX9_walk 186 = .ok (.iload 4, 2) := by decide +kernel
theorem dX9_walk_188 : decode cX9_walk 188 = .ok (.ifCond .eq 92, 3) := by decide +kernel
theorem dX9_walk_191 : decode cX9_walk 191 = .ok (.aload_n 0, 1) := by decide +kernel
theorem dX9_walk_192 : decode cX9_walk 192 = .ok (.getfield 58, 3) := by decide +kernel
theorem dX9_walk_195 : decode cX9_walk 195 = .ok (.bipush 12, 2) := by decide +kernel
theorem dX9_walk_197 : decode cX9_walk 197 = .ok (.aload_n 0, 1) := by decide +kernel
theorem dX9_walk_198 : decode cX9_walk 198 = .ok (.getfield 48, 3) := by decide +kernel
theorem dX9_walk_201 : decode cX9_walk 201 = .ok (.imul, 1) := by decide +kernel
theorem dX9_walk_202 : decode cX9_walk 202 = .ok (.aload_n 0, 1) := by decide +kernel
theorem dX9_walk_203 : decode cX9_walk 203 = .ok (.getfield 165, 3) := by decide +kernel
theorem dX9_walk_206 : decode cX9_walk 206 = .ok (.iload 5, 2) := by decide +kernel
theorem dX9_walk_208 : decode cX9_walk 208 = .ok (.iaload, 1) := by decide +kernel
theorem dX9_walk_209 : decode cX9_walk 209 = .ok (.iadd, 1) := by decide +kernel
theorem dX9_walk_210 : decode cX9_walk 210 = .ok (.iaload, 1) := by decide +kernel
theorem dX9_walk_211 : decode cX9_walk 211 = .ok (.istore 6, 2) := by decide +kernel
theorem dX9_walk_213 : decode cX9_walk 213 = .ok (.aload_n 0, 1) := by decide +kernel
theorem dX9_walk_214 : decode cX9_walk 214 = .ok (.getfield 195, 3) := by decide +kernel
theorem dX9_walk_217 : decode cX9_walk 217 = .ok (.iload 5, 2) := by decide +kernel
theorem dX9_walk_219 : decode cX9_walk 219 = .ok (.iaload, 1) := by decide +kernel
theorem dX9_walk_220 : decode cX9_walk 220 = .ok (.iconst 1, 1) := by decide +kernel
theorem dX9_walk_221 : decode cX9_walk 221 = .ok (.if_icmp .ne 21, 3) := by decide +kernel
theorem dX9_walk_224 : decode cX9_walk 224 = .ok (.iload_n 3, 1) := by decide +kernel
theorem dX9_walk_225 : decode cX9_walk 225 = .ok (.aload_n 0, 1) := by decide +kernel
theorem dX9_walk_226 : decode cX9_walk 226 = .ok (.getfield 198, 3) := by decide +kernel
theorem dX9_walk_229 : decode cX9_walk 229 = .ok (.iload 5, 2) := by decide +kernel
theorem dX9_walk_231 : decode cX9_walk 231 = .ok (.iaload, 1) := by decide +kernel
theorem dX9_walk_232 : decode cX9_walk 232 = .ok (.isub, 1) := by decide +kernel
theorem dX9_walk_233 : decode cX9_walk 233 = .ok (.iload 6, 2) := by decide +kernel
theorem dX9_walk_235 : decode cX9_walk 235 = .ok (.if_icmp .lt 7, 3) := by decide +kernel
theorem dX9_walk_238 : decode cX9_walk 238 = .ok (.iconst 1, 1) := by decide +kernel
theorem dX9_walk_239 : decode cX9_walk 239 = .ok (.goto 4, 3) := by decide +kernel
theorem dX9_walk_242 : decode cX9_walk 242 = .ok (.iconst 0, 1) := by decide +kernel
theorem dX9_walk_243 : decode cX9_walk 243 = .ok (.istore 4, 2) := by decide +kernel
theorem dX9_walk_245 : decode cX9_walk 245 = .ok (.iload_n 2, 1) := by decide +kernel
theorem dX9_walk_246 : decode cX9_walk 246 = .ok (.iload 4, 2) := by decide +kernel
theorem dX9_walk_248 : decode cX9_walk 248 = .ok (.ifCond .eq 10, 3) := by decide +kernel
theorem dX9_walk_251 : decode cX9_walk 251 = .ok (.iconst 1, 1) := by decide +kernel
theorem dX9_walk_252 : decode cX9_walk 252 = .ok (.iload 5, 2) := by decide +kernel
theorem dX9_walk_254 : decode cX9_walk 254 = .ok (.ishl, 1) := by decide +kernel
theorem dX9_walk_255 : decode cX9_walk 255 = .ok (.goto 4, 3) := by decide +kernel
theorem dX9_walk_258 : decode cX9_walk 258 = .ok (.iconst 0, 1) := by decide +kernel
theorem dX9_walk_259 : decode cX9_walk 259 = .ok (.ior, 1) := by decide +kernel
theorem dX9_walk_260 : decode cX9_walk 260 = .ok (.istore_n 2, 1) := by decide +kernel
theorem dX9_walk_261 : decode cX9_walk 261 = .ok (.iload_n 3, 1) := by decide +kernel
theorem dX9_walk_262 : decode cX9_walk 262 = .ok (.aload_n 0, 1) := by decide +kernel
theorem dX9_walk_263 : decode cX9_walk 263 = .ok (.getfield 198, 3) := by decide +kernel
theorem dX9_walk_266 : decode cX9_walk 266 = .ok (.iload 5, 2) := by decide +kernel
theorem dX9_walk_268 : decode cX9_walk 268 = .ok (.iaload, 1) := by decide +kernel
theorem dX9_walk_269 : decode cX9_walk 269 = .ok (.iload 6, 2) := by decide +kernel
theorem dX9_walk_271 : decode cX9_walk 271 = .ok (.iadd, 1) := by decide +kernel
theorem dX9_walk_272 : decode cX9_walk 272 = .ok (.isub, 1) := by decide +kernel
theorem dX9_walk_273 : decode cX9_walk 273 = .ok (.istore_n 3, 1) := by decide +kernel
theorem dX9_walk_274 : decode cX9_walk 274 = .ok (.iinc 5 (-1), 3) := by decide +kernel
theorem dX9_walk_277 : decode cX9_walk 277 = .ok (.goto (-96), 3) := by decide +kernel
theorem dX9_walk_280 : decode cX9_walk 280 = .ok (.iload_n 2, 1) := by decide +kernel
theorem dX9_walk_281 : decode cX9_walk 281 = .ok (.ireturn, 1) := by decide +kernel
theorem dX9_writes_0 : decode cX9_writes 0 = .ok (.aload_n 0, 1) := by decide +kernel
theorem dX9_writes_1 : decode cX9_writes 1 = .ok (.getfield 255, 3) := by decide +kernel
theorem dX9_writes_4 : decode cX9_writes 4 = .ok (.aload_n 0, 1) := by decide +kernel
theorem dX9_writes_5 : decode cX9_writes 5 = .ok (.getfield 258, 3) := by decide +kernel
theorem dX9_writes_8 : decode cX9_writes 8 = .ok (.iload_n 1, 1) := by decide +kernel
theorem dX9_writes_9 : decode cX9_writes 9 = .ok (.sipush 255, 3) := by decide +kernel
theorem dX9_writes_12 : decode cX9_writes 12 = .ok (.iand, 1) := by decide +kernel
theorem dX9_writes_13 : decode cX9_writes 13 = .ok (.iastore, 1) := by decide +kernel
theorem dX9_writes_14 : decode cX9_writes 14 = .ok (.aload_n 0, 1) := by decide +kernel
theorem dX9_writes_15 : decode cX9_writes 15 = .ok (.dup, 1) := by decide +kernel
theorem dX9_writes_16 : decode cX9_writes 16 = .ok (.getfield 258, 3) := by decide +kernel
theorem dX9_writes_19 : decode cX9_writes 19 = .ok (.iconst 1, 1) := by decide +kernel
theorem dX9_writes_20 : decode cX9_writes 20 = .ok (.iadd, 1) := by decide +kernel
theorem dX9_writes_21 : decode cX9_writes 21 = .ok (.putfield 258, 3) := by decide +kernel
theorem dX9_writes_24 : decode cX9_writes 24 = .ok (.return_, 1) := by decide +kernel
