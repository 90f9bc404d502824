theorem dX10_fact_2 : decode cX10_fact 2 = .ok (.invokevirtual 50, 3) := by decide +kernel
theorem dX10_fact_5 : decode cX10_fact 5 = .ok (.ifCond .ne 5, 3) := by decide +kernel
theorem dX10_fact_8 : decode cX10_fact 8 = .ok (.iconst (-1), 1) := by decide +kernel
theorem dX10_fact_9 : decode cX10_fact 9 = .ok (.ireturn, 1) := by decide +kernel
theorem dX10_fact_10 : decode cX10_fact 10 = .ok (.iload_n 2, 1) := by decide +kernel
theorem dX10_fact_11 : decode cX10_fact 11 = .ok (.invokestatic 46, 3) := by decide +kernel
theorem dX10_fact_14 : decode cX10_fact 14 = .ok (.ifCond .eq 23, 3) := by decide +kernel
theorem dX10_fact_17 : decode cX10_fact 17 = .ok (.iload_n 3, 1) := by decide +kernel
theorem dX10_fact_18 : decode cX10_fact 18 = .ok (.iconst 0, 1) := by decide +kernel
theorem dX10_fact_19 : decode cX10_fact 19 = .ok (.bipush 8, 2) := by decide +kernel
theorem dX10_fact_21 : decode cX10_fact 21 = .ok (.invokestatic 35, 3) := by decide +kernel
theorem dX10_fact_24 : decode cX10_fact 24 = .ok (.ifCond .eq 13, 3) := by decide +kernel
theorem dX10_fact_27 : decode cX10_fact 27 = .ok (.aload_n 0, 1) := by decide +kernel
theorem dX10_fact_28 : decode cX10_fact 28 = .ok (.iload_n 1, 1) := by decide +kernel
theorem dX10_fact_29 : decode cX10_fact 29 = .ok (.iload_n 2, 1) := by decide +kernel
theorem dX10_fact_30 : decode cX10_fact 30 = .ok (.iload_n 3, 1) := by decide +kernel
theorem dX10_fact_31 : decode cX10_fact 31 = .ok (.invokevirtual 103, 3) := by decide +kernel
theorem dX10_fact_34 : decode cX10_fact 34 = .ok (.goto 5, 3) := by decide +kernel
theorem dX10_fact_37 : decode cX10_fact 37 = .ok (.bipush (-2), 2) := by decide +kernel
theorem dX10_fact_39 : decode cX10_fact 39 = .ok (.ireturn, 1) := by decide +kernel
theorem dX10_fitOf_0 : decode cX10_fitOf 0 = .ok (.iconst 0, 1) := by decide +kernel
theorem dX10_fitOf_1 : decode cX10_fitOf 1 = .ok (.istore 4, 2) := by decide +kernel
theorem dX10_fitOf_3 : decode cX10_fitOf 3 = .ok (.iconst 2, 1) := by decide +kernel
theorem dX10_fitOf_4 : decode cX10_fitOf 4 = .ok (.istore 5, 2) := by decide +kernel
theorem dX10_fitOf_6 : decode cX10_fitOf 6 = .ok (.iconst 0, 1) := by decide +kernel
theorem dX10_fitOf_7 : decode cX10_fitOf 7 = .ok (.istore 6, 2) := by decide +kernel
theorem dX10_fitOf_9 : decode cX10_fitOf 9 = .ok (.iload 6, 2) := by decide +kernel
theorem dX10_fitOf_11 : decode cX10_fitOf 11 = .ok (.aload_n 0, 1) := by decide +kernel
theorem dX10_fitOf_12 : decode cX10_fitOf 12 = .ok (.getfield 26, 3) := by decide +kernel
theorem dX10_fitOf_15 : decode cX10_fitOf 15 = .ok (.iload_n 1, 1) := by decide +kernel
theorem dX10_fitOf_16 : decode cX10_fitOf 16 = .ok (.iaload, 1) := by decide +kernel
theorem dX10_fitOf_17 : decode cX10_fitOf 17 = .ok (.if_icmp .ge 329, 3) := by decide +kernel
theorem dX10_fitOf_20 : decode cX10_fitOf 20 = .ok (.aload_n 0, 1) := by decide +kernel
theorem dX10_fitOf_21 : decode cX10_fitOf 21 = .ok (.getfield 29, 3) := by decide +kernel
theorem dX10_fitOf_24 : decode cX10_fitOf 24 = .ok (.bipush 40, 2) := by decide +kernel
theorem dX10_fitOf_26 : decode cX10_fitOf 26 = .ok (.iload_n 1, 1) := by decide +kernel
theorem dX10_fitOf_27 : decode cX10_fitOf 27 = .ok (.imul, 1) := by decide +kernel
theorem dX10_fitOf_28 : decode cX10_fitOf 28 = .ok (.iload 6, 2) := by decide +kernel
theorem dX10_fitOf_30 : decode cX10_fitOf 30 = .ok (.iadd, 1) := by decide +kernel
theorem dX10_fitOf_31 : decode cX10_fitOf 31 = .ok (.iaload, 1) := by decide +kernel
theorem dX10_fitOf_32 : decode cX10_fitOf 32 = .ok (.istore 7, 2) := by decide +kernel
theorem dX10_fitOf_34 : decode cX10_fitOf 34 = .ok (.iinc 6 1, 3) := by decide +kernel
theorem dX10_fitOf_37 : decode cX10_fitOf 37 = .ok (.iload 7, 2) := by decide +kernel
theorem dX10_fitOf_39 : decode cX10_fitOf 39 = .ok (.bipush 115, 2) := by decide +kernel
theorem dX10_fitOf_41 : decode cX10_fitOf 41 = .ok (.if_icmp .ne 7, 3) := by decide +kernel
theorem dX10_fitOf_44 : decode cX10_fitOf 44 = .ok (.iconst 0, 1) := by decide +kernel
theorem dX10_fitOf_45 : decode cX10_fitOf 45 = .ok (.goto 42, 3) := by decide +kernel
theorem dX10_fitOf_48 : decode cX10_fitOf 48 = .ok (.iload 7, 2) := by decide +kernel
theorem dX10_fitOf_50 : decode cX10_fitOf 50 = .ok (.bipush 107, 2) := by decide +kernel
theorem dX10_fitOf_52 : decode cX10_fitOf 52 = .ok (.if_icmp .ne 7, 3) := by decide +kernel
theorem dX10_fitOf_55 : decode cX10_fitOf 55 = .ok (.iconst 1, 1) := by decide +kernel
theorem dX10_fitOf_56 : decode cX10_fitOf 56 = .ok (.goto 31, 3) := by decide +kernel
theorem dX10_fitOf_59 : decode cX10_fitOf 59 = .ok (.iload 7, 2) := by decide +kernel
theorem dX10_fitOf_61 : decode cX10_fitOf 61 = .ok (.bipush 104, 2) := by decide +kernel
theorem dX10_fitOf_63 : decode cX10_fitOf 63 = .ok (.if_icmp .ne 7, 3) := by decide +kernel
theorem dX10_fitOf_66 : decode cX10_fitOf 66 = .ok (.iconst 2, 1) := by decide +kernel
theorem dX10_fitOf_67 : decode cX10_fitOf 67 = .ok (.goto 20, 3) := by decide +kernel
theorem dX10_fitOf_70 : decode cX10_fitOf 70 = .ok (.iconst 3, 1) := by decide +kernel
theorem dX10_fitOf_71 : decode cX10_fitOf 71 = .ok (.aload_n 0, 1) := by decide +kernel
theorem dX10_fitOf_72 : decode cX10_fitOf 72 = .ok (.getfield 29, 3) := by decide +kernel
theorem dX10_fitOf_75 : decode cX10_fitOf 75 = .ok (.bipush 40, 2) := by decide +kernel
theorem dX10_fitOf_77 : decode cX10_fitOf 77 = .ok (.iload_n 1, 1) := by decide +kernel
theorem dX10_fitOf_78 : decode cX10_fitOf 78 = .ok (.imul, 1) := by decide +kernel
theorem dX10_fitOf_79 : decode cX10_fitOf 79 = .ok (.iload 6, 2) := by decide +kernel
theorem dX10_fitOf_81 : decode cX10_fitOf 81 = .ok (.iadd, 1) := by decide +kernel
theorem dX10_fitOf_82 : decode cX10_fitOf 82 = .ok (.iaload, 1) := by decide +kernel
theorem dX10_fitOf_83 : decode cX10_fitOf 83 = .ok (.iadd, 1) := by decide +kernel
theorem dX10_fitOf_84 : decode cX10_fitOf 84 = .ok (.bipush 48, 2) := by decide +kernel
theorem dX10_fitOf_86 : decode cX10_fitOf 86 = .ok (.isub, 1) := by decide +kernel
theorem dX10_fitOf_87 : decode cX10_fitOf 87 = .ok (.istore 8, 2) := by decide +kernel
theorem dX10_fitOf_89 : decode cX10_fitOf 89 = .ok (.iload 6, 2) := by decide +kernel
theorem dX10_fitOf_91 : decode cX10_fitOf 91 = .ok (.iload 7, 2) := by decide +kernel
theorem dX10_fitOf_93 : decode cX10_fitOf 93 = .ok (.bipush 110, 2) := by decide +kernel
theorem dX10_fitOf_95 : decode cX10_fitOf 95 = .ok (.if_icmp .ne 7, 3) := by decide +kernel
theorem dX10_fitOf_98 : decode cX10_fitOf 98 = .ok (.iconst 1, 1) := by decide +kernel
theorem dX10_fitOf_99 : decode cX10_fitOf 99 = .ok (.goto 4, 3) := by decide +kernel
theorem dX10_fitOf_102 : decode cX10_fitOf 102 = .ok (.iconst 0, 1) := by decide +kernel
theorem dX10_fitOf_103 : decode cX10_fitOf 103 = .ok (.iadd, 1) := by decide +kernel
theorem dX10_fitOf_104 : decode cX10_fitOf 104 = .ok (.istore 6, 2) := by decide +kernel
theorem dX10_fitOf_106 : decode cX10_fitOf 106 = .ok (.aload_n 0, 1) := by decide +kernel
theorem dX10_fitOf_107 : decode cX10_fitOf 107 = .ok (.getfield 29, 3) := by decide +kernel
theorem dX10_fitOf_110 : decode cX10_fitOf 110 = .ok (.bipush 40, 2) := by decide +kernel
theorem dX10_fitOf_112 : decode cX10_fitOf 112 = .ok (.iload_n 1, 1) := by decide +kernel
theorem dX10_fitOf_113 : decode cX10_fitOf 113 = .ok (.imul, 1) := by decide +kernel
theorem dX10_fitOf_114 : decode cX10_fitOf 114 = .ok (.iload 6, 2) := by decide +kernel
theorem dX10_fitOf_116 : decode cX10_fitOf 116 = .ok (.iadd, 1) := by decide +kernel
theorem dX10_fitOf_117 : decode cX10_fitOf 117 = .ok (.iaload, 1) := by decide +kernel
theorem dX10_fitOf_118 : decode cX10_fitOf 118 = .ok (.istore 9, 2) := by decide +kernel
theorem dX10_fitOf_120 : decode cX10_fitOf 120 = .ok (.iinc 6 1, 3) := by decide +kernel
theorem dX10_fitOf_123 : decode cX10_fitOf 123 = .ok (.iconst 0, 1) := by decide +kernel
theorem dX10_fitOf_124 : decode cX10_fitOf 124 = .ok (.istore 10, 2) := by decide +kernel
theorem dX10_fitOf_126 : decode cX10_fitOf 126 = .ok (.iload 6, 2) := by decide +kernel
theorem dX10_fitOf_128 : decode cX10_fitOf 128 = .ok (.aload_n 0, 1) := by decide +kernel
theorem dX10_fitOf_129 : decode cX10_fitOf 129 = .ok (.getfield 26, 3) := by decide +kernel
theorem dX10_fitOf_132 : decode cX10_fitOf 132 = .ok (.iload_n 1, 1) := by decide +kernel
theorem dX10_fitOf_133 : decode cX10_fitOf 133 = .ok (.iaload, 1) := by decide +kernel
theorem dX10_fitOf_134 : decode cX10_fitOf 134 = .ok (.if_icmp .ge 54, 3) := by decide +kernel
theorem dX10_fitOf_137 : decode cX10_fitOf 137 = .ok (.aload_n 0, 1) := by decide +kernel
theorem dX10_fitOf_138 : decode cX10_fitOf 138 = .ok (.getfield 29, 3) := by decide +kernel
theorem dX10_fitOf_141 : decode cX10_fitOf 141 = .ok (.bipush 40, 2) := by decide +kernel
theorem dX10_fitOf_143 : decode cX10_fitOf 143 = .ok (.iload_n 1, 1) := by decide +kernel
theorem dX10_fitOf_144 : decode cX10_fitOf 144 = .ok (.imul, 1) := by decide +kernel
theorem dX10_fitOf_145 : decode cX10_fitOf 145 = .ok (.iload 6, 2) := by decide +kernel
theorem dX10_fitOf_147 : decode cX10_fitOf 147 = .ok (.iadd, 1) := by decide +kernel
theorem dX10_fitOf_148 : decode cX10_fitOf 148 = .ok (.iaload, 1) := by decide +kernel
theorem dX10_fitOf_149 : decode cX10_fitOf 149 = .ok (.bipush 48, 2) := by decide +kernel
theorem dX10_fitOf_151 : decode cX10_fitOf 151 = .ok (.bipush 57, 2) := by decide +kernel
theorem dX10_fitOf_153 : decode cX10_fitOf 153 = .ok (.invokestatic 35, 3) := by decide +kernel
theorem dX10_fitOf_156 : decode cX10_fitOf 156 = .ok (.ifCond .eq 32, 3) := by decide +kernel
theorem dX10_fitOf_159 : decode cX10_fitOf 159 = .ok (.bipush 10, 2) := by decide +kernel
theorem dX10_fitOf_161 : decode cX10_fitOf 161 = .ok (.iload 10, 2) := by decide +kernel
theorem dX10_fitOf_163 : decode cX10_fitOf 163 = .ok (.imul, 1) := by decide +kernel
theorem dX10_fitOf_164 : decode cX10_fitOf 164 = .ok (.aload_n 0, 1) := by decide +kernel
theorem dX10_fitOf_165 : decode cX10_fitOf 165 = .ok (.getfield 29, 3) := by decide +kernel
theorem dX10_fitOf_168 : decode cX10_fitOf 168 = .ok (.bipush 40, 2) := by decide +kernel
theorem dX10_fitOf_170 : decode cX10_fitOf 170 = .ok (.iload_n 1, 1) := by decide +kernel
theorem dX10_fitOf_171 : decode cX10_fitOf 171 = .ok (.imul, 1) := by decide +kernel
theorem dX10_fitOf_172 : decode cX10_fitOf 172 = .ok (.iload 6, 2) := by decide +kernel
theorem dX10_fitOf_174 : decode cX10_fitOf 174 = .ok (.iadd, 1) := by decide +kernel
theorem dX10_fitOf_175 : decode cX10_fitOf 175 = .ok (.iaload, 1) := by decide +kernel
theorem dX10_fitOf_176 : decode cX10_fitOf 176 = .ok (.iadd, 1) := by decide +kernel
theorem dX10_fitOf_177 : decode cX10_fitOf 177 = .ok (.bipush 48, 2) := by decide +kernel
theorem dX10_fitOf_179 : decode cX10_fitOf 179 = .ok (.isub, 1) := by decide +kernel
theorem dX10_fitOf_180 : decode cX10_fitOf 180 = .ok (.istore 10, 2) := by decide +kernel
theorem dX10_fitOf_182 : decode cX10_fitOf 182 = .ok (.iinc 6 1, 3) := by decide +kernel
theorem dX10_fitOf_185 : decode cX10_fitOf 185 = .ok (.goto (-59), 3) := by decide +kernel
theorem dX10_fitOf_188 : decode cX10_fitOf 188 = .ok (.aload_n 0, 1) := by decide +kernel
theorem dX10_fitOf_189 : decode cX10_fitOf 189 = .ok (.iload_n 2, 1) := by decide +kernel
theorem dX10_fitOf_190 : decode cX10_fitOf 190 = .ok (.iload_n 3, 1) := by decide +kernel
theorem dX10_fitOf_191 : decode cX10_fitOf 191 = .ok (.iload 8, 2) := by decide +kernel
theorem dX10_fitOf_193 : decode cX10_fitOf 193 = .ok (.invokevirtual 103, 3) := by decide +kernel
theorem dX10_fitOf_196 : decode cX10_fitOf 196 = .ok (.istore 11, 2) := by decide +kernel
theorem dX10_fitOf_198 : decode cX10_fitOf 198 = .ok (.iload 9, 2) := by decide +kernel
theorem dX10_fitOf_200 : decode cX10_fitOf 200 = .ok (.bipush 60, 2) := by decide +kernel
theorem dX10_fitOf_202 : decode cX10_fitOf 202 = .ok (.if_icmp .ne 18, 3) := by decide +kernel
theorem dX10_fitOf_205 : decode cX10_fitOf 205 = .ok (.iload 11, 2) := by decide +kernel
theorem dX10_fitOf_207 : decode cX10_fitOf 207 = .ok (.iload 10, 2) := by decide +kernel
theorem dX10_fitOf_209 : decode cX10_fitOf 209 = .ok (.if_icmp .ge 7, 3) := by decide +kernel
theorem dX10_fitOf_212 : decode cX10_fitOf 212 = .ok (.iconst 1, 1) := by decide +kernel
theorem dX10_fitOf_213 : decode cX10_fitOf 213 = .ok (.goto 41, 3) := by decide +kernel
theorem dX10_fitOf_216 : decode cX10_fitOf 216 = .ok (.iconst 0, 1) := by decide +kernel
theorem dX10_fitOf_217 : decode cX10_fitOf 217 = .ok (.goto 37, 3) := by decide +kernel
theorem dX10_fitOf_220 : decode cX10_fitOf 220 = .ok (.iload 9, 2) := by decide +kernel
theorem dX10_fitOf_222 : decode cX10_fitOf 222 = .ok (.bipush 62, 2) := by decide +kernel
theorem dX10_fitOf_224 : decode cX10_fitOf 224 = .ok (.if_icmp .ne 18, 3) := by decide +kernel
theorem dX10_fitOf_227 : decode cX10_fitOf 227 = .ok (.iload 11, 2) := by decide +kernel
theorem dX10_fitOf_229 : decode cX10_fitOf 229 = .ok (.iload 10, 2) := by decide +kernel
theorem dX10_fitOf_231 : decode cX10_fitOf 231 = .ok (.if_icmp .le 7, 3) := by decide +kernel
theorem dX10_fitOf_234 : decode cX10_fitOf 234 = .ok (.iconst 1, 1) := by decide +kernel
theorem dX10_fitOf_235 : decode cX10_fitOf 235 = .ok (.goto 19, 3) := by decide +kernel
theorem dX10_fitOf_238 : decode cX10_fitOf 238 = .ok (.iconst 0, 1) := by decide +kernel
theorem dX10_fitOf_239 : decode cX10_fitOf 239 = .ok (.goto 15, 3) := by decide +kernel
theorem dX10_fitOf_242 : decode cX10_fitOf 242 = .ok (.iload 11, 2) := by decide +kernel
theorem dX10_fitOf_244 : decode cX10_fitOf 244 = .ok (.iload 10, 2) := by decide +kernel
theorem dX10_fitOf_246 : decode cX10_fitOf 246 = .ok (.if_icmp .ne 7, 3) := by decide +kernel
theorem dX10_fitOf_249 : decode cX10_fitOf 249 = .ok (.iconst 1, 1) := by decide +kernel
theorem dX10_fitOf_250 : decode cX10_fitOf 250 = .ok (.goto 4, 3) := by decide +kernel
theorem dX10_fitOf_253 : decode cX10_fitOf 253 = .ok (.iconst 0, 1) := by decide +kernel
theorem dX10_fitOf_254 : decode cX10_fitOf 254 = .ok (.istore 12, 2) := by decide +kernel
theorem dX10_fitOf_256 : decode cX10_fitOf 256 = .ok (.iload 11, 2) := by decide +kernel
theorem dX10_fitOf_258 : decode cX10_fitOf 258 = .ok (.ifCond .ge 7, 3) := by decide +kernel
theorem dX10_fitOf_261 : decode cX10_fitOf 261 = .ok (.iconst 1, 1) := by decide +kernel
theorem dX10_fitOf_262 : decode cX10_fitOf 262 = .ok (.goto 13, 3) := by decide +kernel
theorem dX10_fitOf_265 : decode cX10_fitOf 265 = .ok (.iload 12, 2) := by decide +kernel
theorem dX10_fitOf_267 : decode cX10_fitOf 267 = .ok (.ifCond .eq 7, 3) := by decide +kernel
theorem dX10_fitOf_270 : decode cX10_fitOf 270 = .ok (.iconst 2, 1) := by decide +kernel
theorem dX10_fitOf_271 : decode cX10_fitOf 271 = .ok (.goto 4, 3) := by decide +kernel
theorem dX10_fitOf_274 : decode cX10_fitOf 274 = .ok (.iconst 0, 1) := by decide +kernel
theorem dX10_fitOf_275 : decode cX10_fitOf 275 = .ok (.istore 13, 2) := by decide +kernel
theorem dX10_fitOf_277 : decode cX10_fitOf 277 = .ok (.iload 13, 2) := by decide +kernel
theorem dX10_fitOf_279 : decode cX10_fitOf 279 = .ok (.iload 5, 2) := by decide +kernel
theorem dX10_fitOf_281 : decode cX10_fitOf 281 = .ok (.if_icmp .ge 8, 3) := by decide +kernel
theorem dX10_fitOf_284 : decode cX10_fitOf 284 = .ok (.iload 13, 2) := by decide +kernel
theorem dX10_fitOf_286 : decode cX10_fitOf 286 = .ok (.goto 5, 3) := by decide +kernel
theorem dX10_fitOf_289 : decode cX10_fitOf 289 = .ok (.iload 5, 2) := by decide +kernel
theorem dX10_fitOf_291 : decode cX10_fitOf 291 = .ok (.istore 5, 2) := by decide +kernel
theorem dX10_fitOf_293 : decode cX10_fitOf 293 = .ok (.iload 6, 2) := by decide +kernel
theorem dX10_fitOf_295 : decode cX10_fitOf 295 = .ok (.aload_n 0, 1) := by decide +kernel
theorem dX10_fitOf_296 : decode cX10_fitOf 296 = .ok (.getfield 26, 3) := by decide +kernel
theorem dX10_fitOf_299 : decode cX10_fitOf 299 = .ok (.iload_n 1, 1) := by decide +kernel
theorem dX10_fitOf_300 : decode cX10_fitOf 300 = .ok (.iaload, 1) := by decide +kernel
theorem dX10_fitOf_301 : decode cX10_fitOf 301 = .ok (.if_icmp .eq 20, 3) := by decide +kernel
theorem dX10_fitOf_304 : decode cX10_fitOf 304 = .ok (.aload_n 0, 1) := by decide +kernel
theorem dX10_fitOf_305 : decode cX10_fitOf 305 = .ok (.getfield 29, 3) := by decide +kernel
theorem dX10_fitOf_308 : decode cX10_fitOf 308 = .ok (.bipush 40, 2) := by decide +kernel
theorem dX10_fitOf_310 : decode cX10_fitOf 310 = .ok (.iload_n 1, 1) := by decide +kernel
theorem dX10_fitOf_311 : decode cX10_fitOf 311 = .ok (.imul, 1) := by decide +kernel
theorem dX10_fitOf_312 : decode cX10_fitOf 312 = .ok (.iload 6, 2) := by decide +kernel
theorem dX10_fitOf_314 : decode cX10_fitOf 314 = .ok (.iadd, 1) := by decide +kernel
theorem dX10_fitOf_315 : decode cX10_fitOf 315 = .ok (.iaload, 1) := by decide +kernel
theorem dX10_fitOf_316 : decode cX10_fitOf 316 = .ok (.bipush 124, 2) := by decide +kernel
theorem dX10_fitOf_318 : decode cX10_fitOf 318 = .ok (.if_icmp .ne 22, 3) := by decide +kernel
theorem dX10_fitOf_321 : decode cX10_fitOf 321 = .ok (.iload 5, 2) := by decide +kernel
theorem dX10_fitOf_323 : decode cX10_fitOf 323 = .ok (.iload 4, 2) := by decide +kernel
theorem dX10_fitOf_325 : decode cX10_fitOf 325 = .ok (.if_icmp .le 8, 3) := by decide +kernel
theorem dX10_fitOf_328 : decode cX10_fitOf 328 = .ok (.iload 5, 2) := by decide +kernel
theorem dX10_fitOf_330 : decode cX10_fitOf 330 = .ok (.goto 5, 3) := by decide +kernel
theorem dX10_fitOf_333 : decode cX10_fitOf 333 = .ok (.iload 4, 2) := by decide +kernel
theorem dX10_fitOf_335 : decode cX10_fitOf 335 = .ok (.istore 4, 2) := by decide +kernel
theorem dX10_fitOf_337 : decode cX10_fitOf 337 = .ok (.iconst 2, 1) := by decide +kernel
theorem dX10_fitOf_338 : decode cX10_fitOf 338 = .ok (.istore 5, 2) := by decide +kernel
theorem dX10_fitOf_340 : decode cX10_fitOf 340 = .ok (.iinc 6 1, 3) := by decide +kernel
theorem dX10_fitOf_343 : decode cX10_fitOf 343 = .ok (.goto (-334), 3) := by decide +kernel
theorem dX10_fitOf_346 : decode cX10_fitOf 346 = .ok (.iload 4, 2) := by decide +kernel
theorem dX10_fitOf_348 : decode cX10_fitOf 348 = .ok (.ireturn, 1) := by decide +kernel
theorem dX10_isUse_0 : decode cX10_isUse 0 = .ok (.iload_n 1, 1) := by decide +kernel
theorem dX10_isUse_1 : decode cX10_isUse 1 = .ok (.iconst 0, 1) := by decide +kernel
theorem dX10_isUse_2 : decode cX10_isUse 2 = .ok (.iconst 4, 1) := by decide +kernel
theorem dX10_isUse_3 : decode cX10_isUse 3 = .ok (.invokestatic 35, 3) := by decide +kernel
theorem dX10_isUse_6 : decode cX10_isUse 6 = .ok (.ifCond .eq 16, 3) := by decide +kernel
theorem dX10_isUse_9 : decode cX10_isUse 9 = .ok (.aload_n 0, 1) := by decide +kernel
theorem dX10_isUse_10 : decode cX10_isUse 10 = .ok (.getfield 26, 3) := by decide +kernel
theorem dX10_isUse_13 : decode cX10_isUse 13 = .ok (.iload_n 1, 1) := by decide +kernel
theorem dX10_isUse_14 : decode cX10_isUse 14 = .ok (.iaload, 1) := by decide +kernel
theorem dX10_isUse_15 : decode cX10_isUse 15 = .ok (.ifCond .le 7, 3) := by decide +kernel
theorem dX10_isUse_18 : decode cX10_isUse 18 = .ok (.iconst 1, 1) := by decide +kernel
theorem dX10_isUse_19 : decode cX10_isUse 19 = .ok (.goto 4, 3) := by decide +kernel
theorem dX10_isUse_22 : decode cX10_isUse 22 = .ok (.iconst 0, 1) := by decide +kernel
theorem dX10_isUse_23 : decode cX10_isUse 23 = .ok (.ireturn, 1) := by decide +kernel
theorem dX10_fit_0 : decode cX10_fit 0 = .ok (.aload_n 0, 1) := by decide +kernel
theorem dX10_fit_1 : decode cX10_fit 1 = .ok (.iload_n 1, 1) := by decide +kernel
theorem dX10_fit_2 : decode cX10_fit 2 = .ok (.invokevirtual 106, 3) := by decide +kernel
theorem dX10_fit_5 : decode cX10_fit 5 = .ok (.ifCond .eq 11, 3) := by decide +kernel
theorem dX10_fit_8 : decode cX10_fit 8 = .ok (.aload_n 0, 1) := by decide +kernel
theorem dX10_fit_9 : decode cX10_fit 9 = .ok (.iload_n 2, 1) := by decide +kernel
theorem dX10_fit_10 : decode cX10_fit 10 = .ok (.invokevirtual 50, 3) := by decide +kernel
theorem dX10_fit_13 : decode cX10_fit 13 = .ok (.ifCond .ne 5, 3) := by decide +kernel
theorem dX10_fit_16 : decode cX10_fit 16 = .ok (.iconst (-1), 1) := by decide +kernel
theorem dX10_fit_17 : decode cX10_fit 17 = .ok (.ireturn, 1) := by decide +kernel
theorem dX10_fit_18 : decode cX10_fit 18 = .ok (.iload_n 3, 1) := by decide +kernel
theorem dX10_fit_19 : decode cX10_fit 19 = .ok (.invokestatic 46, 3) := by decide +kernel
theorem dX10_fit_22 : decode cX10_fit 22 = .ok (.ifCond .eq 13, 3) := by decide +kernel
theorem dX10_fit_25 : decode cX10_fit 25 = .ok (.aload_n 0, 1) := by decide +kernel
theorem dX10_fit_26 : decode cX10_fit 26 = .ok (.iload_n 1, 1) := by decide +kernel
theorem dX10_fit_27 : decode cX10_fit 27 = .ok (.iload_n 2, 1) := by decide +kernel
theorem dX10_fit_28 : decode cX10_fit 28 = .ok (.iload_n 3, 1) := by decide +kernel
theorem dX10_fit_29 : decode cX10_fit 29 = .ok (.invokevirtual 109, 3) := by decide +kernel
theorem dX10_fit_32 : decode cX10_fit 32 = .ok (.goto 5, 3) := by decide +kernel
theorem dX10_fit_35 : decode cX10_fit 35 = .ok (.bipush (-2), 2) := by decide +kernel
theorem dX10_fit_37 : decode cX10_fit 37 = .ok (.ireturn, 1) := by decide +kernel
theorem dX10_could_0 : decode cX10_could 0 = .ok (.aload_n 0, 1) := by decide +kernel
theorem dX10_could_1 : decode cX10_could 1 = .ok (.iload_n 1, 1) := by decide +kernel
theorem dX10_could_2 : decode cX10_could 2 = .ok (.invokevirtual 106, 3) := by decide +kernel
theorem dX10_could_5 : decode cX10_could 5 = .ok (.ifCond .eq 11, 3) := by decide +kernel
theorem dX10_could_8 : decode cX10_could 8 = .ok (.aload_n 0, 1) := by decide +kernel
theorem dX10_could_9 : decode cX10_could 9 = .ok (.iload_n 2, 1) := by decide +kernel
theorem dX10_could_10 : decode cX10_could 10 = .ok (.invokevirtual 50, 3) := by decide +kernel
theorem dX10_could_13 : decode cX10_could 13 = .ok (.ifCond .ne 5, 3) := by decide +kernel
theorem dX10_could_16 : decode cX10_could 16 = .ok (.iconst (-1), 1) := by decide +kernel
theorem dX10_could_17 : decode cX10_could 17 = .ok (.ireturn, 1) := by decide +kernel
theorem dX10_could_18 : decode cX10_could 18 = .ok (.iconst 0, 1) := by decide +kernel
theorem dX10_could_19 : decode cX10_could 19 = .ok (.istore_n 3, 1) := by decide +kernel
theorem dX10_could_20 : decode cX10_could 20 = .ok (.iload_n 3, 1) := by decide +kernel
theorem dX10_could_21 : decode cX10_could 21 = .ok (.bipush 100, 2) := by decide +kernel
theorem dX10_could_23 : decode cX10_could 23 = .ok (.if_icmp .ge 83, 3) := by decide +kernel
theorem dX10_could_26 : decode cX10_could 26 = .ok (.iload_n 3, 1) := by decide +kernel
theorem dX10_could_27 : decode cX10_could 27 = .ok (.ifCond .ne 7, 3) := by decide +kernel
theorem dX10_could_30 : decode cX10_could 30 = .ok (.iconst 1, 1) := by decide +kernel
theorem dX10_could_31 : decode cX10_could 31 = .ok (.goto 4, 3) := by decide +kernel
theorem dX10_could_34 : decode cX10_could 34 = .ok (.iconst 0, 1) := by decide +kernel
theorem dX10_could_35 : decode cX10_could 35 = .ok (.istore 4, 2) := by decide +kernel
theorem dX10_could_37 : decode cX10_could 37 = .ok (.iconst 0, 1) := by decide +kernel
theorem dX10_could_38 : decode cX10_could 38 = .ok (.istore 5, 2) := by decide +kernel
theorem dX10_could_40 : decode cX10_could 40 = .ok (.iload 5, 2) := by decide +kernel
theorem dX10_could_42 : decode cX10_could 42 = .ok (.aload_n 0, 1) := by decide +kernel
theorem dX10_could_43 : decode cX10_could 43 = .ok (.getfield 43, 3) := by decide +kernel
theorem dX10_could_46 : decode cX10_could 46 = .ok (.if_icmp .ge 36, 3) := by decide +kernel
theorem dX10_could_49 : decode cX10_could 49 = .ok (.iload 4, 2) := by decide +kernel
theorem dX10_could_51 : decode cX10_could 51 = .ok (.ifCond .ne 18, 3) := by decide +kernel
theorem dX10_could_54 : decode cX10_could 54 = .ok (.aload_n 0, 1) := by decide +kernel
theorem dX10_could_55 : decode cX10_could 55 = .ok (.getfield 17, 3) := by decide +kernel
theorem dX10_could_58 : decode cX10_could 58 = .ok (.iconst 5, 1) := by decide +kernel
theorem dX10_could_59 : decode cX10_could 59 = .ok (.iload 5, 2) := by decide +kernel
theorem dX10_could_61 : decode cX10_could 61 = .ok (.imul, 1) := by decide +kernel
theorem dX10_could_62 : decode cX10_could 62 = .ok (.iconst 2, 1) := by decide +kernel
theorem dX10_could_63 : decode cX10_could 63 = .ok (.iadd, 1) := by decide +kernel
theorem dX10_could_64 : decode cX10_could 64 = .ok (.iaload, 1) := by decide +kernel
theorem dX10_could_65 : decode cX10_could 65 = .ok (.iload_n 3, 1) := by decide +kernel
theorem dX10_could_66 : decode cX10_could 66 = .ok (.if_icmp .ne 7, 3) := by decide +kernel
theorem dX10_could_69 : decode cX10_could 69 = .ok (.iconst 1, 1) := by decide +kernel
theorem dX10_could_70 : decode cX10_could 70 = .ok (.goto 4, 3) := by decide +kernel
theorem dX10_could_73 : decode cX10_could 73 = .ok (.iconst 0, 1) := by decide +kernel
theorem dX10_could_74 : decode cX10_could 74 = .ok (.istore 4, 2) := by decide +kernel
theorem dX10_could_76 : decode cX10_could 76 = .ok (.iinc 5 1, 3) := by decide +kernel
theorem dX10_could_79 : decode cX10_could 79 = .ok (.goto (-39), 3) := by decide +kernel
theorem dX10_could_82 : decode cX10_could 82 = .ok (.iload 4, 2) := by decide +kernel
theorem dX10_could_84 : decode cX10_could 84 = .ok (.ifCond .eq 16, 3) := by decide +kernel
theorem dX10_could_87 : decode cX10_could 87 = .ok (.aload_n 0, 1) := by decide +kernel
theorem dX10_could_88 : decode cX10_could 88 = .ok (.iload_n 1, 1) := by decide +kernel
theorem dX10_could_89 : decode cX10_could 89 = .ok (.iload_n 2, 1) := by decide +kernel
theorem dX10_could_90 : decode cX10_could 90 = .ok (.iload_n 3, 1) := by decide +kernel
theorem dX10_could_91 : decode cX10_could 91 = .ok (.invokevirtual 109, 3) := by decide +kernel
theorem dX10_could_94 : decode cX10_could 94 = .ok (.iconst 2, 1) := by decide +kernel
theorem dX10_could_95 : decode cX10_could 95 = .ok (.if_icmp .ne 5, 3) := by decide +kernel
theorem dX10_could_98 : decode cX10_could 98 = .ok (.iload_n 3, 1) := by decide +kernel
theorem dX10_could_99 : decode cX10_could 99 = .ok (.ireturn, 1) := by decide +kernel
theorem dX10_could_100 : decode cX10_could 100 = .ok (.iinc 3 1, 3) := by decide +kernel
theorem dX10_could_103 : decode cX10_could 103 = .ok (.goto (-83), 3) := by decide +kernel
theorem dX10_could_106 : decode cX10_could 106 = .ok (.bipush (-6), 2) := by decide +kernel
theorem dX10_could_108 : decode cX10_could 108 = .ok (.ireturn, 1) := by decide +kernel
theorem dX10_all_0 : decode cX10_all 0 = .ok (.aload_n 0, 1) := by decide +kernel
theorem dX10_all_1 : decode cX10_all 1 = .ok (.iload_n 1, 1) := by decide +kernel
theorem dX10_all_2 : decode cX10_all 2 = .ok (.invokevirtual 106, 3) := by decide +kernel
theorem dX10_all_5 : decode cX10_all 5 = .ok (.ifCond .ne 5, 3) := by decide +kernel
theorem dX10_all_8 : decode cX10_all 8 = .ok (.iconst (-1), 1) := by decide +kernel
theorem dX10_all_9 : decode cX10_all 9 = .ok (.ireturn, 1) := by decide +kernel
theorem dX10_all_10 : decode cX10_all 10 = .ok (.iload_n 2, 1) := by decide +kernel
theorem dX10_all_11 : decode cX10_all 11 = .ok (.invokestatic 46, 3) := by decide +kernel
theorem dX10_all_14 : decode cX10_all 14 = .ok (.ifCond .eq 12, 3) := by decide +kernel
theorem dX10_all_17 : decode cX10_all 17 = .ok (.iload_n 3, 1) := by decide +kernel
theorem dX10_all_18 : decode cX10_all 18 = .ok (.iconst 0, 1) := by decide +kernel
theorem dX10_all_19 : decode cX10_all 19 = .ok (.iconst 2, 1) := by decide +kernel
theorem dX10_all_20 : decode cX10_all 20 = .ok (.invokestatic 35, 3) := by decide +kernel
theorem dX10_all_23 : decode cX10_all 23 = .ok (.ifCond .ne 6, 3) := by decide +kernel
theorem dX10_all_26 : decode cX10_all 26 = .ok (.bipush (-2), 2) := by decide +kernel
theorem dX10_all_28 : decode cX10_all 28 = .ok (.ireturn, 1) := by decide +kernel
theorem dX10_all_29 : decode cX10_all 29 = .ok (.iconst 0, 1) := by decide +kernel
theorem dX10_all_30 : decode cX10_all 30 = .ok (.istore 4, 2) := by decide +kernel
theorem dX10_all_32 : decode cX10_all 32 = .ok (.iconst 0, 1) := by decide +kernel
theorem dX10_all_33 : decode cX10_all 33 = .ok (.istore 5, 2) := by decide +kernel
theorem dX10_all_35 : decode cX10_all 35 = .ok (.iload 5, 2) := by decide +kernel
theorem dX10_all_37 : decode cX10_all 37 = .ok (.aload_n 0, 1) := by decide +kernel
theorem dX10_all_38 : decode cX10_all 38 = .ok (.getfield 39, 3) := by decide +kernel
theorem dX10_all_41 : decode cX10_all 41 = .ok (.if_icmp .ge 34, 3) := by decide +kernel
theorem dX10_all_44 : decode cX10_all 44 = .ok (.iload 4, 2) := by decide +kernel
theorem dX10_all_46 : decode cX10_all 46 = .ok (.aload_n 0, 1) := by decide +kernel
theorem dX10_all_47 : decode cX10_all 47 = .ok (.iload_n 1, 1) := by decide +kernel
theorem dX10_all_48 : decode cX10_all 48 = .ok (.iload 5, 2) := by decide +kernel
theorem dX10_all_50 : decode cX10_all 50 = .ok (.iload_n 2, 1) := by decide +kernel
theorem dX10_all_51 : decode cX10_all 51 = .ok (.invokevirtual 109, 3) := by decide +kernel
theorem dX10_all_54 : decode cX10_all 54 = .ok (.iload_n 3, 1) := by decide +kernel
theorem dX10_all_55 : decode cX10_all 55 = .ok (.if_icmp .ne 10, 3) := by decide +kernel
theorem dX10_all_58 : decode cX10_all 58 = .ok (.iconst 1, 1) := by decide +kernel
theorem dX10_all_59 : decode cX10_all 59 = .ok (.iload 5, 2) := by decide +kernel
theorem dX10_all_61 : decode cX10_all 61 = .ok (.ishl, 1) := by decide +kernel
theorem dX10_all_62 : decode cX10_all 62 = .ok (.goto 4, 3) := by decide +kernel
theorem dX10_all_65 : decode cX10_all 65 = .ok (.iconst 0, 1) := by decide +kernel
theorem dX10_all_66 : decode cX10_all 66 = .ok (.ior, 1) := by decide +kernel
theorem dX10_all_67 : decode cX10_all 67 = .ok (.istore 4, 2) := by decide +kernel
theorem dX10_all_69 : decode cX10_all 69 = .ok (.iinc 5 1, 3) := by decide +kernel
theorem dX10_all_72 : decode cX10_all 72 = .ok (.goto (-37), 3) := by decide +kernel
theorem dX10_all_75 : decode cX10_all 75 = .ok (.iload 4, 2) := by decide +kernel
theorem dX10_all_77 : decode cX10_all 77 = .ok (.ireturn, 1) := by decide +kernel
theorem dX10_eastOf_0 : decode cX10_eastOf 0 = .ok (.iload_n 0, 1) := by decide +kernel
theorem dX10_eastOf_1 : decode cX10_eastOf 1 = .ok (.iconst 1, 1) := by decide +kernel
theorem dX10_eastOf_2 : decode cX10_eastOf 2 = .ok (.if_icmp .eq 13, 3) := by decide +kernel
theorem dX10_eastOf_5 : decode cX10_eastOf 5 = .ok (.iload_n 0, 1) := by decide +kernel
theorem dX10_eastOf_6 : decode cX10_eastOf 6 = .ok (.iconst 2, 1) := by decide +kernel
theorem dX10_eastOf_7 : decode cX10_eastOf 7 = .ok (.if_icmp .eq 8, 3) := by decide +kernel
theorem dX10_eastOf_10 : decode cX10_eastOf 10 = .ok (.iload_n 0, 1) := by decide +kernel
theorem dX10_eastOf_11 : decode cX10_eastOf 11 = .ok (.iconst 3, 1) := by decide +kernel
theorem dX10_eastOf_12 : decode cX10_eastOf 12 = .ok (.if_icmp .ne 7, 3) := by decide +kernel
theorem dX10_eastOf_15 : decode cX10_eastOf 15 = .ok (.iconst 1, 1) := by decide +kernel
theorem dX10_eastOf_16 : decode cX10_eastOf 16 = .ok (.goto 25, 3) := by decide +kernel
theorem dX10_eastOf_19 : decode cX10_eastOf 19 = .ok (.iload_n 0, 1) := by decide +kernel
theorem dX10_eastOf_20 : decode cX10_eastOf 20 = .ok (.iconst 5, 1) := by decide +kernel
theorem dX10_eastOf_21 : decode cX10_eastOf 21 = .ok (.if_icmp .eq 15, 3) := by decide +kernel
theorem dX10_eastOf_24 : decode cX10_eastOf 24 = .ok (.iload_n 0, 1) := by decide +kernel
theorem dX10_eastOf_25 : decode cX10_eastOf 25 = .ok (.bipush 6, 2) := by decide +kernel
theorem dX10_eastOf_27 : decode cX10_eastOf 27 = .ok (.if_icmp .eq 9, 3) := by decide +kernel
theorem dX10_eastOf_30 : decode cX10_eastOf 30 = .ok (.iload_n 0, 1) := by decide +kernel
theorem dX10_eastOf_31 : decode cX10_eastOf 31 = .ok (.bipush 7, 2) := by decide +kernel
theorem dX10_eastOf_33 : decode cX10_eastOf 33 = .ok (.if_icmp .ne 7, 3) := by decide +kernel
theorem dX10_eastOf_36 : decode cX10_eastOf 36 = .ok (.iconst (-1), 1) := by decide +kernel
theorem dX10_eastOf_37 : decode cX10_eastOf 37 = .ok (.goto 4, 3) := by decide +kernel
theorem dX10_eastOf_40 : decode cX10_eastOf 40 = .ok (.iconst 0, 1) := by decide +kernel
theorem dX10_eastOf_41 : decode cX10_eastOf 41 = .ok (.ireturn, 1) := by decide +kernel
theorem dX10_southOf_0 : decode cX10_southOf 0 = .ok (.iload_n 0, 1) := by decide +kernel
theorem dX10_southOf_1 : decode cX10_southOf 1 = .ok (.iconst 2, 1) := by decide +kernel
theorem dX10_southOf_2 : decode cX10_southOf 2 = .ok (.if_icmp .le 13, 3) := by decide +kernel
theorem dX10_southOf_5 : decode cX10_southOf 5 = .ok (.iload_n 0, 1) := by decide +kernel
theorem dX10_southOf_6 : decode cX10_southOf 6 = .ok (.bipush 6, 2) := by decide +kernel
theorem dX10_southOf_8 : decode cX10_southOf 8 = .ok (.if_icmp .ge 7, 3) := by decide +kernel
theorem dX10_southOf_11 : decode cX10_southOf 11 = .ok (.iconst 1, 1) := by decide +kernel
theorem dX10_southOf_12 : decode cX10_southOf 12 = .ok (.goto 19, 3) := by decide +kernel
theorem dX10_southOf_15 : decode cX10_southOf 15 = .ok (.iload_n 0, 1) := by decide +kernel
theorem dX10_southOf_16 : decode cX10_southOf 16 = .ok (.bipush 7, 2) := by decide +kernel
theorem dX10_southOf_18 : decode cX10_southOf 18 = .ok (.if_icmp .eq 8, 3) := by decide +kernel
theorem dX10_southOf_21 : decode cX10_southOf 21 = .ok (.iload_n 0, 1) := by decide +kernel
theorem dX10_southOf_22 : decode cX10_southOf 22 = .ok (.iconst 2, 1) := by decide +kernel
theorem dX10_southOf_23 : decode cX10_southOf 23 = .ok (.if_icmp .ge 7, 3) := by decide +kernel
theorem dX10_southOf_26 : decode cX10_southOf 26 = .ok (.iconst (-1), 1) := by decide +kernel
theorem dX10_southOf_27 : decode cX10_southOf 27 = .ok (.goto 4, 3) := by decide +kernel
theorem dX10_southOf_30 : decode cX10_southOf 30 = .ok (.iconst 0, 1) := by decide +kernel
theorem dX10_southOf_31 : decode cX10_southOf 31 = .ok (.ireturn, 1) := by decide +kernel
theorem dX10_faces_0 : decode cX10_faces 0 = .ok (.aload_n 0, 1) := by decide +kernel
theorem dX10_faces_1 : decode cX10_faces 1 = .ok (.getfield 7, 3) := by decide +kernel
theorem dX10_faces_4 : decode cX10_faces 4 = .ok (.bipush 11, 2) := by decide +kernel
theorem dX10_faces_6 : decode cX10_faces 6 = .ok (.iload_n 1, 1) := by decide +kernel
theorem dX10_faces_7 : decode cX10_faces 7 = .ok (.imul, 1) := by decide +kernel
theorem dX10_faces_8 : decode cX10_faces 8 = .ok (.bipush 8, 2) := by decide +kernel
theorem dX10_faces_10 : decode cX10_faces 10 = .ok (.iadd, 1) := by decide +kernel
theorem dX10_faces_11 : decode cX10_faces 11 = .ok (.iaload, 1) := by decide +kernel
theorem dX10_faces_12 : decode cX10_faces 12 = .ok (.bipush 8, 2) := by decide +kernel
theorem dX10_faces_14 : decode cX10_faces 14 = .ok (.if_icmp .ge 16, 3) := by decide +kernel
theorem dX10_faces_17 : decode cX10_faces 17 = .ok (.aload_n 0, 1) := by decide +kernel
theorem dX10_faces_18 : decode cX10_faces 18 = .ok (.iload_n 1, 1) := by decide +kernel
theorem dX10_faces_19 : decode cX10_faces 19 = .ok (.iload_n 2, 1) := by decide +kernel
theorem dX10_faces_20 : decode cX10_faces 20 = .ok (.invokevirtual 53, 3) := by decide +kernel
theorem dX10_faces_23 : decode cX10_faces 23 = .ok (.ifCond .eq 7, 3) := by decide +kernel
theorem dX10_faces_26 : decode cX10_faces 26 = .ok (.iconst 1, 1) := by decide +kernel
theorem dX10_faces_27 : decode cX10_faces 27 = .ok (.goto 4, 3) := by decide +kernel
theorem dX10_faces_30 : decode cX10_faces 30 = .ok (.iconst 0, 1) := by decide +kernel
theorem dX10_faces_31 : decode cX10_faces 31 = .ok (.ireturn, 1) := by decide +kernel
theorem dX10_isOn_0 : decode cX10_isOn 0 = .ok (.iload_n 3, 1) := by decide +kernel
theorem dX10_isOn_1 : decode cX10_isOn 1 = .ok (.bipush 12, 2) := by decide +kernel
theorem dX10_isOn_3 : decode cX10_isOn 3 = .ok (.irem, 1) := by decide +kernel
theorem dX10_isOn_4 : decode cX10_isOn 4 = .ok (.aload_n 0, 1) := by decide +kernel
theorem dX10_isOn_5 : decode cX10_isOn 5 = .ok (.getfield 7, 3) := by decide +kernel
theorem dX10_isOn_8 : decode cX10_isOn 8 = .ok (.bipush 11, 2) := by decide +kernel
theorem dX10_isOn_10 : decode cX10_isOn 10 = .ok (.iload_n 1, 1) := by decide +kernel
theorem dX10_isOn_11 : decode cX10_isOn 11 = .ok (.imul, 1) := by decide +kernel
theorem dX10_isOn_12 : decode cX10_isOn 12 = .ok (.iaload, 1) := by decide +kernel
theorem dX10_isOn_13 : decode cX10_isOn 13 = .ok (.isub, 1) := by decide +kernel
theorem dX10_isOn_14 : decode cX10_isOn 14 = .ok (.istore 4, 2) := by decide +kernel
theorem dX10_isOn_16 : decode cX10_isOn 16 = .ok (.iload_n 3, 1) := by decide +kernel
theorem dX10_isOn_17 : decode cX10_isOn 17 = .ok (.bipush 12, 2) := by decide +kernel
theorem dX10_isOn_19 : decode cX10_isOn 19 = .ok (.idiv, 1) := by decide +kernel
theorem dX10_isOn_20 : decode cX10_isOn 20 = .ok (.aload_n 0, 1) := by decide +kernel
theorem dX10_isOn_21 : decode cX10_isOn 21 = .ok (.getfield 7, 3) := by decide +kernel
theorem dX10_isOn_24 : decode cX10_isOn 24 = .ok (.bipush 11, 2) := by decide +kernel
theorem dX10_isOn_26 : decode cX10_isOn 26 = .ok (.iload_n 1, 1) := by decide +kernel
theorem dX10_isOn_27 : decode cX10_isOn 27 = .ok (.imul, 1) := by decide +kernel
theorem dX10_isOn_28 : decode cX10_isOn 28 = .ok (.iconst 1, 1) := by decide +kernel
theorem dX10_isOn_29 : decode cX10_isOn 29 = .ok (.iadd, 1) := by decide +kernel
theorem dX10_isOn_30 : decode cX10_isOn 30 = .ok (.iaload, 1) := by decide +kernel
theorem dX10_isOn_31 : decode cX10_isOn 31 = .ok (.isub, 1) := by decide +kernel
theorem dX10_isOn_32 : decode cX10_isOn 32 = .ok (.istore 5, 2) := by decide +kernel
theorem dX10_isOn_34 : decode cX10_isOn 34 = .ok (.iload 4, 2) := by decide +kernel
theorem dX10_isOn_36 : decode cX10_isOn 36 = .ok (.ifCond .ge 9, 3) := by decide +kernel
theorem dX10_isOn_39 : decode cX10_isOn 39 = .ok (.iload 4, 2) := by decide +kernel
theorem dX10_isOn_41 : decode cX10_isOn 41 = .ok (.ineg, 1) := by decide +kernel
theorem dX10_isOn_42 : decode cX10_isOn 42 = .ok (.goto 5, 3) := by decide +kernel
theorem dX10_isOn_45 : decode cX10_isOn 45 = .ok (.iload 4, 2) := by decide +kernel
theorem dX10_isOn_47 : decode cX10_isOn 47 = .ok (.istore 6, 2) := by decide +kernel
theorem dX10_isOn_49 : decode cX10_isOn 49 = .ok (.iload 5, 2) := by decide +kernel
theorem dX10_isOn_51 : decode cX10_isOn 51 = .ok (.iload 6, 2) := by decide +kernel
theorem dX10_isOn_53 : decode cX10_isOn 53 = .ok (.if_icmp .le 8, 3) := by decide +kernel
theorem dX10_isOn_56 : decode cX10_isOn 56 = .ok (.iload 5, 2) := by decide +kernel
theorem dX10_isOn_58 : decode cX10_isOn 58 = .ok (.goto 19, 3) := by decide +kernel
theorem dX10_isOn_61 : decode cX10_isOn 61 = .ok (.iload 5, 2) := by decide +kernel
theorem dX10_isOn_63 : decode cX10_isOn 63 = .ok (.ineg, 1) := by decide +kernel
theorem dX10_isOn_64 : decode cX10_isOn 64 = .ok (.iload 6, 2) := by decide +kernel
theorem dX10_isOn_66 : decode cX10_isOn 66 = .ok (.if_icmp .le 9, 3) := by decide +kernel
theorem dX10_isOn_69 : decode cX10_isOn 69 = .ok (.iload 5, 2) := by decide +kernel
theorem dX10_isOn_71 : decode cX10_isOn 71 = .ok (.ineg, 1) := by decide +kernel
theorem dX10_isOn_72 : decode cX10_isOn 72 = .ok (.goto 5, 3) := by decide +kernel
theorem dX10_isOn_75 : decode cX10_isOn 75 = .ok (.iload 6, 2) := by decide +kernel
theorem dX10_isOn_77 : decode cX10_isOn 77 = .ok (.istore 6, 2) := by decide +kernel
theorem dX10_isOn_79 : decode cX10_isOn 79 = .ok (.aload_n 0, 1) := by decide +kernel
theorem dX10_isOn_80 : decode cX10_isOn 80 = .ok (.iload_n 1, 1) := by decide +kernel
theorem dX10_isOn_81 : decode cX10_isOn 81 = .ok (.iload_n 3, 1) := by decide +kernel
theorem dX10_isOn_82 : decode cX10_isOn 82 = .ok (.bipush 12, 2) := by decide +kernel
theorem dX10_isOn_84 : decode cX10_isOn 84 = .ok (.irem, 1) := by decide +kernel
theorem dX10_isOn_85 : decode cX10_isOn 85 = .ok (.iload_n 3, 1) := by decide +kernel
theorem dX10_isOn_86 : decode cX10_isOn 86 = .ok (.bipush 12, 2) := by decide +kernel
theorem dX10_isOn_88 : decode cX10_isOn 88 = .ok (.idiv, 1) := by decide +kernel
theorem dX10_isOn_89 : decode cX10_isOn 89 = .ok (.invokevirtual 57, 3) := by decide +kernel
theorem dX10_isOn_92 : decode cX10_isOn 92 = .ok (.ifCond .ne 31, 3) := by decide +kernel
theorem dX10_isOn_95 : decode cX10_isOn 95 = .ok (.iload 4, 2) := by decide +kernel
theorem dX10_isOn_97 : decode cX10_isOn 97 = .ok (.iload 6, 2) := by decide +kernel
theorem dX10_isOn_99 : decode cX10_isOn 99 = .ok (.iload_n 2, 1) := by decide +kernel
theorem dX10_isOn_100 : decode cX10_isOn 100 = .ok (.invokestatic 112, 3) := by decide +kernel
theorem dX10_isOn_103 : decode cX10_isOn 103 = .ok (.imul, 1) := by decide +kernel
theorem dX10_isOn_104 : decode cX10_isOn 104 = .ok (.if_icmp .ne 19, 3) := by decide +kernel
theorem dX10_isOn_107 : decode cX10_isOn 107 = .ok (.iload 5, 2) := by decide +kernel
theorem dX10_isOn_109 : decode cX10_isOn 109 = .ok (.iload 6, 2) := by decide +kernel
theorem dX10_isOn_111 : decode cX10_isOn 111 = .ok (.iload_n 2, 1) := by decide +kernel
theorem dX10_isOn_112 : decode cX10_isOn 112 = .ok (.invokestatic 116, 3) := by decide +kernel
theorem dX10_isOn_115 : decode cX10_isOn 115 = .ok (.imul, 1) := by decide +kernel
theorem dX10_isOn_116 : decode cX10_isOn 116 = .ok (.if_icmp .ne 7, 3) := by decide +kernel
theorem dX10_isOn_119 : decode cX10_isOn 119 = .ok (.iconst 1, 1) := by decide +kernel
theorem dX10_isOn_120 : decode cX10_isOn 120 = .ok (.goto 4, 3) := by decide +kernel
theorem dX10_isOn_123 : decode cX10_isOn 123 = .ok (.iconst 0, 1) := by decide +kernel
theorem dX10_isOn_124 : decode cX10_isOn 124 = .ok (.ireturn, 1) := by decide +kernel
theorem dX10_meetOf_0 : decode cX10_meetOf 0 = .ok (.bipush (-6), 2) := by decide +kernel
theorem dX10_meetOf_2 : decode cX10_meetOf 2 = .ok (.istore_n 2, 1) := by decide +kernel
theorem dX10_meetOf_3 : decode cX10_meetOf 3 = .ok (.aload_n 0, 1) := by decide +kernel
theorem dX10_meetOf_4 : decode cX10_meetOf 4 = .ok (.iconst 0, 1) := by decide +kernel
theorem dX10_meetOf_5 : decode cX10_meetOf 5 = .ok (.putfield 119, 3) := by decide +kernel
theorem dX10_meetOf_8 : decode cX10_meetOf 8 = .ok (.iconst 0, 1) := by decide +kernel
theorem dX10_meetOf_9 : decode cX10_meetOf 9 = .ok (.istore_n 3, 1) := by decide +kernel
theorem dX10_meetOf_10 : decode cX10_meetOf 10 = .ok (.iload_n 3, 1) := by decide +kernel
theorem dX10_meetOf_11 : decode cX10_meetOf 11 = .ok (.bipush 96, 2) := by decide +kernel
theorem dX10_meetOf_13 : decode cX10_meetOf 13 = .ok (.if_icmp .ge 110, 3) := by decide +kernel
theorem dX10_meetOf_16 : decode cX10_meetOf 16 = .ok (.iconst 0, 1) := by decide +kernel
theorem dX10_meetOf_17 : decode cX10_meetOf 17 = .ok (.istore 4, 2) := by decide +kernel
theorem dX10_meetOf_19 : decode cX10_meetOf 19 = .ok (.iconst 0, 1) := by decide +kernel
theorem dX10_meetOf_20 : decode cX10_meetOf 20 = .ok (.istore 5, 2) := by decide +kernel
theorem dX10_meetOf_22 : decode cX10_meetOf 22 = .ok (.iload 5, 2) := by decide +kernel
theorem dX10_meetOf_24 : decode cX10_meetOf 24 = .ok (.aload_n 0, 1) := by decide +kernel
theorem dX10_meetOf_25 : decode cX10_meetOf 25 = .ok (.getfield 39, 3) := by decide +kernel
theorem dX10_meetOf_28 : decode cX10_meetOf 28 = .ok (.if_icmp .ge 52, 3) := by decide +kernel
theorem dX10_meetOf_31 : decode cX10_meetOf 31 = .ok (.iload 4, 2) := by decide +kernel
theorem dX10_meetOf_33 : decode cX10_meetOf 33 = .ok (.aload_n 0, 1) := by decide +kernel
theorem dX10_meetOf_34 : decode cX10_meetOf 34 = .ok (.iload 5, 2) := by decide +kernel
theorem dX10_meetOf_36 : decode cX10_meetOf 36 = .ok (.iload_n 1, 1) := by decide +kernel
theorem dX10_meetOf_37 : decode cX10_meetOf 37 = .ok (.invokevirtual 122, 3) := by decide +kernel
theorem dX10_meetOf_40 : decode cX10_meetOf 40 = .ok (.ifCond .eq 30, 3) := by decide +kernel
theorem dX10_meetOf_43 : decode cX10_meetOf 43 = .ok (.aload_n 0, 1) := by decide +kernel
theorem dX10_meetOf_44 : decode cX10_meetOf 44 = .ok (.iload 5, 2) := by decide +kernel
theorem dX10_meetOf_46 : decode cX10_meetOf 46 = .ok (.aload_n 0, 1) := by decide +kernel
theorem dX10_meetOf_47 : decode cX10_meetOf 47 = .ok (.getfield 7, 3) := by decide +kernel
theorem dX10_meetOf_50 : decode cX10_meetOf 50 = .ok (.bipush 11, 2) := by decide +kernel
theorem dX10_meetOf_52 : decode cX10_meetOf 52 = .ok (.iload 5, 2) := by decide +kernel
theorem dX10_meetOf_54 : decode cX10_meetOf 54 = .ok (.imul, 1) := by decide +kernel
theorem dX10_meetOf_55 : decode cX10_meetOf 55 = .ok (.bipush 8, 2) := by decide +kernel
theorem dX10_meetOf_57 : decode cX10_meetOf 57 = .ok (.iadd, 1) := by decide +kernel
theorem dX10_meetOf_58 : decode cX10_meetOf 58 = .ok (.iaload, 1) := by decide +kernel
theorem dX10_meetOf_59 : decode cX10_meetOf 59 = .ok (.iload_n 3, 1) := by decide +kernel
theorem dX10_meetOf_60 : decode cX10_meetOf 60 = .ok (.invokevirtual 125, 3) := by decide +kernel
theorem dX10_meetOf_63 : decode cX10_meetOf 63 = .ok (.ifCond .eq 7, 3) := by decide +kernel
theorem dX10_meetOf_66 : decode cX10_meetOf 66 = .ok (.iconst 1, 1) := by decide +kernel
theorem dX10_meetOf_67 : decode cX10_meetOf 67 = .ok (.goto 4, 3) := by decide +kernel
theorem dX10_meetOf_70 : decode cX10_meetOf 70 = .ok (.iconst 0, 1) := by decide +kernel
theorem dX10_meetOf_71 : decode cX10_meetOf 71 = .ok (.iadd, 1) := by decide +kernel
theorem dX10_meetOf_72 : decode cX10_meetOf 72 = .ok (.istore 4, 2) := by decide +kernel
theorem dX10_meetOf_74 : decode cX10_meetOf 74 = .ok (.iinc 5 1, 3) := by decide +kernel
theorem dX10_meetOf_77 : decode cX10_meetOf 77 = .ok (.goto (-55), 3) := by decide +kernel
theorem dX10_meetOf_80 : decode cX10_meetOf 80 = .ok (.iload 4, 2) := by decide +kernel
theorem dX10_meetOf_82 : decode cX10_meetOf 82 = .ok (.aload_n 0, 1) := by decide +kernel
theorem dX10_meetOf_83 : decode cX10_meetOf 83 = .ok (.getfield 119, 3) := by decide +kernel
theorem dX10_meetOf_86 : decode cX10_meetOf 86 = .ok (.if_icmp .le 7, 3) := by decide +kernel
theorem dX10_meetOf_89 : decode cX10_meetOf 89 = .ok (.iload_n 3, 1) := by decide +kernel
theorem dX10_meetOf_90 : decode cX10_meetOf 90 = .ok (.goto 4, 3) := by decide +kernel
theorem dX10_meetOf_93 : decode cX10_meetOf 93 = .ok (.iload_n 2, 1) := by decide +kernel
theorem dX10_meetOf_94 : decode cX10_meetOf 94 = .ok (.istore_n 2, 1) := by decide +kernel
theorem dX10_meetOf_95 : decode cX10_meetOf 95 = .ok (.aload_n 0, 1) := by decide +kernel
theorem dX10_meetOf_96 : decode cX10_meetOf 96 = .ok (.iload 4, 2) := by decide +kernel
theorem dX10_meetOf_98 : decode cX10_meetOf 98 = .ok (.aload_n 0, 1) := by decide +kernel
theorem dX10_meetOf_99 : decode cX10_meetOf 99 = .ok (.getfield 119, 3) := by decide +kernel
theorem dX10_meetOf_102 : decode cX10_meetOf 102 = .ok (.if_icmp .le 8, 3) := by decide +kernel
theorem dX10_meetOf_105 : decode cX10_meetOf 105 = .ok (.iload 4, 2) := by decide +kernel
theorem dX10_meetOf_107 : decode cX10_meetOf 107 = .ok (.goto 7, 3) := by decide +kernel
theorem dX10_meetOf_110 : decode cX10_meetOf 110 = .ok (.aload_n 0, 1) := by decide +kernel
theorem dX10_meetOf_111 : decode cX10_meetOf 111 = .ok (.getfield 119, 3) := by decide +kernel
theorem dX10_meetOf_114 : decode cX10_meetOf 114 = .ok (.putfield 119, 3) := by decide +kernel
theorem dX10_meetOf_117 : decode cX10_meetOf 117 = .ok (.iinc 3 1, 3) := by decide +kernel
theorem dX10_meetOf_120 : decode cX10_meetOf 120 = .ok (.goto (-110), 3) := by decide +kernel
theorem dX10_meetOf_123 : decode cX10_meetOf 123 = .ok (.iload_n 2, 1) := by decide +kernel
theorem dX10_meetOf_124 : decode cX10_meetOf 124 = .ok (.ireturn, 1) := by decide +kernel
theorem dX10_meet_0 : decode cX10_meet 0 = .ok (.iload_n 1, 1) := by decide +kernel
theorem dX10_meet_1 : decode cX10_meet 1 = .ok (.invokestatic 46, 3) := by decide +kernel
theorem dX10_meet_4 : decode cX10_meet 4 = .ok (.ifCond .eq 10, 3) := by decide +kernel
theorem dX10_meet_7 : decode cX10_meet 7 = .ok (.iload_n 2, 1) := by decide +kernel
theorem dX10_meet_8 : decode cX10_meet 8 = .ok (.invokestatic 77, 3) := by decide +kernel
theorem dX10_meet_11 : decode cX10_meet 11 = .ok (.ifCond .ne 6, 3) := by decide +kernel
theorem dX10_meet_14 : decode cX10_meet 14 = .ok (.bipush (-2), 2) := by decide +kernel
theorem dX10_meet_16 : decode cX10_meet 16 = .ok (.ireturn, 1) := by decide +kernel
theorem dX10_meet_17 : decode cX10_meet 17 = .ok (.aload_n 0, 1) := by decide +kernel
theorem dX10_meet_18 : decode cX10_meet 18 = .ok (.iload_n 1, 1) := by decide +kernel
theorem dX10_meet_19 : decode cX10_meet 19 = .ok (.invokevirtual 128, 3) := by decide +kernel
theorem dX10_meet_22 : decode cX10_meet 22 = .ok (.istore_n 3, 1) := by decide +kernel
theorem dX10_meet_23 : decode cX10_meet 23 = .ok (.iload_n 2, 1) := by decide +kernel
theorem dX10_meet_24 : decode cX10_meet 24 = .ok (.ifCond .ne 7, 3) := by decide +kernel
theorem dX10_meet_27 : decode cX10_meet 27 = .ok (.iload_n 3, 1) := by decide +kernel
theorem dX10_meet_28 : decode cX10_meet 28 = .ok (.goto 7, 3) := by decide +kernel
theorem dX10_meet_31 : decode cX10_meet 31 = .ok (.aload_n 0, 1) := by decide +kernel
theorem dX10_meet_32 : decode cX10_meet 32 = .ok (.getfield 119, 3) := by decide +kernel
theorem dX10_meet_35 : decode cX10_meet 35 = .ok (.ireturn, 1) := by decide +kernel
theorem dX10_term_0 : decode cX10_term 0 = .ok (.lload_n 0, 1) := by decide +kernel
theorem dX10_term_1 : decode cX10_term 1 = .ok (.lstore 5, 2) := by decide +kernel
theorem dX10_term_3 : decode cX10_term 3 = .ok (.lload_n 2, 1) := by decide +kernel
theorem dX10_term_4 : decode cX10_term 4 = .ok (.lstore 7, 2) := by decide +kernel
theorem dX10_term_6 : decode cX10_term 6 = .ok (.lload 7, 2) := by decide +kernel
theorem dX10_term_8 : decode cX10_term 8 = .ok (.lconst 0, 1) := by decide +kernel
theorem dX10_term_9 : decode cX10_term 9 = .ok (.lcmp, 1) := by decide +kernel
theorem dX10_term_10 : decode cX10_term 10 = .ok (.ifCond .eq 21, 3) := by decide +kernel
theorem dX10_term_13 : decode cX10_term 13 = .ok (.lload 5, 2) := by decide +kernel
theorem dX10_term_15 : decode cX10_term 15 = .ok (.lload 7, 2) := by decide +kernel
theorem dX10_term_17 : decode cX10_term 17 = .ok (.lrem, 1) := by decide +kernel
theorem dX10_term_18 : decode cX10_term 18 = .ok (.lstore 9, 2) := by decide +kernel
theorem dX10_term_20 : decode cX10_term 20 = .ok (.lload 7, 2) := by decide +kernel
theorem dX10_term_22 : decode cX10_term 22 = .ok (.lstore 5, 2) := by decide +kernel
theorem dX10_term_24 : decode cX10_term 24 = .ok (.lload 9, 2) := by decide +kernel
theorem dX10_term_26 : decode cX10_term 26 = .ok (.lstore 7, 2) := by decide +kernel
theorem dX10_term_28 : decode cX10_term 28 = .ok (.goto (-22), 3) := by decide +kernel
theorem dX10_term_31 : decode cX10_term 31 = .ok (.iload 4, 2) := by decide +kernel
theorem dX10_term_33 : decode cX10_term 33 = .ok (.ifCond .ne 10, 3) := by decide +kernel
theorem dX10_term_36 : decode cX10_term 36 = .ok (.lload_n 0, 1) := by decide +kernel
theorem dX10_term_37 : decode cX10_term 37 = .ok (.lload 5, 2) := by decide +kernel
theorem dX10_term_39 : decode cX10_term 39 = .ok (.ldiv, 1) := by decide +kernel
theorem dX10_term_40 : decode cX10_term 40 = .ok (.goto 7, 3) := by decide +kernel
theorem dX10_term_43 : decode cX10_term 43 = .ok (.lload_n 2, 1) := by decide +kernel
theorem dX10_term_44 : decode cX10_term 44 = .ok (.lload 5, 2) := by decide +kernel
theorem dX10_term_46 : decode cX10_term 46 = .ok (.ldiv, 1) := by decide +kernel
theorem dX10_term_47 : decode cX10_term 47 = .ok (.lreturn, 1) := by decide +kernel
theorem dX10_chance_0 : decode cX10_chance 0 = .ok (.iload_n 1, 1) := by decide +kernel
theorem dX10_chance_1 : decode cX10_chance 1 = .ok (.invokestatic 46, 3) := by decide +kernel
theorem dX10_chance_4 : decode cX10_chance 4 = .ok (.ifCond .eq 10, 3) := by decide +kernel
theorem dX10_chance_7 : decode cX10_chance 7 = .ok (.iload_n 2, 1) := by decide +kernel
theorem dX10_chance_8 : decode cX10_chance 8 = .ok (.invokestatic 77, 3) := by decide +kernel
theorem dX10_chance_11 : decode cX10_chance 11 = .ok (.ifCond .ne 7, 3) := by decide +kernel
theorem dX10_chance_14 : decode cX10_chance 14 = .ok (.ldc2_w 131, 3) := by decide +kernel
theorem dX10_chance_17 : decode cX10_chance 17 = .ok (.lreturn, 1) := by decide +kernel
theorem dX10_chance_18 : decode cX10_chance 18 = .ok (.aload_n 0, 1) := by decide +kernel
theorem dX10_chance_19 : decode cX10_chance 19 = .ok (.iload_n 1, 1) := by decide +kernel
theorem dX10_chance_20 : decode cX10_chance 20 = .ok (.invokevirtual 128, 3) := by decide +kernel
theorem dX10_chance_23 : decode cX10_chance 23 = .ok (.istore_n 3, 1) := by decide +kernel
theorem dX10_chance_24 : decode cX10_chance 24 = .ok (.iload_n 3, 1) := by decide +kernel
theorem dX10_chance_25 : decode cX10_chance 25 = .ok (.ifCond .ge 7, 3) := by decide +kernel
theorem dX10_chance_28 : decode cX10_chance 28 = .ok (.ldc2_w 133, 3) := by decide +kernel
theorem dX10_chance_31 : decode cX10_chance 31 = .ok (.lreturn, 1) := by decide +kernel
theorem dX10_chance_32 : decode cX10_chance 32 = .ok (.lconst 1, 1) := by decide +kernel
theorem dX10_chance_33 : decode cX10_chance 33 = .ok (.lstore 4, 2) := by decide +kernel
theorem dX10_chance_35 : decode cX10_chance 35 = .ok (.lconst 1, 1) := by decide +kernel
theorem dX10_chance_36 : decode cX10_chance 36 = .ok (.lstore 6, 2) := by decide +kernel
theorem dX10_chance_38 : decode cX10_chance 38 = .ok (.iconst 0, 1) := by decide +kernel
theorem dX10_chance_39 : decode cX10_chance 39 = .ok (.istore 8, 2) := by decide +kernel
theorem dX10_chance_41 : decode cX10_chance 41 = .ok (.iload 8, 2) := by decide +kernel
theorem dX10_chance_43 : decode cX10_chance 43 = .ok (.aload_n 0, 1) := by decide +kernel
theorem dX10_chance_44 : decode cX10_chance 44 = .ok (.getfield 39, 3) := by decide +kernel
theorem dX10_chance_47 : decode cX10_chance 47 = .ok (.if_icmp .ge 75, 3) := by decide +kernel
theorem dX10_chance_50 : decode cX10_chance 50 = .ok (.aload_n 0, 1) := by decide +kernel
theorem dX10_chance_51 : decode cX10_chance 51 = .ok (.iload 8, 2) := by decide +kernel
theorem dX10_chance_53 : decode cX10_chance 53 = .ok (.iload_n 1, 1) := by decide +kernel
theorem dX10_chance_54 : decode cX10_chance 54 = .ok (.invokevirtual 122, 3) := by decide +kernel
theorem dX10_chance_57 : decode cX10_chance 57 = .ok (.ifCond .eq 59, 3) := by decide +kernel
theorem dX10_chance_60 : decode cX10_chance 60 = .ok (.lconst 0, 1) := by decide +kernel
theorem dX10_chance_61 : decode cX10_chance 61 = .ok (.lstore 9, 2) := by decide +kernel
theorem dX10_chance_63 : decode cX10_chance 63 = .ok (.iconst 0, 1) := by decide +kernel
theorem dX10_chance_64 : decode cX10_chance 64 = .ok (.istore 11, 2) := by decide +kernel
theorem dX10_chance_66 : decode cX10_chance 66 = .ok (.iload 11, 2) := by decide +kernel
theorem dX10_chance_68 : decode cX10_chance 68 = .ok (.bipush 8, 2) := by decide +kernel
theorem dX10_chance_70 : decode cX10_chance 70 = .ok (.if_icmp .ge 31, 3) := by decide +kernel
theorem dX10_chance_73 : decode cX10_chance 73 = .ok (.lload 9, 2) := by decide +kernel
theorem dX10_chance_75 : decode cX10_chance 75 = .ok (.aload_n 0, 1) := by decide +kernel
theorem dX10_chance_76 : decode cX10_chance 76 = .ok (.iload 8, 2) := by decide +kernel
theorem dX10_chance_78 : decode cX10_chance 78 = .ok (.iload 11, 2) := by decide +kernel
theorem dX10_chance_80 : decode cX10_chance 80 = .ok (.iload_n 3, 1) := by decide +kernel
theorem dX10_chance_81 : decode cX10_chance 81 = .ok (.invokevirtual 125, 3) := by decide +kernel
theorem dX10_chance_84 : decode cX10_chance 84 = .ok (.ifCond .eq 7, 3) := by decide +kernel
theorem dX10_chance_87 : decode cX10_chance 87 = .ok (.lconst 1, 1) := by decide +kernel
theorem dX10_chance_88 : decode cX10_chance 88 = .ok (.goto 4, 3) := by decide +kernel
theorem dX10_chance_91 : decode cX10_chance 91 = .ok (.lconst 0, 1) := by decide +kernel
theorem dX10_chance_92 : decode cX10_chance 92 = .ok (.ladd, 1) := by decide +kernel
theorem dX10_chance_93 : decode cX10_chance 93 = .ok (.lstore 9, 2) := by decide +kernel
theorem dX10_chance_95 : decode cX10_chance 95 = .ok (.iinc 11 1, 3) := by decide +kernel
theorem dX10_chance_98 : decode cX10_chance 98 = .ok (.goto (-32), 3) := by decide +kernel
theorem dX10_chance_101 : decode cX10_chance 101 = .ok (.lload 4, 2) := by decide +kernel
theorem dX10_chance_103 : decode cX10_chance 103 = .ok (.lload 9, 2) := by decide +kernel
theorem dX10_chance_105 : decode cX10_chance 105 = .ok (.lmul, 1) := by decide +kernel
theorem dX10_chance_106 : decode cX10_chance 106 = .ok (.lstore 4, 2) := by decide +kernel
theorem dX10_chance_108 : decode cX10_chance 108 = .ok (.lload 6, 2) := by decide +kernel
theorem dX10_chance_110 : decode cX10_chance 110 = .ok (.ldc2_w 135, 3) := by decide +kernel
theorem dX10_chance_113 : decode cX10_chance 113 = .ok (.lmul, 1) := by decide +kernel
theorem dX10_chance_114 : decode cX10_chance 114 = .ok (.lstore 6, 2) := by decide +kernel
theorem dX10_chance_116 : decode cX10_chance 116 = .ok (.iinc 8 1, 3) := by decide +kernel
theorem dX10_chance_119 : decode cX10_chance 119 = .ok (.goto (-78), 3) := by decide +kernel
theorem dX10_chance_122 : decode cX10_chance 122 = .ok (.lload 4, 2) := by decide +kernel
theorem dX10_chance_124 : decode cX10_chance 124 = .ok (.lload 6, 2) := by decide +kernel
theorem dX10_chance_126 : decode cX10_chance 126 = .ok (.iload_n 2, 1) := by decide +kernel
theorem dX10_chance_127 : decode cX10_chance 127 = .ok (.invokestatic 137, 3) := by decide +kernel
theorem dX10_chance_130 : decode cX10_chance 130 = .ok (.lreturn, 1) := by decide +kernel
theorem dX10_did_0 : decode cX10_did 0 = .ok (.aload_n 0, 1) := by decide +kernel
theorem dX10_did_1 : decode cX10_did 1 = .ok (.iload_n 1, 1) := by decide +kernel
theorem dX10_did_2 : decode cX10_did 2 = .ok (.invokevirtual 50, 3) := by decide +kernel
theorem dX10_did_5 : decode cX10_did 5 = .ok (.ifCond .ne 5, 3) := by decide +kernel
theorem dX10_did_8 : decode cX10_did 8 = .ok (.iconst (-1), 1) := by decide +kernel
theorem dX10_did_9 : decode cX10_did 9 = .ok (.ireturn, 1) := by decide +kernel
theorem dX10_did_10 : decode cX10_did 10 = .ok (.iload_n 2, 1) := by decide +kernel
theorem dX10_did_11 : decode cX10_did 11 = .ok (.invokestatic 46, 3) := by decide +kernel
theorem dX10_did_14 : decode cX10_did 14 = .ok (.ifCond .ne 6, 3) := by decide +kernel
theorem dX10_did_17 : decode cX10_did 17 = .ok (.bipush (-2), 2) := by decide +kernel
theorem dX10_did_19 : decode cX10_did 19 = .ok (.ireturn, 1) := by decide +kernel
theorem dX10_did_20 : decode cX10_did 20 = .ok (.aload_n 0, 1) := by decide +kernel
theorem dX10_did_21 : decode cX10_did 21 = .ok (.getfield 13, 3) := by decide +kernel
theorem dX10_did_24 : decode cX10_did 24 = .ok (.bipush 100, 2) := by decide +kernel
theorem dX10_did_26 : decode cX10_did 26 = .ok (.iload_n 1, 1) := by decide +kernel
theorem dX10_did_27 : decode cX10_did 27 = .ok (.imul, 1) := by decide +kernel
theorem dX10_did_28 : decode cX10_did 28 = .ok (.iload_n 2, 1) := by decide +kernel
theorem dX10_did_29 : decode cX10_did 29 = .ok (.iadd, 1) := by decide +kernel
theorem dX10_did_30 : decode cX10_did 30 = .ok (.baload, 1) := by decide +kernel
theorem dX10_did_31 : decode cX10_did 31 = .ok (.ifCond .eq 7, 3) := by decide +kernel
theorem dX10_did_34 : decode cX10_did 34 = .ok (.iconst 1, 1) := by decide +kernel
theorem dX10_did_35 : decode cX10_did 35 = .ok (.goto 4, 3) := by decide +kernel
theorem dX10_did_38 : decode cX10_did 38 = .ok (.iconst 0, 1) := by decide +kernel
theorem dX10_did_39 : decode cX10_did 39 = .ok (.istore 4, 2) := by decide +kernel
theorem dX10_did_41 : decode cX10_did 41 = .ok (.aload_n 0, 1) := by decide +kernel
theorem dX10_did_42 : decode cX10_did 42 = .ok (.getfield 13, 3) := by decide +kernel
theorem dX10_did_45 : decode cX10_did 45 = .ok (.bipush 100, 2) := by decide +kernel
theorem dX10_did_47 : decode cX10_did 47 = .ok (.iload_n 1, 1) := by decide +kernel
theorem dX10_did_48 : decode cX10_did 48 = .ok (.imul, 1) := by decide +kernel
theorem dX10_did_49 : decode cX10_did 49 = .ok (.iload_n 2, 1) := by decide +kernel
theorem dX10_did_50 : decode cX10_did 50 = .ok (.iadd, 1) := by decide +kernel
theorem dX10_did_51 : decode cX10_did 51 = .ok (.iload_n 3, 1) := by decide +kernel
theorem dX10_did_52 : decode cX10_did 52 = .ok (.bastore, 1) := by decide +kernel
theorem dX10_did_53 : decode cX10_did 53 = .ok (.iload 4, 2) := by decide +kernel
theorem dX10_did_55 : decode cX10_did 55 = .ok (.ireturn, 1) := by decide +kernel
theorem dX10_decoy_0 : decode cX10_decoy 0 = .ok (.aload_n 0, 1) := by decide +kernel
theorem dX10_decoy_1 : decode cX10_decoy 1 = .ok (.iload_n 1, 1) := by decide +kernel
theorem dX10_decoy_2 : decode cX10_decoy 2 = .ok (.invokevirtual 50, 3) := by decide +kernel
theorem dX10_decoy_5 : decode cX10_decoy 5 = .ok (.ifCond .ne 7, 3) := by decide +kernel
theorem dX10_decoy_8 : decode cX10_decoy 8 = .ok (.ldc2_w 141, 3) := by decide +kernel
theorem dX10_decoy_11 : decode cX10_decoy 11 = .ok (.lreturn, 1) := by decide +kernel
theorem dX10_decoy_12 : decode cX10_decoy 12 = .ok (.iload_n 2, 1) := by decide +kernel
theorem dX10_decoy_13 : decode cX10_decoy 13 = .ok (.invokestatic 46, 3) := by decide +kernel
theorem dX10_decoy_16 : decode cX10_decoy 16 = .ok (.ifCond .eq 34, 3) := by decide +kernel
theorem dX10_decoy_19 : decode cX10_decoy 19 = .ok (.iload_n 3, 1) := by decide +kernel
theorem dX10_decoy_20 : decode cX10_decoy 20 = .ok (.invokestatic 46, 3) := by decide +kernel
theorem dX10_decoy_23 : decode cX10_decoy 23 = .ok (.ifCond .eq 27, 3) := by decide +kernel
theorem dX10_decoy_26 : decode cX10_decoy 26 = .ok (.iload_n 2, 1) := by decide +kernel
theorem dX10_decoy_27 : decode cX10_decoy 27 = .ok (.iload_n 3, 1) := by decide +kernel
theorem dX10_decoy_28 : decode cX10_decoy 28 = .ok (.if_icmp .gt 22, 3) := by decide +kernel
theorem dX10_decoy_31 : decode cX10_decoy 31 = .ok (.iload 4, 2) := by decide +kernel
theorem dX10_decoy_33 : decode cX10_decoy 33 = .ok (.iconst 1, 1) := by decide +kernel
theorem dX10_decoy_34 : decode cX10_decoy 34 = .ok (.bipush 19, 2) := by decide +kernel
theorem dX10_decoy_36 : decode cX10_decoy 36 = .ok (.invokestatic 35, 3) := by decide +kernel
theorem dX10_decoy_39 : decode cX10_decoy 39 = .ok (.ifCond .eq 11, 3) := by decide +kernel
theorem dX10_decoy_42 : decode cX10_decoy 42 = .ok (.iload 5, 2) := by decide +kernel
theorem dX10_decoy_44 : decode cX10_decoy 44 = .ok (.invokestatic 77, 3) := by decide +kernel
theorem dX10_decoy_47 : decode cX10_decoy 47 = .ok (.ifCond .ne 7, 3) := by decide +kernel
theorem dX10_decoy_50 : decode cX10_decoy 50 = .ok (.ldc2_w 131, 3) := by decide +kernel
theorem dX10_decoy_53 : decode cX10_decoy 53 = .ok (.lreturn, 1) := by decide +kernel
theorem dX10_decoy_54 : decode cX10_decoy 54 = .ok (.iconst 0, 1) := by decide +kernel
theorem dX10_decoy_55 : decode cX10_decoy 55 = .ok (.istore 6, 2) := by decide +kernel
theorem dX10_decoy_57 : decode cX10_decoy 57 = .ok (.iload_n 2, 1) := by decide +kernel
theorem dX10_decoy_58 : decode cX10_decoy 58 = .ok (.istore 7, 2) := by decide +kernel
theorem dX10_decoy_60 : decode cX10_decoy 60 = .ok (.iload 7, 2) := by decide +kernel
theorem dX10_decoy_62 : decode cX10_decoy 62 = .ok (.iload_n 3, 1) := by decide +kernel
theorem dX10_decoy_63 : decode cX10_decoy 63 = .ok (.if_icmp .gt 34, 3) := by decide +kernel
theorem dX10_decoy_66 : decode cX10_decoy 66 = .ok (.iload 6, 2) := by decide +kernel
theorem dX10_decoy_68 : decode cX10_decoy 68 = .ok (.aload_n 0, 1) := by decide +kernel
theorem dX10_decoy_69 : decode cX10_decoy 69 = .ok (.getfield 13, 3) := by decide +kernel
theorem dX10_decoy_72 : decode cX10_decoy 72 = .ok (.bipush 100, 2) := by decide +kernel
theorem dX10_decoy_74 : decode cX10_decoy 74 = .ok (.iload_n 1, 1) := by decide +kernel
theorem dX10_decoy_75 : decode cX10_decoy 75 = .ok (.imul, 1) := by decide +kernel
theorem dX10_decoy_76 : decode cX10_decoy 76 = .ok (.iload 7, 2) := by decide +kernel
theorem dX10_decoy_78 : decode cX10_decoy 78 = .ok (.iadd, 1) := by decide +kernel
theorem dX10_decoy_79 : decode cX10_decoy 79 = .ok (.baload, 1) := by decide +kernel
theorem dX10_decoy_80 : decode cX10_decoy 80 = .ok (.ifCond .eq 7, 3) := by decide +kernel
theorem dX10_decoy_83 : decode cX10_decoy 83 = .ok (.iconst 0, 1) := by decide +kernel
theorem dX10_decoy_84 : decode cX10_decoy 84 = .ok (.goto 4, 3) := by decide +kernel
theorem dX10_decoy_87 : decode cX10_decoy 87 = .ok (.iconst 1, 1) := by decide +kernel
theorem dX10_decoy_88 : decode cX10_decoy 88 = .ok (.iadd, 1) := by decide +kernel
theorem dX10_decoy_89 : decode cX10_decoy 89 = .ok (.istore 6, 2) := by decide +kernel
theorem dX10_decoy_91 : decode cX10_decoy 91 = .ok (.iinc 7 1, 3) := by decide +kernel
theorem dX10_decoy_94 : decode cX10_decoy 94 = .ok (.goto (-34), 3) := by decide +kernel
theorem dX10_decoy_97 : decode cX10_decoy 97 = .ok (.iload 6, 2) := by decide +kernel
theorem dX10_decoy_99 : decode cX10_decoy 99 = .ok (.bipush 12, 2) := by decide +kernel
theorem dX10_decoy_101 : decode cX10_decoy 101 = .ok (.if_icmp .le 7, 3) := by decide +kernel
theorem dX10_decoy_104 : decode cX10_decoy 104 = .ok (.ldc2_w 131, 3) := by decide +kernel
theorem dX10_decoy_107 : decode cX10_decoy 107 = .ok (.lreturn, 1) := by decide +kernel
theorem dX10_decoy_108 : decode cX10_decoy 108 = .ok (.lconst 1, 1) := by decide +kernel
theorem dX10_decoy_109 : decode cX10_decoy 109 = .ok (.lstore 7, 2) := by decide +kernel
theorem dX10_decoy_111 : decode cX10_decoy 111 = .ok (.lconst 1, 1) := by decide +kernel
theorem dX10_decoy_112 : decode cX10_decoy 112 = .ok (.lstore 9, 2) := by decide +kernel
theorem dX10_decoy_114 : decode cX10_decoy 114 = .ok (.iconst 0, 1) := by decide +kernel
theorem dX10_decoy_115 : decode cX10_decoy 115 = .ok (.istore 11, 2) := by decide +kernel
theorem dX10_decoy_117 : decode cX10_decoy 117 = .ok (.iload 11, 2) := by decide +kernel
theorem dX10_decoy_119 : decode cX10_decoy 119 = .ok (.iload 6, 2) := by decide +kernel
theorem dX10_decoy_121 : decode cX10_decoy 121 = .ok (.if_icmp .ge 29, 3) := by decide +kernel
theorem dX10_decoy_124 : decode cX10_decoy 124 = .ok (.lload 7, 2) := by decide +kernel
theorem dX10_decoy_126 : decode cX10_decoy 126 = .ok (.ldc2_w 143, 3) := by decide +kernel
theorem dX10_decoy_129 : decode cX10_decoy 129 = .ok (.iload 4, 2) := by decide +kernel
theorem dX10_decoy_131 : decode cX10_decoy 131 = .ok (.i2l, 1) := by decide +kernel
theorem dX10_decoy_132 : decode cX10_decoy 132 = .ok (.lsub, 1) := by decide +kernel
theorem dX10_decoy_133 : decode cX10_decoy 133 = .ok (.lmul, 1) := by decide +kernel
theorem dX10_decoy_134 : decode cX10_decoy 134 = .ok (.lstore 7, 2) := by decide +kernel
theorem dX10_decoy_136 : decode cX10_decoy 136 = .ok (.lload 9, 2) := by decide +kernel
theorem dX10_decoy_138 : decode cX10_decoy 138 = .ok (.ldc2_w 143, 3) := by decide +kernel
theorem dX10_decoy_141 : decode cX10_decoy 141 = .ok (.lmul, 1) := by decide +kernel
theorem dX10_decoy_142 : decode cX10_decoy 142 = .ok (.lstore 9, 2) := by decide +kernel
theorem dX10_decoy_144 : decode cX10_decoy 144 = .ok (.iinc 11 1, 3) := by decide +kernel
theorem dX10_decoy_147 : decode cX10_decoy 147 = .ok (.goto (-30), 3) := by decide +kernel
theorem dX10_decoy_150 : decode cX10_decoy 150 = .ok (.lload 7, 2) := by decide +kernel
theorem dX10_decoy_152 : decode cX10_decoy 152 = .ok (.lload 9, 2) := by decide +kernel
theorem dX10_decoy_154 : decode cX10_decoy 154 = .ok (.iload 5, 2) := by decide +kernel
theorem dX10_decoy_156 : decode cX10_decoy 156 = .ok (.invokestatic 137, 3) := by decide +kernel
theorem dX10_decoy_159 : decode cX10_decoy 159 = .ok (.lreturn, 1) := by decide +kernel
theorem dX10_sure_0 : decode cX10_sure 0 = .ok (.iload_n 1, 1) := by decide +kernel
theorem dX10_sure_1 : decode cX10_sure 1 = .ok (.iconst 1, 1) := by decide +kernel
theorem dX10_sure_2 : decode cX10_sure 2 = .ok (.bipush 19, 2) := by decide +kernel
theorem dX10_sure_4 : decode cX10_sure 4 = .ok (.invokestatic 35, 3) := by decide +kernel
theorem dX10_sure_7 : decode cX10_sure 7 = .ok (.ifCond .eq 13, 3) := by decide +kernel
theorem dX10_sure_10 : decode cX10_sure 10 = .ok (.iload_n 2, 1) := by decide +kernel
theorem dX10_sure_11 : decode cX10_sure 11 = .ok (.iconst 0, 1) := by decide +kernel
theorem dX10_sure_12 : decode cX10_sure 12 = .ok (.bipush 100, 2) := by decide +kernel
theorem dX10_sure_14 : decode cX10_sure 14 = .ok (.invokestatic 35, 3) := by decide +kernel
theorem dX10_sure_17 : decode cX10_sure 17 = .ok (.ifCond .ne 6, 3) := by decide +kernel
theorem dX10_sure_20 : decode cX10_sure 20 = .ok (.bipush (-2), 2) := by decide +kernel
theorem dX10_sure_22 : decode cX10_sure 22 = .ok (.ireturn, 1) := by decide +kernel
theorem dX10_sure_23 : decode cX10_sure 23 = .ok (.ldc2_w 145, 3) := by decide +kernel
theorem dX10_sure_26 : decode cX10_sure 26 = .ok (.lstore_n 3, 1) := by decide +kernel
theorem dX10_sure_27 : decode cX10_sure 27 = .ok (.iload_n 2, 1) := by decide +kernel
theorem dX10_sure_28 : decode cX10_sure 28 = .ok (.i2l, 1) := by decide +kernel
theorem dX10_sure_29 : decode cX10_sure 29 = .ok (.lstore 5, 2) := by decide +kernel
theorem dX10_sure_31 : decode cX10_sure 31 = .ok (.iconst 0, 1) := by decide +kernel
theorem dX10_sure_32 : decode cX10_sure 32 = .ok (.istore 7, 2) := by decide +kernel
theorem dX10_sure_34 : decode cX10_sure 34 = .ok (.iload 7, 2) := by decide +kernel
theorem dX10_sure_36 : decode cX10_sure 36 = .ok (.bipush 13, 2) := by decide +kernel
theorem dX10_sure_38 : decode cX10_sure 38 = .ok (.if_icmp .ge 36, 3) := by decide +kernel
theorem dX10_sure_41 : decode cX10_sure 41 = .ok (.lload_n 3, 1) := by decide +kernel
theorem dX10_sure_42 : decode cX10_sure 42 = .ok (.lload 5, 2) := by decide +kernel
theorem dX10_sure_44 : decode cX10_sure 44 = .ok (.lcmp, 1) := by decide +kernel
theorem dX10_sure_45 : decode cX10_sure 45 = .ok (.ifCond .gt 6, 3) := by decide +kernel
theorem dX10_sure_48 : decode cX10_sure 48 = .ok (.iload 7, 2) := by decide +kernel
theorem dX10_sure_50 : decode cX10_sure 50 = .ok (.ireturn, 1) := by decide +kernel
theorem dX10_sure_51 : decode cX10_sure 51 = .ok (.lload_n 3, 1) := by decide +kernel
theorem dX10_sure_52 : decode cX10_sure 52 = .ok (.ldc2_w 143, 3) := by decide +kernel
theorem dX10_sure_55 : decode cX10_sure 55 = .ok (.iload_n 1, 1) := by decide +kernel
theorem dX10_sure_56 : decode cX10_sure 56 = .ok (.i2l, 1) := by decide +kernel
theorem dX10_sure_57 : decode cX10_sure 57 = .ok (.lsub, 1) := by decide +kernel
theorem dX10_sure_58 : decode cX10_sure 58 = .ok (.lmul, 1) := by decide +kernel
theorem dX10_sure_59 : decode cX10_sure 59 = .ok (.lstore_n 3, 1) := by decide +kernel
theorem dX10_sure_60 : decode cX10_sure 60 = .ok (.lload 5, 2) := by decide +kernel
theorem dX10_sure_62 : decode cX10_sure 62 = .ok (.ldc2_w 143, 3) := by decide +kernel
theorem dX10_sure_65 : decode cX10_sure 65 = .ok (.lmul, 1) := by decide +kernel
theorem dX10_sure_66 : decode cX10_sure 66 = .ok (.lstore 5, 2) := by decide +kernel
theorem dX10_sure_68 : decode cX10_sure 68 = .ok (.iinc 7 1, 3) := by decide +kernel
theorem dX10_sure_71 : decode cX10_sure 71 = .ok (.goto (-37), 3) := by decide +kernel
theorem dX10_sure_74 : decode cX10_sure 74 = .ok (.bipush (-6), 2) := by decide +kernel
theorem dX10_sure_76 : decode cX10_sure 76 = .ok (.ireturn, 1) := by decide +kernel
theorem dX10_flight_0 : decode cX10_flight 0 = .ok (.iload_n 1, 1) := by decide +kernel
theorem dX10_flight_1 : decode cX10_flight 1 = .ok (.iconst 0, 1) := by decide +kernel
theorem dX10_flight_2 : decode cX10_flight 2 = .ok (.bipush 7, 2) := by decide +kernel
theorem dX10_flight_4 : decode cX10_flight 4 = .ok (.invokestatic 35, 3) := by decide +kernel
theorem dX10_flight_7 : decode cX10_flight 7 = .ok (.ifCond .ne 5, 3) := by decide +kernel
theorem dX10_flight_10 : decode cX10_flight 10 = .ok (.iconst (-1), 1) := by decide +kernel
theorem dX10_flight_11 : decode cX10_flight 11 = .ok (.ireturn, 1) := by decide +kernel
theorem dX10_flight_12 : decode cX10_flight 12 = .ok (.iload_n 2, 1) := by decide +kernel
theorem dX10_flight_13 : decode cX10_flight 13 = .ok (.iconst 0, 1) := by decide +kernel
theorem dX10_flight_14 : decode cX10_flight 14 = .ok (.bipush 11, 2) := by decide +kernel
theorem dX10_flight_16 : decode cX10_flight 16 = .ok (.invokestatic 35, 3) := by decide +kernel
theorem dX10_flight_19 : decode cX10_flight 19 = .ok (.ifCond .eq 40, 3) := by decide +kernel
theorem dX10_flight_22 : decode cX10_flight 22 = .ok (.iload_n 3, 1) := by decide +kernel
theorem dX10_flight_23 : decode cX10_flight 23 = .ok (.iconst 0, 1) := by decide +kernel
theorem dX10_flight_24 : decode cX10_flight 24 = .ok (.bipush 11, 2) := by decide +kernel
theorem dX10_flight_26 : decode cX10_flight 26 = .ok (.invokestatic 35, 3) := by decide +kernel
theorem dX10_flight_29 : decode cX10_flight 29 = .ok (.ifCond .eq 30, 3) := by decide +kernel
theorem dX10_flight_32 : decode cX10_flight 32 = .ok (.iload_n 2, 1) := by decide +kernel
theorem dX10_flight_33 : decode cX10_flight 33 = .ok (.iload_n 3, 1) := by decide +kernel
theorem dX10_flight_34 : decode cX10_flight 34 = .ok (.if_icmp .gt 25, 3) := by decide +kernel
theorem dX10_flight_37 : decode cX10_flight 37 = .ok (.iload 4, 2) := by decide +kernel
theorem dX10_flight_39 : decode cX10_flight 39 = .ok (.iconst 0, 1) := by decide +kernel
theorem dX10_flight_40 : decode cX10_flight 40 = .ok (.bipush 10, 2) := by decide +kernel
theorem dX10_flight_42 : decode cX10_flight 42 = .ok (.invokestatic 35, 3) := by decide +kernel
theorem dX10_flight_45 : decode cX10_flight 45 = .ok (.ifCond .eq 14, 3) := by decide +kernel
theorem dX10_flight_48 : decode cX10_flight 48 = .ok (.iload 5, 2) := by decide +kernel
theorem dX10_flight_50 : decode cX10_flight 50 = .ok (.iconst 0, 1) := by decide +kernel
theorem dX10_flight_51 : decode cX10_flight 51 = .ok (.bipush 100, 2) := by decide +kernel
theorem dX10_flight_53 : decode cX10_flight 53 = .ok (.invokestatic 35, 3) := by decide +kernel
theorem dX10_flight_56 : decode cX10_flight 56 = .ok (.ifCond .ne 6, 3) := by decide +kernel
theorem dX10_flight_59 : decode cX10_flight 59 = .ok (.bipush (-2), 2) := by decide +kernel
theorem dX10_flight_61 : decode cX10_flight 61 = .ok (.ireturn, 1) := by decide +kernel
theorem dX10_flight_62 : decode cX10_flight 62 = .ok (.aload_n 0, 1) := by decide +kernel
theorem dX10_flight_63 : decode cX10_flight 63 = .ok (.getfield 32, 3) := by decide +kernel
theorem dX10_flight_66 : decode cX10_flight 66 = .ok (.iconst 4, 1) := by decide +kernel
theorem dX10_flight_67 : decode cX10_flight 67 = .ok (.iload_n 1, 1) := by decide +kernel
theorem dX10_flight_68 : decode cX10_flight 68 = .ok (.imul, 1) := by decide +kernel
theorem dX10_flight_69 : decode cX10_flight 69 = .ok (.iload_n 2, 1) := by decide +kernel
theorem dX10_flight_70 : decode cX10_flight 70 = .ok (.iastore, 1) := by decide +kernel
theorem dX10_flight_71 : decode cX10_flight 71 = .ok (.aload_n 0, 1) := by decide +kernel
theorem dX10_flight_72 : decode cX10_flight 72 = .ok (.getfield 32, 3) := by decide +kernel
theorem dX10_flight_75 : decode cX10_flight 75 = .ok (.iconst 4, 1) := by decide +kernel
theorem dX10_flight_76 : decode cX10_flight 76 = .ok (.iload_n 1, 1) := by decide +kernel
theorem dX10_flight_77 : decode cX10_flight 77 = .ok (.imul, 1) := by decide +kernel
theorem dX10_flight_78 : decode cX10_flight 78 = .ok (.iconst 1, 1) := by decide +kernel
theorem dX10_flight_79 : decode cX10_flight 79 = .ok (.iadd, 1) := by decide +kernel
theorem dX10_flight_80 : decode cX10_flight 80 = .ok (.iload_n 3, 1) := by decide +kernel
theorem dX10_flight_81 : decode cX10_flight 81 = .ok (.iastore, 1) := by decide +kernel
theorem dX10_flight_82 : decode cX10_flight 82 = .ok (.aload_n 0, 1) := by decide +kernel
theorem dX10_flight_83 : decode cX10_flight 83 = .ok (.getfield 32, 3) := by decide +kernel
theorem dX10_flight_86 : decode cX10_flight 86 = .ok (.iconst 4, 1) := by decide +kernel
theorem dX10_flight_87 : decode cX10_flight 87 = .ok (.iload_n 1, 1) := by decide +kernel
theorem dX10_flight_88 : decode cX10_flight 88 = .ok (.imul, 1) := by decide +kernel
theorem dX10_flight_89 : decode cX10_flight 89 = .ok (.iconst 2, 1) := by decide +kernel
theorem dX10_flight_90 : decode cX10_flight 90 = .ok (.iadd, 1) := by decide +kernel
theorem dX10_flight_91 : decode cX10_flight 91 = .ok (.iload 4, 2) := by decide +kernel
theorem dX10_flight_93 : decode cX10_flight 93 = .ok (.iastore, 1) := by decide +kernel
theorem dX10_flight_94 : decode cX10_flight 94 = .ok (.aload_n 0, 1) := by decide +kernel
theorem dX10_flight_95 : decode cX10_flight 95 = .ok (.getfield 32, 3) := by decide +kernel
theorem dX10_flight_98 : decode cX10_flight 98 = .ok (.iconst 4, 1) := by decide +kernel
theorem dX10_flight_99 : decode cX10_flight 99 = .ok (.iload_n 1, 1) := by decide +kernel
theorem dX10_flight_100 : decode cX10_flight 100 = .ok (.imul, 1) := by decide +kernel
theorem dX10_flight_101 : decode cX10_flight 101 = .ok (.iconst 3, 1) := by decide +kernel
theorem dX10_flight_102 : decode cX10_flight 102 = .ok (.iadd, 1) := by decide +kernel
theorem dX10_flight_103 : decode cX10_flight 103 = .ok (.iload 5, 2) := by decide +kernel
theorem dX10_flight_105 : decode cX10_flight 105 = .ok (.iastore, 1) := by decide +kernel
theorem dX10_flight_106 : decode cX10_flight 106 = .ok (.iconst 1, 1) := by decide +kernel
theorem dX10_flight_107 : decode cX10_flight 107 = .ok (.ireturn, 1) := by decide +kernel
theorem dX10_worthOf_0 : decode cX10_worthOf 0 = .ok (.lconst 0, 1) := by decide +kernel
theorem dX10_worthOf_1 : decode cX10_worthOf 1 = .ok (.lstore_n 2, 1) := by decide +kernel
theorem dX10_worthOf_2 : decode cX10_worthOf 2 = .ok (.iconst 0, 1) := by decide +kernel
theorem dX10_worthOf_3 : decode cX10_worthOf 3 = .ok (.istore 4, 2) := by decide +kernel
theorem dX10_worthOf_5 : decode cX10_worthOf 5 = .ok (.iload 4, 2) := by decide +kernel
theorem dX10_worthOf_7 : decode cX10_worthOf 7 = .ok (.aload_n 0, 1) := by decide +kernel
theorem dX10_worthOf_8 : decode cX10_worthOf 8 = .ok (.getfield 39, 3) := by decide +kernel
theorem dX10_worthOf_11 : decode cX10_worthOf 11 = .ok (.if_icmp .ge 139, 3) := by decide +kernel
theorem dX10_worthOf_14 : decode cX10_worthOf 14 = .ok (.aload_n 0, 1) := by decide +kernel
theorem dX10_worthOf_15 : decode cX10_worthOf 15 = .ok (.getfield 7, 3) := by decide +kernel
theorem dX10_worthOf_18 : decode cX10_worthOf 18 = .ok (.bipush 11, 2) := by decide +kernel
theorem dX10_worthOf_20 : decode cX10_worthOf 20 = .ok (.iload 4, 2) := by decide +kernel
theorem dX10_worthOf_22 : decode cX10_worthOf 22 = .ok (.imul, 1) := by decide +kernel
theorem dX10_worthOf_23 : decode cX10_worthOf 23 = .ok (.bipush 10, 2) := by decide +kernel
theorem dX10_worthOf_25 : decode cX10_worthOf 25 = .ok (.iadd, 1) := by decide +kernel
theorem dX10_worthOf_26 : decode cX10_worthOf 26 = .ok (.iaload, 1) := by decide +kernel
theorem dX10_worthOf_27 : decode cX10_worthOf 27 = .ok (.iconst 1, 1) := by decide +kernel
theorem dX10_worthOf_28 : decode cX10_worthOf 28 = .ok (.if_icmp .ne 116, 3) := by decide +kernel
theorem dX10_worthOf_31 : decode cX10_worthOf 31 = .ok (.lconst 1, 1) := by decide +kernel
theorem dX10_worthOf_32 : decode cX10_worthOf 32 = .ok (.lstore 5, 2) := by decide +kernel
theorem dX10_worthOf_34 : decode cX10_worthOf 34 = .ok (.iconst 0, 1) := by decide +kernel
theorem dX10_worthOf_35 : decode cX10_worthOf 35 = .ok (.istore 7, 2) := by decide +kernel
theorem dX10_worthOf_37 : decode cX10_worthOf 37 = .ok (.iload 7, 2) := by decide +kernel
theorem dX10_worthOf_39 : decode cX10_worthOf 39 = .ok (.bipush 8, 2) := by decide +kernel
theorem dX10_worthOf_41 : decode cX10_worthOf 41 = .ok (.if_icmp .ge 94, 3) := by decide +kernel
theorem dX10_worthOf_44 : decode cX10_worthOf 44 = .ok (.iload_n 1, 1) := by decide +kernel
theorem dX10_worthOf_45 : decode cX10_worthOf 45 = .ok (.iload 7, 2) := by decide +kernel
theorem dX10_worthOf_47 : decode cX10_worthOf 47 = .ok (.ishr, 1) := by decide +kernel
theorem dX10_worthOf_48 : decode cX10_worthOf 48 = .ok (.iconst 1, 1) := by decide +kernel
theorem dX10_worthOf_49 : decode cX10_worthOf 49 = .ok (.iand, 1) := by decide +kernel
theorem dX10_worthOf_50 : decode cX10_worthOf 50 = .ok (.iconst 1, 1) := by decide +kernel
theorem dX10_worthOf_51 : decode cX10_worthOf 51 = .ok (.if_icmp .ne 43, 3) := by decide +kernel
theorem dX10_worthOf_54 : decode cX10_worthOf 54 = .ok (.aload_n 0, 1) := by decide +kernel
theorem dX10_worthOf_55 : decode cX10_worthOf 55 = .ok (.getfield 7, 3) := by decide +kernel
theorem dX10_worthOf_58 : decode cX10_worthOf 58 = .ok (.bipush 11, 2) := by decide +kernel
theorem dX10_worthOf_60 : decode cX10_worthOf 60 = .ok (.iload 4, 2) := by decide +kernel
theorem dX10_worthOf_62 : decode cX10_worthOf 62 = .ok (.imul, 1) := by decide +kernel
theorem dX10_worthOf_63 : decode cX10_worthOf 63 = .ok (.iaload, 1) := by decide +kernel
theorem dX10_worthOf_64 : decode cX10_worthOf 64 = .ok (.aload_n 0, 1) := by decide +kernel
theorem dX10_worthOf_65 : decode cX10_worthOf 65 = .ok (.getfield 32, 3) := by decide +kernel
theorem dX10_worthOf_68 : decode cX10_worthOf 68 = .ok (.iconst 4, 1) := by decide +kernel
theorem dX10_worthOf_69 : decode cX10_worthOf 69 = .ok (.iload 7, 2) := by decide +kernel
theorem dX10_worthOf_71 : decode cX10_worthOf 71 = .ok (.imul, 1) := by decide +kernel
theorem dX10_worthOf_72 : decode cX10_worthOf 72 = .ok (.iaload, 1) := by decide +kernel
theorem dX10_worthOf_73 : decode cX10_worthOf 73 = .ok (.aload_n 0, 1) := by decide +kernel
theorem dX10_worthOf_74 : decode cX10_worthOf 74 = .ok (.getfield 32, 3) := by decide +kernel
theorem dX10_worthOf_77 : decode cX10_worthOf 77 = .ok (.iconst 4, 1) := by decide +kernel
theorem dX10_worthOf_78 : decode cX10_worthOf 78 = .ok (.iload 7, 2) := by decide +kernel
theorem dX10_worthOf_80 : decode cX10_worthOf 80 = .ok (.imul, 1) := by decide +kernel
theorem dX10_worthOf_81 : decode cX10_worthOf 81 = .ok (.iconst 1, 1) := by decide +kernel
theorem dX10_worthOf_82 : decode cX10_worthOf 82 = .ok (.iadd, 1) := by decide +kernel
theorem dX10_worthOf_83 : decode cX10_worthOf 83 = .ok (.iaload, 1) := by decide +kernel
theorem dX10_worthOf_84 : decode cX10_worthOf 84 = .ok (.invokestatic 35, 3) := by decide +kernel
theorem dX10_worthOf_87 : decode cX10_worthOf 87 = .ok (.ifCond .eq 7, 3) := by decide +kernel
theorem dX10_worthOf_90 : decode cX10_worthOf 90 = .ok (.iconst 1, 1) := by decide +kernel
theorem dX10_worthOf_91 : decode cX10_worthOf 91 = .ok (.goto 4, 3) := by decide +kernel
theorem dX10_worthOf_94 : decode cX10_worthOf 94 = .ok (.iconst 0, 1) := by decide +kernel
theorem dX10_worthOf_95 : decode cX10_worthOf 95 = .ok (.istore 8, 2) := by decide +kernel
theorem dX10_worthOf_97 : decode cX10_worthOf 97 = .ok (.lload 5, 2) := by decide +kernel
theorem dX10_worthOf_99 : decode cX10_worthOf 99 = .ok (.iload 8, 2) := by decide +kernel
theorem dX10_worthOf_101 : decode cX10_worthOf 101 = .ok (.ifCond .eq 22, 3) := by decide +kernel
theorem dX10_worthOf_104 : decode cX10_worthOf 104 = .ok (.ldc2_w 147, 3) := by decide +kernel
theorem dX10_worthOf_107 : decode cX10_worthOf 107 = .ok (.aload_n 0, 1) := by decide +kernel
theorem dX10_worthOf_108 : decode cX10_worthOf 108 = .ok (.getfield 32, 3) := by decide +kernel
theorem dX10_worthOf_111 : decode cX10_worthOf 111 = .ok (.iconst 4, 1) := by decide +kernel
theorem dX10_worthOf_112 : decode cX10_worthOf 112 = .ok (.iload 7, 2) := by decide +kernel
theorem dX10_worthOf_114 : decode cX10_worthOf 114 = .ok (.imul, 1) := by decide +kernel
theorem dX10_worthOf_115 : decode cX10_worthOf 115 = .ok (.iconst 2, 1) := by decide +kernel
theorem dX10_worthOf_116 : decode cX10_worthOf 116 = .ok (.iadd, 1) := by decide +kernel
theorem dX10_worthOf_117 : decode cX10_worthOf 117 = .ok (.iaload, 1) := by decide +kernel
theorem dX10_worthOf_118 : decode cX10_worthOf 118 = .ok (.i2l, 1) := by decide +kernel
theorem dX10_worthOf_119 : decode cX10_worthOf 119 = .ok (.lsub, 1) := by decide +kernel
theorem dX10_worthOf_120 : decode cX10_worthOf 120 = .ok (.goto 6, 3) := by decide +kernel
theorem dX10_worthOf_123 : decode cX10_worthOf 123 = .ok (.ldc2_w 147, 3) := by decide +kernel
theorem dX10_worthOf_126 : decode cX10_worthOf 126 = .ok (.lmul, 1) := by decide +kernel
theorem dX10_worthOf_127 : decode cX10_worthOf 127 = .ok (.lstore 5, 2) := by decide +kernel
theorem dX10_worthOf_129 : decode cX10_worthOf 129 = .ok (.iinc 7 1, 3) := by decide +kernel
theorem dX10_worthOf_132 : decode cX10_worthOf 132 = .ok (.goto (-95), 3) := by decide +kernel
theorem dX10_worthOf_135 : decode cX10_worthOf 135 = .ok (.lload_n 2, 1) := by decide +kernel
theorem dX10_worthOf_136 : decode cX10_worthOf 136 = .ok (.ldc2_w 149, 3) := by decide +kernel
theorem dX10_worthOf_139 : decode cX10_worthOf 139 = .ok (.lload 5, 2) := by decide +kernel
theorem dX10_worthOf_141 : decode cX10_worthOf 141 = .ok (.lsub, 1) := by decide +kernel
theorem dX10_worthOf_142 : decode cX10_worthOf 142 = .ok (.ladd, 1) := by decide +kernel
theorem dX10_worthOf_143 : decode cX10_worthOf 143 = .ok (.lstore_n 2, 1) := by decide +kernel
theorem dX10_worthOf_144 : decode cX10_worthOf 144 = .ok (.iinc 4 1, 3) := by decide +kernel
theorem dX10_worthOf_147 : decode cX10_worthOf 147 = .ok (.goto (-142), 3) := by decide +kernel
theorem dX10_worthOf_150 : decode cX10_worthOf 150 = .ok (.lload_n 2, 1) := by decide +kernel
theorem dX10_worthOf_151 : decode cX10_worthOf 151 = .ok (.lreturn, 1) := by decide +kernel
theorem dX10_worth_0 : decode cX10_worth 0 = .ok (.iload_n 1, 1) := by decide +kernel
theorem dX10_worth_1 : decode cX10_worth 1 = .ok (.iconst 0, 1) := by decide +kernel
theorem dX10_worth_2 : decode cX10_worth 2 = .ok (.sipush 255, 3) := by decide +kernel
theorem dX10_worth_5 : decode cX10_worth 5 = .ok (.invokestatic 35, 3) := by decide +kernel
theorem dX10_worth_8 : decode cX10_worth 8 = .ok (.ifCond .eq 25, 3) := by decide +kernel
theorem dX10_worth_11 : decode cX10_worth 11 = .ok (.iload_n 2, 1) := by decide +kernel
theorem dX10_worth_12 : decode cX10_worth 12 = .ok (.invokestatic 77, 3) := by decide +kernel
theorem dX10_worth_15 : decode cX10_worth 15 = .ok (.ifCond .eq 18, 3) := by decide +kernel
theorem dX10_worth_18 : decode cX10_worth 18 = .ok (.aload_n 0, 1) := by decide +kernel
theorem dX10_worth_19 : decode cX10_worth 19 = .ok (.iload_n 1, 1) := by decide +kernel
theorem dX10_worth_20 : decode cX10_worth 20 = .ok (.invokevirtual 151, 3) := by decide +kernel
theorem dX10_worth_23 : decode cX10_worth 23 = .ok (.ldc2_w 149, 3) := by decide +kernel
theorem dX10_worth_26 : decode cX10_worth 26 = .ok (.iload_n 2, 1) := by decide +kernel
theorem dX10_worth_27 : decode cX10_worth 27 = .ok (.invokestatic 137, 3) := by decide +kernel
theorem dX10_worth_30 : decode cX10_worth 30 = .ok (.goto 6, 3) := by decide +kernel
theorem dX10_worth_33 : decode cX10_worth 33 = .ok (.ldc2_w 131, 3) := by decide +kernel
theorem dX10_worth_36 : decode cX10_worth 36 = .ok (.lreturn, 1) := by decide +kernel
theorem dX10_riskOf_0 : decode cX10_riskOf 0 = .ok (.iconst 0, 1) := by decide +kernel
theorem dX10_riskOf_1 : decode cX10_riskOf 1 = .ok (.istore_n 2, 1) := by decide +kernel
theorem dX10_riskOf_2 : decode cX10_riskOf 2 = .ok (.iconst 0, 1) := by decide +kernel
theorem dX10_riskOf_3 : decode cX10_riskOf 3 = .ok (.istore_n 3, 1) := by decide +kernel
theorem dX10_riskOf_4 : decode cX10_riskOf 4 = .ok (.iload_n 3, 1) := by decide +kernel
theorem dX10_riskOf_5 : decode cX10_riskOf 5 = .ok (.bipush 8, 2) := by decide +kernel
theorem dX10_riskOf_7 : decode cX10_riskOf 7 = .ok (.if_icmp .ge 28, 3) := by decide +kernel
theorem dX10_riskOf_10 : decode cX10_riskOf 10 = .ok (.iload_n 2, 1) := by decide +kernel
theorem dX10_riskOf_11 : decode cX10_riskOf 11 = .ok (.iload_n 1, 1) := by decide +kernel
theorem dX10_riskOf_12 : decode cX10_riskOf 12 = .ok (.iload_n 3, 1) := by decide +kernel
theorem dX10_riskOf_13 : decode cX10_riskOf 13 = .ok (.ishr, 1) := by decide +kernel
theorem dX10_riskOf_14 : decode cX10_riskOf 14 = .ok (.iconst 1, 1) := by decide +kernel
theorem dX10_riskOf_15 : decode cX10_riskOf 15 = .ok (.iand, 1) := by decide +kernel
theorem dX10_riskOf_16 : decode cX10_riskOf 16 = .ok (.aload_n 0, 1) := by decide +kernel
theorem dX10_riskOf_17 : decode cX10_riskOf 17 = .ok (.getfield 32, 3) := by decide +kernel
theorem dX10_riskOf_20 : decode cX10_riskOf 20 = .ok (.iconst 4, 1) := by decide +kernel
theorem dX10_riskOf_21 : decode cX10_riskOf 21 = .ok (.iload_n 3, 1) := by decide +kernel
theorem dX10_riskOf_22 : decode cX10_riskOf 22 = .ok (.imul, 1) := by decide +kernel
theorem dX10_riskOf_23 : decode cX10_riskOf 23 = .ok (.iconst 3, 1) := by decide +kernel
theorem dX10_riskOf_24 : decode cX10_riskOf 24 = .ok (.iadd, 1) := by decide +kernel
theorem dX10_riskOf_25 : decode cX10_riskOf 25 = .ok (.iaload, 1) := by decide +kernel
theorem dX10_riskOf_26 : decode cX10_riskOf 26 = .ok (.imul, 1) := by decide +kernel
theorem dX10_riskOf_27 : decode cX10_riskOf 27 = .ok (.iadd, 1) := by decide +kernel
theorem dX10_riskOf_28 : decode cX10_riskOf 28 = .ok (.istore_n 2, 1) := by decide +kernel
theorem dX10_riskOf_29 : decode cX10_riskOf 29 = .ok (.iinc 3 1, 3) := by decide +kernel
theorem dX10_riskOf_32 : decode cX10_riskOf 32 = .ok (.goto (-28), 3) := by decide +kernel
theorem dX10_riskOf_35 : decode cX10_riskOf 35 = .ok (.iload_n 2, 1) := by decide +kernel
theorem dX10_riskOf_36 : decode cX10_riskOf 36 = .ok (.ireturn, 1) := by decide +kernel
theorem dX10_best_0 : decode cX10_best 0 = .ok (.iload_n 1, 1) := by decide +kernel
theorem dX10_best_1 : decode cX10_best 1 = .ok (.iconst 0, 1) := by decide +kernel
theorem dX10_best_2 : decode cX10_best 2 = .ok (.sipush 800, 3) := by decide +kernel
theorem dX10_best_5 : decode cX10_best 5 = .ok (.invokestatic 35, 3) := by decide +kernel
theorem dX10_best_8 : decode cX10_best 8 = .ok (.ifCond .eq 10, 3) := by decide +kernel
theorem dX10_best_11 : decode cX10_best 11 = .ok (.iload_n 2, 1) := by decide +kernel
theorem dX10_best_12 : decode cX10_best 12 = .ok (.invokestatic 77, 3) := by decide +kernel
theorem dX10_best_15 : decode cX10_best 15 = .ok (.ifCond .ne 6, 3) := by decide +kernel
theorem dX10_best_18 : decode cX10_best 18 = .ok (.bipush (-2), 2) := by decide +kernel
theorem dX10_best_20 : decode cX10_best 20 = .ok (.ireturn, 1) := by decide +kernel
theorem dX10_best_21 : decode cX10_best 21 = .ok (.iconst 0, 1) := by decide +kernel
theorem dX10_best_22 : decode cX10_best 22 = .ok (.istore_n 3, 1) := by decide +kernel
theorem dX10_best_23 : decode cX10_best 23 = .ok (.iconst 1, 1) := by decide +kernel
theorem dX10_best_24 : decode cX10_best 24 = .ok (.istore 4, 2) := by decide +kernel
theorem dX10_best_26 : decode cX10_best 26 = .ok (.iload 4, 2) := by decide +kernel
theorem dX10_best_28 : decode cX10_best 28 = .ok (.sipush 256, 3) := by decide +kernel
theorem dX10_best_31 : decode cX10_best 31 = .ok (.if_icmp .ge 80, 3) := by decide +kernel
theorem dX10_best_34 : decode cX10_best 34 = .ok (.aload_n 0, 1) := by decide +kernel
theorem dX10_best_35 : decode cX10_best 35 = .ok (.iload 4, 2) := by decide +kernel
theorem dX10_best_37 : decode cX10_best 37 = .ok (.invokevirtual 151, 3) := by decide +kernel
theorem dX10_best_40 : decode cX10_best 40 = .ok (.aload_n 0, 1) := by decide +kernel
theorem dX10_best_41 : decode cX10_best 41 = .ok (.iload_n 3, 1) := by decide +kernel
theorem dX10_best_42 : decode cX10_best 42 = .ok (.invokevirtual 151, 3) := by decide +kernel
theorem dX10_best_45 : decode cX10_best 45 = .ok (.lsub, 1) := by decide +kernel
theorem dX10_best_46 : decode cX10_best 46 = .ok (.lstore 5, 2) := by decide +kernel
theorem dX10_best_48 : decode cX10_best 48 = .ok (.lload 5, 2) := by decide +kernel
theorem dX10_best_50 : decode cX10_best 50 = .ok (.lconst 0, 1) := by decide +kernel
theorem dX10_best_51 : decode cX10_best 51 = .ok (.lcmp, 1) := by decide +kernel
theorem dX10_best_52 : decode cX10_best 52 = .ok (.ifCond .gt 24, 3) := by decide +kernel
theorem dX10_best_55 : decode cX10_best 55 = .ok (.lload 5, 2) := by decide +kernel
theorem dX10_best_57 : decode cX10_best 57 = .ok (.lconst 0, 1) := by decide +kernel
theorem dX10_best_58 : decode cX10_best 58 = .ok (.lcmp, 1) := by decide +kernel
theorem dX10_best_59 : decode cX10_best 59 = .ok (.ifCond .ne 21, 3) := by decide +kernel
theorem dX10_best_62 : decode cX10_best 62 = .ok (.aload_n 0, 1) := by decide +kernel
theorem dX10_best_63 : decode cX10_best 63 = .ok (.iload 4, 2) := by decide +kernel
theorem dX10_best_65 : decode cX10_best 65 = .ok (.invokevirtual 155, 3) := by decide +kernel
theorem dX10_best_68 : decode cX10_best 68 = .ok (.aload_n 0, 1) := by decide +kernel
theorem dX10_best_69 : decode cX10_best 69 = .ok (.iload_n 3, 1) := by decide +kernel
theorem dX10_best_70 : decode cX10_best 70 = .ok (.invokevirtual 155, 3) := by decide +kernel
theorem dX10_best_73 : decode cX10_best 73 = .ok (.if_icmp .ge 7, 3) := by decide +kernel
theorem dX10_best_76 : decode cX10_best 76 = .ok (.iconst 1, 1) := by decide +kernel
theorem dX10_best_77 : decode cX10_best 77 = .ok (.goto 4, 3) := by decide +kernel
theorem dX10_best_80 : decode cX10_best 80 = .ok (.iconst 0, 1) := by decide +kernel
theorem dX10_best_81 : decode cX10_best 81 = .ok (.istore 7, 2) := by decide +kernel
theorem dX10_best_83 : decode cX10_best 83 = .ok (.aload_n 0, 1) := by decide +kernel
theorem dX10_best_84 : decode cX10_best 84 = .ok (.iload 4, 2) := by decide +kernel
theorem dX10_best_86 : decode cX10_best 86 = .ok (.invokevirtual 155, 3) := by decide +kernel
theorem dX10_best_89 : decode cX10_best 89 = .ok (.iload_n 1, 1) := by decide +kernel
theorem dX10_best_90 : decode cX10_best 90 = .ok (.if_icmp .gt 13, 3) := by decide +kernel
theorem dX10_best_93 : decode cX10_best 93 = .ok (.iload 7, 2) := by decide +kernel
theorem dX10_best_95 : decode cX10_best 95 = .ok (.ifCond .eq 8, 3) := by decide +kernel
theorem dX10_best_98 : decode cX10_best 98 = .ok (.iload 4, 2) := by decide +kernel
theorem dX10_best_100 : decode cX10_best 100 = .ok (.goto 4, 3) := by decide +kernel
theorem dX10_best_103 : decode cX10_best 103 = .ok (.iload_n 3, 1) := by decide +kernel
theorem dX10_best_104 : decode cX10_best 104 = .ok (.istore_n 3, 1) := by decide +kernel
theorem dX10_best_105 : decode cX10_best 105 = .ok (.iinc 4 1, 3) := by decide +kernel
theorem dX10_best_108 : decode cX10_best 108 = .ok (.goto (-82), 3) := by decide +kernel
theorem dX10_best_111 : decode cX10_best 111 = .ok (.iload_n 2, 1) := by decide +kernel
theorem dX10_best_112 : decode cX10_best 112 = .ok (.ifCond .ne 7, 3) := by decide +kernel
theorem dX10_best_115 : decode cX10_best 115 = .ok (.iload_n 3, 1) := by decide +kernel
theorem dX10_best_116 : decode cX10_best 116 = .ok (.goto 8, 3) := by decide +kernel
theorem dX10_best_119 : decode cX10_best 119 = .ok (.aload_n 0, 1) := by decide +kernel
theorem dX10_best_120 : decode cX10_best 120 = .ok (.iload_n 3, 1) := by decide +kernel
theorem dX10_best_121 : decode cX10_best 121 = .ok (.invokevirtual 155, 3) := by decide +kernel
theorem dX10_best_124 : decode cX10_best 124 = .ok (.ireturn, 1) := by decide +kernel
theorem dX10_choose_0 : decode cX10_choose 0 = .ok (.iload_n 1, 1) := by decide +kernel
theorem dX10_choose_1 : decode cX10_choose 1 = .ok (.ifCond .lt 8, 3) := by decide +kernel
theorem dX10_choose_4 : decode cX10_choose 4 = .ok (.iload_n 1, 1) := by decide +kernel
theorem dX10_choose_5 : decode cX10_choose 5 = .ok (.iload_n 0, 1) := by decide +kernel
theorem dX10_choose_6 : decode cX10_choose 6 = .ok (.if_icmp .le 7, 3) := by decide +kernel
theorem dX10_choose_9 : decode cX10_choose 9 = .ok (.lconst 0, 1) := by decide +kernel
theorem dX10_choose_10 : decode cX10_choose 10 = .ok (.goto 4, 3) := by decide +kernel
theorem dX10_choose_13 : decode cX10_choose 13 = .ok (.lconst 1, 1) := by decide +kernel
theorem dX10_choose_14 : decode cX10_choose 14 = .ok (.lstore_n 2, 1) := by decide +kernel
theorem dX10_choose_15 : decode cX10_choose 15 = .ok (.iconst 0, 1) := by decide +kernel
theorem dX10_choose_16 : decode cX10_choose 16 = .ok (.istore 4, 2) := by decide +kernel
theorem dX10_choose_18 : decode cX10_choose 18 = .ok (.iload 4, 2) := by decide +kernel
theorem dX10_choose_20 : decode cX10_choose 20 = .ok (.iload_n 1, 1) := by decide +kernel
theorem dX10_choose_21 : decode cX10_choose 21 = .ok (.if_icmp .ge 29, 3) := by decide +kernel
theorem dX10_choose_24 : decode cX10_choose 24 = .ok (.lload_n 2, 1) := by decide +kernel
theorem dX10_choose_25 : decode cX10_choose 25 = .ok (.lconst 0, 1) := by decide +kernel
theorem dX10_choose_26 : decode cX10_choose 26 = .ok (.lcmp, 1) := by decide +kernel
theorem dX10_choose_27 : decode cX10_choose 27 = .ok (.ifCond .le 23, 3) := by decide +kernel
theorem dX10_choose_30 : decode cX10_choose 30 = .ok (.lload_n 2, 1) := by decide +kernel
theorem dX10_choose_31 : decode cX10_choose 31 = .ok (.iload_n 0, 1) := by decide +kernel
theorem dX10_choose_32 : decode cX10_choose 32 = .ok (.iload 4, 2) := by decide +kernel
theorem dX10_choose_34 : decode cX10_choose 34 = .ok (.isub, 1) := by decide +kernel
theorem dX10_choose_35 : decode cX10_choose 35 = .ok (.i2l, 1) := by decide +kernel
theorem dX10_choose_36 : decode cX10_choose 36 = .ok (.lmul, 1) := by decide +kernel
theorem dX10_choose_37 : decode cX10_choose 37 = .ok (.iload 4, 2) := by decide +kernel
theorem dX10_choose_39 : decode cX10_choose 39 = .ok (.iconst 1, 1) := by decide +kernel
theorem dX10_choose_40 : decode cX10_choose 40 = .ok (.iadd, 1) := by decide +kernel
theorem dX10_choose_41 : decode cX10_choose 41 = .ok (.i2l, 1) := by decide +kernel
theorem dX10_choose_42 : decode cX10_choose 42 = .ok (.ldiv, 1) := by decide +kernel
theorem dX10_choose_43 : decode cX10_choose 43 = .ok (.lstore_n 2, 1) := by decide +kernel
theorem dX10_choose_44 : decode cX10_choose 44 = .ok (.iinc 4 1, 3) := by decide +kernel
theorem dX10_choose_47 : decode cX10_choose 47 = .ok (.goto (-29), 3) := by decide +kernel
theorem dX10_choose_50 : decode cX10_choose 50 = .ok (.lload_n 2, 1) := by decide +kernel
theorem dX10_choose_51 : decode cX10_choose 51 = .ok (.lreturn, 1) := by decide +kernel
theorem dX10_lean_0 : decode cX10_lean 0 = .ok (.iload_n 2, 1) := by decide +kernel
theorem dX10_lean_1 : decode cX10_lean 1 = .ok (.iconst 1, 1) := by decide +kernel
theorem dX10_lean_2 : decode cX10_lean 2 = .ok (.bipush 20, 2) := by decide +kernel
theorem dX10_lean_4 : decode cX10_lean 4 = .ok (.invokestatic 35, 3) := by decide +kernel
theorem dX10_lean_7 : decode cX10_lean 7 = .ok (.ifCond .eq 41, 3) := by decide +kernel
theorem dX10_lean_10 : decode cX10_lean 10 = .ok (.iload 4, 2) := by decide +kernel
theorem dX10_lean_12 : decode cX10_lean 12 = .ok (.iconst 1, 1) := by decide +kernel
theorem dX10_lean_13 : decode cX10_lean 13 = .ok (.bipush 20, 2) := by decide +kernel
theorem dX10_lean_15 : decode cX10_lean 15 = .ok (.invokestatic 35, 3) := by decide +kernel
theorem dX10_lean_18 : decode cX10_lean 18 = .ok (.ifCond .eq 30, 3) := by decide +kernel
theorem dX10_lean_21 : decode cX10_lean 21 = .ok (.iload_n 1, 1) := by decide +kernel
theorem dX10_lean_22 : decode cX10_lean 22 = .ok (.iconst 0, 1) := by decide +kernel
theorem dX10_lean_23 : decode cX10_lean 23 = .ok (.iload_n 2, 1) := by decide +kernel
theorem dX10_lean_24 : decode cX10_lean 24 = .ok (.invokestatic 35, 3) := by decide +kernel
theorem dX10_lean_27 : decode cX10_lean 27 = .ok (.ifCond .eq 21, 3) := by decide +kernel
theorem dX10_lean_30 : decode cX10_lean 30 = .ok (.iload_n 3, 1) := by decide +kernel
theorem dX10_lean_31 : decode cX10_lean 31 = .ok (.iconst 0, 1) := by decide +kernel
theorem dX10_lean_32 : decode cX10_lean 32 = .ok (.iload 4, 2) := by decide +kernel
theorem dX10_lean_34 : decode cX10_lean 34 = .ok (.invokestatic 35, 3) := by decide +kernel
theorem dX10_lean_37 : decode cX10_lean 37 = .ok (.ifCond .eq 11, 3) := by decide +kernel
theorem dX10_lean_40 : decode cX10_lean 40 = .ok (.iload 5, 2) := by decide +kernel
theorem dX10_lean_42 : decode cX10_lean 42 = .ok (.invokestatic 77, 3) := by decide +kernel
theorem dX10_lean_45 : decode cX10_lean 45 = .ok (.ifCond .ne 7, 3) := by decide +kernel
theorem dX10_lean_48 : decode cX10_lean 48 = .ok (.ldc2_w 131, 3) := by decide +kernel
theorem dX10_lean_51 : decode cX10_lean 51 = .ok (.lreturn, 1) := by decide +kernel
theorem dX10_lean_52 : decode cX10_lean 52 = .ok (.lconst 0, 1) := by decide +kernel
theorem dX10_lean_53 : decode cX10_lean 53 = .ok (.lstore 6, 2) := by decide +kernel
theorem dX10_lean_55 : decode cX10_lean 55 = .ok (.iload_n 1, 1) := by decide +kernel
theorem dX10_lean_56 : decode cX10_lean 56 = .ok (.istore 8, 2) := by decide +kernel
theorem dX10_lean_58 : decode cX10_lean 58 = .ok (.iload 8, 2) := by decide +kernel
theorem dX10_lean_60 : decode cX10_lean 60 = .ok (.iload_n 2, 1) := by decide +kernel
theorem dX10_lean_61 : decode cX10_lean 61 = .ok (.if_icmp .gt 32, 3) := by decide +kernel
theorem dX10_lean_64 : decode cX10_lean 64 = .ok (.lload 6, 2) := by decide +kernel
theorem dX10_lean_66 : decode cX10_lean 66 = .ok (.iload_n 2, 1) := by decide +kernel
theorem dX10_lean_67 : decode cX10_lean 67 = .ok (.iload 8, 2) := by decide +kernel
theorem dX10_lean_69 : decode cX10_lean 69 = .ok (.invokestatic 158, 3) := by decide +kernel
theorem dX10_lean_72 : decode cX10_lean 72 = .ok (.iload 4, 2) := by decide +kernel
theorem dX10_lean_74 : decode cX10_lean 74 = .ok (.iload_n 1, 1) := by decide +kernel
theorem dX10_lean_75 : decode cX10_lean 75 = .ok (.iload_n 3, 1) := by decide +kernel
theorem dX10_lean_76 : decode cX10_lean 76 = .ok (.iadd, 1) := by decide +kernel
theorem dX10_lean_77 : decode cX10_lean 77 = .ok (.iload 8, 2) := by decide +kernel
theorem dX10_lean_79 : decode cX10_lean 79 = .ok (.isub, 1) := by decide +kernel
theorem dX10_lean_80 : decode cX10_lean 80 = .ok (.invokestatic 158, 3) := by decide +kernel
theorem dX10_lean_83 : decode cX10_lean 83 = .ok (.lmul, 1) := by decide +kernel
theorem dX10_lean_84 : decode cX10_lean 84 = .ok (.ladd, 1) := by decide +kernel
theorem dX10_lean_85 : decode cX10_lean 85 = .ok (.lstore 6, 2) := by decide +kernel
theorem dX10_lean_87 : decode cX10_lean 87 = .ok (.iinc 8 1, 3) := by decide +kernel
theorem dX10_lean_90 : decode cX10_lean 90 = .ok (.goto (-32), 3) := by decide +kernel
theorem dX10_lean_93 : decode cX10_lean 93 = .ok (.lload 6, 2) := by decide +kernel
theorem dX10_lean_95 : decode cX10_lean 95 = .ok (.iload_n 2, 1) := by decide +kernel
theorem dX10_lean_96 : decode cX10_lean 96 = .ok (.iload 4, 2) := by decide +kernel
theorem dX10_lean_98 : decode cX10_lean 98 = .ok (.iadd, 1) := by decide +kernel
theorem dX10_lean_99 : decode cX10_lean 99 = .ok (.iload_n 1, 1) := by decide +kernel
theorem dX10_lean_100 : decode cX10_lean 100 = .ok (.iload_n 3, 1) := by decide +kernel
theorem dX10_lean_101 : decode cX10_lean 101 = .ok (.iadd, 1) := by decide +kernel
theorem dX10_lean_102 : decode cX10_lean 102 = .ok (.invokestatic 158, 3) := by decide +kernel
theorem dX10_lean_105 : decode cX10_lean 105 = .ok (.iload 5, 2) := by decide +kernel
theorem dX10_lean_107 : decode cX10_lean 107 = .ok (.invokestatic 137, 3) := by decide +kernel
theorem dX10_lean_110 : decode cX10_lean 110 = .ok (.lreturn, 1) := by decide +kernel
theorem dX10_told_0 : decode cX10_told 0 = .ok (.iconst 0, 1) := by decide +kernel
theorem dX10_told_1 : decode cX10_told 1 = .ok (.istore_n 2, 1) := by decide +kernel
theorem dX10_told_2 : decode cX10_told 2 = .ok (.iconst 0, 1) := by decide +kernel
theorem dX10_told_3 : decode cX10_told 3 = .ok (.istore_n 3, 1) := by decide +kernel
theorem dX10_told_4 : decode cX10_told 4 = .ok (.iload_n 3, 1) := by decide +kernel
theorem dX10_told_5 : decode cX10_told 5 = .ok (.iconst 5, 1) := by decide +kernel
theorem dX10_told_6 : decode cX10_told 6 = .ok (.if_icmp .ge 28, 3) := by decide +kernel
theorem dX10_told_9 : decode cX10_told 9 = .ok (.iload_n 2, 1) := by decide +kernel
theorem dX10_told_10 : decode cX10_told 10 = .ok (.aload_n 0, 1) := by decide +kernel
theorem dX10_told_11 : decode cX10_told 11 = .ok (.getfield 26, 3) := by decide +kernel
theorem dX10_told_14 : decode cX10_told 14 = .ok (.iload_n 3, 1) := by decide +kernel
theorem dX10_told_15 : decode cX10_told 15 = .ok (.iaload, 1) := by decide +kernel
theorem dX10_told_16 : decode cX10_told 16 = .ok (.ifCond .le 9, 3) := by decide +kernel
theorem dX10_told_19 : decode cX10_told 19 = .ok (.iconst 1, 1) := by decide +kernel
theorem dX10_told_20 : decode cX10_told 20 = .ok (.iload_n 3, 1) := by decide +kernel
theorem dX10_told_21 : decode cX10_told 21 = .ok (.ishl, 1) := by decide +kernel
theorem dX10_told_22 : decode cX10_told 22 = .ok (.goto 4, 3) := by decide +kernel
theorem dX10_told_25 : decode cX10_told 25 = .ok (.iconst 0, 1) := by decide +kernel
theorem dX10_told_26 : decode cX10_told 26 = .ok (.ior, 1) := by decide +kernel
theorem dX10_told_27 : decode cX10_told 27 = .ok (.istore_n 2, 1) := by decide +kernel
theorem dX10_told_28 : decode cX10_told 28 = .ok (.iinc 3 1, 3) := by decide +kernel
theorem dX10_told_31 : decode cX10_told 31 = .ok (.goto (-27), 3) := by decide +kernel
theorem dX10_told_34 : decode cX10_told 34 = .ok (.iload_n 1, 1) := by decide +kernel
theorem dX10_told_35 : decode cX10_told 35 = .ok (.ifCond .ne 10, 3) := by decide +kernel
theorem dX10_told_38 : decode cX10_told 38 = .ok (.aload_n 0, 1) := by decide +kernel
theorem dX10_told_39 : decode cX10_told 39 = .ok (.getfield 39, 3) := by decide +kernel
theorem dX10_told_42 : decode cX10_told 42 = .ok (.goto 38, 3) := by decide +kernel
theorem dX10_told_45 : decode cX10_told 45 = .ok (.iload_n 1, 1) := by decide +kernel
theorem dX10_told_46 : decode cX10_told 46 = .ok (.iconst 1, 1) := by decide +kernel
theorem dX10_told_47 : decode cX10_told 47 = .ok (.if_icmp .ne 10, 3) := by decide +kernel
theorem dX10_told_50 : decode cX10_told 50 = .ok (.aload_n 0, 1) := by decide +kernel
theorem dX10_told_51 : decode cX10_told 51 = .ok (.getfield 43, 3) := by decide +kernel
theorem dX10_told_54 : decode cX10_told 54 = .ok (.goto 26, 3) := by decide +kernel
theorem dX10_told_57 : decode cX10_told 57 = .ok (.iload_n 1, 1) := by decide +kernel
theorem dX10_told_58 : decode cX10_told 58 = .ok (.iconst 2, 1) := by decide +kernel
theorem dX10_told_59 : decode cX10_told 59 = .ok (.if_icmp .ne 10, 3) := by decide +kernel
theorem dX10_told_62 : decode cX10_told 62 = .ok (.aload_n 0, 1) := by decide +kernel
theorem dX10_told_63 : decode cX10_told 63 = .ok (.getfield 80, 3) := by decide +kernel
theorem dX10_told_66 : decode cX10_told 66 = .ok (.goto 14, 3) := by decide +kernel
theorem dX10_told_69 : decode cX10_told 69 = .ok (.iload_n 1, 1) := by decide +kernel
theorem dX10_told_70 : decode cX10_told 70 = .ok (.iconst 3, 1) := by decide +kernel
theorem dX10_told_71 : decode cX10_told 71 = .ok (.if_icmp .ne 7, 3) := by decide +kernel
theorem dX10_told_74 : decode cX10_told 74 = .ok (.iload_n 2, 1) := by decide +kernel
theorem dX10_told_75 : decode cX10_told 75 = .ok (.goto 5, 3) := by decide +kernel
theorem dX10_told_78 : decode cX10_told 78 = .ok (.bipush (-2), 2) := by decide +kernel
theorem dX10_told_80 : decode cX10_told 80 = .ok (.ireturn, 1) := by decide +kernel
