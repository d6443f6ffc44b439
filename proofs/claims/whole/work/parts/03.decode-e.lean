theorem d_MD_open_0 : decode b_MD_open 0 = .ok (.aload_n 0, 1) := by decide +kernel
theorem d_MD_open_1 : decode b_MD_open 1 = .ok (.iconst 0, 1) := by decide +kernel
theorem d_MD_open_2 : decode b_MD_open 2 = .ok (.putfield 26, 3) := by decide +kernel
theorem d_MD_open_5 : decode b_MD_open 5 = .ok (.aload_n 0, 1) := by decide +kernel
theorem d_MD_open_6 : decode b_MD_open 6 = .ok (.iload_n 1, 1) := by decide +kernel
theorem d_MD_open_7 : decode b_MD_open 7 = .ok (.invokevirtual 45, 3) := by decide +kernel
theorem d_MD_open_10 : decode b_MD_open 10 = .ok (.ifCond .ne 9, 3) := by decide +kernel
theorem d_MD_open_13 : decode b_MD_open 13 = .ok (.aload_n 0, 1) := by decide +kernel
theorem d_MD_open_14 : decode b_MD_open 14 = .ok (.iconst 1, 1) := by decide +kernel
theorem d_MD_open_15 : decode b_MD_open 15 = .ok (.invokevirtual 39, 3) := by decide +kernel
theorem d_MD_open_18 : decode b_MD_open 18 = .ok (.ireturn, 1) := by decide +kernel
theorem d_MD_open_19 : decode b_MD_open 19 = .ok (.aload_n 0, 1) := by decide +kernel
theorem d_MD_open_20 : decode b_MD_open 20 = .ok (.iconst 0, 1) := by decide +kernel
theorem d_MD_open_21 : decode b_MD_open 21 = .ok (.putfield 83, 3) := by decide +kernel
theorem d_MD_open_24 : decode b_MD_open 24 = .ok (.aload_n 0, 1) := by decide +kernel
theorem d_MD_open_25 : decode b_MD_open 25 = .ok (.getfield 56, 3) := by decide +kernel
theorem d_MD_open_28 : decode b_MD_open 28 = .ok (.iconst 2, 1) := by decide +kernel
theorem d_MD_open_29 : decode b_MD_open 29 = .ok (.if_icmp .lt 53, 3) := by decide +kernel
theorem d_MD_open_32 : decode b_MD_open 32 = .ok (.aload_n 0, 1) := by decide +kernel
theorem d_MD_open_33 : decode b_MD_open 33 = .ok (.getfield 16, 3) := by decide +kernel
theorem d_MD_open_36 : decode b_MD_open 36 = .ok (.iconst 0, 1) := by decide +kernel
theorem d_MD_open_37 : decode b_MD_open 37 = .ok (.iaload, 1) := by decide +kernel
theorem d_MD_open_38 : decode b_MD_open 38 = .ok (.bipush 83, 2) := by decide +kernel
theorem d_MD_open_40 : decode b_MD_open 40 = .ok (.if_icmp .ne 42, 3) := by decide +kernel
theorem d_MD_open_43 : decode b_MD_open 43 = .ok (.aload_n 0, 1) := by decide +kernel
theorem d_MD_open_44 : decode b_MD_open 44 = .ok (.getfield 16, 3) := by decide +kernel
theorem d_MD_open_47 : decode b_MD_open 47 = .ok (.iconst 1, 1) := by decide +kernel
theorem d_MD_open_48 : decode b_MD_open 48 = .ok (.iaload, 1) := by decide +kernel
theorem d_MD_open_49 : decode b_MD_open 49 = .ok (.iconst 1, 1) := by decide +kernel
theorem d_MD_open_50 : decode b_MD_open 50 = .ok (.if_icmp .lt 32, 3) := by decide +kernel
theorem d_MD_open_53 : decode b_MD_open 53 = .ok (.aload_n 0, 1) := by decide +kernel
theorem d_MD_open_54 : decode b_MD_open 54 = .ok (.getfield 16, 3) := by decide +kernel
theorem d_MD_open_57 : decode b_MD_open 57 = .ok (.iconst 1, 1) := by decide +kernel
theorem d_MD_open_58 : decode b_MD_open 58 = .ok (.iaload, 1) := by decide +kernel
theorem d_MD_open_59 : decode b_MD_open 59 = .ok (.iconst 3, 1) := by decide +kernel
theorem d_MD_open_60 : decode b_MD_open 60 = .ok (.if_icmp .gt 22, 3) := by decide +kernel
theorem d_MD_open_63 : decode b_MD_open 63 = .ok (.aload_n 0, 1) := by decide +kernel
theorem d_MD_open_64 : decode b_MD_open 64 = .ok (.getfield 56, 3) := by decide +kernel
theorem d_MD_open_67 : decode b_MD_open 67 = .ok (.bipush 6, 2) := by decide +kernel
theorem d_MD_open_69 : decode b_MD_open 69 = .ok (.bipush 8, 2) := by decide +kernel
theorem d_MD_open_71 : decode b_MD_open 71 = .ok (.aload_n 0, 1) := by decide +kernel
theorem d_MD_open_72 : decode b_MD_open 72 = .ok (.getfield 16, 3) := by decide +kernel
theorem d_MD_open_75 : decode b_MD_open 75 = .ok (.iconst 1, 1) := by decide +kernel
theorem d_MD_open_76 : decode b_MD_open 76 = .ok (.iaload, 1) := by decide +kernel
theorem d_MD_open_77 : decode b_MD_open 77 = .ok (.imul, 1) := by decide +kernel
theorem d_MD_open_78 : decode b_MD_open 78 = .ok (.iadd, 1) := by decide +kernel
theorem d_MD_open_79 : decode b_MD_open 79 = .ok (.if_icmp .ge 5, 3) := by decide +kernel
theorem d_MD_open_82 : decode b_MD_open 82 = .ok (.iconst (-1), 1) := by decide +kernel
theorem d_MD_open_83 : decode b_MD_open 83 = .ok (.ireturn, 1) := by decide +kernel
theorem d_MD_open_84 : decode b_MD_open 84 = .ok (.aload_n 0, 1) := by decide +kernel
theorem d_MD_open_85 : decode b_MD_open 85 = .ok (.iload_n 1, 1) := by decide +kernel
theorem d_MD_open_86 : decode b_MD_open 86 = .ok (.invokevirtual 86, 3) := by decide +kernel
theorem d_MD_open_89 : decode b_MD_open 89 = .ok (.istore_n 2, 1) := by decide +kernel
theorem d_MD_open_90 : decode b_MD_open 90 = .ok (.iload_n 2, 1) := by decide +kernel
theorem d_MD_open_91 : decode b_MD_open 91 = .ok (.ifCond .ge 6, 3) := by decide +kernel
theorem d_MD_open_94 : decode b_MD_open 94 = .ok (.bipush (-2), 2) := by decide +kernel
theorem d_MD_open_96 : decode b_MD_open 96 = .ok (.ireturn, 1) := by decide +kernel
theorem d_MD_open_97 : decode b_MD_open 97 = .ok (.iconst 2, 1) := by decide +kernel
theorem d_MD_open_98 : decode b_MD_open 98 = .ok (.aload_n 0, 1) := by decide +kernel
theorem d_MD_open_99 : decode b_MD_open 99 = .ok (.getfield 7, 3) := by decide +kernel
theorem d_MD_open_102 : decode b_MD_open 102 = .ok (.iload_n 1, 1) := by decide +kernel
theorem d_MD_open_103 : decode b_MD_open 103 = .ok (.iaload, 1) := by decide +kernel
theorem d_MD_open_104 : decode b_MD_open 104 = .ok (.invokestatic 49, 3) := by decide +kernel
theorem d_MD_open_107 : decode b_MD_open 107 = .ok (.istore_n 3, 1) := by decide +kernel
theorem d_MD_open_108 : decode b_MD_open 108 = .ok (.aload_n 0, 1) := by decide +kernel
theorem d_MD_open_109 : decode b_MD_open 109 = .ok (.iload_n 2, 1) := by decide +kernel
theorem d_MD_open_110 : decode b_MD_open 110 = .ok (.invokevirtual 77, 3) := by decide +kernel
theorem d_MD_open_113 : decode b_MD_open 113 = .ok (.aload_n 0, 1) := by decide +kernel
theorem d_MD_open_114 : decode b_MD_open 114 = .ok (.getfield 7, 3) := by decide +kernel
theorem d_MD_open_117 : decode b_MD_open 117 = .ok (.iload_n 1, 1) := by decide +kernel
theorem d_MD_open_118 : decode b_MD_open 118 = .ok (.iaload, 1) := by decide +kernel
theorem d_MD_open_119 : decode b_MD_open 119 = .ok (.invokestatic 49, 3) := by decide +kernel
theorem d_MD_open_122 : decode b_MD_open 122 = .ok (.istore 4, 2) := by decide +kernel
theorem d_MD_open_124 : decode b_MD_open 124 = .ok (.aload_n 0, 1) := by decide +kernel
theorem d_MD_open_125 : decode b_MD_open 125 = .ok (.iload_n 2, 1) := by decide +kernel
theorem d_MD_open_126 : decode b_MD_open 126 = .ok (.iconst 2, 1) := by decide +kernel
theorem d_MD_open_127 : decode b_MD_open 127 = .ok (.iadd, 1) := by decide +kernel
theorem d_MD_open_128 : decode b_MD_open 128 = .ok (.invokevirtual 77, 3) := by decide +kernel
theorem d_MD_open_131 : decode b_MD_open 131 = .ok (.bipush 16, 2) := by decide +kernel
theorem d_MD_open_133 : decode b_MD_open 133 = .ok (.ishl, 1) := by decide +kernel
theorem d_MD_open_134 : decode b_MD_open 134 = .ok (.aload_n 0, 1) := by decide +kernel
theorem d_MD_open_135 : decode b_MD_open 135 = .ok (.iload_n 2, 1) := by decide +kernel
theorem d_MD_open_136 : decode b_MD_open 136 = .ok (.iconst 4, 1) := by decide +kernel
theorem d_MD_open_137 : decode b_MD_open 137 = .ok (.iadd, 1) := by decide +kernel
theorem d_MD_open_138 : decode b_MD_open 138 = .ok (.invokevirtual 77, 3) := by decide +kernel
theorem d_MD_open_141 : decode b_MD_open 141 = .ok (.ior, 1) := by decide +kernel
theorem d_MD_open_142 : decode b_MD_open 142 = .ok (.iload 4, 2) := by decide +kernel
theorem d_MD_open_144 : decode b_MD_open 144 = .ok (.iload_n 3, 1) := by decide +kernel
theorem d_MD_open_145 : decode b_MD_open 145 = .ok (.iconst 1, 1) := by decide +kernel
theorem d_MD_open_146 : decode b_MD_open 146 = .ok (.invokestatic 63, 3) := by decide +kernel
theorem d_MD_open_149 : decode b_MD_open 149 = .ok (.ixor, 1) := by decide +kernel
theorem d_MD_open_150 : decode b_MD_open 150 = .ok (.istore 5, 2) := by decide +kernel
theorem d_MD_open_152 : decode b_MD_open 152 = .ok (.iconst 2, 1) := by decide +kernel
theorem d_MD_open_153 : decode b_MD_open 153 = .ok (.bipush 8, 2) := by decide +kernel
theorem d_MD_open_155 : decode b_MD_open 155 = .ok (.aload_n 0, 1) := by decide +kernel
theorem d_MD_open_156 : decode b_MD_open 156 = .ok (.getfield 16, 3) := by decide +kernel
theorem d_MD_open_159 : decode b_MD_open 159 = .ok (.iconst 1, 1) := by decide +kernel
theorem d_MD_open_160 : decode b_MD_open 160 = .ok (.iaload, 1) := by decide +kernel
theorem d_MD_open_161 : decode b_MD_open 161 = .ok (.imul, 1) := by decide +kernel
theorem d_MD_open_162 : decode b_MD_open 162 = .ok (.iadd, 1) := by decide +kernel
theorem d_MD_open_163 : decode b_MD_open 163 = .ok (.istore 6, 2) := by decide +kernel
theorem d_MD_open_165 : decode b_MD_open 165 = .ok (.aload_n 0, 1) := by decide +kernel
theorem d_MD_open_166 : decode b_MD_open 166 = .ok (.iload 6, 2) := by decide +kernel
theorem d_MD_open_168 : decode b_MD_open 168 = .ok (.invokevirtual 77, 3) := by decide +kernel
theorem d_MD_open_171 : decode b_MD_open 171 = .ok (.aload_n 0, 1) := by decide +kernel
theorem d_MD_open_172 : decode b_MD_open 172 = .ok (.iconst 0, 1) := by decide +kernel
theorem d_MD_open_173 : decode b_MD_open 173 = .ok (.iload 6, 2) := by decide +kernel
theorem d_MD_open_175 : decode b_MD_open 175 = .ok (.iload 5, 2) := by decide +kernel
theorem d_MD_open_177 : decode b_MD_open 177 = .ok (.iconst 0, 1) := by decide +kernel
theorem d_MD_open_178 : decode b_MD_open 178 = .ok (.iconst 3, 1) := by decide +kernel
theorem d_MD_open_179 : decode b_MD_open 179 = .ok (.invokestatic 63, 3) := by decide +kernel
theorem d_MD_open_182 : decode b_MD_open 182 = .ok (.invokevirtual 70, 3) := by decide +kernel
theorem d_MD_open_185 : decode b_MD_open 185 = .ok (.if_icmp .eq 6, 3) := by decide +kernel
theorem d_MD_open_188 : decode b_MD_open 188 = .ok (.bipush (-3), 2) := by decide +kernel
theorem d_MD_open_190 : decode b_MD_open 190 = .ok (.ireturn, 1) := by decide +kernel
theorem d_MD_open_191 : decode b_MD_open 191 = .ok (.iload 6, 2) := by decide +kernel
theorem d_MD_open_193 : decode b_MD_open 193 = .ok (.iconst 2, 1) := by decide +kernel
theorem d_MD_open_194 : decode b_MD_open 194 = .ok (.iadd, 1) := by decide +kernel
theorem d_MD_open_195 : decode b_MD_open 195 = .ok (.istore 6, 2) := by decide +kernel
theorem d_MD_open_197 : decode b_MD_open 197 = .ok (.aload_n 0, 1) := by decide +kernel
theorem d_MD_open_198 : decode b_MD_open 198 = .ok (.iconst 0, 1) := by decide +kernel
theorem d_MD_open_199 : decode b_MD_open 199 = .ok (.putfield 80, 3) := by decide +kernel
theorem d_MD_open_202 : decode b_MD_open 202 = .ok (.iconst 0, 1) := by decide +kernel
theorem d_MD_open_203 : decode b_MD_open 203 = .ok (.istore 7, 2) := by decide +kernel
theorem d_MD_open_205 : decode b_MD_open 205 = .ok (.iload 6, 2) := by decide +kernel
theorem d_MD_open_207 : decode b_MD_open 207 = .ok (.aload_n 0, 1) := by decide +kernel
theorem d_MD_open_208 : decode b_MD_open 208 = .ok (.getfield 56, 3) := by decide +kernel
theorem d_MD_open_211 : decode b_MD_open 211 = .ok (.if_icmp .ge 115, 3) := by decide +kernel
theorem d_MD_open_214 : decode b_MD_open 214 = .ok (.iload 7, 2) := by decide +kernel
theorem d_MD_open_216 : decode b_MD_open 216 = .ok (.ifCond .ne 110, 3) := by decide +kernel
theorem d_MD_open_219 : decode b_MD_open 219 = .ok (.aload_n 0, 1) := by decide +kernel
theorem d_MD_open_220 : decode b_MD_open 220 = .ok (.getfield 56, 3) := by decide +kernel
theorem d_MD_open_223 : decode b_MD_open 223 = .ok (.iload 6, 2) := by decide +kernel
theorem d_MD_open_225 : decode b_MD_open 225 = .ok (.isub, 1) := by decide +kernel
theorem d_MD_open_226 : decode b_MD_open 226 = .ok (.istore 8, 2) := by decide +kernel
theorem d_MD_open_228 : decode b_MD_open 228 = .ok (.iload 8, 2) := by decide +kernel
theorem d_MD_open_230 : decode b_MD_open 230 = .ok (.bipush 10, 2) := by decide +kernel
theorem d_MD_open_232 : decode b_MD_open 232 = .ok (.if_icmp .le 8, 3) := by decide +kernel
theorem d_MD_open_235 : decode b_MD_open 235 = .ok (.bipush 8, 2) := by decide +kernel
theorem d_MD_open_237 : decode b_MD_open 237 = .ok (.goto 7, 3) := by decide +kernel
theorem d_MD_open_240 : decode b_MD_open 240 = .ok (.iload 8, 2) := by decide +kernel
theorem d_MD_open_242 : decode b_MD_open 242 = .ok (.iconst 2, 1) := by decide +kernel
theorem d_MD_open_243 : decode b_MD_open 243 = .ok (.isub, 1) := by decide +kernel
theorem d_MD_open_244 : decode b_MD_open 244 = .ok (.istore 9, 2) := by decide +kernel
theorem d_MD_open_246 : decode b_MD_open 246 = .ok (.iload 8, 2) := by decide +kernel
theorem d_MD_open_248 : decode b_MD_open 248 = .ok (.iconst 1, 1) := by decide +kernel
theorem d_MD_open_249 : decode b_MD_open 249 = .ok (.if_icmp .ne 8, 3) := by decide +kernel
theorem d_MD_open_252 : decode b_MD_open 252 = .ok (.bipush (-4), 2) := by decide +kernel
theorem d_MD_open_254 : decode b_MD_open 254 = .ok (.goto 29, 3) := by decide +kernel
theorem d_MD_open_257 : decode b_MD_open 257 = .ok (.aload_n 0, 1) := by decide +kernel
theorem d_MD_open_258 : decode b_MD_open 258 = .ok (.iload 6, 2) := by decide +kernel
theorem d_MD_open_260 : decode b_MD_open 260 = .ok (.iload 9, 2) := by decide +kernel
theorem d_MD_open_262 : decode b_MD_open 262 = .ok (.aload_n 0, 1) := by decide +kernel
theorem d_MD_open_263 : decode b_MD_open 263 = .ok (.getfield 83, 3) := by decide +kernel
theorem d_MD_open_266 : decode b_MD_open 266 = .ok (.iload 5, 2) := by decide +kernel
theorem d_MD_open_268 : decode b_MD_open 268 = .ok (.iload 8, 2) := by decide +kernel
theorem d_MD_open_270 : decode b_MD_open 270 = .ok (.bipush 10, 2) := by decide +kernel
theorem d_MD_open_272 : decode b_MD_open 272 = .ok (.if_icmp .gt 7, 3) := by decide +kernel
theorem d_MD_open_275 : decode b_MD_open 275 = .ok (.iconst 1, 1) := by decide +kernel
theorem d_MD_open_276 : decode b_MD_open 276 = .ok (.goto 4, 3) := by decide +kernel
theorem d_MD_open_279 : decode b_MD_open 279 = .ok (.iconst 0, 1) := by decide +kernel
theorem d_MD_open_280 : decode b_MD_open 280 = .ok (.invokevirtual 89, 3) := by decide +kernel
theorem d_MD_open_283 : decode b_MD_open 283 = .ok (.istore 7, 2) := by decide +kernel
theorem d_MD_open_285 : decode b_MD_open 285 = .ok (.iload 7, 2) := by decide +kernel
theorem d_MD_open_287 : decode b_MD_open 287 = .ok (.ifCond .ne 36, 3) := by decide +kernel
theorem d_MD_open_290 : decode b_MD_open 290 = .ok (.aload_n 0, 1) := by decide +kernel
theorem d_MD_open_291 : decode b_MD_open 291 = .ok (.iload 6, 2) := by decide +kernel
theorem d_MD_open_293 : decode b_MD_open 293 = .ok (.iload 9, 2) := by decide +kernel
theorem d_MD_open_295 : decode b_MD_open 295 = .ok (.aload_n 0, 1) := by decide +kernel
theorem d_MD_open_296 : decode b_MD_open 296 = .ok (.getfield 83, 3) := by decide +kernel
theorem d_MD_open_299 : decode b_MD_open 299 = .ok (.iload 5, 2) := by decide +kernel
theorem d_MD_open_301 : decode b_MD_open 301 = .ok (.invokevirtual 93, 3) := by decide +kernel
theorem d_MD_open_304 : decode b_MD_open 304 = .ok (.aload_n 0, 1) := by decide +kernel
theorem d_MD_open_305 : decode b_MD_open 305 = .ok (.dup, 1) := by decide +kernel
theorem d_MD_open_306 : decode b_MD_open 306 = .ok (.getfield 83, 3) := by decide +kernel
theorem d_MD_open_309 : decode b_MD_open 309 = .ok (.iconst 1, 1) := by decide +kernel
theorem d_MD_open_310 : decode b_MD_open 310 = .ok (.iadd, 1) := by decide +kernel
theorem d_MD_open_311 : decode b_MD_open 311 = .ok (.putfield 83, 3) := by decide +kernel
theorem d_MD_open_314 : decode b_MD_open 314 = .ok (.iload 6, 2) := by decide +kernel
theorem d_MD_open_316 : decode b_MD_open 316 = .ok (.iload 9, 2) := by decide +kernel
theorem d_MD_open_318 : decode b_MD_open 318 = .ok (.iadd, 1) := by decide +kernel
theorem d_MD_open_319 : decode b_MD_open 319 = .ok (.iconst 2, 1) := by decide +kernel
theorem d_MD_open_320 : decode b_MD_open 320 = .ok (.iadd, 1) := by decide +kernel
theorem d_MD_open_321 : decode b_MD_open 321 = .ok (.istore 6, 2) := by decide +kernel
theorem d_MD_open_323 : decode b_MD_open 323 = .ok (.goto (-118), 3) := by decide +kernel
theorem d_MD_open_326 : decode b_MD_open 326 = .ok (.aload_n 0, 1) := by decide +kernel
theorem d_MD_open_327 : decode b_MD_open 327 = .ok (.aload_n 0, 1) := by decide +kernel
theorem d_MD_open_328 : decode b_MD_open 328 = .ok (.getfield 80, 3) := by decide +kernel
theorem d_MD_open_331 : decode b_MD_open 331 = .ok (.putfield 53, 3) := by decide +kernel
theorem d_MD_open_334 : decode b_MD_open 334 = .ok (.iconst 0, 1) := by decide +kernel
theorem d_MD_open_335 : decode b_MD_open 335 = .ok (.istore 8, 2) := by decide +kernel
theorem d_MD_open_337 : decode b_MD_open 337 = .ok (.iload 8, 2) := by decide +kernel
theorem d_MD_open_339 : decode b_MD_open 339 = .ok (.aload_n 0, 1) := by decide +kernel
theorem d_MD_open_340 : decode b_MD_open 340 = .ok (.getfield 80, 3) := by decide +kernel
theorem d_MD_open_343 : decode b_MD_open 343 = .ok (.if_icmp .ge 23, 3) := by decide +kernel
theorem d_MD_open_346 : decode b_MD_open 346 = .ok (.aload_n 0, 1) := by decide +kernel
theorem d_MD_open_347 : decode b_MD_open 347 = .ok (.getfield 13, 3) := by decide +kernel
theorem d_MD_open_350 : decode b_MD_open 350 = .ok (.iload 8, 2) := by decide +kernel
theorem d_MD_open_352 : decode b_MD_open 352 = .ok (.aload_n 0, 1) := by decide +kernel
theorem d_MD_open_353 : decode b_MD_open 353 = .ok (.getfield 19, 3) := by decide +kernel
theorem d_MD_open_356 : decode b_MD_open 356 = .ok (.iload 8, 2) := by decide +kernel
theorem d_MD_open_358 : decode b_MD_open 358 = .ok (.iaload, 1) := by decide +kernel
theorem d_MD_open_359 : decode b_MD_open 359 = .ok (.iastore, 1) := by decide +kernel
theorem d_MD_open_360 : decode b_MD_open 360 = .ok (.iinc 8 1, 3) := by decide +kernel
theorem d_MD_open_363 : decode b_MD_open 363 = .ok (.goto (-26), 3) := by decide +kernel
theorem d_MD_open_366 : decode b_MD_open 366 = .ok (.iload 7, 2) := by decide +kernel
theorem d_MD_open_368 : decode b_MD_open 368 = .ok (.ifCond .ge 8, 3) := by decide +kernel
theorem d_MD_open_371 : decode b_MD_open 371 = .ok (.iload 7, 2) := by decide +kernel
theorem d_MD_open_373 : decode b_MD_open 373 = .ok (.goto 7, 3) := by decide +kernel
theorem d_MD_open_376 : decode b_MD_open 376 = .ok (.aload_n 0, 1) := by decide +kernel
theorem d_MD_open_377 : decode b_MD_open 377 = .ok (.getfield 53, 3) := by decide +kernel
theorem d_MD_open_380 : decode b_MD_open 380 = .ok (.ireturn, 1) := by decide +kernel
theorem d_MD_piece_0 : decode b_MD_piece 0 = .ok (.aload_n 0, 1) := by decide +kernel
theorem d_MD_piece_1 : decode b_MD_piece 1 = .ok (.iload_n 1, 1) := by decide +kernel
theorem d_MD_piece_2 : decode b_MD_piece 2 = .ok (.iload_n 2, 1) := by decide +kernel
theorem d_MD_piece_3 : decode b_MD_piece 3 = .ok (.iadd, 1) := by decide +kernel
theorem d_MD_piece_4 : decode b_MD_piece 4 = .ok (.invokevirtual 77, 3) := by decide +kernel
theorem d_MD_piece_7 : decode b_MD_piece 7 = .ok (.istore 6, 2) := by decide +kernel
theorem d_MD_piece_9 : decode b_MD_piece 9 = .ok (.iload 6, 2) := by decide +kernel
theorem d_MD_piece_11 : decode b_MD_piece 11 = .ok (.aload_n 0, 1) := by decide +kernel
theorem d_MD_piece_12 : decode b_MD_piece 12 = .ok (.iload_n 1, 1) := by decide +kernel
theorem d_MD_piece_13 : decode b_MD_piece 13 = .ok (.iload_n 1, 1) := by decide +kernel
theorem d_MD_piece_14 : decode b_MD_piece 14 = .ok (.iload_n 2, 1) := by decide +kernel
theorem d_MD_piece_15 : decode b_MD_piece 15 = .ok (.iadd, 1) := by decide +kernel
theorem d_MD_piece_16 : decode b_MD_piece 16 = .ok (.iload 4, 2) := by decide +kernel
theorem d_MD_piece_18 : decode b_MD_piece 18 = .ok (.iload_n 3, 1) := by decide +kernel
theorem d_MD_piece_19 : decode b_MD_piece 19 = .ok (.iload 5, 2) := by decide +kernel
theorem d_MD_piece_21 : decode b_MD_piece 21 = .ok (.ifCond .eq 8, 3) := by decide +kernel
theorem d_MD_piece_24 : decode b_MD_piece 24 = .ok (.bipush 6, 2) := by decide +kernel
theorem d_MD_piece_26 : decode b_MD_piece 26 = .ok (.goto 4, 3) := by decide +kernel
theorem d_MD_piece_29 : decode b_MD_piece 29 = .ok (.iconst 5, 1) := by decide +kernel
theorem d_MD_piece_30 : decode b_MD_piece 30 = .ok (.invokestatic 63, 3) := by decide +kernel
theorem d_MD_piece_33 : decode b_MD_piece 33 = .ok (.invokevirtual 70, 3) := by decide +kernel
theorem d_MD_piece_36 : decode b_MD_piece 36 = .ok (.if_icmp .ne 5, 3) := by decide +kernel
theorem d_MD_piece_39 : decode b_MD_piece 39 = .ok (.iconst 0, 1) := by decide +kernel
theorem d_MD_piece_40 : decode b_MD_piece 40 = .ok (.ireturn, 1) := by decide +kernel
theorem d_MD_piece_41 : decode b_MD_piece 41 = .ok (.iload 6, 2) := by decide +kernel
theorem d_MD_piece_43 : decode b_MD_piece 43 = .ok (.aload_n 0, 1) := by decide +kernel
theorem d_MD_piece_44 : decode b_MD_piece 44 = .ok (.iload_n 1, 1) := by decide +kernel
theorem d_MD_piece_45 : decode b_MD_piece 45 = .ok (.iload_n 1, 1) := by decide +kernel
theorem d_MD_piece_46 : decode b_MD_piece 46 = .ok (.iload_n 2, 1) := by decide +kernel
theorem d_MD_piece_47 : decode b_MD_piece 47 = .ok (.iadd, 1) := by decide +kernel
theorem d_MD_piece_48 : decode b_MD_piece 48 = .ok (.iload 4, 2) := by decide +kernel
theorem d_MD_piece_50 : decode b_MD_piece 50 = .ok (.iload_n 3, 1) := by decide +kernel
theorem d_MD_piece_51 : decode b_MD_piece 51 = .ok (.iload 5, 2) := by decide +kernel
theorem d_MD_piece_53 : decode b_MD_piece 53 = .ok (.ifCond .eq 7, 3) := by decide +kernel
theorem d_MD_piece_56 : decode b_MD_piece 56 = .ok (.iconst 5, 1) := by decide +kernel
theorem d_MD_piece_57 : decode b_MD_piece 57 = .ok (.goto 5, 3) := by decide +kernel
theorem d_MD_piece_60 : decode b_MD_piece 60 = .ok (.bipush 6, 2) := by decide +kernel
theorem d_MD_piece_62 : decode b_MD_piece 62 = .ok (.invokestatic 63, 3) := by decide +kernel
theorem d_MD_piece_65 : decode b_MD_piece 65 = .ok (.invokevirtual 70, 3) := by decide +kernel
theorem d_MD_piece_68 : decode b_MD_piece 68 = .ok (.if_icmp .ne 8, 3) := by decide +kernel
theorem d_MD_piece_71 : decode b_MD_piece 71 = .ok (.bipush (-5), 2) := by decide +kernel
theorem d_MD_piece_73 : decode b_MD_piece 73 = .ok (.goto 5, 3) := by decide +kernel
theorem d_MD_piece_76 : decode b_MD_piece 76 = .ok (.bipush (-4), 2) := by decide +kernel
theorem d_MD_piece_78 : decode b_MD_piece 78 = .ok (.ireturn, 1) := by decide +kernel
theorem d_MD_pieces_0 : decode b_MD_pieces 0 = .ok (.aload_n 0, 1) := by decide +kernel
theorem d_MD_pieces_1 : decode b_MD_pieces 1 = .ok (.iconst 0, 1) := by decide +kernel
theorem d_MD_pieces_2 : decode b_MD_pieces 2 = .ok (.putfield 26, 3) := by decide +kernel
theorem d_MD_pieces_5 : decode b_MD_pieces 5 = .ok (.aload_n 0, 1) := by decide +kernel
theorem d_MD_pieces_6 : decode b_MD_pieces 6 = .ok (.getfield 83, 3) := by decide +kernel
theorem d_MD_pieces_9 : decode b_MD_pieces 9 = .ok (.ireturn, 1) := by decide +kernel
theorem d_MD_power_0 : decode b_MD_power 0 = .ok (.iconst 1, 1) := by decide +kernel
theorem d_MD_power_1 : decode b_MD_power 1 = .ok (.istore_n 2, 1) := by decide +kernel
theorem d_MD_power_2 : decode b_MD_power 2 = .ok (.iload_n 0, 1) := by decide +kernel
theorem d_MD_power_3 : decode b_MD_power 3 = .ok (.sipush 32749, 3) := by decide +kernel
theorem d_MD_power_6 : decode b_MD_power 6 = .ok (.irem, 1) := by decide +kernel
theorem d_MD_power_7 : decode b_MD_power 7 = .ok (.istore_n 3, 1) := by decide +kernel
theorem d_MD_power_8 : decode b_MD_power 8 = .ok (.iconst 0, 1) := by decide +kernel
theorem d_MD_power_9 : decode b_MD_power 9 = .ok (.istore 4, 2) := by decide +kernel
theorem d_MD_power_11 : decode b_MD_power 11 = .ok (.iload 4, 2) := by decide +kernel
theorem d_MD_power_13 : decode b_MD_power 13 = .ok (.bipush 16, 2) := by decide +kernel
theorem d_MD_power_15 : decode b_MD_power 15 = .ok (.if_icmp .ge 39, 3) := by decide +kernel
theorem d_MD_power_18 : decode b_MD_power 18 = .ok (.iload_n 1, 1) := by decide +kernel
theorem d_MD_power_19 : decode b_MD_power 19 = .ok (.iload 4, 2) := by decide +kernel
theorem d_MD_power_21 : decode b_MD_power 21 = .ok (.ishr, 1) := by decide +kernel
theorem d_MD_power_22 : decode b_MD_power 22 = .ok (.iconst 1, 1) := by decide +kernel
theorem d_MD_power_23 : decode b_MD_power 23 = .ok (.iand, 1) := by decide +kernel
theorem d_MD_power_24 : decode b_MD_power 24 = .ok (.iconst 1, 1) := by decide +kernel
theorem d_MD_power_25 : decode b_MD_power 25 = .ok (.if_icmp .ne 13, 3) := by decide +kernel
theorem d_MD_power_28 : decode b_MD_power 28 = .ok (.iload_n 2, 1) := by decide +kernel
theorem d_MD_power_29 : decode b_MD_power 29 = .ok (.iload_n 3, 1) := by decide +kernel
theorem d_MD_power_30 : decode b_MD_power 30 = .ok (.imul, 1) := by decide +kernel
theorem d_MD_power_31 : decode b_MD_power 31 = .ok (.sipush 32749, 3) := by decide +kernel
theorem d_MD_power_34 : decode b_MD_power 34 = .ok (.irem, 1) := by decide +kernel
theorem d_MD_power_35 : decode b_MD_power 35 = .ok (.goto 4, 3) := by decide +kernel
theorem d_MD_power_38 : decode b_MD_power 38 = .ok (.iload_n 2, 1) := by decide +kernel
theorem d_MD_power_39 : decode b_MD_power 39 = .ok (.istore_n 2, 1) := by decide +kernel
theorem d_MD_power_40 : decode b_MD_power 40 = .ok (.iload_n 3, 1) := by decide +kernel
theorem d_MD_power_41 : decode b_MD_power 41 = .ok (.iload_n 3, 1) := by decide +kernel
theorem d_MD_power_42 : decode b_MD_power 42 = .ok (.imul, 1) := by decide +kernel
theorem d_MD_power_43 : decode b_MD_power 43 = .ok (.sipush 32749, 3) := by decide +kernel
theorem d_MD_power_46 : decode b_MD_power 46 = .ok (.irem, 1) := by decide +kernel
theorem d_MD_power_47 : decode b_MD_power 47 = .ok (.istore_n 3, 1) := by decide +kernel
theorem d_MD_power_48 : decode b_MD_power 48 = .ok (.iinc 4 1, 3) := by decide +kernel
theorem d_MD_power_51 : decode b_MD_power 51 = .ok (.goto (-40), 3) := by decide +kernel
theorem d_MD_power_54 : decode b_MD_power 54 = .ok (.iload_n 2, 1) := by decide +kernel
theorem d_MD_power_55 : decode b_MD_power 55 = .ok (.ireturn, 1) := by decide +kernel
theorem d_MD_print_0 : decode b_MD_print 0 = .ok (.aload_n 0, 1) := by decide +kernel
theorem d_MD_print_1 : decode b_MD_print 1 = .ok (.iconst 0, 1) := by decide +kernel
theorem d_MD_print_2 : decode b_MD_print 2 = .ok (.putfield 26, 3) := by decide +kernel
theorem d_MD_print_5 : decode b_MD_print 5 = .ok (.iload_n 1, 1) := by decide +kernel
theorem d_MD_print_6 : decode b_MD_print 6 = .ok (.ifCond .lt 24, 3) := by decide +kernel
theorem d_MD_print_9 : decode b_MD_print 9 = .ok (.iload_n 1, 1) := by decide +kernel
theorem d_MD_print_10 : decode b_MD_print 10 = .ok (.sipush 160, 3) := by decide +kernel
theorem d_MD_print_13 : decode b_MD_print 13 = .ok (.if_icmp .ge 17, 3) := by decide +kernel
theorem d_MD_print_16 : decode b_MD_print 16 = .ok (.bipush 6, 2) := by decide +kernel
theorem d_MD_print_18 : decode b_MD_print 18 = .ok (.iload_n 1, 1) := by decide +kernel
theorem d_MD_print_19 : decode b_MD_print 19 = .ok (.imul, 1) := by decide +kernel
theorem d_MD_print_20 : decode b_MD_print 20 = .ok (.bipush 8, 2) := by decide +kernel
theorem d_MD_print_22 : decode b_MD_print 22 = .ok (.aload_n 0, 1) := by decide +kernel
theorem d_MD_print_23 : decode b_MD_print 23 = .ok (.getfield 56, 3) := by decide +kernel
theorem d_MD_print_26 : decode b_MD_print 26 = .ok (.imul, 1) := by decide +kernel
theorem d_MD_print_27 : decode b_MD_print 27 = .ok (.if_icmp .lt 5, 3) := by decide +kernel
theorem d_MD_print_30 : decode b_MD_print 30 = .ok (.iconst (-1), 1) := by decide +kernel
theorem d_MD_print_31 : decode b_MD_print 31 = .ok (.ireturn, 1) := by decide +kernel
theorem d_MD_print_32 : decode b_MD_print 32 = .ok (.iconst 0, 1) := by decide +kernel
theorem d_MD_print_33 : decode b_MD_print 33 = .ok (.istore_n 2, 1) := by decide +kernel
theorem d_MD_print_34 : decode b_MD_print 34 = .ok (.iconst 0, 1) := by decide +kernel
theorem d_MD_print_35 : decode b_MD_print 35 = .ok (.istore_n 3, 1) := by decide +kernel
theorem d_MD_print_36 : decode b_MD_print 36 = .ok (.iload_n 3, 1) := by decide +kernel
theorem d_MD_print_37 : decode b_MD_print 37 = .ok (.bipush 6, 2) := by decide +kernel
theorem d_MD_print_39 : decode b_MD_print 39 = .ok (.if_icmp .ge 24, 3) := by decide +kernel
theorem d_MD_print_42 : decode b_MD_print 42 = .ok (.iconst 2, 1) := by decide +kernel
theorem d_MD_print_43 : decode b_MD_print 43 = .ok (.iload_n 2, 1) := by decide +kernel
theorem d_MD_print_44 : decode b_MD_print 44 = .ok (.imul, 1) := by decide +kernel
theorem d_MD_print_45 : decode b_MD_print 45 = .ok (.aload_n 0, 1) := by decide +kernel
theorem d_MD_print_46 : decode b_MD_print 46 = .ok (.bipush 6, 2) := by decide +kernel
theorem d_MD_print_48 : decode b_MD_print 48 = .ok (.iload_n 1, 1) := by decide +kernel
theorem d_MD_print_49 : decode b_MD_print 49 = .ok (.imul, 1) := by decide +kernel
theorem d_MD_print_50 : decode b_MD_print 50 = .ok (.iload_n 3, 1) := by decide +kernel
theorem d_MD_print_51 : decode b_MD_print 51 = .ok (.iadd, 1) := by decide +kernel
theorem d_MD_print_52 : decode b_MD_print 52 = .ok (.invokevirtual 97, 3) := by decide +kernel
theorem d_MD_print_55 : decode b_MD_print 55 = .ok (.iadd, 1) := by decide +kernel
theorem d_MD_print_56 : decode b_MD_print 56 = .ok (.istore_n 2, 1) := by decide +kernel
theorem d_MD_print_57 : decode b_MD_print 57 = .ok (.iinc 3 1, 3) := by decide +kernel
theorem d_MD_print_60 : decode b_MD_print 60 = .ok (.goto (-24), 3) := by decide +kernel
theorem d_MD_print_63 : decode b_MD_print 63 = .ok (.iload_n 2, 1) := by decide +kernel
theorem d_MD_print_64 : decode b_MD_print 64 = .ok (.bipush 26, 2) := by decide +kernel
theorem d_MD_print_66 : decode b_MD_print 66 = .ok (.if_icmp .ge 10, 3) := by decide +kernel
theorem d_MD_print_69 : decode b_MD_print 69 = .ok (.bipush 65, 2) := by decide +kernel
theorem d_MD_print_71 : decode b_MD_print 71 = .ok (.iload_n 2, 1) := by decide +kernel
theorem d_MD_print_72 : decode b_MD_print 72 = .ok (.iadd, 1) := by decide +kernel
theorem d_MD_print_73 : decode b_MD_print 73 = .ok (.goto 48, 3) := by decide +kernel
theorem d_MD_print_76 : decode b_MD_print 76 = .ok (.iload_n 2, 1) := by decide +kernel
theorem d_MD_print_77 : decode b_MD_print 77 = .ok (.bipush 52, 2) := by decide +kernel
theorem d_MD_print_79 : decode b_MD_print 79 = .ok (.if_icmp .ge 13, 3) := by decide +kernel
theorem d_MD_print_82 : decode b_MD_print 82 = .ok (.bipush 97, 2) := by decide +kernel
theorem d_MD_print_84 : decode b_MD_print 84 = .ok (.iload_n 2, 1) := by decide +kernel
theorem d_MD_print_85 : decode b_MD_print 85 = .ok (.iadd, 1) := by decide +kernel
theorem d_MD_print_86 : decode b_MD_print 86 = .ok (.bipush 26, 2) := by decide +kernel
theorem d_MD_print_88 : decode b_MD_print 88 = .ok (.isub, 1) := by decide +kernel
theorem d_MD_print_89 : decode b_MD_print 89 = .ok (.goto 32, 3) := by decide +kernel
theorem d_MD_print_92 : decode b_MD_print 92 = .ok (.iload_n 2, 1) := by decide +kernel
theorem d_MD_print_93 : decode b_MD_print 93 = .ok (.bipush 62, 2) := by decide +kernel
theorem d_MD_print_95 : decode b_MD_print 95 = .ok (.if_icmp .ge 13, 3) := by decide +kernel
theorem d_MD_print_98 : decode b_MD_print 98 = .ok (.bipush 48, 2) := by decide +kernel
theorem d_MD_print_100 : decode b_MD_print 100 = .ok (.iload_n 2, 1) := by decide +kernel
theorem d_MD_print_101 : decode b_MD_print 101 = .ok (.iadd, 1) := by decide +kernel
theorem d_MD_print_102 : decode b_MD_print 102 = .ok (.bipush 52, 2) := by decide +kernel
theorem d_MD_print_104 : decode b_MD_print 104 = .ok (.isub, 1) := by decide +kernel
theorem d_MD_print_105 : decode b_MD_print 105 = .ok (.goto 16, 3) := by decide +kernel
theorem d_MD_print_108 : decode b_MD_print 108 = .ok (.iload_n 2, 1) := by decide +kernel
theorem d_MD_print_109 : decode b_MD_print 109 = .ok (.bipush 62, 2) := by decide +kernel
theorem d_MD_print_111 : decode b_MD_print 111 = .ok (.if_icmp .ne 8, 3) := by decide +kernel
theorem d_MD_print_114 : decode b_MD_print 114 = .ok (.bipush 43, 2) := by decide +kernel
theorem d_MD_print_116 : decode b_MD_print 116 = .ok (.goto 5, 3) := by decide +kernel
theorem d_MD_print_119 : decode b_MD_print 119 = .ok (.bipush 45, 2) := by decide +kernel
theorem d_MD_print_121 : decode b_MD_print 121 = .ok (.ireturn, 1) := by decide +kernel
theorem d_MD_put_0 : decode b_MD_put 0 = .ok (.aload_n 0, 1) := by decide +kernel
theorem d_MD_put_1 : decode b_MD_put 1 = .ok (.iconst 0, 1) := by decide +kernel
theorem d_MD_put_2 : decode b_MD_put 2 = .ok (.putfield 26, 3) := by decide +kernel
theorem d_MD_put_5 : decode b_MD_put 5 = .ok (.aload_n 0, 1) := by decide +kernel
theorem d_MD_put_6 : decode b_MD_put 6 = .ok (.getfield 53, 3) := by decide +kernel
theorem d_MD_put_9 : decode b_MD_put 9 = .ok (.bipush 40, 2) := by decide +kernel
theorem d_MD_put_11 : decode b_MD_put 11 = .ok (.if_icmp .eq 14, 3) := by decide +kernel
theorem d_MD_put_14 : decode b_MD_put 14 = .ok (.iload_n 1, 1) := by decide +kernel
theorem d_MD_put_15 : decode b_MD_put 15 = .ok (.ifCond .lt 10, 3) := by decide +kernel
theorem d_MD_put_18 : decode b_MD_put 18 = .ok (.iload_n 1, 1) := by decide +kernel
theorem d_MD_put_19 : decode b_MD_put 19 = .ok (.sipush 255, 3) := by decide +kernel
theorem d_MD_put_22 : decode b_MD_put 22 = .ok (.if_icmp .le 5, 3) := by decide +kernel
theorem d_MD_put_25 : decode b_MD_put 25 = .ok (.iconst 0, 1) := by decide +kernel
theorem d_MD_put_26 : decode b_MD_put 26 = .ok (.ireturn, 1) := by decide +kernel
theorem d_MD_put_27 : decode b_MD_put 27 = .ok (.aload_n 0, 1) := by decide +kernel
theorem d_MD_put_28 : decode b_MD_put 28 = .ok (.getfield 13, 3) := by decide +kernel
theorem d_MD_put_31 : decode b_MD_put 31 = .ok (.aload_n 0, 1) := by decide +kernel
theorem d_MD_put_32 : decode b_MD_put 32 = .ok (.getfield 53, 3) := by decide +kernel
theorem d_MD_put_35 : decode b_MD_put 35 = .ok (.iload_n 1, 1) := by decide +kernel
theorem d_MD_put_36 : decode b_MD_put 36 = .ok (.iastore, 1) := by decide +kernel
theorem d_MD_put_37 : decode b_MD_put 37 = .ok (.aload_n 0, 1) := by decide +kernel
theorem d_MD_put_38 : decode b_MD_put 38 = .ok (.dup, 1) := by decide +kernel
theorem d_MD_put_39 : decode b_MD_put 39 = .ok (.getfield 53, 3) := by decide +kernel
theorem d_MD_put_42 : decode b_MD_put 42 = .ok (.iconst 1, 1) := by decide +kernel
theorem d_MD_put_43 : decode b_MD_put 43 = .ok (.iadd, 1) := by decide +kernel
theorem d_MD_put_44 : decode b_MD_put 44 = .ok (.putfield 53, 3) := by decide +kernel
theorem d_MD_put_47 : decode b_MD_put 47 = .ok (.iconst 1, 1) := by decide +kernel
theorem d_MD_put_48 : decode b_MD_put 48 = .ok (.ireturn, 1) := by decide +kernel
theorem d_MD_read_0 : decode b_MD_read 0 = .ok (.aload_n 0, 1) := by decide +kernel
theorem d_MD_read_1 : decode b_MD_read 1 = .ok (.iconst 0, 1) := by decide +kernel
theorem d_MD_read_2 : decode b_MD_read 2 = .ok (.putfield 26, 3) := by decide +kernel
theorem d_MD_read_5 : decode b_MD_read 5 = .ok (.iload_n 1, 1) := by decide +kernel
theorem d_MD_read_6 : decode b_MD_read 6 = .ok (.ifCond .lt 20, 3) := by decide +kernel
theorem d_MD_read_9 : decode b_MD_read 9 = .ok (.iload_n 1, 1) := by decide +kernel
theorem d_MD_read_10 : decode b_MD_read 10 = .ok (.aload_n 0, 1) := by decide +kernel
theorem d_MD_read_11 : decode b_MD_read 11 = .ok (.getfield 53, 3) := by decide +kernel
theorem d_MD_read_14 : decode b_MD_read 14 = .ok (.if_icmp .ge 12, 3) := by decide +kernel
theorem d_MD_read_17 : decode b_MD_read 17 = .ok (.aload_n 0, 1) := by decide +kernel
theorem d_MD_read_18 : decode b_MD_read 18 = .ok (.getfield 13, 3) := by decide +kernel
theorem d_MD_read_21 : decode b_MD_read 21 = .ok (.iload_n 1, 1) := by decide +kernel
theorem d_MD_read_22 : decode b_MD_read 22 = .ok (.iaload, 1) := by decide +kernel
theorem d_MD_read_23 : decode b_MD_read 23 = .ok (.goto 8, 3) := by decide +kernel
theorem d_MD_read_26 : decode b_MD_read 26 = .ok (.aload_n 0, 1) := by decide +kernel
theorem d_MD_read_27 : decode b_MD_read 27 = .ok (.iconst 1, 1) := by decide +kernel
theorem d_MD_read_28 : decode b_MD_read 28 = .ok (.invokevirtual 39, 3) := by decide +kernel
theorem d_MD_read_31 : decode b_MD_read 31 = .ok (.ireturn, 1) := by decide +kernel
theorem d_MD_seal_0 : decode b_MD_seal 0 = .ok (.aload_n 0, 1) := by decide +kernel
theorem d_MD_seal_1 : decode b_MD_seal 1 = .ok (.iconst 0, 1) := by decide +kernel
theorem d_MD_seal_2 : decode b_MD_seal 2 = .ok (.putfield 26, 3) := by decide +kernel
theorem d_MD_seal_5 : decode b_MD_seal 5 = .ok (.iconst 0, 1) := by decide +kernel
theorem d_MD_seal_6 : decode b_MD_seal 6 = .ok (.istore 4, 2) := by decide +kernel
theorem d_MD_seal_8 : decode b_MD_seal 8 = .ok (.iconst 0, 1) := by decide +kernel
theorem d_MD_seal_9 : decode b_MD_seal 9 = .ok (.istore 5, 2) := by decide +kernel
theorem d_MD_seal_11 : decode b_MD_seal 11 = .ok (.iload 5, 2) := by decide +kernel
theorem d_MD_seal_13 : decode b_MD_seal 13 = .ok (.bipush 32, 2) := by decide +kernel
theorem d_MD_seal_15 : decode b_MD_seal 15 = .ok (.if_icmp .ge 43, 3) := by decide +kernel
theorem d_MD_seal_18 : decode b_MD_seal 18 = .ok (.iload_n 1, 1) := by decide +kernel
theorem d_MD_seal_19 : decode b_MD_seal 19 = .ok (.iload 5, 2) := by decide +kernel
theorem d_MD_seal_21 : decode b_MD_seal 21 = .ok (.ishr, 1) := by decide +kernel
theorem d_MD_seal_22 : decode b_MD_seal 22 = .ok (.iconst 1, 1) := by decide +kernel
theorem d_MD_seal_23 : decode b_MD_seal 23 = .ok (.iand, 1) := by decide +kernel
theorem d_MD_seal_24 : decode b_MD_seal 24 = .ok (.ifCond .ne 8, 3) := by decide +kernel
theorem d_MD_seal_27 : decode b_MD_seal 27 = .ok (.iload 4, 2) := by decide +kernel
theorem d_MD_seal_29 : decode b_MD_seal 29 = .ok (.goto 21, 3) := by decide +kernel
theorem d_MD_seal_32 : decode b_MD_seal 32 = .ok (.iload 5, 2) := by decide +kernel
theorem d_MD_seal_34 : decode b_MD_seal 34 = .ok (.aload_n 0, 1) := by decide +kernel
theorem d_MD_seal_35 : decode b_MD_seal 35 = .ok (.getfield 42, 3) := by decide +kernel
theorem d_MD_seal_38 : decode b_MD_seal 38 = .ok (.if_icmp .ge 10, 3) := by decide +kernel
theorem d_MD_seal_41 : decode b_MD_seal 41 = .ok (.iload 4, 2) := by decide +kernel
theorem d_MD_seal_43 : decode b_MD_seal 43 = .ok (.iconst 1, 1) := by decide +kernel
theorem d_MD_seal_44 : decode b_MD_seal 44 = .ok (.iadd, 1) := by decide +kernel
theorem d_MD_seal_45 : decode b_MD_seal 45 = .ok (.goto 5, 3) := by decide +kernel
theorem d_MD_seal_48 : decode b_MD_seal 48 = .ok (.bipush 100, 2) := by decide +kernel
theorem d_MD_seal_50 : decode b_MD_seal 50 = .ok (.istore 4, 2) := by decide +kernel
theorem d_MD_seal_52 : decode b_MD_seal 52 = .ok (.iinc 5 1, 3) := by decide +kernel
theorem d_MD_seal_55 : decode b_MD_seal 55 = .ok (.goto (-44), 3) := by decide +kernel
theorem d_MD_seal_58 : decode b_MD_seal 58 = .ok (.iload 4, 2) := by decide +kernel
theorem d_MD_seal_60 : decode b_MD_seal 60 = .ok (.iconst 1, 1) := by decide +kernel
theorem d_MD_seal_61 : decode b_MD_seal 61 = .ok (.if_icmp .lt 9, 3) := by decide +kernel
theorem d_MD_seal_64 : decode b_MD_seal 64 = .ok (.iload 4, 2) := by decide +kernel
theorem d_MD_seal_66 : decode b_MD_seal 66 = .ok (.iconst 3, 1) := by decide +kernel
theorem d_MD_seal_67 : decode b_MD_seal 67 = .ok (.if_icmp .le 9, 3) := by decide +kernel
theorem d_MD_seal_70 : decode b_MD_seal 70 = .ok (.aload_n 0, 1) := by decide +kernel
theorem d_MD_seal_71 : decode b_MD_seal 71 = .ok (.iconst 1, 1) := by decide +kernel
theorem d_MD_seal_72 : decode b_MD_seal 72 = .ok (.invokevirtual 39, 3) := by decide +kernel
theorem d_MD_seal_75 : decode b_MD_seal 75 = .ok (.ireturn, 1) := by decide +kernel
theorem d_MD_seal_76 : decode b_MD_seal 76 = .ok (.aload_n 0, 1) := by decide +kernel
theorem d_MD_seal_77 : decode b_MD_seal 77 = .ok (.iconst 0, 1) := by decide +kernel
theorem d_MD_seal_78 : decode b_MD_seal 78 = .ok (.putfield 56, 3) := by decide +kernel
theorem d_MD_seal_81 : decode b_MD_seal 81 = .ok (.aload_n 0, 1) := by decide +kernel
theorem d_MD_seal_82 : decode b_MD_seal 82 = .ok (.bipush 83, 2) := by decide +kernel
theorem d_MD_seal_84 : decode b_MD_seal 84 = .ok (.invokevirtual 59, 3) := by decide +kernel
theorem d_MD_seal_87 : decode b_MD_seal 87 = .ok (.aload_n 0, 1) := by decide +kernel
theorem d_MD_seal_88 : decode b_MD_seal 88 = .ok (.iload 4, 2) := by decide +kernel
theorem d_MD_seal_90 : decode b_MD_seal 90 = .ok (.invokevirtual 59, 3) := by decide +kernel
theorem d_MD_seal_93 : decode b_MD_seal 93 = .ok (.iconst 0, 1) := by decide +kernel
theorem d_MD_seal_94 : decode b_MD_seal 94 = .ok (.istore 5, 2) := by decide +kernel
theorem d_MD_seal_96 : decode b_MD_seal 96 = .ok (.iload 5, 2) := by decide +kernel
theorem d_MD_seal_98 : decode b_MD_seal 98 = .ok (.aload_n 0, 1) := by decide +kernel
theorem d_MD_seal_99 : decode b_MD_seal 99 = .ok (.getfield 42, 3) := by decide +kernel
theorem d_MD_seal_102 : decode b_MD_seal 102 = .ok (.if_icmp .ge 27, 3) := by decide +kernel
theorem d_MD_seal_105 : decode b_MD_seal 105 = .ok (.iload_n 1, 1) := by decide +kernel
theorem d_MD_seal_106 : decode b_MD_seal 106 = .ok (.iload 5, 2) := by decide +kernel
theorem d_MD_seal_108 : decode b_MD_seal 108 = .ok (.ishr, 1) := by decide +kernel
theorem d_MD_seal_109 : decode b_MD_seal 109 = .ok (.iconst 1, 1) := by decide +kernel
theorem d_MD_seal_110 : decode b_MD_seal 110 = .ok (.iand, 1) := by decide +kernel
theorem d_MD_seal_111 : decode b_MD_seal 111 = .ok (.iconst 1, 1) := by decide +kernel
theorem d_MD_seal_112 : decode b_MD_seal 112 = .ok (.if_icmp .ne 11, 3) := by decide +kernel
theorem d_MD_seal_115 : decode b_MD_seal 115 = .ok (.aload_n 0, 1) := by decide +kernel
theorem d_MD_seal_116 : decode b_MD_seal 116 = .ok (.iload 5, 2) := by decide +kernel
theorem d_MD_seal_118 : decode b_MD_seal 118 = .ok (.iload_n 2, 1) := by decide +kernel
theorem d_MD_seal_119 : decode b_MD_seal 119 = .ok (.iload_n 3, 1) := by decide +kernel
theorem d_MD_seal_120 : decode b_MD_seal 120 = .ok (.invokevirtual 73, 3) := by decide +kernel
theorem d_MD_seal_123 : decode b_MD_seal 123 = .ok (.iinc 5 1, 3) := by decide +kernel
theorem d_MD_seal_126 : decode b_MD_seal 126 = .ok (.goto (-30), 3) := by decide +kernel
theorem d_MD_seal_129 : decode b_MD_seal 129 = .ok (.aload_n 0, 1) := by decide +kernel
theorem d_MD_seal_130 : decode b_MD_seal 130 = .ok (.iconst 0, 1) := by decide +kernel
theorem d_MD_seal_131 : decode b_MD_seal 131 = .ok (.aload_n 0, 1) := by decide +kernel
theorem d_MD_seal_132 : decode b_MD_seal 132 = .ok (.getfield 56, 3) := by decide +kernel
theorem d_MD_seal_135 : decode b_MD_seal 135 = .ok (.iload_n 2, 1) := by decide +kernel
theorem d_MD_seal_136 : decode b_MD_seal 136 = .ok (.iconst 0, 1) := by decide +kernel
theorem d_MD_seal_137 : decode b_MD_seal 137 = .ok (.iconst 3, 1) := by decide +kernel
theorem d_MD_seal_138 : decode b_MD_seal 138 = .ok (.invokestatic 63, 3) := by decide +kernel
theorem d_MD_seal_141 : decode b_MD_seal 141 = .ok (.invokevirtual 70, 3) := by decide +kernel
theorem d_MD_seal_144 : decode b_MD_seal 144 = .ok (.istore 5, 2) := by decide +kernel
theorem d_MD_seal_146 : decode b_MD_seal 146 = .ok (.aload_n 0, 1) := by decide +kernel
theorem d_MD_seal_147 : decode b_MD_seal 147 = .ok (.iload 5, 2) := by decide +kernel
theorem d_MD_seal_149 : decode b_MD_seal 149 = .ok (.invokevirtual 67, 3) := by decide +kernel
theorem d_MD_seal_152 : decode b_MD_seal 152 = .ok (.aload_n 0, 1) := by decide +kernel
theorem d_MD_seal_153 : decode b_MD_seal 153 = .ok (.getfield 53, 3) := by decide +kernel
theorem d_MD_seal_156 : decode b_MD_seal 156 = .ok (.ifCond .ne 7, 3) := by decide +kernel
theorem d_MD_seal_159 : decode b_MD_seal 159 = .ok (.iconst 1, 1) := by decide +kernel
theorem d_MD_seal_160 : decode b_MD_seal 160 = .ok (.goto 13, 3) := by decide +kernel
theorem d_MD_seal_163 : decode b_MD_seal 163 = .ok (.aload_n 0, 1) := by decide +kernel
theorem d_MD_seal_164 : decode b_MD_seal 164 = .ok (.getfield 53, 3) := by decide +kernel
theorem d_MD_seal_167 : decode b_MD_seal 167 = .ok (.bipush 7, 2) := by decide +kernel
theorem d_MD_seal_169 : decode b_MD_seal 169 = .ok (.iadd, 1) := by decide +kernel
theorem d_MD_seal_170 : decode b_MD_seal 170 = .ok (.bipush 8, 2) := by decide +kernel
theorem d_MD_seal_172 : decode b_MD_seal 172 = .ok (.idiv, 1) := by decide +kernel
theorem d_MD_seal_173 : decode b_MD_seal 173 = .ok (.istore 6, 2) := by decide +kernel
theorem d_MD_seal_175 : decode b_MD_seal 175 = .ok (.iconst 0, 1) := by decide +kernel
theorem d_MD_seal_176 : decode b_MD_seal 176 = .ok (.istore 7, 2) := by decide +kernel
theorem d_MD_seal_178 : decode b_MD_seal 178 = .ok (.iload 7, 2) := by decide +kernel
theorem d_MD_seal_180 : decode b_MD_seal 180 = .ok (.iload 6, 2) := by decide +kernel
theorem d_MD_seal_182 : decode b_MD_seal 182 = .ok (.if_icmp .ge 120, 3) := by decide +kernel
theorem d_MD_seal_185 : decode b_MD_seal 185 = .ok (.aload_n 0, 1) := by decide +kernel
theorem d_MD_seal_186 : decode b_MD_seal 186 = .ok (.getfield 56, 3) := by decide +kernel
theorem d_MD_seal_189 : decode b_MD_seal 189 = .ok (.istore 8, 2) := by decide +kernel
theorem d_MD_seal_191 : decode b_MD_seal 191 = .ok (.bipush 8, 2) := by decide +kernel
theorem d_MD_seal_193 : decode b_MD_seal 193 = .ok (.iload 7, 2) := by decide +kernel
theorem d_MD_seal_195 : decode b_MD_seal 195 = .ok (.imul, 1) := by decide +kernel
theorem d_MD_seal_196 : decode b_MD_seal 196 = .ok (.istore 9, 2) := by decide +kernel
theorem d_MD_seal_198 : decode b_MD_seal 198 = .ok (.iload 9, 2) := by decide +kernel
theorem d_MD_seal_200 : decode b_MD_seal 200 = .ok (.aload_n 0, 1) := by decide +kernel
theorem d_MD_seal_201 : decode b_MD_seal 201 = .ok (.getfield 53, 3) := by decide +kernel
theorem d_MD_seal_204 : decode b_MD_seal 204 = .ok (.if_icmp .ge 53, 3) := by decide +kernel
theorem d_MD_seal_207 : decode b_MD_seal 207 = .ok (.iload 9, 2) := by decide +kernel
theorem d_MD_seal_209 : decode b_MD_seal 209 = .ok (.bipush 8, 2) := by decide +kernel
theorem d_MD_seal_211 : decode b_MD_seal 211 = .ok (.iload 7, 2) := by decide +kernel
theorem d_MD_seal_213 : decode b_MD_seal 213 = .ok (.imul, 1) := by decide +kernel
theorem d_MD_seal_214 : decode b_MD_seal 214 = .ok (.bipush 8, 2) := by decide +kernel
theorem d_MD_seal_216 : decode b_MD_seal 216 = .ok (.iadd, 1) := by decide +kernel
theorem d_MD_seal_217 : decode b_MD_seal 217 = .ok (.if_icmp .ge 40, 3) := by decide +kernel
theorem d_MD_seal_220 : decode b_MD_seal 220 = .ok (.aload_n 0, 1) := by decide +kernel
theorem d_MD_seal_221 : decode b_MD_seal 221 = .ok (.aload_n 0, 1) := by decide +kernel
theorem d_MD_seal_222 : decode b_MD_seal 222 = .ok (.getfield 13, 3) := by decide +kernel
theorem d_MD_seal_225 : decode b_MD_seal 225 = .ok (.iload 9, 2) := by decide +kernel
theorem d_MD_seal_227 : decode b_MD_seal 227 = .ok (.iaload, 1) := by decide +kernel
theorem d_MD_seal_228 : decode b_MD_seal 228 = .ok (.iload_n 2, 1) := by decide +kernel
theorem d_MD_seal_229 : decode b_MD_seal 229 = .ok (.bipush 16, 2) := by decide +kernel
theorem d_MD_seal_231 : decode b_MD_seal 231 = .ok (.iload 7, 2) := by decide +kernel
theorem d_MD_seal_233 : decode b_MD_seal 233 = .ok (.imul, 1) := by decide +kernel
theorem d_MD_seal_234 : decode b_MD_seal 234 = .ok (.iload 9, 2) := by decide +kernel
theorem d_MD_seal_236 : decode b_MD_seal 236 = .ok (.iadd, 1) := by decide +kernel
theorem d_MD_seal_237 : decode b_MD_seal 237 = .ok (.bipush 8, 2) := by decide +kernel
theorem d_MD_seal_239 : decode b_MD_seal 239 = .ok (.iload 7, 2) := by decide +kernel
theorem d_MD_seal_241 : decode b_MD_seal 241 = .ok (.imul, 1) := by decide +kernel
theorem d_MD_seal_242 : decode b_MD_seal 242 = .ok (.isub, 1) := by decide +kernel
theorem d_MD_seal_243 : decode b_MD_seal 243 = .ok (.iconst 4, 1) := by decide +kernel
theorem d_MD_seal_244 : decode b_MD_seal 244 = .ok (.invokestatic 63, 3) := by decide +kernel
theorem d_MD_seal_247 : decode b_MD_seal 247 = .ok (.ixor, 1) := by decide +kernel
theorem d_MD_seal_248 : decode b_MD_seal 248 = .ok (.invokevirtual 59, 3) := by decide +kernel
theorem d_MD_seal_251 : decode b_MD_seal 251 = .ok (.iinc 9 1, 3) := by decide +kernel
theorem d_MD_seal_254 : decode b_MD_seal 254 = .ok (.goto (-56), 3) := by decide +kernel
theorem d_MD_seal_257 : decode b_MD_seal 257 = .ok (.aload_n 0, 1) := by decide +kernel
theorem d_MD_seal_258 : decode b_MD_seal 258 = .ok (.iload 8, 2) := by decide +kernel
theorem d_MD_seal_260 : decode b_MD_seal 260 = .ok (.aload_n 0, 1) := by decide +kernel
theorem d_MD_seal_261 : decode b_MD_seal 261 = .ok (.getfield 56, 3) := by decide +kernel
theorem d_MD_seal_264 : decode b_MD_seal 264 = .ok (.iload_n 2, 1) := by decide +kernel
theorem d_MD_seal_265 : decode b_MD_seal 265 = .ok (.iload 7, 2) := by decide +kernel
theorem d_MD_seal_267 : decode b_MD_seal 267 = .ok (.iload 7, 2) := by decide +kernel
theorem d_MD_seal_269 : decode b_MD_seal 269 = .ok (.iload 6, 2) := by decide +kernel
theorem d_MD_seal_271 : decode b_MD_seal 271 = .ok (.iconst 1, 1) := by decide +kernel
theorem d_MD_seal_272 : decode b_MD_seal 272 = .ok (.isub, 1) := by decide +kernel
theorem d_MD_seal_273 : decode b_MD_seal 273 = .ok (.if_icmp .ne 8, 3) := by decide +kernel
theorem d_MD_seal_276 : decode b_MD_seal 276 = .ok (.bipush 6, 2) := by decide +kernel
theorem d_MD_seal_278 : decode b_MD_seal 278 = .ok (.goto 4, 3) := by decide +kernel
theorem d_MD_seal_281 : decode b_MD_seal 281 = .ok (.iconst 5, 1) := by decide +kernel
theorem d_MD_seal_282 : decode b_MD_seal 282 = .ok (.invokestatic 63, 3) := by decide +kernel
theorem d_MD_seal_285 : decode b_MD_seal 285 = .ok (.invokevirtual 70, 3) := by decide +kernel
theorem d_MD_seal_288 : decode b_MD_seal 288 = .ok (.istore 9, 2) := by decide +kernel
theorem d_MD_seal_290 : decode b_MD_seal 290 = .ok (.aload_n 0, 1) := by decide +kernel
theorem d_MD_seal_291 : decode b_MD_seal 291 = .ok (.iload 9, 2) := by decide +kernel
theorem d_MD_seal_293 : decode b_MD_seal 293 = .ok (.invokevirtual 67, 3) := by decide +kernel
theorem d_MD_seal_296 : decode b_MD_seal 296 = .ok (.iinc 7 1, 3) := by decide +kernel
theorem d_MD_seal_299 : decode b_MD_seal 299 = .ok (.goto (-121), 3) := by decide +kernel
theorem d_MD_seal_302 : decode b_MD_seal 302 = .ok (.aload_n 0, 1) := by decide +kernel
theorem d_MD_seal_303 : decode b_MD_seal 303 = .ok (.getfield 56, 3) := by decide +kernel
theorem d_MD_seal_306 : decode b_MD_seal 306 = .ok (.ireturn, 1) := by decide +kernel
theorem d_MD_sign_0 : decode b_MD_sign 0 = .ok (.lconst 1, 1) := by decide +kernel
theorem d_MD_sign_1 : decode b_MD_sign 1 = .ok (.iload_n 3, 1) := by decide +kernel
theorem d_MD_sign_2 : decode b_MD_sign 2 = .ok (.bipush 8, 2) := by decide +kernel
theorem d_MD_sign_4 : decode b_MD_sign 4 = .ok (.iushr, 1) := by decide +kernel
theorem d_MD_sign_5 : decode b_MD_sign 5 = .ok (.ldc 36, 2) := by decide +kernel
theorem d_MD_sign_7 : decode b_MD_sign 7 = .ok (.irem, 1) := by decide +kernel
theorem d_MD_sign_8 : decode b_MD_sign 8 = .ok (.i2l, 1) := by decide +kernel
theorem d_MD_sign_9 : decode b_MD_sign 9 = .ok (.ladd, 1) := by decide +kernel
theorem d_MD_sign_10 : decode b_MD_sign 10 = .ok (.lstore 4, 2) := by decide +kernel
theorem d_MD_sign_12 : decode b_MD_sign 12 = .ok (.lconst 0, 1) := by decide +kernel
theorem d_MD_sign_13 : decode b_MD_sign 13 = .ok (.lstore 6, 2) := by decide +kernel
theorem d_MD_sign_15 : decode b_MD_sign 15 = .ok (.iload_n 1, 1) := by decide +kernel
theorem d_MD_sign_16 : decode b_MD_sign 16 = .ok (.istore 8, 2) := by decide +kernel
theorem d_MD_sign_18 : decode b_MD_sign 18 = .ok (.iload 8, 2) := by decide +kernel
theorem d_MD_sign_20 : decode b_MD_sign 20 = .ok (.iload_n 2, 1) := by decide +kernel
theorem d_MD_sign_21 : decode b_MD_sign 21 = .ok (.if_icmp .ge 31, 3) := by decide +kernel
theorem d_MD_sign_24 : decode b_MD_sign 24 = .ok (.lload 6, 2) := by decide +kernel
theorem d_MD_sign_26 : decode b_MD_sign 26 = .ok (.aload_n 0, 1) := by decide +kernel
theorem d_MD_sign_27 : decode b_MD_sign 27 = .ok (.getfield 16, 3) := by decide +kernel
theorem d_MD_sign_30 : decode b_MD_sign 30 = .ok (.iload 8, 2) := by decide +kernel
theorem d_MD_sign_32 : decode b_MD_sign 32 = .ok (.iaload, 1) := by decide +kernel
theorem d_MD_sign_33 : decode b_MD_sign 33 = .ok (.i2l, 1) := by decide +kernel
theorem d_MD_sign_34 : decode b_MD_sign 34 = .ok (.ladd, 1) := by decide +kernel
theorem d_MD_sign_35 : decode b_MD_sign 35 = .ok (.lconst 1, 1) := by decide +kernel
theorem d_MD_sign_36 : decode b_MD_sign 36 = .ok (.ladd, 1) := by decide +kernel
theorem d_MD_sign_37 : decode b_MD_sign 37 = .ok (.lload 4, 2) := by decide +kernel
theorem d_MD_sign_39 : decode b_MD_sign 39 = .ok (.lmul, 1) := by decide +kernel
theorem d_MD_sign_40 : decode b_MD_sign 40 = .ok (.ldc2_w 37, 3) := by decide +kernel
theorem d_MD_sign_43 : decode b_MD_sign 43 = .ok (.lrem, 1) := by decide +kernel
theorem d_MD_sign_44 : decode b_MD_sign 44 = .ok (.lstore 6, 2) := by decide +kernel
theorem d_MD_sign_46 : decode b_MD_sign 46 = .ok (.iinc 8 1, 3) := by decide +kernel
theorem d_MD_sign_49 : decode b_MD_sign 49 = .ok (.goto (-31), 3) := by decide +kernel
theorem d_MD_sign_52 : decode b_MD_sign 52 = .ok (.lload 6, 2) := by decide +kernel
theorem d_MD_sign_54 : decode b_MD_sign 54 = .ok (.iload_n 3, 1) := by decide +kernel
theorem d_MD_sign_55 : decode b_MD_sign 55 = .ok (.sipush 255, 3) := by decide +kernel
theorem d_MD_sign_58 : decode b_MD_sign 58 = .ok (.iand, 1) := by decide +kernel
theorem d_MD_sign_59 : decode b_MD_sign 59 = .ok (.i2l, 1) := by decide +kernel
theorem d_MD_sign_60 : decode b_MD_sign 60 = .ok (.ladd, 1) := by decide +kernel
theorem d_MD_sign_61 : decode b_MD_sign 61 = .ok (.ldc2_w 37, 3) := by decide +kernel
theorem d_MD_sign_64 : decode b_MD_sign 64 = .ok (.lrem, 1) := by decide +kernel
theorem d_MD_sign_65 : decode b_MD_sign 65 = .ok (.l2i, 1) := by decide +kernel
theorem d_MD_sign_66 : decode b_MD_sign 66 = .ok (.ireturn, 1) := by decide +kernel
theorem d_MD_sixOf_0 : decode b_MD_sixOf 0 = .ok (.iload_n 0, 1) := by decide +kernel
theorem d_MD_sixOf_1 : decode b_MD_sixOf 1 = .ok (.bipush 65, 2) := by decide +kernel
theorem d_MD_sixOf_3 : decode b_MD_sixOf 3 = .ok (.if_icmp .lt 14, 3) := by decide +kernel
theorem d_MD_sixOf_6 : decode b_MD_sixOf 6 = .ok (.iload_n 0, 1) := by decide +kernel
theorem d_MD_sixOf_7 : decode b_MD_sixOf 7 = .ok (.bipush 90, 2) := by decide +kernel
theorem d_MD_sixOf_9 : decode b_MD_sixOf 9 = .ok (.if_icmp .gt 8, 3) := by decide +kernel
theorem d_MD_sixOf_12 : decode b_MD_sixOf 12 = .ok (.iload_n 0, 1) := by decide +kernel
theorem d_MD_sixOf_13 : decode b_MD_sixOf 13 = .ok (.bipush 65, 2) := by decide +kernel
theorem d_MD_sixOf_15 : decode b_MD_sixOf 15 = .ok (.isub, 1) := by decide +kernel
theorem d_MD_sixOf_16 : decode b_MD_sixOf 16 = .ok (.ireturn, 1) := by decide +kernel
theorem d_MD_sixOf_17 : decode b_MD_sixOf 17 = .ok (.iload_n 0, 1) := by decide +kernel
theorem d_MD_sixOf_18 : decode b_MD_sixOf 18 = .ok (.bipush 97, 2) := by decide +kernel
theorem d_MD_sixOf_20 : decode b_MD_sixOf 20 = .ok (.if_icmp .lt 17, 3) := by decide +kernel
theorem d_MD_sixOf_23 : decode b_MD_sixOf 23 = .ok (.iload_n 0, 1) := by decide +kernel
theorem d_MD_sixOf_24 : decode b_MD_sixOf 24 = .ok (.bipush 122, 2) := by decide +kernel
theorem d_MD_sixOf_26 : decode b_MD_sixOf 26 = .ok (.if_icmp .gt 11, 3) := by decide +kernel
theorem d_MD_sixOf_29 : decode b_MD_sixOf 29 = .ok (.bipush 26, 2) := by decide +kernel
theorem d_MD_sixOf_31 : decode b_MD_sixOf 31 = .ok (.iload_n 0, 1) := by decide +kernel
theorem d_MD_sixOf_32 : decode b_MD_sixOf 32 = .ok (.iadd, 1) := by decide +kernel
theorem d_MD_sixOf_33 : decode b_MD_sixOf 33 = .ok (.bipush 97, 2) := by decide +kernel
theorem d_MD_sixOf_35 : decode b_MD_sixOf 35 = .ok (.isub, 1) := by decide +kernel
theorem d_MD_sixOf_36 : decode b_MD_sixOf 36 = .ok (.ireturn, 1) := by decide +kernel
theorem d_MD_sixOf_37 : decode b_MD_sixOf 37 = .ok (.iload_n 0, 1) := by decide +kernel
theorem d_MD_sixOf_38 : decode b_MD_sixOf 38 = .ok (.bipush 48, 2) := by decide +kernel
theorem d_MD_sixOf_40 : decode b_MD_sixOf 40 = .ok (.if_icmp .lt 17, 3) := by decide +kernel
theorem d_MD_sixOf_43 : decode b_MD_sixOf 43 = .ok (.iload_n 0, 1) := by decide +kernel
theorem d_MD_sixOf_44 : decode b_MD_sixOf 44 = .ok (.bipush 57, 2) := by decide +kernel
theorem d_MD_sixOf_46 : decode b_MD_sixOf 46 = .ok (.if_icmp .gt 11, 3) := by decide +kernel
theorem d_MD_sixOf_49 : decode b_MD_sixOf 49 = .ok (.bipush 52, 2) := by decide +kernel
theorem d_MD_sixOf_51 : decode b_MD_sixOf 51 = .ok (.iload_n 0, 1) := by decide +kernel
theorem d_MD_sixOf_52 : decode b_MD_sixOf 52 = .ok (.iadd, 1) := by decide +kernel
theorem d_MD_sixOf_53 : decode b_MD_sixOf 53 = .ok (.bipush 48, 2) := by decide +kernel
theorem d_MD_sixOf_55 : decode b_MD_sixOf 55 = .ok (.isub, 1) := by decide +kernel
theorem d_MD_sixOf_56 : decode b_MD_sixOf 56 = .ok (.ireturn, 1) := by decide +kernel
theorem d_MD_sixOf_57 : decode b_MD_sixOf 57 = .ok (.iload_n 0, 1) := by decide +kernel
theorem d_MD_sixOf_58 : decode b_MD_sixOf 58 = .ok (.bipush 43, 2) := by decide +kernel
theorem d_MD_sixOf_60 : decode b_MD_sixOf 60 = .ok (.if_icmp .ne 8, 3) := by decide +kernel
theorem d_MD_sixOf_63 : decode b_MD_sixOf 63 = .ok (.bipush 62, 2) := by decide +kernel
theorem d_MD_sixOf_65 : decode b_MD_sixOf 65 = .ok (.goto 15, 3) := by decide +kernel
theorem d_MD_sixOf_68 : decode b_MD_sixOf 68 = .ok (.iload_n 0, 1) := by decide +kernel
theorem d_MD_sixOf_69 : decode b_MD_sixOf 69 = .ok (.bipush 45, 2) := by decide +kernel
theorem d_MD_sixOf_71 : decode b_MD_sixOf 71 = .ok (.if_icmp .ne 8, 3) := by decide +kernel
theorem d_MD_sixOf_74 : decode b_MD_sixOf 74 = .ok (.bipush 63, 2) := by decide +kernel
theorem d_MD_sixOf_76 : decode b_MD_sixOf 76 = .ok (.goto 4, 3) := by decide +kernel
theorem d_MD_sixOf_79 : decode b_MD_sixOf 79 = .ok (.iconst (-1), 1) := by decide +kernel
theorem d_MD_sixOf_80 : decode b_MD_sixOf 80 = .ok (.ireturn, 1) := by decide +kernel
theorem d_MD_thrown_0 : decode b_MD_thrown 0 = .ok (.aload_n 0, 1) := by decide +kernel
theorem d_MD_thrown_1 : decode b_MD_thrown 1 = .ok (.getfield 26, 3) := by decide +kernel
theorem d_MD_thrown_4 : decode b_MD_thrown 4 = .ok (.ireturn, 1) := by decide +kernel
theorem d_MD_two_0 : decode b_MD_two 0 = .ok (.aload_n 0, 1) := by decide +kernel
theorem d_MD_two_1 : decode b_MD_two 1 = .ok (.getfield 16, 3) := by decide +kernel
theorem d_MD_two_4 : decode b_MD_two 4 = .ok (.iload_n 1, 1) := by decide +kernel
theorem d_MD_two_5 : decode b_MD_two 5 = .ok (.iaload, 1) := by decide +kernel
theorem d_MD_two_6 : decode b_MD_two 6 = .ok (.sipush 256, 3) := by decide +kernel
theorem d_MD_two_9 : decode b_MD_two 9 = .ok (.imul, 1) := by decide +kernel
theorem d_MD_two_10 : decode b_MD_two 10 = .ok (.aload_n 0, 1) := by decide +kernel
theorem d_MD_two_11 : decode b_MD_two 11 = .ok (.getfield 16, 3) := by decide +kernel
theorem d_MD_two_14 : decode b_MD_two 14 = .ok (.iload_n 1, 1) := by decide +kernel
theorem d_MD_two_15 : decode b_MD_two 15 = .ok (.iconst 1, 1) := by decide +kernel
theorem d_MD_two_16 : decode b_MD_two 16 = .ok (.iadd, 1) := by decide +kernel
theorem d_MD_two_17 : decode b_MD_two 17 = .ok (.iaload, 1) := by decide +kernel
theorem d_MD_two_18 : decode b_MD_two 18 = .ok (.iadd, 1) := by decide +kernel
theorem d_MD_two_19 : decode b_MD_two 19 = .ok (.ireturn, 1) := by decide +kernel
theorem d_MD_uncover_0 : decode b_MD_uncover 0 = .ok (.iconst 0, 1) := by decide +kernel
theorem d_MD_uncover_1 : decode b_MD_uncover 1 = .ok (.istore 5, 2) := by decide +kernel
theorem d_MD_uncover_3 : decode b_MD_uncover 3 = .ok (.iload 5, 2) := by decide +kernel
theorem d_MD_uncover_5 : decode b_MD_uncover 5 = .ok (.iload_n 2, 1) := by decide +kernel
theorem d_MD_uncover_6 : decode b_MD_uncover 6 = .ok (.if_icmp .ge 64, 3) := by decide +kernel
theorem d_MD_uncover_9 : decode b_MD_uncover 9 = .ok (.aload_n 0, 1) := by decide +kernel
theorem d_MD_uncover_10 : decode b_MD_uncover 10 = .ok (.getfield 80, 3) := by decide +kernel
theorem d_MD_uncover_13 : decode b_MD_uncover 13 = .ok (.bipush 40, 2) := by decide +kernel
theorem d_MD_uncover_15 : decode b_MD_uncover 15 = .ok (.if_icmp .ge 49, 3) := by decide +kernel
theorem d_MD_uncover_18 : decode b_MD_uncover 18 = .ok (.aload_n 0, 1) := by decide +kernel
theorem d_MD_uncover_19 : decode b_MD_uncover 19 = .ok (.getfield 19, 3) := by decide +kernel
theorem d_MD_uncover_22 : decode b_MD_uncover 22 = .ok (.aload_n 0, 1) := by decide +kernel
theorem d_MD_uncover_23 : decode b_MD_uncover 23 = .ok (.getfield 80, 3) := by decide +kernel
theorem d_MD_uncover_26 : decode b_MD_uncover 26 = .ok (.aload_n 0, 1) := by decide +kernel
theorem d_MD_uncover_27 : decode b_MD_uncover 27 = .ok (.getfield 16, 3) := by decide +kernel
theorem d_MD_uncover_30 : decode b_MD_uncover 30 = .ok (.iload_n 1, 1) := by decide +kernel
theorem d_MD_uncover_31 : decode b_MD_uncover 31 = .ok (.iload 5, 2) := by decide +kernel
theorem d_MD_uncover_33 : decode b_MD_uncover 33 = .ok (.iadd, 1) := by decide +kernel
theorem d_MD_uncover_34 : decode b_MD_uncover 34 = .ok (.iaload, 1) := by decide +kernel
theorem d_MD_uncover_35 : decode b_MD_uncover 35 = .ok (.iload 4, 2) := by decide +kernel
theorem d_MD_uncover_37 : decode b_MD_uncover 37 = .ok (.bipush 16, 2) := by decide +kernel
theorem d_MD_uncover_39 : decode b_MD_uncover 39 = .ok (.iload_n 3, 1) := by decide +kernel
theorem d_MD_uncover_40 : decode b_MD_uncover 40 = .ok (.imul, 1) := by decide +kernel
theorem d_MD_uncover_41 : decode b_MD_uncover 41 = .ok (.iload 5, 2) := by decide +kernel
theorem d_MD_uncover_43 : decode b_MD_uncover 43 = .ok (.iadd, 1) := by decide +kernel
theorem d_MD_uncover_44 : decode b_MD_uncover 44 = .ok (.iconst 4, 1) := by decide +kernel
theorem d_MD_uncover_45 : decode b_MD_uncover 45 = .ok (.invokestatic 63, 3) := by decide +kernel
theorem d_MD_uncover_48 : decode b_MD_uncover 48 = .ok (.sipush 255, 3) := by decide +kernel
theorem d_MD_uncover_51 : decode b_MD_uncover 51 = .ok (.iand, 1) := by decide +kernel
theorem d_MD_uncover_52 : decode b_MD_uncover 52 = .ok (.ixor, 1) := by decide +kernel
theorem d_MD_uncover_53 : decode b_MD_uncover 53 = .ok (.iastore, 1) := by decide +kernel
theorem d_MD_uncover_54 : decode b_MD_uncover 54 = .ok (.aload_n 0, 1) := by decide +kernel
theorem d_MD_uncover_55 : decode b_MD_uncover 55 = .ok (.dup, 1) := by decide +kernel
theorem d_MD_uncover_56 : decode b_MD_uncover 56 = .ok (.getfield 80, 3) := by decide +kernel
theorem d_MD_uncover_59 : decode b_MD_uncover 59 = .ok (.iconst 1, 1) := by decide +kernel
theorem d_MD_uncover_60 : decode b_MD_uncover 60 = .ok (.iadd, 1) := by decide +kernel
theorem d_MD_uncover_61 : decode b_MD_uncover 61 = .ok (.putfield 80, 3) := by decide +kernel
theorem d_MD_uncover_64 : decode b_MD_uncover 64 = .ok (.iinc 5 1, 3) := by decide +kernel
theorem d_MD_uncover_67 : decode b_MD_uncover 67 = .ok (.goto (-64), 3) := by decide +kernel
theorem d_MD_uncover_70 : decode b_MD_uncover 70 = .ok (.return_, 1) := by decide +kernel
theorem d_MD_word_0 : decode b_MD_word 0 = .ok (.iload_n 0, 1) := by decide +kernel
theorem d_MD_word_1 : decode b_MD_word 1 = .ok (.invokestatic 32, 3) := by decide +kernel
theorem d_MD_word_4 : decode b_MD_word 4 = .ok (.istore_n 3, 1) := by decide +kernel
theorem d_MD_word_5 : decode b_MD_word 5 = .ok (.iload_n 3, 1) := by decide +kernel
theorem d_MD_word_6 : decode b_MD_word 6 = .ok (.iload_n 1, 1) := by decide +kernel
theorem d_MD_word_7 : decode b_MD_word 7 = .ok (.iadd, 1) := by decide +kernel
theorem d_MD_word_8 : decode b_MD_word 8 = .ok (.invokestatic 32, 3) := by decide +kernel
theorem d_MD_word_11 : decode b_MD_word 11 = .ok (.istore_n 3, 1) := by decide +kernel
theorem d_MD_word_12 : decode b_MD_word 12 = .ok (.iload_n 3, 1) := by decide +kernel
theorem d_MD_word_13 : decode b_MD_word 13 = .ok (.iload_n 2, 1) := by decide +kernel
theorem d_MD_word_14 : decode b_MD_word 14 = .ok (.iadd, 1) := by decide +kernel
theorem d_MD_word_15 : decode b_MD_word 15 = .ok (.invokestatic 32, 3) := by decide +kernel
theorem d_MD_word_18 : decode b_MD_word 18 = .ok (.ireturn, 1) := by decide +kernel
theorem d_MD_write_0 : decode b_MD_write 0 = .ok (.aload_n 0, 1) := by decide +kernel
theorem d_MD_write_1 : decode b_MD_write 1 = .ok (.iconst 0, 1) := by decide +kernel
theorem d_MD_write_2 : decode b_MD_write 2 = .ok (.putfield 26, 3) := by decide +kernel
theorem d_MD_write_5 : decode b_MD_write 5 = .ok (.aload_n 0, 1) := by decide +kernel
theorem d_MD_write_6 : decode b_MD_write 6 = .ok (.getfield 100, 3) := by decide +kernel
theorem d_MD_write_9 : decode b_MD_write 9 = .ok (.sipush 160, 3) := by decide +kernel
theorem d_MD_write_12 : decode b_MD_write 12 = .ok (.if_icmp .eq 10, 3) := by decide +kernel
theorem d_MD_write_15 : decode b_MD_write 15 = .ok (.iload_n 1, 1) := by decide +kernel
theorem d_MD_write_16 : decode b_MD_write 16 = .ok (.invokestatic 103, 3) := by decide +kernel
theorem d_MD_write_19 : decode b_MD_write 19 = .ok (.ifCond .ge 5, 3) := by decide +kernel
theorem d_MD_write_22 : decode b_MD_write 22 = .ok (.iconst 0, 1) := by decide +kernel
theorem d_MD_write_23 : decode b_MD_write 23 = .ok (.ireturn, 1) := by decide +kernel
theorem d_MD_write_24 : decode b_MD_write 24 = .ok (.aload_n 0, 1) := by decide +kernel
theorem d_MD_write_25 : decode b_MD_write 25 = .ok (.getfield 22, 3) := by decide +kernel
theorem d_MD_write_28 : decode b_MD_write 28 = .ok (.aload_n 0, 1) := by decide +kernel
theorem d_MD_write_29 : decode b_MD_write 29 = .ok (.getfield 100, 3) := by decide +kernel
theorem d_MD_write_32 : decode b_MD_write 32 = .ok (.iload_n 1, 1) := by decide +kernel
theorem d_MD_write_33 : decode b_MD_write 33 = .ok (.castore, 1) := by decide +kernel
theorem d_MD_write_34 : decode b_MD_write 34 = .ok (.aload_n 0, 1) := by decide +kernel
theorem d_MD_write_35 : decode b_MD_write 35 = .ok (.dup, 1) := by decide +kernel
theorem d_MD_write_36 : decode b_MD_write 36 = .ok (.getfield 100, 3) := by decide +kernel
theorem d_MD_write_39 : decode b_MD_write 39 = .ok (.iconst 1, 1) := by decide +kernel
theorem d_MD_write_40 : decode b_MD_write 40 = .ok (.iadd, 1) := by decide +kernel
theorem d_MD_write_41 : decode b_MD_write 41 = .ok (.putfield 100, 3) := by decide +kernel
theorem d_MD_write_44 : decode b_MD_write 44 = .ok (.iconst 1, 1) := by decide +kernel
theorem d_MD_write_45 : decode b_MD_write 45 = .ok (.ireturn, 1) := by decide +kernel
