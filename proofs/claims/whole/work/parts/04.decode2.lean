theorem dX10_end_14 : decode cX10_end 14 = .ok (.aload_n 0, 1) := by decide +kernel
theorem dX10_end_15 : decode cX10_end 15 = .ok (.iload_n 1, 1) := by decide +kernel
theorem dX10_end_16 : decode cX10_end 16 = .ok (.putfield 52, 3) := by decide +kernel
theorem dX10_end_19 : decode cX10_end 19 = .ok (.iconst 1, 1) := by decide +kernel
theorem dX10_end_20 : decode cX10_end 20 = .ok (.ireturn, 1) := by decide +kernel
theorem dX10_install_0 : decode cX10_install 0 = .ok (.aload_n 0, 1) := by decide +kernel
theorem dX10_install_1 : decode cX10_install 1 = .ok (.getfield 52, 3) := by decide +kernel
theorem dX10_install_4 : decode cX10_install 4 = .ok (.istore 6, 2) := by decide +kernel
theorem dX10_install_6 : decode cX10_install 6 = .ok (.aload_n 0, 1) := by decide +kernel
theorem dX10_install_7 : decode cX10_install 7 = .ok (.iconst 0, 1) := by decide +kernel
theorem dX10_install_8 : decode cX10_install 8 = .ok (.putfield 52, 3) := by decide +kernel
theorem dX10_install_11 : decode cX10_install 11 = .ok (.iload_n 1, 1) := by decide +kernel
theorem dX10_install_12 : decode cX10_install 12 = .ok (.iconst 4, 1) := by decide +kernel
theorem dX10_install_13 : decode cX10_install 13 = .ok (.if_icmp .lt 65, 3) := by decide +kernel
theorem dX10_install_16 : decode cX10_install 16 = .ok (.iload_n 1, 1) := by decide +kernel
theorem dX10_install_17 : decode cX10_install 17 = .ok (.sipush 4096, 3) := by decide +kernel
theorem dX10_install_20 : decode cX10_install 20 = .ok (.if_icmp .gt 58, 3) := by decide +kernel
theorem dX10_install_23 : decode cX10_install 23 = .ok (.iload_n 1, 1) := by decide +kernel
theorem dX10_install_24 : decode cX10_install 24 = .ok (.iconst 4, 1) := by decide +kernel
theorem dX10_install_25 : decode cX10_install 25 = .ok (.irem, 1) := by decide +kernel
theorem dX10_install_26 : decode cX10_install 26 = .ok (.ifCond .ne 52, 3) := by decide +kernel
theorem dX10_install_29 : decode cX10_install 29 = .ok (.iload_n 2, 1) := by decide +kernel
theorem dX10_install_30 : decode cX10_install 30 = .ok (.iconst 4, 1) := by decide +kernel
theorem dX10_install_31 : decode cX10_install 31 = .ok (.if_icmp .lt 47, 3) := by decide +kernel
theorem dX10_install_34 : decode cX10_install 34 = .ok (.iload_n 2, 1) := by decide +kernel
theorem dX10_install_35 : decode cX10_install 35 = .ok (.sipush 8192, 3) := by decide +kernel
theorem dX10_install_38 : decode cX10_install 38 = .ok (.if_icmp .gt 40, 3) := by decide +kernel
theorem dX10_install_41 : decode cX10_install 41 = .ok (.iload_n 2, 1) := by decide +kernel
theorem dX10_install_42 : decode cX10_install 42 = .ok (.iconst 4, 1) := by decide +kernel
theorem dX10_install_43 : decode cX10_install 43 = .ok (.irem, 1) := by decide +kernel
theorem dX10_install_44 : decode cX10_install 44 = .ok (.ifCond .ne 34, 3) := by decide +kernel
theorem dX10_install_47 : decode cX10_install 47 = .ok (.iload_n 3, 1) := by decide +kernel
theorem dX10_install_48 : decode cX10_install 48 = .ok (.bipush 8, 2) := by decide +kernel
theorem dX10_install_50 : decode cX10_install 50 = .ok (.if_icmp .lt 28, 3) := by decide +kernel
theorem dX10_install_53 : decode cX10_install 53 = .ok (.iload_n 3, 1) := by decide +kernel
theorem dX10_install_54 : decode cX10_install 54 = .ok (.sipush 1024, 3) := by decide +kernel
theorem dX10_install_57 : decode cX10_install 57 = .ok (.if_icmp .gt 21, 3) := by decide +kernel
theorem dX10_install_60 : decode cX10_install 60 = .ok (.iload 4, 2) := by decide +kernel
theorem dX10_install_62 : decode cX10_install 62 = .ok (.bipush 16, 2) := by decide +kernel
theorem dX10_install_64 : decode cX10_install 64 = .ok (.if_icmp .lt 14, 3) := by decide +kernel
theorem dX10_install_67 : decode cX10_install 67 = .ok (.iload 4, 2) := by decide +kernel
theorem dX10_install_69 : decode cX10_install 69 = .ok (.ldc 59, 2) := by decide +kernel
theorem dX10_install_71 : decode cX10_install 71 = .ok (.if_icmp .gt 7, 3) := by decide +kernel
theorem dX10_install_74 : decode cX10_install 74 = .ok (.iconst 1, 1) := by decide +kernel
theorem dX10_install_75 : decode cX10_install 75 = .ok (.goto 4, 3) := by decide +kernel
theorem dX10_install_78 : decode cX10_install 78 = .ok (.iconst 0, 1) := by decide +kernel
theorem dX10_install_79 : decode cX10_install 79 = .ok (.istore 7, 2) := by decide +kernel
theorem dX10_install_81 : decode cX10_install 81 = .ok (.iload 7, 2) := by decide +kernel
theorem dX10_install_83 : decode cX10_install 83 = .ok (.ifCond .ne 5, 3) := by decide +kernel
theorem dX10_install_86 : decode cX10_install 86 = .ok (.iconst (-1), 1) := by decide +kernel
theorem dX10_install_87 : decode cX10_install 87 = .ok (.ireturn, 1) := by decide +kernel
theorem dX10_install_88 : decode cX10_install 88 = .ok (.iload 6, 2) := by decide +kernel
theorem dX10_install_90 : decode cX10_install 90 = .ok (.iload_n 2, 1) := by decide +kernel
theorem dX10_install_91 : decode cX10_install 91 = .ok (.if_icmp .le 6, 3) := by decide +kernel
theorem dX10_install_94 : decode cX10_install 94 = .ok (.bipush (-2), 2) := by decide +kernel
theorem dX10_install_96 : decode cX10_install 96 = .ok (.ireturn, 1) := by decide +kernel
theorem dX10_install_97 : decode cX10_install 97 = .ok (.aload_n 0, 1) := by decide +kernel
theorem dX10_install_98 : decode cX10_install 98 = .ok (.iconst 1, 1) := by decide +kernel
theorem dX10_install_99 : decode cX10_install 99 = .ok (.putfield 64, 3) := by decide +kernel
theorem dX10_install_102 : decode cX10_install 102 = .ok (.aload_n 0, 1) := by decide +kernel
theorem dX10_install_103 : decode cX10_install 103 = .ok (.iconst 0, 1) := by decide +kernel
theorem dX10_install_104 : decode cX10_install 104 = .ok (.putfield 68, 3) := by decide +kernel
theorem dX10_install_107 : decode cX10_install 107 = .ok (.aload_n 0, 1) := by decide +kernel
theorem dX10_install_108 : decode cX10_install 108 = .ok (.iconst 0, 1) := by decide +kernel
theorem dX10_install_109 : decode cX10_install 109 = .ok (.putfield 71, 3) := by decide +kernel
theorem dX10_install_112 : decode cX10_install 112 = .ok (.aload_n 0, 1) := by decide +kernel
theorem dX10_install_113 : decode cX10_install 113 = .ok (.iconst 0, 1) := by decide +kernel
theorem dX10_install_114 : decode cX10_install 114 = .ok (.putfield 74, 3) := by decide +kernel
theorem dX10_install_117 : decode cX10_install 117 = .ok (.aload_n 0, 1) := by decide +kernel
theorem dX10_install_118 : decode cX10_install 118 = .ok (.iload_n 1, 1) := by decide +kernel
theorem dX10_install_119 : decode cX10_install 119 = .ok (.putfield 77, 3) := by decide +kernel
theorem dX10_install_122 : decode cX10_install 122 = .ok (.aload_n 0, 1) := by decide +kernel
theorem dX10_install_123 : decode cX10_install 123 = .ok (.iload_n 2, 1) := by decide +kernel
theorem dX10_install_124 : decode cX10_install 124 = .ok (.putfield 80, 3) := by decide +kernel
theorem dX10_install_127 : decode cX10_install 127 = .ok (.aload_n 0, 1) := by decide +kernel
theorem dX10_install_128 : decode cX10_install 128 = .ok (.iload_n 3, 1) := by decide +kernel
theorem dX10_install_129 : decode cX10_install 129 = .ok (.putfield 83, 3) := by decide +kernel
theorem dX10_install_132 : decode cX10_install 132 = .ok (.aload_n 0, 1) := by decide +kernel
theorem dX10_install_133 : decode cX10_install 133 = .ok (.iload 4, 2) := by decide +kernel
theorem dX10_install_135 : decode cX10_install 135 = .ok (.putfield 86, 3) := by decide +kernel
theorem dX10_install_138 : decode cX10_install 138 = .ok (.aload_n 0, 1) := by decide +kernel
theorem dX10_install_139 : decode cX10_install 139 = .ok (.iload 5, 2) := by decide +kernel
theorem dX10_install_141 : decode cX10_install 141 = .ok (.putfield 89, 3) := by decide +kernel
theorem dX10_install_144 : decode cX10_install 144 = .ok (.aload_n 0, 1) := by decide +kernel
theorem dX10_install_145 : decode cX10_install 145 = .ok (.iconst 3, 1) := by decide +kernel
theorem dX10_install_146 : decode cX10_install 146 = .ok (.iconst 2, 1) := by decide +kernel
theorem dX10_install_147 : decode cX10_install 147 = .ok (.bipush 36, 2) := by decide +kernel
theorem dX10_install_149 : decode cX10_install 149 = .ok (.aload_n 0, 1) := by decide +kernel
theorem dX10_install_150 : decode cX10_install 150 = .ok (.getfield 77, 3) := by decide +kernel
theorem dX10_install_153 : decode cX10_install 153 = .ok (.iconst 4, 1) := by decide +kernel
theorem dX10_install_154 : decode cX10_install 154 = .ok (.idiv, 1) := by decide +kernel
theorem dX10_install_155 : decode cX10_install 155 = .ok (.iadd, 1) := by decide +kernel
theorem dX10_install_156 : decode cX10_install 156 = .ok (.imul, 1) := by decide +kernel
theorem dX10_install_157 : decode cX10_install 157 = .ok (.iadd, 1) := by decide +kernel
theorem dX10_install_158 : decode cX10_install 158 = .ok (.putfield 92, 3) := by decide +kernel
theorem dX10_install_161 : decode cX10_install 161 = .ok (.aload_n 0, 1) := by decide +kernel
theorem dX10_install_162 : decode cX10_install 162 = .ok (.aload_n 0, 1) := by decide +kernel
theorem dX10_install_163 : decode cX10_install 163 = .ok (.getfield 92, 3) := by decide +kernel
theorem dX10_install_166 : decode cX10_install 166 = .ok (.iconst 2, 1) := by decide +kernel
theorem dX10_install_167 : decode cX10_install 167 = .ok (.aload_n 0, 1) := by decide +kernel
theorem dX10_install_168 : decode cX10_install 168 = .ok (.getfield 83, 3) := by decide +kernel
theorem dX10_install_171 : decode cX10_install 171 = .ok (.imul, 1) := by decide +kernel
theorem dX10_install_172 : decode cX10_install 172 = .ok (.iadd, 1) := by decide +kernel
theorem dX10_install_173 : decode cX10_install 173 = .ok (.putfield 95, 3) := by decide +kernel
theorem dX10_install_176 : decode cX10_install 176 = .ok (.aload_n 0, 1) := by decide +kernel
theorem dX10_install_177 : decode cX10_install 177 = .ok (.aload_n 0, 1) := by decide +kernel
theorem dX10_install_178 : decode cX10_install 178 = .ok (.getfield 95, 3) := by decide +kernel
theorem dX10_install_181 : decode cX10_install 181 = .ok (.aload_n 0, 1) := by decide +kernel
theorem dX10_install_182 : decode cX10_install 182 = .ok (.getfield 80, 3) := by decide +kernel
theorem dX10_install_185 : decode cX10_install 185 = .ok (.iconst 4, 1) := by decide +kernel
theorem dX10_install_186 : decode cX10_install 186 = .ok (.idiv, 1) := by decide +kernel
theorem dX10_install_187 : decode cX10_install 187 = .ok (.iadd, 1) := by decide +kernel
theorem dX10_install_188 : decode cX10_install 188 = .ok (.putfield 98, 3) := by decide +kernel
theorem dX10_install_191 : decode cX10_install 191 = .ok (.iconst 0, 1) := by decide +kernel
theorem dX10_install_192 : decode cX10_install 192 = .ok (.istore 8, 2) := by decide +kernel
theorem dX10_install_194 : decode cX10_install 194 = .ok (.iload 8, 2) := by decide +kernel
theorem dX10_install_196 : decode cX10_install 196 = .ok (.aload_n 0, 1) := by decide +kernel
theorem dX10_install_197 : decode cX10_install 197 = .ok (.getfield 9, 3) := by decide +kernel
theorem dX10_install_200 : decode cX10_install 200 = .ok (.arraylength, 1) := by decide +kernel
theorem dX10_install_201 : decode cX10_install 201 = .ok (.if_icmp .ge 17, 3) := by decide +kernel
theorem dX10_install_204 : decode cX10_install 204 = .ok (.aload_n 0, 1) := by decide +kernel
theorem dX10_install_205 : decode cX10_install 205 = .ok (.getfield 9, 3) := by decide +kernel
theorem dX10_install_208 : decode cX10_install 208 = .ok (.iload 8, 2) := by decide +kernel
theorem dX10_install_210 : decode cX10_install 210 = .ok (.iconst 0, 1) := by decide +kernel
theorem dX10_install_211 : decode cX10_install 211 = .ok (.iastore, 1) := by decide +kernel
theorem dX10_install_212 : decode cX10_install 212 = .ok (.iinc 8 1, 3) := by decide +kernel
theorem dX10_install_215 : decode cX10_install 215 = .ok (.goto (-21), 3) := by decide +kernel
theorem dX10_install_218 : decode cX10_install 218 = .ok (.iconst 0, 1) := by decide +kernel
theorem dX10_install_219 : decode cX10_install 219 = .ok (.istore 8, 2) := by decide +kernel
theorem dX10_install_221 : decode cX10_install 221 = .ok (.iload 8, 2) := by decide +kernel
theorem dX10_install_223 : decode cX10_install 223 = .ok (.sipush 2048, 3) := by decide +kernel
theorem dX10_install_226 : decode cX10_install 226 = .ok (.if_icmp .ge 17, 3) := by decide +kernel
theorem dX10_install_229 : decode cX10_install 229 = .ok (.aload_n 0, 1) := by decide +kernel
theorem dX10_install_230 : decode cX10_install 230 = .ok (.getfield 13, 3) := by decide +kernel
theorem dX10_install_233 : decode cX10_install 233 = .ok (.iload 8, 2) := by decide +kernel
theorem dX10_install_235 : decode cX10_install 235 = .ok (.iconst 0, 1) := by decide +kernel
theorem dX10_install_236 : decode cX10_install 236 = .ok (.iastore, 1) := by decide +kernel
theorem dX10_install_237 : decode cX10_install 237 = .ok (.iinc 8 1, 3) := by decide +kernel
theorem dX10_install_240 : decode cX10_install 240 = .ok (.goto (-19), 3) := by decide +kernel
theorem dX10_install_243 : decode cX10_install 243 = .ok (.iconst 0, 1) := by decide +kernel
theorem dX10_install_244 : decode cX10_install 244 = .ok (.istore 8, 2) := by decide +kernel
theorem dX10_install_246 : decode cX10_install 246 = .ok (.iload 8, 2) := by decide +kernel
theorem dX10_install_248 : decode cX10_install 248 = .ok (.iload 6, 2) := by decide +kernel
theorem dX10_install_250 : decode cX10_install 250 = .ok (.if_icmp .ge 40, 3) := by decide +kernel
theorem dX10_install_253 : decode cX10_install 253 = .ok (.aload_n 0, 1) := by decide +kernel
theorem dX10_install_254 : decode cX10_install 254 = .ok (.getfield 13, 3) := by decide +kernel
theorem dX10_install_257 : decode cX10_install 257 = .ok (.iload 8, 2) := by decide +kernel
theorem dX10_install_259 : decode cX10_install 259 = .ok (.iconst 4, 1) := by decide +kernel
theorem dX10_install_260 : decode cX10_install 260 = .ok (.idiv, 1) := by decide +kernel
theorem dX10_install_261 : decode cX10_install 261 = .ok (.dup2, 1) := by decide +kernel
theorem dX10_install_262 : decode cX10_install 262 = .ok (.iaload, 1) := by decide +kernel
theorem dX10_install_263 : decode cX10_install 263 = .ok (.aload_n 0, 1) := by decide +kernel
theorem dX10_install_264 : decode cX10_install 264 = .ok (.getfield 48, 3) := by decide +kernel
theorem dX10_install_267 : decode cX10_install 267 = .ok (.iload 8, 2) := by decide +kernel
theorem dX10_install_269 : decode cX10_install 269 = .ok (.baload, 1) := by decide +kernel
theorem dX10_install_270 : decode cX10_install 270 = .ok (.sipush 255, 3) := by decide +kernel
theorem dX10_install_273 : decode cX10_install 273 = .ok (.iand, 1) := by decide +kernel
theorem dX10_install_274 : decode cX10_install 274 = .ok (.bipush 8, 2) := by decide +kernel
theorem dX10_install_276 : decode cX10_install 276 = .ok (.iload 8, 2) := by decide +kernel
theorem dX10_install_278 : decode cX10_install 278 = .ok (.iconst 4, 1) := by decide +kernel
theorem dX10_install_279 : decode cX10_install 279 = .ok (.irem, 1) := by decide +kernel
theorem dX10_install_280 : decode cX10_install 280 = .ok (.imul, 1) := by decide +kernel
theorem dX10_install_281 : decode cX10_install 281 = .ok (.ishl, 1) := by decide +kernel
theorem dX10_install_282 : decode cX10_install 282 = .ok (.ior, 1) := by decide +kernel
theorem dX10_install_283 : decode cX10_install 283 = .ok (.iastore, 1) := by decide +kernel
theorem dX10_install_284 : decode cX10_install 284 = .ok (.iinc 8 1, 3) := by decide +kernel
theorem dX10_install_287 : decode cX10_install 287 = .ok (.goto (-41), 3) := by decide +kernel
theorem dX10_install_290 : decode cX10_install 290 = .ok (.iconst 0, 1) := by decide +kernel
theorem dX10_install_291 : decode cX10_install 291 = .ok (.istore 8, 2) := by decide +kernel
theorem dX10_install_293 : decode cX10_install 293 = .ok (.iload 8, 2) := by decide +kernel
theorem dX10_install_295 : decode cX10_install 295 = .ok (.aload_n 0, 1) := by decide +kernel
theorem dX10_install_296 : decode cX10_install 296 = .ok (.getfield 80, 3) := by decide +kernel
theorem dX10_install_299 : decode cX10_install 299 = .ok (.iconst 4, 1) := by decide +kernel
theorem dX10_install_300 : decode cX10_install 300 = .ok (.idiv, 1) := by decide +kernel
theorem dX10_install_301 : decode cX10_install 301 = .ok (.if_icmp .ge 28, 3) := by decide +kernel
theorem dX10_install_304 : decode cX10_install 304 = .ok (.aload_n 0, 1) := by decide +kernel
theorem dX10_install_305 : decode cX10_install 305 = .ok (.getfield 9, 3) := by decide +kernel
theorem dX10_install_308 : decode cX10_install 308 = .ok (.aload_n 0, 1) := by decide +kernel
theorem dX10_install_309 : decode cX10_install 309 = .ok (.getfield 95, 3) := by decide +kernel
theorem dX10_install_312 : decode cX10_install 312 = .ok (.iload 8, 2) := by decide +kernel
theorem dX10_install_314 : decode cX10_install 314 = .ok (.iadd, 1) := by decide +kernel
theorem dX10_install_315 : decode cX10_install 315 = .ok (.aload_n 0, 1) := by decide +kernel
theorem dX10_install_316 : decode cX10_install 316 = .ok (.getfield 13, 3) := by decide +kernel
theorem dX10_install_319 : decode cX10_install 319 = .ok (.iload 8, 2) := by decide +kernel
theorem dX10_install_321 : decode cX10_install 321 = .ok (.iaload, 1) := by decide +kernel
theorem dX10_install_322 : decode cX10_install 322 = .ok (.iastore, 1) := by decide +kernel
theorem dX10_install_323 : decode cX10_install 323 = .ok (.iinc 8 1, 3) := by decide +kernel
theorem dX10_install_326 : decode cX10_install 326 = .ok (.goto (-33), 3) := by decide +kernel
theorem dX10_install_329 : decode cX10_install 329 = .ok (.aload_n 0, 1) := by decide +kernel
theorem dX10_install_330 : decode cX10_install 330 = .ok (.getfield 9, 3) := by decide +kernel
theorem dX10_install_333 : decode cX10_install 333 = .ok (.bipush 35, 2) := by decide +kernel
theorem dX10_install_335 : decode cX10_install 335 = .ok (.iload 5, 2) := by decide +kernel
theorem dX10_install_337 : decode cX10_install 337 = .ok (.iastore, 1) := by decide +kernel
theorem dX10_install_338 : decode cX10_install 338 = .ok (.aload_n 0, 1) := by decide +kernel
theorem dX10_install_339 : decode cX10_install 339 = .ok (.getfield 24, 3) := by decide +kernel
theorem dX10_install_342 : decode cX10_install 342 = .ok (.aload_n 0, 1) := by decide +kernel
theorem dX10_install_343 : decode cX10_install 343 = .ok (.getfield 9, 3) := by decide +kernel
theorem dX10_install_346 : decode cX10_install 346 = .ok (.putfield 101, 3) := by decide +kernel
theorem dX10_install_349 : decode cX10_install 349 = .ok (.aload_n 0, 1) := by decide +kernel
theorem dX10_install_350 : decode cX10_install 350 = .ok (.getfield 24, 3) := by decide +kernel
theorem dX10_install_353 : decode cX10_install 353 = .ok (.aload_n 0, 1) := by decide +kernel
theorem dX10_install_354 : decode cX10_install 354 = .ok (.getfield 95, 3) := by decide +kernel
theorem dX10_install_357 : decode cX10_install 357 = .ok (.putfield 104, 3) := by decide +kernel
theorem dX10_install_360 : decode cX10_install 360 = .ok (.aload_n 0, 1) := by decide +kernel
theorem dX10_install_361 : decode cX10_install 361 = .ok (.getfield 24, 3) := by decide +kernel
theorem dX10_install_364 : decode cX10_install 364 = .ok (.aload_n 0, 1) := by decide +kernel
theorem dX10_install_365 : decode cX10_install 365 = .ok (.getfield 77, 3) := by decide +kernel
theorem dX10_install_368 : decode cX10_install 368 = .ok (.putfield 107, 3) := by decide +kernel
theorem dX10_install_371 : decode cX10_install 371 = .ok (.aload_n 0, 1) := by decide +kernel
theorem dX10_install_372 : decode cX10_install 372 = .ok (.getfield 24, 3) := by decide +kernel
theorem dX10_install_375 : decode cX10_install 375 = .ok (.aload_n 0, 1) := by decide +kernel
theorem dX10_install_376 : decode cX10_install 376 = .ok (.getfield 80, 3) := by decide +kernel
theorem dX10_install_379 : decode cX10_install 379 = .ok (.putfield 108, 3) := by decide +kernel
theorem dX10_install_382 : decode cX10_install 382 = .ok (.aload_n 0, 1) := by decide +kernel
theorem dX10_install_383 : decode cX10_install 383 = .ok (.getfield 24, 3) := by decide +kernel
theorem dX10_install_386 : decode cX10_install 386 = .ok (.iconst 0, 1) := by decide +kernel
theorem dX10_install_387 : decode cX10_install 387 = .ok (.putfield 109, 3) := by decide +kernel
theorem dX10_install_390 : decode cX10_install 390 = .ok (.aload_n 0, 1) := by decide +kernel
theorem dX10_install_391 : decode cX10_install 391 = .ok (.getfield 28, 3) := by decide +kernel
theorem dX10_install_394 : decode cX10_install 394 = .ok (.iconst 0, 1) := by decide +kernel
theorem dX10_install_395 : decode cX10_install 395 = .ok (.putfield 109, 3) := by decide +kernel
theorem dX10_install_398 : decode cX10_install 398 = .ok (.aload_n 0, 1) := by decide +kernel
theorem dX10_install_399 : decode cX10_install 399 = .ok (.getfield 37, 3) := by decide +kernel
theorem dX10_install_402 : decode cX10_install 402 = .ok (.iconst 0, 1) := by decide +kernel
theorem dX10_install_403 : decode cX10_install 403 = .ok (.putfield 112, 3) := by decide +kernel
theorem dX10_install_406 : decode cX10_install 406 = .ok (.aload_n 0, 1) := by decide +kernel
theorem dX10_install_407 : decode cX10_install 407 = .ok (.getfield 41, 3) := by decide +kernel
theorem dX10_install_410 : decode cX10_install 410 = .ok (.iconst 0, 1) := by decide +kernel
theorem dX10_install_411 : decode cX10_install 411 = .ok (.putfield 112, 3) := by decide +kernel
theorem dX10_install_414 : decode cX10_install 414 = .ok (.aload_n 0, 1) := by decide +kernel
theorem dX10_install_415 : decode cX10_install 415 = .ok (.iconst 0, 1) := by decide +kernel
theorem dX10_install_416 : decode cX10_install 416 = .ok (.putfield 115, 3) := by decide +kernel
theorem dX10_install_419 : decode cX10_install 419 = .ok (.aload_n 0, 1) := by decide +kernel
theorem dX10_install_420 : decode cX10_install 420 = .ok (.iconst 0, 1) := by decide +kernel
theorem dX10_install_421 : decode cX10_install 421 = .ok (.putfield 118, 3) := by decide +kernel
theorem dX10_install_424 : decode cX10_install 424 = .ok (.aload_n 0, 1) := by decide +kernel
theorem dX10_install_425 : decode cX10_install 425 = .ok (.iconst 0, 1) := by decide +kernel
theorem dX10_install_426 : decode cX10_install 426 = .ok (.putfield 121, 3) := by decide +kernel
theorem dX10_install_429 : decode cX10_install 429 = .ok (.aload_n 0, 1) := by decide +kernel
theorem dX10_install_430 : decode cX10_install 430 = .ok (.iconst 0, 1) := by decide +kernel
theorem dX10_install_431 : decode cX10_install 431 = .ok (.putfield 124, 3) := by decide +kernel
theorem dX10_install_434 : decode cX10_install 434 = .ok (.aload_n 0, 1) := by decide +kernel
theorem dX10_install_435 : decode cX10_install 435 = .ok (.iconst 0, 1) := by decide +kernel
theorem dX10_install_436 : decode cX10_install 436 = .ok (.putfield 127, 3) := by decide +kernel
theorem dX10_install_439 : decode cX10_install 439 = .ok (.aload_n 0, 1) := by decide +kernel
theorem dX10_install_440 : decode cX10_install 440 = .ok (.iconst 0, 1) := by decide +kernel
theorem dX10_install_441 : decode cX10_install 441 = .ok (.putfield 130, 3) := by decide +kernel
theorem dX10_install_444 : decode cX10_install 444 = .ok (.aload_n 0, 1) := by decide +kernel
theorem dX10_install_445 : decode cX10_install 445 = .ok (.iconst 0, 1) := by decide +kernel
theorem dX10_install_446 : decode cX10_install 446 = .ok (.putfield 133, 3) := by decide +kernel
theorem dX10_install_449 : decode cX10_install 449 = .ok (.aload_n 0, 1) := by decide +kernel
theorem dX10_install_450 : decode cX10_install 450 = .ok (.iconst 0, 1) := by decide +kernel
theorem dX10_install_451 : decode cX10_install 451 = .ok (.putfield 136, 3) := by decide +kernel
theorem dX10_install_454 : decode cX10_install 454 = .ok (.aload_n 0, 1) := by decide +kernel
theorem dX10_install_455 : decode cX10_install 455 = .ok (.iconst 0, 1) := by decide +kernel
theorem dX10_install_456 : decode cX10_install 456 = .ok (.putfield 139, 3) := by decide +kernel
theorem dX10_install_459 : decode cX10_install 459 = .ok (.aload_n 0, 1) := by decide +kernel
theorem dX10_install_460 : decode cX10_install 460 = .ok (.iconst 0, 1) := by decide +kernel
theorem dX10_install_461 : decode cX10_install 461 = .ok (.putfield 142, 3) := by decide +kernel
theorem dX10_install_464 : decode cX10_install 464 = .ok (.iconst 0, 1) := by decide +kernel
theorem dX10_install_465 : decode cX10_install 465 = .ok (.ireturn, 1) := by decide +kernel
theorem dX10_sample_0 : decode cX10_sample 0 = .ok (.aload_n 0, 1) := by decide +kernel
theorem dX10_sample_1 : decode cX10_sample 1 = .ok (.getfield 64, 3) := by decide +kernel
theorem dX10_sample_4 : decode cX10_sample 4 = .ok (.ifCond .eq 23, 3) := by decide +kernel
theorem dX10_sample_7 : decode cX10_sample 7 = .ok (.aload_n 0, 1) := by decide +kernel
theorem dX10_sample_8 : decode cX10_sample 8 = .ok (.getfield 68, 3) := by decide +kernel
theorem dX10_sample_11 : decode cX10_sample 11 = .ok (.ifCond .ne 16, 3) := by decide +kernel
theorem dX10_sample_14 : decode cX10_sample 14 = .ok (.aload_n 0, 1) := by decide +kernel
theorem dX10_sample_15 : decode cX10_sample 15 = .ok (.getfield 24, 3) := by decide +kernel
theorem dX10_sample_18 : decode cX10_sample 18 = .ok (.getfield 109, 3) := by decide +kernel
theorem dX10_sample_21 : decode cX10_sample 21 = .ok (.sipush 1000, 3) := by decide +kernel
theorem dX10_sample_24 : decode cX10_sample 24 = .ok (.if_icmp .ne 5, 3) := by decide +kernel
theorem dX10_sample_27 : decode cX10_sample 27 = .ok (.iconst (-1), 1) := by decide +kernel
theorem dX10_sample_28 : decode cX10_sample 28 = .ok (.ireturn, 1) := by decide +kernel
theorem dX10_sample_29 : decode cX10_sample 29 = .ok (.aload_n 0, 1) := by decide +kernel
theorem dX10_sample_30 : decode cX10_sample 30 = .ok (.getfield 16, 3) := by decide +kernel
theorem dX10_sample_33 : decode cX10_sample 33 = .ok (.aload_n 0, 1) := by decide +kernel
theorem dX10_sample_34 : decode cX10_sample 34 = .ok (.getfield 24, 3) := by decide +kernel
theorem dX10_sample_37 : decode cX10_sample 37 = .ok (.getfield 109, 3) := by decide +kernel
theorem dX10_sample_40 : decode cX10_sample 40 = .ok (.iload_n 1, 1) := by decide +kernel
theorem dX10_sample_41 : decode cX10_sample 41 = .ok (.iastore, 1) := by decide +kernel
theorem dX10_sample_42 : decode cX10_sample 42 = .ok (.aload_n 0, 1) := by decide +kernel
theorem dX10_sample_43 : decode cX10_sample 43 = .ok (.getfield 24, 3) := by decide +kernel
theorem dX10_sample_46 : decode cX10_sample 46 = .ok (.dup, 1) := by decide +kernel
theorem dX10_sample_47 : decode cX10_sample 47 = .ok (.getfield 109, 3) := by decide +kernel
theorem dX10_sample_50 : decode cX10_sample 50 = .ok (.iconst 1, 1) := by decide +kernel
theorem dX10_sample_51 : decode cX10_sample 51 = .ok (.iadd, 1) := by decide +kernel
theorem dX10_sample_52 : decode cX10_sample 52 = .ok (.putfield 109, 3) := by decide +kernel
theorem dX10_sample_55 : decode cX10_sample 55 = .ok (.aload_n 0, 1) := by decide +kernel
theorem dX10_sample_56 : decode cX10_sample 56 = .ok (.getfield 28, 3) := by decide +kernel
theorem dX10_sample_59 : decode cX10_sample 59 = .ok (.aload_n 0, 1) := by decide +kernel
theorem dX10_sample_60 : decode cX10_sample 60 = .ok (.getfield 24, 3) := by decide +kernel
theorem dX10_sample_63 : decode cX10_sample 63 = .ok (.getfield 109, 3) := by decide +kernel
theorem dX10_sample_66 : decode cX10_sample 66 = .ok (.putfield 109, 3) := by decide +kernel
theorem dX10_sample_69 : decode cX10_sample 69 = .ok (.aload_n 0, 1) := by decide +kernel
theorem dX10_sample_70 : decode cX10_sample 70 = .ok (.getfield 24, 3) := by decide +kernel
theorem dX10_sample_73 : decode cX10_sample 73 = .ok (.getfield 109, 3) := by decide +kernel
theorem dX10_sample_76 : decode cX10_sample 76 = .ok (.ireturn, 1) := by decide +kernel
theorem dX10_generation_0 : decode cX10_generation 0 = .ok (.aload_n 0, 1) := by decide +kernel
theorem dX10_generation_1 : decode cX10_generation 1 = .ok (.getfield 9, 3) := by decide +kernel
theorem dX10_generation_4 : decode cX10_generation 4 = .ok (.iconst 0, 1) := by decide +kernel
theorem dX10_generation_5 : decode cX10_generation 5 = .ok (.iaload, 1) := by decide +kernel
theorem dX10_generation_6 : decode cX10_generation 6 = .ok (.ireturn, 1) := by decide +kernel
theorem dX10_bufferAt_0 : decode cX10_bufferAt 0 = .ok (.iconst 3, 1) := by decide +kernel
theorem dX10_bufferAt_1 : decode cX10_bufferAt 1 = .ok (.iload_n 1, 1) := by decide +kernel
theorem dX10_bufferAt_2 : decode cX10_bufferAt 2 = .ok (.iconst 1, 1) := by decide +kernel
theorem dX10_bufferAt_3 : decode cX10_bufferAt 3 = .ok (.iand, 1) := by decide +kernel
theorem dX10_bufferAt_4 : decode cX10_bufferAt 4 = .ok (.bipush 36, 2) := by decide +kernel
theorem dX10_bufferAt_6 : decode cX10_bufferAt 6 = .ok (.aload_n 0, 1) := by decide +kernel
theorem dX10_bufferAt_7 : decode cX10_bufferAt 7 = .ok (.getfield 77, 3) := by decide +kernel
theorem dX10_bufferAt_10 : decode cX10_bufferAt 10 = .ok (.iconst 4, 1) := by decide +kernel
theorem dX10_bufferAt_11 : decode cX10_bufferAt 11 = .ok (.idiv, 1) := by decide +kernel
theorem dX10_bufferAt_12 : decode cX10_bufferAt 12 = .ok (.iadd, 1) := by decide +kernel
theorem dX10_bufferAt_13 : decode cX10_bufferAt 13 = .ok (.imul, 1) := by decide +kernel
theorem dX10_bufferAt_14 : decode cX10_bufferAt 14 = .ok (.iadd, 1) := by decide +kernel
theorem dX10_bufferAt_15 : decode cX10_bufferAt 15 = .ok (.ireturn, 1) := by decide +kernel
theorem dX10_counting_0 : decode cX10_counting 0 = .ok (.aload_n 0, 1) := by decide +kernel
theorem dX10_counting_1 : decode cX10_counting 1 = .ok (.getfield 9, 3) := by decide +kernel
theorem dX10_counting_4 : decode cX10_counting 4 = .ok (.iconst 1, 1) := by decide +kernel
theorem dX10_counting_5 : decode cX10_counting 5 = .ok (.iaload, 1) := by decide +kernel
theorem dX10_counting_6 : decode cX10_counting 6 = .ok (.ldc 145, 2) := by decide +kernel
theorem dX10_counting_8 : decode cX10_counting 8 = .ok (.iand, 1) := by decide +kernel
theorem dX10_counting_9 : decode cX10_counting 9 = .ok (.ireturn, 1) := by decide +kernel
theorem dX10_on_0 : decode cX10_on 0 = .ok (.aload_n 0, 1) := by decide +kernel
theorem dX10_on_1 : decode cX10_on 1 = .ok (.getfield 64, 3) := by decide +kernel
theorem dX10_on_4 : decode cX10_on 4 = .ok (.ifCond .eq 10, 3) := by decide +kernel
theorem dX10_on_7 : decode cX10_on 7 = .ok (.aload_n 0, 1) := by decide +kernel
theorem dX10_on_8 : decode cX10_on 8 = .ok (.getfield 71, 3) := by decide +kernel
theorem dX10_on_11 : decode cX10_on 11 = .ok (.ifCond .eq 5, 3) := by decide +kernel
theorem dX10_on_14 : decode cX10_on 14 = .ok (.iconst 0, 1) := by decide +kernel
theorem dX10_on_15 : decode cX10_on 15 = .ok (.ireturn, 1) := by decide +kernel
theorem dX10_on_16 : decode cX10_on 16 = .ok (.aload_n 0, 1) := by decide +kernel
theorem dX10_on_17 : decode cX10_on 17 = .ok (.iconst 1, 1) := by decide +kernel
theorem dX10_on_18 : decode cX10_on 18 = .ok (.putfield 71, 3) := by decide +kernel
theorem dX10_on_21 : decode cX10_on 21 = .ok (.aload_n 0, 1) := by decide +kernel
theorem dX10_on_22 : decode cX10_on 22 = .ok (.iconst 1, 1) := by decide +kernel
theorem dX10_on_23 : decode cX10_on 23 = .ok (.putfield 68, 3) := by decide +kernel
theorem dX10_on_26 : decode cX10_on 26 = .ok (.aload_n 0, 1) := by decide +kernel
theorem dX10_on_27 : decode cX10_on 27 = .ok (.iconst 0, 1) := by decide +kernel
theorem dX10_on_28 : decode cX10_on 28 = .ok (.putfield 118, 3) := by decide +kernel
theorem dX10_on_31 : decode cX10_on 31 = .ok (.aload_n 0, 1) := by decide +kernel
theorem dX10_on_32 : decode cX10_on 32 = .ok (.iconst 0, 1) := by decide +kernel
theorem dX10_on_33 : decode cX10_on 33 = .ok (.putfield 115, 3) := by decide +kernel
theorem dX10_on_36 : decode cX10_on 36 = .ok (.aload_n 0, 1) := by decide +kernel
theorem dX10_on_37 : decode cX10_on 37 = .ok (.aload_n 0, 1) := by decide +kernel
theorem dX10_on_38 : decode cX10_on 38 = .ok (.invokevirtual 146, 3) := by decide +kernel
theorem dX10_on_41 : decode cX10_on 41 = .ok (.invokevirtual 150, 3) := by decide +kernel
theorem dX10_on_44 : decode cX10_on 44 = .ok (.istore_n 1, 1) := by decide +kernel
theorem dX10_on_45 : decode cX10_on 45 = .ok (.iconst 0, 1) := by decide +kernel
theorem dX10_on_46 : decode cX10_on 46 = .ok (.istore_n 2, 1) := by decide +kernel
theorem dX10_on_47 : decode cX10_on 47 = .ok (.iload_n 2, 1) := by decide +kernel
theorem dX10_on_48 : decode cX10_on 48 = .ok (.bipush 32, 2) := by decide +kernel
theorem dX10_on_50 : decode cX10_on 50 = .ok (.if_icmp .ge 26, 3) := by decide +kernel
theorem dX10_on_53 : decode cX10_on 53 = .ok (.aload_n 0, 1) := by decide +kernel
theorem dX10_on_54 : decode cX10_on 54 = .ok (.getfield 24, 3) := by decide +kernel
theorem dX10_on_57 : decode cX10_on 57 = .ok (.getfield 154, 3) := by decide +kernel
theorem dX10_on_60 : decode cX10_on 60 = .ok (.iload_n 2, 1) := by decide +kernel
theorem dX10_on_61 : decode cX10_on 61 = .ok (.aload_n 0, 1) := by decide +kernel
theorem dX10_on_62 : decode cX10_on 62 = .ok (.getfield 9, 3) := by decide +kernel
theorem dX10_on_65 : decode cX10_on 65 = .ok (.iload_n 1, 1) := by decide +kernel
theorem dX10_on_66 : decode cX10_on 66 = .ok (.iload_n 2, 1) := by decide +kernel
theorem dX10_on_67 : decode cX10_on 67 = .ok (.iadd, 1) := by decide +kernel
theorem dX10_on_68 : decode cX10_on 68 = .ok (.iaload, 1) := by decide +kernel
theorem dX10_on_69 : decode cX10_on 69 = .ok (.iastore, 1) := by decide +kernel
theorem dX10_on_70 : decode cX10_on 70 = .ok (.iinc 2 1, 3) := by decide +kernel
theorem dX10_on_73 : decode cX10_on 73 = .ok (.goto (-26), 3) := by decide +kernel
theorem dX10_on_76 : decode cX10_on 76 = .ok (.aload_n 0, 1) := by decide +kernel
theorem dX10_on_77 : decode cX10_on 77 = .ok (.getfield 24, 3) := by decide +kernel
theorem dX10_on_80 : decode cX10_on 80 = .ok (.aload_n 0, 1) := by decide +kernel
theorem dX10_on_81 : decode cX10_on 81 = .ok (.getfield 9, 3) := by decide +kernel
theorem dX10_on_84 : decode cX10_on 84 = .ok (.iload_n 1, 1) := by decide +kernel
theorem dX10_on_85 : decode cX10_on 85 = .ok (.bipush 32, 2) := by decide +kernel
theorem dX10_on_87 : decode cX10_on 87 = .ok (.iadd, 1) := by decide +kernel
theorem dX10_on_88 : decode cX10_on 88 = .ok (.iaload, 1) := by decide +kernel
theorem dX10_on_89 : decode cX10_on 89 = .ok (.putfield 157, 3) := by decide +kernel
theorem dX10_on_92 : decode cX10_on 92 = .ok (.aload_n 0, 1) := by decide +kernel
theorem dX10_on_93 : decode cX10_on 93 = .ok (.getfield 24, 3) := by decide +kernel
theorem dX10_on_96 : decode cX10_on 96 = .ok (.aload_n 0, 1) := by decide +kernel
theorem dX10_on_97 : decode cX10_on 97 = .ok (.getfield 9, 3) := by decide +kernel
theorem dX10_on_100 : decode cX10_on 100 = .ok (.iload_n 1, 1) := by decide +kernel
theorem dX10_on_101 : decode cX10_on 101 = .ok (.bipush 33, 2) := by decide +kernel
theorem dX10_on_103 : decode cX10_on 103 = .ok (.iadd, 1) := by decide +kernel
theorem dX10_on_104 : decode cX10_on 104 = .ok (.iaload, 1) := by decide +kernel
theorem dX10_on_105 : decode cX10_on 105 = .ok (.putfield 160, 3) := by decide +kernel
theorem dX10_on_108 : decode cX10_on 108 = .ok (.aload_n 0, 1) := by decide +kernel
theorem dX10_on_109 : decode cX10_on 109 = .ok (.getfield 24, 3) := by decide +kernel
theorem dX10_on_112 : decode cX10_on 112 = .ok (.aload_n 0, 1) := by decide +kernel
theorem dX10_on_113 : decode cX10_on 113 = .ok (.getfield 9, 3) := by decide +kernel
theorem dX10_on_116 : decode cX10_on 116 = .ok (.iload_n 1, 1) := by decide +kernel
theorem dX10_on_117 : decode cX10_on 117 = .ok (.bipush 34, 2) := by decide +kernel
theorem dX10_on_119 : decode cX10_on 119 = .ok (.iadd, 1) := by decide +kernel
theorem dX10_on_120 : decode cX10_on 120 = .ok (.iaload, 1) := by decide +kernel
theorem dX10_on_121 : decode cX10_on 121 = .ok (.putfield 163, 3) := by decide +kernel
theorem dX10_on_124 : decode cX10_on 124 = .ok (.aload_n 0, 1) := by decide +kernel
theorem dX10_on_125 : decode cX10_on 125 = .ok (.getfield 24, 3) := by decide +kernel
theorem dX10_on_128 : decode cX10_on 128 = .ok (.aload_n 0, 1) := by decide +kernel
theorem dX10_on_129 : decode cX10_on 129 = .ok (.getfield 9, 3) := by decide +kernel
theorem dX10_on_132 : decode cX10_on 132 = .ok (.iload_n 1, 1) := by decide +kernel
theorem dX10_on_133 : decode cX10_on 133 = .ok (.bipush 35, 2) := by decide +kernel
theorem dX10_on_135 : decode cX10_on 135 = .ok (.iadd, 1) := by decide +kernel
theorem dX10_on_136 : decode cX10_on 136 = .ok (.iaload, 1) := by decide +kernel
theorem dX10_on_137 : decode cX10_on 137 = .ok (.putfield 166, 3) := by decide +kernel
theorem dX10_on_140 : decode cX10_on 140 = .ok (.iconst 0, 1) := by decide +kernel
theorem dX10_on_141 : decode cX10_on 141 = .ok (.istore_n 2, 1) := by decide +kernel
theorem dX10_on_142 : decode cX10_on 142 = .ok (.iload_n 2, 1) := by decide +kernel
theorem dX10_on_143 : decode cX10_on 143 = .ok (.aload_n 0, 1) := by decide +kernel
theorem dX10_on_144 : decode cX10_on 144 = .ok (.getfield 77, 3) := by decide +kernel
theorem dX10_on_147 : decode cX10_on 147 = .ok (.iconst 4, 1) := by decide +kernel
theorem dX10_on_148 : decode cX10_on 148 = .ok (.idiv, 1) := by decide +kernel
theorem dX10_on_149 : decode cX10_on 149 = .ok (.if_icmp .ge 29, 3) := by decide +kernel
theorem dX10_on_152 : decode cX10_on 152 = .ok (.aload_n 0, 1) := by decide +kernel
theorem dX10_on_153 : decode cX10_on 153 = .ok (.getfield 24, 3) := by decide +kernel
theorem dX10_on_156 : decode cX10_on 156 = .ok (.getfield 167, 3) := by decide +kernel
theorem dX10_on_159 : decode cX10_on 159 = .ok (.iload_n 2, 1) := by decide +kernel
theorem dX10_on_160 : decode cX10_on 160 = .ok (.aload_n 0, 1) := by decide +kernel
theorem dX10_on_161 : decode cX10_on 161 = .ok (.getfield 9, 3) := by decide +kernel
theorem dX10_on_164 : decode cX10_on 164 = .ok (.iload_n 1, 1) := by decide +kernel
theorem dX10_on_165 : decode cX10_on 165 = .ok (.bipush 36, 2) := by decide +kernel
theorem dX10_on_167 : decode cX10_on 167 = .ok (.iadd, 1) := by decide +kernel
theorem dX10_on_168 : decode cX10_on 168 = .ok (.iload_n 2, 1) := by decide +kernel
theorem dX10_on_169 : decode cX10_on 169 = .ok (.iadd, 1) := by decide +kernel
theorem dX10_on_170 : decode cX10_on 170 = .ok (.iaload, 1) := by decide +kernel
theorem dX10_on_171 : decode cX10_on 171 = .ok (.iastore, 1) := by decide +kernel
theorem dX10_on_172 : decode cX10_on 172 = .ok (.iinc 2 1, 3) := by decide +kernel
theorem dX10_on_175 : decode cX10_on 175 = .ok (.goto (-33), 3) := by decide +kernel
theorem dX10_on_178 : decode cX10_on 178 = .ok (.aload_n 0, 1) := by decide +kernel
theorem dX10_on_179 : decode cX10_on 179 = .ok (.invokevirtual 170, 3) := by decide +kernel
theorem dX10_on_182 : decode cX10_on 182 = .ok (.aload_n 0, 1) := by decide +kernel
theorem dX10_on_183 : decode cX10_on 183 = .ok (.getfield 9, 3) := by decide +kernel
theorem dX10_on_186 : decode cX10_on 186 = .ok (.iconst 1, 1) := by decide +kernel
theorem dX10_on_187 : decode cX10_on 187 = .ok (.iaload, 1) := by decide +kernel
theorem dX10_on_188 : decode cX10_on 188 = .ok (.bipush 16, 2) := by decide +kernel
theorem dX10_on_190 : decode cX10_on 190 = .ok (.iushr, 1) := by decide +kernel
theorem dX10_on_191 : decode cX10_on 191 = .ok (.istore_n 2, 1) := by decide +kernel
theorem dX10_on_192 : decode cX10_on 192 = .ok (.iload_n 2, 1) := by decide +kernel
theorem dX10_on_193 : decode cX10_on 193 = .ok (.aload_n 0, 1) := by decide +kernel
theorem dX10_on_194 : decode cX10_on 194 = .ok (.invokevirtual 146, 3) := by decide +kernel
theorem dX10_on_197 : decode cX10_on 197 = .ok (.if_icmp .eq 27, 3) := by decide +kernel
theorem dX10_on_200 : decode cX10_on 200 = .ok (.iload_n 2, 1) := by decide +kernel
theorem dX10_on_201 : decode cX10_on 201 = .ok (.aload_n 0, 1) := by decide +kernel
theorem dX10_on_202 : decode cX10_on 202 = .ok (.invokevirtual 146, 3) := by decide +kernel
theorem dX10_on_205 : decode cX10_on 205 = .ok (.ldc 145, 2) := by decide +kernel
theorem dX10_on_207 : decode cX10_on 207 = .ok (.iadd, 1) := by decide +kernel
theorem dX10_on_208 : decode cX10_on 208 = .ok (.ldc 145, 2) := by decide +kernel
theorem dX10_on_210 : decode cX10_on 210 = .ok (.iand, 1) := by decide +kernel
theorem dX10_on_211 : decode cX10_on 211 = .ok (.if_icmp .eq 13, 3) := by decide +kernel
theorem dX10_on_214 : decode cX10_on 214 = .ok (.aload_n 0, 1) := by decide +kernel
theorem dX10_on_215 : decode cX10_on 215 = .ok (.dup, 1) := by decide +kernel
theorem dX10_on_216 : decode cX10_on 216 = .ok (.getfield 173, 3) := by decide +kernel
theorem dX10_on_219 : decode cX10_on 219 = .ok (.iconst 1, 1) := by decide +kernel
theorem dX10_on_220 : decode cX10_on 220 = .ok (.iadd, 1) := by decide +kernel
theorem dX10_on_221 : decode cX10_on 221 = .ok (.putfield 173, 3) := by decide +kernel
theorem dX10_on_224 : decode cX10_on 224 = .ok (.aload_n 0, 1) := by decide +kernel
theorem dX10_on_225 : decode cX10_on 225 = .ok (.iload_n 2, 1) := by decide +kernel
theorem dX10_on_226 : decode cX10_on 226 = .ok (.aload_n 0, 1) := by decide +kernel
theorem dX10_on_227 : decode cX10_on 227 = .ok (.invokevirtual 146, 3) := by decide +kernel
theorem dX10_on_230 : decode cX10_on 230 = .ok (.if_icmp .ne 10, 3) := by decide +kernel
theorem dX10_on_233 : decode cX10_on 233 = .ok (.aload_n 0, 1) := by decide +kernel
theorem dX10_on_234 : decode cX10_on 234 = .ok (.invokevirtual 176, 3) := by decide +kernel
theorem dX10_on_237 : decode cX10_on 237 = .ok (.goto 4, 3) := by decide +kernel
theorem dX10_on_240 : decode cX10_on 240 = .ok (.iconst (-1), 1) := by decide +kernel
theorem dX10_on_241 : decode cX10_on 241 = .ok (.putfield 179, 3) := by decide +kernel
theorem dX10_on_244 : decode cX10_on 244 = .ok (.aload_n 0, 1) := by decide +kernel
theorem dX10_on_245 : decode cX10_on 245 = .ok (.aload_n 0, 1) := by decide +kernel
theorem dX10_on_246 : decode cX10_on 246 = .ok (.getfield 179, 3) := by decide +kernel
theorem dX10_on_249 : decode cX10_on 249 = .ok (.ifCond .ne 7, 3) := by decide +kernel
theorem dX10_on_252 : decode cX10_on 252 = .ok (.iconst 0, 1) := by decide +kernel
theorem dX10_on_253 : decode cX10_on 253 = .ok (.goto 4, 3) := by decide +kernel
theorem dX10_on_256 : decode cX10_on 256 = .ok (.iconst 1, 1) := by decide +kernel
theorem dX10_on_257 : decode cX10_on 257 = .ok (.putfield 121, 3) := by decide +kernel
theorem dX10_on_260 : decode cX10_on 260 = .ok (.iconst 1, 1) := by decide +kernel
theorem dX10_on_261 : decode cX10_on 261 = .ok (.ireturn, 1) := by decide +kernel
theorem dX10_forgetEntries_0 : decode cX10_forgetEntries 0 = .ok (.iconst 0, 1) := by decide +kernel
theorem dX10_forgetEntries_1 : decode cX10_forgetEntries 1 = .ok (.istore_n 1, 1) := by decide +kernel
theorem dX10_forgetEntries_2 : decode cX10_forgetEntries 2 = .ok (.iload_n 1, 1) := by decide +kernel
theorem dX10_forgetEntries_3 : decode cX10_forgetEntries 3 = .ok (.sipush 2048, 3) := by decide +kernel
theorem dX10_forgetEntries_6 : decode cX10_forgetEntries 6 = .ok (.if_icmp .ge 16, 3) := by decide +kernel
theorem dX10_forgetEntries_9 : decode cX10_forgetEntries 9 = .ok (.aload_n 0, 1) := by decide +kernel
theorem dX10_forgetEntries_10 : decode cX10_forgetEntries 10 = .ok (.getfield 44, 3) := by decide +kernel
theorem dX10_forgetEntries_13 : decode cX10_forgetEntries 13 = .ok (.iload_n 1, 1) := by decide +kernel
theorem dX10_forgetEntries_14 : decode cX10_forgetEntries 14 = .ok (.iconst 0, 1) := by decide +kernel
theorem dX10_forgetEntries_15 : decode cX10_forgetEntries 15 = .ok (.bastore, 1) := by decide +kernel
theorem dX10_forgetEntries_16 : decode cX10_forgetEntries 16 = .ok (.iinc 1 1, 3) := by decide +kernel
theorem dX10_forgetEntries_19 : decode cX10_forgetEntries 19 = .ok (.goto (-17), 3) := by decide +kernel
theorem dX10_forgetEntries_22 : decode cX10_forgetEntries 22 = .ok (.return_, 1) := by decide +kernel
theorem dX10_cut_0 : decode cX10_cut 0 = .ok (.aload_n 0, 1) := by decide +kernel
theorem dX10_cut_1 : decode cX10_cut 1 = .ok (.getfield 71, 3) := by decide +kernel
theorem dX10_cut_4 : decode cX10_cut 4 = .ok (.ifCond .ne 5, 3) := by decide +kernel
theorem dX10_cut_7 : decode cX10_cut 7 = .ok (.iconst 0, 1) := by decide +kernel
theorem dX10_cut_8 : decode cX10_cut 8 = .ok (.ireturn, 1) := by decide +kernel
theorem dX10_cut_9 : decode cX10_cut 9 = .ok (.aload_n 0, 1) := by decide +kernel
theorem dX10_cut_10 : decode cX10_cut 10 = .ok (.iconst 0, 1) := by decide +kernel
theorem dX10_cut_11 : decode cX10_cut 11 = .ok (.putfield 71, 3) := by decide +kernel
theorem dX10_cut_14 : decode cX10_cut 14 = .ok (.aload_n 0, 1) := by decide +kernel
theorem dX10_cut_15 : decode cX10_cut 15 = .ok (.dup, 1) := by decide +kernel
theorem dX10_cut_16 : decode cX10_cut 16 = .ok (.getfield 139, 3) := by decide +kernel
theorem dX10_cut_19 : decode cX10_cut 19 = .ok (.iconst 1, 1) := by decide +kernel
theorem dX10_cut_20 : decode cX10_cut 20 = .ok (.iadd, 1) := by decide +kernel
theorem dX10_cut_21 : decode cX10_cut 21 = .ok (.putfield 139, 3) := by decide +kernel
theorem dX10_cut_24 : decode cX10_cut 24 = .ok (.aload_n 0, 1) := by decide +kernel
theorem dX10_cut_25 : decode cX10_cut 25 = .ok (.dup, 1) := by decide +kernel
theorem dX10_cut_26 : decode cX10_cut 26 = .ok (.getfield 130, 3) := by decide +kernel
theorem dX10_cut_29 : decode cX10_cut 29 = .ok (.aload_n 0, 1) := by decide +kernel
theorem dX10_cut_30 : decode cX10_cut 30 = .ok (.getfield 115, 3) := by decide +kernel
theorem dX10_cut_33 : decode cX10_cut 33 = .ok (.iadd, 1) := by decide +kernel
theorem dX10_cut_34 : decode cX10_cut 34 = .ok (.putfield 130, 3) := by decide +kernel
theorem dX10_cut_37 : decode cX10_cut 37 = .ok (.aload_n 0, 1) := by decide +kernel
theorem dX10_cut_38 : decode cX10_cut 38 = .ok (.iconst 0, 1) := by decide +kernel
theorem dX10_cut_39 : decode cX10_cut 39 = .ok (.putfield 115, 3) := by decide +kernel
theorem dX10_cut_42 : decode cX10_cut 42 = .ok (.aload_n 0, 1) := by decide +kernel
theorem dX10_cut_43 : decode cX10_cut 43 = .ok (.iconst 0, 1) := by decide +kernel
theorem dX10_cut_44 : decode cX10_cut 44 = .ok (.putfield 118, 3) := by decide +kernel
theorem dX10_cut_47 : decode cX10_cut 47 = .ok (.aload_n 0, 1) := by decide +kernel
theorem dX10_cut_48 : decode cX10_cut 48 = .ok (.iconst 0, 1) := by decide +kernel
theorem dX10_cut_49 : decode cX10_cut 49 = .ok (.putfield 121, 3) := by decide +kernel
theorem dX10_cut_52 : decode cX10_cut 52 = .ok (.iconst 1, 1) := by decide +kernel
theorem dX10_cut_53 : decode cX10_cut 53 = .ok (.ireturn, 1) := by decide +kernel
theorem dX10_go_0 : decode cX10_go 0 = .ok (.iload_n 1, 1) := by decide +kernel
theorem dX10_go_1 : decode cX10_go 1 = .ok (.ifCond .lt 10, 3) := by decide +kernel
theorem dX10_go_4 : decode cX10_go 4 = .ok (.iload_n 1, 1) := by decide +kernel
theorem dX10_go_5 : decode cX10_go 5 = .ok (.sipush 20000, 3) := by decide +kernel
theorem dX10_go_8 : decode cX10_go 8 = .ok (.if_icmp .le 5, 3) := by decide +kernel
theorem dX10_go_11 : decode cX10_go 11 = .ok (.iconst (-1), 1) := by decide +kernel
theorem dX10_go_12 : decode cX10_go 12 = .ok (.ireturn, 1) := by decide +kernel
theorem dX10_go_13 : decode cX10_go 13 = .ok (.iconst 0, 1) := by decide +kernel
theorem dX10_go_14 : decode cX10_go 14 = .ok (.istore_n 2, 1) := by decide +kernel
theorem dX10_go_15 : decode cX10_go 15 = .ok (.iload_n 2, 1) := by decide +kernel
theorem dX10_go_16 : decode cX10_go 16 = .ok (.iload_n 1, 1) := by decide +kernel
theorem dX10_go_17 : decode cX10_go 17 = .ok (.if_icmp .ge 37, 3) := by decide +kernel
theorem dX10_go_20 : decode cX10_go 20 = .ok (.aload_n 0, 1) := by decide +kernel
theorem dX10_go_21 : decode cX10_go 21 = .ok (.getfield 71, 3) := by decide +kernel
theorem dX10_go_24 : decode cX10_go 24 = .ok (.ifCond .eq 30, 3) := by decide +kernel
theorem dX10_go_27 : decode cX10_go 27 = .ok (.aload_n 0, 1) := by decide +kernel
theorem dX10_go_28 : decode cX10_go 28 = .ok (.getfield 118, 3) := by decide +kernel
theorem dX10_go_31 : decode cX10_go 31 = .ok (.ifCond .ne 23, 3) := by decide +kernel
theorem dX10_go_34 : decode cX10_go 34 = .ok (.aload_n 0, 1) := by decide +kernel
theorem dX10_go_35 : decode cX10_go 35 = .ok (.invokevirtual 182, 3) := by decide +kernel
theorem dX10_go_38 : decode cX10_go 38 = .ok (.aload_n 0, 1) := by decide +kernel
theorem dX10_go_39 : decode cX10_go 39 = .ok (.dup, 1) := by decide +kernel
theorem dX10_go_40 : decode cX10_go 40 = .ok (.getfield 124, 3) := by decide +kernel
theorem dX10_go_43 : decode cX10_go 43 = .ok (.iconst 1, 1) := by decide +kernel
theorem dX10_go_44 : decode cX10_go 44 = .ok (.iadd, 1) := by decide +kernel
theorem dX10_go_45 : decode cX10_go 45 = .ok (.putfield 124, 3) := by decide +kernel
theorem dX10_go_48 : decode cX10_go 48 = .ok (.iinc 2 1, 3) := by decide +kernel
theorem dX10_go_51 : decode cX10_go 51 = .ok (.goto (-36), 3) := by decide +kernel
theorem dX10_go_54 : decode cX10_go 54 = .ok (.iload_n 2, 1) := by decide +kernel
theorem dX10_go_55 : decode cX10_go 55 = .ok (.ireturn, 1) := by decide +kernel
theorem dX10_write_0 : decode cX10_write 0 = .ok (.aload_n 0, 1) := by decide +kernel
theorem dX10_write_1 : decode cX10_write 1 = .ok (.getfield 9, 3) := by decide +kernel
theorem dX10_write_4 : decode cX10_write 4 = .ok (.iload_n 1, 1) := by decide +kernel
theorem dX10_write_5 : decode cX10_write 5 = .ok (.iload_n 2, 1) := by decide +kernel
theorem dX10_write_6 : decode cX10_write 6 = .ok (.iastore, 1) := by decide +kernel
theorem dX10_write_7 : decode cX10_write 7 = .ok (.aload_n 0, 1) := by decide +kernel
theorem dX10_write_8 : decode cX10_write 8 = .ok (.dup, 1) := by decide +kernel
theorem dX10_write_9 : decode cX10_write 9 = .ok (.getfield 127, 3) := by decide +kernel
theorem dX10_write_12 : decode cX10_write 12 = .ok (.iconst 1, 1) := by decide +kernel
theorem dX10_write_13 : decode cX10_write 13 = .ok (.iadd, 1) := by decide +kernel
theorem dX10_write_14 : decode cX10_write 14 = .ok (.putfield 127, 3) := by decide +kernel
theorem dX10_write_17 : decode cX10_write 17 = .ok (.return_, 1) := by decide +kernel
theorem dX10_act_0 : decode cX10_act 0 = .ok (.aload_n 0, 1) := by decide +kernel
theorem dX10_act_1 : decode cX10_act 1 = .ok (.getfield 121, 3) := by decide +kernel
theorem dX10_act_4 : decode cX10_act 4 = .ok (.tableswitch 60 1 4 #[32, 39, 46, 53], 32) := by decide +kernel
theorem dX10_act_36 : decode cX10_act 36 = .ok (.aload_n 0, 1) := by decide +kernel
theorem dX10_act_37 : decode cX10_act 37 = .ok (.invokevirtual 185, 3) := by decide +kernel
theorem dX10_act_40 : decode cX10_act 40 = .ok (.goto 28, 3) := by decide +kernel
theorem dX10_act_43 : decode cX10_act 43 = .ok (.aload_n 0, 1) := by decide +kernel
theorem dX10_act_44 : decode cX10_act 44 = .ok (.invokevirtual 188, 3) := by decide +kernel
theorem dX10_act_47 : decode cX10_act 47 = .ok (.goto 21, 3) := by decide +kernel
theorem dX10_act_50 : decode cX10_act 50 = .ok (.aload_n 0, 1) := by decide +kernel
theorem dX10_act_51 : decode cX10_act 51 = .ok (.invokevirtual 191, 3) := by decide +kernel
theorem dX10_act_54 : decode cX10_act 54 = .ok (.goto 14, 3) := by decide +kernel
theorem dX10_act_57 : decode cX10_act 57 = .ok (.aload_n 0, 1) := by decide +kernel
theorem dX10_act_58 : decode cX10_act 58 = .ok (.invokevirtual 194, 3) := by decide +kernel
theorem dX10_act_61 : decode cX10_act 61 = .ok (.goto 7, 3) := by decide +kernel
theorem dX10_act_64 : decode cX10_act 64 = .ok (.aload_n 0, 1) := by decide +kernel
theorem dX10_act_65 : decode cX10_act 65 = .ok (.invokevirtual 197, 3) := by decide +kernel
theorem dX10_act_68 : decode cX10_act 68 = .ok (.return_, 1) := by decide +kernel
theorem dX10_boot_0 : decode cX10_boot 0 = .ok (.aload_n 0, 1) := by decide +kernel
theorem dX10_boot_1 : decode cX10_boot 1 = .ok (.getfield 179, 3) := by decide +kernel
theorem dX10_boot_4 : decode cX10_boot 4 = .ok (.ifCond .le 66, 3) := by decide +kernel
theorem dX10_boot_7 : decode cX10_boot 7 = .ok (.aload_n 0, 1) := by decide +kernel
theorem dX10_boot_8 : decode cX10_boot 8 = .ok (.dup, 1) := by decide +kernel
theorem dX10_boot_9 : decode cX10_boot 9 = .ok (.getfield 179, 3) := by decide +kernel
theorem dX10_boot_12 : decode cX10_boot 12 = .ok (.iconst 1, 1) := by decide +kernel
theorem dX10_boot_13 : decode cX10_boot 13 = .ok (.isub, 1) := by decide +kernel
theorem dX10_boot_14 : decode cX10_boot 14 = .ok (.putfield 179, 3) := by decide +kernel
theorem dX10_boot_17 : decode cX10_boot 17 = .ok (.aload_n 0, 1) := by decide +kernel
theorem dX10_boot_18 : decode cX10_boot 18 = .ok (.getfield 92, 3) := by decide +kernel
theorem dX10_boot_21 : decode cX10_boot 21 = .ok (.iconst 2, 1) := by decide +kernel
theorem dX10_boot_22 : decode cX10_boot 22 = .ok (.aload_n 0, 1) := by decide +kernel
theorem dX10_boot_23 : decode cX10_boot 23 = .ok (.getfield 179, 3) := by decide +kernel
theorem dX10_boot_26 : decode cX10_boot 26 = .ok (.imul, 1) := by decide +kernel
theorem dX10_boot_27 : decode cX10_boot 27 = .ok (.iadd, 1) := by decide +kernel
theorem dX10_boot_28 : decode cX10_boot 28 = .ok (.istore_n 1, 1) := by decide +kernel
theorem dX10_boot_29 : decode cX10_boot 29 = .ok (.aload_n 0, 1) := by decide +kernel
theorem dX10_boot_30 : decode cX10_boot 30 = .ok (.aload_n 0, 1) := by decide +kernel
theorem dX10_boot_31 : decode cX10_boot 31 = .ok (.getfield 9, 3) := by decide +kernel
theorem dX10_boot_34 : decode cX10_boot 34 = .ok (.iload_n 1, 1) := by decide +kernel
theorem dX10_boot_35 : decode cX10_boot 35 = .ok (.iaload, 1) := by decide +kernel
theorem dX10_boot_36 : decode cX10_boot 36 = .ok (.aload_n 0, 1) := by decide +kernel
theorem dX10_boot_37 : decode cX10_boot 37 = .ok (.getfield 9, 3) := by decide +kernel
theorem dX10_boot_40 : decode cX10_boot 40 = .ok (.iload_n 1, 1) := by decide +kernel
theorem dX10_boot_41 : decode cX10_boot 41 = .ok (.iconst 1, 1) := by decide +kernel
theorem dX10_boot_42 : decode cX10_boot 42 = .ok (.iadd, 1) := by decide +kernel
theorem dX10_boot_43 : decode cX10_boot 43 = .ok (.iaload, 1) := by decide +kernel
theorem dX10_boot_44 : decode cX10_boot 44 = .ok (.invokevirtual 200, 3) := by decide +kernel
theorem dX10_boot_47 : decode cX10_boot 47 = .ok (.aload_n 0, 1) := by decide +kernel
theorem dX10_boot_48 : decode cX10_boot 48 = .ok (.dup, 1) := by decide +kernel
theorem dX10_boot_49 : decode cX10_boot 49 = .ok (.getfield 142, 3) := by decide +kernel
theorem dX10_boot_52 : decode cX10_boot 52 = .ok (.iconst 1, 1) := by decide +kernel
theorem dX10_boot_53 : decode cX10_boot 53 = .ok (.iadd, 1) := by decide +kernel
theorem dX10_boot_54 : decode cX10_boot 54 = .ok (.putfield 142, 3) := by decide +kernel
theorem dX10_boot_57 : decode cX10_boot 57 = .ok (.aload_n 0, 1) := by decide +kernel
theorem dX10_boot_58 : decode cX10_boot 58 = .ok (.getfield 179, 3) := by decide +kernel
theorem dX10_boot_61 : decode cX10_boot 61 = .ok (.ifCond .ne 8, 3) := by decide +kernel
theorem dX10_boot_64 : decode cX10_boot 64 = .ok (.aload_n 0, 1) := by decide +kernel
theorem dX10_boot_65 : decode cX10_boot 65 = .ok (.iconst (-1), 1) := by decide +kernel
theorem dX10_boot_66 : decode cX10_boot 66 = .ok (.putfield 179, 3) := by decide +kernel
theorem dX10_boot_69 : decode cX10_boot 69 = .ok (.return_, 1) := by decide +kernel
theorem dX10_boot_70 : decode cX10_boot 70 = .ok (.aload_n 0, 1) := by decide +kernel
theorem dX10_boot_71 : decode cX10_boot 71 = .ok (.iconst 1, 1) := by decide +kernel
theorem dX10_boot_72 : decode cX10_boot 72 = .ok (.aload_n 0, 1) := by decide +kernel
theorem dX10_boot_73 : decode cX10_boot 73 = .ok (.invokevirtual 146, 3) := by decide +kernel
theorem dX10_boot_76 : decode cX10_boot 76 = .ok (.bipush 16, 2) := by decide +kernel
theorem dX10_boot_78 : decode cX10_boot 78 = .ok (.ishl, 1) := by decide +kernel
theorem dX10_boot_79 : decode cX10_boot 79 = .ok (.invokevirtual 200, 3) := by decide +kernel
theorem dX10_boot_82 : decode cX10_boot 82 = .ok (.aload_n 0, 1) := by decide +kernel
theorem dX10_boot_83 : decode cX10_boot 83 = .ok (.iconst 0, 1) := by decide +kernel
theorem dX10_boot_84 : decode cX10_boot 84 = .ok (.putfield 121, 3) := by decide +kernel
theorem dX10_boot_87 : decode cX10_boot 87 = .ok (.return_, 1) := by decide +kernel
theorem dX10_decide_0 : decode cX10_decide 0 = .ok (.aload_n 0, 1) := by decide +kernel
theorem dX10_decide_1 : decode cX10_decide 1 = .ok (.getfield 24, 3) := by decide +kernel
theorem dX10_decide_4 : decode cX10_decide 4 = .ok (.invokevirtual 204, 3) := by decide +kernel
theorem dX10_decide_7 : decode cX10_decide 7 = .ok (.aload_n 0, 1) := by decide +kernel
theorem dX10_decide_8 : decode cX10_decide 8 = .ok (.getfield 24, 3) := by decide +kernel
theorem dX10_decide_11 : decode cX10_decide 11 = .ok (.getfield 207, 3) := by decide +kernel
theorem dX10_decide_14 : decode cX10_decide 14 = .ok (.iconst 2, 1) := by decide +kernel
theorem dX10_decide_15 : decode cX10_decide 15 = .ok (.if_icmp .ne 7, 3) := by decide +kernel
theorem dX10_decide_18 : decode cX10_decide 18 = .ok (.iconst 1, 1) := by decide +kernel
theorem dX10_decide_19 : decode cX10_decide 19 = .ok (.goto 4, 3) := by decide +kernel
theorem dX10_decide_22 : decode cX10_decide 22 = .ok (.iconst 0, 1) := by decide +kernel
theorem dX10_decide_23 : decode cX10_decide 23 = .ok (.istore_n 1, 1) := by decide +kernel
theorem dX10_decide_24 : decode cX10_decide 24 = .ok (.aload_n 0, 1) := by decide +kernel
theorem dX10_decide_25 : decode cX10_decide 25 = .ok (.getfield 24, 3) := by decide +kernel
theorem dX10_decide_28 : decode cX10_decide 28 = .ok (.getfield 207, 3) := by decide +kernel
theorem dX10_decide_31 : decode cX10_decide 31 = .ok (.iconst 1, 1) := by decide +kernel
theorem dX10_decide_32 : decode cX10_decide 32 = .ok (.if_icmp .ne 32, 3) := by decide +kernel
theorem dX10_decide_35 : decode cX10_decide 35 = .ok (.aload_n 0, 1) := by decide +kernel
theorem dX10_decide_36 : decode cX10_decide 36 = .ok (.getfield 24, 3) := by decide +kernel
theorem dX10_decide_39 : decode cX10_decide 39 = .ok (.getfield 210, 3) := by decide +kernel
theorem dX10_decide_42 : decode cX10_decide 42 = .ok (.ifCond .ne 22, 3) := by decide +kernel
theorem dX10_decide_45 : decode cX10_decide 45 = .ok (.aload_n 0, 1) := by decide +kernel
theorem dX10_decide_46 : decode cX10_decide 46 = .ok (.getfield 44, 3) := by decide +kernel
theorem dX10_decide_49 : decode cX10_decide 49 = .ok (.aload_n 0, 1) := by decide +kernel
theorem dX10_decide_50 : decode cX10_decide 50 = .ok (.getfield 24, 3) := by decide +kernel
theorem dX10_decide_53 : decode cX10_decide 53 = .ok (.getfield 213, 3) := by decide +kernel
theorem dX10_decide_56 : decode cX10_decide 56 = .ok (.baload, 1) := by decide +kernel
theorem dX10_decide_57 : decode cX10_decide 57 = .ok (.ifCond .ne 7, 3) := by decide +kernel
theorem dX10_decide_60 : decode cX10_decide 60 = .ok (.iconst 1, 1) := by decide +kernel
theorem dX10_decide_61 : decode cX10_decide 61 = .ok (.goto 4, 3) := by decide +kernel
theorem dX10_decide_64 : decode cX10_decide 64 = .ok (.iconst 0, 1) := by decide +kernel
theorem dX10_decide_65 : decode cX10_decide 65 = .ok (.istore_n 2, 1) := by decide +kernel
theorem dX10_decide_66 : decode cX10_decide 66 = .ok (.aload_n 0, 1) := by decide +kernel
theorem dX10_decide_67 : decode cX10_decide 67 = .ok (.getfield 115, 3) := by decide +kernel
theorem dX10_decide_70 : decode cX10_decide 70 = .ok (.aload_n 0, 1) := by decide +kernel
theorem dX10_decide_71 : decode cX10_decide 71 = .ok (.getfield 86, 3) := by decide +kernel
theorem dX10_decide_74 : decode cX10_decide 74 = .ok (.if_icmp .eq 39, 3) := by decide +kernel
theorem dX10_decide_77 : decode cX10_decide 77 = .ok (.aload_n 0, 1) := by decide +kernel
theorem dX10_decide_78 : decode cX10_decide 78 = .ok (.getfield 24, 3) := by decide +kernel
theorem dX10_decide_81 : decode cX10_decide 81 = .ok (.getfield 210, 3) := by decide +kernel
theorem dX10_decide_84 : decode cX10_decide 84 = .ok (.ifCond .ne 14, 3) := by decide +kernel
theorem dX10_decide_87 : decode cX10_decide 87 = .ok (.iload_n 1, 1) := by decide +kernel
theorem dX10_decide_88 : decode cX10_decide 88 = .ok (.ifCond .eq 10, 3) := by decide +kernel
theorem dX10_decide_91 : decode cX10_decide 91 = .ok (.aload_n 0, 1) := by decide +kernel
theorem dX10_decide_92 : decode cX10_decide 92 = .ok (.getfield 115, 3) := by decide +kernel
theorem dX10_decide_95 : decode cX10_decide 95 = .ok (.ifCond .gt 18, 3) := by decide +kernel
theorem dX10_decide_98 : decode cX10_decide 98 = .ok (.iload_n 2, 1) := by decide +kernel
theorem dX10_decide_99 : decode cX10_decide 99 = .ok (.ifCond .eq 18, 3) := by decide +kernel
theorem dX10_decide_102 : decode cX10_decide 102 = .ok (.aload_n 0, 1) := by decide +kernel
theorem dX10_decide_103 : decode cX10_decide 103 = .ok (.invokevirtual 176, 3) := by decide +kernel
theorem dX10_decide_106 : decode cX10_decide 106 = .ok (.aload_n 0, 1) := by decide +kernel
theorem dX10_decide_107 : decode cX10_decide 107 = .ok (.getfield 83, 3) := by decide +kernel
theorem dX10_decide_110 : decode cX10_decide 110 = .ok (.if_icmp .ne 7, 3) := by decide +kernel
theorem dX10_decide_113 : decode cX10_decide 113 = .ok (.iconst 1, 1) := by decide +kernel
theorem dX10_decide_114 : decode cX10_decide 114 = .ok (.goto 4, 3) := by decide +kernel
theorem dX10_decide_117 : decode cX10_decide 117 = .ok (.iconst 0, 1) := by decide +kernel
theorem dX10_decide_118 : decode cX10_decide 118 = .ok (.istore_n 3, 1) := by decide +kernel
theorem dX10_decide_119 : decode cX10_decide 119 = .ok (.aload_n 0, 1) := by decide +kernel
theorem dX10_decide_120 : decode cX10_decide 120 = .ok (.iconst 0, 1) := by decide +kernel
theorem dX10_decide_121 : decode cX10_decide 121 = .ok (.putfield 179, 3) := by decide +kernel
theorem dX10_decide_124 : decode cX10_decide 124 = .ok (.iload_n 3, 1) := by decide +kernel
theorem dX10_decide_125 : decode cX10_decide 125 = .ok (.ifCond .eq 15, 3) := by decide +kernel
theorem dX10_decide_128 : decode cX10_decide 128 = .ok (.aload_n 0, 1) := by decide +kernel
theorem dX10_decide_129 : decode cX10_decide 129 = .ok (.iconst 2, 1) := by decide +kernel
theorem dX10_decide_130 : decode cX10_decide 130 = .ok (.putfield 121, 3) := by decide +kernel
theorem dX10_decide_133 : decode cX10_decide 133 = .ok (.aload_n 0, 1) := by decide +kernel
theorem dX10_decide_134 : decode cX10_decide 134 = .ok (.invokevirtual 188, 3) := by decide +kernel
theorem dX10_decide_137 : decode cX10_decide 137 = .ok (.goto 81, 3) := by decide +kernel
theorem dX10_decide_140 : decode cX10_decide 140 = .ok (.aload_n 0, 1) := by decide +kernel
theorem dX10_decide_141 : decode cX10_decide 141 = .ok (.getfield 24, 3) := by decide +kernel
theorem dX10_decide_144 : decode cX10_decide 144 = .ok (.getfield 210, 3) := by decide +kernel
theorem dX10_decide_147 : decode cX10_decide 147 = .ok (.ifCond .eq 17, 3) := by decide +kernel
theorem dX10_decide_150 : decode cX10_decide 150 = .ok (.aload_n 0, 1) := by decide +kernel
theorem dX10_decide_151 : decode cX10_decide 151 = .ok (.aload_n 0, 1) := by decide +kernel
theorem dX10_decide_152 : decode cX10_decide 152 = .ok (.getfield 24, 3) := by decide +kernel
theorem dX10_decide_155 : decode cX10_decide 155 = .ok (.getfield 210, 3) := by decide +kernel
theorem dX10_decide_158 : decode cX10_decide 158 = .ok (.putfield 118, 3) := by decide +kernel
theorem dX10_decide_161 : decode cX10_decide 161 = .ok (.goto 57, 3) := by decide +kernel
theorem dX10_decide_164 : decode cX10_decide 164 = .ok (.iload_n 2, 1) := by decide +kernel
theorem dX10_decide_165 : decode cX10_decide 165 = .ok (.ifCond .eq 15, 3) := by decide +kernel
theorem dX10_decide_168 : decode cX10_decide 168 = .ok (.aload_n 0, 1) := by decide +kernel
theorem dX10_decide_169 : decode cX10_decide 169 = .ok (.iconst 3, 1) := by decide +kernel
theorem dX10_decide_170 : decode cX10_decide 170 = .ok (.putfield 121, 3) := by decide +kernel
theorem dX10_decide_173 : decode cX10_decide 173 = .ok (.aload_n 0, 1) := by decide +kernel
theorem dX10_decide_174 : decode cX10_decide 174 = .ok (.invokevirtual 191, 3) := by decide +kernel
theorem dX10_decide_177 : decode cX10_decide 177 = .ok (.goto 41, 3) := by decide +kernel
theorem dX10_decide_180 : decode cX10_decide 180 = .ok (.iload_n 1, 1) := by decide +kernel
theorem dX10_decide_181 : decode cX10_decide 181 = .ok (.ifCond .eq 33, 3) := by decide +kernel
theorem dX10_decide_184 : decode cX10_decide 184 = .ok (.aload_n 0, 1) := by decide +kernel
theorem dX10_decide_185 : decode cX10_decide 185 = .ok (.getfield 9, 3) := by decide +kernel
theorem dX10_decide_188 : decode cX10_decide 188 = .ok (.iconst 2, 1) := by decide +kernel
theorem dX10_decide_189 : decode cX10_decide 189 = .ok (.iaload, 1) := by decide +kernel
theorem dX10_decide_190 : decode cX10_decide 190 = .ok (.aload_n 0, 1) := by decide +kernel
theorem dX10_decide_191 : decode cX10_decide 191 = .ok (.getfield 24, 3) := by decide +kernel
theorem dX10_decide_194 : decode cX10_decide 194 = .ok (.getfield 163, 3) := by decide +kernel
theorem dX10_decide_197 : decode cX10_decide 197 = .ok (.iconst 1, 1) := by decide +kernel
theorem dX10_decide_198 : decode cX10_decide 198 = .ok (.iadd, 1) := by decide +kernel
theorem dX10_decide_199 : decode cX10_decide 199 = .ok (.if_icmp .eq 15, 3) := by decide +kernel
theorem dX10_decide_202 : decode cX10_decide 202 = .ok (.aload_n 0, 1) := by decide +kernel
theorem dX10_decide_203 : decode cX10_decide 203 = .ok (.iconst 4, 1) := by decide +kernel
theorem dX10_decide_204 : decode cX10_decide 204 = .ok (.putfield 121, 3) := by decide +kernel
theorem dX10_decide_207 : decode cX10_decide 207 = .ok (.aload_n 0, 1) := by decide +kernel
theorem dX10_decide_208 : decode cX10_decide 208 = .ok (.invokevirtual 194, 3) := by decide +kernel
theorem dX10_decide_211 : decode cX10_decide 211 = .ok (.goto 7, 3) := by decide +kernel
theorem dX10_decide_214 : decode cX10_decide 214 = .ok (.aload_n 0, 1) := by decide +kernel
theorem dX10_decide_215 : decode cX10_decide 215 = .ok (.invokevirtual 216, 3) := by decide +kernel
theorem dX10_decide_218 : decode cX10_decide 218 = .ok (.return_, 1) := by decide +kernel
theorem dX10_perform_0 : decode cX10_perform 0 = .ok (.aload_n 0, 1) := by decide +kernel
theorem dX10_perform_1 : decode cX10_perform 1 = .ok (.getfield 24, 3) := by decide +kernel
theorem dX10_perform_4 : decode cX10_perform 4 = .ok (.getfield 207, 3) := by decide +kernel
theorem dX10_perform_7 : decode cX10_perform 7 = .ok (.iconst 1, 1) := by decide +kernel
theorem dX10_perform_8 : decode cX10_perform 8 = .ok (.if_icmp .ne 13, 3) := by decide +kernel
theorem dX10_perform_11 : decode cX10_perform 11 = .ok (.aload_n 0, 1) := by decide +kernel
theorem dX10_perform_12 : decode cX10_perform 12 = .ok (.dup, 1) := by decide +kernel
theorem dX10_perform_13 : decode cX10_perform 13 = .ok (.getfield 127, 3) := by decide +kernel
theorem dX10_perform_16 : decode cX10_perform 16 = .ok (.iconst 1, 1) := by decide +kernel
theorem dX10_perform_17 : decode cX10_perform 17 = .ok (.iadd, 1) := by decide +kernel
theorem dX10_perform_18 : decode cX10_perform 18 = .ok (.putfield 127, 3) := by decide +kernel
theorem dX10_perform_21 : decode cX10_perform 21 = .ok (.aload_n 0, 1) := by decide +kernel
theorem dX10_perform_22 : decode cX10_perform 22 = .ok (.getfield 24, 3) := by decide +kernel
theorem dX10_perform_25 : decode cX10_perform 25 = .ok (.invokevirtual 219, 3) := by decide +kernel
theorem dX10_perform_28 : decode cX10_perform 28 = .ok (.aload_n 0, 1) := by decide +kernel
theorem dX10_perform_29 : decode cX10_perform 29 = .ok (.dup, 1) := by decide +kernel
theorem dX10_perform_30 : decode cX10_perform 30 = .ok (.getfield 115, 3) := by decide +kernel
theorem dX10_perform_33 : decode cX10_perform 33 = .ok (.iconst 1, 1) := by decide +kernel
theorem dX10_perform_34 : decode cX10_perform 34 = .ok (.iadd, 1) := by decide +kernel
theorem dX10_perform_35 : decode cX10_perform 35 = .ok (.putfield 115, 3) := by decide +kernel
theorem dX10_perform_38 : decode cX10_perform 38 = .ok (.aload_n 0, 1) := by decide +kernel
theorem dX10_perform_39 : decode cX10_perform 39 = .ok (.dup, 1) := by decide +kernel
theorem dX10_perform_40 : decode cX10_perform 40 = .ok (.getfield 133, 3) := by decide +kernel
theorem dX10_perform_43 : decode cX10_perform 43 = .ok (.iconst 1, 1) := by decide +kernel
theorem dX10_perform_44 : decode cX10_perform 44 = .ok (.iadd, 1) := by decide +kernel
theorem dX10_perform_45 : decode cX10_perform 45 = .ok (.putfield 133, 3) := by decide +kernel
theorem dX10_perform_48 : decode cX10_perform 48 = .ok (.aload_n 0, 1) := by decide +kernel
theorem dX10_perform_49 : decode cX10_perform 49 = .ok (.iconst 0, 1) := by decide +kernel
theorem dX10_perform_50 : decode cX10_perform 50 = .ok (.putfield 121, 3) := by decide +kernel
theorem dX10_perform_53 : decode cX10_perform 53 = .ok (.return_, 1) := by decide +kernel
theorem dX10_checkWord_0 : decode cX10_checkWord 0 = .ok (.iload_n 1, 1) := by decide +kernel
theorem dX10_checkWord_1 : decode cX10_checkWord 1 = .ok (.bipush 32, 2) := by decide +kernel
theorem dX10_checkWord_3 : decode cX10_checkWord 3 = .ok (.if_icmp .ge 13, 3) := by decide +kernel
theorem dX10_checkWord_6 : decode cX10_checkWord 6 = .ok (.aload_n 0, 1) := by decide +kernel
theorem dX10_checkWord_7 : decode cX10_checkWord 7 = .ok (.getfield 24, 3) := by decide +kernel
theorem dX10_checkWord_10 : decode cX10_checkWord 10 = .ok (.getfield 154, 3) := by decide +kernel
theorem dX10_checkWord_13 : decode cX10_checkWord 13 = .ok (.iload_n 1, 1) := by decide +kernel
theorem dX10_checkWord_14 : decode cX10_checkWord 14 = .ok (.iaload, 1) := by decide +kernel
theorem dX10_checkWord_15 : decode cX10_checkWord 15 = .ok (.ireturn, 1) := by decide +kernel
theorem dX10_checkWord_16 : decode cX10_checkWord 16 = .ok (.iload_n 1, 1) := by decide +kernel
theorem dX10_checkWord_17 : decode cX10_checkWord 17 = .ok (.bipush 32, 2) := by decide +kernel
theorem dX10_checkWord_19 : decode cX10_checkWord 19 = .ok (.if_icmp .ne 13, 3) := by decide +kernel
theorem dX10_checkWord_22 : decode cX10_checkWord 22 = .ok (.aload_n 0, 1) := by decide +kernel
theorem dX10_checkWord_23 : decode cX10_checkWord 23 = .ok (.getfield 24, 3) := by decide +kernel
theorem dX10_checkWord_26 : decode cX10_checkWord 26 = .ok (.getfield 157, 3) := by decide +kernel
theorem dX10_checkWord_29 : decode cX10_checkWord 29 = .ok (.goto 63, 3) := by decide +kernel
theorem dX10_checkWord_32 : decode cX10_checkWord 32 = .ok (.iload_n 1, 1) := by decide +kernel
theorem dX10_checkWord_33 : decode cX10_checkWord 33 = .ok (.bipush 33, 2) := by decide +kernel
theorem dX10_checkWord_35 : decode cX10_checkWord 35 = .ok (.if_icmp .ne 13, 3) := by decide +kernel
theorem dX10_checkWord_38 : decode cX10_checkWord 38 = .ok (.aload_n 0, 1) := by decide +kernel
theorem dX10_checkWord_39 : decode cX10_checkWord 39 = .ok (.getfield 24, 3) := by decide +kernel
theorem dX10_checkWord_42 : decode cX10_checkWord 42 = .ok (.getfield 160, 3) := by decide +kernel
theorem dX10_checkWord_45 : decode cX10_checkWord 45 = .ok (.goto 47, 3) := by decide +kernel
theorem dX10_checkWord_48 : decode cX10_checkWord 48 = .ok (.iload_n 1, 1) := by decide +kernel
theorem dX10_checkWord_49 : decode cX10_checkWord 49 = .ok (.bipush 34, 2) := by decide +kernel
theorem dX10_checkWord_51 : decode cX10_checkWord 51 = .ok (.if_icmp .ne 13, 3) := by decide +kernel
theorem dX10_checkWord_54 : decode cX10_checkWord 54 = .ok (.aload_n 0, 1) := by decide +kernel
theorem dX10_checkWord_55 : decode cX10_checkWord 55 = .ok (.getfield 24, 3) := by decide +kernel
theorem dX10_checkWord_58 : decode cX10_checkWord 58 = .ok (.getfield 163, 3) := by decide +kernel
theorem dX10_checkWord_61 : decode cX10_checkWord 61 = .ok (.goto 31, 3) := by decide +kernel
theorem dX10_checkWord_64 : decode cX10_checkWord 64 = .ok (.iload_n 1, 1) := by decide +kernel
theorem dX10_checkWord_65 : decode cX10_checkWord 65 = .ok (.bipush 35, 2) := by decide +kernel
theorem dX10_checkWord_67 : decode cX10_checkWord 67 = .ok (.if_icmp .ne 13, 3) := by decide +kernel
theorem dX10_checkWord_70 : decode cX10_checkWord 70 = .ok (.aload_n 0, 1) := by decide +kernel
theorem dX10_checkWord_71 : decode cX10_checkWord 71 = .ok (.getfield 24, 3) := by decide +kernel
theorem dX10_checkWord_74 : decode cX10_checkWord 74 = .ok (.getfield 166, 3) := by decide +kernel
theorem dX10_checkWord_77 : decode cX10_checkWord 77 = .ok (.goto 15, 3) := by decide +kernel
theorem dX10_checkWord_80 : decode cX10_checkWord 80 = .ok (.aload_n 0, 1) := by decide +kernel
theorem dX10_checkWord_81 : decode cX10_checkWord 81 = .ok (.getfield 24, 3) := by decide +kernel
theorem dX10_checkWord_84 : decode cX10_checkWord 84 = .ok (.getfield 167, 3) := by decide +kernel
theorem dX10_checkWord_87 : decode cX10_checkWord 87 = .ok (.iload_n 1, 1) := by decide +kernel
theorem dX10_checkWord_88 : decode cX10_checkWord 88 = .ok (.bipush 36, 2) := by decide +kernel
theorem dX10_checkWord_90 : decode cX10_checkWord 90 = .ok (.isub, 1) := by decide +kernel
theorem dX10_checkWord_91 : decode cX10_checkWord 91 = .ok (.iaload, 1) := by decide +kernel
theorem dX10_checkWord_92 : decode cX10_checkWord 92 = .ok (.ireturn, 1) := by decide +kernel
theorem dX10_check_0 : decode cX10_check 0 = .ok (.bipush 36, 2) := by decide +kernel
theorem dX10_check_2 : decode cX10_check 2 = .ok (.aload_n 0, 1) := by decide +kernel
theorem dX10_check_3 : decode cX10_check 3 = .ok (.getfield 77, 3) := by decide +kernel
theorem dX10_check_6 : decode cX10_check 6 = .ok (.iconst 4, 1) := by decide +kernel
theorem dX10_check_7 : decode cX10_check 7 = .ok (.idiv, 1) := by decide +kernel
theorem dX10_check_8 : decode cX10_check 8 = .ok (.iadd, 1) := by decide +kernel
theorem dX10_check_9 : decode cX10_check 9 = .ok (.istore_n 1, 1) := by decide +kernel
theorem dX10_check_10 : decode cX10_check 10 = .ok (.aload_n 0, 1) := by decide +kernel
theorem dX10_check_11 : decode cX10_check 11 = .ok (.invokevirtual 146, 3) := by decide +kernel
theorem dX10_check_14 : decode cX10_check 14 = .ok (.iconst 1, 1) := by decide +kernel
theorem dX10_check_15 : decode cX10_check 15 = .ok (.iadd, 1) := by decide +kernel
theorem dX10_check_16 : decode cX10_check 16 = .ok (.ldc 145, 2) := by decide +kernel
theorem dX10_check_18 : decode cX10_check 18 = .ok (.iand, 1) := by decide +kernel
theorem dX10_check_19 : decode cX10_check 19 = .ok (.istore_n 2, 1) := by decide +kernel
theorem dX10_check_20 : decode cX10_check 20 = .ok (.aload_n 0, 1) := by decide +kernel
theorem dX10_check_21 : decode cX10_check 21 = .ok (.getfield 179, 3) := by decide +kernel
theorem dX10_check_24 : decode cX10_check 24 = .ok (.iload_n 1, 1) := by decide +kernel
theorem dX10_check_25 : decode cX10_check 25 = .ok (.if_icmp .ge 28, 3) := by decide +kernel
theorem dX10_check_28 : decode cX10_check 28 = .ok (.aload_n 0, 1) := by decide +kernel
theorem dX10_check_29 : decode cX10_check 29 = .ok (.aload_n 0, 1) := by decide +kernel
theorem dX10_check_30 : decode cX10_check 30 = .ok (.iload_n 2, 1) := by decide +kernel
theorem dX10_check_31 : decode cX10_check 31 = .ok (.invokevirtual 150, 3) := by decide +kernel
theorem dX10_check_34 : decode cX10_check 34 = .ok (.aload_n 0, 1) := by decide +kernel
theorem dX10_check_35 : decode cX10_check 35 = .ok (.getfield 179, 3) := by decide +kernel
theorem dX10_check_38 : decode cX10_check 38 = .ok (.iadd, 1) := by decide +kernel
theorem dX10_check_39 : decode cX10_check 39 = .ok (.aload_n 0, 1) := by decide +kernel
theorem dX10_check_40 : decode cX10_check 40 = .ok (.aload_n 0, 1) := by decide +kernel
theorem dX10_check_41 : decode cX10_check 41 = .ok (.getfield 179, 3) := by decide +kernel
theorem dX10_check_44 : decode cX10_check 44 = .ok (.invokevirtual 220, 3) := by decide +kernel
theorem dX10_check_47 : decode cX10_check 47 = .ok (.invokevirtual 200, 3) := by decide +kernel
theorem dX10_check_50 : decode cX10_check 50 = .ok (.goto 56, 3) := by decide +kernel
theorem dX10_check_53 : decode cX10_check 53 = .ok (.aload_n 0, 1) := by decide +kernel
theorem dX10_check_54 : decode cX10_check 54 = .ok (.getfield 179, 3) := by decide +kernel
theorem dX10_check_57 : decode cX10_check 57 = .ok (.iload_n 1, 1) := by decide +kernel
theorem dX10_check_58 : decode cX10_check 58 = .ok (.if_icmp .ne 31, 3) := by decide +kernel
theorem dX10_check_61 : decode cX10_check 61 = .ok (.aload_n 0, 1) := by decide +kernel
theorem dX10_check_62 : decode cX10_check 62 = .ok (.iconst 0, 1) := by decide +kernel
theorem dX10_check_63 : decode cX10_check 63 = .ok (.iload_n 2, 1) := by decide +kernel
theorem dX10_check_64 : decode cX10_check 64 = .ok (.invokevirtual 200, 3) := by decide +kernel
theorem dX10_check_67 : decode cX10_check 67 = .ok (.aload_n 0, 1) := by decide +kernel
theorem dX10_check_68 : decode cX10_check 68 = .ok (.dup, 1) := by decide +kernel
theorem dX10_check_69 : decode cX10_check 69 = .ok (.getfield 136, 3) := by decide +kernel
theorem dX10_check_72 : decode cX10_check 72 = .ok (.iconst 1, 1) := by decide +kernel
theorem dX10_check_73 : decode cX10_check 73 = .ok (.iadd, 1) := by decide +kernel
theorem dX10_check_74 : decode cX10_check 74 = .ok (.putfield 136, 3) := by decide +kernel
theorem dX10_check_77 : decode cX10_check 77 = .ok (.aload_n 0, 1) := by decide +kernel
theorem dX10_check_78 : decode cX10_check 78 = .ok (.iconst 0, 1) := by decide +kernel
theorem dX10_check_79 : decode cX10_check 79 = .ok (.putfield 115, 3) := by decide +kernel
theorem dX10_check_82 : decode cX10_check 82 = .ok (.aload_n 0, 1) := by decide +kernel
theorem dX10_check_83 : decode cX10_check 83 = .ok (.invokevirtual 170, 3) := by decide +kernel
theorem dX10_check_86 : decode cX10_check 86 = .ok (.goto 20, 3) := by decide +kernel
theorem dX10_check_89 : decode cX10_check 89 = .ok (.aload_n 0, 1) := by decide +kernel
theorem dX10_check_90 : decode cX10_check 90 = .ok (.iconst 1, 1) := by decide +kernel
theorem dX10_check_91 : decode cX10_check 91 = .ok (.aload_n 0, 1) := by decide +kernel
theorem dX10_check_92 : decode cX10_check 92 = .ok (.invokevirtual 146, 3) := by decide +kernel
theorem dX10_check_95 : decode cX10_check 95 = .ok (.bipush 16, 2) := by decide +kernel
theorem dX10_check_97 : decode cX10_check 97 = .ok (.ishl, 1) := by decide +kernel
theorem dX10_check_98 : decode cX10_check 98 = .ok (.invokevirtual 200, 3) := by decide +kernel
theorem dX10_check_101 : decode cX10_check 101 = .ok (.aload_n 0, 1) := by decide +kernel
theorem dX10_check_102 : decode cX10_check 102 = .ok (.iconst 0, 1) := by decide +kernel
theorem dX10_check_103 : decode cX10_check 103 = .ok (.putfield 121, 3) := by decide +kernel
theorem dX10_check_106 : decode cX10_check 106 = .ok (.aload_n 0, 1) := by decide +kernel
theorem dX10_check_107 : decode cX10_check 107 = .ok (.dup, 1) := by decide +kernel
theorem dX10_check_108 : decode cX10_check 108 = .ok (.getfield 179, 3) := by decide +kernel
theorem dX10_check_111 : decode cX10_check 111 = .ok (.iconst 1, 1) := by decide +kernel
theorem dX10_check_112 : decode cX10_check 112 = .ok (.iadd, 1) := by decide +kernel
theorem dX10_check_113 : decode cX10_check 113 = .ok (.putfield 179, 3) := by decide +kernel
theorem dX10_check_116 : decode cX10_check 116 = .ok (.return_, 1) := by decide +kernel
theorem dX10_log_0 : decode cX10_log 0 = .ok (.aload_n 0, 1) := by decide +kernel
theorem dX10_log_1 : decode cX10_log 1 = .ok (.invokevirtual 176, 3) := by decide +kernel
theorem dX10_log_4 : decode cX10_log 4 = .ok (.istore_n 1, 1) := by decide +kernel
theorem dX10_log_5 : decode cX10_log 5 = .ok (.aload_n 0, 1) := by decide +kernel
theorem dX10_log_6 : decode cX10_log 6 = .ok (.getfield 92, 3) := by decide +kernel
theorem dX10_log_9 : decode cX10_log 9 = .ok (.iconst 2, 1) := by decide +kernel
theorem dX10_log_10 : decode cX10_log 10 = .ok (.iload_n 1, 1) := by decide +kernel
theorem dX10_log_11 : decode cX10_log 11 = .ok (.imul, 1) := by decide +kernel
theorem dX10_log_12 : decode cX10_log 12 = .ok (.iadd, 1) := by decide +kernel
theorem dX10_log_13 : decode cX10_log 13 = .ok (.istore_n 2, 1) := by decide +kernel
theorem dX10_log_14 : decode cX10_log 14 = .ok (.aload_n 0, 1) := by decide +kernel
theorem dX10_log_15 : decode cX10_log 15 = .ok (.getfield 95, 3) := by decide +kernel
theorem dX10_log_18 : decode cX10_log 18 = .ok (.aload_n 0, 1) := by decide +kernel
theorem dX10_log_19 : decode cX10_log 19 = .ok (.getfield 24, 3) := by decide +kernel
theorem dX10_log_22 : decode cX10_log 22 = .ok (.getfield 213, 3) := by decide +kernel
theorem dX10_log_25 : decode cX10_log 25 = .ok (.iadd, 1) := by decide +kernel
theorem dX10_log_26 : decode cX10_log 26 = .ok (.istore_n 3, 1) := by decide +kernel
theorem dX10_log_27 : decode cX10_log 27 = .ok (.aload_n 0, 1) := by decide +kernel
theorem dX10_log_28 : decode cX10_log 28 = .ok (.getfield 179, 3) := by decide +kernel
theorem dX10_log_31 : decode cX10_log 31 = .ok (.ifCond .ne 12, 3) := by decide +kernel
theorem dX10_log_34 : decode cX10_log 34 = .ok (.aload_n 0, 1) := by decide +kernel
theorem dX10_log_35 : decode cX10_log 35 = .ok (.iload_n 2, 1) := by decide +kernel
theorem dX10_log_36 : decode cX10_log 36 = .ok (.iload_n 3, 1) := by decide +kernel
theorem dX10_log_37 : decode cX10_log 37 = .ok (.invokevirtual 200, 3) := by decide +kernel
theorem dX10_log_40 : decode cX10_log 40 = .ok (.goto 68, 3) := by decide +kernel
theorem dX10_log_43 : decode cX10_log 43 = .ok (.aload_n 0, 1) := by decide +kernel
theorem dX10_log_44 : decode cX10_log 44 = .ok (.getfield 179, 3) := by decide +kernel
theorem dX10_log_47 : decode cX10_log 47 = .ok (.iconst 1, 1) := by decide +kernel
theorem dX10_log_48 : decode cX10_log 48 = .ok (.if_icmp .ne 19, 3) := by decide +kernel
theorem dX10_log_51 : decode cX10_log 51 = .ok (.aload_n 0, 1) := by decide +kernel
theorem dX10_log_52 : decode cX10_log 52 = .ok (.iload_n 2, 1) := by decide +kernel
theorem dX10_log_53 : decode cX10_log 53 = .ok (.iconst 1, 1) := by decide +kernel
theorem dX10_log_54 : decode cX10_log 54 = .ok (.iadd, 1) := by decide +kernel
theorem dX10_log_55 : decode cX10_log 55 = .ok (.aload_n 0, 1) := by decide +kernel
theorem dX10_log_56 : decode cX10_log 56 = .ok (.getfield 9, 3) := by decide +kernel
theorem dX10_log_59 : decode cX10_log 59 = .ok (.iload_n 3, 1) := by decide +kernel
theorem dX10_log_60 : decode cX10_log 60 = .ok (.iaload, 1) := by decide +kernel
theorem dX10_log_61 : decode cX10_log 61 = .ok (.invokevirtual 200, 3) := by decide +kernel
theorem dX10_log_64 : decode cX10_log 64 = .ok (.goto 44, 3) := by decide +kernel
theorem dX10_log_67 : decode cX10_log 67 = .ok (.aload_n 0, 1) := by decide +kernel
theorem dX10_log_68 : decode cX10_log 68 = .ok (.getfield 179, 3) := by decide +kernel
theorem dX10_log_71 : decode cX10_log 71 = .ok (.iconst 2, 1) := by decide +kernel
theorem dX10_log_72 : decode cX10_log 72 = .ok (.if_icmp .ne 32, 3) := by decide +kernel
theorem dX10_log_75 : decode cX10_log 75 = .ok (.aload_n 0, 1) := by decide +kernel
theorem dX10_log_76 : decode cX10_log 76 = .ok (.iconst 1, 1) := by decide +kernel
theorem dX10_log_77 : decode cX10_log 77 = .ok (.aload_n 0, 1) := by decide +kernel
theorem dX10_log_78 : decode cX10_log 78 = .ok (.getfield 9, 3) := by decide +kernel
theorem dX10_log_81 : decode cX10_log 81 = .ok (.iconst 1, 1) := by decide +kernel
theorem dX10_log_82 : decode cX10_log 82 = .ok (.iaload, 1) := by decide +kernel
theorem dX10_log_83 : decode cX10_log 83 = .ok (.iconst 1, 1) := by decide +kernel
theorem dX10_log_84 : decode cX10_log 84 = .ok (.iadd, 1) := by decide +kernel
theorem dX10_log_85 : decode cX10_log 85 = .ok (.invokevirtual 200, 3) := by decide +kernel
theorem dX10_log_88 : decode cX10_log 88 = .ok (.aload_n 0, 1) := by decide +kernel
theorem dX10_log_89 : decode cX10_log 89 = .ok (.getfield 44, 3) := by decide +kernel
theorem dX10_log_92 : decode cX10_log 92 = .ok (.aload_n 0, 1) := by decide +kernel
theorem dX10_log_93 : decode cX10_log 93 = .ok (.getfield 24, 3) := by decide +kernel
theorem dX10_log_96 : decode cX10_log 96 = .ok (.getfield 213, 3) := by decide +kernel
theorem dX10_log_99 : decode cX10_log 99 = .ok (.iconst 1, 1) := by decide +kernel
theorem dX10_log_100 : decode cX10_log 100 = .ok (.bastore, 1) := by decide +kernel
theorem dX10_log_101 : decode cX10_log 101 = .ok (.goto 7, 3) := by decide +kernel
theorem dX10_log_104 : decode cX10_log 104 = .ok (.aload_n 0, 1) := by decide +kernel
theorem dX10_log_105 : decode cX10_log 105 = .ok (.invokevirtual 216, 3) := by decide +kernel
theorem dX10_log_108 : decode cX10_log 108 = .ok (.aload_n 0, 1) := by decide +kernel
theorem dX10_log_109 : decode cX10_log 109 = .ok (.dup, 1) := by decide +kernel
theorem dX10_log_110 : decode cX10_log 110 = .ok (.getfield 179, 3) := by decide +kernel
theorem dX10_log_113 : decode cX10_log 113 = .ok (.iconst 1, 1) := by decide +kernel
theorem dX10_log_114 : decode cX10_log 114 = .ok (.iadd, 1) := by decide +kernel
theorem dX10_log_115 : decode cX10_log 115 = .ok (.putfield 179, 3) := by decide +kernel
theorem dX10_log_118 : decode cX10_log 118 = .ok (.return_, 1) := by decide +kernel
theorem dX10_send_0 : decode cX10_send 0 = .ok (.aload_n 0, 1) := by decide +kernel
theorem dX10_send_1 : decode cX10_send 1 = .ok (.getfield 179, 3) := by decide +kernel
theorem dX10_send_4 : decode cX10_send 4 = .ok (.ifCond .ne 21, 3) := by decide +kernel
theorem dX10_send_7 : decode cX10_send 7 = .ok (.aload_n 0, 1) := by decide +kernel
theorem dX10_send_8 : decode cX10_send 8 = .ok (.getfield 24, 3) := by decide +kernel
theorem dX10_send_11 : decode cX10_send 11 = .ok (.aload_n 0, 1) := by decide +kernel
theorem dX10_send_12 : decode cX10_send 12 = .ok (.getfield 37, 3) := by decide +kernel
theorem dX10_send_15 : decode cX10_send 15 = .ok (.aload_n 0, 1) := by decide +kernel
theorem dX10_send_16 : decode cX10_send 16 = .ok (.getfield 139, 3) := by decide +kernel
theorem dX10_send_19 : decode cX10_send 19 = .ok (.invokevirtual 223, 3) := by decide +kernel
theorem dX10_send_22 : decode cX10_send 22 = .ok (.goto 32, 3) := by decide +kernel
theorem dX10_send_25 : decode cX10_send 25 = .ok (.aload_n 0, 1) := by decide +kernel
theorem dX10_send_26 : decode cX10_send 26 = .ok (.getfield 179, 3) := by decide +kernel
theorem dX10_send_29 : decode cX10_send 29 = .ok (.iconst 1, 1) := by decide +kernel
theorem dX10_send_30 : decode cX10_send 30 = .ok (.if_icmp .ne 20, 3) := by decide +kernel
theorem dX10_send_33 : decode cX10_send 33 = .ok (.aload_n 0, 1) := by decide +kernel
theorem dX10_send_34 : decode cX10_send 34 = .ok (.iconst 2, 1) := by decide +kernel
theorem dX10_send_35 : decode cX10_send 35 = .ok (.aload_n 0, 1) := by decide +kernel
theorem dX10_send_36 : decode cX10_send 36 = .ok (.getfield 24, 3) := by decide +kernel
theorem dX10_send_39 : decode cX10_send 39 = .ok (.getfield 163, 3) := by decide +kernel
theorem dX10_send_42 : decode cX10_send 42 = .ok (.iconst 1, 1) := by decide +kernel
theorem dX10_send_43 : decode cX10_send 43 = .ok (.iadd, 1) := by decide +kernel
theorem dX10_send_44 : decode cX10_send 44 = .ok (.invokevirtual 200, 3) := by decide +kernel
theorem dX10_send_47 : decode cX10_send 47 = .ok (.goto 7, 3) := by decide +kernel
theorem dX10_send_50 : decode cX10_send 50 = .ok (.aload_n 0, 1) := by decide +kernel
theorem dX10_send_51 : decode cX10_send 51 = .ok (.invokevirtual 216, 3) := by decide +kernel
theorem dX10_send_54 : decode cX10_send 54 = .ok (.aload_n 0, 1) := by decide +kernel
theorem dX10_send_55 : decode cX10_send 55 = .ok (.dup, 1) := by decide +kernel
theorem dX10_send_56 : decode cX10_send 56 = .ok (.getfield 179, 3) := by decide +kernel
theorem dX10_send_59 : decode cX10_send 59 = .ok (.iconst 1, 1) := by decide +kernel
theorem dX10_send_60 : decode cX10_send 60 = .ok (.iadd, 1) := by decide +kernel
theorem dX10_send_61 : decode cX10_send 61 = .ok (.putfield 179, 3) := by decide +kernel
theorem dX10_send_64 : decode cX10_send 64 = .ok (.return_, 1) := by decide +kernel
theorem dX10_state_0 : decode cX10_state 0 = .ok (.aload_n 0, 1) := by decide +kernel
theorem dX10_state_1 : decode cX10_state 1 = .ok (.getfield 64, 3) := by decide +kernel
theorem dX10_state_4 : decode cX10_state 4 = .ok (.ifCond .ne 5, 3) := by decide +kernel
theorem dX10_state_7 : decode cX10_state 7 = .ok (.iconst 0, 1) := by decide +kernel
theorem dX10_state_8 : decode cX10_state 8 = .ok (.ireturn, 1) := by decide +kernel
theorem dX10_state_9 : decode cX10_state 9 = .ok (.aload_n 0, 1) := by decide +kernel
theorem dX10_state_10 : decode cX10_state 10 = .ok (.getfield 71, 3) := by decide +kernel
theorem dX10_state_13 : decode cX10_state 13 = .ok (.ifCond .ne 5, 3) := by decide +kernel
theorem dX10_state_16 : decode cX10_state 16 = .ok (.iconst 1, 1) := by decide +kernel
theorem dX10_state_17 : decode cX10_state 17 = .ok (.ireturn, 1) := by decide +kernel
theorem dX10_state_18 : decode cX10_state 18 = .ok (.aload_n 0, 1) := by decide +kernel
theorem dX10_state_19 : decode cX10_state 19 = .ok (.getfield 118, 3) := by decide +kernel
theorem dX10_state_22 : decode cX10_state 22 = .ok (.ifCond .le 8, 3) := by decide +kernel
theorem dX10_state_25 : decode cX10_state 25 = .ok (.aload_n 0, 1) := by decide +kernel
theorem dX10_state_26 : decode cX10_state 26 = .ok (.getfield 118, 3) := by decide +kernel
theorem dX10_state_29 : decode cX10_state 29 = .ok (.ireturn, 1) := by decide +kernel
theorem dX10_state_30 : decode cX10_state 30 = .ok (.aload_n 0, 1) := by decide +kernel
theorem dX10_state_31 : decode cX10_state 31 = .ok (.getfield 121, 3) := by decide +kernel
theorem dX10_state_34 : decode cX10_state 34 = .ok (.iconst 1, 1) := by decide +kernel
theorem dX10_state_35 : decode cX10_state 35 = .ok (.if_icmp .ne 7, 3) := by decide +kernel
theorem dX10_state_38 : decode cX10_state 38 = .ok (.iconst 2, 1) := by decide +kernel
theorem dX10_state_39 : decode cX10_state 39 = .ok (.goto 27, 3) := by decide +kernel
theorem dX10_state_42 : decode cX10_state 42 = .ok (.aload_n 0, 1) := by decide +kernel
theorem dX10_state_43 : decode cX10_state 43 = .ok (.getfield 121, 3) := by decide +kernel
theorem dX10_state_46 : decode cX10_state 46 = .ok (.ifCond .ne 7, 3) := by decide +kernel
theorem dX10_state_49 : decode cX10_state 49 = .ok (.iconst 3, 1) := by decide +kernel
theorem dX10_state_50 : decode cX10_state 50 = .ok (.goto 16, 3) := by decide +kernel
theorem dX10_state_53 : decode cX10_state 53 = .ok (.aload_n 0, 1) := by decide +kernel
theorem dX10_state_54 : decode cX10_state 54 = .ok (.getfield 121, 3) := by decide +kernel
theorem dX10_state_57 : decode cX10_state 57 = .ok (.iconst 2, 1) := by decide +kernel
theorem dX10_state_58 : decode cX10_state 58 = .ok (.if_icmp .ne 7, 3) := by decide +kernel
theorem dX10_state_61 : decode cX10_state 61 = .ok (.iconst 4, 1) := by decide +kernel
theorem dX10_state_62 : decode cX10_state 62 = .ok (.goto 4, 3) := by decide +kernel
theorem dX10_state_65 : decode cX10_state 65 = .ok (.iconst 5, 1) := by decide +kernel
theorem dX10_state_66 : decode cX10_state 66 = .ok (.ireturn, 1) := by decide +kernel
theorem dX10_told_0 : decode cX10_told 0 = .ok (.iload_n 1, 1) := by decide +kernel
theorem dX10_told_1 : decode cX10_told 1 = .ok (.ifCond .lt 18, 3) := by decide +kernel
theorem dX10_told_4 : decode cX10_told 4 = .ok (.iload_n 1, 1) := by decide +kernel
theorem dX10_told_5 : decode cX10_told 5 = .ok (.bipush 32, 2) := by decide +kernel
theorem dX10_told_7 : decode cX10_told 7 = .ok (.if_icmp .ge 12, 3) := by decide +kernel
theorem dX10_told_10 : decode cX10_told 10 = .ok (.aload_n 0, 1) := by decide +kernel
theorem dX10_told_11 : decode cX10_told 11 = .ok (.getfield 154, 3) := by decide +kernel
theorem dX10_told_14 : decode cX10_told 14 = .ok (.iload_n 1, 1) := by decide +kernel
theorem dX10_told_15 : decode cX10_told 15 = .ok (.iaload, 1) := by decide +kernel
theorem dX10_told_16 : decode cX10_told 16 = .ok (.goto 43, 3) := by decide +kernel
theorem dX10_told_19 : decode cX10_told 19 = .ok (.iload_n 1, 1) := by decide +kernel
theorem dX10_told_20 : decode cX10_told 20 = .ok (.bipush 32, 2) := by decide +kernel
theorem dX10_told_22 : decode cX10_told 22 = .ok (.if_icmp .ne 10, 3) := by decide +kernel
theorem dX10_told_25 : decode cX10_told 25 = .ok (.aload_n 0, 1) := by decide +kernel
theorem dX10_told_26 : decode cX10_told 26 = .ok (.getfield 157, 3) := by decide +kernel
theorem dX10_told_29 : decode cX10_told 29 = .ok (.goto 30, 3) := by decide +kernel
theorem dX10_told_32 : decode cX10_told 32 = .ok (.iload_n 1, 1) := by decide +kernel
theorem dX10_told_33 : decode cX10_told 33 = .ok (.bipush 33, 2) := by decide +kernel
theorem dX10_told_35 : decode cX10_told 35 = .ok (.if_icmp .ne 10, 3) := by decide +kernel
theorem dX10_told_38 : decode cX10_told 38 = .ok (.aload_n 0, 1) := by decide +kernel
theorem dX10_told_39 : decode cX10_told 39 = .ok (.getfield 160, 3) := by decide +kernel
theorem dX10_told_42 : decode cX10_told 42 = .ok (.goto 17, 3) := by decide +kernel
theorem dX10_told_45 : decode cX10_told 45 = .ok (.iload_n 1, 1) := by decide +kernel
theorem dX10_told_46 : decode cX10_told 46 = .ok (.bipush 34, 2) := by decide +kernel
theorem dX10_told_48 : decode cX10_told 48 = .ok (.if_icmp .ne 10, 3) := by decide +kernel
theorem dX10_told_51 : decode cX10_told 51 = .ok (.aload_n 0, 1) := by decide +kernel
theorem dX10_told_52 : decode cX10_told 52 = .ok (.getfield 163, 3) := by decide +kernel
theorem dX10_told_55 : decode cX10_told 55 = .ok (.goto 4, 3) := by decide +kernel
theorem dX10_told_58 : decode cX10_told 58 = .ok (.iconst 0, 1) := by decide +kernel
theorem dX10_told_59 : decode cX10_told 59 = .ok (.ireturn, 1) := by decide +kernel
theorem dX10_register_0 : decode cX10_register 0 = .ok (.aload_n 0, 1) := by decide +kernel
theorem dX10_register_1 : decode cX10_register 1 = .ok (.getfield 71, 3) := by decide +kernel
theorem dX10_register_4 : decode cX10_register 4 = .ok (.ifCond .ne 5, 3) := by decide +kernel
theorem dX10_register_7 : decode cX10_register 7 = .ok (.iconst 0, 1) := by decide +kernel
theorem dX10_register_8 : decode cX10_register 8 = .ok (.ireturn, 1) := by decide +kernel
theorem dX10_register_9 : decode cX10_register 9 = .ok (.iload_n 1, 1) := by decide +kernel
theorem dX10_register_10 : decode cX10_register 10 = .ok (.bipush 35, 2) := by decide +kernel
theorem dX10_register_12 : decode cX10_register 12 = .ok (.if_icmp .ne 13, 3) := by decide +kernel
theorem dX10_register_15 : decode cX10_register 15 = .ok (.aload_n 0, 1) := by decide +kernel
theorem dX10_register_16 : decode cX10_register 16 = .ok (.getfield 24, 3) := by decide +kernel
theorem dX10_register_19 : decode cX10_register 19 = .ok (.getfield 166, 3) := by decide +kernel
theorem dX10_register_22 : decode cX10_register 22 = .ok (.goto 24, 3) := by decide +kernel
theorem dX10_register_25 : decode cX10_register 25 = .ok (.iload_n 1, 1) := by decide +kernel
theorem dX10_register_26 : decode cX10_register 26 = .ok (.bipush 36, 2) := by decide +kernel
theorem dX10_register_28 : decode cX10_register 28 = .ok (.if_icmp .ne 10, 3) := by decide +kernel
theorem dX10_register_31 : decode cX10_register 31 = .ok (.aload_n 0, 1) := by decide +kernel
theorem dX10_register_32 : decode cX10_register 32 = .ok (.getfield 115, 3) := by decide +kernel
theorem dX10_register_35 : decode cX10_register 35 = .ok (.goto 11, 3) := by decide +kernel
theorem dX10_register_38 : decode cX10_register 38 = .ok (.aload_n 0, 1) := by decide +kernel
theorem dX10_register_39 : decode cX10_register 39 = .ok (.getfield 24, 3) := by decide +kernel
theorem dX10_register_42 : decode cX10_register 42 = .ok (.iload_n 1, 1) := by decide +kernel
theorem dX10_register_43 : decode cX10_register 43 = .ok (.invokestatic 227, 3) := by decide +kernel
theorem dX10_register_46 : decode cX10_register 46 = .ok (.ireturn, 1) := by decide +kernel
theorem dX10_ram_0 : decode cX10_ram 0 = .ok (.aload_n 0, 1) := by decide +kernel
theorem dX10_ram_1 : decode cX10_ram 1 = .ok (.getfield 71, 3) := by decide +kernel
theorem dX10_ram_4 : decode cX10_ram 4 = .ok (.ifCond .eq 26, 3) := by decide +kernel
theorem dX10_ram_7 : decode cX10_ram 7 = .ok (.iload_n 1, 1) := by decide +kernel
theorem dX10_ram_8 : decode cX10_ram 8 = .ok (.ifCond .lt 22, 3) := by decide +kernel
theorem dX10_ram_11 : decode cX10_ram 11 = .ok (.iload_n 1, 1) := by decide +kernel
theorem dX10_ram_12 : decode cX10_ram 12 = .ok (.aload_n 0, 1) := by decide +kernel
theorem dX10_ram_13 : decode cX10_ram 13 = .ok (.getfield 77, 3) := by decide +kernel
theorem dX10_ram_16 : decode cX10_ram 16 = .ok (.if_icmp .ge 14, 3) := by decide +kernel
theorem dX10_ram_19 : decode cX10_ram 19 = .ok (.aload_n 0, 1) := by decide +kernel
theorem dX10_ram_20 : decode cX10_ram 20 = .ok (.getfield 24, 3) := by decide +kernel
theorem dX10_ram_23 : decode cX10_ram 23 = .ok (.iload_n 1, 1) := by decide +kernel
theorem dX10_ram_24 : decode cX10_ram 24 = .ok (.invokevirtual 231, 3) := by decide +kernel
theorem dX10_ram_27 : decode cX10_ram 27 = .ok (.goto 4, 3) := by decide +kernel
theorem dX10_ram_30 : decode cX10_ram 30 = .ok (.iconst (-1), 1) := by decide +kernel
theorem dX10_ram_31 : decode cX10_ram 31 = .ok (.ireturn, 1) := by decide +kernel
theorem dX10_words_0 : decode cX10_words 0 = .ok (.aload_n 0, 1) := by decide +kernel
theorem dX10_words_1 : decode cX10_words 1 = .ok (.getfield 64, 3) := by decide +kernel
theorem dX10_words_4 : decode cX10_words 4 = .ok (.ifCond .eq 10, 3) := by decide +kernel
theorem dX10_words_7 : decode cX10_words 7 = .ok (.aload_n 0, 1) := by decide +kernel
theorem dX10_words_8 : decode cX10_words 8 = .ok (.getfield 98, 3) := by decide +kernel
theorem dX10_words_11 : decode cX10_words 11 = .ok (.goto 4, 3) := by decide +kernel
theorem dX10_words_14 : decode cX10_words 14 = .ok (.iconst 0, 1) := by decide +kernel
theorem dX10_words_15 : decode cX10_words 15 = .ok (.ireturn, 1) := by decide +kernel
theorem dX10_word_0 : decode cX10_word 0 = .ok (.aload_n 0, 1) := by decide +kernel
theorem dX10_word_1 : decode cX10_word 1 = .ok (.getfield 64, 3) := by decide +kernel
theorem dX10_word_4 : decode cX10_word 4 = .ok (.ifCond .eq 24, 3) := by decide +kernel
theorem dX10_word_7 : decode cX10_word 7 = .ok (.iload_n 1, 1) := by decide +kernel
theorem dX10_word_8 : decode cX10_word 8 = .ok (.ifCond .lt 20, 3) := by decide +kernel
theorem dX10_word_11 : decode cX10_word 11 = .ok (.iload_n 1, 1) := by decide +kernel
theorem dX10_word_12 : decode cX10_word 12 = .ok (.aload_n 0, 1) := by decide +kernel
theorem dX10_word_13 : decode cX10_word 13 = .ok (.getfield 98, 3) := by decide +kernel
theorem dX10_word_16 : decode cX10_word 16 = .ok (.if_icmp .ge 12, 3) := by decide +kernel
theorem dX10_word_19 : decode cX10_word 19 = .ok (.aload_n 0, 1) := by decide +kernel
theorem dX10_word_20 : decode cX10_word 20 = .ok (.getfield 9, 3) := by decide +kernel
theorem dX10_word_23 : decode cX10_word 23 = .ok (.iload_n 1, 1) := by decide +kernel
theorem dX10_word_24 : decode cX10_word 24 = .ok (.iaload, 1) := by decide +kernel
theorem dX10_word_25 : decode cX10_word 25 = .ok (.goto 4, 3) := by decide +kernel
theorem dX10_word_28 : decode cX10_word 28 = .ok (.iconst 0, 1) := by decide +kernel
theorem dX10_word_29 : decode cX10_word 29 = .ok (.ireturn, 1) := by decide +kernel
theorem dX10_frames_0 : decode cX10_frames 0 = .ok (.aload_n 0, 1) := by decide +kernel
theorem dX10_frames_1 : decode cX10_frames 1 = .ok (.getfield 37, 3) := by decide +kernel
theorem dX10_frames_4 : decode cX10_frames 4 = .ok (.getfield 112, 3) := by decide +kernel
theorem dX10_frames_7 : decode cX10_frames 7 = .ok (.ireturn, 1) := by decide +kernel
theorem dX10_frame_0 : decode cX10_frame 0 = .ok (.aload_n 0, 1) := by decide +kernel
theorem dX10_frame_1 : decode cX10_frame 1 = .ok (.getfield 37, 3) := by decide +kernel
theorem dX10_frame_4 : decode cX10_frame 4 = .ok (.iload_n 1, 1) := by decide +kernel
theorem dX10_frame_5 : decode cX10_frame 5 = .ok (.invokevirtual 234, 3) := by decide +kernel
theorem dX10_frame_8 : decode cX10_frame 8 = .ok (.ifCond .ne 5, 3) := by decide +kernel
theorem dX10_frame_11 : decode cX10_frame 11 = .ok (.iconst (-1), 1) := by decide +kernel
theorem dX10_frame_12 : decode cX10_frame 12 = .ok (.ireturn, 1) := by decide +kernel
theorem dX10_frame_13 : decode cX10_frame 13 = .ok (.iload_n 2, 1) := by decide +kernel
theorem dX10_frame_14 : decode cX10_frame 14 = .ok (.ifCond .ne 15, 3) := by decide +kernel
theorem dX10_frame_17 : decode cX10_frame 17 = .ok (.aload_n 0, 1) := by decide +kernel
theorem dX10_frame_18 : decode cX10_frame 18 = .ok (.getfield 37, 3) := by decide +kernel
theorem dX10_frame_21 : decode cX10_frame 21 = .ok (.getfield 238, 3) := by decide +kernel
theorem dX10_frame_24 : decode cX10_frame 24 = .ok (.iload_n 1, 1) := by decide +kernel
theorem dX10_frame_25 : decode cX10_frame 25 = .ok (.iaload, 1) := by decide +kernel
theorem dX10_frame_26 : decode cX10_frame 26 = .ok (.goto 38, 3) := by decide +kernel
theorem dX10_frame_29 : decode cX10_frame 29 = .ok (.iload_n 2, 1) := by decide +kernel
theorem dX10_frame_30 : decode cX10_frame 30 = .ok (.iconst 1, 1) := by decide +kernel
theorem dX10_frame_31 : decode cX10_frame 31 = .ok (.if_icmp .ne 15, 3) := by decide +kernel
theorem dX10_frame_34 : decode cX10_frame 34 = .ok (.aload_n 0, 1) := by decide +kernel
theorem dX10_frame_35 : decode cX10_frame 35 = .ok (.getfield 37, 3) := by decide +kernel
theorem dX10_frame_38 : decode cX10_frame 38 = .ok (.getfield 241, 3) := by decide +kernel
theorem dX10_frame_41 : decode cX10_frame 41 = .ok (.iload_n 1, 1) := by decide +kernel
theorem dX10_frame_42 : decode cX10_frame 42 = .ok (.iaload, 1) := by decide +kernel
theorem dX10_frame_43 : decode cX10_frame 43 = .ok (.goto 21, 3) := by decide +kernel
theorem dX10_frame_46 : decode cX10_frame 46 = .ok (.iload_n 2, 1) := by decide +kernel
theorem dX10_frame_47 : decode cX10_frame 47 = .ok (.iconst 2, 1) := by decide +kernel
theorem dX10_frame_48 : decode cX10_frame 48 = .ok (.if_icmp .ne 15, 3) := by decide +kernel
theorem dX10_frame_51 : decode cX10_frame 51 = .ok (.aload_n 0, 1) := by decide +kernel
theorem dX10_frame_52 : decode cX10_frame 52 = .ok (.getfield 37, 3) := by decide +kernel
theorem dX10_frame_55 : decode cX10_frame 55 = .ok (.getfield 244, 3) := by decide +kernel
theorem dX10_frame_58 : decode cX10_frame 58 = .ok (.iload_n 1, 1) := by decide +kernel
theorem dX10_frame_59 : decode cX10_frame 59 = .ok (.iaload, 1) := by decide +kernel
theorem dX10_frame_60 : decode cX10_frame 60 = .ok (.goto 4, 3) := by decide +kernel
theorem dX10_frame_63 : decode cX10_frame 63 = .ok (.iconst (-1), 1) := by decide +kernel
theorem dX10_frame_64 : decode cX10_frame 64 = .ok (.ireturn, 1) := by decide +kernel
theorem dX10_heard_0 : decode cX10_heard 0 = .ok (.aload_n 0, 1) := by decide +kernel
theorem dX10_heard_1 : decode cX10_heard 1 = .ok (.getfield 37, 3) := by decide +kernel
theorem dX10_heard_4 : decode cX10_heard 4 = .ok (.iload_n 1, 1) := by decide +kernel
theorem dX10_heard_5 : decode cX10_heard 5 = .ok (.iload_n 2, 1) := by decide +kernel
theorem dX10_heard_6 : decode cX10_heard 6 = .ok (.invokevirtual 247, 3) := by decide +kernel
theorem dX10_heard_9 : decode cX10_heard 9 = .ok (.ireturn, 1) := by decide +kernel
theorem dX10_count_0 : decode cX10_count 0 = .ok (.aload_n 0, 1) := by decide +kernel
theorem dX10_count_1 : decode cX10_count 1 = .ok (.getfield 64, 3) := by decide +kernel
theorem dX10_count_4 : decode cX10_count 4 = .ok (.ifCond .ne 5, 3) := by decide +kernel
theorem dX10_count_7 : decode cX10_count 7 = .ok (.iconst (-1), 1) := by decide +kernel
theorem dX10_count_8 : decode cX10_count 8 = .ok (.ireturn, 1) := by decide +kernel
theorem dX10_count_9 : decode cX10_count 9 = .ok (.iload_n 1, 1) := by decide +kernel
theorem dX10_count_10 : decode cX10_count 10 = .ok (.tableswitch 77 0 6 #[42, 47, 52, 57, 62, 67, 72], 42) := by decide +kernel
theorem dX10_count_52 : decode cX10_count 52 = .ok (.aload_n 0, 1) := by decide +kernel
theorem dX10_count_53 : decode cX10_count 53 = .ok (.getfield 124, 3) := by decide +kernel
theorem dX10_count_56 : decode cX10_count 56 = .ok (.ireturn, 1) := by decide +kernel
theorem dX10_count_57 : decode cX10_count 57 = .ok (.aload_n 0, 1) := by decide +kernel
theorem dX10_count_58 : decode cX10_count 58 = .ok (.getfield 127, 3) := by decide +kernel
theorem dX10_count_61 : decode cX10_count 61 = .ok (.ireturn, 1) := by decide +kernel
theorem dX10_count_62 : decode cX10_count 62 = .ok (.aload_n 0, 1) := by decide +kernel
theorem dX10_count_63 : decode cX10_count 63 = .ok (.getfield 133, 3) := by decide +kernel
theorem dX10_count_66 : decode cX10_count 66 = .ok (.ireturn, 1) := by decide +kernel
theorem dX10_count_67 : decode cX10_count 67 = .ok (.aload_n 0, 1) := by decide +kernel
theorem dX10_count_68 : decode cX10_count 68 = .ok (.getfield 130, 3) := by decide +kernel
theorem dX10_count_71 : decode cX10_count 71 = .ok (.ireturn, 1) := by decide +kernel
theorem dX10_count_72 : decode cX10_count 72 = .ok (.aload_n 0, 1) := by decide +kernel
theorem dX10_count_73 : decode cX10_count 73 = .ok (.getfield 136, 3) := by decide +kernel
theorem dX10_count_76 : decode cX10_count 76 = .ok (.ireturn, 1) := by decide +kernel
theorem dX10_count_77 : decode cX10_count 77 = .ok (.aload_n 0, 1) := by decide +kernel
theorem dX10_count_78 : decode cX10_count 78 = .ok (.getfield 139, 3) := by decide +kernel
theorem dX10_count_81 : decode cX10_count 81 = .ok (.ireturn, 1) := by decide +kernel
theorem dX10_count_82 : decode cX10_count 82 = .ok (.aload_n 0, 1) := by decide +kernel
theorem dX10_count_83 : decode cX10_count 83 = .ok (.getfield 142, 3) := by decide +kernel
theorem dX10_count_86 : decode cX10_count 86 = .ok (.ireturn, 1) := by decide +kernel
theorem dX10_count_87 : decode cX10_count 87 = .ok (.iconst (-1), 1) := by decide +kernel
theorem dX10_count_88 : decode cX10_count 88 = .ok (.ireturn, 1) := by decide +kernel
theorem dX10_plain_0 : decode cX10_plain 0 = .ok (.aload_n 0, 1) := by decide +kernel
theorem dX10_plain_1 : decode cX10_plain 1 = .ok (.getfield 64, 3) := by decide +kernel
theorem dX10_plain_4 : decode cX10_plain 4 = .ok (.ifCond .eq 14, 3) := by decide +kernel
theorem dX10_plain_7 : decode cX10_plain 7 = .ok (.iload_n 1, 1) := by decide +kernel
theorem dX10_plain_8 : decode cX10_plain 8 = .ok (.ifCond .lt 10, 3) := by decide +kernel
theorem dX10_plain_11 : decode cX10_plain 11 = .ok (.iload_n 1, 1) := by decide +kernel
theorem dX10_plain_12 : decode cX10_plain 12 = .ok (.sipush 20000, 3) := by decide +kernel
theorem dX10_plain_15 : decode cX10_plain 15 = .ok (.if_icmp .le 5, 3) := by decide +kernel
theorem dX10_plain_18 : decode cX10_plain 18 = .ok (.iconst (-1), 1) := by decide +kernel
theorem dX10_plain_19 : decode cX10_plain 19 = .ok (.ireturn, 1) := by decide +kernel
theorem dX10_plain_20 : decode cX10_plain 20 = .ok (.aload_n 0, 1) := by decide +kernel
theorem dX10_plain_21 : decode cX10_plain 21 = .ok (.iconst 1, 1) := by decide +kernel
theorem dX10_plain_22 : decode cX10_plain 22 = .ok (.putfield 74, 3) := by decide +kernel
theorem dX10_plain_25 : decode cX10_plain 25 = .ok (.aload_n 0, 1) := by decide +kernel
theorem dX10_plain_26 : decode cX10_plain 26 = .ok (.getfield 41, 3) := by decide +kernel
theorem dX10_plain_29 : decode cX10_plain 29 = .ok (.iconst 0, 1) := by decide +kernel
theorem dX10_plain_30 : decode cX10_plain 30 = .ok (.putfield 112, 3) := by decide +kernel
theorem dX10_plain_33 : decode cX10_plain 33 = .ok (.iconst 0, 1) := by decide +kernel
theorem dX10_plain_34 : decode cX10_plain 34 = .ok (.istore_n 2, 1) := by decide +kernel
theorem dX10_plain_35 : decode cX10_plain 35 = .ok (.iload_n 2, 1) := by decide +kernel
theorem dX10_plain_36 : decode cX10_plain 36 = .ok (.sipush 2048, 3) := by decide +kernel
theorem dX10_plain_39 : decode cX10_plain 39 = .ok (.if_icmp .ge 21, 3) := by decide +kernel
theorem dX10_plain_42 : decode cX10_plain 42 = .ok (.aload_n 0, 1) := by decide +kernel
theorem dX10_plain_43 : decode cX10_plain 43 = .ok (.getfield 31, 3) := by decide +kernel
theorem dX10_plain_46 : decode cX10_plain 46 = .ok (.iload_n 2, 1) := by decide +kernel
theorem dX10_plain_47 : decode cX10_plain 47 = .ok (.aload_n 0, 1) := by decide +kernel
theorem dX10_plain_48 : decode cX10_plain 48 = .ok (.getfield 13, 3) := by decide +kernel
theorem dX10_plain_51 : decode cX10_plain 51 = .ok (.iload_n 2, 1) := by decide +kernel
theorem dX10_plain_52 : decode cX10_plain 52 = .ok (.iaload, 1) := by decide +kernel
theorem dX10_plain_53 : decode cX10_plain 53 = .ok (.iastore, 1) := by decide +kernel
theorem dX10_plain_54 : decode cX10_plain 54 = .ok (.iinc 2 1, 3) := by decide +kernel
theorem dX10_plain_57 : decode cX10_plain 57 = .ok (.goto (-22), 3) := by decide +kernel
theorem dX10_plain_60 : decode cX10_plain 60 = .ok (.aload_n 0, 1) := by decide +kernel
theorem dX10_plain_61 : decode cX10_plain 61 = .ok (.getfield 28, 3) := by decide +kernel
theorem dX10_plain_64 : decode cX10_plain 64 = .ok (.aload_n 0, 1) := by decide +kernel
theorem dX10_plain_65 : decode cX10_plain 65 = .ok (.getfield 31, 3) := by decide +kernel
theorem dX10_plain_68 : decode cX10_plain 68 = .ok (.putfield 101, 3) := by decide +kernel
theorem dX10_plain_71 : decode cX10_plain 71 = .ok (.aload_n 0, 1) := by decide +kernel
theorem dX10_plain_72 : decode cX10_plain 72 = .ok (.getfield 28, 3) := by decide +kernel
theorem dX10_plain_75 : decode cX10_plain 75 = .ok (.iconst 0, 1) := by decide +kernel
theorem dX10_plain_76 : decode cX10_plain 76 = .ok (.putfield 104, 3) := by decide +kernel
theorem dX10_plain_79 : decode cX10_plain 79 = .ok (.aload_n 0, 1) := by decide +kernel
theorem dX10_plain_80 : decode cX10_plain 80 = .ok (.getfield 28, 3) := by decide +kernel
theorem dX10_plain_83 : decode cX10_plain 83 = .ok (.aload_n 0, 1) := by decide +kernel
theorem dX10_plain_84 : decode cX10_plain 84 = .ok (.getfield 77, 3) := by decide +kernel
theorem dX10_plain_87 : decode cX10_plain 87 = .ok (.aload_n 0, 1) := by decide +kernel
theorem dX10_plain_88 : decode cX10_plain 88 = .ok (.getfield 80, 3) := by decide +kernel
theorem dX10_plain_91 : decode cX10_plain 91 = .ok (.aload_n 0, 1) := by decide +kernel
theorem dX10_plain_92 : decode cX10_plain 92 = .ok (.getfield 89, 3) := by decide +kernel
theorem dX10_plain_95 : decode cX10_plain 95 = .ok (.invokevirtual 251, 3) := by decide +kernel
theorem dX10_plain_98 : decode cX10_plain 98 = .ok (.aload_n 0, 1) := by decide +kernel
theorem dX10_plain_99 : decode cX10_plain 99 = .ok (.getfield 28, 3) := by decide +kernel
theorem dX10_plain_102 : decode cX10_plain 102 = .ok (.invokevirtual 204, 3) := by decide +kernel
theorem dX10_plain_105 : decode cX10_plain 105 = .ok (.aload_n 0, 1) := by decide +kernel
theorem dX10_plain_106 : decode cX10_plain 106 = .ok (.getfield 28, 3) := by decide +kernel
theorem dX10_plain_109 : decode cX10_plain 109 = .ok (.getfield 166, 3) := by decide +kernel
theorem dX10_plain_112 : decode cX10_plain 112 = .ok (.iload_n 1, 1) := by decide +kernel
theorem dX10_plain_113 : decode cX10_plain 113 = .ok (.if_icmp .ge 53, 3) := by decide +kernel
theorem dX10_plain_116 : decode cX10_plain 116 = .ok (.aload_n 0, 1) := by decide +kernel
theorem dX10_plain_117 : decode cX10_plain 117 = .ok (.getfield 28, 3) := by decide +kernel
theorem dX10_plain_120 : decode cX10_plain 120 = .ok (.getfield 210, 3) := by decide +kernel
theorem dX10_plain_123 : decode cX10_plain 123 = .ok (.ifCond .ne 43, 3) := by decide +kernel
theorem dX10_plain_126 : decode cX10_plain 126 = .ok (.aload_n 0, 1) := by decide +kernel
theorem dX10_plain_127 : decode cX10_plain 127 = .ok (.getfield 28, 3) := by decide +kernel
theorem dX10_plain_130 : decode cX10_plain 130 = .ok (.getfield 207, 3) := by decide +kernel
theorem dX10_plain_133 : decode cX10_plain 133 = .ok (.iconst 2, 1) := by decide +kernel
theorem dX10_plain_134 : decode cX10_plain 134 = .ok (.if_icmp .ne 15, 3) := by decide +kernel
theorem dX10_plain_137 : decode cX10_plain 137 = .ok (.aload_n 0, 1) := by decide +kernel
theorem dX10_plain_138 : decode cX10_plain 138 = .ok (.getfield 28, 3) := by decide +kernel
theorem dX10_plain_141 : decode cX10_plain 141 = .ok (.aload_n 0, 1) := by decide +kernel
theorem dX10_plain_142 : decode cX10_plain 142 = .ok (.getfield 41, 3) := by decide +kernel
theorem dX10_plain_145 : decode cX10_plain 145 = .ok (.iconst 0, 1) := by decide +kernel
theorem dX10_plain_146 : decode cX10_plain 146 = .ok (.invokevirtual 223, 3) := by decide +kernel
theorem dX10_plain_149 : decode cX10_plain 149 = .ok (.aload_n 0, 1) := by decide +kernel
theorem dX10_plain_150 : decode cX10_plain 150 = .ok (.getfield 28, 3) := by decide +kernel
theorem dX10_plain_153 : decode cX10_plain 153 = .ok (.invokevirtual 219, 3) := by decide +kernel
theorem dX10_plain_156 : decode cX10_plain 156 = .ok (.aload_n 0, 1) := by decide +kernel
theorem dX10_plain_157 : decode cX10_plain 157 = .ok (.getfield 28, 3) := by decide +kernel
theorem dX10_plain_160 : decode cX10_plain 160 = .ok (.invokevirtual 204, 3) := by decide +kernel
theorem dX10_plain_163 : decode cX10_plain 163 = .ok (.goto (-58), 3) := by decide +kernel
theorem dX10_plain_166 : decode cX10_plain 166 = .ok (.aload_n 0, 1) := by decide +kernel
theorem dX10_plain_167 : decode cX10_plain 167 = .ok (.getfield 28, 3) := by decide +kernel
theorem dX10_plain_170 : decode cX10_plain 170 = .ok (.getfield 166, 3) := by decide +kernel
theorem dX10_plain_173 : decode cX10_plain 173 = .ok (.ireturn, 1) := by decide +kernel
theorem dX10_plainly_0 : decode cX10_plainly 0 = .ok (.aload_n 0, 1) := by decide +kernel
theorem dX10_plainly_1 : decode cX10_plainly 1 = .ok (.getfield 74, 3) := by decide +kernel
theorem dX10_plainly_4 : decode cX10_plainly 4 = .ok (.ifCond .ne 5, 3) := by decide +kernel
theorem dX10_plainly_7 : decode cX10_plainly 7 = .ok (.iconst 0, 1) := by decide +kernel
theorem dX10_plainly_8 : decode cX10_plainly 8 = .ok (.ireturn, 1) := by decide +kernel
theorem dX10_plainly_9 : decode cX10_plainly 9 = .ok (.iload_n 1, 1) := by decide +kernel
theorem dX10_plainly_10 : decode cX10_plainly 10 = .ok (.bipush 35, 2) := by decide +kernel
theorem dX10_plainly_12 : decode cX10_plainly 12 = .ok (.if_icmp .ne 13, 3) := by decide +kernel
theorem dX10_plainly_15 : decode cX10_plainly 15 = .ok (.aload_n 0, 1) := by decide +kernel
theorem dX10_plainly_16 : decode cX10_plainly 16 = .ok (.getfield 28, 3) := by decide +kernel
theorem dX10_plainly_19 : decode cX10_plainly 19 = .ok (.getfield 210, 3) := by decide +kernel
theorem dX10_plainly_22 : decode cX10_plainly 22 = .ok (.goto 11, 3) := by decide +kernel
theorem dX10_plainly_25 : decode cX10_plainly 25 = .ok (.aload_n 0, 1) := by decide +kernel
theorem dX10_plainly_26 : decode cX10_plainly 26 = .ok (.getfield 28, 3) := by decide +kernel
theorem dX10_plainly_29 : decode cX10_plainly 29 = .ok (.iload_n 1, 1) := by decide +kernel
theorem dX10_plainly_30 : decode cX10_plainly 30 = .ok (.invokestatic 227, 3) := by decide +kernel
theorem dX10_plainly_33 : decode cX10_plainly 33 = .ok (.ireturn, 1) := by decide +kernel
theorem dX10_plainByte_0 : decode cX10_plainByte 0 = .ok (.aload_n 0, 1) := by decide +kernel
theorem dX10_plainByte_1 : decode cX10_plainByte 1 = .ok (.getfield 74, 3) := by decide +kernel
theorem dX10_plainByte_4 : decode cX10_plainByte 4 = .ok (.ifCond .eq 26, 3) := by decide +kernel
theorem dX10_plainByte_7 : decode cX10_plainByte 7 = .ok (.aload_n 0, 1) := by decide +kernel
theorem dX10_plainByte_8 : decode cX10_plainByte 8 = .ok (.getfield 28, 3) := by decide +kernel
theorem dX10_plainByte_11 : decode cX10_plainByte 11 = .ok (.iload_n 1, 1) := by decide +kernel
theorem dX10_plainByte_12 : decode cX10_plainByte 12 = .ok (.lconst 1, 1) := by decide +kernel
theorem dX10_plainByte_13 : decode cX10_plainByte 13 = .ok (.invokevirtual 255, 3) := by decide +kernel
theorem dX10_plainByte_16 : decode cX10_plainByte 16 = .ok (.ifCond .eq 14, 3) := by decide +kernel
theorem dX10_plainByte_19 : decode cX10_plainByte 19 = .ok (.aload_n 0, 1) := by decide +kernel
theorem dX10_plainByte_20 : decode cX10_plainByte 20 = .ok (.getfield 28, 3) := by decide +kernel
theorem dX10_plainByte_23 : decode cX10_plainByte 23 = .ok (.iload_n 1, 1) := by decide +kernel
theorem dX10_plainByte_24 : decode cX10_plainByte 24 = .ok (.invokevirtual 231, 3) := by decide +kernel
theorem dX10_plainByte_27 : decode cX10_plainByte 27 = .ok (.goto 4, 3) := by decide +kernel
theorem dX10_plainByte_30 : decode cX10_plainByte 30 = .ok (.iconst (-1), 1) := by decide +kernel
theorem dX10_plainByte_31 : decode cX10_plainByte 31 = .ok (.ireturn, 1) := by decide +kernel
theorem dX10_plainFrame_0 : decode cX10_plainFrame 0 = .ok (.aload_n 0, 1) := by decide +kernel
theorem dX10_plainFrame_1 : decode cX10_plainFrame 1 = .ok (.getfield 74, 3) := by decide +kernel
theorem dX10_plainFrame_4 : decode cX10_plainFrame 4 = .ok (.ifCond .eq 26, 3) := by decide +kernel
theorem dX10_plainFrame_7 : decode cX10_plainFrame 7 = .ok (.aload_n 0, 1) := by decide +kernel
theorem dX10_plainFrame_8 : decode cX10_plainFrame 8 = .ok (.getfield 41, 3) := by decide +kernel
theorem dX10_plainFrame_11 : decode cX10_plainFrame 11 = .ok (.iload_n 1, 1) := by decide +kernel
theorem dX10_plainFrame_12 : decode cX10_plainFrame 12 = .ok (.invokevirtual 234, 3) := by decide +kernel
theorem dX10_plainFrame_15 : decode cX10_plainFrame 15 = .ok (.ifCond .eq 15, 3) := by decide +kernel
theorem dX10_plainFrame_18 : decode cX10_plainFrame 18 = .ok (.aload_n 0, 1) := by decide +kernel
theorem dX10_plainFrame_19 : decode cX10_plainFrame 19 = .ok (.getfield 41, 3) := by decide +kernel
theorem dX10_plainFrame_22 : decode cX10_plainFrame 22 = .ok (.getfield 241, 3) := by decide +kernel
theorem dX10_plainFrame_25 : decode cX10_plainFrame 25 = .ok (.iload_n 1, 1) := by decide +kernel
theorem dX10_plainFrame_26 : decode cX10_plainFrame 26 = .ok (.iaload, 1) := by decide +kernel
theorem dX10_plainFrame_27 : decode cX10_plainFrame 27 = .ok (.goto 4, 3) := by decide +kernel
theorem dX10_plainFrame_30 : decode cX10_plainFrame 30 = .ok (.iconst (-1), 1) := by decide +kernel
theorem dX10_plainFrame_31 : decode cX10_plainFrame 31 = .ok (.ireturn, 1) := by decide +kernel
theorem dX10_plainHeard_0 : decode cX10_plainHeard 0 = .ok (.aload_n 0, 1) := by decide +kernel
theorem dX10_plainHeard_1 : decode cX10_plainHeard 1 = .ok (.getfield 74, 3) := by decide +kernel
theorem dX10_plainHeard_4 : decode cX10_plainHeard 4 = .ok (.ifCond .eq 15, 3) := by decide +kernel
theorem dX10_plainHeard_7 : decode cX10_plainHeard 7 = .ok (.aload_n 0, 1) := by decide +kernel
theorem dX10_plainHeard_8 : decode cX10_plainHeard 8 = .ok (.getfield 41, 3) := by decide +kernel
theorem dX10_plainHeard_11 : decode cX10_plainHeard 11 = .ok (.iload_n 1, 1) := by decide +kernel
theorem dX10_plainHeard_12 : decode cX10_plainHeard 12 = .ok (.iload_n 2, 1) := by decide +kernel
theorem dX10_plainHeard_13 : decode cX10_plainHeard 13 = .ok (.invokevirtual 247, 3) := by decide +kernel
theorem dX10_plainHeard_16 : decode cX10_plainHeard 16 = .ok (.goto 4, 3) := by decide +kernel
theorem dX10_plainHeard_19 : decode cX10_plainHeard 19 = .ok (.iconst (-1), 1) := by decide +kernel
theorem dX10_plainHeard_20 : decode cX10_plainHeard 20 = .ok (.ireturn, 1) := by decide +kernel
theorem dX10_strays_0 : decode cX10_strays 0 = .ok (.aload_n 0, 1) := by decide +kernel
theorem dX10_strays_1 : decode cX10_strays 1 = .ok (.getfield 173, 3) := by decide +kernel
theorem dX10_strays_4 : decode cX10_strays 4 = .ok (.ireturn, 1) := by decide +kernel
theorem dL_law_0 : decode cL_law 0 = .ok (.new 7, 3) := by decide +kernel
theorem dL_law_3 : decode cL_law 3 = .ok (.dup, 1) := by decide +kernel
theorem dL_law_4 : decode cL_law 4 = .ok (.invokespecial 9, 3) := by decide +kernel
theorem dL_law_7 : decode cL_law 7 = .ok (.astore_n 1, 1) := by decide +kernel
theorem dL_law_8 : decode cL_law 8 = .ok (.new 10, 3) := by decide +kernel
theorem dL_law_11 : decode cL_law 11 = .ok (.dup, 1) := by decide +kernel
theorem dL_law_12 : decode cL_law 12 = .ok (.invokespecial 12, 3) := by decide +kernel
theorem dL_law_15 : decode cL_law 15 = .ok (.astore_n 2, 1) := by decide +kernel
theorem dL_law_16 : decode cL_law 16 = .ok (.iconst 0, 1) := by decide +kernel
theorem dL_law_17 : decode cL_law 17 = .ok (.istore_n 3, 1) := by decide +kernel
theorem dL_law_18 : decode cL_law 18 = .ok (.iload_n 3, 1) := by decide +kernel
theorem dL_law_19 : decode cL_law 19 = .ok (.aload_n 0, 1) := by decide +kernel
theorem dL_law_20 : decode cL_law 20 = .ok (.arraylength, 1) := by decide +kernel
theorem dL_law_21 : decode cL_law 21 = .ok (.bipush 6, 2) := by decide +kernel
theorem dL_law_23 : decode cL_law 23 = .ok (.isub, 1) := by decide +kernel
theorem dL_law_24 : decode cL_law 24 = .ok (.if_icmp .gt 674, 3) := by decide +kernel
theorem dL_law_27 : decode cL_law 27 = .ok (.aload_n 0, 1) := by decide +kernel
theorem dL_law_28 : decode cL_law 28 = .ok (.iload_n 3, 1) := by decide +kernel
theorem dL_law_29 : decode cL_law 29 = .ok (.iaload, 1) := by decide +kernel
theorem dL_law_30 : decode cL_law 30 = .ok (.bipush 31, 2) := by decide +kernel
theorem dL_law_32 : decode cL_law 32 = .ok (.iand, 1) := by decide +kernel
theorem dL_law_33 : decode cL_law 33 = .ok (.tableswitch 659 0 21 #[103, 166, 189, 252, 275, 288, 301, 324, 337, 360, 383, 396, 419, 432, 465, 498, 521, 544, 567, 590, 613, 646], 103) := by decide +kernel
theorem dL_law_136 : decode cL_law 136 = .ok (.aload_n 1, 1) := by decide +kernel
theorem dL_law_137 : decode cL_law 137 = .ok (.aload_n 0, 1) := by decide +kernel
theorem dL_law_138 : decode cL_law 138 = .ok (.iload_n 3, 1) := by decide +kernel
theorem dL_law_139 : decode cL_law 139 = .ok (.iconst 1, 1) := by decide +kernel
theorem dL_law_140 : decode cL_law 140 = .ok (.iadd, 1) := by decide +kernel
theorem dL_law_141 : decode cL_law 141 = .ok (.iaload, 1) := by decide +kernel
theorem dL_law_142 : decode cL_law 142 = .ok (.aload_n 0, 1) := by decide +kernel
theorem dL_law_143 : decode cL_law 143 = .ok (.iload_n 3, 1) := by decide +kernel
theorem dL_law_144 : decode cL_law 144 = .ok (.iconst 2, 1) := by decide +kernel
theorem dL_law_145 : decode cL_law 145 = .ok (.iadd, 1) := by decide +kernel
theorem dL_law_146 : decode cL_law 146 = .ok (.iaload, 1) := by decide +kernel
theorem dL_law_147 : decode cL_law 147 = .ok (.aload_n 0, 1) := by decide +kernel
theorem dL_law_148 : decode cL_law 148 = .ok (.iload_n 3, 1) := by decide +kernel
theorem dL_law_149 : decode cL_law 149 = .ok (.iconst 3, 1) := by decide +kernel
theorem dL_law_150 : decode cL_law 150 = .ok (.iadd, 1) := by decide +kernel
theorem dL_law_151 : decode cL_law 151 = .ok (.iaload, 1) := by decide +kernel
theorem dL_law_152 : decode cL_law 152 = .ok (.aload_n 0, 1) := by decide +kernel
theorem dL_law_153 : decode cL_law 153 = .ok (.iload_n 3, 1) := by decide +kernel
theorem dL_law_154 : decode cL_law 154 = .ok (.iconst 4, 1) := by decide +kernel
theorem dL_law_155 : decode cL_law 155 = .ok (.iadd, 1) := by decide +kernel
theorem dL_law_156 : decode cL_law 156 = .ok (.iaload, 1) := by decide +kernel
theorem dL_law_157 : decode cL_law 157 = .ok (.aload_n 0, 1) := by decide +kernel
theorem dL_law_158 : decode cL_law 158 = .ok (.iload_n 3, 1) := by decide +kernel
theorem dL_law_159 : decode cL_law 159 = .ok (.iconst 5, 1) := by decide +kernel
theorem dL_law_160 : decode cL_law 160 = .ok (.iadd, 1) := by decide +kernel
theorem dL_law_161 : decode cL_law 161 = .ok (.iaload, 1) := by decide +kernel
theorem dL_law_162 : decode cL_law 162 = .ok (.invokevirtual 13, 3) := by decide +kernel
theorem dL_law_165 : decode cL_law 165 = .ok (.aload_n 2, 1) := by decide +kernel
theorem dL_law_166 : decode cL_law 166 = .ok (.aload_n 0, 1) := by decide +kernel
theorem dL_law_167 : decode cL_law 167 = .ok (.iload_n 3, 1) := by decide +kernel
theorem dL_law_168 : decode cL_law 168 = .ok (.iconst 1, 1) := by decide +kernel
theorem dL_law_169 : decode cL_law 169 = .ok (.iadd, 1) := by decide +kernel
theorem dL_law_170 : decode cL_law 170 = .ok (.iaload, 1) := by decide +kernel
theorem dL_law_171 : decode cL_law 171 = .ok (.aload_n 0, 1) := by decide +kernel
theorem dL_law_172 : decode cL_law 172 = .ok (.iload_n 3, 1) := by decide +kernel
theorem dL_law_173 : decode cL_law 173 = .ok (.iconst 2, 1) := by decide +kernel
theorem dL_law_174 : decode cL_law 174 = .ok (.iadd, 1) := by decide +kernel
theorem dL_law_175 : decode cL_law 175 = .ok (.iaload, 1) := by decide +kernel
theorem dL_law_176 : decode cL_law 176 = .ok (.aload_n 0, 1) := by decide +kernel
theorem dL_law_177 : decode cL_law 177 = .ok (.iload_n 3, 1) := by decide +kernel
theorem dL_law_178 : decode cL_law 178 = .ok (.iconst 3, 1) := by decide +kernel
theorem dL_law_179 : decode cL_law 179 = .ok (.iadd, 1) := by decide +kernel
theorem dL_law_180 : decode cL_law 180 = .ok (.iaload, 1) := by decide +kernel
theorem dL_law_181 : decode cL_law 181 = .ok (.aload_n 0, 1) := by decide +kernel
theorem dL_law_182 : decode cL_law 182 = .ok (.iload_n 3, 1) := by decide +kernel
theorem dL_law_183 : decode cL_law 183 = .ok (.iconst 4, 1) := by decide +kernel
theorem dL_law_184 : decode cL_law 184 = .ok (.iadd, 1) := by decide +kernel
theorem dL_law_185 : decode cL_law 185 = .ok (.iaload, 1) := by decide +kernel
theorem dL_law_186 : decode cL_law 186 = .ok (.aload_n 0, 1) := by decide +kernel
theorem dL_law_187 : decode cL_law 187 = .ok (.iload_n 3, 1) := by decide +kernel
theorem dL_law_188 : decode cL_law 188 = .ok (.iconst 5, 1) := by decide +kernel
theorem dL_law_189 : decode cL_law 189 = .ok (.iadd, 1) := by decide +kernel
theorem dL_law_190 : decode cL_law 190 = .ok (.iaload, 1) := by decide +kernel
theorem dL_law_191 : decode cL_law 191 = .ok (.invokevirtual 17, 3) := by decide +kernel
theorem dL_law_194 : decode cL_law 194 = .ok (.if_icmp .eq 498, 3) := by decide +kernel
theorem dL_law_197 : decode cL_law 197 = .ok (.iconst 0, 1) := by decide +kernel
theorem dL_law_198 : decode cL_law 198 = .ok (.ireturn, 1) := by decide +kernel
theorem dL_law_199 : decode cL_law 199 = .ok (.aload_n 1, 1) := by decide +kernel
theorem dL_law_200 : decode cL_law 200 = .ok (.aload_n 0, 1) := by decide +kernel
theorem dL_law_201 : decode cL_law 201 = .ok (.iload_n 3, 1) := by decide +kernel
theorem dL_law_202 : decode cL_law 202 = .ok (.iconst 1, 1) := by decide +kernel
theorem dL_law_203 : decode cL_law 203 = .ok (.iadd, 1) := by decide +kernel
theorem dL_law_204 : decode cL_law 204 = .ok (.iaload, 1) := by decide +kernel
theorem dL_law_205 : decode cL_law 205 = .ok (.invokevirtual 18, 3) := by decide +kernel
theorem dL_law_208 : decode cL_law 208 = .ok (.aload_n 2, 1) := by decide +kernel
theorem dL_law_209 : decode cL_law 209 = .ok (.aload_n 0, 1) := by decide +kernel
theorem dL_law_210 : decode cL_law 210 = .ok (.iload_n 3, 1) := by decide +kernel
theorem dL_law_211 : decode cL_law 211 = .ok (.iconst 1, 1) := by decide +kernel
theorem dL_law_212 : decode cL_law 212 = .ok (.iadd, 1) := by decide +kernel
theorem dL_law_213 : decode cL_law 213 = .ok (.iaload, 1) := by decide +kernel
theorem dL_law_214 : decode cL_law 214 = .ok (.invokevirtual 22, 3) := by decide +kernel
theorem dL_law_217 : decode cL_law 217 = .ok (.if_icmp .eq 475, 3) := by decide +kernel
theorem dL_law_220 : decode cL_law 220 = .ok (.iconst 0, 1) := by decide +kernel
theorem dL_law_221 : decode cL_law 221 = .ok (.ireturn, 1) := by decide +kernel
theorem dL_law_222 : decode cL_law 222 = .ok (.aload_n 1, 1) := by decide +kernel
theorem dL_law_223 : decode cL_law 223 = .ok (.aload_n 0, 1) := by decide +kernel
theorem dL_law_224 : decode cL_law 224 = .ok (.iload_n 3, 1) := by decide +kernel
theorem dL_law_225 : decode cL_law 225 = .ok (.iconst 1, 1) := by decide +kernel
theorem dL_law_226 : decode cL_law 226 = .ok (.iadd, 1) := by decide +kernel
theorem dL_law_227 : decode cL_law 227 = .ok (.iaload, 1) := by decide +kernel
theorem dL_law_228 : decode cL_law 228 = .ok (.aload_n 0, 1) := by decide +kernel
theorem dL_law_229 : decode cL_law 229 = .ok (.iload_n 3, 1) := by decide +kernel
theorem dL_law_230 : decode cL_law 230 = .ok (.iconst 2, 1) := by decide +kernel
theorem dL_law_231 : decode cL_law 231 = .ok (.iadd, 1) := by decide +kernel
theorem dL_law_232 : decode cL_law 232 = .ok (.iaload, 1) := by decide +kernel
theorem dL_law_233 : decode cL_law 233 = .ok (.aload_n 0, 1) := by decide +kernel
theorem dL_law_234 : decode cL_law 234 = .ok (.iload_n 3, 1) := by decide +kernel
theorem dL_law_235 : decode cL_law 235 = .ok (.iconst 3, 1) := by decide +kernel
theorem dL_law_236 : decode cL_law 236 = .ok (.iadd, 1) := by decide +kernel
theorem dL_law_237 : decode cL_law 237 = .ok (.iaload, 1) := by decide +kernel
theorem dL_law_238 : decode cL_law 238 = .ok (.aload_n 0, 1) := by decide +kernel
theorem dL_law_239 : decode cL_law 239 = .ok (.iload_n 3, 1) := by decide +kernel
theorem dL_law_240 : decode cL_law 240 = .ok (.iconst 4, 1) := by decide +kernel
theorem dL_law_241 : decode cL_law 241 = .ok (.iadd, 1) := by decide +kernel
theorem dL_law_242 : decode cL_law 242 = .ok (.iaload, 1) := by decide +kernel
theorem dL_law_243 : decode cL_law 243 = .ok (.aload_n 0, 1) := by decide +kernel
theorem dL_law_244 : decode cL_law 244 = .ok (.iload_n 3, 1) := by decide +kernel
theorem dL_law_245 : decode cL_law 245 = .ok (.iconst 5, 1) := by decide +kernel
theorem dL_law_246 : decode cL_law 246 = .ok (.iadd, 1) := by decide +kernel
theorem dL_law_247 : decode cL_law 247 = .ok (.iaload, 1) := by decide +kernel
theorem dL_law_248 : decode cL_law 248 = .ok (.invokevirtual 23, 3) := by decide +kernel
theorem dL_law_251 : decode cL_law 251 = .ok (.aload_n 2, 1) := by decide +kernel
theorem dL_law_252 : decode cL_law 252 = .ok (.aload_n 0, 1) := by decide +kernel
theorem dL_law_253 : decode cL_law 253 = .ok (.iload_n 3, 1) := by decide +kernel
theorem dL_law_254 : decode cL_law 254 = .ok (.iconst 1, 1) := by decide +kernel
theorem dL_law_255 : decode cL_law 255 = .ok (.iadd, 1) := by decide +kernel
theorem dL_law_256 : decode cL_law 256 = .ok (.iaload, 1) := by decide +kernel
theorem dL_law_257 : decode cL_law 257 = .ok (.aload_n 0, 1) := by decide +kernel
theorem dL_law_258 : decode cL_law 258 = .ok (.iload_n 3, 1) := by decide +kernel
theorem dL_law_259 : decode cL_law 259 = .ok (.iconst 2, 1) := by decide +kernel
theorem dL_law_260 : decode cL_law 260 = .ok (.iadd, 1) := by decide +kernel
theorem dL_law_261 : decode cL_law 261 = .ok (.iaload, 1) := by decide +kernel
theorem dL_law_262 : decode cL_law 262 = .ok (.aload_n 0, 1) := by decide +kernel
theorem dL_law_263 : decode cL_law 263 = .ok (.iload_n 3, 1) := by decide +kernel
theorem dL_law_264 : decode cL_law 264 = .ok (.iconst 3, 1) := by decide +kernel
theorem dL_law_265 : decode cL_law 265 = .ok (.iadd, 1) := by decide +kernel
theorem dL_law_266 : decode cL_law 266 = .ok (.iaload, 1) := by decide +kernel
theorem dL_law_267 : decode cL_law 267 = .ok (.aload_n 0, 1) := by decide +kernel
theorem dL_law_268 : decode cL_law 268 = .ok (.iload_n 3, 1) := by decide +kernel
theorem dL_law_269 : decode cL_law 269 = .ok (.iconst 4, 1) := by decide +kernel
theorem dL_law_270 : decode cL_law 270 = .ok (.iadd, 1) := by decide +kernel
theorem dL_law_271 : decode cL_law 271 = .ok (.iaload, 1) := by decide +kernel
theorem dL_law_272 : decode cL_law 272 = .ok (.aload_n 0, 1) := by decide +kernel
theorem dL_law_273 : decode cL_law 273 = .ok (.iload_n 3, 1) := by decide +kernel
theorem dL_law_274 : decode cL_law 274 = .ok (.iconst 5, 1) := by decide +kernel
theorem dL_law_275 : decode cL_law 275 = .ok (.iadd, 1) := by decide +kernel
theorem dL_law_276 : decode cL_law 276 = .ok (.iaload, 1) := by decide +kernel
theorem dL_law_277 : decode cL_law 277 = .ok (.invokevirtual 26, 3) := by decide +kernel
theorem dL_law_280 : decode cL_law 280 = .ok (.if_icmp .eq 412, 3) := by decide +kernel
theorem dL_law_283 : decode cL_law 283 = .ok (.iconst 0, 1) := by decide +kernel
theorem dL_law_284 : decode cL_law 284 = .ok (.ireturn, 1) := by decide +kernel
theorem dL_law_285 : decode cL_law 285 = .ok (.aload_n 1, 1) := by decide +kernel
theorem dL_law_286 : decode cL_law 286 = .ok (.aload_n 0, 1) := by decide +kernel
theorem dL_law_287 : decode cL_law 287 = .ok (.iload_n 3, 1) := by decide +kernel
theorem dL_law_288 : decode cL_law 288 = .ok (.iconst 1, 1) := by decide +kernel
theorem dL_law_289 : decode cL_law 289 = .ok (.iadd, 1) := by decide +kernel
theorem dL_law_290 : decode cL_law 290 = .ok (.iaload, 1) := by decide +kernel
theorem dL_law_291 : decode cL_law 291 = .ok (.invokevirtual 27, 3) := by decide +kernel
theorem dL_law_294 : decode cL_law 294 = .ok (.aload_n 2, 1) := by decide +kernel
theorem dL_law_295 : decode cL_law 295 = .ok (.aload_n 0, 1) := by decide +kernel
theorem dL_law_296 : decode cL_law 296 = .ok (.iload_n 3, 1) := by decide +kernel
theorem dL_law_297 : decode cL_law 297 = .ok (.iconst 1, 1) := by decide +kernel
theorem dL_law_298 : decode cL_law 298 = .ok (.iadd, 1) := by decide +kernel
theorem dL_law_299 : decode cL_law 299 = .ok (.iaload, 1) := by decide +kernel
theorem dL_law_300 : decode cL_law 300 = .ok (.invokevirtual 31, 3) := by decide +kernel
theorem dL_law_303 : decode cL_law 303 = .ok (.if_icmp .eq 389, 3) := by decide +kernel
theorem dL_law_306 : decode cL_law 306 = .ok (.iconst 0, 1) := by decide +kernel
theorem dL_law_307 : decode cL_law 307 = .ok (.ireturn, 1) := by decide +kernel
theorem dL_law_308 : decode cL_law 308 = .ok (.aload_n 1, 1) := by decide +kernel
theorem dL_law_309 : decode cL_law 309 = .ok (.invokevirtual 32, 3) := by decide +kernel
theorem dL_law_312 : decode cL_law 312 = .ok (.aload_n 2, 1) := by decide +kernel
theorem dL_law_313 : decode cL_law 313 = .ok (.invokevirtual 36, 3) := by decide +kernel
theorem dL_law_316 : decode cL_law 316 = .ok (.if_icmp .eq 376, 3) := by decide +kernel
theorem dL_law_319 : decode cL_law 319 = .ok (.iconst 0, 1) := by decide +kernel
theorem dL_law_320 : decode cL_law 320 = .ok (.ireturn, 1) := by decide +kernel
theorem dL_law_321 : decode cL_law 321 = .ok (.aload_n 1, 1) := by decide +kernel
theorem dL_law_322 : decode cL_law 322 = .ok (.invokevirtual 37, 3) := by decide +kernel
theorem dL_law_325 : decode cL_law 325 = .ok (.aload_n 2, 1) := by decide +kernel
theorem dL_law_326 : decode cL_law 326 = .ok (.invokevirtual 40, 3) := by decide +kernel
theorem dL_law_329 : decode cL_law 329 = .ok (.if_icmp .eq 363, 3) := by decide +kernel
theorem dL_law_332 : decode cL_law 332 = .ok (.iconst 0, 1) := by decide +kernel
theorem dL_law_333 : decode cL_law 333 = .ok (.ireturn, 1) := by decide +kernel
theorem dL_law_334 : decode cL_law 334 = .ok (.aload_n 1, 1) := by decide +kernel
theorem dL_law_335 : decode cL_law 335 = .ok (.aload_n 0, 1) := by decide +kernel
theorem dL_law_336 : decode cL_law 336 = .ok (.iload_n 3, 1) := by decide +kernel
theorem dL_law_337 : decode cL_law 337 = .ok (.iconst 1, 1) := by decide +kernel
theorem dL_law_338 : decode cL_law 338 = .ok (.iadd, 1) := by decide +kernel
theorem dL_law_339 : decode cL_law 339 = .ok (.iaload, 1) := by decide +kernel
theorem dL_law_340 : decode cL_law 340 = .ok (.invokevirtual 41, 3) := by decide +kernel
theorem dL_law_343 : decode cL_law 343 = .ok (.aload_n 2, 1) := by decide +kernel
theorem dL_law_344 : decode cL_law 344 = .ok (.aload_n 0, 1) := by decide +kernel
theorem dL_law_345 : decode cL_law 345 = .ok (.iload_n 3, 1) := by decide +kernel
theorem dL_law_346 : decode cL_law 346 = .ok (.iconst 1, 1) := by decide +kernel
theorem dL_law_347 : decode cL_law 347 = .ok (.iadd, 1) := by decide +kernel
theorem dL_law_348 : decode cL_law 348 = .ok (.iaload, 1) := by decide +kernel
theorem dL_law_349 : decode cL_law 349 = .ok (.invokevirtual 44, 3) := by decide +kernel
theorem dL_law_352 : decode cL_law 352 = .ok (.if_icmp .eq 340, 3) := by decide +kernel
theorem dL_law_355 : decode cL_law 355 = .ok (.iconst 0, 1) := by decide +kernel
theorem dL_law_356 : decode cL_law 356 = .ok (.ireturn, 1) := by decide +kernel
theorem dL_law_357 : decode cL_law 357 = .ok (.aload_n 1, 1) := by decide +kernel
theorem dL_law_358 : decode cL_law 358 = .ok (.invokevirtual 45, 3) := by decide +kernel
theorem dL_law_361 : decode cL_law 361 = .ok (.aload_n 2, 1) := by decide +kernel
theorem dL_law_362 : decode cL_law 362 = .ok (.invokevirtual 49, 3) := by decide +kernel
theorem dL_law_365 : decode cL_law 365 = .ok (.if_icmp .eq 327, 3) := by decide +kernel
theorem dL_law_368 : decode cL_law 368 = .ok (.iconst 0, 1) := by decide +kernel
theorem dL_law_369 : decode cL_law 369 = .ok (.ireturn, 1) := by decide +kernel
theorem dL_law_370 : decode cL_law 370 = .ok (.aload_n 1, 1) := by decide +kernel
theorem dL_law_371 : decode cL_law 371 = .ok (.aload_n 0, 1) := by decide +kernel
theorem dL_law_372 : decode cL_law 372 = .ok (.iload_n 3, 1) := by decide +kernel
theorem dL_law_373 : decode cL_law 373 = .ok (.iconst 1, 1) := by decide +kernel
theorem dL_law_374 : decode cL_law 374 = .ok (.iadd, 1) := by decide +kernel
theorem dL_law_375 : decode cL_law 375 = .ok (.iaload, 1) := by decide +kernel
theorem dL_law_376 : decode cL_law 376 = .ok (.invokevirtual 50, 3) := by decide +kernel
theorem dL_law_379 : decode cL_law 379 = .ok (.aload_n 2, 1) := by decide +kernel
theorem dL_law_380 : decode cL_law 380 = .ok (.aload_n 0, 1) := by decide +kernel
theorem dL_law_381 : decode cL_law 381 = .ok (.iload_n 3, 1) := by decide +kernel
theorem dL_law_382 : decode cL_law 382 = .ok (.iconst 1, 1) := by decide +kernel
theorem dL_law_383 : decode cL_law 383 = .ok (.iadd, 1) := by decide +kernel
theorem dL_law_384 : decode cL_law 384 = .ok (.iaload, 1) := by decide +kernel
theorem dL_law_385 : decode cL_law 385 = .ok (.invokevirtual 53, 3) := by decide +kernel
theorem dL_law_388 : decode cL_law 388 = .ok (.if_icmp .eq 304, 3) := by decide +kernel
theorem dL_law_391 : decode cL_law 391 = .ok (.iconst 0, 1) := by decide +kernel
theorem dL_law_392 : decode cL_law 392 = .ok (.ireturn, 1) := by decide +kernel
theorem dL_law_393 : decode cL_law 393 = .ok (.aload_n 1, 1) := by decide +kernel
theorem dL_law_394 : decode cL_law 394 = .ok (.aload_n 0, 1) := by decide +kernel
theorem dL_law_395 : decode cL_law 395 = .ok (.iload_n 3, 1) := by decide +kernel
theorem dL_law_396 : decode cL_law 396 = .ok (.iconst 1, 1) := by decide +kernel
theorem dL_law_397 : decode cL_law 397 = .ok (.iadd, 1) := by decide +kernel
theorem dL_law_398 : decode cL_law 398 = .ok (.iaload, 1) := by decide +kernel
theorem dL_law_399 : decode cL_law 399 = .ok (.invokevirtual 54, 3) := by decide +kernel
theorem dL_law_402 : decode cL_law 402 = .ok (.aload_n 2, 1) := by decide +kernel
theorem dL_law_403 : decode cL_law 403 = .ok (.aload_n 0, 1) := by decide +kernel
theorem dL_law_404 : decode cL_law 404 = .ok (.iload_n 3, 1) := by decide +kernel
theorem dL_law_405 : decode cL_law 405 = .ok (.iconst 1, 1) := by decide +kernel
theorem dL_law_406 : decode cL_law 406 = .ok (.iadd, 1) := by decide +kernel
theorem dL_law_407 : decode cL_law 407 = .ok (.iaload, 1) := by decide +kernel
theorem dL_law_408 : decode cL_law 408 = .ok (.invokevirtual 57, 3) := by decide +kernel
theorem dL_law_411 : decode cL_law 411 = .ok (.if_icmp .eq 281, 3) := by decide +kernel
theorem dL_law_414 : decode cL_law 414 = .ok (.iconst 0, 1) := by decide +kernel
theorem dL_law_415 : decode cL_law 415 = .ok (.ireturn, 1) := by decide +kernel
theorem dL_law_416 : decode cL_law 416 = .ok (.aload_n 1, 1) := by decide +kernel
theorem dL_law_417 : decode cL_law 417 = .ok (.invokevirtual 58, 3) := by decide +kernel
theorem dL_law_420 : decode cL_law 420 = .ok (.aload_n 2, 1) := by decide +kernel
theorem dL_law_421 : decode cL_law 421 = .ok (.invokevirtual 61, 3) := by decide +kernel
theorem dL_law_424 : decode cL_law 424 = .ok (.if_icmp .eq 268, 3) := by decide +kernel
theorem dL_law_427 : decode cL_law 427 = .ok (.iconst 0, 1) := by decide +kernel
theorem dL_law_428 : decode cL_law 428 = .ok (.ireturn, 1) := by decide +kernel
theorem dL_law_429 : decode cL_law 429 = .ok (.aload_n 1, 1) := by decide +kernel
theorem dL_law_430 : decode cL_law 430 = .ok (.aload_n 0, 1) := by decide +kernel
theorem dL_law_431 : decode cL_law 431 = .ok (.iload_n 3, 1) := by decide +kernel
theorem dL_law_432 : decode cL_law 432 = .ok (.iconst 1, 1) := by decide +kernel
theorem dL_law_433 : decode cL_law 433 = .ok (.iadd, 1) := by decide +kernel
theorem dL_law_434 : decode cL_law 434 = .ok (.iaload, 1) := by decide +kernel
theorem dL_law_435 : decode cL_law 435 = .ok (.invokevirtual 62, 3) := by decide +kernel
theorem dL_law_438 : decode cL_law 438 = .ok (.aload_n 2, 1) := by decide +kernel
theorem dL_law_439 : decode cL_law 439 = .ok (.aload_n 0, 1) := by decide +kernel
theorem dL_law_440 : decode cL_law 440 = .ok (.iload_n 3, 1) := by decide +kernel
theorem dL_law_441 : decode cL_law 441 = .ok (.iconst 1, 1) := by decide +kernel
theorem dL_law_442 : decode cL_law 442 = .ok (.iadd, 1) := by decide +kernel
theorem dL_law_443 : decode cL_law 443 = .ok (.iaload, 1) := by decide +kernel
theorem dL_law_444 : decode cL_law 444 = .ok (.invokevirtual 65, 3) := by decide +kernel
theorem dL_law_447 : decode cL_law 447 = .ok (.if_icmp .eq 245, 3) := by decide +kernel
theorem dL_law_450 : decode cL_law 450 = .ok (.iconst 0, 1) := by decide +kernel
theorem dL_law_451 : decode cL_law 451 = .ok (.ireturn, 1) := by decide +kernel
theorem dL_law_452 : decode cL_law 452 = .ok (.aload_n 1, 1) := by decide +kernel
theorem dL_law_453 : decode cL_law 453 = .ok (.invokevirtual 66, 3) := by decide +kernel
theorem dL_law_456 : decode cL_law 456 = .ok (.aload_n 2, 1) := by decide +kernel
theorem dL_law_457 : decode cL_law 457 = .ok (.invokevirtual 69, 3) := by decide +kernel
theorem dL_law_460 : decode cL_law 460 = .ok (.if_icmp .eq 232, 3) := by decide +kernel
theorem dL_law_463 : decode cL_law 463 = .ok (.iconst 0, 1) := by decide +kernel
theorem dL_law_464 : decode cL_law 464 = .ok (.ireturn, 1) := by decide +kernel
theorem dL_law_465 : decode cL_law 465 = .ok (.aload_n 1, 1) := by decide +kernel
theorem dL_law_466 : decode cL_law 466 = .ok (.aload_n 0, 1) := by decide +kernel
theorem dL_law_467 : decode cL_law 467 = .ok (.iload_n 3, 1) := by decide +kernel
theorem dL_law_468 : decode cL_law 468 = .ok (.iconst 1, 1) := by decide +kernel
theorem dL_law_469 : decode cL_law 469 = .ok (.iadd, 1) := by decide +kernel
theorem dL_law_470 : decode cL_law 470 = .ok (.iaload, 1) := by decide +kernel
theorem dL_law_471 : decode cL_law 471 = .ok (.aload_n 0, 1) := by decide +kernel
theorem dL_law_472 : decode cL_law 472 = .ok (.iload_n 3, 1) := by decide +kernel
theorem dL_law_473 : decode cL_law 473 = .ok (.iconst 2, 1) := by decide +kernel
theorem dL_law_474 : decode cL_law 474 = .ok (.iadd, 1) := by decide +kernel
theorem dL_law_475 : decode cL_law 475 = .ok (.iaload, 1) := by decide +kernel
theorem dL_law_476 : decode cL_law 476 = .ok (.invokevirtual 70, 3) := by decide +kernel
theorem dL_law_479 : decode cL_law 479 = .ok (.aload_n 2, 1) := by decide +kernel
theorem dL_law_480 : decode cL_law 480 = .ok (.aload_n 0, 1) := by decide +kernel
theorem dL_law_481 : decode cL_law 481 = .ok (.iload_n 3, 1) := by decide +kernel
theorem dL_law_482 : decode cL_law 482 = .ok (.iconst 1, 1) := by decide +kernel
theorem dL_law_483 : decode cL_law 483 = .ok (.iadd, 1) := by decide +kernel
theorem dL_law_484 : decode cL_law 484 = .ok (.iaload, 1) := by decide +kernel
theorem dL_law_485 : decode cL_law 485 = .ok (.aload_n 0, 1) := by decide +kernel
theorem dL_law_486 : decode cL_law 486 = .ok (.iload_n 3, 1) := by decide +kernel
theorem dL_law_487 : decode cL_law 487 = .ok (.iconst 2, 1) := by decide +kernel
theorem dL_law_488 : decode cL_law 488 = .ok (.iadd, 1) := by decide +kernel
theorem dL_law_489 : decode cL_law 489 = .ok (.iaload, 1) := by decide +kernel
theorem dL_law_490 : decode cL_law 490 = .ok (.invokevirtual 74, 3) := by decide +kernel
theorem dL_law_493 : decode cL_law 493 = .ok (.if_icmp .eq 199, 3) := by decide +kernel
theorem dL_law_496 : decode cL_law 496 = .ok (.iconst 0, 1) := by decide +kernel
theorem dL_law_497 : decode cL_law 497 = .ok (.ireturn, 1) := by decide +kernel
theorem dL_law_498 : decode cL_law 498 = .ok (.aload_n 1, 1) := by decide +kernel
theorem dL_law_499 : decode cL_law 499 = .ok (.aload_n 0, 1) := by decide +kernel
theorem dL_law_500 : decode cL_law 500 = .ok (.iload_n 3, 1) := by decide +kernel
theorem dL_law_501 : decode cL_law 501 = .ok (.iconst 1, 1) := by decide +kernel
theorem dL_law_502 : decode cL_law 502 = .ok (.iadd, 1) := by decide +kernel
theorem dL_law_503 : decode cL_law 503 = .ok (.iaload, 1) := by decide +kernel
theorem dL_law_504 : decode cL_law 504 = .ok (.aload_n 0, 1) := by decide +kernel
theorem dL_law_505 : decode cL_law 505 = .ok (.iload_n 3, 1) := by decide +kernel
theorem dL_law_506 : decode cL_law 506 = .ok (.iconst 2, 1) := by decide +kernel
theorem dL_law_507 : decode cL_law 507 = .ok (.iadd, 1) := by decide +kernel
theorem dL_law_508 : decode cL_law 508 = .ok (.iaload, 1) := by decide +kernel
theorem dL_law_509 : decode cL_law 509 = .ok (.invokevirtual 75, 3) := by decide +kernel
theorem dL_law_512 : decode cL_law 512 = .ok (.aload_n 2, 1) := by decide +kernel
theorem dL_law_513 : decode cL_law 513 = .ok (.aload_n 0, 1) := by decide +kernel
theorem dL_law_514 : decode cL_law 514 = .ok (.iload_n 3, 1) := by decide +kernel
theorem dL_law_515 : decode cL_law 515 = .ok (.iconst 1, 1) := by decide +kernel
theorem dL_law_516 : decode cL_law 516 = .ok (.iadd, 1) := by decide +kernel
theorem dL_law_517 : decode cL_law 517 = .ok (.iaload, 1) := by decide +kernel
theorem dL_law_518 : decode cL_law 518 = .ok (.aload_n 0, 1) := by decide +kernel
theorem dL_law_519 : decode cL_law 519 = .ok (.iload_n 3, 1) := by decide +kernel
theorem dL_law_520 : decode cL_law 520 = .ok (.iconst 2, 1) := by decide +kernel
theorem dL_law_521 : decode cL_law 521 = .ok (.iadd, 1) := by decide +kernel
theorem dL_law_522 : decode cL_law 522 = .ok (.iaload, 1) := by decide +kernel
theorem dL_law_523 : decode cL_law 523 = .ok (.invokevirtual 78, 3) := by decide +kernel
theorem dL_law_526 : decode cL_law 526 = .ok (.if_icmp .eq 166, 3) := by decide +kernel
theorem dL_law_529 : decode cL_law 529 = .ok (.iconst 0, 1) := by decide +kernel
theorem dL_law_530 : decode cL_law 530 = .ok (.ireturn, 1) := by decide +kernel
theorem dL_law_531 : decode cL_law 531 = .ok (.aload_n 1, 1) := by decide +kernel
theorem dL_law_532 : decode cL_law 532 = .ok (.aload_n 0, 1) := by decide +kernel
theorem dL_law_533 : decode cL_law 533 = .ok (.iload_n 3, 1) := by decide +kernel
theorem dL_law_534 : decode cL_law 534 = .ok (.iconst 1, 1) := by decide +kernel
theorem dL_law_535 : decode cL_law 535 = .ok (.iadd, 1) := by decide +kernel
theorem dL_law_536 : decode cL_law 536 = .ok (.iaload, 1) := by decide +kernel
theorem dL_law_537 : decode cL_law 537 = .ok (.invokevirtual 79, 3) := by decide +kernel
theorem dL_law_540 : decode cL_law 540 = .ok (.aload_n 2, 1) := by decide +kernel
theorem dL_law_541 : decode cL_law 541 = .ok (.aload_n 0, 1) := by decide +kernel
theorem dL_law_542 : decode cL_law 542 = .ok (.iload_n 3, 1) := by decide +kernel
theorem dL_law_543 : decode cL_law 543 = .ok (.iconst 1, 1) := by decide +kernel
theorem dL_law_544 : decode cL_law 544 = .ok (.iadd, 1) := by decide +kernel
theorem dL_law_545 : decode cL_law 545 = .ok (.iaload, 1) := by decide +kernel
theorem dL_law_546 : decode cL_law 546 = .ok (.invokevirtual 82, 3) := by decide +kernel
theorem dL_law_549 : decode cL_law 549 = .ok (.if_icmp .eq 143, 3) := by decide +kernel
theorem dL_law_552 : decode cL_law 552 = .ok (.iconst 0, 1) := by decide +kernel
theorem dL_law_553 : decode cL_law 553 = .ok (.ireturn, 1) := by decide +kernel
theorem dL_law_554 : decode cL_law 554 = .ok (.aload_n 1, 1) := by decide +kernel
theorem dL_law_555 : decode cL_law 555 = .ok (.aload_n 0, 1) := by decide +kernel
theorem dL_law_556 : decode cL_law 556 = .ok (.iload_n 3, 1) := by decide +kernel
theorem dL_law_557 : decode cL_law 557 = .ok (.iconst 1, 1) := by decide +kernel
theorem dL_law_558 : decode cL_law 558 = .ok (.iadd, 1) := by decide +kernel
theorem dL_law_559 : decode cL_law 559 = .ok (.iaload, 1) := by decide +kernel
theorem dL_law_560 : decode cL_law 560 = .ok (.invokevirtual 83, 3) := by decide +kernel
theorem dL_law_563 : decode cL_law 563 = .ok (.aload_n 2, 1) := by decide +kernel
theorem dL_law_564 : decode cL_law 564 = .ok (.aload_n 0, 1) := by decide +kernel
theorem dL_law_565 : decode cL_law 565 = .ok (.iload_n 3, 1) := by decide +kernel
theorem dL_law_566 : decode cL_law 566 = .ok (.iconst 1, 1) := by decide +kernel
theorem dL_law_567 : decode cL_law 567 = .ok (.iadd, 1) := by decide +kernel
theorem dL_law_568 : decode cL_law 568 = .ok (.iaload, 1) := by decide +kernel
theorem dL_law_569 : decode cL_law 569 = .ok (.invokevirtual 86, 3) := by decide +kernel
theorem dL_law_572 : decode cL_law 572 = .ok (.if_icmp .eq 120, 3) := by decide +kernel
theorem dL_law_575 : decode cL_law 575 = .ok (.iconst 0, 1) := by decide +kernel
theorem dL_law_576 : decode cL_law 576 = .ok (.ireturn, 1) := by decide +kernel
theorem dL_law_577 : decode cL_law 577 = .ok (.aload_n 1, 1) := by decide +kernel
theorem dL_law_578 : decode cL_law 578 = .ok (.aload_n 0, 1) := by decide +kernel
theorem dL_law_579 : decode cL_law 579 = .ok (.iload_n 3, 1) := by decide +kernel
theorem dL_law_580 : decode cL_law 580 = .ok (.iconst 1, 1) := by decide +kernel
theorem dL_law_581 : decode cL_law 581 = .ok (.iadd, 1) := by decide +kernel
theorem dL_law_582 : decode cL_law 582 = .ok (.iaload, 1) := by decide +kernel
theorem dL_law_583 : decode cL_law 583 = .ok (.invokevirtual 87, 3) := by decide +kernel
theorem dL_law_586 : decode cL_law 586 = .ok (.aload_n 2, 1) := by decide +kernel
theorem dL_law_587 : decode cL_law 587 = .ok (.aload_n 0, 1) := by decide +kernel
theorem dL_law_588 : decode cL_law 588 = .ok (.iload_n 3, 1) := by decide +kernel
theorem dL_law_589 : decode cL_law 589 = .ok (.iconst 1, 1) := by decide +kernel
theorem dL_law_590 : decode cL_law 590 = .ok (.iadd, 1) := by decide +kernel
theorem dL_law_591 : decode cL_law 591 = .ok (.iaload, 1) := by decide +kernel
theorem dL_law_592 : decode cL_law 592 = .ok (.invokevirtual 90, 3) := by decide +kernel
theorem dL_law_595 : decode cL_law 595 = .ok (.if_icmp .eq 97, 3) := by decide +kernel
theorem dL_law_598 : decode cL_law 598 = .ok (.iconst 0, 1) := by decide +kernel
theorem dL_law_599 : decode cL_law 599 = .ok (.ireturn, 1) := by decide +kernel
theorem dL_law_600 : decode cL_law 600 = .ok (.aload_n 1, 1) := by decide +kernel
theorem dL_law_601 : decode cL_law 601 = .ok (.aload_n 0, 1) := by decide +kernel
theorem dL_law_602 : decode cL_law 602 = .ok (.iload_n 3, 1) := by decide +kernel
theorem dL_law_603 : decode cL_law 603 = .ok (.iconst 1, 1) := by decide +kernel
theorem dL_law_604 : decode cL_law 604 = .ok (.iadd, 1) := by decide +kernel
theorem dL_law_605 : decode cL_law 605 = .ok (.iaload, 1) := by decide +kernel
theorem dL_law_606 : decode cL_law 606 = .ok (.invokevirtual 91, 3) := by decide +kernel
theorem dL_law_609 : decode cL_law 609 = .ok (.aload_n 2, 1) := by decide +kernel
theorem dL_law_610 : decode cL_law 610 = .ok (.aload_n 0, 1) := by decide +kernel
theorem dL_law_611 : decode cL_law 611 = .ok (.iload_n 3, 1) := by decide +kernel
theorem dL_law_612 : decode cL_law 612 = .ok (.iconst 1, 1) := by decide +kernel
theorem dL_law_613 : decode cL_law 613 = .ok (.iadd, 1) := by decide +kernel
theorem dL_law_614 : decode cL_law 614 = .ok (.iaload, 1) := by decide +kernel
theorem dL_law_615 : decode cL_law 615 = .ok (.invokevirtual 94, 3) := by decide +kernel
theorem dL_law_618 : decode cL_law 618 = .ok (.if_icmp .eq 74, 3) := by decide +kernel
theorem dL_law_621 : decode cL_law 621 = .ok (.iconst 0, 1) := by decide +kernel
theorem dL_law_622 : decode cL_law 622 = .ok (.ireturn, 1) := by decide +kernel
theorem dL_law_623 : decode cL_law 623 = .ok (.aload_n 1, 1) := by decide +kernel
theorem dL_law_624 : decode cL_law 624 = .ok (.aload_n 0, 1) := by decide +kernel
theorem dL_law_625 : decode cL_law 625 = .ok (.iload_n 3, 1) := by decide +kernel
theorem dL_law_626 : decode cL_law 626 = .ok (.iconst 1, 1) := by decide +kernel
theorem dL_law_627 : decode cL_law 627 = .ok (.iadd, 1) := by decide +kernel
theorem dL_law_628 : decode cL_law 628 = .ok (.iaload, 1) := by decide +kernel
theorem dL_law_629 : decode cL_law 629 = .ok (.invokevirtual 95, 3) := by decide +kernel
theorem dL_law_632 : decode cL_law 632 = .ok (.aload_n 2, 1) := by decide +kernel
theorem dL_law_633 : decode cL_law 633 = .ok (.aload_n 0, 1) := by decide +kernel
theorem dL_law_634 : decode cL_law 634 = .ok (.iload_n 3, 1) := by decide +kernel
theorem dL_law_635 : decode cL_law 635 = .ok (.iconst 1, 1) := by decide +kernel
theorem dL_law_636 : decode cL_law 636 = .ok (.iadd, 1) := by decide +kernel
theorem dL_law_637 : decode cL_law 637 = .ok (.iaload, 1) := by decide +kernel
theorem dL_law_638 : decode cL_law 638 = .ok (.invokevirtual 98, 3) := by decide +kernel
theorem dL_law_641 : decode cL_law 641 = .ok (.if_icmp .eq 51, 3) := by decide +kernel
theorem dL_law_644 : decode cL_law 644 = .ok (.iconst 0, 1) := by decide +kernel
theorem dL_law_645 : decode cL_law 645 = .ok (.ireturn, 1) := by decide +kernel
theorem dL_law_646 : decode cL_law 646 = .ok (.aload_n 1, 1) := by decide +kernel
theorem dL_law_647 : decode cL_law 647 = .ok (.aload_n 0, 1) := by decide +kernel
theorem dL_law_648 : decode cL_law 648 = .ok (.iload_n 3, 1) := by decide +kernel
theorem dL_law_649 : decode cL_law 649 = .ok (.iconst 1, 1) := by decide +kernel
theorem dL_law_650 : decode cL_law 650 = .ok (.iadd, 1) := by decide +kernel
theorem dL_law_651 : decode cL_law 651 = .ok (.iaload, 1) := by decide +kernel
theorem dL_law_652 : decode cL_law 652 = .ok (.aload_n 0, 1) := by decide +kernel
theorem dL_law_653 : decode cL_law 653 = .ok (.iload_n 3, 1) := by decide +kernel
theorem dL_law_654 : decode cL_law 654 = .ok (.iconst 2, 1) := by decide +kernel
theorem dL_law_655 : decode cL_law 655 = .ok (.iadd, 1) := by decide +kernel
theorem dL_law_656 : decode cL_law 656 = .ok (.iaload, 1) := by decide +kernel
theorem dL_law_657 : decode cL_law 657 = .ok (.invokevirtual 99, 3) := by decide +kernel
theorem dL_law_660 : decode cL_law 660 = .ok (.aload_n 2, 1) := by decide +kernel
theorem dL_law_661 : decode cL_law 661 = .ok (.aload_n 0, 1) := by decide +kernel
theorem dL_law_662 : decode cL_law 662 = .ok (.iload_n 3, 1) := by decide +kernel
theorem dL_law_663 : decode cL_law 663 = .ok (.iconst 1, 1) := by decide +kernel
theorem dL_law_664 : decode cL_law 664 = .ok (.iadd, 1) := by decide +kernel
theorem dL_law_665 : decode cL_law 665 = .ok (.iaload, 1) := by decide +kernel
theorem dL_law_666 : decode cL_law 666 = .ok (.aload_n 0, 1) := by decide +kernel
theorem dL_law_667 : decode cL_law 667 = .ok (.iload_n 3, 1) := by decide +kernel
theorem dL_law_668 : decode cL_law 668 = .ok (.iconst 2, 1) := by decide +kernel
theorem dL_law_669 : decode cL_law 669 = .ok (.iadd, 1) := by decide +kernel
theorem dL_law_670 : decode cL_law 670 = .ok (.iaload, 1) := by decide +kernel
theorem dL_law_671 : decode cL_law 671 = .ok (.invokevirtual 102, 3) := by decide +kernel
theorem dL_law_674 : decode cL_law 674 = .ok (.if_icmp .eq 18, 3) := by decide +kernel
theorem dL_law_677 : decode cL_law 677 = .ok (.iconst 0, 1) := by decide +kernel
theorem dL_law_678 : decode cL_law 678 = .ok (.ireturn, 1) := by decide +kernel
theorem dL_law_679 : decode cL_law 679 = .ok (.aload_n 1, 1) := by decide +kernel
theorem dL_law_680 : decode cL_law 680 = .ok (.invokevirtual 103, 3) := by decide +kernel
theorem dL_law_683 : decode cL_law 683 = .ok (.aload_n 2, 1) := by decide +kernel
theorem dL_law_684 : decode cL_law 684 = .ok (.invokevirtual 106, 3) := by decide +kernel
theorem dL_law_687 : decode cL_law 687 = .ok (.if_icmp .eq 5, 3) := by decide +kernel
theorem dL_law_690 : decode cL_law 690 = .ok (.iconst 0, 1) := by decide +kernel
theorem dL_law_691 : decode cL_law 691 = .ok (.ireturn, 1) := by decide +kernel
theorem dL_law_692 : decode cL_law 692 = .ok (.iinc 3 6, 3) := by decide +kernel
theorem dL_law_695 : decode cL_law 695 = .ok (.goto (-677), 3) := by decide +kernel
theorem dL_law_698 : decode cL_law 698 = .ok (.iconst 1, 1) := by decide +kernel
theorem dL_law_699 : decode cL_law 699 = .ok (.ireturn, 1) := by decide +kernel
