theorem dX12_hexAt_19 : decode cX12_hexAt 19 = .ok (.goto 4, 3) := by decide +kernel
theorem dX12_hexAt_22 : decode cX12_hexAt 22 = .ok (.iconst (-1), 1) := by decide +kernel
theorem dX12_hexAt_23 : decode cX12_hexAt 23 = .ok (.ireturn, 1) := by decide +kernel
theorem dX12_readLine_0 : decode cX12_readLine 0 = .ok (.aload_n 0, 1) := by decide +kernel
theorem dX12_readLine_1 : decode cX12_readLine 1 = .ok (.getfield 264, 3) := by decide +kernel
theorem dX12_readLine_4 : decode cX12_readLine 4 = .ok (.istore_n 3, 1) := by decide +kernel
theorem dX12_readLine_5 : decode cX12_readLine 5 = .ok (.bipush 7, 2) := by decide +kernel
theorem dX12_readLine_7 : decode cX12_readLine 7 = .ok (.istore 4, 2) := by decide +kernel
theorem dX12_readLine_9 : decode cX12_readLine 9 = .ok (.iload 4, 2) := by decide +kernel
theorem dX12_readLine_11 : decode cX12_readLine 11 = .ok (.ifCond .lt 41, 3) := by decide +kernel
theorem dX12_readLine_14 : decode cX12_readLine 14 = .ok (.aload_n 0, 1) := by decide +kernel
theorem dX12_readLine_15 : decode cX12_readLine 15 = .ok (.aload_n 0, 1) := by decide +kernel
theorem dX12_readLine_16 : decode cX12_readLine 16 = .ok (.getfield 261, 3) := by decide +kernel
theorem dX12_readLine_19 : decode cX12_readLine 19 = .ok (.invokevirtual 267, 3) := by decide +kernel
theorem dX12_readLine_22 : decode cX12_readLine 22 = .ok (.iload_n 3, 1) := by decide +kernel
theorem dX12_readLine_23 : decode cX12_readLine 23 = .ok (.iconst 4, 1) := by decide +kernel
theorem dX12_readLine_24 : decode cX12_readLine 24 = .ok (.iload 4, 2) := by decide +kernel
theorem dX12_readLine_26 : decode cX12_readLine 26 = .ok (.imul, 1) := by decide +kernel
theorem dX12_readLine_27 : decode cX12_readLine 27 = .ok (.ishr, 1) := by decide +kernel
theorem dX12_readLine_28 : decode cX12_readLine 28 = .ok (.bipush 15, 2) := by decide +kernel
theorem dX12_readLine_30 : decode cX12_readLine 30 = .ok (.iand, 1) := by decide +kernel
theorem dX12_readLine_31 : decode cX12_readLine 31 = .ok (.if_icmp .eq 5, 3) := by decide +kernel
theorem dX12_readLine_34 : decode cX12_readLine 34 = .ok (.iconst 0, 1) := by decide +kernel
theorem dX12_readLine_35 : decode cX12_readLine 35 = .ok (.ireturn, 1) := by decide +kernel
theorem dX12_readLine_36 : decode cX12_readLine 36 = .ok (.aload_n 0, 1) := by decide +kernel
theorem dX12_readLine_37 : decode cX12_readLine 37 = .ok (.dup, 1) := by decide +kernel
theorem dX12_readLine_38 : decode cX12_readLine 38 = .ok (.getfield 261, 3) := by decide +kernel
theorem dX12_readLine_41 : decode cX12_readLine 41 = .ok (.iconst 1, 1) := by decide +kernel
theorem dX12_readLine_42 : decode cX12_readLine 42 = .ok (.iadd, 1) := by decide +kernel
theorem dX12_readLine_43 : decode cX12_readLine 43 = .ok (.putfield 261, 3) := by decide +kernel
theorem dX12_readLine_46 : decode cX12_readLine 46 = .ok (.iinc 4 (-1), 3) := by decide +kernel
theorem dX12_readLine_49 : decode cX12_readLine 49 = .ok (.goto (-40), 3) := by decide +kernel
theorem dX12_readLine_52 : decode cX12_readLine 52 = .ok (.aload_n 0, 1) := by decide +kernel
theorem dX12_readLine_53 : decode cX12_readLine 53 = .ok (.bipush 58, 2) := by decide +kernel
theorem dX12_readLine_55 : decode cX12_readLine 55 = .ok (.invokevirtual 270, 3) := by decide +kernel
theorem dX12_readLine_58 : decode cX12_readLine 58 = .ok (.ifCond .ne 5, 3) := by decide +kernel
theorem dX12_readLine_61 : decode cX12_readLine 61 = .ok (.iconst 0, 1) := by decide +kernel
theorem dX12_readLine_62 : decode cX12_readLine 62 = .ok (.ireturn, 1) := by decide +kernel
theorem dX12_readLine_63 : decode cX12_readLine 63 = .ok (.aload_n 0, 1) := by decide +kernel
theorem dX12_readLine_64 : decode cX12_readLine 64 = .ok (.dup, 1) := by decide +kernel
theorem dX12_readLine_65 : decode cX12_readLine 65 = .ok (.getfield 261, 3) := by decide +kernel
theorem dX12_readLine_68 : decode cX12_readLine 68 = .ok (.iconst 1, 1) := by decide +kernel
theorem dX12_readLine_69 : decode cX12_readLine 69 = .ok (.iadd, 1) := by decide +kernel
theorem dX12_readLine_70 : decode cX12_readLine 70 = .ok (.putfield 261, 3) := by decide +kernel
theorem dX12_readLine_73 : decode cX12_readLine 73 = .ok (.aload_n 0, 1) := by decide +kernel
theorem dX12_readLine_74 : decode cX12_readLine 74 = .ok (.bipush 32, 2) := by decide +kernel
theorem dX12_readLine_76 : decode cX12_readLine 76 = .ok (.invokevirtual 270, 3) := by decide +kernel
theorem dX12_readLine_79 : decode cX12_readLine 79 = .ok (.ifCond .ne 5, 3) := by decide +kernel
theorem dX12_readLine_82 : decode cX12_readLine 82 = .ok (.iconst 0, 1) := by decide +kernel
theorem dX12_readLine_83 : decode cX12_readLine 83 = .ok (.ireturn, 1) := by decide +kernel
theorem dX12_readLine_84 : decode cX12_readLine 84 = .ok (.aload_n 0, 1) := by decide +kernel
theorem dX12_readLine_85 : decode cX12_readLine 85 = .ok (.dup, 1) := by decide +kernel
theorem dX12_readLine_86 : decode cX12_readLine 86 = .ok (.getfield 261, 3) := by decide +kernel
theorem dX12_readLine_89 : decode cX12_readLine 89 = .ok (.iconst 1, 1) := by decide +kernel
theorem dX12_readLine_90 : decode cX12_readLine 90 = .ok (.iadd, 1) := by decide +kernel
theorem dX12_readLine_91 : decode cX12_readLine 91 = .ok (.putfield 261, 3) := by decide +kernel
theorem dX12_readLine_94 : decode cX12_readLine 94 = .ok (.iconst 0, 1) := by decide +kernel
theorem dX12_readLine_95 : decode cX12_readLine 95 = .ok (.istore 4, 2) := by decide +kernel
theorem dX12_readLine_97 : decode cX12_readLine 97 = .ok (.iconst 0, 1) := by decide +kernel
theorem dX12_readLine_98 : decode cX12_readLine 98 = .ok (.istore 5, 2) := by decide +kernel
theorem dX12_readLine_100 : decode cX12_readLine 100 = .ok (.iload 5, 2) := by decide +kernel
theorem dX12_readLine_102 : decode cX12_readLine 102 = .ok (.iload_n 1, 1) := by decide +kernel
theorem dX12_readLine_103 : decode cX12_readLine 103 = .ok (.if_icmp .ge 213, 3) := by decide +kernel
theorem dX12_readLine_106 : decode cX12_readLine 106 = .ok (.iload 4, 2) := by decide +kernel
theorem dX12_readLine_108 : decode cX12_readLine 108 = .ok (.iload 5, 2) := by decide +kernel
theorem dX12_readLine_110 : decode cX12_readLine 110 = .ok (.if_icmp .ne 23, 3) := by decide +kernel
theorem dX12_readLine_113 : decode cX12_readLine 113 = .ok (.iload 5, 2) := by decide +kernel
theorem dX12_readLine_115 : decode cX12_readLine 115 = .ok (.ifCond .eq 14, 3) := by decide +kernel
theorem dX12_readLine_118 : decode cX12_readLine 118 = .ok (.aload_n 0, 1) := by decide +kernel
theorem dX12_readLine_119 : decode cX12_readLine 119 = .ok (.aload_n 0, 1) := by decide +kernel
theorem dX12_readLine_120 : decode cX12_readLine 120 = .ok (.getfield 261, 3) := by decide +kernel
theorem dX12_readLine_123 : decode cX12_readLine 123 = .ok (.invokevirtual 267, 3) := by decide +kernel
theorem dX12_readLine_126 : decode cX12_readLine 126 = .ok (.ifCond .lt 7, 3) := by decide +kernel
theorem dX12_readLine_129 : decode cX12_readLine 129 = .ok (.iconst 1, 1) := by decide +kernel
theorem dX12_readLine_130 : decode cX12_readLine 130 = .ok (.goto 4, 3) := by decide +kernel
theorem dX12_readLine_133 : decode cX12_readLine 133 = .ok (.iconst 0, 1) := by decide +kernel
theorem dX12_readLine_134 : decode cX12_readLine 134 = .ok (.istore 6, 2) := by decide +kernel
theorem dX12_readLine_136 : decode cX12_readLine 136 = .ok (.iconst 0, 1) := by decide +kernel
theorem dX12_readLine_137 : decode cX12_readLine 137 = .ok (.istore 7, 2) := by decide +kernel
theorem dX12_readLine_139 : decode cX12_readLine 139 = .ok (.iload 7, 2) := by decide +kernel
theorem dX12_readLine_141 : decode cX12_readLine 141 = .ok (.iconst 2, 1) := by decide +kernel
theorem dX12_readLine_142 : decode cX12_readLine 142 = .ok (.if_icmp .ge 121, 3) := by decide +kernel
theorem dX12_readLine_145 : decode cX12_readLine 145 = .ok (.iload 6, 2) := by decide +kernel
theorem dX12_readLine_147 : decode cX12_readLine 147 = .ok (.ifCond .eq 17, 3) := by decide +kernel
theorem dX12_readLine_150 : decode cX12_readLine 150 = .ok (.aload_n 0, 1) := by decide +kernel
theorem dX12_readLine_151 : decode cX12_readLine 151 = .ok (.aload_n 0, 1) := by decide +kernel
theorem dX12_readLine_152 : decode cX12_readLine 152 = .ok (.getfield 261, 3) := by decide +kernel
theorem dX12_readLine_155 : decode cX12_readLine 155 = .ok (.invokevirtual 267, 3) := by decide +kernel
theorem dX12_readLine_158 : decode cX12_readLine 158 = .ok (.ifCond .ge 17, 3) := by decide +kernel
theorem dX12_readLine_161 : decode cX12_readLine 161 = .ok (.goto 12, 3) := by decide +kernel
theorem dX12_readLine_164 : decode cX12_readLine 164 = .ok (.aload_n 0, 1) := by decide +kernel
theorem dX12_readLine_165 : decode cX12_readLine 165 = .ok (.bipush 32, 2) := by decide +kernel
theorem dX12_readLine_167 : decode cX12_readLine 167 = .ok (.invokevirtual 270, 3) := by decide +kernel
theorem dX12_readLine_170 : decode cX12_readLine 170 = .ok (.ifCond .ne 5, 3) := by decide +kernel
theorem dX12_readLine_173 : decode cX12_readLine 173 = .ok (.iconst 0, 1) := by decide +kernel
theorem dX12_readLine_174 : decode cX12_readLine 174 = .ok (.ireturn, 1) := by decide +kernel
theorem dX12_readLine_175 : decode cX12_readLine 175 = .ok (.aload_n 0, 1) := by decide +kernel
theorem dX12_readLine_176 : decode cX12_readLine 176 = .ok (.getfield 47, 3) := by decide +kernel
theorem dX12_readLine_179 : decode cX12_readLine 179 = .ok (.aload_n 0, 1) := by decide +kernel
theorem dX12_readLine_180 : decode cX12_readLine 180 = .ok (.getfield 264, 3) := by decide +kernel
theorem dX12_readLine_183 : decode cX12_readLine 183 = .ok (.iload 4, 2) := by decide +kernel
theorem dX12_readLine_185 : decode cX12_readLine 185 = .ok (.iadd, 1) := by decide +kernel
theorem dX12_readLine_186 : decode cX12_readLine 186 = .ok (.iload 6, 2) := by decide +kernel
theorem dX12_readLine_188 : decode cX12_readLine 188 = .ok (.ifCond .eq 46, 3) := by decide +kernel
theorem dX12_readLine_191 : decode cX12_readLine 191 = .ok (.iload 7, 2) := by decide +kernel
theorem dX12_readLine_193 : decode cX12_readLine 193 = .ok (.ifCond .ne 17, 3) := by decide +kernel
theorem dX12_readLine_196 : decode cX12_readLine 196 = .ok (.bipush 16, 2) := by decide +kernel
theorem dX12_readLine_198 : decode cX12_readLine 198 = .ok (.aload_n 0, 1) := by decide +kernel
theorem dX12_readLine_199 : decode cX12_readLine 199 = .ok (.aload_n 0, 1) := by decide +kernel
theorem dX12_readLine_200 : decode cX12_readLine 200 = .ok (.getfield 261, 3) := by decide +kernel
theorem dX12_readLine_203 : decode cX12_readLine 203 = .ok (.invokevirtual 267, 3) := by decide +kernel
theorem dX12_readLine_206 : decode cX12_readLine 206 = .ok (.imul, 1) := by decide +kernel
theorem dX12_readLine_207 : decode cX12_readLine 207 = .ok (.goto 39, 3) := by decide +kernel
theorem dX12_readLine_210 : decode cX12_readLine 210 = .ok (.aload_n 0, 1) := by decide +kernel
theorem dX12_readLine_211 : decode cX12_readLine 211 = .ok (.getfield 47, 3) := by decide +kernel
theorem dX12_readLine_214 : decode cX12_readLine 214 = .ok (.aload_n 0, 1) := by decide +kernel
theorem dX12_readLine_215 : decode cX12_readLine 215 = .ok (.getfield 264, 3) := by decide +kernel
theorem dX12_readLine_218 : decode cX12_readLine 218 = .ok (.iload 4, 2) := by decide +kernel
theorem dX12_readLine_220 : decode cX12_readLine 220 = .ok (.iadd, 1) := by decide +kernel
theorem dX12_readLine_221 : decode cX12_readLine 221 = .ok (.iaload, 1) := by decide +kernel
theorem dX12_readLine_222 : decode cX12_readLine 222 = .ok (.aload_n 0, 1) := by decide +kernel
theorem dX12_readLine_223 : decode cX12_readLine 223 = .ok (.aload_n 0, 1) := by decide +kernel
theorem dX12_readLine_224 : decode cX12_readLine 224 = .ok (.getfield 261, 3) := by decide +kernel
theorem dX12_readLine_227 : decode cX12_readLine 227 = .ok (.invokevirtual 267, 3) := by decide +kernel
theorem dX12_readLine_230 : decode cX12_readLine 230 = .ok (.iadd, 1) := by decide +kernel
theorem dX12_readLine_231 : decode cX12_readLine 231 = .ok (.goto 15, 3) := by decide +kernel
theorem dX12_readLine_234 : decode cX12_readLine 234 = .ok (.aload_n 0, 1) := by decide +kernel
theorem dX12_readLine_235 : decode cX12_readLine 235 = .ok (.getfield 47, 3) := by decide +kernel
theorem dX12_readLine_238 : decode cX12_readLine 238 = .ok (.aload_n 0, 1) := by decide +kernel
theorem dX12_readLine_239 : decode cX12_readLine 239 = .ok (.getfield 264, 3) := by decide +kernel
theorem dX12_readLine_242 : decode cX12_readLine 242 = .ok (.iload 4, 2) := by decide +kernel
theorem dX12_readLine_244 : decode cX12_readLine 244 = .ok (.iadd, 1) := by decide +kernel
theorem dX12_readLine_245 : decode cX12_readLine 245 = .ok (.iaload, 1) := by decide +kernel
theorem dX12_readLine_246 : decode cX12_readLine 246 = .ok (.iastore, 1) := by decide +kernel
theorem dX12_readLine_247 : decode cX12_readLine 247 = .ok (.aload_n 0, 1) := by decide +kernel
theorem dX12_readLine_248 : decode cX12_readLine 248 = .ok (.dup, 1) := by decide +kernel
theorem dX12_readLine_249 : decode cX12_readLine 249 = .ok (.getfield 261, 3) := by decide +kernel
theorem dX12_readLine_252 : decode cX12_readLine 252 = .ok (.iconst 1, 1) := by decide +kernel
theorem dX12_readLine_253 : decode cX12_readLine 253 = .ok (.iadd, 1) := by decide +kernel
theorem dX12_readLine_254 : decode cX12_readLine 254 = .ok (.putfield 261, 3) := by decide +kernel
theorem dX12_readLine_257 : decode cX12_readLine 257 = .ok (.iinc 7 1, 3) := by decide +kernel
theorem dX12_readLine_260 : decode cX12_readLine 260 = .ok (.goto (-121), 3) := by decide +kernel
theorem dX12_readLine_263 : decode cX12_readLine 263 = .ok (.iload 6, 2) := by decide +kernel
theorem dX12_readLine_265 : decode cX12_readLine 265 = .ok (.ifCond .eq 10, 3) := by decide +kernel
theorem dX12_readLine_268 : decode cX12_readLine 268 = .ok (.iload 4, 2) := by decide +kernel
theorem dX12_readLine_270 : decode cX12_readLine 270 = .ok (.iconst 1, 1) := by decide +kernel
theorem dX12_readLine_271 : decode cX12_readLine 271 = .ok (.iadd, 1) := by decide +kernel
theorem dX12_readLine_272 : decode cX12_readLine 272 = .ok (.goto 5, 3) := by decide +kernel
theorem dX12_readLine_275 : decode cX12_readLine 275 = .ok (.iload 4, 2) := by decide +kernel
theorem dX12_readLine_277 : decode cX12_readLine 277 = .ok (.istore 4, 2) := by decide +kernel
theorem dX12_readLine_279 : decode cX12_readLine 279 = .ok (.iload 5, 2) := by decide +kernel
theorem dX12_readLine_281 : decode cX12_readLine 281 = .ok (.iload_n 1, 1) := by decide +kernel
theorem dX12_readLine_282 : decode cX12_readLine 282 = .ok (.iload_n 2, 1) := by decide +kernel
theorem dX12_readLine_283 : decode cX12_readLine 283 = .ok (.invokestatic 255, 3) := by decide +kernel
theorem dX12_readLine_286 : decode cX12_readLine 286 = .ok (.ifCond .eq 24, 3) := by decide +kernel
theorem dX12_readLine_289 : decode cX12_readLine 289 = .ok (.aload_n 0, 1) := by decide +kernel
theorem dX12_readLine_290 : decode cX12_readLine 290 = .ok (.bipush 32, 2) := by decide +kernel
theorem dX12_readLine_292 : decode cX12_readLine 292 = .ok (.invokevirtual 270, 3) := by decide +kernel
theorem dX12_readLine_295 : decode cX12_readLine 295 = .ok (.ifCond .ne 5, 3) := by decide +kernel
theorem dX12_readLine_298 : decode cX12_readLine 298 = .ok (.iconst 0, 1) := by decide +kernel
theorem dX12_readLine_299 : decode cX12_readLine 299 = .ok (.ireturn, 1) := by decide +kernel
theorem dX12_readLine_300 : decode cX12_readLine 300 = .ok (.aload_n 0, 1) := by decide +kernel
theorem dX12_readLine_301 : decode cX12_readLine 301 = .ok (.dup, 1) := by decide +kernel
theorem dX12_readLine_302 : decode cX12_readLine 302 = .ok (.getfield 261, 3) := by decide +kernel
theorem dX12_readLine_305 : decode cX12_readLine 305 = .ok (.iconst 1, 1) := by decide +kernel
theorem dX12_readLine_306 : decode cX12_readLine 306 = .ok (.iadd, 1) := by decide +kernel
theorem dX12_readLine_307 : decode cX12_readLine 307 = .ok (.putfield 261, 3) := by decide +kernel
theorem dX12_readLine_310 : decode cX12_readLine 310 = .ok (.iinc 5 1, 3) := by decide +kernel
theorem dX12_readLine_313 : decode cX12_readLine 313 = .ok (.goto (-213), 3) := by decide +kernel
theorem dX12_readLine_316 : decode cX12_readLine 316 = .ok (.aload_n 0, 1) := by decide +kernel
theorem dX12_readLine_317 : decode cX12_readLine 317 = .ok (.bipush 32, 2) := by decide +kernel
theorem dX12_readLine_319 : decode cX12_readLine 319 = .ok (.invokevirtual 270, 3) := by decide +kernel
theorem dX12_readLine_322 : decode cX12_readLine 322 = .ok (.ifCond .ne 5, 3) := by decide +kernel
theorem dX12_readLine_325 : decode cX12_readLine 325 = .ok (.iconst 0, 1) := by decide +kernel
theorem dX12_readLine_326 : decode cX12_readLine 326 = .ok (.ireturn, 1) := by decide +kernel
theorem dX12_readLine_327 : decode cX12_readLine 327 = .ok (.aload_n 0, 1) := by decide +kernel
theorem dX12_readLine_328 : decode cX12_readLine 328 = .ok (.dup, 1) := by decide +kernel
theorem dX12_readLine_329 : decode cX12_readLine 329 = .ok (.getfield 261, 3) := by decide +kernel
theorem dX12_readLine_332 : decode cX12_readLine 332 = .ok (.iconst 1, 1) := by decide +kernel
theorem dX12_readLine_333 : decode cX12_readLine 333 = .ok (.iadd, 1) := by decide +kernel
theorem dX12_readLine_334 : decode cX12_readLine 334 = .ok (.putfield 261, 3) := by decide +kernel
theorem dX12_readLine_337 : decode cX12_readLine 337 = .ok (.iconst 0, 1) := by decide +kernel
theorem dX12_readLine_338 : decode cX12_readLine 338 = .ok (.istore 5, 2) := by decide +kernel
theorem dX12_readLine_340 : decode cX12_readLine 340 = .ok (.iload 5, 2) := by decide +kernel
theorem dX12_readLine_342 : decode cX12_readLine 342 = .ok (.iload 4, 2) := by decide +kernel
theorem dX12_readLine_344 : decode cX12_readLine 344 = .ok (.if_icmp .ge 43, 3) := by decide +kernel
theorem dX12_readLine_347 : decode cX12_readLine 347 = .ok (.aload_n 0, 1) := by decide +kernel
theorem dX12_readLine_348 : decode cX12_readLine 348 = .ok (.aload_n 0, 1) := by decide +kernel
theorem dX12_readLine_349 : decode cX12_readLine 349 = .ok (.getfield 47, 3) := by decide +kernel
theorem dX12_readLine_352 : decode cX12_readLine 352 = .ok (.aload_n 0, 1) := by decide +kernel
theorem dX12_readLine_353 : decode cX12_readLine 353 = .ok (.getfield 264, 3) := by decide +kernel
theorem dX12_readLine_356 : decode cX12_readLine 356 = .ok (.iload 5, 2) := by decide +kernel
theorem dX12_readLine_358 : decode cX12_readLine 358 = .ok (.iadd, 1) := by decide +kernel
theorem dX12_readLine_359 : decode cX12_readLine 359 = .ok (.iaload, 1) := by decide +kernel
theorem dX12_readLine_360 : decode cX12_readLine 360 = .ok (.invokestatic 258, 3) := by decide +kernel
theorem dX12_readLine_363 : decode cX12_readLine 363 = .ok (.invokevirtual 270, 3) := by decide +kernel
theorem dX12_readLine_366 : decode cX12_readLine 366 = .ok (.ifCond .ne 5, 3) := by decide +kernel
theorem dX12_readLine_369 : decode cX12_readLine 369 = .ok (.iconst 0, 1) := by decide +kernel
theorem dX12_readLine_370 : decode cX12_readLine 370 = .ok (.ireturn, 1) := by decide +kernel
theorem dX12_readLine_371 : decode cX12_readLine 371 = .ok (.aload_n 0, 1) := by decide +kernel
theorem dX12_readLine_372 : decode cX12_readLine 372 = .ok (.dup, 1) := by decide +kernel
theorem dX12_readLine_373 : decode cX12_readLine 373 = .ok (.getfield 261, 3) := by decide +kernel
theorem dX12_readLine_376 : decode cX12_readLine 376 = .ok (.iconst 1, 1) := by decide +kernel
theorem dX12_readLine_377 : decode cX12_readLine 377 = .ok (.iadd, 1) := by decide +kernel
theorem dX12_readLine_378 : decode cX12_readLine 378 = .ok (.putfield 261, 3) := by decide +kernel
theorem dX12_readLine_381 : decode cX12_readLine 381 = .ok (.iinc 5 1, 3) := by decide +kernel
theorem dX12_readLine_384 : decode cX12_readLine 384 = .ok (.goto (-44), 3) := by decide +kernel
theorem dX12_readLine_387 : decode cX12_readLine 387 = .ok (.aload_n 0, 1) := by decide +kernel
theorem dX12_readLine_388 : decode cX12_readLine 388 = .ok (.bipush 10, 2) := by decide +kernel
theorem dX12_readLine_390 : decode cX12_readLine 390 = .ok (.invokevirtual 270, 3) := by decide +kernel
theorem dX12_readLine_393 : decode cX12_readLine 393 = .ok (.ifCond .ne 5, 3) := by decide +kernel
theorem dX12_readLine_396 : decode cX12_readLine 396 = .ok (.iconst 0, 1) := by decide +kernel
theorem dX12_readLine_397 : decode cX12_readLine 397 = .ok (.ireturn, 1) := by decide +kernel
theorem dX12_readLine_398 : decode cX12_readLine 398 = .ok (.aload_n 0, 1) := by decide +kernel
theorem dX12_readLine_399 : decode cX12_readLine 399 = .ok (.dup, 1) := by decide +kernel
theorem dX12_readLine_400 : decode cX12_readLine 400 = .ok (.getfield 261, 3) := by decide +kernel
theorem dX12_readLine_403 : decode cX12_readLine 403 = .ok (.iconst 1, 1) := by decide +kernel
theorem dX12_readLine_404 : decode cX12_readLine 404 = .ok (.iadd, 1) := by decide +kernel
theorem dX12_readLine_405 : decode cX12_readLine 405 = .ok (.putfield 261, 3) := by decide +kernel
theorem dX12_readLine_408 : decode cX12_readLine 408 = .ok (.aload_n 0, 1) := by decide +kernel
theorem dX12_readLine_409 : decode cX12_readLine 409 = .ok (.aload_n 0, 1) := by decide +kernel
theorem dX12_readLine_410 : decode cX12_readLine 410 = .ok (.getfield 264, 3) := by decide +kernel
theorem dX12_readLine_413 : decode cX12_readLine 413 = .ok (.iload 4, 2) := by decide +kernel
theorem dX12_readLine_415 : decode cX12_readLine 415 = .ok (.iadd, 1) := by decide +kernel
theorem dX12_readLine_416 : decode cX12_readLine 416 = .ok (.putfield 264, 3) := by decide +kernel
theorem dX12_readLine_419 : decode cX12_readLine 419 = .ok (.iload 4, 2) := by decide +kernel
theorem dX12_readLine_421 : decode cX12_readLine 421 = .ok (.iload_n 1, 1) := by decide +kernel
theorem dX12_readLine_422 : decode cX12_readLine 422 = .ok (.if_icmp .eq 14, 3) := by decide +kernel
theorem dX12_readLine_425 : decode cX12_readLine 425 = .ok (.aload_n 0, 1) := by decide +kernel
theorem dX12_readLine_426 : decode cX12_readLine 426 = .ok (.getfield 261, 3) := by decide +kernel
theorem dX12_readLine_429 : decode cX12_readLine 429 = .ok (.aload_n 0, 1) := by decide +kernel
theorem dX12_readLine_430 : decode cX12_readLine 430 = .ok (.getfield 71, 3) := by decide +kernel
theorem dX12_readLine_433 : decode cX12_readLine 433 = .ok (.if_icmp .ne 7, 3) := by decide +kernel
theorem dX12_readLine_436 : decode cX12_readLine 436 = .ok (.iconst 1, 1) := by decide +kernel
theorem dX12_readLine_437 : decode cX12_readLine 437 = .ok (.goto 4, 3) := by decide +kernel
theorem dX12_readLine_440 : decode cX12_readLine 440 = .ok (.iconst 0, 1) := by decide +kernel
theorem dX12_readLine_441 : decode cX12_readLine 441 = .ok (.ireturn, 1) := by decide +kernel
theorem dX12_back_0 : decode cX12_back 0 = .ok (.aload_n 0, 1) := by decide +kernel
theorem dX12_back_1 : decode cX12_back 1 = .ok (.iload_n 1, 1) := by decide +kernel
theorem dX12_back_2 : decode cX12_back 2 = .ok (.iconst 1, 1) := by decide +kernel
theorem dX12_back_3 : decode cX12_back 3 = .ok (.bipush 32, 2) := by decide +kernel
theorem dX12_back_5 : decode cX12_back 5 = .ok (.invokestatic 67, 3) := by decide +kernel
theorem dX12_back_8 : decode cX12_back 8 = .ok (.ifCond .eq 16, 3) := by decide +kernel
theorem dX12_back_11 : decode cX12_back 11 = .ok (.iload_n 2, 1) := by decide +kernel
theorem dX12_back_12 : decode cX12_back 12 = .ok (.iconst 0, 1) := by decide +kernel
theorem dX12_back_13 : decode cX12_back 13 = .ok (.iload_n 1, 1) := by decide +kernel
theorem dX12_back_14 : decode cX12_back 14 = .ok (.invokestatic 67, 3) := by decide +kernel
theorem dX12_back_17 : decode cX12_back 17 = .ok (.ifCond .eq 7, 3) := by decide +kernel
theorem dX12_back_20 : decode cX12_back 20 = .ok (.iconst 0, 1) := by decide +kernel
theorem dX12_back_21 : decode cX12_back 21 = .ok (.goto 4, 3) := by decide +kernel
theorem dX12_back_24 : decode cX12_back 24 = .ok (.iconst 1, 1) := by decide +kernel
theorem dX12_back_25 : decode cX12_back 25 = .ok (.invokevirtual 60, 3) := by decide +kernel
theorem dX12_back_28 : decode cX12_back 28 = .ok (.ifCond .eq 5, 3) := by decide +kernel
theorem dX12_back_31 : decode cX12_back 31 = .ok (.iconst 0, 1) := by decide +kernel
theorem dX12_back_32 : decode cX12_back 32 = .ok (.ireturn, 1) := by decide +kernel
theorem dX12_back_33 : decode cX12_back 33 = .ok (.aload_n 0, 1) := by decide +kernel
theorem dX12_back_34 : decode cX12_back 34 = .ok (.iconst 0, 1) := by decide +kernel
theorem dX12_back_35 : decode cX12_back 35 = .ok (.putfield 264, 3) := by decide +kernel
theorem dX12_back_38 : decode cX12_back 38 = .ok (.aload_n 0, 1) := by decide +kernel
theorem dX12_back_39 : decode cX12_back 39 = .ok (.iconst 0, 1) := by decide +kernel
theorem dX12_back_40 : decode cX12_back 40 = .ok (.putfield 261, 3) := by decide +kernel
theorem dX12_back_43 : decode cX12_back 43 = .ok (.aload_n 0, 1) := by decide +kernel
theorem dX12_back_44 : decode cX12_back 44 = .ok (.iconst (-1), 1) := by decide +kernel
theorem dX12_back_45 : decode cX12_back 45 = .ok (.putfield 38, 3) := by decide +kernel
theorem dX12_back_48 : decode cX12_back 48 = .ok (.aload_n 0, 1) := by decide +kernel
theorem dX12_back_49 : decode cX12_back 49 = .ok (.getfield 261, 3) := by decide +kernel
theorem dX12_back_52 : decode cX12_back 52 = .ok (.aload_n 0, 1) := by decide +kernel
theorem dX12_back_53 : decode cX12_back 53 = .ok (.getfield 71, 3) := by decide +kernel
theorem dX12_back_56 : decode cX12_back 56 = .ok (.if_icmp .ge 23, 3) := by decide +kernel
theorem dX12_back_59 : decode cX12_back 59 = .ok (.aload_n 0, 1) := by decide +kernel
theorem dX12_back_60 : decode cX12_back 60 = .ok (.iload_n 1, 1) := by decide +kernel
theorem dX12_back_61 : decode cX12_back 61 = .ok (.iload_n 2, 1) := by decide +kernel
theorem dX12_back_62 : decode cX12_back 62 = .ok (.invokevirtual 273, 3) := by decide +kernel
theorem dX12_back_65 : decode cX12_back 65 = .ok (.ifCond .ne (-17), 3) := by decide +kernel
theorem dX12_back_68 : decode cX12_back 68 = .ok (.aload_n 0, 1) := by decide +kernel
theorem dX12_back_69 : decode cX12_back 69 = .ok (.aload_n 0, 1) := by decide +kernel
theorem dX12_back_70 : decode cX12_back 70 = .ok (.getfield 261, 3) := by decide +kernel
theorem dX12_back_73 : decode cX12_back 73 = .ok (.putfield 38, 3) := by decide +kernel
theorem dX12_back_76 : decode cX12_back 76 = .ok (.bipush (-2), 2) := by decide +kernel
theorem dX12_back_78 : decode cX12_back 78 = .ok (.ireturn, 1) := by decide +kernel
theorem dX12_back_79 : decode cX12_back 79 = .ok (.aload_n 0, 1) := by decide +kernel
theorem dX12_back_80 : decode cX12_back 80 = .ok (.getfield 264, 3) := by decide +kernel
theorem dX12_back_83 : decode cX12_back 83 = .ok (.sipush 256, 3) := by decide +kernel
theorem dX12_back_86 : decode cX12_back 86 = .ok (.if_icmp .le 6, 3) := by decide +kernel
theorem dX12_back_89 : decode cX12_back 89 = .ok (.bipush (-3), 2) := by decide +kernel
theorem dX12_back_91 : decode cX12_back 91 = .ok (.ireturn, 1) := by decide +kernel
theorem dX12_back_92 : decode cX12_back 92 = .ok (.aload_n 0, 1) := by decide +kernel
theorem dX12_back_93 : decode cX12_back 93 = .ok (.aload_n 0, 1) := by decide +kernel
theorem dX12_back_94 : decode cX12_back 94 = .ok (.getfield 264, 3) := by decide +kernel
theorem dX12_back_97 : decode cX12_back 97 = .ok (.putfield 230, 3) := by decide +kernel
theorem dX12_back_100 : decode cX12_back 100 = .ok (.iconst 0, 1) := by decide +kernel
theorem dX12_back_101 : decode cX12_back 101 = .ok (.istore_n 3, 1) := by decide +kernel
theorem dX12_back_102 : decode cX12_back 102 = .ok (.iload_n 3, 1) := by decide +kernel
theorem dX12_back_103 : decode cX12_back 103 = .ok (.aload_n 0, 1) := by decide +kernel
theorem dX12_back_104 : decode cX12_back 104 = .ok (.getfield 264, 3) := by decide +kernel
theorem dX12_back_107 : decode cX12_back 107 = .ok (.if_icmp .ge 21, 3) := by decide +kernel
theorem dX12_back_110 : decode cX12_back 110 = .ok (.aload_n 0, 1) := by decide +kernel
theorem dX12_back_111 : decode cX12_back 111 = .ok (.getfield 28, 3) := by decide +kernel
theorem dX12_back_114 : decode cX12_back 114 = .ok (.iload_n 3, 1) := by decide +kernel
theorem dX12_back_115 : decode cX12_back 115 = .ok (.aload_n 0, 1) := by decide +kernel
theorem dX12_back_116 : decode cX12_back 116 = .ok (.getfield 47, 3) := by decide +kernel
theorem dX12_back_119 : decode cX12_back 119 = .ok (.iload_n 3, 1) := by decide +kernel
theorem dX12_back_120 : decode cX12_back 120 = .ok (.iaload, 1) := by decide +kernel
theorem dX12_back_121 : decode cX12_back 121 = .ok (.iastore, 1) := by decide +kernel
theorem dX12_back_122 : decode cX12_back 122 = .ok (.iinc 3 1, 3) := by decide +kernel
theorem dX12_back_125 : decode cX12_back 125 = .ok (.goto (-23), 3) := by decide +kernel
theorem dX12_back_128 : decode cX12_back 128 = .ok (.aload_n 0, 1) := by decide +kernel
theorem dX12_back_129 : decode cX12_back 129 = .ok (.getfield 230, 3) := by decide +kernel
theorem dX12_back_132 : decode cX12_back 132 = .ok (.ireturn, 1) := by decide +kernel
theorem dX12_patch_0 : decode cX12_patch 0 = .ok (.aload_n 0, 1) := by decide +kernel
theorem dX12_patch_1 : decode cX12_patch 1 = .ok (.iload_n 1, 1) := by decide +kernel
theorem dX12_patch_2 : decode cX12_patch 2 = .ok (.iconst 0, 1) := by decide +kernel
theorem dX12_patch_3 : decode cX12_patch 3 = .ok (.aload_n 0, 1) := by decide +kernel
theorem dX12_patch_4 : decode cX12_patch 4 = .ok (.getfield 71, 3) := by decide +kernel
theorem dX12_patch_7 : decode cX12_patch 7 = .ok (.iconst 1, 1) := by decide +kernel
theorem dX12_patch_8 : decode cX12_patch 8 = .ok (.isub, 1) := by decide +kernel
theorem dX12_patch_9 : decode cX12_patch 9 = .ok (.invokestatic 67, 3) := by decide +kernel
theorem dX12_patch_12 : decode cX12_patch 12 = .ok (.ifCond .ne 7, 3) := by decide +kernel
theorem dX12_patch_15 : decode cX12_patch 15 = .ok (.iconst 1, 1) := by decide +kernel
theorem dX12_patch_16 : decode cX12_patch 16 = .ok (.goto 19, 3) := by decide +kernel
theorem dX12_patch_19 : decode cX12_patch 19 = .ok (.iload_n 2, 1) := by decide +kernel
theorem dX12_patch_20 : decode cX12_patch 20 = .ok (.iconst 0, 1) := by decide +kernel
theorem dX12_patch_21 : decode cX12_patch 21 = .ok (.sipush 255, 3) := by decide +kernel
theorem dX12_patch_24 : decode cX12_patch 24 = .ok (.invokestatic 67, 3) := by decide +kernel
theorem dX12_patch_27 : decode cX12_patch 27 = .ok (.ifCond .ne 7, 3) := by decide +kernel
theorem dX12_patch_30 : decode cX12_patch 30 = .ok (.iconst 2, 1) := by decide +kernel
theorem dX12_patch_31 : decode cX12_patch 31 = .ok (.goto 4, 3) := by decide +kernel
theorem dX12_patch_34 : decode cX12_patch 34 = .ok (.iconst 0, 1) := by decide +kernel
theorem dX12_patch_35 : decode cX12_patch 35 = .ok (.invokevirtual 60, 3) := by decide +kernel
theorem dX12_patch_38 : decode cX12_patch 38 = .ok (.ifCond .eq 5, 3) := by decide +kernel
theorem dX12_patch_41 : decode cX12_patch 41 = .ok (.iconst 0, 1) := by decide +kernel
theorem dX12_patch_42 : decode cX12_patch 42 = .ok (.ireturn, 1) := by decide +kernel
theorem dX12_patch_43 : decode cX12_patch 43 = .ok (.aload_n 0, 1) := by decide +kernel
theorem dX12_patch_44 : decode cX12_patch 44 = .ok (.getfield 35, 3) := by decide +kernel
theorem dX12_patch_47 : decode cX12_patch 47 = .ok (.iload_n 1, 1) := by decide +kernel
theorem dX12_patch_48 : decode cX12_patch 48 = .ok (.caload, 1) := by decide +kernel
theorem dX12_patch_49 : decode cX12_patch 49 = .ok (.istore_n 3, 1) := by decide +kernel
theorem dX12_patch_50 : decode cX12_patch 50 = .ok (.aload_n 0, 1) := by decide +kernel
theorem dX12_patch_51 : decode cX12_patch 51 = .ok (.getfield 35, 3) := by decide +kernel
theorem dX12_patch_54 : decode cX12_patch 54 = .ok (.iload_n 1, 1) := by decide +kernel
theorem dX12_patch_55 : decode cX12_patch 55 = .ok (.iload_n 2, 1) := by decide +kernel
theorem dX12_patch_56 : decode cX12_patch 56 = .ok (.i2c, 1) := by decide +kernel
theorem dX12_patch_57 : decode cX12_patch 57 = .ok (.castore, 1) := by decide +kernel
theorem dX12_patch_58 : decode cX12_patch 58 = .ok (.iload_n 3, 1) := by decide +kernel
theorem dX12_patch_59 : decode cX12_patch 59 = .ok (.ireturn, 1) := by decide +kernel
theorem dX12_trim_0 : decode cX12_trim 0 = .ok (.aload_n 0, 1) := by decide +kernel
theorem dX12_trim_1 : decode cX12_trim 1 = .ok (.iload_n 1, 1) := by decide +kernel
theorem dX12_trim_2 : decode cX12_trim 2 = .ok (.iconst 0, 1) := by decide +kernel
theorem dX12_trim_3 : decode cX12_trim 3 = .ok (.aload_n 0, 1) := by decide +kernel
theorem dX12_trim_4 : decode cX12_trim 4 = .ok (.getfield 71, 3) := by decide +kernel
theorem dX12_trim_7 : decode cX12_trim 7 = .ok (.invokestatic 67, 3) := by decide +kernel
theorem dX12_trim_10 : decode cX12_trim 10 = .ok (.ifCond .eq 7, 3) := by decide +kernel
theorem dX12_trim_13 : decode cX12_trim 13 = .ok (.iconst 0, 1) := by decide +kernel
theorem dX12_trim_14 : decode cX12_trim 14 = .ok (.goto 4, 3) := by decide +kernel
theorem dX12_trim_17 : decode cX12_trim 17 = .ok (.iconst 1, 1) := by decide +kernel
theorem dX12_trim_18 : decode cX12_trim 18 = .ok (.invokevirtual 60, 3) := by decide +kernel
theorem dX12_trim_21 : decode cX12_trim 21 = .ok (.ifCond .eq 5, 3) := by decide +kernel
theorem dX12_trim_24 : decode cX12_trim 24 = .ok (.iconst 0, 1) := by decide +kernel
theorem dX12_trim_25 : decode cX12_trim 25 = .ok (.ireturn, 1) := by decide +kernel
theorem dX12_trim_26 : decode cX12_trim 26 = .ok (.aload_n 0, 1) := by decide +kernel
theorem dX12_trim_27 : decode cX12_trim 27 = .ok (.getfield 71, 3) := by decide +kernel
theorem dX12_trim_30 : decode cX12_trim 30 = .ok (.iload_n 1, 1) := by decide +kernel
theorem dX12_trim_31 : decode cX12_trim 31 = .ok (.isub, 1) := by decide +kernel
theorem dX12_trim_32 : decode cX12_trim 32 = .ok (.istore_n 2, 1) := by decide +kernel
theorem dX12_trim_33 : decode cX12_trim 33 = .ok (.aload_n 0, 1) := by decide +kernel
theorem dX12_trim_34 : decode cX12_trim 34 = .ok (.iload_n 1, 1) := by decide +kernel
theorem dX12_trim_35 : decode cX12_trim 35 = .ok (.putfield 71, 3) := by decide +kernel
theorem dX12_trim_38 : decode cX12_trim 38 = .ok (.iload_n 2, 1) := by decide +kernel
theorem dX12_trim_39 : decode cX12_trim 39 = .ok (.ireturn, 1) := by decide +kernel
theorem dX12_place_0 : decode cX12_place 0 = .ok (.aload_n 0, 1) := by decide +kernel
theorem dX12_place_1 : decode cX12_place 1 = .ok (.iconst 0, 1) := by decide +kernel
theorem dX12_place_2 : decode cX12_place 2 = .ok (.putfield 50, 3) := by decide +kernel
theorem dX12_place_5 : decode cX12_place 5 = .ok (.aload_n 0, 1) := by decide +kernel
theorem dX12_place_6 : decode cX12_place 6 = .ok (.getfield 38, 3) := by decide +kernel
theorem dX12_place_9 : decode cX12_place 9 = .ok (.ireturn, 1) := by decide +kernel
theorem dX12_output_0 : decode cX12_output 0 = .ok (.aload_n 0, 1) := by decide +kernel
theorem dX12_output_1 : decode cX12_output 1 = .ok (.iconst 0, 1) := by decide +kernel
theorem dX12_output_2 : decode cX12_output 2 = .ok (.putfield 50, 3) := by decide +kernel
theorem dX12_output_5 : decode cX12_output 5 = .ok (.iload_n 1, 1) := by decide +kernel
theorem dX12_output_6 : decode cX12_output 6 = .ok (.iconst 0, 1) := by decide +kernel
theorem dX12_output_7 : decode cX12_output 7 = .ok (.aload_n 0, 1) := by decide +kernel
theorem dX12_output_8 : decode cX12_output 8 = .ok (.getfield 71, 3) := by decide +kernel
theorem dX12_output_11 : decode cX12_output 11 = .ok (.iconst 1, 1) := by decide +kernel
theorem dX12_output_12 : decode cX12_output 12 = .ok (.isub, 1) := by decide +kernel
theorem dX12_output_13 : decode cX12_output 13 = .ok (.invokestatic 67, 3) := by decide +kernel
theorem dX12_output_16 : decode cX12_output 16 = .ok (.ifCond .eq 12, 3) := by decide +kernel
theorem dX12_output_19 : decode cX12_output 19 = .ok (.aload_n 0, 1) := by decide +kernel
theorem dX12_output_20 : decode cX12_output 20 = .ok (.getfield 35, 3) := by decide +kernel
theorem dX12_output_23 : decode cX12_output 23 = .ok (.iload_n 1, 1) := by decide +kernel
theorem dX12_output_24 : decode cX12_output 24 = .ok (.caload, 1) := by decide +kernel
theorem dX12_output_25 : decode cX12_output 25 = .ok (.goto 4, 3) := by decide +kernel
theorem dX12_output_28 : decode cX12_output 28 = .ok (.iconst (-1), 1) := by decide +kernel
theorem dX12_output_29 : decode cX12_output 29 = .ok (.ireturn, 1) := by decide +kernel
theorem dX12_data_0 : decode cX12_data 0 = .ok (.aload_n 0, 1) := by decide +kernel
theorem dX12_data_1 : decode cX12_data 1 = .ok (.iconst 0, 1) := by decide +kernel
theorem dX12_data_2 : decode cX12_data 2 = .ok (.putfield 50, 3) := by decide +kernel
theorem dX12_data_5 : decode cX12_data 5 = .ok (.iload_n 1, 1) := by decide +kernel
theorem dX12_data_6 : decode cX12_data 6 = .ok (.iconst 0, 1) := by decide +kernel
theorem dX12_data_7 : decode cX12_data 7 = .ok (.aload_n 0, 1) := by decide +kernel
theorem dX12_data_8 : decode cX12_data 8 = .ok (.getfield 230, 3) := by decide +kernel
