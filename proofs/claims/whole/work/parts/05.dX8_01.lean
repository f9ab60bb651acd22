theorem dX8_unescapePiece_150 : decode cX8_unescapePiece 150 = .ok (.goto (-128), 3) := by decide +kernel
theorem dX8_unescapePiece_153 : decode cX8_unescapePiece 153 = .ok (.return_, 1) := by decide +kernel
theorem dX8_keepPrecision_0 : decode cX8_keepPrecision 0 = .ok (.aload_n 0, 1) := by decide +kernel
theorem dX8_keepPrecision_1 : decode cX8_keepPrecision 1 = .ok (.getfield 33, 3) := by decide +kernel
theorem dX8_keepPrecision_4 : decode cX8_keepPrecision 4 = .ok (.getfield 168, 3) := by decide +kernel
theorem dX8_keepPrecision_7 : decode cX8_keepPrecision 7 = .ok (.iconst (-1), 1) := by decide +kernel
theorem dX8_keepPrecision_8 : decode cX8_keepPrecision 8 = .ok (.if_icmp .eq 18, 3) := by decide +kernel
theorem dX8_keepPrecision_11 : decode cX8_keepPrecision 11 = .ok (.aload_n 0, 1) := by decide +kernel
theorem dX8_keepPrecision_12 : decode cX8_keepPrecision 12 = .ok (.getfield 42, 3) := by decide +kernel
theorem dX8_keepPrecision_15 : decode cX8_keepPrecision 15 = .ok (.aload_n 0, 1) := by decide +kernel
theorem dX8_keepPrecision_16 : decode cX8_keepPrecision 16 = .ok (.getfield 33, 3) := by decide +kernel
theorem dX8_keepPrecision_19 : decode cX8_keepPrecision 19 = .ok (.getfield 168, 3) := by decide +kernel
theorem dX8_keepPrecision_22 : decode cX8_keepPrecision 22 = .ok (.invokevirtual 171, 3) := by decide +kernel
theorem dX8_keepPrecision_25 : decode cX8_keepPrecision 25 = .ok (.pop, 1) := by decide +kernel
theorem dX8_keepPrecision_26 : decode cX8_keepPrecision 26 = .ok (.return_, 1) := by decide +kernel
theorem dX8_printFilled_0 : decode cX8_printFilled 0 = .ok (.aload_n 0, 1) := by decide +kernel
theorem dX8_printFilled_1 : decode cX8_printFilled 1 = .ok (.getfield 33, 3) := by decide +kernel
theorem dX8_printFilled_4 : decode cX8_printFilled 4 = .ok (.getfield 174, 3) := by decide +kernel
theorem dX8_printFilled_7 : decode cX8_printFilled 7 = .ok (.aload_n 0, 1) := by decide +kernel
theorem dX8_printFilled_8 : decode cX8_printFilled 8 = .ok (.getfield 42, 3) := by decide +kernel
theorem dX8_printFilled_11 : decode cX8_printFilled 11 = .ok (.invokevirtual 52, 3) := by decide +kernel
theorem dX8_printFilled_14 : decode cX8_printFilled 14 = .ok (.isub, 1) := by decide +kernel
theorem dX8_printFilled_15 : decode cX8_printFilled 15 = .ok (.istore_n 1, 1) := by decide +kernel
theorem dX8_printFilled_16 : decode cX8_printFilled 16 = .ok (.aload_n 0, 1) := by decide +kernel
theorem dX8_printFilled_17 : decode cX8_printFilled 17 = .ok (.getfield 33, 3) := by decide +kernel
theorem dX8_printFilled_20 : decode cX8_printFilled 20 = .ok (.getfield 177, 3) := by decide +kernel
theorem dX8_printFilled_23 : decode cX8_printFilled 23 = .ok (.ifCond .ne 13, 3) := by decide +kernel
theorem dX8_printFilled_26 : decode cX8_printFilled 26 = .ok (.aload_n 0, 1) := by decide +kernel
theorem dX8_printFilled_27 : decode cX8_printFilled 27 = .ok (.getfield 9, 3) := by decide +kernel
theorem dX8_printFilled_30 : decode cX8_printFilled 30 = .ok (.bipush 32, 2) := by decide +kernel
theorem dX8_printFilled_32 : decode cX8_printFilled 32 = .ok (.iload_n 1, 1) := by decide +kernel
theorem dX8_printFilled_33 : decode cX8_printFilled 33 = .ok (.invokevirtual 180, 3) := by decide +kernel
theorem dX8_printFilled_36 : decode cX8_printFilled 36 = .ok (.iconst 0, 1) := by decide +kernel
theorem dX8_printFilled_37 : decode cX8_printFilled 37 = .ok (.istore_n 2, 1) := by decide +kernel
theorem dX8_printFilled_38 : decode cX8_printFilled 38 = .ok (.iload_n 2, 1) := by decide +kernel
theorem dX8_printFilled_39 : decode cX8_printFilled 39 = .ok (.aload_n 0, 1) := by decide +kernel
theorem dX8_printFilled_40 : decode cX8_printFilled 40 = .ok (.getfield 42, 3) := by decide +kernel
theorem dX8_printFilled_43 : decode cX8_printFilled 43 = .ok (.invokevirtual 52, 3) := by decide +kernel
theorem dX8_printFilled_46 : decode cX8_printFilled 46 = .ok (.if_icmp .ge 24, 3) := by decide +kernel
theorem dX8_printFilled_49 : decode cX8_printFilled 49 = .ok (.aload_n 0, 1) := by decide +kernel
theorem dX8_printFilled_50 : decode cX8_printFilled 50 = .ok (.getfield 9, 3) := by decide +kernel
theorem dX8_printFilled_53 : decode cX8_printFilled 53 = .ok (.aload_n 0, 1) := by decide +kernel
theorem dX8_printFilled_54 : decode cX8_printFilled 54 = .ok (.getfield 42, 3) := by decide +kernel
theorem dX8_printFilled_57 : decode cX8_printFilled 57 = .ok (.iload_n 2, 1) := by decide +kernel
theorem dX8_printFilled_58 : decode cX8_printFilled 58 = .ok (.invokevirtual 68, 3) := by decide +kernel
theorem dX8_printFilled_61 : decode cX8_printFilled 61 = .ok (.invokevirtual 75, 3) := by decide +kernel
theorem dX8_printFilled_64 : decode cX8_printFilled 64 = .ok (.iinc 2 1, 3) := by decide +kernel
theorem dX8_printFilled_67 : decode cX8_printFilled 67 = .ok (.goto (-29), 3) := by decide +kernel
theorem dX8_printFilled_70 : decode cX8_printFilled 70 = .ok (.aload_n 0, 1) := by decide +kernel
theorem dX8_printFilled_71 : decode cX8_printFilled 71 = .ok (.getfield 33, 3) := by decide +kernel
theorem dX8_printFilled_74 : decode cX8_printFilled 74 = .ok (.getfield 177, 3) := by decide +kernel
theorem dX8_printFilled_77 : decode cX8_printFilled 77 = .ok (.ifCond .eq 13, 3) := by decide +kernel
theorem dX8_printFilled_80 : decode cX8_printFilled 80 = .ok (.aload_n 0, 1) := by decide +kernel
theorem dX8_printFilled_81 : decode cX8_printFilled 81 = .ok (.getfield 9, 3) := by decide +kernel
theorem dX8_printFilled_84 : decode cX8_printFilled 84 = .ok (.bipush 32, 2) := by decide +kernel
theorem dX8_printFilled_86 : decode cX8_printFilled 86 = .ok (.iload_n 1, 1) := by decide +kernel
theorem dX8_printFilled_87 : decode cX8_printFilled 87 = .ok (.invokevirtual 180, 3) := by decide +kernel
theorem dX8_printFilled_90 : decode cX8_printFilled 90 = .ok (.return_, 1) := by decide +kernel
theorem dX8_printNumber_0 : decode cX8_printNumber 0 = .ok (.aload_n 0, 1) := by decide +kernel
theorem dX8_printNumber_1 : decode cX8_printNumber 1 = .ok (.lload_n 1, 1) := by decide +kernel
theorem dX8_printNumber_2 : decode cX8_printNumber 2 = .ok (.invokevirtual 184, 3) := by decide +kernel
theorem dX8_printNumber_5 : decode cX8_printNumber 5 = .ok (.lstore_n 3, 1) := by decide +kernel
theorem dX8_printNumber_6 : decode cX8_printNumber 6 = .ok (.aload_n 0, 1) := by decide +kernel
theorem dX8_printNumber_7 : decode cX8_printNumber 7 = .ok (.getfield 33, 3) := by decide +kernel
theorem dX8_printNumber_10 : decode cX8_printNumber 10 = .ok (.invokevirtual 188, 3) := by decide +kernel
theorem dX8_printNumber_13 : decode cX8_printNumber 13 = .ok (.ifCond .eq 13, 3) := by decide +kernel
theorem dX8_printNumber_16 : decode cX8_printNumber 16 = .ok (.lload_n 3, 1) := by decide +kernel
theorem dX8_printNumber_17 : decode cX8_printNumber 17 = .ok (.lconst 0, 1) := by decide +kernel
theorem dX8_printNumber_18 : decode cX8_printNumber 18 = .ok (.lcmp, 1) := by decide +kernel
theorem dX8_printNumber_19 : decode cX8_printNumber 19 = .ok (.ifCond .ge 7, 3) := by decide +kernel
theorem dX8_printNumber_22 : decode cX8_printNumber 22 = .ok (.iconst 1, 1) := by decide +kernel
theorem dX8_printNumber_23 : decode cX8_printNumber 23 = .ok (.goto 4, 3) := by decide +kernel
theorem dX8_printNumber_26 : decode cX8_printNumber 26 = .ok (.iconst 0, 1) := by decide +kernel
theorem dX8_printNumber_27 : decode cX8_printNumber 27 = .ok (.istore 5, 2) := by decide +kernel
theorem dX8_printNumber_29 : decode cX8_printNumber 29 = .ok (.aload_n 0, 1) := by decide +kernel
theorem dX8_printNumber_30 : decode cX8_printNumber 30 = .ok (.getfield 19, 3) := by decide +kernel
theorem dX8_printNumber_33 : decode cX8_printNumber 33 = .ok (.iload 5, 2) := by decide +kernel
theorem dX8_printNumber_35 : decode cX8_printNumber 35 = .ok (.ifCond .eq 8, 3) := by decide +kernel
theorem dX8_printNumber_38 : decode cX8_printNumber 38 = .ok (.lload_n 3, 1) := by decide +kernel
theorem dX8_printNumber_39 : decode cX8_printNumber 39 = .ok (.lneg, 1) := by decide +kernel
theorem dX8_printNumber_40 : decode cX8_printNumber 40 = .ok (.goto 4, 3) := by decide +kernel
theorem dX8_printNumber_43 : decode cX8_printNumber 43 = .ok (.lload_n 3, 1) := by decide +kernel
theorem dX8_printNumber_44 : decode cX8_printNumber 44 = .ok (.aload_n 0, 1) := by decide +kernel
theorem dX8_printNumber_45 : decode cX8_printNumber 45 = .ok (.getfield 33, 3) := by decide +kernel
theorem dX8_printNumber_48 : decode cX8_printNumber 48 = .ok (.invokevirtual 192, 3) := by decide +kernel
theorem dX8_printNumber_51 : decode cX8_printNumber 51 = .ok (.aload_n 0, 1) := by decide +kernel
theorem dX8_printNumber_52 : decode cX8_printNumber 52 = .ok (.getfield 33, 3) := by decide +kernel
theorem dX8_printNumber_55 : decode cX8_printNumber 55 = .ok (.getfield 111, 3) := by decide +kernel
theorem dX8_printNumber_58 : decode cX8_printNumber 58 = .ok (.bipush 88, 2) := by decide +kernel
theorem dX8_printNumber_60 : decode cX8_printNumber 60 = .ok (.if_icmp .ne 7, 3) := by decide +kernel
theorem dX8_printNumber_63 : decode cX8_printNumber 63 = .ok (.iconst 1, 1) := by decide +kernel
theorem dX8_printNumber_64 : decode cX8_printNumber 64 = .ok (.goto 4, 3) := by decide +kernel
theorem dX8_printNumber_67 : decode cX8_printNumber 67 = .ok (.iconst 0, 1) := by decide +kernel
theorem dX8_printNumber_68 : decode cX8_printNumber 68 = .ok (.invokevirtual 155, 3) := by decide +kernel
theorem dX8_printNumber_71 : decode cX8_printNumber 71 = .ok (.aload_n 0, 1) := by decide +kernel
theorem dX8_printNumber_72 : decode cX8_printNumber 72 = .ok (.invokevirtual 195, 3) := by decide +kernel
theorem dX8_printNumber_75 : decode cX8_printNumber 75 = .ok (.istore 6, 2) := by decide +kernel
theorem dX8_printNumber_77 : decode cX8_printNumber 77 = .ok (.aload_n 0, 1) := by decide +kernel
theorem dX8_printNumber_78 : decode cX8_printNumber 78 = .ok (.getfield 33, 3) := by decide +kernel
theorem dX8_printNumber_81 : decode cX8_printNumber 81 = .ok (.getfield 198, 3) := by decide +kernel
theorem dX8_printNumber_84 : decode cX8_printNumber 84 = .ok (.ifCond .eq 23, 3) := by decide +kernel
theorem dX8_printNumber_87 : decode cX8_printNumber 87 = .ok (.aload_n 0, 1) := by decide +kernel
theorem dX8_printNumber_88 : decode cX8_printNumber 88 = .ok (.getfield 33, 3) := by decide +kernel
theorem dX8_printNumber_91 : decode cX8_printNumber 91 = .ok (.invokevirtual 201, 3) := by decide +kernel
theorem dX8_printNumber_94 : decode cX8_printNumber 94 = .ok (.ifCond .eq 13, 3) := by decide +kernel
theorem dX8_printNumber_97 : decode cX8_printNumber 97 = .ok (.lload_n 3, 1) := by decide +kernel
theorem dX8_printNumber_98 : decode cX8_printNumber 98 = .ok (.lconst 0, 1) := by decide +kernel
theorem dX8_printNumber_99 : decode cX8_printNumber 99 = .ok (.lcmp, 1) := by decide +kernel
theorem dX8_printNumber_100 : decode cX8_printNumber 100 = .ok (.ifCond .eq 7, 3) := by decide +kernel
theorem dX8_printNumber_103 : decode cX8_printNumber 103 = .ok (.iconst 1, 1) := by decide +kernel
theorem dX8_printNumber_104 : decode cX8_printNumber 104 = .ok (.goto 4, 3) := by decide +kernel
theorem dX8_printNumber_107 : decode cX8_printNumber 107 = .ok (.iconst 0, 1) := by decide +kernel
theorem dX8_printNumber_108 : decode cX8_printNumber 108 = .ok (.istore 7, 2) := by decide +kernel
theorem dX8_printNumber_110 : decode cX8_printNumber 110 = .ok (.aload_n 0, 1) := by decide +kernel
theorem dX8_printNumber_111 : decode cX8_printNumber 111 = .ok (.iload 5, 2) := by decide +kernel
theorem dX8_printNumber_113 : decode cX8_printNumber 113 = .ok (.invokevirtual 204, 3) := by decide +kernel
theorem dX8_printNumber_116 : decode cX8_printNumber 116 = .ok (.istore 8, 2) := by decide +kernel
theorem dX8_printNumber_118 : decode cX8_printNumber 118 = .ok (.iload 7, 2) := by decide +kernel
theorem dX8_printNumber_120 : decode cX8_printNumber 120 = .ok (.ifCond .eq 7, 3) := by decide +kernel
theorem dX8_printNumber_123 : decode cX8_printNumber 123 = .ok (.iconst 2, 1) := by decide +kernel
theorem dX8_printNumber_124 : decode cX8_printNumber 124 = .ok (.goto 14, 3) := by decide +kernel
theorem dX8_printNumber_127 : decode cX8_printNumber 127 = .ok (.iload 8, 2) := by decide +kernel
theorem dX8_printNumber_129 : decode cX8_printNumber 129 = .ok (.iconst (-1), 1) := by decide +kernel
theorem dX8_printNumber_130 : decode cX8_printNumber 130 = .ok (.if_icmp .ne 7, 3) := by decide +kernel
theorem dX8_printNumber_133 : decode cX8_printNumber 133 = .ok (.iconst 0, 1) := by decide +kernel
theorem dX8_printNumber_134 : decode cX8_printNumber 134 = .ok (.goto 4, 3) := by decide +kernel
theorem dX8_printNumber_137 : decode cX8_printNumber 137 = .ok (.iconst 1, 1) := by decide +kernel
theorem dX8_printNumber_138 : decode cX8_printNumber 138 = .ok (.istore 9, 2) := by decide +kernel
theorem dX8_printNumber_140 : decode cX8_printNumber 140 = .ok (.aload_n 0, 1) := by decide +kernel
theorem dX8_printNumber_141 : decode cX8_printNumber 141 = .ok (.getfield 33, 3) := by decide +kernel
theorem dX8_printNumber_144 : decode cX8_printNumber 144 = .ok (.getfield 174, 3) := by decide +kernel
theorem dX8_printNumber_147 : decode cX8_printNumber 147 = .ok (.iload 9, 2) := by decide +kernel
theorem dX8_printNumber_149 : decode cX8_printNumber 149 = .ok (.isub, 1) := by decide +kernel
theorem dX8_printNumber_150 : decode cX8_printNumber 150 = .ok (.iload 6, 2) := by decide +kernel
theorem dX8_printNumber_152 : decode cX8_printNumber 152 = .ok (.isub, 1) := by decide +kernel
theorem dX8_printNumber_153 : decode cX8_printNumber 153 = .ok (.istore 10, 2) := by decide +kernel
theorem dX8_printNumber_155 : decode cX8_printNumber 155 = .ok (.aload_n 0, 1) := by decide +kernel
theorem dX8_printNumber_156 : decode cX8_printNumber 156 = .ok (.getfield 33, 3) := by decide +kernel
theorem dX8_printNumber_159 : decode cX8_printNumber 159 = .ok (.invokevirtual 208, 3) := by decide +kernel
theorem dX8_printNumber_162 : decode cX8_printNumber 162 = .ok (.istore 11, 2) := by decide +kernel
theorem dX8_printNumber_164 : decode cX8_printNumber 164 = .ok (.aload_n 0, 1) := by decide +kernel
theorem dX8_printNumber_165 : decode cX8_printNumber 165 = .ok (.getfield 33, 3) := by decide +kernel
theorem dX8_printNumber_168 : decode cX8_printNumber 168 = .ok (.getfield 177, 3) := by decide +kernel
theorem dX8_printNumber_171 : decode cX8_printNumber 171 = .ok (.ifCond .ne 19, 3) := by decide +kernel
theorem dX8_printNumber_174 : decode cX8_printNumber 174 = .ok (.iload 11, 2) := by decide +kernel
theorem dX8_printNumber_176 : decode cX8_printNumber 176 = .ok (.ifCond .ne 14, 3) := by decide +kernel
theorem dX8_printNumber_179 : decode cX8_printNumber 179 = .ok (.aload_n 0, 1) := by decide +kernel
theorem dX8_printNumber_180 : decode cX8_printNumber 180 = .ok (.getfield 9, 3) := by decide +kernel
theorem dX8_printNumber_183 : decode cX8_printNumber 183 = .ok (.bipush 32, 2) := by decide +kernel
theorem dX8_printNumber_185 : decode cX8_printNumber 185 = .ok (.iload 10, 2) := by decide +kernel
theorem dX8_printNumber_187 : decode cX8_printNumber 187 = .ok (.invokevirtual 180, 3) := by decide +kernel
theorem dX8_printNumber_190 : decode cX8_printNumber 190 = .ok (.iload 7, 2) := by decide +kernel
theorem dX8_printNumber_192 : decode cX8_printNumber 192 = .ok (.ifCond .eq 29, 3) := by decide +kernel
theorem dX8_printNumber_195 : decode cX8_printNumber 195 = .ok (.aload_n 0, 1) := by decide +kernel
theorem dX8_printNumber_196 : decode cX8_printNumber 196 = .ok (.getfield 9, 3) := by decide +kernel
theorem dX8_printNumber_199 : decode cX8_printNumber 199 = .ok (.bipush 48, 2) := by decide +kernel
theorem dX8_printNumber_201 : decode cX8_printNumber 201 = .ok (.invokevirtual 75, 3) := by decide +kernel
theorem dX8_printNumber_204 : decode cX8_printNumber 204 = .ok (.aload_n 0, 1) := by decide +kernel
theorem dX8_printNumber_205 : decode cX8_printNumber 205 = .ok (.getfield 9, 3) := by decide +kernel
theorem dX8_printNumber_208 : decode cX8_printNumber 208 = .ok (.aload_n 0, 1) := by decide +kernel
theorem dX8_printNumber_209 : decode cX8_printNumber 209 = .ok (.getfield 33, 3) := by decide +kernel
theorem dX8_printNumber_212 : decode cX8_printNumber 212 = .ok (.getfield 111, 3) := by decide +kernel
theorem dX8_printNumber_215 : decode cX8_printNumber 215 = .ok (.invokevirtual 75, 3) := by decide +kernel
theorem dX8_printNumber_218 : decode cX8_printNumber 218 = .ok (.goto 18, 3) := by decide +kernel
theorem dX8_printNumber_221 : decode cX8_printNumber 221 = .ok (.iload 8, 2) := by decide +kernel
theorem dX8_printNumber_223 : decode cX8_printNumber 223 = .ok (.iconst (-1), 1) := by decide +kernel
theorem dX8_printNumber_224 : decode cX8_printNumber 224 = .ok (.if_icmp .eq 12, 3) := by decide +kernel
theorem dX8_printNumber_227 : decode cX8_printNumber 227 = .ok (.aload_n 0, 1) := by decide +kernel
theorem dX8_printNumber_228 : decode cX8_printNumber 228 = .ok (.getfield 9, 3) := by decide +kernel
theorem dX8_printNumber_231 : decode cX8_printNumber 231 = .ok (.iload 8, 2) := by decide +kernel
theorem dX8_printNumber_233 : decode cX8_printNumber 233 = .ok (.invokevirtual 75, 3) := by decide +kernel
theorem dX8_printNumber_236 : decode cX8_printNumber 236 = .ok (.iload 11, 2) := by decide +kernel
theorem dX8_printNumber_238 : decode cX8_printNumber 238 = .ok (.ifCond .eq 14, 3) := by decide +kernel
theorem dX8_printNumber_241 : decode cX8_printNumber 241 = .ok (.aload_n 0, 1) := by decide +kernel
theorem dX8_printNumber_242 : decode cX8_printNumber 242 = .ok (.getfield 9, 3) := by decide +kernel
theorem dX8_printNumber_245 : decode cX8_printNumber 245 = .ok (.bipush 48, 2) := by decide +kernel
theorem dX8_printNumber_247 : decode cX8_printNumber 247 = .ok (.iload 10, 2) := by decide +kernel
theorem dX8_printNumber_249 : decode cX8_printNumber 249 = .ok (.invokevirtual 180, 3) := by decide +kernel
theorem dX8_printNumber_252 : decode cX8_printNumber 252 = .ok (.aload_n 0, 1) := by decide +kernel
theorem dX8_printNumber_253 : decode cX8_printNumber 253 = .ok (.getfield 19, 3) := by decide +kernel
theorem dX8_printNumber_256 : decode cX8_printNumber 256 = .ok (.aload_n 0, 1) := by decide +kernel
theorem dX8_printNumber_257 : decode cX8_printNumber 257 = .ok (.getfield 9, 3) := by decide +kernel
theorem dX8_printNumber_260 : decode cX8_printNumber 260 = .ok (.iload 6, 2) := by decide +kernel
theorem dX8_printNumber_262 : decode cX8_printNumber 262 = .ok (.invokevirtual 161, 3) := by decide +kernel
theorem dX8_printNumber_265 : decode cX8_printNumber 265 = .ok (.aload_n 0, 1) := by decide +kernel
theorem dX8_printNumber_266 : decode cX8_printNumber 266 = .ok (.getfield 33, 3) := by decide +kernel
theorem dX8_printNumber_269 : decode cX8_printNumber 269 = .ok (.getfield 177, 3) := by decide +kernel
theorem dX8_printNumber_272 : decode cX8_printNumber 272 = .ok (.ifCond .eq 14, 3) := by decide +kernel
theorem dX8_printNumber_275 : decode cX8_printNumber 275 = .ok (.aload_n 0, 1) := by decide +kernel
theorem dX8_printNumber_276 : decode cX8_printNumber 276 = .ok (.getfield 9, 3) := by decide +kernel
theorem dX8_printNumber_279 : decode cX8_printNumber 279 = .ok (.bipush 32, 2) := by decide +kernel
theorem dX8_printNumber_281 : decode cX8_printNumber 281 = .ok (.iload 10, 2) := by decide +kernel
theorem dX8_printNumber_283 : decode cX8_printNumber 283 = .ok (.invokevirtual 180, 3) := by decide +kernel
theorem dX8_printNumber_286 : decode cX8_printNumber 286 = .ok (.return_, 1) := by decide +kernel
theorem dX8_narrowed_0 : decode cX8_narrowed 0 = .ok (.bipush 64, 2) := by decide +kernel
theorem dX8_narrowed_2 : decode cX8_narrowed 2 = .ok (.aload_n 0, 1) := by decide +kernel
theorem dX8_narrowed_3 : decode cX8_narrowed 3 = .ok (.getfield 33, 3) := by decide +kernel
theorem dX8_narrowed_6 : decode cX8_narrowed 6 = .ok (.getfield 211, 3) := by decide +kernel
theorem dX8_narrowed_9 : decode cX8_narrowed 9 = .ok (.isub, 1) := by decide +kernel
theorem dX8_narrowed_10 : decode cX8_narrowed 10 = .ok (.istore_n 3, 1) := by decide +kernel
theorem dX8_narrowed_11 : decode cX8_narrowed 11 = .ok (.lload_n 1, 1) := by decide +kernel
theorem dX8_narrowed_12 : decode cX8_narrowed 12 = .ok (.iload_n 3, 1) := by decide +kernel
theorem dX8_narrowed_13 : decode cX8_narrowed 13 = .ok (.lshl, 1) := by decide +kernel
theorem dX8_narrowed_14 : decode cX8_narrowed 14 = .ok (.lstore 4, 2) := by decide +kernel
theorem dX8_narrowed_16 : decode cX8_narrowed 16 = .ok (.aload_n 0, 1) := by decide +kernel
theorem dX8_narrowed_17 : decode cX8_narrowed 17 = .ok (.getfield 33, 3) := by decide +kernel
theorem dX8_narrowed_20 : decode cX8_narrowed 20 = .ok (.invokevirtual 188, 3) := by decide +kernel
theorem dX8_narrowed_23 : decode cX8_narrowed 23 = .ok (.ifCond .eq 10, 3) := by decide +kernel
theorem dX8_narrowed_26 : decode cX8_narrowed 26 = .ok (.lload 4, 2) := by decide +kernel
theorem dX8_narrowed_28 : decode cX8_narrowed 28 = .ok (.iload_n 3, 1) := by decide +kernel
theorem dX8_narrowed_29 : decode cX8_narrowed 29 = .ok (.lshr, 1) := by decide +kernel
theorem dX8_narrowed_30 : decode cX8_narrowed 30 = .ok (.goto 7, 3) := by decide +kernel
theorem dX8_narrowed_33 : decode cX8_narrowed 33 = .ok (.lload 4, 2) := by decide +kernel
theorem dX8_narrowed_35 : decode cX8_narrowed 35 = .ok (.iload_n 3, 1) := by decide +kernel
theorem dX8_narrowed_36 : decode cX8_narrowed 36 = .ok (.lushr, 1) := by decide +kernel
theorem dX8_narrowed_37 : decode cX8_narrowed 37 = .ok (.lreturn, 1) := by decide +kernel
theorem dX8_digitsDue_0 : decode cX8_digitsDue 0 = .ok (.aload_n 0, 1) := by decide +kernel
theorem dX8_digitsDue_1 : decode cX8_digitsDue 1 = .ok (.getfield 33, 3) := by decide +kernel
theorem dX8_digitsDue_4 : decode cX8_digitsDue 4 = .ok (.getfield 168, 3) := by decide +kernel
theorem dX8_digitsDue_7 : decode cX8_digitsDue 7 = .ok (.iconst (-1), 1) := by decide +kernel
theorem dX8_digitsDue_8 : decode cX8_digitsDue 8 = .ok (.if_icmp .ne 7, 3) := by decide +kernel
theorem dX8_digitsDue_11 : decode cX8_digitsDue 11 = .ok (.iconst 1, 1) := by decide +kernel
theorem dX8_digitsDue_12 : decode cX8_digitsDue 12 = .ok (.goto 10, 3) := by decide +kernel
theorem dX8_digitsDue_15 : decode cX8_digitsDue 15 = .ok (.aload_n 0, 1) := by decide +kernel
theorem dX8_digitsDue_16 : decode cX8_digitsDue 16 = .ok (.getfield 33, 3) := by decide +kernel
theorem dX8_digitsDue_19 : decode cX8_digitsDue 19 = .ok (.getfield 168, 3) := by decide +kernel
theorem dX8_digitsDue_22 : decode cX8_digitsDue 22 = .ok (.istore_n 1, 1) := by decide +kernel
theorem dX8_digitsDue_23 : decode cX8_digitsDue 23 = .ok (.iload_n 1, 1) := by decide +kernel
theorem dX8_digitsDue_24 : decode cX8_digitsDue 24 = .ok (.aload_n 0, 1) := by decide +kernel
theorem dX8_digitsDue_25 : decode cX8_digitsDue 25 = .ok (.getfield 19, 3) := by decide +kernel
theorem dX8_digitsDue_28 : decode cX8_digitsDue 28 = .ok (.invokevirtual 214, 3) := by decide +kernel
theorem dX8_digitsDue_31 : decode cX8_digitsDue 31 = .ok (.invokestatic 215, 3) := by decide +kernel
theorem dX8_digitsDue_34 : decode cX8_digitsDue 34 = .ok (.istore_n 2, 1) := by decide +kernel
theorem dX8_digitsDue_35 : decode cX8_digitsDue 35 = .ok (.aload_n 0, 1) := by decide +kernel
theorem dX8_digitsDue_36 : decode cX8_digitsDue 36 = .ok (.getfield 33, 3) := by decide +kernel
theorem dX8_digitsDue_39 : decode cX8_digitsDue 39 = .ok (.getfield 198, 3) := by decide +kernel
theorem dX8_digitsDue_42 : decode cX8_digitsDue 42 = .ok (.ifCond .eq 29, 3) := by decide +kernel
theorem dX8_digitsDue_45 : decode cX8_digitsDue 45 = .ok (.aload_n 0, 1) := by decide +kernel
theorem dX8_digitsDue_46 : decode cX8_digitsDue 46 = .ok (.getfield 33, 3) := by decide +kernel
theorem dX8_digitsDue_49 : decode cX8_digitsDue 49 = .ok (.getfield 111, 3) := by decide +kernel
theorem dX8_digitsDue_52 : decode cX8_digitsDue 52 = .ok (.bipush 111, 2) := by decide +kernel
theorem dX8_digitsDue_54 : decode cX8_digitsDue 54 = .ok (.if_icmp .ne 17, 3) := by decide +kernel
theorem dX8_digitsDue_57 : decode cX8_digitsDue 57 = .ok (.iload_n 2, 1) := by decide +kernel
theorem dX8_digitsDue_58 : decode cX8_digitsDue 58 = .ok (.aload_n 0, 1) := by decide +kernel
theorem dX8_digitsDue_59 : decode cX8_digitsDue 59 = .ok (.getfield 19, 3) := by decide +kernel
theorem dX8_digitsDue_62 : decode cX8_digitsDue 62 = .ok (.invokevirtual 214, 3) := by decide +kernel
theorem dX8_digitsDue_65 : decode cX8_digitsDue 65 = .ok (.if_icmp .ne 6, 3) := by decide +kernel
theorem dX8_digitsDue_68 : decode cX8_digitsDue 68 = .ok (.iinc 2 1, 3) := by decide +kernel
theorem dX8_digitsDue_71 : decode cX8_digitsDue 71 = .ok (.iload_n 2, 1) := by decide +kernel
theorem dX8_digitsDue_72 : decode cX8_digitsDue 72 = .ok (.ireturn, 1) := by decide +kernel
theorem dX8_signOf_0 : decode cX8_signOf 0 = .ok (.aload_n 0, 1) := by decide +kernel
theorem dX8_signOf_1 : decode cX8_signOf 1 = .ok (.getfield 33, 3) := by decide +kernel
theorem dX8_signOf_4 : decode cX8_signOf 4 = .ok (.invokevirtual 188, 3) := by decide +kernel
theorem dX8_signOf_7 : decode cX8_signOf 7 = .ok (.ifCond .ne 5, 3) := by decide +kernel
theorem dX8_signOf_10 : decode cX8_signOf 10 = .ok (.iconst (-1), 1) := by decide +kernel
theorem dX8_signOf_11 : decode cX8_signOf 11 = .ok (.ireturn, 1) := by decide +kernel
theorem dX8_signOf_12 : decode cX8_signOf 12 = .ok (.iload_n 1, 1) := by decide +kernel
theorem dX8_signOf_13 : decode cX8_signOf 13 = .ok (.ifCond .eq 6, 3) := by decide +kernel
theorem dX8_signOf_16 : decode cX8_signOf 16 = .ok (.bipush 45, 2) := by decide +kernel
theorem dX8_signOf_18 : decode cX8_signOf 18 = .ok (.ireturn, 1) := by decide +kernel
theorem dX8_signOf_19 : decode cX8_signOf 19 = .ok (.aload_n 0, 1) := by decide +kernel
theorem dX8_signOf_20 : decode cX8_signOf 20 = .ok (.getfield 33, 3) := by decide +kernel
theorem dX8_signOf_23 : decode cX8_signOf 23 = .ok (.getfield 221, 3) := by decide +kernel
theorem dX8_signOf_26 : decode cX8_signOf 26 = .ok (.ifCond .eq 6, 3) := by decide +kernel
theorem dX8_signOf_29 : decode cX8_signOf 29 = .ok (.bipush 43, 2) := by decide +kernel
theorem dX8_signOf_31 : decode cX8_signOf 31 = .ok (.ireturn, 1) := by decide +kernel
theorem dX8_signOf_32 : decode cX8_signOf 32 = .ok (.aload_n 0, 1) := by decide +kernel
theorem dX8_signOf_33 : decode cX8_signOf 33 = .ok (.getfield 33, 3) := by decide +kernel
theorem dX8_signOf_36 : decode cX8_signOf 36 = .ok (.getfield 224, 3) := by decide +kernel
theorem dX8_signOf_39 : decode cX8_signOf 39 = .ok (.ifCond .eq 8, 3) := by decide +kernel
theorem dX8_signOf_42 : decode cX8_signOf 42 = .ok (.bipush 32, 2) := by decide +kernel
theorem dX8_signOf_44 : decode cX8_signOf 44 = .ok (.goto 4, 3) := by decide +kernel
theorem dX8_signOf_47 : decode cX8_signOf 47 = .ok (.iconst (-1), 1) := by decide +kernel
theorem dX8_signOf_48 : decode cX8_signOf 48 = .ok (.ireturn, 1) := by decide +kernel
