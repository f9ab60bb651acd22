theorem dX12_printRow_59 : decode cX12_printRow 59 = .ok (.caload, 1) := by decide +kernel
theorem dX12_printRow_60 : decode cX12_printRow 60 = .ok (.invokevirtual 87, 3) := by decide +kernel
theorem dX12_printRow_63 : decode cX12_printRow 63 = .ok (.iinc 2 1, 3) := by decide +kernel
theorem dX12_printRow_66 : decode cX12_printRow 66 = .ok (.goto (-21), 3) := by decide +kernel
theorem dX12_printRow_69 : decode cX12_printRow 69 = .ok (.aload_n 0, 1) := by decide +kernel
theorem dX12_printRow_70 : decode cX12_printRow 70 = .ok (.bipush 32, 2) := by decide +kernel
theorem dX12_printRow_72 : decode cX12_printRow 72 = .ok (.aload_n 0, 1) := by decide +kernel
theorem dX12_printRow_73 : decode cX12_printRow 73 = .ok (.getfield 91, 3) := by decide +kernel
theorem dX12_printRow_76 : decode cX12_printRow 76 = .ok (.ifCond .eq 7, 3) := by decide +kernel
theorem dX12_printRow_79 : decode cX12_printRow 79 = .ok (.iload_n 1, 1) := by decide +kernel
theorem dX12_printRow_80 : decode cX12_printRow 80 = .ok (.goto 4, 3) := by decide +kernel
theorem dX12_printRow_83 : decode cX12_printRow 83 = .ok (.iconst 0, 1) := by decide +kernel
theorem dX12_printRow_84 : decode cX12_printRow 84 = .ok (.invokevirtual 181, 3) := by decide +kernel
theorem dX12_printRow_87 : decode cX12_printRow 87 = .ok (.return_, 1) := by decide +kernel
theorem dX12_undo_0 : decode cX12_undo 0 = .ok (.aload_n 0, 1) := by decide +kernel
theorem dX12_undo_1 : decode cX12_undo 1 = .ok (.getfield 163, 3) := by decide +kernel
theorem dX12_undo_4 : decode cX12_undo 4 = .ok (.istore_n 1, 1) := by decide +kernel
theorem dX12_undo_5 : decode cX12_undo 5 = .ok (.iconst 0, 1) := by decide +kernel
theorem dX12_undo_6 : decode cX12_undo 6 = .ok (.istore_n 2, 1) := by decide +kernel
theorem dX12_undo_7 : decode cX12_undo 7 = .ok (.aload_n 0, 1) := by decide +kernel
theorem dX12_undo_8 : decode cX12_undo 8 = .ok (.iconst 0, 1) := by decide +kernel
theorem dX12_undo_9 : decode cX12_undo 9 = .ok (.putfield 163, 3) := by decide +kernel
theorem dX12_undo_12 : decode cX12_undo 12 = .ok (.iconst 0, 1) := by decide +kernel
theorem dX12_undo_13 : decode cX12_undo 13 = .ok (.istore_n 3, 1) := by decide +kernel
theorem dX12_undo_14 : decode cX12_undo 14 = .ok (.iload_n 2, 1) := by decide +kernel
theorem dX12_undo_15 : decode cX12_undo 15 = .ok (.iload_n 1, 1) := by decide +kernel
theorem dX12_undo_16 : decode cX12_undo 16 = .ok (.if_icmp .ge 257, 3) := by decide +kernel
theorem dX12_undo_19 : decode cX12_undo 19 = .ok (.iload_n 3, 1) := by decide +kernel
theorem dX12_undo_20 : decode cX12_undo 20 = .ok (.ifCond .ne 253, 3) := by decide +kernel
theorem dX12_undo_23 : decode cX12_undo 23 = .ok (.aload_n 0, 1) := by decide +kernel
theorem dX12_undo_24 : decode cX12_undo 24 = .ok (.getfield 41, 3) := by decide +kernel
theorem dX12_undo_27 : decode cX12_undo 27 = .ok (.iload_n 2, 1) := by decide +kernel
theorem dX12_undo_28 : decode cX12_undo 28 = .ok (.caload, 1) := by decide +kernel
theorem dX12_undo_29 : decode cX12_undo 29 = .ok (.istore 4, 2) := by decide +kernel
theorem dX12_undo_31 : decode cX12_undo 31 = .ok (.iload_n 2, 1) := by decide +kernel
theorem dX12_undo_32 : decode cX12_undo 32 = .ok (.iconst 1, 1) := by decide +kernel
theorem dX12_undo_33 : decode cX12_undo 33 = .ok (.iadd, 1) := by decide +kernel
theorem dX12_undo_34 : decode cX12_undo 34 = .ok (.iload_n 1, 1) := by decide +kernel
theorem dX12_undo_35 : decode cX12_undo 35 = .ok (.if_icmp .ge 14, 3) := by decide +kernel
theorem dX12_undo_38 : decode cX12_undo 38 = .ok (.aload_n 0, 1) := by decide +kernel
theorem dX12_undo_39 : decode cX12_undo 39 = .ok (.getfield 41, 3) := by decide +kernel
theorem dX12_undo_42 : decode cX12_undo 42 = .ok (.iload_n 2, 1) := by decide +kernel
theorem dX12_undo_43 : decode cX12_undo 43 = .ok (.iconst 1, 1) := by decide +kernel
theorem dX12_undo_44 : decode cX12_undo 44 = .ok (.iadd, 1) := by decide +kernel
theorem dX12_undo_45 : decode cX12_undo 45 = .ok (.caload, 1) := by decide +kernel
theorem dX12_undo_46 : decode cX12_undo 46 = .ok (.goto 4, 3) := by decide +kernel
theorem dX12_undo_49 : decode cX12_undo 49 = .ok (.iconst 0, 1) := by decide +kernel
theorem dX12_undo_50 : decode cX12_undo 50 = .ok (.istore 5, 2) := by decide +kernel
theorem dX12_undo_52 : decode cX12_undo 52 = .ok (.iload 4, 2) := by decide +kernel
theorem dX12_undo_54 : decode cX12_undo 54 = .ok (.bipush 92, 2) := by decide +kernel
theorem dX12_undo_56 : decode cX12_undo 56 = .ok (.if_icmp .ne 27, 3) := by decide +kernel
theorem dX12_undo_59 : decode cX12_undo 59 = .ok (.iload_n 2, 1) := by decide +kernel
theorem dX12_undo_60 : decode cX12_undo 60 = .ok (.iconst 1, 1) := by decide +kernel
theorem dX12_undo_61 : decode cX12_undo 61 = .ok (.iadd, 1) := by decide +kernel
theorem dX12_undo_62 : decode cX12_undo 62 = .ok (.iload_n 1, 1) := by decide +kernel
theorem dX12_undo_63 : decode cX12_undo 63 = .ok (.if_icmp .ge 20, 3) := by decide +kernel
theorem dX12_undo_66 : decode cX12_undo 66 = .ok (.iload 5, 2) := by decide +kernel
theorem dX12_undo_68 : decode cX12_undo 68 = .ok (.bipush 99, 2) := by decide +kernel
theorem dX12_undo_70 : decode cX12_undo 70 = .ok (.if_icmp .ne 13, 3) := by decide +kernel
theorem dX12_undo_73 : decode cX12_undo 73 = .ok (.aload_n 0, 1) := by decide +kernel
theorem dX12_undo_74 : decode cX12_undo 74 = .ok (.iconst 1, 1) := by decide +kernel
theorem dX12_undo_75 : decode cX12_undo 75 = .ok (.putfield 188, 3) := by decide +kernel
theorem dX12_undo_78 : decode cX12_undo 78 = .ok (.iconst 1, 1) := by decide +kernel
theorem dX12_undo_79 : decode cX12_undo 79 = .ok (.istore_n 3, 1) := by decide +kernel
theorem dX12_undo_80 : decode cX12_undo 80 = .ok (.goto 190, 3) := by decide +kernel
theorem dX12_undo_83 : decode cX12_undo 83 = .ok (.iload 4, 2) := by decide +kernel
theorem dX12_undo_85 : decode cX12_undo 85 = .ok (.bipush 92, 2) := by decide +kernel
theorem dX12_undo_87 : decode cX12_undo 87 = .ok (.if_icmp .ne 105, 3) := by decide +kernel
theorem dX12_undo_90 : decode cX12_undo 90 = .ok (.iload_n 2, 1) := by decide +kernel
theorem dX12_undo_91 : decode cX12_undo 91 = .ok (.iconst 1, 1) := by decide +kernel
theorem dX12_undo_92 : decode cX12_undo 92 = .ok (.iadd, 1) := by decide +kernel
theorem dX12_undo_93 : decode cX12_undo 93 = .ok (.iload_n 1, 1) := by decide +kernel
theorem dX12_undo_94 : decode cX12_undo 94 = .ok (.if_icmp .ge 98, 3) := by decide +kernel
theorem dX12_undo_97 : decode cX12_undo 97 = .ok (.iload 5, 2) := by decide +kernel
theorem dX12_undo_99 : decode cX12_undo 99 = .ok (.bipush 48, 2) := by decide +kernel
theorem dX12_undo_101 : decode cX12_undo 101 = .ok (.if_icmp .ne 91, 3) := by decide +kernel
theorem dX12_undo_104 : decode cX12_undo 104 = .ok (.iconst 0, 1) := by decide +kernel
theorem dX12_undo_105 : decode cX12_undo 105 = .ok (.istore 6, 2) := by decide +kernel
theorem dX12_undo_107 : decode cX12_undo 107 = .ok (.iload_n 2, 1) := by decide +kernel
theorem dX12_undo_108 : decode cX12_undo 108 = .ok (.iconst 2, 1) := by decide +kernel
theorem dX12_undo_109 : decode cX12_undo 109 = .ok (.iadd, 1) := by decide +kernel
theorem dX12_undo_110 : decode cX12_undo 110 = .ok (.istore_n 2, 1) := by decide +kernel
theorem dX12_undo_111 : decode cX12_undo 111 = .ok (.iconst 0, 1) := by decide +kernel
theorem dX12_undo_112 : decode cX12_undo 112 = .ok (.istore 7, 2) := by decide +kernel
theorem dX12_undo_114 : decode cX12_undo 114 = .ok (.iload 7, 2) := by decide +kernel
theorem dX12_undo_116 : decode cX12_undo 116 = .ok (.iconst 3, 1) := by decide +kernel
theorem dX12_undo_117 : decode cX12_undo 117 = .ok (.if_icmp .ge 46, 3) := by decide +kernel
theorem dX12_undo_120 : decode cX12_undo 120 = .ok (.iload_n 2, 1) := by decide +kernel
theorem dX12_undo_121 : decode cX12_undo 121 = .ok (.iload_n 1, 1) := by decide +kernel
theorem dX12_undo_122 : decode cX12_undo 122 = .ok (.if_icmp .ge 41, 3) := by decide +kernel
theorem dX12_undo_125 : decode cX12_undo 125 = .ok (.aload_n 0, 1) := by decide +kernel
theorem dX12_undo_126 : decode cX12_undo 126 = .ok (.getfield 41, 3) := by decide +kernel
theorem dX12_undo_129 : decode cX12_undo 129 = .ok (.iload_n 2, 1) := by decide +kernel
theorem dX12_undo_130 : decode cX12_undo 130 = .ok (.caload, 1) := by decide +kernel
theorem dX12_undo_131 : decode cX12_undo 131 = .ok (.invokestatic 130, 3) := by decide +kernel
theorem dX12_undo_134 : decode cX12_undo 134 = .ok (.ifCond .eq 29, 3) := by decide +kernel
theorem dX12_undo_137 : decode cX12_undo 137 = .ok (.bipush 8, 2) := by decide +kernel
theorem dX12_undo_139 : decode cX12_undo 139 = .ok (.iload 6, 2) := by decide +kernel
theorem dX12_undo_141 : decode cX12_undo 141 = .ok (.imul, 1) := by decide +kernel
theorem dX12_undo_142 : decode cX12_undo 142 = .ok (.aload_n 0, 1) := by decide +kernel
theorem dX12_undo_143 : decode cX12_undo 143 = .ok (.getfield 41, 3) := by decide +kernel
theorem dX12_undo_146 : decode cX12_undo 146 = .ok (.iload_n 2, 1) := by decide +kernel
theorem dX12_undo_147 : decode cX12_undo 147 = .ok (.caload, 1) := by decide +kernel
theorem dX12_undo_148 : decode cX12_undo 148 = .ok (.iadd, 1) := by decide +kernel
theorem dX12_undo_149 : decode cX12_undo 149 = .ok (.bipush 48, 2) := by decide +kernel
theorem dX12_undo_151 : decode cX12_undo 151 = .ok (.isub, 1) := by decide +kernel
theorem dX12_undo_152 : decode cX12_undo 152 = .ok (.istore 6, 2) := by decide +kernel
theorem dX12_undo_154 : decode cX12_undo 154 = .ok (.iinc 2 1, 3) := by decide +kernel
theorem dX12_undo_157 : decode cX12_undo 157 = .ok (.iinc 7 1, 3) := by decide +kernel
theorem dX12_undo_160 : decode cX12_undo 160 = .ok (.goto (-46), 3) := by decide +kernel
theorem dX12_undo_163 : decode cX12_undo 163 = .ok (.aload_n 0, 1) := by decide +kernel
theorem dX12_undo_164 : decode cX12_undo 164 = .ok (.getfield 41, 3) := by decide +kernel
theorem dX12_undo_167 : decode cX12_undo 167 = .ok (.aload_n 0, 1) := by decide +kernel
theorem dX12_undo_168 : decode cX12_undo 168 = .ok (.getfield 163, 3) := by decide +kernel
theorem dX12_undo_171 : decode cX12_undo 171 = .ok (.iload 6, 2) := by decide +kernel
theorem dX12_undo_173 : decode cX12_undo 173 = .ok (.sipush 255, 3) := by decide +kernel
theorem dX12_undo_176 : decode cX12_undo 176 = .ok (.iand, 1) := by decide +kernel
theorem dX12_undo_177 : decode cX12_undo 177 = .ok (.i2c, 1) := by decide +kernel
theorem dX12_undo_178 : decode cX12_undo 178 = .ok (.castore, 1) := by decide +kernel
theorem dX12_undo_179 : decode cX12_undo 179 = .ok (.aload_n 0, 1) := by decide +kernel
theorem dX12_undo_180 : decode cX12_undo 180 = .ok (.dup, 1) := by decide +kernel
theorem dX12_undo_181 : decode cX12_undo 181 = .ok (.getfield 163, 3) := by decide +kernel
theorem dX12_undo_184 : decode cX12_undo 184 = .ok (.iconst 1, 1) := by decide +kernel
theorem dX12_undo_185 : decode cX12_undo 185 = .ok (.iadd, 1) := by decide +kernel
theorem dX12_undo_186 : decode cX12_undo 186 = .ok (.putfield 163, 3) := by decide +kernel
theorem dX12_undo_189 : decode cX12_undo 189 = .ok (.goto 81, 3) := by decide +kernel
theorem dX12_undo_192 : decode cX12_undo 192 = .ok (.iload 4, 2) := by decide +kernel
theorem dX12_undo_194 : decode cX12_undo 194 = .ok (.bipush 92, 2) := by decide +kernel
theorem dX12_undo_196 : decode cX12_undo 196 = .ok (.if_icmp .ne 50, 3) := by decide +kernel
theorem dX12_undo_199 : decode cX12_undo 199 = .ok (.iload_n 2, 1) := by decide +kernel
theorem dX12_undo_200 : decode cX12_undo 200 = .ok (.iconst 1, 1) := by decide +kernel
theorem dX12_undo_201 : decode cX12_undo 201 = .ok (.iadd, 1) := by decide +kernel
theorem dX12_undo_202 : decode cX12_undo 202 = .ok (.iload_n 1, 1) := by decide +kernel
theorem dX12_undo_203 : decode cX12_undo 203 = .ok (.if_icmp .ge 43, 3) := by decide +kernel
theorem dX12_undo_206 : decode cX12_undo 206 = .ok (.iload 5, 2) := by decide +kernel
theorem dX12_undo_208 : decode cX12_undo 208 = .ok (.invokestatic 134, 3) := by decide +kernel
theorem dX12_undo_211 : decode cX12_undo 211 = .ok (.ifCond .lt 35, 3) := by decide +kernel
theorem dX12_undo_214 : decode cX12_undo 214 = .ok (.aload_n 0, 1) := by decide +kernel
theorem dX12_undo_215 : decode cX12_undo 215 = .ok (.getfield 41, 3) := by decide +kernel
theorem dX12_undo_218 : decode cX12_undo 218 = .ok (.aload_n 0, 1) := by decide +kernel
theorem dX12_undo_219 : decode cX12_undo 219 = .ok (.getfield 163, 3) := by decide +kernel
theorem dX12_undo_222 : decode cX12_undo 222 = .ok (.iload 5, 2) := by decide +kernel
theorem dX12_undo_224 : decode cX12_undo 224 = .ok (.invokestatic 134, 3) := by decide +kernel
theorem dX12_undo_227 : decode cX12_undo 227 = .ok (.i2c, 1) := by decide +kernel
theorem dX12_undo_228 : decode cX12_undo 228 = .ok (.castore, 1) := by decide +kernel
theorem dX12_undo_229 : decode cX12_undo 229 = .ok (.aload_n 0, 1) := by decide +kernel
theorem dX12_undo_230 : decode cX12_undo 230 = .ok (.dup, 1) := by decide +kernel
theorem dX12_undo_231 : decode cX12_undo 231 = .ok (.getfield 163, 3) := by decide +kernel
theorem dX12_undo_234 : decode cX12_undo 234 = .ok (.iconst 1, 1) := by decide +kernel
theorem dX12_undo_235 : decode cX12_undo 235 = .ok (.iadd, 1) := by decide +kernel
theorem dX12_undo_236 : decode cX12_undo 236 = .ok (.putfield 163, 3) := by decide +kernel
theorem dX12_undo_239 : decode cX12_undo 239 = .ok (.iload_n 2, 1) := by decide +kernel
theorem dX12_undo_240 : decode cX12_undo 240 = .ok (.iconst 2, 1) := by decide +kernel
theorem dX12_undo_241 : decode cX12_undo 241 = .ok (.iadd, 1) := by decide +kernel
theorem dX12_undo_242 : decode cX12_undo 242 = .ok (.istore_n 2, 1) := by decide +kernel
theorem dX12_undo_243 : decode cX12_undo 243 = .ok (.goto 27, 3) := by decide +kernel
theorem dX12_undo_246 : decode cX12_undo 246 = .ok (.aload_n 0, 1) := by decide +kernel
theorem dX12_undo_247 : decode cX12_undo 247 = .ok (.getfield 41, 3) := by decide +kernel
theorem dX12_undo_250 : decode cX12_undo 250 = .ok (.aload_n 0, 1) := by decide +kernel
theorem dX12_undo_251 : decode cX12_undo 251 = .ok (.getfield 163, 3) := by decide +kernel
theorem dX12_undo_254 : decode cX12_undo 254 = .ok (.iload 4, 2) := by decide +kernel
theorem dX12_undo_256 : decode cX12_undo 256 = .ok (.castore, 1) := by decide +kernel
theorem dX12_undo_257 : decode cX12_undo 257 = .ok (.aload_n 0, 1) := by decide +kernel
theorem dX12_undo_258 : decode cX12_undo 258 = .ok (.dup, 1) := by decide +kernel
theorem dX12_undo_259 : decode cX12_undo 259 = .ok (.getfield 163, 3) := by decide +kernel
theorem dX12_undo_262 : decode cX12_undo 262 = .ok (.iconst 1, 1) := by decide +kernel
theorem dX12_undo_263 : decode cX12_undo 263 = .ok (.iadd, 1) := by decide +kernel
theorem dX12_undo_264 : decode cX12_undo 264 = .ok (.putfield 163, 3) := by decide +kernel
theorem dX12_undo_267 : decode cX12_undo 267 = .ok (.iinc 2 1, 3) := by decide +kernel
theorem dX12_undo_270 : decode cX12_undo 270 = .ok (.goto (-256), 3) := by decide +kernel
theorem dX12_undo_273 : decode cX12_undo 273 = .ok (.return_, 1) := by decide +kernel
theorem dX12_printDirective_0 : decode cX12_printDirective 0 = .ok (.aload_n 0, 1) := by decide +kernel
theorem dX12_printDirective_1 : decode cX12_printDirective 1 = .ok (.getfield 113, 3) := by decide +kernel
theorem dX12_printDirective_4 : decode cX12_printDirective 4 = .ok (.bipush (-2), 2) := by decide +kernel
theorem dX12_printDirective_6 : decode cX12_printDirective 6 = .ok (.if_icmp .ne 60, 3) := by decide +kernel
theorem dX12_printDirective_9 : decode cX12_printDirective 9 = .ok (.aload_n 0, 1) := by decide +kernel
theorem dX12_printDirective_10 : decode cX12_printDirective 10 = .ok (.aload_n 0, 1) := by decide +kernel
theorem dX12_printDirective_11 : decode cX12_printDirective 11 = .ok (.invokevirtual 177, 3) := by decide +kernel
theorem dX12_printDirective_14 : decode cX12_printDirective 14 = .ok (.invokestatic 191, 3) := by decide +kernel
theorem dX12_printDirective_17 : decode cX12_printDirective 17 = .ok (.putfield 113, 3) := by decide +kernel
theorem dX12_printDirective_20 : decode cX12_printDirective 20 = .ok (.aload_n 0, 1) := by decide +kernel
theorem dX12_printDirective_21 : decode cX12_printDirective 21 = .ok (.aload_n 0, 1) := by decide +kernel
theorem dX12_printDirective_22 : decode cX12_printDirective 22 = .ok (.getfield 91, 3) := by decide +kernel
theorem dX12_printDirective_25 : decode cX12_printDirective 25 = .ok (.ifCond .ne 10, 3) := by decide +kernel
theorem dX12_printDirective_28 : decode cX12_printDirective 28 = .ok (.aload_n 0, 1) := by decide +kernel
theorem dX12_printDirective_29 : decode cX12_printDirective 29 = .ok (.getfield 113, 3) := by decide +kernel
theorem dX12_printDirective_32 : decode cX12_printDirective 32 = .ok (.ifCond .ge 7, 3) := by decide +kernel
theorem dX12_printDirective_35 : decode cX12_printDirective 35 = .ok (.iconst 1, 1) := by decide +kernel
theorem dX12_printDirective_36 : decode cX12_printDirective 36 = .ok (.goto 4, 3) := by decide +kernel
theorem dX12_printDirective_39 : decode cX12_printDirective 39 = .ok (.iconst 0, 1) := by decide +kernel
theorem dX12_printDirective_40 : decode cX12_printDirective 40 = .ok (.putfield 91, 3) := by decide +kernel
theorem dX12_printDirective_43 : decode cX12_printDirective 43 = .ok (.aload_n 0, 1) := by decide +kernel
theorem dX12_printDirective_44 : decode cX12_printDirective 44 = .ok (.aload_n 0, 1) := by decide +kernel
theorem dX12_printDirective_45 : decode cX12_printDirective 45 = .ok (.getfield 113, 3) := by decide +kernel
theorem dX12_printDirective_48 : decode cX12_printDirective 48 = .ok (.ifCond .ge 11, 3) := by decide +kernel
theorem dX12_printDirective_51 : decode cX12_printDirective 51 = .ok (.aload_n 0, 1) := by decide +kernel
theorem dX12_printDirective_52 : decode cX12_printDirective 52 = .ok (.getfield 113, 3) := by decide +kernel
theorem dX12_printDirective_55 : decode cX12_printDirective 55 = .ok (.ineg, 1) := by decide +kernel
theorem dX12_printDirective_56 : decode cX12_printDirective 56 = .ok (.goto 7, 3) := by decide +kernel
theorem dX12_printDirective_59 : decode cX12_printDirective 59 = .ok (.aload_n 0, 1) := by decide +kernel
theorem dX12_printDirective_60 : decode cX12_printDirective 60 = .ok (.getfield 113, 3) := by decide +kernel
theorem dX12_printDirective_63 : decode cX12_printDirective 63 = .ok (.putfield 113, 3) := by decide +kernel
theorem dX12_printDirective_66 : decode cX12_printDirective 66 = .ok (.aload_n 0, 1) := by decide +kernel
theorem dX12_printDirective_67 : decode cX12_printDirective 67 = .ok (.getfield 120, 3) := by decide +kernel
theorem dX12_printDirective_70 : decode cX12_printDirective 70 = .ok (.bipush (-3), 2) := by decide +kernel
theorem dX12_printDirective_72 : decode cX12_printDirective 72 = .ok (.if_icmp .ne 33, 3) := by decide +kernel
theorem dX12_printDirective_75 : decode cX12_printDirective 75 = .ok (.aload_n 0, 1) := by decide +kernel
theorem dX12_printDirective_76 : decode cX12_printDirective 76 = .ok (.aload_n 0, 1) := by decide +kernel
theorem dX12_printDirective_77 : decode cX12_printDirective 77 = .ok (.invokevirtual 177, 3) := by decide +kernel
theorem dX12_printDirective_80 : decode cX12_printDirective 80 = .ok (.invokestatic 191, 3) := by decide +kernel
theorem dX12_printDirective_83 : decode cX12_printDirective 83 = .ok (.putfield 120, 3) := by decide +kernel
theorem dX12_printDirective_86 : decode cX12_printDirective 86 = .ok (.aload_n 0, 1) := by decide +kernel
theorem dX12_printDirective_87 : decode cX12_printDirective 87 = .ok (.aload_n 0, 1) := by decide +kernel
theorem dX12_printDirective_88 : decode cX12_printDirective 88 = .ok (.getfield 120, 3) := by decide +kernel
theorem dX12_printDirective_91 : decode cX12_printDirective 91 = .ok (.ifCond .ge 7, 3) := by decide +kernel
theorem dX12_printDirective_94 : decode cX12_printDirective 94 = .ok (.iconst (-1), 1) := by decide +kernel
theorem dX12_printDirective_95 : decode cX12_printDirective 95 = .ok (.goto 7, 3) := by decide +kernel
theorem dX12_printDirective_98 : decode cX12_printDirective 98 = .ok (.aload_n 0, 1) := by decide +kernel
theorem dX12_printDirective_99 : decode cX12_printDirective 99 = .ok (.getfield 120, 3) := by decide +kernel
theorem dX12_printDirective_102 : decode cX12_printDirective 102 = .ok (.putfield 120, 3) := by decide +kernel
theorem dX12_printDirective_105 : decode cX12_printDirective 105 = .ok (.aload_n 0, 1) := by decide +kernel
theorem dX12_printDirective_106 : decode cX12_printDirective 106 = .ok (.getfield 126, 3) := by decide +kernel
theorem dX12_printDirective_109 : decode cX12_printDirective 109 = .ok (.bipush 99, 2) := by decide +kernel
theorem dX12_printDirective_111 : decode cX12_printDirective 111 = .ok (.if_icmp .ne 119, 3) := by decide +kernel
theorem dX12_printDirective_114 : decode cX12_printDirective 114 = .ok (.aload_n 0, 1) := by decide +kernel
theorem dX12_printDirective_115 : decode cX12_printDirective 115 = .ok (.getfield 156, 3) := by decide +kernel
theorem dX12_printDirective_118 : decode cX12_printDirective 118 = .ok (.aload_n 0, 1) := by decide +kernel
theorem dX12_printDirective_119 : decode cX12_printDirective 119 = .ok (.getfield 64, 3) := by decide +kernel
theorem dX12_printDirective_122 : decode cX12_printDirective 122 = .ok (.if_icmp .ge 19, 3) := by decide +kernel
theorem dX12_printDirective_125 : decode cX12_printDirective 125 = .ok (.aload_n 0, 1) := by decide +kernel
theorem dX12_printDirective_126 : decode cX12_printDirective 126 = .ok (.getfield 13, 3) := by decide +kernel
theorem dX12_printDirective_129 : decode cX12_printDirective 129 = .ok (.aload_n 0, 1) := by decide +kernel
theorem dX12_printDirective_130 : decode cX12_printDirective 130 = .ok (.getfield 156, 3) := by decide +kernel
theorem dX12_printDirective_133 : decode cX12_printDirective 133 = .ok (.baload, 1) := by decide +kernel
theorem dX12_printDirective_134 : decode cX12_printDirective 134 = .ok (.ifCond .eq 7, 3) := by decide +kernel
theorem dX12_printDirective_137 : decode cX12_printDirective 137 = .ok (.iconst 1, 1) := by decide +kernel
theorem dX12_printDirective_138 : decode cX12_printDirective 138 = .ok (.goto 4, 3) := by decide +kernel
theorem dX12_printDirective_141 : decode cX12_printDirective 141 = .ok (.iconst 0, 1) := by decide +kernel
theorem dX12_printDirective_142 : decode cX12_printDirective 142 = .ok (.istore_n 1, 1) := by decide +kernel
theorem dX12_printDirective_143 : decode cX12_printDirective 143 = .ok (.iload_n 1, 1) := by decide +kernel
theorem dX12_printDirective_144 : decode cX12_printDirective 144 = .ok (.ifCond .eq 30, 3) := by decide +kernel
theorem dX12_printDirective_147 : decode cX12_printDirective 147 = .ok (.aload_n 0, 1) := by decide +kernel
theorem dX12_printDirective_148 : decode cX12_printDirective 148 = .ok (.invokevirtual 195, 3) := by decide +kernel
theorem dX12_printDirective_151 : decode cX12_printDirective 151 = .ok (.aload_n 0, 1) := by decide +kernel
theorem dX12_printDirective_152 : decode cX12_printDirective 152 = .ok (.aload_n 0, 1) := by decide +kernel
theorem dX12_printDirective_153 : decode cX12_printDirective 153 = .ok (.getfield 163, 3) := by decide +kernel
theorem dX12_printDirective_156 : decode cX12_printDirective 156 = .ok (.iconst 1, 1) := by decide +kernel
theorem dX12_printDirective_157 : decode cX12_printDirective 157 = .ok (.if_icmp .le 7, 3) := by decide +kernel
theorem dX12_printDirective_160 : decode cX12_printDirective 160 = .ok (.iconst 1, 1) := by decide +kernel
theorem dX12_printDirective_161 : decode cX12_printDirective 161 = .ok (.goto 7, 3) := by decide +kernel
theorem dX12_printDirective_164 : decode cX12_printDirective 164 = .ok (.aload_n 0, 1) := by decide +kernel
theorem dX12_printDirective_165 : decode cX12_printDirective 165 = .ok (.getfield 163, 3) := by decide +kernel
theorem dX12_printDirective_168 : decode cX12_printDirective 168 = .ok (.putfield 163, 3) := by decide +kernel
theorem dX12_printDirective_171 : decode cX12_printDirective 171 = .ok (.goto 52, 3) := by decide +kernel
theorem dX12_printDirective_174 : decode cX12_printDirective 174 = .ok (.aload_n 0, 1) := by decide +kernel
theorem dX12_printDirective_175 : decode cX12_printDirective 175 = .ok (.getfield 156, 3) := by decide +kernel
theorem dX12_printDirective_178 : decode cX12_printDirective 178 = .ok (.aload_n 0, 1) := by decide +kernel
theorem dX12_printDirective_179 : decode cX12_printDirective 179 = .ok (.getfield 64, 3) := by decide +kernel
theorem dX12_printDirective_182 : decode cX12_printDirective 182 = .ok (.if_icmp .ge 7, 3) := by decide +kernel
theorem dX12_printDirective_185 : decode cX12_printDirective 185 = .ok (.iconst 1, 1) := by decide +kernel
theorem dX12_printDirective_186 : decode cX12_printDirective 186 = .ok (.goto 4, 3) := by decide +kernel
theorem dX12_printDirective_189 : decode cX12_printDirective 189 = .ok (.iconst 0, 1) := by decide +kernel
theorem dX12_printDirective_190 : decode cX12_printDirective 190 = .ok (.istore_n 2, 1) := by decide +kernel
theorem dX12_printDirective_191 : decode cX12_printDirective 191 = .ok (.aload_n 0, 1) := by decide +kernel
theorem dX12_printDirective_192 : decode cX12_printDirective 192 = .ok (.getfield 41, 3) := by decide +kernel
theorem dX12_printDirective_195 : decode cX12_printDirective 195 = .ok (.iconst 0, 1) := by decide +kernel
theorem dX12_printDirective_196 : decode cX12_printDirective 196 = .ok (.aload_n 0, 1) := by decide +kernel
theorem dX12_printDirective_197 : decode cX12_printDirective 197 = .ok (.invokevirtual 177, 3) := by decide +kernel
theorem dX12_printDirective_200 : decode cX12_printDirective 200 = .ok (.ldc2_w 198, 3) := by decide +kernel
theorem dX12_printDirective_203 : decode cX12_printDirective 203 = .ok (.land, 1) := by decide +kernel
theorem dX12_printDirective_204 : decode cX12_printDirective 204 = .ok (.l2i, 1) := by decide +kernel
theorem dX12_printDirective_205 : decode cX12_printDirective 205 = .ok (.i2c, 1) := by decide +kernel
theorem dX12_printDirective_206 : decode cX12_printDirective 206 = .ok (.castore, 1) := by decide +kernel
theorem dX12_printDirective_207 : decode cX12_printDirective 207 = .ok (.aload_n 0, 1) := by decide +kernel
theorem dX12_printDirective_208 : decode cX12_printDirective 208 = .ok (.iload_n 2, 1) := by decide +kernel
theorem dX12_printDirective_209 : decode cX12_printDirective 209 = .ok (.ifCond .eq 7, 3) := by decide +kernel
theorem dX12_printDirective_212 : decode cX12_printDirective 212 = .ok (.iconst 1, 1) := by decide +kernel
theorem dX12_printDirective_213 : decode cX12_printDirective 213 = .ok (.goto 7, 3) := by decide +kernel
theorem dX12_printDirective_216 : decode cX12_printDirective 216 = .ok (.aload_n 0, 1) := by decide +kernel
theorem dX12_printDirective_217 : decode cX12_printDirective 217 = .ok (.invokevirtual 200, 3) := by decide +kernel
theorem dX12_printDirective_220 : decode cX12_printDirective 220 = .ok (.putfield 163, 3) := by decide +kernel
theorem dX12_printDirective_223 : decode cX12_printDirective 223 = .ok (.aload_n 0, 1) := by decide +kernel
theorem dX12_printDirective_224 : decode cX12_printDirective 224 = .ok (.invokevirtual 203, 3) := by decide +kernel
theorem dX12_printDirective_227 : decode cX12_printDirective 227 = .ok (.goto 82, 3) := by decide +kernel
theorem dX12_printDirective_230 : decode cX12_printDirective 230 = .ok (.aload_n 0, 1) := by decide +kernel
theorem dX12_printDirective_231 : decode cX12_printDirective 231 = .ok (.getfield 126, 3) := by decide +kernel
theorem dX12_printDirective_234 : decode cX12_printDirective 234 = .ok (.bipush 115, 2) := by decide +kernel
theorem dX12_printDirective_236 : decode cX12_printDirective 236 = .ok (.if_icmp .eq 12, 3) := by decide +kernel
theorem dX12_printDirective_239 : decode cX12_printDirective 239 = .ok (.aload_n 0, 1) := by decide +kernel
theorem dX12_printDirective_240 : decode cX12_printDirective 240 = .ok (.getfield 126, 3) := by decide +kernel
theorem dX12_printDirective_243 : decode cX12_printDirective 243 = .ok (.bipush 98, 2) := by decide +kernel
theorem dX12_printDirective_245 : decode cX12_printDirective 245 = .ok (.if_icmp .ne 60, 3) := by decide +kernel
theorem dX12_printDirective_248 : decode cX12_printDirective 248 = .ok (.aload_n 0, 1) := by decide +kernel
theorem dX12_printDirective_249 : decode cX12_printDirective 249 = .ok (.invokevirtual 195, 3) := by decide +kernel
theorem dX12_printDirective_252 : decode cX12_printDirective 252 = .ok (.aload_n 0, 1) := by decide +kernel
theorem dX12_printDirective_253 : decode cX12_printDirective 253 = .ok (.getfield 126, 3) := by decide +kernel
theorem dX12_printDirective_256 : decode cX12_printDirective 256 = .ok (.bipush 98, 2) := by decide +kernel
theorem dX12_printDirective_258 : decode cX12_printDirective 258 = .ok (.if_icmp .ne 7, 3) := by decide +kernel
theorem dX12_printDirective_261 : decode cX12_printDirective 261 = .ok (.aload_n 0, 1) := by decide +kernel
theorem dX12_printDirective_262 : decode cX12_printDirective 262 = .ok (.invokevirtual 206, 3) := by decide +kernel
theorem dX12_printDirective_265 : decode cX12_printDirective 265 = .ok (.aload_n 0, 1) := by decide +kernel
theorem dX12_printDirective_266 : decode cX12_printDirective 266 = .ok (.aload_n 0, 1) := by decide +kernel
theorem dX12_printDirective_267 : decode cX12_printDirective 267 = .ok (.getfield 120, 3) := by decide +kernel
theorem dX12_printDirective_270 : decode cX12_printDirective 270 = .ok (.ifCond .lt 21, 3) := by decide +kernel
theorem dX12_printDirective_273 : decode cX12_printDirective 273 = .ok (.aload_n 0, 1) := by decide +kernel
theorem dX12_printDirective_274 : decode cX12_printDirective 274 = .ok (.getfield 120, 3) := by decide +kernel
theorem dX12_printDirective_277 : decode cX12_printDirective 277 = .ok (.aload_n 0, 1) := by decide +kernel
theorem dX12_printDirective_278 : decode cX12_printDirective 278 = .ok (.getfield 163, 3) := by decide +kernel
theorem dX12_printDirective_281 : decode cX12_printDirective 281 = .ok (.if_icmp .ge 10, 3) := by decide +kernel
theorem dX12_printDirective_284 : decode cX12_printDirective 284 = .ok (.aload_n 0, 1) := by decide +kernel
theorem dX12_printDirective_285 : decode cX12_printDirective 285 = .ok (.getfield 120, 3) := by decide +kernel
theorem dX12_printDirective_288 : decode cX12_printDirective 288 = .ok (.goto 7, 3) := by decide +kernel
theorem dX12_printDirective_291 : decode cX12_printDirective 291 = .ok (.aload_n 0, 1) := by decide +kernel
theorem dX12_printDirective_292 : decode cX12_printDirective 292 = .ok (.getfield 163, 3) := by decide +kernel
theorem dX12_printDirective_295 : decode cX12_printDirective 295 = .ok (.putfield 163, 3) := by decide +kernel
theorem dX12_printDirective_298 : decode cX12_printDirective 298 = .ok (.aload_n 0, 1) := by decide +kernel
theorem dX12_printDirective_299 : decode cX12_printDirective 299 = .ok (.invokevirtual 203, 3) := by decide +kernel
theorem dX12_printDirective_302 : decode cX12_printDirective 302 = .ok (.goto 7, 3) := by decide +kernel
theorem dX12_printDirective_305 : decode cX12_printDirective 305 = .ok (.aload_n 0, 1) := by decide +kernel
theorem dX12_printDirective_306 : decode cX12_printDirective 306 = .ok (.invokevirtual 209, 3) := by decide +kernel
theorem dX12_printDirective_309 : decode cX12_printDirective 309 = .ok (.return_, 1) := by decide +kernel
theorem dX12_noArgument_0 : decode cX12_noArgument 0 = .ok (.iconst 0, 1) := by decide +kernel
theorem dX12_noArgument_1 : decode cX12_noArgument 1 = .ok (.ireturn, 1) := by decide +kernel
theorem dX12_printOnce_0 : decode cX12_printOnce 0 = .ok (.aload_n 0, 1) := by decide +kernel
theorem dX12_printOnce_1 : decode cX12_printOnce 1 = .ok (.iconst 0, 1) := by decide +kernel
theorem dX12_printOnce_2 : decode cX12_printOnce 2 = .ok (.putfield 106, 3) := by decide +kernel
theorem dX12_printOnce_5 : decode cX12_printOnce 5 = .ok (.aload_n 0, 1) := by decide +kernel
theorem dX12_printOnce_6 : decode cX12_printOnce 6 = .ok (.getfield 106, 3) := by decide +kernel
theorem dX12_printOnce_9 : decode cX12_printOnce 9 = .ok (.aload_n 0, 1) := by decide +kernel
theorem dX12_printOnce_10 : decode cX12_printOnce 10 = .ok (.getfield 53, 3) := by decide +kernel
theorem dX12_printOnce_13 : decode cX12_printOnce 13 = .ok (.if_icmp .ge 105, 3) := by decide +kernel
theorem dX12_printOnce_16 : decode cX12_printOnce 16 = .ok (.aload_n 0, 1) := by decide +kernel
theorem dX12_printOnce_17 : decode cX12_printOnce 17 = .ok (.getfield 188, 3) := by decide +kernel
theorem dX12_printOnce_20 : decode cX12_printOnce 20 = .ok (.ifCond .ne 98, 3) := by decide +kernel
theorem dX12_printOnce_23 : decode cX12_printOnce 23 = .ok (.aload_n 0, 1) := by decide +kernel
theorem dX12_printOnce_24 : decode cX12_printOnce 24 = .ok (.getfield 7, 3) := by decide +kernel
theorem dX12_printOnce_27 : decode cX12_printOnce 27 = .ok (.aload_n 0, 1) := by decide +kernel
theorem dX12_printOnce_28 : decode cX12_printOnce 28 = .ok (.getfield 106, 3) := by decide +kernel
theorem dX12_printOnce_31 : decode cX12_printOnce 31 = .ok (.caload, 1) := by decide +kernel
theorem dX12_printOnce_32 : decode cX12_printOnce 32 = .ok (.istore_n 1, 1) := by decide +kernel
theorem dX12_printOnce_33 : decode cX12_printOnce 33 = .ok (.aload_n 0, 1) := by decide +kernel
theorem dX12_printOnce_34 : decode cX12_printOnce 34 = .ok (.dup, 1) := by decide +kernel
theorem dX12_printOnce_35 : decode cX12_printOnce 35 = .ok (.getfield 106, 3) := by decide +kernel
theorem dX12_printOnce_38 : decode cX12_printOnce 38 = .ok (.iconst 1, 1) := by decide +kernel
theorem dX12_printOnce_39 : decode cX12_printOnce 39 = .ok (.iadd, 1) := by decide +kernel
theorem dX12_printOnce_40 : decode cX12_printOnce 40 = .ok (.putfield 106, 3) := by decide +kernel
theorem dX12_printOnce_43 : decode cX12_printOnce 43 = .ok (.iload_n 1, 1) := by decide +kernel
theorem dX12_printOnce_44 : decode cX12_printOnce 44 = .ok (.bipush 92, 2) := by decide +kernel
theorem dX12_printOnce_46 : decode cX12_printOnce 46 = .ok (.if_icmp .ne 14, 3) := by decide +kernel
theorem dX12_printOnce_49 : decode cX12_printOnce 49 = .ok (.aload_n 0, 1) := by decide +kernel
theorem dX12_printOnce_50 : decode cX12_printOnce 50 = .ok (.aload_n 0, 1) := by decide +kernel
theorem dX12_printOnce_51 : decode cX12_printOnce 51 = .ok (.invokevirtual 138, 3) := by decide +kernel
theorem dX12_printOnce_54 : decode cX12_printOnce 54 = .ok (.invokevirtual 87, 3) := by decide +kernel
theorem dX12_printOnce_57 : decode cX12_printOnce 57 = .ok (.goto 58, 3) := by decide +kernel
theorem dX12_printOnce_60 : decode cX12_printOnce 60 = .ok (.iload_n 1, 1) := by decide +kernel
theorem dX12_printOnce_61 : decode cX12_printOnce 61 = .ok (.bipush 37, 2) := by decide +kernel
theorem dX12_printOnce_63 : decode cX12_printOnce 63 = .ok (.if_icmp .eq 11, 3) := by decide +kernel
theorem dX12_printOnce_66 : decode cX12_printOnce 66 = .ok (.aload_n 0, 1) := by decide +kernel
theorem dX12_printOnce_67 : decode cX12_printOnce 67 = .ok (.iload_n 1, 1) := by decide +kernel
theorem dX12_printOnce_68 : decode cX12_printOnce 68 = .ok (.invokevirtual 87, 3) := by decide +kernel
theorem dX12_printOnce_71 : decode cX12_printOnce 71 = .ok (.goto 44, 3) := by decide +kernel
theorem dX12_printOnce_74 : decode cX12_printOnce 74 = .ok (.aload_n 0, 1) := by decide +kernel
theorem dX12_printOnce_75 : decode cX12_printOnce 75 = .ok (.aload_n 0, 1) := by decide +kernel
theorem dX12_printOnce_76 : decode cX12_printOnce 76 = .ok (.getfield 106, 3) := by decide +kernel
theorem dX12_printOnce_79 : decode cX12_printOnce 79 = .ok (.invokevirtual 109, 3) := by decide +kernel
theorem dX12_printOnce_82 : decode cX12_printOnce 82 = .ok (.bipush 37, 2) := by decide +kernel
theorem dX12_printOnce_84 : decode cX12_printOnce 84 = .ok (.if_icmp .ne 22, 3) := by decide +kernel
theorem dX12_printOnce_87 : decode cX12_printOnce 87 = .ok (.aload_n 0, 1) := by decide +kernel
theorem dX12_printOnce_88 : decode cX12_printOnce 88 = .ok (.dup, 1) := by decide +kernel
theorem dX12_printOnce_89 : decode cX12_printOnce 89 = .ok (.getfield 106, 3) := by decide +kernel
theorem dX12_printOnce_92 : decode cX12_printOnce 92 = .ok (.iconst 1, 1) := by decide +kernel
theorem dX12_printOnce_93 : decode cX12_printOnce 93 = .ok (.iadd, 1) := by decide +kernel
theorem dX12_printOnce_94 : decode cX12_printOnce 94 = .ok (.putfield 106, 3) := by decide +kernel
theorem dX12_printOnce_97 : decode cX12_printOnce 97 = .ok (.aload_n 0, 1) := by decide +kernel
theorem dX12_printOnce_98 : decode cX12_printOnce 98 = .ok (.bipush 37, 2) := by decide +kernel
theorem dX12_printOnce_100 : decode cX12_printOnce 100 = .ok (.invokevirtual 87, 3) := by decide +kernel
theorem dX12_printOnce_103 : decode cX12_printOnce 103 = .ok (.goto 12, 3) := by decide +kernel
theorem dX12_printOnce_106 : decode cX12_printOnce 106 = .ok (.aload_n 0, 1) := by decide +kernel
theorem dX12_printOnce_107 : decode cX12_printOnce 107 = .ok (.invokevirtual 141, 3) := by decide +kernel
theorem dX12_printOnce_110 : decode cX12_printOnce 110 = .ok (.pop, 1) := by decide +kernel
theorem dX12_printOnce_111 : decode cX12_printOnce 111 = .ok (.aload_n 0, 1) := by decide +kernel
theorem dX12_printOnce_112 : decode cX12_printOnce 112 = .ok (.invokevirtual 212, 3) := by decide +kernel
theorem dX12_printOnce_115 : decode cX12_printOnce 115 = .ok (.goto (-110), 3) := by decide +kernel
theorem dX12_printOnce_118 : decode cX12_printOnce 118 = .ok (.return_, 1) := by decide +kernel
theorem dX12_print_0 : decode cX12_print 0 = .ok (.aload_n 0, 1) := by decide +kernel
theorem dX12_print_1 : decode cX12_print 1 = .ok (.iconst 0, 1) := by decide +kernel
theorem dX12_print_2 : decode cX12_print 2 = .ok (.putfield 50, 3) := by decide +kernel
theorem dX12_print_5 : decode cX12_print 5 = .ok (.aload_n 0, 1) := by decide +kernel
theorem dX12_print_6 : decode cX12_print 6 = .ok (.aload_n 0, 1) := by decide +kernel
theorem dX12_print_7 : decode cX12_print 7 = .ok (.invokevirtual 215, 3) := by decide +kernel
theorem dX12_print_10 : decode cX12_print 10 = .ok (.putfield 38, 3) := by decide +kernel
theorem dX12_print_13 : decode cX12_print 13 = .ok (.aload_n 0, 1) := by decide +kernel
theorem dX12_print_14 : decode cX12_print 14 = .ok (.getfield 38, 3) := by decide +kernel
theorem dX12_print_17 : decode cX12_print 17 = .ok (.ifCond .lt 6, 3) := by decide +kernel
theorem dX12_print_20 : decode cX12_print 20 = .ok (.bipush (-2), 2) := by decide +kernel
theorem dX12_print_22 : decode cX12_print 22 = .ok (.ireturn, 1) := by decide +kernel
theorem dX12_print_23 : decode cX12_print 23 = .ok (.aload_n 0, 1) := by decide +kernel
theorem dX12_print_24 : decode cX12_print 24 = .ok (.invokevirtual 218, 3) := by decide +kernel
theorem dX12_print_27 : decode cX12_print 27 = .ok (.aload_n 0, 1) := by decide +kernel
theorem dX12_print_28 : decode cX12_print 28 = .ok (.iconst 0, 1) := by decide +kernel
