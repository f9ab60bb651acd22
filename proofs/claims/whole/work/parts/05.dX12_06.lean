theorem dX12_putShown_80 : decode cX12_putShown 80 = .ok (.if_icmp .ne 8, 3) := by decide +kernel
theorem dX12_putShown_83 : decode cX12_putShown 83 = .ok (.bipush 118, 2) := by decide +kernel
theorem dX12_putShown_85 : decode cX12_putShown 85 = .ok (.goto 26, 3) := by decide +kernel
theorem dX12_putShown_88 : decode cX12_putShown 88 = .ok (.iload_n 1, 1) := by decide +kernel
theorem dX12_putShown_89 : decode cX12_putShown 89 = .ok (.bipush 12, 2) := by decide +kernel
theorem dX12_putShown_91 : decode cX12_putShown 91 = .ok (.if_icmp .ne 8, 3) := by decide +kernel
theorem dX12_putShown_94 : decode cX12_putShown 94 = .ok (.bipush 102, 2) := by decide +kernel
theorem dX12_putShown_96 : decode cX12_putShown 96 = .ok (.goto 15, 3) := by decide +kernel
theorem dX12_putShown_99 : decode cX12_putShown 99 = .ok (.iload_n 1, 1) := by decide +kernel
theorem dX12_putShown_100 : decode cX12_putShown 100 = .ok (.bipush 13, 2) := by decide +kernel
theorem dX12_putShown_102 : decode cX12_putShown 102 = .ok (.if_icmp .ne 8, 3) := by decide +kernel
theorem dX12_putShown_105 : decode cX12_putShown 105 = .ok (.bipush 114, 2) := by decide +kernel
theorem dX12_putShown_107 : decode cX12_putShown 107 = .ok (.goto 4, 3) := by decide +kernel
theorem dX12_putShown_110 : decode cX12_putShown 110 = .ok (.iconst 0, 1) := by decide +kernel
theorem dX12_putShown_111 : decode cX12_putShown 111 = .ok (.istore_n 2, 1) := by decide +kernel
theorem dX12_putShown_112 : decode cX12_putShown 112 = .ok (.iload_n 2, 1) := by decide +kernel
theorem dX12_putShown_113 : decode cX12_putShown 113 = .ok (.ifCond .eq 23, 3) := by decide +kernel
theorem dX12_putShown_116 : decode cX12_putShown 116 = .ok (.aload_n 0, 1) := by decide +kernel
theorem dX12_putShown_117 : decode cX12_putShown 117 = .ok (.bipush 32, 2) := by decide +kernel
theorem dX12_putShown_119 : decode cX12_putShown 119 = .ok (.invokevirtual 87, 3) := by decide +kernel
theorem dX12_putShown_122 : decode cX12_putShown 122 = .ok (.aload_n 0, 1) := by decide +kernel
theorem dX12_putShown_123 : decode cX12_putShown 123 = .ok (.bipush 92, 2) := by decide +kernel
theorem dX12_putShown_125 : decode cX12_putShown 125 = .ok (.invokevirtual 87, 3) := by decide +kernel
theorem dX12_putShown_128 : decode cX12_putShown 128 = .ok (.aload_n 0, 1) := by decide +kernel
theorem dX12_putShown_129 : decode cX12_putShown 129 = .ok (.iload_n 2, 1) := by decide +kernel
theorem dX12_putShown_130 : decode cX12_putShown 130 = .ok (.invokevirtual 87, 3) := by decide +kernel
theorem dX12_putShown_133 : decode cX12_putShown 133 = .ok (.goto 21, 3) := by decide +kernel
theorem dX12_putShown_136 : decode cX12_putShown 136 = .ok (.aload_n 0, 1) := by decide +kernel
theorem dX12_putShown_137 : decode cX12_putShown 137 = .ok (.iload_n 1, 1) := by decide +kernel
theorem dX12_putShown_138 : decode cX12_putShown 138 = .ok (.i2l, 1) := by decide +kernel
theorem dX12_putShown_139 : decode cX12_putShown 139 = .ok (.bipush 8, 2) := by decide +kernel
theorem dX12_putShown_141 : decode cX12_putShown 141 = .ok (.iconst 0, 1) := by decide +kernel
theorem dX12_putShown_142 : decode cX12_putShown 142 = .ok (.invokevirtual 166, 3) := by decide +kernel
theorem dX12_putShown_145 : decode cX12_putShown 145 = .ok (.aload_n 0, 1) := by decide +kernel
theorem dX12_putShown_146 : decode cX12_putShown 146 = .ok (.iconst 3, 1) := by decide +kernel
theorem dX12_putShown_147 : decode cX12_putShown 147 = .ok (.invokevirtual 170, 3) := by decide +kernel
theorem dX12_putShown_150 : decode cX12_putShown 150 = .ok (.aload_n 0, 1) := by decide +kernel
theorem dX12_putShown_151 : decode cX12_putShown 151 = .ok (.invokevirtual 185, 3) := by decide +kernel
theorem dX12_putShown_154 : decode cX12_putShown 154 = .ok (.return_, 1) := by decide +kernel
theorem dX12_isLikeBefore_0 : decode cX12_isLikeBefore 0 = .ok (.iload_n 1, 1) := by decide +kernel
theorem dX12_isLikeBefore_1 : decode cX12_isLikeBefore 1 = .ok (.bipush 16, 2) := by decide +kernel
theorem dX12_isLikeBefore_3 : decode cX12_isLikeBefore 3 = .ok (.if_icmp .lt 18, 3) := by decide +kernel
theorem dX12_isLikeBefore_6 : decode cX12_isLikeBefore 6 = .ok (.iload_n 1, 1) := by decide +kernel
theorem dX12_isLikeBefore_7 : decode cX12_isLikeBefore 7 = .ok (.bipush 16, 2) := by decide +kernel
theorem dX12_isLikeBefore_9 : decode cX12_isLikeBefore 9 = .ok (.iadd, 1) := by decide +kernel
theorem dX12_isLikeBefore_10 : decode cX12_isLikeBefore 10 = .ok (.aload_n 0, 1) := by decide +kernel
theorem dX12_isLikeBefore_11 : decode cX12_isLikeBefore 11 = .ok (.getfield 230, 3) := by decide +kernel
theorem dX12_isLikeBefore_14 : decode cX12_isLikeBefore 14 = .ok (.if_icmp .gt 7, 3) := by decide +kernel
theorem dX12_isLikeBefore_17 : decode cX12_isLikeBefore 17 = .ok (.iconst 1, 1) := by decide +kernel
theorem dX12_isLikeBefore_18 : decode cX12_isLikeBefore 18 = .ok (.goto 4, 3) := by decide +kernel
theorem dX12_isLikeBefore_21 : decode cX12_isLikeBefore 21 = .ok (.iconst 0, 1) := by decide +kernel
theorem dX12_isLikeBefore_22 : decode cX12_isLikeBefore 22 = .ok (.istore_n 2, 1) := by decide +kernel
theorem dX12_isLikeBefore_23 : decode cX12_isLikeBefore 23 = .ok (.iconst 0, 1) := by decide +kernel
theorem dX12_isLikeBefore_24 : decode cX12_isLikeBefore 24 = .ok (.istore_n 3, 1) := by decide +kernel
theorem dX12_isLikeBefore_25 : decode cX12_isLikeBefore 25 = .ok (.iload_n 2, 1) := by decide +kernel
theorem dX12_isLikeBefore_26 : decode cX12_isLikeBefore 26 = .ok (.ifCond .eq 43, 3) := by decide +kernel
theorem dX12_isLikeBefore_29 : decode cX12_isLikeBefore 29 = .ok (.iload_n 3, 1) := by decide +kernel
theorem dX12_isLikeBefore_30 : decode cX12_isLikeBefore 30 = .ok (.bipush 16, 2) := by decide +kernel
theorem dX12_isLikeBefore_32 : decode cX12_isLikeBefore 32 = .ok (.if_icmp .ge 37, 3) := by decide +kernel
theorem dX12_isLikeBefore_35 : decode cX12_isLikeBefore 35 = .ok (.aload_n 0, 1) := by decide +kernel
theorem dX12_isLikeBefore_36 : decode cX12_isLikeBefore 36 = .ok (.getfield 28, 3) := by decide +kernel
theorem dX12_isLikeBefore_39 : decode cX12_isLikeBefore 39 = .ok (.iload_n 1, 1) := by decide +kernel
theorem dX12_isLikeBefore_40 : decode cX12_isLikeBefore 40 = .ok (.iload_n 3, 1) := by decide +kernel
theorem dX12_isLikeBefore_41 : decode cX12_isLikeBefore 41 = .ok (.iadd, 1) := by decide +kernel
theorem dX12_isLikeBefore_42 : decode cX12_isLikeBefore 42 = .ok (.iaload, 1) := by decide +kernel
theorem dX12_isLikeBefore_43 : decode cX12_isLikeBefore 43 = .ok (.aload_n 0, 1) := by decide +kernel
theorem dX12_isLikeBefore_44 : decode cX12_isLikeBefore 44 = .ok (.getfield 28, 3) := by decide +kernel
theorem dX12_isLikeBefore_47 : decode cX12_isLikeBefore 47 = .ok (.iload_n 1, 1) := by decide +kernel
theorem dX12_isLikeBefore_48 : decode cX12_isLikeBefore 48 = .ok (.bipush 16, 2) := by decide +kernel
theorem dX12_isLikeBefore_50 : decode cX12_isLikeBefore 50 = .ok (.isub, 1) := by decide +kernel
theorem dX12_isLikeBefore_51 : decode cX12_isLikeBefore 51 = .ok (.iload_n 3, 1) := by decide +kernel
theorem dX12_isLikeBefore_52 : decode cX12_isLikeBefore 52 = .ok (.iadd, 1) := by decide +kernel
theorem dX12_isLikeBefore_53 : decode cX12_isLikeBefore 53 = .ok (.iaload, 1) := by decide +kernel
theorem dX12_isLikeBefore_54 : decode cX12_isLikeBefore 54 = .ok (.if_icmp .ne 7, 3) := by decide +kernel
theorem dX12_isLikeBefore_57 : decode cX12_isLikeBefore 57 = .ok (.iconst 1, 1) := by decide +kernel
theorem dX12_isLikeBefore_58 : decode cX12_isLikeBefore 58 = .ok (.goto 4, 3) := by decide +kernel
theorem dX12_isLikeBefore_61 : decode cX12_isLikeBefore 61 = .ok (.iconst 0, 1) := by decide +kernel
theorem dX12_isLikeBefore_62 : decode cX12_isLikeBefore 62 = .ok (.istore_n 2, 1) := by decide +kernel
theorem dX12_isLikeBefore_63 : decode cX12_isLikeBefore 63 = .ok (.iinc 3 1, 3) := by decide +kernel
theorem dX12_isLikeBefore_66 : decode cX12_isLikeBefore 66 = .ok (.goto (-41), 3) := by decide +kernel
theorem dX12_isLikeBefore_69 : decode cX12_isLikeBefore 69 = .ok (.iload_n 2, 1) := by decide +kernel
theorem dX12_isLikeBefore_70 : decode cX12_isLikeBefore 70 = .ok (.ireturn, 1) := by decide +kernel
theorem dX12_words_0 : decode cX12_words 0 = .ok (.iload_n 1, 1) := by decide +kernel
theorem dX12_words_1 : decode cX12_words 1 = .ok (.ifCond .eq 21, 3) := by decide +kernel
theorem dX12_words_4 : decode cX12_words 4 = .ok (.iload_n 1, 1) := by decide +kernel
theorem dX12_words_5 : decode cX12_words 5 = .ok (.bipush 8, 2) := by decide +kernel
theorem dX12_words_7 : decode cX12_words 7 = .ok (.if_icmp .eq 15, 3) := by decide +kernel
theorem dX12_words_10 : decode cX12_words 10 = .ok (.iload_n 1, 1) := by decide +kernel
theorem dX12_words_11 : decode cX12_words 11 = .ok (.bipush 10, 2) := by decide +kernel
theorem dX12_words_13 : decode cX12_words 13 = .ok (.if_icmp .eq 9, 3) := by decide +kernel
theorem dX12_words_16 : decode cX12_words 16 = .ok (.iload_n 1, 1) := by decide +kernel
theorem dX12_words_17 : decode cX12_words 17 = .ok (.bipush 16, 2) := by decide +kernel
theorem dX12_words_19 : decode cX12_words 19 = .ok (.if_icmp .ne 64, 3) := by decide +kernel
theorem dX12_words_22 : decode cX12_words 22 = .ok (.iload_n 2, 1) := by decide +kernel
theorem dX12_words_23 : decode cX12_words 23 = .ok (.bipush 111, 2) := by decide +kernel
theorem dX12_words_25 : decode cX12_words 25 = .ok (.if_icmp .eq 27, 3) := by decide +kernel
theorem dX12_words_28 : decode cX12_words 28 = .ok (.iload_n 2, 1) := by decide +kernel
theorem dX12_words_29 : decode cX12_words 29 = .ok (.bipush 120, 2) := by decide +kernel
theorem dX12_words_31 : decode cX12_words 31 = .ok (.if_icmp .eq 21, 3) := by decide +kernel
theorem dX12_words_34 : decode cX12_words 34 = .ok (.iload_n 2, 1) := by decide +kernel
theorem dX12_words_35 : decode cX12_words 35 = .ok (.bipush 117, 2) := by decide +kernel
theorem dX12_words_37 : decode cX12_words 37 = .ok (.if_icmp .eq 15, 3) := by decide +kernel
theorem dX12_words_40 : decode cX12_words 40 = .ok (.iload_n 2, 1) := by decide +kernel
theorem dX12_words_41 : decode cX12_words 41 = .ok (.bipush 100, 2) := by decide +kernel
theorem dX12_words_43 : decode cX12_words 43 = .ok (.if_icmp .eq 9, 3) := by decide +kernel
theorem dX12_words_46 : decode cX12_words 46 = .ok (.iload_n 2, 1) := by decide +kernel
theorem dX12_words_47 : decode cX12_words 47 = .ok (.bipush 99, 2) := by decide +kernel
theorem dX12_words_49 : decode cX12_words 49 = .ok (.if_icmp .ne 34, 3) := by decide +kernel
theorem dX12_words_52 : decode cX12_words 52 = .ok (.iload_n 3, 1) := by decide +kernel
theorem dX12_words_53 : decode cX12_words 53 = .ok (.iconst 1, 1) := by decide +kernel
theorem dX12_words_54 : decode cX12_words 54 = .ok (.if_icmp .eq 25, 3) := by decide +kernel
theorem dX12_words_57 : decode cX12_words 57 = .ok (.iload_n 2, 1) := by decide +kernel
theorem dX12_words_58 : decode cX12_words 58 = .ok (.bipush 99, 2) := by decide +kernel
theorem dX12_words_60 : decode cX12_words 60 = .ok (.if_icmp .eq 23, 3) := by decide +kernel
theorem dX12_words_63 : decode cX12_words 63 = .ok (.iload_n 3, 1) := by decide +kernel
theorem dX12_words_64 : decode cX12_words 64 = .ok (.iconst 2, 1) := by decide +kernel
theorem dX12_words_65 : decode cX12_words 65 = .ok (.if_icmp .eq 14, 3) := by decide +kernel
theorem dX12_words_68 : decode cX12_words 68 = .ok (.iload_n 3, 1) := by decide +kernel
theorem dX12_words_69 : decode cX12_words 69 = .ok (.iconst 4, 1) := by decide +kernel
theorem dX12_words_70 : decode cX12_words 70 = .ok (.if_icmp .eq 9, 3) := by decide +kernel
theorem dX12_words_73 : decode cX12_words 73 = .ok (.iload_n 3, 1) := by decide +kernel
theorem dX12_words_74 : decode cX12_words 74 = .ok (.bipush 8, 2) := by decide +kernel
theorem dX12_words_76 : decode cX12_words 76 = .ok (.if_icmp .ne 7, 3) := by decide +kernel
theorem dX12_words_79 : decode cX12_words 79 = .ok (.iconst 1, 1) := by decide +kernel
theorem dX12_words_80 : decode cX12_words 80 = .ok (.goto 4, 3) := by decide +kernel
theorem dX12_words_83 : decode cX12_words 83 = .ok (.iconst 0, 1) := by decide +kernel
theorem dX12_words_84 : decode cX12_words 84 = .ok (.istore 5, 2) := by decide +kernel
theorem dX12_words_86 : decode cX12_words 86 = .ok (.aload_n 0, 1) := by decide +kernel
theorem dX12_words_87 : decode cX12_words 87 = .ok (.iload 5, 2) := by decide +kernel
theorem dX12_words_89 : decode cX12_words 89 = .ok (.ifCond .eq 7, 3) := by decide +kernel
theorem dX12_words_92 : decode cX12_words 92 = .ok (.iconst 0, 1) := by decide +kernel
theorem dX12_words_93 : decode cX12_words 93 = .ok (.goto 4, 3) := by decide +kernel
theorem dX12_words_96 : decode cX12_words 96 = .ok (.iconst 1, 1) := by decide +kernel
theorem dX12_words_97 : decode cX12_words 97 = .ok (.invokevirtual 60, 3) := by decide +kernel
theorem dX12_words_100 : decode cX12_words 100 = .ok (.ifCond .eq 5, 3) := by decide +kernel
theorem dX12_words_103 : decode cX12_words 103 = .ok (.iconst 0, 1) := by decide +kernel
theorem dX12_words_104 : decode cX12_words 104 = .ok (.ireturn, 1) := by decide +kernel
theorem dX12_words_105 : decode cX12_words 105 = .ok (.aload_n 0, 1) := by decide +kernel
theorem dX12_words_106 : decode cX12_words 106 = .ok (.invokevirtual 218, 3) := by decide +kernel
theorem dX12_words_109 : decode cX12_words 109 = .ok (.iconst 0, 1) := by decide +kernel
theorem dX12_words_110 : decode cX12_words 110 = .ok (.istore 6, 2) := by decide +kernel
theorem dX12_words_112 : decode cX12_words 112 = .ok (.iconst 0, 1) := by decide +kernel
theorem dX12_words_113 : decode cX12_words 113 = .ok (.istore 7, 2) := by decide +kernel
theorem dX12_words_115 : decode cX12_words 115 = .ok (.iload 7, 2) := by decide +kernel
theorem dX12_words_117 : decode cX12_words 117 = .ok (.aload_n 0, 1) := by decide +kernel
theorem dX12_words_118 : decode cX12_words 118 = .ok (.getfield 230, 3) := by decide +kernel
theorem dX12_words_121 : decode cX12_words 121 = .ok (.if_icmp .ge 103, 3) := by decide +kernel
theorem dX12_words_124 : decode cX12_words 124 = .ok (.iload 4, 2) := by decide +kernel
theorem dX12_words_126 : decode cX12_words 126 = .ok (.ifCond .ne 35, 3) := by decide +kernel
theorem dX12_words_129 : decode cX12_words 129 = .ok (.aload_n 0, 1) := by decide +kernel
theorem dX12_words_130 : decode cX12_words 130 = .ok (.iload 7, 2) := by decide +kernel
theorem dX12_words_132 : decode cX12_words 132 = .ok (.invokevirtual 244, 3) := by decide +kernel
theorem dX12_words_135 : decode cX12_words 135 = .ok (.ifCond .eq 26, 3) := by decide +kernel
theorem dX12_words_138 : decode cX12_words 138 = .ok (.iload 6, 2) := by decide +kernel
theorem dX12_words_140 : decode cX12_words 140 = .ok (.ifCond .ne 15, 3) := by decide +kernel
theorem dX12_words_143 : decode cX12_words 143 = .ok (.aload_n 0, 1) := by decide +kernel
theorem dX12_words_144 : decode cX12_words 144 = .ok (.bipush 42, 2) := by decide +kernel
theorem dX12_words_146 : decode cX12_words 146 = .ok (.invokevirtual 87, 3) := by decide +kernel
theorem dX12_words_149 : decode cX12_words 149 = .ok (.aload_n 0, 1) := by decide +kernel
theorem dX12_words_150 : decode cX12_words 150 = .ok (.bipush 10, 2) := by decide +kernel
theorem dX12_words_152 : decode cX12_words 152 = .ok (.invokevirtual 87, 3) := by decide +kernel
theorem dX12_words_155 : decode cX12_words 155 = .ok (.iconst 1, 1) := by decide +kernel
theorem dX12_words_156 : decode cX12_words 156 = .ok (.istore 6, 2) := by decide +kernel
theorem dX12_words_158 : decode cX12_words 158 = .ok (.goto 60, 3) := by decide +kernel
theorem dX12_words_161 : decode cX12_words 161 = .ok (.iconst 0, 1) := by decide +kernel
theorem dX12_words_162 : decode cX12_words 162 = .ok (.istore 6, 2) := by decide +kernel
theorem dX12_words_164 : decode cX12_words 164 = .ok (.aload_n 0, 1) := by decide +kernel
theorem dX12_words_165 : decode cX12_words 165 = .ok (.iload_n 1, 1) := by decide +kernel
theorem dX12_words_166 : decode cX12_words 166 = .ok (.iload 7, 2) := by decide +kernel
theorem dX12_words_168 : decode cX12_words 168 = .ok (.iconst 0, 1) := by decide +kernel
theorem dX12_words_169 : decode cX12_words 169 = .ok (.invokevirtual 247, 3) := by decide +kernel
theorem dX12_words_172 : decode cX12_words 172 = .ok (.iload 7, 2) := by decide +kernel
theorem dX12_words_174 : decode cX12_words 174 = .ok (.istore 8, 2) := by decide +kernel
theorem dX12_words_176 : decode cX12_words 176 = .ok (.iload 8, 2) := by decide +kernel
theorem dX12_words_178 : decode cX12_words 178 = .ok (.iload 7, 2) := by decide +kernel
theorem dX12_words_180 : decode cX12_words 180 = .ok (.bipush 16, 2) := by decide +kernel
theorem dX12_words_182 : decode cX12_words 182 = .ok (.iadd, 1) := by decide +kernel
theorem dX12_words_183 : decode cX12_words 183 = .ok (.if_icmp .ge 29, 3) := by decide +kernel
theorem dX12_words_186 : decode cX12_words 186 = .ok (.iload 8, 2) := by decide +kernel
theorem dX12_words_188 : decode cX12_words 188 = .ok (.aload_n 0, 1) := by decide +kernel
theorem dX12_words_189 : decode cX12_words 189 = .ok (.getfield 230, 3) := by decide +kernel
theorem dX12_words_192 : decode cX12_words 192 = .ok (.if_icmp .ge 20, 3) := by decide +kernel
theorem dX12_words_195 : decode cX12_words 195 = .ok (.aload_n 0, 1) := by decide +kernel
theorem dX12_words_196 : decode cX12_words 196 = .ok (.iload 8, 2) := by decide +kernel
theorem dX12_words_198 : decode cX12_words 198 = .ok (.iload_n 2, 1) := by decide +kernel
theorem dX12_words_199 : decode cX12_words 199 = .ok (.iload_n 3, 1) := by decide +kernel
theorem dX12_words_200 : decode cX12_words 200 = .ok (.invokevirtual 251, 3) := by decide +kernel
theorem dX12_words_203 : decode cX12_words 203 = .ok (.iload 8, 2) := by decide +kernel
theorem dX12_words_205 : decode cX12_words 205 = .ok (.iload_n 3, 1) := by decide +kernel
theorem dX12_words_206 : decode cX12_words 206 = .ok (.iadd, 1) := by decide +kernel
theorem dX12_words_207 : decode cX12_words 207 = .ok (.istore 8, 2) := by decide +kernel
theorem dX12_words_209 : decode cX12_words 209 = .ok (.goto (-33), 3) := by decide +kernel
theorem dX12_words_212 : decode cX12_words 212 = .ok (.aload_n 0, 1) := by decide +kernel
theorem dX12_words_213 : decode cX12_words 213 = .ok (.bipush 10, 2) := by decide +kernel
theorem dX12_words_215 : decode cX12_words 215 = .ok (.invokevirtual 87, 3) := by decide +kernel
theorem dX12_words_218 : decode cX12_words 218 = .ok (.iinc 7 16, 3) := by decide +kernel
theorem dX12_words_221 : decode cX12_words 221 = .ok (.goto (-106), 3) := by decide +kernel
theorem dX12_words_224 : decode cX12_words 224 = .ok (.iload_n 1, 1) := by decide +kernel
theorem dX12_words_225 : decode cX12_words 225 = .ok (.ifCond .eq 19, 3) := by decide +kernel
theorem dX12_words_228 : decode cX12_words 228 = .ok (.aload_n 0, 1) := by decide +kernel
theorem dX12_words_229 : decode cX12_words 229 = .ok (.iload_n 1, 1) := by decide +kernel
theorem dX12_words_230 : decode cX12_words 230 = .ok (.aload_n 0, 1) := by decide +kernel
theorem dX12_words_231 : decode cX12_words 231 = .ok (.getfield 230, 3) := by decide +kernel
theorem dX12_words_234 : decode cX12_words 234 = .ok (.iconst 0, 1) := by decide +kernel
theorem dX12_words_235 : decode cX12_words 235 = .ok (.invokevirtual 247, 3) := by decide +kernel
theorem dX12_words_238 : decode cX12_words 238 = .ok (.aload_n 0, 1) := by decide +kernel
theorem dX12_words_239 : decode cX12_words 239 = .ok (.bipush 10, 2) := by decide +kernel
theorem dX12_words_241 : decode cX12_words 241 = .ok (.invokevirtual 87, 3) := by decide +kernel
theorem dX12_words_244 : decode cX12_words 244 = .ok (.aload_n 0, 1) := by decide +kernel
theorem dX12_words_245 : decode cX12_words 245 = .ok (.invokevirtual 227, 3) := by decide +kernel
theorem dX12_words_248 : decode cX12_words 248 = .ok (.ireturn, 1) := by decide +kernel
theorem dX12_isGroupEnd_0 : decode cX12_isGroupEnd 0 = .ok (.iload_n 0, 1) := by decide +kernel
theorem dX12_isGroupEnd_1 : decode cX12_isGroupEnd 1 = .ok (.iload_n 1, 1) := by decide +kernel
theorem dX12_isGroupEnd_2 : decode cX12_isGroupEnd 2 = .ok (.iconst 1, 1) := by decide +kernel
theorem dX12_isGroupEnd_3 : decode cX12_isGroupEnd 3 = .ok (.isub, 1) := by decide +kernel
theorem dX12_isGroupEnd_4 : decode cX12_isGroupEnd 4 = .ok (.if_icmp .eq 16, 3) := by decide +kernel
theorem dX12_isGroupEnd_7 : decode cX12_isGroupEnd 7 = .ok (.iload_n 2, 1) := by decide +kernel
theorem dX12_isGroupEnd_8 : decode cX12_isGroupEnd 8 = .ok (.ifCond .le 16, 3) := by decide +kernel
theorem dX12_isGroupEnd_11 : decode cX12_isGroupEnd 11 = .ok (.iload_n 0, 1) := by decide +kernel
theorem dX12_isGroupEnd_12 : decode cX12_isGroupEnd 12 = .ok (.iload_n 2, 1) := by decide +kernel
theorem dX12_isGroupEnd_13 : decode cX12_isGroupEnd 13 = .ok (.irem, 1) := by decide +kernel
theorem dX12_isGroupEnd_14 : decode cX12_isGroupEnd 14 = .ok (.iload_n 2, 1) := by decide +kernel
theorem dX12_isGroupEnd_15 : decode cX12_isGroupEnd 15 = .ok (.iconst 1, 1) := by decide +kernel
theorem dX12_isGroupEnd_16 : decode cX12_isGroupEnd 16 = .ok (.isub, 1) := by decide +kernel
theorem dX12_isGroupEnd_17 : decode cX12_isGroupEnd 17 = .ok (.if_icmp .ne 7, 3) := by decide +kernel
theorem dX12_isGroupEnd_20 : decode cX12_isGroupEnd 20 = .ok (.iconst 1, 1) := by decide +kernel
theorem dX12_isGroupEnd_21 : decode cX12_isGroupEnd 21 = .ok (.goto 4, 3) := by decide +kernel
theorem dX12_isGroupEnd_24 : decode cX12_isGroupEnd 24 = .ok (.iconst 0, 1) := by decide +kernel
theorem dX12_isGroupEnd_25 : decode cX12_isGroupEnd 25 = .ok (.ireturn, 1) := by decide +kernel
theorem dX12_shown_0 : decode cX12_shown 0 = .ok (.iload_n 0, 1) := by decide +kernel
theorem dX12_shown_1 : decode cX12_shown 1 = .ok (.bipush 32, 2) := by decide +kernel
theorem dX12_shown_3 : decode cX12_shown 3 = .ok (.bipush 126, 2) := by decide +kernel
theorem dX12_shown_5 : decode cX12_shown 5 = .ok (.invokestatic 67, 3) := by decide +kernel
theorem dX12_shown_8 : decode cX12_shown 8 = .ok (.ifCond .eq 7, 3) := by decide +kernel
theorem dX12_shown_11 : decode cX12_shown 11 = .ok (.iload_n 0, 1) := by decide +kernel
theorem dX12_shown_12 : decode cX12_shown 12 = .ok (.goto 5, 3) := by decide +kernel
theorem dX12_shown_15 : decode cX12_shown 15 = .ok (.bipush 46, 2) := by decide +kernel
theorem dX12_shown_17 : decode cX12_shown 17 = .ok (.i2c, 1) := by decide +kernel
theorem dX12_shown_18 : decode cX12_shown 18 = .ok (.ireturn, 1) := by decide +kernel
theorem dX12_pairs_0 : decode cX12_pairs 0 = .ok (.aload_n 0, 1) := by decide +kernel
theorem dX12_pairs_1 : decode cX12_pairs 1 = .ok (.iload_n 1, 1) := by decide +kernel
theorem dX12_pairs_2 : decode cX12_pairs 2 = .ok (.iconst 1, 1) := by decide +kernel
theorem dX12_pairs_3 : decode cX12_pairs 3 = .ok (.bipush 32, 2) := by decide +kernel
theorem dX12_pairs_5 : decode cX12_pairs 5 = .ok (.invokestatic 67, 3) := by decide +kernel
theorem dX12_pairs_8 : decode cX12_pairs 8 = .ok (.ifCond .eq 16, 3) := by decide +kernel
theorem dX12_pairs_11 : decode cX12_pairs 11 = .ok (.iload_n 2, 1) := by decide +kernel
theorem dX12_pairs_12 : decode cX12_pairs 12 = .ok (.iconst 0, 1) := by decide +kernel
theorem dX12_pairs_13 : decode cX12_pairs 13 = .ok (.iload_n 1, 1) := by decide +kernel
theorem dX12_pairs_14 : decode cX12_pairs 14 = .ok (.invokestatic 67, 3) := by decide +kernel
theorem dX12_pairs_17 : decode cX12_pairs 17 = .ok (.ifCond .eq 7, 3) := by decide +kernel
theorem dX12_pairs_20 : decode cX12_pairs 20 = .ok (.iconst 0, 1) := by decide +kernel
theorem dX12_pairs_21 : decode cX12_pairs 21 = .ok (.goto 4, 3) := by decide +kernel
theorem dX12_pairs_24 : decode cX12_pairs 24 = .ok (.iconst 1, 1) := by decide +kernel
theorem dX12_pairs_25 : decode cX12_pairs 25 = .ok (.invokevirtual 60, 3) := by decide +kernel
theorem dX12_pairs_28 : decode cX12_pairs 28 = .ok (.ifCond .eq 5, 3) := by decide +kernel
theorem dX12_pairs_31 : decode cX12_pairs 31 = .ok (.iconst 0, 1) := by decide +kernel
theorem dX12_pairs_32 : decode cX12_pairs 32 = .ok (.ireturn, 1) := by decide +kernel
theorem dX12_pairs_33 : decode cX12_pairs 33 = .ok (.aload_n 0, 1) := by decide +kernel
theorem dX12_pairs_34 : decode cX12_pairs 34 = .ok (.invokevirtual 218, 3) := by decide +kernel
theorem dX12_pairs_37 : decode cX12_pairs 37 = .ok (.iconst 0, 1) := by decide +kernel
theorem dX12_pairs_38 : decode cX12_pairs 38 = .ok (.istore 4, 2) := by decide +kernel
theorem dX12_pairs_40 : decode cX12_pairs 40 = .ok (.iload 4, 2) := by decide +kernel
theorem dX12_pairs_42 : decode cX12_pairs 42 = .ok (.aload_n 0, 1) := by decide +kernel
theorem dX12_pairs_43 : decode cX12_pairs 43 = .ok (.getfield 230, 3) := by decide +kernel
theorem dX12_pairs_46 : decode cX12_pairs 46 = .ok (.if_icmp .ge 214, 3) := by decide +kernel
theorem dX12_pairs_49 : decode cX12_pairs 49 = .ok (.aload_n 0, 1) := by decide +kernel
theorem dX12_pairs_50 : decode cX12_pairs 50 = .ok (.iload 4, 2) := by decide +kernel
theorem dX12_pairs_52 : decode cX12_pairs 52 = .ok (.i2l, 1) := by decide +kernel
theorem dX12_pairs_53 : decode cX12_pairs 53 = .ok (.bipush 16, 2) := by decide +kernel
theorem dX12_pairs_55 : decode cX12_pairs 55 = .ok (.iload_n 3, 1) := by decide +kernel
theorem dX12_pairs_56 : decode cX12_pairs 56 = .ok (.invokevirtual 166, 3) := by decide +kernel
theorem dX12_pairs_59 : decode cX12_pairs 59 = .ok (.aload_n 0, 1) := by decide +kernel
theorem dX12_pairs_60 : decode cX12_pairs 60 = .ok (.bipush 8, 2) := by decide +kernel
theorem dX12_pairs_62 : decode cX12_pairs 62 = .ok (.invokevirtual 170, 3) := by decide +kernel
theorem dX12_pairs_65 : decode cX12_pairs 65 = .ok (.aload_n 0, 1) := by decide +kernel
theorem dX12_pairs_66 : decode cX12_pairs 66 = .ok (.invokevirtual 185, 3) := by decide +kernel
theorem dX12_pairs_69 : decode cX12_pairs 69 = .ok (.aload_n 0, 1) := by decide +kernel
theorem dX12_pairs_70 : decode cX12_pairs 70 = .ok (.bipush 58, 2) := by decide +kernel
theorem dX12_pairs_72 : decode cX12_pairs 72 = .ok (.invokevirtual 87, 3) := by decide +kernel
theorem dX12_pairs_75 : decode cX12_pairs 75 = .ok (.aload_n 0, 1) := by decide +kernel
theorem dX12_pairs_76 : decode cX12_pairs 76 = .ok (.bipush 32, 2) := by decide +kernel
theorem dX12_pairs_78 : decode cX12_pairs 78 = .ok (.invokevirtual 87, 3) := by decide +kernel
theorem dX12_pairs_81 : decode cX12_pairs 81 = .ok (.iconst 0, 1) := by decide +kernel
theorem dX12_pairs_82 : decode cX12_pairs 82 = .ok (.istore 5, 2) := by decide +kernel
theorem dX12_pairs_84 : decode cX12_pairs 84 = .ok (.iload 5, 2) := by decide +kernel
theorem dX12_pairs_86 : decode cX12_pairs 86 = .ok (.iload_n 1, 1) := by decide +kernel
theorem dX12_pairs_87 : decode cX12_pairs 87 = .ok (.if_icmp .ge 110, 3) := by decide +kernel
theorem dX12_pairs_90 : decode cX12_pairs 90 = .ok (.iload 4, 2) := by decide +kernel
theorem dX12_pairs_92 : decode cX12_pairs 92 = .ok (.iload 5, 2) := by decide +kernel
theorem dX12_pairs_94 : decode cX12_pairs 94 = .ok (.iadd, 1) := by decide +kernel
theorem dX12_pairs_95 : decode cX12_pairs 95 = .ok (.aload_n 0, 1) := by decide +kernel
theorem dX12_pairs_96 : decode cX12_pairs 96 = .ok (.getfield 230, 3) := by decide +kernel
theorem dX12_pairs_99 : decode cX12_pairs 99 = .ok (.if_icmp .ge 7, 3) := by decide +kernel
theorem dX12_pairs_102 : decode cX12_pairs 102 = .ok (.iconst 1, 1) := by decide +kernel
theorem dX12_pairs_103 : decode cX12_pairs 103 = .ok (.goto 4, 3) := by decide +kernel
theorem dX12_pairs_106 : decode cX12_pairs 106 = .ok (.iconst 0, 1) := by decide +kernel
theorem dX12_pairs_107 : decode cX12_pairs 107 = .ok (.istore 6, 2) := by decide +kernel
theorem dX12_pairs_109 : decode cX12_pairs 109 = .ok (.iload 6, 2) := by decide +kernel
theorem dX12_pairs_111 : decode cX12_pairs 111 = .ok (.ifCond .eq 16, 3) := by decide +kernel
theorem dX12_pairs_114 : decode cX12_pairs 114 = .ok (.aload_n 0, 1) := by decide +kernel
theorem dX12_pairs_115 : decode cX12_pairs 115 = .ok (.getfield 28, 3) := by decide +kernel
theorem dX12_pairs_118 : decode cX12_pairs 118 = .ok (.iload 4, 2) := by decide +kernel
theorem dX12_pairs_120 : decode cX12_pairs 120 = .ok (.iload 5, 2) := by decide +kernel
theorem dX12_pairs_122 : decode cX12_pairs 122 = .ok (.iadd, 1) := by decide +kernel
theorem dX12_pairs_123 : decode cX12_pairs 123 = .ok (.iaload, 1) := by decide +kernel
theorem dX12_pairs_124 : decode cX12_pairs 124 = .ok (.goto 4, 3) := by decide +kernel
theorem dX12_pairs_127 : decode cX12_pairs 127 = .ok (.iconst 0, 1) := by decide +kernel
theorem dX12_pairs_128 : decode cX12_pairs 128 = .ok (.istore 7, 2) := by decide +kernel
theorem dX12_pairs_130 : decode cX12_pairs 130 = .ok (.aload_n 0, 1) := by decide +kernel
theorem dX12_pairs_131 : decode cX12_pairs 131 = .ok (.iload 6, 2) := by decide +kernel
theorem dX12_pairs_133 : decode cX12_pairs 133 = .ok (.ifCond .eq 14, 3) := by decide +kernel
theorem dX12_pairs_136 : decode cX12_pairs 136 = .ok (.iload 7, 2) := by decide +kernel
theorem dX12_pairs_138 : decode cX12_pairs 138 = .ok (.iconst 4, 1) := by decide +kernel
theorem dX12_pairs_139 : decode cX12_pairs 139 = .ok (.ishr, 1) := by decide +kernel
theorem dX12_pairs_140 : decode cX12_pairs 140 = .ok (.iload_n 3, 1) := by decide +kernel
theorem dX12_pairs_141 : decode cX12_pairs 141 = .ok (.invokestatic 83, 3) := by decide +kernel
theorem dX12_pairs_144 : decode cX12_pairs 144 = .ok (.goto 5, 3) := by decide +kernel
theorem dX12_pairs_147 : decode cX12_pairs 147 = .ok (.bipush 32, 2) := by decide +kernel
theorem dX12_pairs_149 : decode cX12_pairs 149 = .ok (.invokevirtual 87, 3) := by decide +kernel
theorem dX12_pairs_152 : decode cX12_pairs 152 = .ok (.aload_n 0, 1) := by decide +kernel
theorem dX12_pairs_153 : decode cX12_pairs 153 = .ok (.iload 6, 2) := by decide +kernel
theorem dX12_pairs_155 : decode cX12_pairs 155 = .ok (.ifCond .eq 15, 3) := by decide +kernel
theorem dX12_pairs_158 : decode cX12_pairs 158 = .ok (.iload 7, 2) := by decide +kernel
theorem dX12_pairs_160 : decode cX12_pairs 160 = .ok (.bipush 15, 2) := by decide +kernel
theorem dX12_pairs_162 : decode cX12_pairs 162 = .ok (.iand, 1) := by decide +kernel
theorem dX12_pairs_163 : decode cX12_pairs 163 = .ok (.iload_n 3, 1) := by decide +kernel
theorem dX12_pairs_164 : decode cX12_pairs 164 = .ok (.invokestatic 83, 3) := by decide +kernel
theorem dX12_pairs_167 : decode cX12_pairs 167 = .ok (.goto 5, 3) := by decide +kernel
theorem dX12_pairs_170 : decode cX12_pairs 170 = .ok (.bipush 32, 2) := by decide +kernel
theorem dX12_pairs_172 : decode cX12_pairs 172 = .ok (.invokevirtual 87, 3) := by decide +kernel
theorem dX12_pairs_175 : decode cX12_pairs 175 = .ok (.iload 5, 2) := by decide +kernel
theorem dX12_pairs_177 : decode cX12_pairs 177 = .ok (.iload_n 1, 1) := by decide +kernel
theorem dX12_pairs_178 : decode cX12_pairs 178 = .ok (.iload_n 2, 1) := by decide +kernel
theorem dX12_pairs_179 : decode cX12_pairs 179 = .ok (.invokestatic 255, 3) := by decide +kernel
theorem dX12_pairs_182 : decode cX12_pairs 182 = .ok (.ifCond .eq 9, 3) := by decide +kernel
theorem dX12_pairs_185 : decode cX12_pairs 185 = .ok (.aload_n 0, 1) := by decide +kernel
theorem dX12_pairs_186 : decode cX12_pairs 186 = .ok (.bipush 32, 2) := by decide +kernel
theorem dX12_pairs_188 : decode cX12_pairs 188 = .ok (.invokevirtual 87, 3) := by decide +kernel
theorem dX12_pairs_191 : decode cX12_pairs 191 = .ok (.iinc 5 1, 3) := by decide +kernel
theorem dX12_pairs_194 : decode cX12_pairs 194 = .ok (.goto (-110), 3) := by decide +kernel
theorem dX12_pairs_197 : decode cX12_pairs 197 = .ok (.aload_n 0, 1) := by decide +kernel
theorem dX12_pairs_198 : decode cX12_pairs 198 = .ok (.bipush 32, 2) := by decide +kernel
theorem dX12_pairs_200 : decode cX12_pairs 200 = .ok (.invokevirtual 87, 3) := by decide +kernel
theorem dX12_pairs_203 : decode cX12_pairs 203 = .ok (.iload 4, 2) := by decide +kernel
theorem dX12_pairs_205 : decode cX12_pairs 205 = .ok (.istore 5, 2) := by decide +kernel
theorem dX12_pairs_207 : decode cX12_pairs 207 = .ok (.iload 5, 2) := by decide +kernel
theorem dX12_pairs_209 : decode cX12_pairs 209 = .ok (.iload 4, 2) := by decide +kernel
theorem dX12_pairs_211 : decode cX12_pairs 211 = .ok (.iload_n 1, 1) := by decide +kernel
theorem dX12_pairs_212 : decode cX12_pairs 212 = .ok (.iadd, 1) := by decide +kernel
theorem dX12_pairs_213 : decode cX12_pairs 213 = .ok (.if_icmp .ge 32, 3) := by decide +kernel
theorem dX12_pairs_216 : decode cX12_pairs 216 = .ok (.iload 5, 2) := by decide +kernel
theorem dX12_pairs_218 : decode cX12_pairs 218 = .ok (.aload_n 0, 1) := by decide +kernel
theorem dX12_pairs_219 : decode cX12_pairs 219 = .ok (.getfield 230, 3) := by decide +kernel
theorem dX12_pairs_222 : decode cX12_pairs 222 = .ok (.if_icmp .ge 23, 3) := by decide +kernel
theorem dX12_pairs_225 : decode cX12_pairs 225 = .ok (.aload_n 0, 1) := by decide +kernel
theorem dX12_pairs_226 : decode cX12_pairs 226 = .ok (.aload_n 0, 1) := by decide +kernel
theorem dX12_pairs_227 : decode cX12_pairs 227 = .ok (.getfield 28, 3) := by decide +kernel
theorem dX12_pairs_230 : decode cX12_pairs 230 = .ok (.iload 5, 2) := by decide +kernel
theorem dX12_pairs_232 : decode cX12_pairs 232 = .ok (.iaload, 1) := by decide +kernel
theorem dX12_pairs_233 : decode cX12_pairs 233 = .ok (.invokestatic 258, 3) := by decide +kernel
theorem dX12_pairs_236 : decode cX12_pairs 236 = .ok (.invokevirtual 87, 3) := by decide +kernel
theorem dX12_pairs_239 : decode cX12_pairs 239 = .ok (.iinc 5 1, 3) := by decide +kernel
theorem dX12_pairs_242 : decode cX12_pairs 242 = .ok (.goto (-35), 3) := by decide +kernel
theorem dX12_pairs_245 : decode cX12_pairs 245 = .ok (.aload_n 0, 1) := by decide +kernel
theorem dX12_pairs_246 : decode cX12_pairs 246 = .ok (.bipush 10, 2) := by decide +kernel
theorem dX12_pairs_248 : decode cX12_pairs 248 = .ok (.invokevirtual 87, 3) := by decide +kernel
theorem dX12_pairs_251 : decode cX12_pairs 251 = .ok (.iload 4, 2) := by decide +kernel
theorem dX12_pairs_253 : decode cX12_pairs 253 = .ok (.iload_n 1, 1) := by decide +kernel
theorem dX12_pairs_254 : decode cX12_pairs 254 = .ok (.iadd, 1) := by decide +kernel
theorem dX12_pairs_255 : decode cX12_pairs 255 = .ok (.istore 4, 2) := by decide +kernel
theorem dX12_pairs_257 : decode cX12_pairs 257 = .ok (.goto (-217), 3) := by decide +kernel
theorem dX12_pairs_260 : decode cX12_pairs 260 = .ok (.aload_n 0, 1) := by decide +kernel
theorem dX12_pairs_261 : decode cX12_pairs 261 = .ok (.invokevirtual 227, 3) := by decide +kernel
theorem dX12_pairs_264 : decode cX12_pairs 264 = .ok (.ireturn, 1) := by decide +kernel
theorem dX12_isNext_0 : decode cX12_isNext 0 = .ok (.aload_n 0, 1) := by decide +kernel
theorem dX12_isNext_1 : decode cX12_isNext 1 = .ok (.getfield 261, 3) := by decide +kernel
theorem dX12_isNext_4 : decode cX12_isNext 4 = .ok (.aload_n 0, 1) := by decide +kernel
theorem dX12_isNext_5 : decode cX12_isNext 5 = .ok (.getfield 71, 3) := by decide +kernel
theorem dX12_isNext_8 : decode cX12_isNext 8 = .ok (.if_icmp .ge 20, 3) := by decide +kernel
theorem dX12_isNext_11 : decode cX12_isNext 11 = .ok (.aload_n 0, 1) := by decide +kernel
theorem dX12_isNext_12 : decode cX12_isNext 12 = .ok (.getfield 35, 3) := by decide +kernel
theorem dX12_isNext_15 : decode cX12_isNext 15 = .ok (.aload_n 0, 1) := by decide +kernel
theorem dX12_isNext_16 : decode cX12_isNext 16 = .ok (.getfield 261, 3) := by decide +kernel
theorem dX12_isNext_19 : decode cX12_isNext 19 = .ok (.caload, 1) := by decide +kernel
theorem dX12_isNext_20 : decode cX12_isNext 20 = .ok (.iload_n 1, 1) := by decide +kernel
theorem dX12_isNext_21 : decode cX12_isNext 21 = .ok (.if_icmp .ne 7, 3) := by decide +kernel
theorem dX12_isNext_24 : decode cX12_isNext 24 = .ok (.iconst 1, 1) := by decide +kernel
theorem dX12_isNext_25 : decode cX12_isNext 25 = .ok (.goto 4, 3) := by decide +kernel
theorem dX12_isNext_28 : decode cX12_isNext 28 = .ok (.iconst 0, 1) := by decide +kernel
theorem dX12_isNext_29 : decode cX12_isNext 29 = .ok (.ireturn, 1) := by decide +kernel
theorem dX12_hexAt_0 : decode cX12_hexAt 0 = .ok (.iload_n 1, 1) := by decide +kernel
theorem dX12_hexAt_1 : decode cX12_hexAt 1 = .ok (.aload_n 0, 1) := by decide +kernel
theorem dX12_hexAt_2 : decode cX12_hexAt 2 = .ok (.getfield 71, 3) := by decide +kernel
theorem dX12_hexAt_5 : decode cX12_hexAt 5 = .ok (.if_icmp .ge 17, 3) := by decide +kernel
theorem dX12_hexAt_8 : decode cX12_hexAt 8 = .ok (.aload_n 0, 1) := by decide +kernel
theorem dX12_hexAt_9 : decode cX12_hexAt 9 = .ok (.getfield 35, 3) := by decide +kernel
theorem dX12_hexAt_12 : decode cX12_hexAt 12 = .ok (.iload_n 1, 1) := by decide +kernel
theorem dX12_hexAt_13 : decode cX12_hexAt 13 = .ok (.caload, 1) := by decide +kernel
theorem dX12_hexAt_14 : decode cX12_hexAt 14 = .ok (.bipush 16, 2) := by decide +kernel
theorem dX12_hexAt_16 : decode cX12_hexAt 16 = .ok (.invokestatic 152, 3) := by decide +kernel
