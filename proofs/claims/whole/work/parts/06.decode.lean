theorem dX7_parts_89 : decode cX7_parts 89 = .ok (.iconst 0, 1) := by decide +kernel
theorem dX7_parts_90 : decode cX7_parts 90 = .ok (.istore 9, 2) := by decide +kernel
theorem dX7_parts_92 : decode cX7_parts 92 = .ok (.aload 4, 2) := by decide +kernel
theorem dX7_parts_94 : decode cX7_parts 94 = .ok (.iload 9, 2) := by decide +kernel
theorem dX7_parts_96 : decode cX7_parts 96 = .ok (.iinc 9 1, 3) := by decide +kernel
theorem dX7_parts_99 : decode cX7_parts 99 = .ok (.iload 6, 2) := by decide +kernel
theorem dX7_parts_101 : decode cX7_parts 101 = .ok (.iastore, 1) := by decide +kernel
theorem dX7_parts_102 : decode cX7_parts 102 = .ok (.iload 8, 2) := by decide +kernel
theorem dX7_parts_104 : decode cX7_parts 104 = .ok (.iload 9, 2) := by decide +kernel
theorem dX7_parts_106 : decode cX7_parts 106 = .ok (.if_icmp .ge 167, 3) := by decide +kernel
theorem dX7_parts_109 : decode cX7_parts 109 = .ok (.aload 4, 2) := by decide +kernel
theorem dX7_parts_111 : decode cX7_parts 111 = .ok (.iload 8, 2) := by decide +kernel
theorem dX7_parts_113 : decode cX7_parts 113 = .ok (.iinc 8 1, 3) := by decide +kernel
theorem dX7_parts_116 : decode cX7_parts 116 = .ok (.iaload, 1) := by decide +kernel
theorem dX7_parts_117 : decode cX7_parts 117 = .ok (.istore 10, 2) := by decide +kernel
theorem dX7_parts_119 : decode cX7_parts 119 = .ok (.iconst 0, 1) := by decide +kernel
theorem dX7_parts_120 : decode cX7_parts 120 = .ok (.istore 11, 2) := by decide +kernel
theorem dX7_parts_122 : decode cX7_parts 122 = .ok (.iload 11, 2) := by decide +kernel
theorem dX7_parts_124 : decode cX7_parts 124 = .ok (.bipush 9, 2) := by decide +kernel
theorem dX7_parts_126 : decode cX7_parts 126 = .ok (.if_icmp .ge 144, 3) := by decide +kernel
theorem dX7_parts_129 : decode cX7_parts 129 = .ok (.iload 11, 2) := by decide +kernel
theorem dX7_parts_131 : decode cX7_parts 131 = .ok (.iconst 3, 1) := by decide +kernel
theorem dX7_parts_132 : decode cX7_parts 132 = .ok (.irem, 1) := by decide +kernel
theorem dX7_parts_133 : decode cX7_parts 133 = .ok (.iconst 1, 1) := by decide +kernel
theorem dX7_parts_134 : decode cX7_parts 134 = .ok (.isub, 1) := by decide +kernel
theorem dX7_parts_135 : decode cX7_parts 135 = .ok (.istore 12, 2) := by decide +kernel
theorem dX7_parts_137 : decode cX7_parts 137 = .ok (.iload 11, 2) := by decide +kernel
theorem dX7_parts_139 : decode cX7_parts 139 = .ok (.iconst 3, 1) := by decide +kernel
theorem dX7_parts_140 : decode cX7_parts 140 = .ok (.idiv, 1) := by decide +kernel
theorem dX7_parts_141 : decode cX7_parts 141 = .ok (.iconst 1, 1) := by decide +kernel
theorem dX7_parts_142 : decode cX7_parts 142 = .ok (.isub, 1) := by decide +kernel
theorem dX7_parts_143 : decode cX7_parts 143 = .ok (.istore 13, 2) := by decide +kernel
theorem dX7_parts_145 : decode cX7_parts 145 = .ok (.iload_n 1, 1) := by decide +kernel
theorem dX7_parts_146 : decode cX7_parts 146 = .ok (.ifCond .eq 16, 3) := by decide +kernel
theorem dX7_parts_149 : decode cX7_parts 149 = .ok (.iload 12, 2) := by decide +kernel
theorem dX7_parts_151 : decode cX7_parts 151 = .ok (.ifCond .eq 11, 3) := by decide +kernel
theorem dX7_parts_154 : decode cX7_parts 154 = .ok (.iload 13, 2) := by decide +kernel
theorem dX7_parts_156 : decode cX7_parts 156 = .ok (.ifCond .eq 6, 3) := by decide +kernel
theorem dX7_parts_159 : decode cX7_parts 159 = .ok (.goto 105, 3) := by decide +kernel
theorem dX7_parts_162 : decode cX7_parts 162 = .ok (.iload 10, 2) := by decide +kernel
theorem dX7_parts_164 : decode cX7_parts 164 = .ok (.iload_n 2, 1) := by decide +kernel
theorem dX7_parts_165 : decode cX7_parts 165 = .ok (.irem, 1) := by decide +kernel
theorem dX7_parts_166 : decode cX7_parts 166 = .ok (.iload 12, 2) := by decide +kernel
theorem dX7_parts_168 : decode cX7_parts 168 = .ok (.iadd, 1) := by decide +kernel
theorem dX7_parts_169 : decode cX7_parts 169 = .ok (.istore 14, 2) := by decide +kernel
theorem dX7_parts_171 : decode cX7_parts 171 = .ok (.iload 10, 2) := by decide +kernel
theorem dX7_parts_173 : decode cX7_parts 173 = .ok (.iload_n 2, 1) := by decide +kernel
theorem dX7_parts_174 : decode cX7_parts 174 = .ok (.idiv, 1) := by decide +kernel
theorem dX7_parts_175 : decode cX7_parts 175 = .ok (.iload 13, 2) := by decide +kernel
theorem dX7_parts_177 : decode cX7_parts 177 = .ok (.iadd, 1) := by decide +kernel
theorem dX7_parts_178 : decode cX7_parts 178 = .ok (.istore 15, 2) := by decide +kernel
theorem dX7_parts_180 : decode cX7_parts 180 = .ok (.iload 14, 2) := by decide +kernel
theorem dX7_parts_182 : decode cX7_parts 182 = .ok (.iconst 0, 1) := by decide +kernel
theorem dX7_parts_183 : decode cX7_parts 183 = .ok (.iload_n 2, 1) := by decide +kernel
theorem dX7_parts_184 : decode cX7_parts 184 = .ok (.iconst 1, 1) := by decide +kernel
theorem dX7_parts_185 : decode cX7_parts 185 = .ok (.isub, 1) := by decide +kernel
theorem dX7_parts_186 : decode cX7_parts 186 = .ok (.invokestatic 36, 3) := by decide +kernel
theorem dX7_parts_189 : decode cX7_parts 189 = .ok (.ifCond .eq 75, 3) := by decide +kernel
theorem dX7_parts_192 : decode cX7_parts 192 = .ok (.iload 15, 2) := by decide +kernel
theorem dX7_parts_194 : decode cX7_parts 194 = .ok (.iconst 0, 1) := by decide +kernel
theorem dX7_parts_195 : decode cX7_parts 195 = .ok (.iload_n 2, 1) := by decide +kernel
theorem dX7_parts_196 : decode cX7_parts 196 = .ok (.iconst 1, 1) := by decide +kernel
theorem dX7_parts_197 : decode cX7_parts 197 = .ok (.isub, 1) := by decide +kernel
theorem dX7_parts_198 : decode cX7_parts 198 = .ok (.invokestatic 36, 3) := by decide +kernel
theorem dX7_parts_201 : decode cX7_parts 201 = .ok (.ifCond .ne 6, 3) := by decide +kernel
theorem dX7_parts_204 : decode cX7_parts 204 = .ok (.goto 60, 3) := by decide +kernel
theorem dX7_parts_207 : decode cX7_parts 207 = .ok (.iload 15, 2) := by decide +kernel
theorem dX7_parts_209 : decode cX7_parts 209 = .ok (.iload_n 2, 1) := by decide +kernel
theorem dX7_parts_210 : decode cX7_parts 210 = .ok (.imul, 1) := by decide +kernel
theorem dX7_parts_211 : decode cX7_parts 211 = .ok (.iload 14, 2) := by decide +kernel
theorem dX7_parts_213 : decode cX7_parts 213 = .ok (.iadd, 1) := by decide +kernel
theorem dX7_parts_214 : decode cX7_parts 214 = .ok (.istore 16, 2) := by decide +kernel
theorem dX7_parts_216 : decode cX7_parts 216 = .ok (.aload_n 3, 1) := by decide +kernel
theorem dX7_parts_217 : decode cX7_parts 217 = .ok (.iload 16, 2) := by decide +kernel
theorem dX7_parts_219 : decode cX7_parts 219 = .ok (.iaload, 1) := by decide +kernel
theorem dX7_parts_220 : decode cX7_parts 220 = .ok (.ifCond .ne 44, 3) := by decide +kernel
theorem dX7_parts_223 : decode cX7_parts 223 = .ok (.aload_n 0, 1) := by decide +kernel
theorem dX7_parts_224 : decode cX7_parts 224 = .ok (.iload 14, 2) := by decide +kernel
theorem dX7_parts_226 : decode cX7_parts 226 = .ok (.bipush (-32), 2) := by decide +kernel
theorem dX7_parts_228 : decode cX7_parts 228 = .ok (.iadd, 1) := by decide +kernel
theorem dX7_parts_229 : decode cX7_parts 229 = .ok (.iconst 1, 1) := by decide +kernel
theorem dX7_parts_230 : decode cX7_parts 230 = .ok (.isub, 1) := by decide +kernel
theorem dX7_parts_231 : decode cX7_parts 231 = .ok (.iload 15, 2) := by decide +kernel
theorem dX7_parts_233 : decode cX7_parts 233 = .ok (.bipush (-32), 2) := by decide +kernel
theorem dX7_parts_235 : decode cX7_parts 235 = .ok (.iadd, 1) := by decide +kernel
theorem dX7_parts_236 : decode cX7_parts 236 = .ok (.iconst 1, 1) := by decide +kernel
theorem dX7_parts_237 : decode cX7_parts 237 = .ok (.isub, 1) := by decide +kernel
theorem dX7_parts_238 : decode cX7_parts 238 = .ok (.invokestatic 95, 3) := by decide +kernel
theorem dX7_parts_241 : decode cX7_parts 241 = .ok (.iload_n 1, 1) := by decide +kernel
theorem dX7_parts_242 : decode cX7_parts 242 = .ok (.if_icmp .eq 6, 3) := by decide +kernel
theorem dX7_parts_245 : decode cX7_parts 245 = .ok (.goto 19, 3) := by decide +kernel
theorem dX7_parts_248 : decode cX7_parts 248 = .ok (.aload_n 3, 1) := by decide +kernel
theorem dX7_parts_249 : decode cX7_parts 249 = .ok (.iload 16, 2) := by decide +kernel
theorem dX7_parts_251 : decode cX7_parts 251 = .ok (.iload 5, 2) := by decide +kernel
theorem dX7_parts_253 : decode cX7_parts 253 = .ok (.iastore, 1) := by decide +kernel
theorem dX7_parts_254 : decode cX7_parts 254 = .ok (.aload 4, 2) := by decide +kernel
theorem dX7_parts_256 : decode cX7_parts 256 = .ok (.iload 9, 2) := by decide +kernel
theorem dX7_parts_258 : decode cX7_parts 258 = .ok (.iinc 9 1, 3) := by decide +kernel
theorem dX7_parts_261 : decode cX7_parts 261 = .ok (.iload 16, 2) := by decide +kernel
theorem dX7_parts_263 : decode cX7_parts 263 = .ok (.iastore, 1) := by decide +kernel
theorem dX7_parts_264 : decode cX7_parts 264 = .ok (.iinc 11 1, 3) := by decide +kernel
theorem dX7_parts_267 : decode cX7_parts 267 = .ok (.goto (-145), 3) := by decide +kernel
theorem dX7_parts_270 : decode cX7_parts 270 = .ok (.goto (-168), 3) := by decide +kernel
theorem dX7_parts_273 : decode cX7_parts 273 = .ok (.iinc 6 1, 3) := by decide +kernel
theorem dX7_parts_276 : decode cX7_parts 276 = .ok (.goto (-254), 3) := by decide +kernel
theorem dX7_parts_279 : decode cX7_parts 279 = .ok (.aload_n 3, 1) := by decide +kernel
theorem dX7_parts_280 : decode cX7_parts 280 = .ok (.areturn, 1) := by decide +kernel
theorem dX7_most_0 : decode cX7_most 0 = .ok (.iconst 0, 1) := by decide +kernel
theorem dX7_most_1 : decode cX7_most 1 = .ok (.istore_n 1, 1) := by decide +kernel
theorem dX7_most_2 : decode cX7_most 2 = .ok (.aload_n 0, 1) := by decide +kernel
theorem dX7_most_3 : decode cX7_most 3 = .ok (.astore_n 2, 1) := by decide +kernel
theorem dX7_most_4 : decode cX7_most 4 = .ok (.aload_n 2, 1) := by decide +kernel
theorem dX7_most_5 : decode cX7_most 5 = .ok (.arraylength, 1) := by decide +kernel
theorem dX7_most_6 : decode cX7_most 6 = .ok (.istore_n 3, 1) := by decide +kernel
theorem dX7_most_7 : decode cX7_most 7 = .ok (.iconst 0, 1) := by decide +kernel
theorem dX7_most_8 : decode cX7_most 8 = .ok (.istore 4, 2) := by decide +kernel
theorem dX7_most_10 : decode cX7_most 10 = .ok (.iload 4, 2) := by decide +kernel
theorem dX7_most_12 : decode cX7_most 12 = .ok (.iload_n 3, 1) := by decide +kernel
theorem dX7_most_13 : decode cX7_most 13 = .ok (.if_icmp .ge 22, 3) := by decide +kernel
theorem dX7_most_16 : decode cX7_most 16 = .ok (.aload_n 2, 1) := by decide +kernel
theorem dX7_most_17 : decode cX7_most 17 = .ok (.iload 4, 2) := by decide +kernel
theorem dX7_most_19 : decode cX7_most 19 = .ok (.iaload, 1) := by decide +kernel
theorem dX7_most_20 : decode cX7_most 20 = .ok (.istore 5, 2) := by decide +kernel
theorem dX7_most_22 : decode cX7_most 22 = .ok (.iload_n 1, 1) := by decide +kernel
theorem dX7_most_23 : decode cX7_most 23 = .ok (.iload 5, 2) := by decide +kernel
theorem dX7_most_25 : decode cX7_most 25 = .ok (.invokestatic 73, 3) := by decide +kernel
theorem dX7_most_28 : decode cX7_most 28 = .ok (.istore_n 1, 1) := by decide +kernel
theorem dX7_most_29 : decode cX7_most 29 = .ok (.iinc 4 1, 3) := by decide +kernel
theorem dX7_most_32 : decode cX7_most 32 = .ok (.goto (-22), 3) := by decide +kernel
theorem dX7_most_35 : decode cX7_most 35 = .ok (.iload_n 1, 1) := by decide +kernel
theorem dX7_most_36 : decode cX7_most 36 = .ok (.ireturn, 1) := by decide +kernel
theorem dX7_partAt_0 : decode cX7_partAt 0 = .ok (.aload_n 0, 1) := by decide +kernel
theorem dX7_partAt_1 : decode cX7_partAt 1 = .ok (.iload_n 2, 1) := by decide +kernel
theorem dX7_partAt_2 : decode cX7_partAt 2 = .ok (.bipush (-32), 2) := by decide +kernel
theorem dX7_partAt_4 : decode cX7_partAt 4 = .ok (.isub, 1) := by decide +kernel
theorem dX7_partAt_5 : decode cX7_partAt 5 = .ok (.iconst 1, 1) := by decide +kernel
theorem dX7_partAt_6 : decode cX7_partAt 6 = .ok (.iadd, 1) := by decide +kernel
theorem dX7_partAt_7 : decode cX7_partAt 7 = .ok (.bipush 66, 2) := by decide +kernel
theorem dX7_partAt_9 : decode cX7_partAt 9 = .ok (.imul, 1) := by decide +kernel
theorem dX7_partAt_10 : decode cX7_partAt 10 = .ok (.iload_n 1, 1) := by decide +kernel
theorem dX7_partAt_11 : decode cX7_partAt 11 = .ok (.iadd, 1) := by decide +kernel
theorem dX7_partAt_12 : decode cX7_partAt 12 = .ok (.bipush (-32), 2) := by decide +kernel
theorem dX7_partAt_14 : decode cX7_partAt 14 = .ok (.isub, 1) := by decide +kernel
theorem dX7_partAt_15 : decode cX7_partAt 15 = .ok (.iconst 1, 1) := by decide +kernel
theorem dX7_partAt_16 : decode cX7_partAt 16 = .ok (.iadd, 1) := by decide +kernel
theorem dX7_partAt_17 : decode cX7_partAt 17 = .ok (.iaload, 1) := by decide +kernel
theorem dX7_partAt_18 : decode cX7_partAt 18 = .ok (.ireturn, 1) := by decide +kernel
theorem dX7_holesNow_0 : decode cX7_holesNow 0 = .ok (.aload_n 0, 1) := by decide +kernel
theorem dX7_holesNow_1 : decode cX7_holesNow 1 = .ok (.getfield 11, 3) := by decide +kernel
theorem dX7_holesNow_4 : decode cX7_holesNow 4 = .ok (.iload_n 1, 1) := by decide +kernel
theorem dX7_holesNow_5 : decode cX7_holesNow 5 = .ok (.aaload, 1) := by decide +kernel
theorem dX7_holesNow_6 : decode cX7_holesNow 6 = .ok (.iconst 0, 1) := by decide +kernel
theorem dX7_holesNow_7 : decode cX7_holesNow 7 = .ok (.invokestatic 99, 3) := by decide +kernel
theorem dX7_holesNow_10 : decode cX7_holesNow 10 = .ok (.invokestatic 103, 3) := by decide +kernel
theorem dX7_holesNow_13 : decode cX7_holesNow 13 = .ok (.iconst 1, 1) := by decide +kernel
theorem dX7_holesNow_14 : decode cX7_holesNow 14 = .ok (.isub, 1) := by decide +kernel
theorem dX7_holesNow_15 : decode cX7_holesNow 15 = .ok (.ireturn, 1) := by decide +kernel
theorem dX7_fill_0 : decode cX7_fill 0 = .ok (.aload_n 0, 1) := by decide +kernel
theorem dX7_fill_1 : decode cX7_fill 1 = .ok (.iconst 0, 1) := by decide +kernel
theorem dX7_fill_2 : decode cX7_fill 2 = .ok (.putfield 33, 3) := by decide +kernel
theorem dX7_fill_5 : decode cX7_fill 5 = .ok (.iload_n 1, 1) := by decide +kernel
theorem dX7_fill_6 : decode cX7_fill 6 = .ok (.invokestatic 76, 3) := by decide +kernel
theorem dX7_fill_9 : decode cX7_fill 9 = .ok (.ifCond .ne 9, 3) := by decide +kernel
theorem dX7_fill_12 : decode cX7_fill 12 = .ok (.aload_n 0, 1) := by decide +kernel
theorem dX7_fill_13 : decode cX7_fill 13 = .ok (.iconst 1, 1) := by decide +kernel
theorem dX7_fill_14 : decode cX7_fill 14 = .ok (.invokevirtual 61, 3) := by decide +kernel
theorem dX7_fill_17 : decode cX7_fill 17 = .ok (.ireturn, 1) := by decide +kernel
theorem dX7_fill_18 : decode cX7_fill 18 = .ok (.aload_n 0, 1) := by decide +kernel
theorem dX7_fill_19 : decode cX7_fill 19 = .ok (.getfield 11, 3) := by decide +kernel
theorem dX7_fill_22 : decode cX7_fill 22 = .ok (.iload_n 1, 1) := by decide +kernel
theorem dX7_fill_23 : decode cX7_fill 23 = .ok (.aaload, 1) := by decide +kernel
theorem dX7_fill_24 : decode cX7_fill 24 = .ok (.iconst 0, 1) := by decide +kernel
theorem dX7_fill_25 : decode cX7_fill 25 = .ok (.invokestatic 99, 3) := by decide +kernel
theorem dX7_fill_28 : decode cX7_fill 28 = .ok (.astore_n 2, 1) := by decide +kernel
theorem dX7_fill_29 : decode cX7_fill 29 = .ok (.sipush 4096, 3) := by decide +kernel
theorem dX7_fill_32 : decode cX7_fill 32 = .ok (.newarray .boolean, 2) := by decide +kernel
theorem dX7_fill_34 : decode cX7_fill 34 = .ok (.astore_n 3, 1) := by decide +kernel
theorem dX7_fill_35 : decode cX7_fill 35 = .ok (.bipush (-32), 2) := by decide +kernel
theorem dX7_fill_37 : decode cX7_fill 37 = .ok (.istore 4, 2) := by decide +kernel
theorem dX7_fill_39 : decode cX7_fill 39 = .ok (.iload 4, 2) := by decide +kernel
theorem dX7_fill_41 : decode cX7_fill 41 = .ok (.bipush 31, 2) := by decide +kernel
theorem dX7_fill_43 : decode cX7_fill 43 = .ok (.if_icmp .gt 52, 3) := by decide +kernel
theorem dX7_fill_46 : decode cX7_fill 46 = .ok (.bipush (-32), 2) := by decide +kernel
theorem dX7_fill_48 : decode cX7_fill 48 = .ok (.istore 5, 2) := by decide +kernel
theorem dX7_fill_50 : decode cX7_fill 50 = .ok (.iload 5, 2) := by decide +kernel
theorem dX7_fill_52 : decode cX7_fill 52 = .ok (.bipush 31, 2) := by decide +kernel
theorem dX7_fill_54 : decode cX7_fill 54 = .ok (.if_icmp .gt 35, 3) := by decide +kernel
theorem dX7_fill_57 : decode cX7_fill 57 = .ok (.aload_n 3, 1) := by decide +kernel
theorem dX7_fill_58 : decode cX7_fill 58 = .ok (.iload 4, 2) := by decide +kernel
theorem dX7_fill_60 : decode cX7_fill 60 = .ok (.iload 5, 2) := by decide +kernel
theorem dX7_fill_62 : decode cX7_fill 62 = .ok (.invokestatic 44, 3) := by decide +kernel
theorem dX7_fill_65 : decode cX7_fill 65 = .ok (.aload_n 2, 1) := by decide +kernel
theorem dX7_fill_66 : decode cX7_fill 66 = .ok (.iload 4, 2) := by decide +kernel
theorem dX7_fill_68 : decode cX7_fill 68 = .ok (.iload 5, 2) := by decide +kernel
theorem dX7_fill_70 : decode cX7_fill 70 = .ok (.invokestatic 107, 3) := by decide +kernel
theorem dX7_fill_73 : decode cX7_fill 73 = .ok (.iconst 1, 1) := by decide +kernel
theorem dX7_fill_74 : decode cX7_fill 74 = .ok (.if_icmp .eq 7, 3) := by decide +kernel
theorem dX7_fill_77 : decode cX7_fill 77 = .ok (.iconst 1, 1) := by decide +kernel
theorem dX7_fill_78 : decode cX7_fill 78 = .ok (.goto 4, 3) := by decide +kernel
theorem dX7_fill_81 : decode cX7_fill 81 = .ok (.iconst 0, 1) := by decide +kernel
theorem dX7_fill_82 : decode cX7_fill 82 = .ok (.bastore, 1) := by decide +kernel
theorem dX7_fill_83 : decode cX7_fill 83 = .ok (.iinc 5 1, 3) := by decide +kernel
theorem dX7_fill_86 : decode cX7_fill 86 = .ok (.goto (-36), 3) := by decide +kernel
theorem dX7_fill_89 : decode cX7_fill 89 = .ok (.iinc 4 1, 3) := by decide +kernel
theorem dX7_fill_92 : decode cX7_fill 92 = .ok (.goto (-53), 3) := by decide +kernel
theorem dX7_fill_95 : decode cX7_fill 95 = .ok (.aload_n 0, 1) := by decide +kernel
theorem dX7_fill_96 : decode cX7_fill 96 = .ok (.iload_n 1, 1) := by decide +kernel
theorem dX7_fill_97 : decode cX7_fill 97 = .ok (.aload_n 3, 1) := by decide +kernel
theorem dX7_fill_98 : decode cX7_fill 98 = .ok (.invokevirtual 84, 3) := by decide +kernel
theorem dX7_fill_101 : decode cX7_fill 101 = .ok (.pop, 1) := by decide +kernel
theorem dX7_fill_102 : decode cX7_fill 102 = .ok (.aload_n 2, 1) := by decide +kernel
theorem dX7_fill_103 : decode cX7_fill 103 = .ok (.invokestatic 103, 3) := by decide +kernel
theorem dX7_fill_106 : decode cX7_fill 106 = .ok (.iconst 1, 1) := by decide +kernel
theorem dX7_fill_107 : decode cX7_fill 107 = .ok (.isub, 1) := by decide +kernel
theorem dX7_fill_108 : decode cX7_fill 108 = .ok (.ireturn, 1) := by decide +kernel
theorem dX7_keepPiece_0 : decode cX7_keepPiece 0 = .ok (.aload_n 0, 1) := by decide +kernel
theorem dX7_keepPiece_1 : decode cX7_keepPiece 1 = .ok (.iconst 0, 1) := by decide +kernel
theorem dX7_keepPiece_2 : decode cX7_keepPiece 2 = .ok (.putfield 33, 3) := by decide +kernel
theorem dX7_keepPiece_5 : decode cX7_keepPiece 5 = .ok (.iload_n 1, 1) := by decide +kernel
theorem dX7_keepPiece_6 : decode cX7_keepPiece 6 = .ok (.invokestatic 76, 3) := by decide +kernel
theorem dX7_keepPiece_9 : decode cX7_keepPiece 9 = .ok (.ifCond .ne 9, 3) := by decide +kernel
theorem dX7_keepPiece_12 : decode cX7_keepPiece 12 = .ok (.aload_n 0, 1) := by decide +kernel
theorem dX7_keepPiece_13 : decode cX7_keepPiece 13 = .ok (.iconst 1, 1) := by decide +kernel
theorem dX7_keepPiece_14 : decode cX7_keepPiece 14 = .ok (.invokevirtual 61, 3) := by decide +kernel
theorem dX7_keepPiece_17 : decode cX7_keepPiece 17 = .ok (.ireturn, 1) := by decide +kernel
theorem dX7_keepPiece_18 : decode cX7_keepPiece 18 = .ok (.sipush 4096, 3) := by decide +kernel
theorem dX7_keepPiece_21 : decode cX7_keepPiece 21 = .ok (.newarray .boolean, 2) := by decide +kernel
theorem dX7_keepPiece_23 : decode cX7_keepPiece 23 = .ok (.astore 4, 2) := by decide +kernel
theorem dX7_keepPiece_25 : decode cX7_keepPiece 25 = .ok (.aload_n 0, 1) := by decide +kernel
theorem dX7_keepPiece_26 : decode cX7_keepPiece 26 = .ok (.getfield 11, 3) := by decide +kernel
theorem dX7_keepPiece_29 : decode cX7_keepPiece 29 = .ok (.iload_n 1, 1) := by decide +kernel
theorem dX7_keepPiece_30 : decode cX7_keepPiece 30 = .ok (.aaload, 1) := by decide +kernel
theorem dX7_keepPiece_31 : decode cX7_keepPiece 31 = .ok (.iload_n 2, 1) := by decide +kernel
theorem dX7_keepPiece_32 : decode cX7_keepPiece 32 = .ok (.iload_n 3, 1) := by decide +kernel
theorem dX7_keepPiece_33 : decode cX7_keepPiece 33 = .ok (.invokestatic 95, 3) := by decide +kernel
theorem dX7_keepPiece_36 : decode cX7_keepPiece 36 = .ok (.ifCond .eq 87, 3) := by decide +kernel
theorem dX7_keepPiece_39 : decode cX7_keepPiece 39 = .ok (.aload_n 0, 1) := by decide +kernel
theorem dX7_keepPiece_40 : decode cX7_keepPiece 40 = .ok (.getfield 11, 3) := by decide +kernel
theorem dX7_keepPiece_43 : decode cX7_keepPiece 43 = .ok (.iload_n 1, 1) := by decide +kernel
theorem dX7_keepPiece_44 : decode cX7_keepPiece 44 = .ok (.aaload, 1) := by decide +kernel
theorem dX7_keepPiece_45 : decode cX7_keepPiece 45 = .ok (.iconst 1, 1) := by decide +kernel
theorem dX7_keepPiece_46 : decode cX7_keepPiece 46 = .ok (.invokestatic 99, 3) := by decide +kernel
theorem dX7_keepPiece_49 : decode cX7_keepPiece 49 = .ok (.astore 5, 2) := by decide +kernel
theorem dX7_keepPiece_51 : decode cX7_keepPiece 51 = .ok (.aload 5, 2) := by decide +kernel
theorem dX7_keepPiece_53 : decode cX7_keepPiece 53 = .ok (.iload_n 2, 1) := by decide +kernel
theorem dX7_keepPiece_54 : decode cX7_keepPiece 54 = .ok (.iload_n 3, 1) := by decide +kernel
theorem dX7_keepPiece_55 : decode cX7_keepPiece 55 = .ok (.invokestatic 107, 3) := by decide +kernel
theorem dX7_keepPiece_58 : decode cX7_keepPiece 58 = .ok (.istore 6, 2) := by decide +kernel
theorem dX7_keepPiece_60 : decode cX7_keepPiece 60 = .ok (.bipush (-32), 2) := by decide +kernel
theorem dX7_keepPiece_62 : decode cX7_keepPiece 62 = .ok (.istore 7, 2) := by decide +kernel
theorem dX7_keepPiece_64 : decode cX7_keepPiece 64 = .ok (.iload 7, 2) := by decide +kernel
theorem dX7_keepPiece_66 : decode cX7_keepPiece 66 = .ok (.bipush 31, 2) := by decide +kernel
theorem dX7_keepPiece_68 : decode cX7_keepPiece 68 = .ok (.if_icmp .gt 55, 3) := by decide +kernel
theorem dX7_keepPiece_71 : decode cX7_keepPiece 71 = .ok (.bipush (-32), 2) := by decide +kernel
theorem dX7_keepPiece_73 : decode cX7_keepPiece 73 = .ok (.istore 8, 2) := by decide +kernel
theorem dX7_keepPiece_75 : decode cX7_keepPiece 75 = .ok (.iload 8, 2) := by decide +kernel
theorem dX7_keepPiece_77 : decode cX7_keepPiece 77 = .ok (.bipush 31, 2) := by decide +kernel
theorem dX7_keepPiece_79 : decode cX7_keepPiece 79 = .ok (.if_icmp .gt 38, 3) := by decide +kernel
theorem dX7_keepPiece_82 : decode cX7_keepPiece 82 = .ok (.aload 4, 2) := by decide +kernel
theorem dX7_keepPiece_84 : decode cX7_keepPiece 84 = .ok (.iload 7, 2) := by decide +kernel
theorem dX7_keepPiece_86 : decode cX7_keepPiece 86 = .ok (.iload 8, 2) := by decide +kernel
theorem dX7_keepPiece_88 : decode cX7_keepPiece 88 = .ok (.invokestatic 44, 3) := by decide +kernel
theorem dX7_keepPiece_91 : decode cX7_keepPiece 91 = .ok (.aload 5, 2) := by decide +kernel
theorem dX7_keepPiece_93 : decode cX7_keepPiece 93 = .ok (.iload 7, 2) := by decide +kernel
theorem dX7_keepPiece_95 : decode cX7_keepPiece 95 = .ok (.iload 8, 2) := by decide +kernel
theorem dX7_keepPiece_97 : decode cX7_keepPiece 97 = .ok (.invokestatic 107, 3) := by decide +kernel
theorem dX7_keepPiece_100 : decode cX7_keepPiece 100 = .ok (.iload 6, 2) := by decide +kernel
theorem dX7_keepPiece_102 : decode cX7_keepPiece 102 = .ok (.if_icmp .ne 7, 3) := by decide +kernel
theorem dX7_keepPiece_105 : decode cX7_keepPiece 105 = .ok (.iconst 1, 1) := by decide +kernel
theorem dX7_keepPiece_106 : decode cX7_keepPiece 106 = .ok (.goto 4, 3) := by decide +kernel
theorem dX7_keepPiece_109 : decode cX7_keepPiece 109 = .ok (.iconst 0, 1) := by decide +kernel
theorem dX7_keepPiece_110 : decode cX7_keepPiece 110 = .ok (.bastore, 1) := by decide +kernel
theorem dX7_keepPiece_111 : decode cX7_keepPiece 111 = .ok (.iinc 8 1, 3) := by decide +kernel
theorem dX7_keepPiece_114 : decode cX7_keepPiece 114 = .ok (.goto (-39), 3) := by decide +kernel
theorem dX7_keepPiece_117 : decode cX7_keepPiece 117 = .ok (.iinc 7 1, 3) := by decide +kernel
theorem dX7_keepPiece_120 : decode cX7_keepPiece 120 = .ok (.goto (-56), 3) := by decide +kernel
theorem dX7_keepPiece_123 : decode cX7_keepPiece 123 = .ok (.aload_n 0, 1) := by decide +kernel
theorem dX7_keepPiece_124 : decode cX7_keepPiece 124 = .ok (.iload_n 1, 1) := by decide +kernel
theorem dX7_keepPiece_125 : decode cX7_keepPiece 125 = .ok (.aload 4, 2) := by decide +kernel
theorem dX7_keepPiece_127 : decode cX7_keepPiece 127 = .ok (.invokevirtual 84, 3) := by decide +kernel
theorem dX7_keepPiece_130 : decode cX7_keepPiece 130 = .ok (.ireturn, 1) := by decide +kernel
theorem dX7_clear_0 : decode cX7_clear 0 = .ok (.aload_n 0, 1) := by decide +kernel
theorem dX7_clear_1 : decode cX7_clear 1 = .ok (.iconst 0, 1) := by decide +kernel
theorem dX7_clear_2 : decode cX7_clear 2 = .ok (.putfield 33, 3) := by decide +kernel
theorem dX7_clear_5 : decode cX7_clear 5 = .ok (.iload_n 1, 1) := by decide +kernel
theorem dX7_clear_6 : decode cX7_clear 6 = .ok (.invokestatic 76, 3) := by decide +kernel
theorem dX7_clear_9 : decode cX7_clear 9 = .ok (.ifCond .ne 9, 3) := by decide +kernel
theorem dX7_clear_12 : decode cX7_clear 12 = .ok (.aload_n 0, 1) := by decide +kernel
theorem dX7_clear_13 : decode cX7_clear 13 = .ok (.iconst 1, 1) := by decide +kernel
theorem dX7_clear_14 : decode cX7_clear 14 = .ok (.invokevirtual 61, 3) := by decide +kernel
theorem dX7_clear_17 : decode cX7_clear 17 = .ok (.ireturn, 1) := by decide +kernel
theorem dX7_clear_18 : decode cX7_clear 18 = .ok (.aload_n 0, 1) := by decide +kernel
theorem dX7_clear_19 : decode cX7_clear 19 = .ok (.getfield 11, 3) := by decide +kernel
theorem dX7_clear_22 : decode cX7_clear 22 = .ok (.iload_n 1, 1) := by decide +kernel
theorem dX7_clear_23 : decode cX7_clear 23 = .ok (.aaload, 1) := by decide +kernel
theorem dX7_clear_24 : decode cX7_clear 24 = .ok (.invokestatic 57, 3) := by decide +kernel
theorem dX7_clear_27 : decode cX7_clear 27 = .ok (.istore_n 2, 1) := by decide +kernel
theorem dX7_clear_28 : decode cX7_clear 28 = .ok (.aload_n 0, 1) := by decide +kernel
theorem dX7_clear_29 : decode cX7_clear 29 = .ok (.iload_n 1, 1) := by decide +kernel
theorem dX7_clear_30 : decode cX7_clear 30 = .ok (.sipush 4096, 3) := by decide +kernel
theorem dX7_clear_33 : decode cX7_clear 33 = .ok (.newarray .boolean, 2) := by decide +kernel
theorem dX7_clear_35 : decode cX7_clear 35 = .ok (.invokevirtual 84, 3) := by decide +kernel
theorem dX7_clear_38 : decode cX7_clear 38 = .ok (.pop, 1) := by decide +kernel
theorem dX7_clear_39 : decode cX7_clear 39 = .ok (.iload_n 2, 1) := by decide +kernel
theorem dX7_clear_40 : decode cX7_clear 40 = .ok (.ireturn, 1) := by decide +kernel
theorem dX7_undo_0 : decode cX7_undo 0 = .ok (.aload_n 0, 1) := by decide +kernel
theorem dX7_undo_1 : decode cX7_undo 1 = .ok (.iconst 0, 1) := by decide +kernel
theorem dX7_undo_2 : decode cX7_undo 2 = .ok (.putfield 33, 3) := by decide +kernel
theorem dX7_undo_5 : decode cX7_undo 5 = .ok (.aload_n 0, 1) := by decide +kernel
theorem dX7_undo_6 : decode cX7_undo 6 = .ok (.getfield 54, 3) := by decide +kernel
theorem dX7_undo_9 : decode cX7_undo 9 = .ok (.ifCond .ne 5, 3) := by decide +kernel
theorem dX7_undo_12 : decode cX7_undo 12 = .ok (.iconst (-1), 1) := by decide +kernel
theorem dX7_undo_13 : decode cX7_undo 13 = .ok (.ireturn, 1) := by decide +kernel
theorem dX7_undo_14 : decode cX7_undo 14 = .ok (.aload_n 0, 1) := by decide +kernel
theorem dX7_undo_15 : decode cX7_undo 15 = .ok (.dup, 1) := by decide +kernel
theorem dX7_undo_16 : decode cX7_undo 16 = .ok (.getfield 54, 3) := by decide +kernel
theorem dX7_undo_19 : decode cX7_undo 19 = .ok (.iconst 1, 1) := by decide +kernel
theorem dX7_undo_20 : decode cX7_undo 20 = .ok (.isub, 1) := by decide +kernel
theorem dX7_undo_21 : decode cX7_undo 21 = .ok (.putfield 54, 3) := by decide +kernel
theorem dX7_undo_24 : decode cX7_undo 24 = .ok (.aload_n 0, 1) := by decide +kernel
theorem dX7_undo_25 : decode cX7_undo 25 = .ok (.getfield 30, 3) := by decide +kernel
theorem dX7_undo_28 : decode cX7_undo 28 = .ok (.aload_n 0, 1) := by decide +kernel
theorem dX7_undo_29 : decode cX7_undo 29 = .ok (.getfield 54, 3) := by decide +kernel
theorem dX7_undo_32 : decode cX7_undo 32 = .ok (.aaload, 1) := by decide +kernel
theorem dX7_undo_33 : decode cX7_undo 33 = .ok (.iconst 0, 1) := by decide +kernel
theorem dX7_undo_34 : decode cX7_undo 34 = .ok (.aload_n 0, 1) := by decide +kernel
theorem dX7_undo_35 : decode cX7_undo 35 = .ok (.getfield 11, 3) := by decide +kernel
theorem dX7_undo_38 : decode cX7_undo 38 = .ok (.aload_n 0, 1) := by decide +kernel
theorem dX7_undo_39 : decode cX7_undo 39 = .ok (.getfield 25, 3) := by decide +kernel
theorem dX7_undo_42 : decode cX7_undo 42 = .ok (.aload_n 0, 1) := by decide +kernel
theorem dX7_undo_43 : decode cX7_undo 43 = .ok (.getfield 54, 3) := by decide +kernel
theorem dX7_undo_46 : decode cX7_undo 46 = .ok (.iaload, 1) := by decide +kernel
theorem dX7_undo_47 : decode cX7_undo 47 = .ok (.aaload, 1) := by decide +kernel
theorem dX7_undo_48 : decode cX7_undo 48 = .ok (.iconst 0, 1) := by decide +kernel
theorem dX7_undo_49 : decode cX7_undo 49 = .ok (.sipush 4096, 3) := by decide +kernel
theorem dX7_undo_52 : decode cX7_undo 52 = .ok (.invokestatic 48, 3) := by decide +kernel
theorem dX7_undo_55 : decode cX7_undo 55 = .ok (.aload_n 0, 1) := by decide +kernel
theorem dX7_undo_56 : decode cX7_undo 56 = .ok (.getfield 25, 3) := by decide +kernel
theorem dX7_undo_59 : decode cX7_undo 59 = .ok (.aload_n 0, 1) := by decide +kernel
theorem dX7_undo_60 : decode cX7_undo 60 = .ok (.getfield 54, 3) := by decide +kernel
theorem dX7_undo_63 : decode cX7_undo 63 = .ok (.iaload, 1) := by decide +kernel
theorem dX7_undo_64 : decode cX7_undo 64 = .ok (.ireturn, 1) := by decide +kernel
theorem dX7_area_0 : decode cX7_area 0 = .ok (.aload_n 0, 1) := by decide +kernel
theorem dX7_area_1 : decode cX7_area 1 = .ok (.iconst 0, 1) := by decide +kernel
theorem dX7_area_2 : decode cX7_area 2 = .ok (.putfield 33, 3) := by decide +kernel
theorem dX7_area_5 : decode cX7_area 5 = .ok (.iload_n 1, 1) := by decide +kernel
theorem dX7_area_6 : decode cX7_area 6 = .ok (.invokestatic 76, 3) := by decide +kernel
theorem dX7_area_9 : decode cX7_area 9 = .ok (.ifCond .eq 15, 3) := by decide +kernel
theorem dX7_area_12 : decode cX7_area 12 = .ok (.aload_n 0, 1) := by decide +kernel
theorem dX7_area_13 : decode cX7_area 13 = .ok (.getfield 11, 3) := by decide +kernel
theorem dX7_area_16 : decode cX7_area 16 = .ok (.iload_n 1, 1) := by decide +kernel
theorem dX7_area_17 : decode cX7_area 17 = .ok (.aaload, 1) := by decide +kernel
theorem dX7_area_18 : decode cX7_area 18 = .ok (.invokestatic 57, 3) := by decide +kernel
theorem dX7_area_21 : decode cX7_area 21 = .ok (.goto 8, 3) := by decide +kernel
theorem dX7_area_24 : decode cX7_area 24 = .ok (.aload_n 0, 1) := by decide +kernel
theorem dX7_area_25 : decode cX7_area 25 = .ok (.iconst 1, 1) := by decide +kernel
theorem dX7_area_26 : decode cX7_area 26 = .ok (.invokevirtual 61, 3) := by decide +kernel
theorem dX7_area_29 : decode cX7_area 29 = .ok (.ireturn, 1) := by decide +kernel
theorem dX7_edgesNow_0 : decode cX7_edgesNow 0 = .ok (.iconst 0, 1) := by decide +kernel
theorem dX7_edgesNow_1 : decode cX7_edgesNow 1 = .ok (.istore_n 2, 1) := by decide +kernel
theorem dX7_edgesNow_2 : decode cX7_edgesNow 2 = .ok (.bipush (-32), 2) := by decide +kernel
theorem dX7_edgesNow_4 : decode cX7_edgesNow 4 = .ok (.istore_n 3, 1) := by decide +kernel
theorem dX7_edgesNow_5 : decode cX7_edgesNow 5 = .ok (.iload_n 3, 1) := by decide +kernel
theorem dX7_edgesNow_6 : decode cX7_edgesNow 6 = .ok (.bipush 31, 2) := by decide +kernel
theorem dX7_edgesNow_8 : decode cX7_edgesNow 8 = .ok (.if_icmp .gt 145, 3) := by decide +kernel
theorem dX7_edgesNow_11 : decode cX7_edgesNow 11 = .ok (.bipush (-32), 2) := by decide +kernel
theorem dX7_edgesNow_13 : decode cX7_edgesNow 13 = .ok (.istore 4, 2) := by decide +kernel
theorem dX7_edgesNow_15 : decode cX7_edgesNow 15 = .ok (.iload 4, 2) := by decide +kernel
theorem dX7_edgesNow_17 : decode cX7_edgesNow 17 = .ok (.bipush 31, 2) := by decide +kernel
theorem dX7_edgesNow_19 : decode cX7_edgesNow 19 = .ok (.if_icmp .gt 128, 3) := by decide +kernel
theorem dX7_edgesNow_22 : decode cX7_edgesNow 22 = .ok (.aload_n 0, 1) := by decide +kernel
theorem dX7_edgesNow_23 : decode cX7_edgesNow 23 = .ok (.getfield 11, 3) := by decide +kernel
theorem dX7_edgesNow_26 : decode cX7_edgesNow 26 = .ok (.iload_n 1, 1) := by decide +kernel
theorem dX7_edgesNow_27 : decode cX7_edgesNow 27 = .ok (.aaload, 1) := by decide +kernel
theorem dX7_edgesNow_28 : decode cX7_edgesNow 28 = .ok (.iload_n 3, 1) := by decide +kernel
theorem dX7_edgesNow_29 : decode cX7_edgesNow 29 = .ok (.iload 4, 2) := by decide +kernel
theorem dX7_edgesNow_31 : decode cX7_edgesNow 31 = .ok (.invokestatic 44, 3) := by decide +kernel
theorem dX7_edgesNow_34 : decode cX7_edgesNow 34 = .ok (.baload, 1) := by decide +kernel
theorem dX7_edgesNow_35 : decode cX7_edgesNow 35 = .ok (.ifCond .ne 6, 3) := by decide +kernel
theorem dX7_edgesNow_38 : decode cX7_edgesNow 38 = .ok (.goto 103, 3) := by decide +kernel
theorem dX7_edgesNow_41 : decode cX7_edgesNow 41 = .ok (.iload_n 2, 1) := by decide +kernel
theorem dX7_edgesNow_42 : decode cX7_edgesNow 42 = .ok (.aload_n 0, 1) := by decide +kernel
theorem dX7_edgesNow_43 : decode cX7_edgesNow 43 = .ok (.getfield 11, 3) := by decide +kernel
theorem dX7_edgesNow_46 : decode cX7_edgesNow 46 = .ok (.iload_n 1, 1) := by decide +kernel
theorem dX7_edgesNow_47 : decode cX7_edgesNow 47 = .ok (.aaload, 1) := by decide +kernel
theorem dX7_edgesNow_48 : decode cX7_edgesNow 48 = .ok (.iload_n 3, 1) := by decide +kernel
theorem dX7_edgesNow_49 : decode cX7_edgesNow 49 = .ok (.iconst 1, 1) := by decide +kernel
theorem dX7_edgesNow_50 : decode cX7_edgesNow 50 = .ok (.isub, 1) := by decide +kernel
theorem dX7_edgesNow_51 : decode cX7_edgesNow 51 = .ok (.iload 4, 2) := by decide +kernel
theorem dX7_edgesNow_53 : decode cX7_edgesNow 53 = .ok (.invokestatic 95, 3) := by decide +kernel
theorem dX7_edgesNow_56 : decode cX7_edgesNow 56 = .ok (.ifCond .eq 7, 3) := by decide +kernel
theorem dX7_edgesNow_59 : decode cX7_edgesNow 59 = .ok (.iconst 0, 1) := by decide +kernel
theorem dX7_edgesNow_60 : decode cX7_edgesNow 60 = .ok (.goto 4, 3) := by decide +kernel
theorem dX7_edgesNow_63 : decode cX7_edgesNow 63 = .ok (.iconst 1, 1) := by decide +kernel
theorem dX7_edgesNow_64 : decode cX7_edgesNow 64 = .ok (.iadd, 1) := by decide +kernel
theorem dX7_edgesNow_65 : decode cX7_edgesNow 65 = .ok (.istore_n 2, 1) := by decide +kernel
theorem dX7_edgesNow_66 : decode cX7_edgesNow 66 = .ok (.iload_n 2, 1) := by decide +kernel
theorem dX7_edgesNow_67 : decode cX7_edgesNow 67 = .ok (.aload_n 0, 1) := by decide +kernel
theorem dX7_edgesNow_68 : decode cX7_edgesNow 68 = .ok (.getfield 11, 3) := by decide +kernel
theorem dX7_edgesNow_71 : decode cX7_edgesNow 71 = .ok (.iload_n 1, 1) := by decide +kernel
theorem dX7_edgesNow_72 : decode cX7_edgesNow 72 = .ok (.aaload, 1) := by decide +kernel
theorem dX7_edgesNow_73 : decode cX7_edgesNow 73 = .ok (.iload_n 3, 1) := by decide +kernel
theorem dX7_edgesNow_74 : decode cX7_edgesNow 74 = .ok (.iconst 1, 1) := by decide +kernel
theorem dX7_edgesNow_75 : decode cX7_edgesNow 75 = .ok (.iadd, 1) := by decide +kernel
theorem dX7_edgesNow_76 : decode cX7_edgesNow 76 = .ok (.iload 4, 2) := by decide +kernel
theorem dX7_edgesNow_78 : decode cX7_edgesNow 78 = .ok (.invokestatic 95, 3) := by decide +kernel
theorem dX7_edgesNow_81 : decode cX7_edgesNow 81 = .ok (.ifCond .eq 7, 3) := by decide +kernel
theorem dX7_edgesNow_84 : decode cX7_edgesNow 84 = .ok (.iconst 0, 1) := by decide +kernel
theorem dX7_edgesNow_85 : decode cX7_edgesNow 85 = .ok (.goto 4, 3) := by decide +kernel
theorem dX7_edgesNow_88 : decode cX7_edgesNow 88 = .ok (.iconst 1, 1) := by decide +kernel
theorem dX7_edgesNow_89 : decode cX7_edgesNow 89 = .ok (.iadd, 1) := by decide +kernel
theorem dX7_edgesNow_90 : decode cX7_edgesNow 90 = .ok (.istore_n 2, 1) := by decide +kernel
theorem dX7_edgesNow_91 : decode cX7_edgesNow 91 = .ok (.iload_n 2, 1) := by decide +kernel
theorem dX7_edgesNow_92 : decode cX7_edgesNow 92 = .ok (.aload_n 0, 1) := by decide +kernel
theorem dX7_edgesNow_93 : decode cX7_edgesNow 93 = .ok (.getfield 11, 3) := by decide +kernel
theorem dX7_edgesNow_96 : decode cX7_edgesNow 96 = .ok (.iload_n 1, 1) := by decide +kernel
theorem dX7_edgesNow_97 : decode cX7_edgesNow 97 = .ok (.aaload, 1) := by decide +kernel
theorem dX7_edgesNow_98 : decode cX7_edgesNow 98 = .ok (.iload_n 3, 1) := by decide +kernel
theorem dX7_edgesNow_99 : decode cX7_edgesNow 99 = .ok (.iload 4, 2) := by decide +kernel
theorem dX7_edgesNow_101 : decode cX7_edgesNow 101 = .ok (.iconst 1, 1) := by decide +kernel
theorem dX7_edgesNow_102 : decode cX7_edgesNow 102 = .ok (.isub, 1) := by decide +kernel
theorem dX7_edgesNow_103 : decode cX7_edgesNow 103 = .ok (.invokestatic 95, 3) := by decide +kernel
theorem dX7_edgesNow_106 : decode cX7_edgesNow 106 = .ok (.ifCond .eq 7, 3) := by decide +kernel
theorem dX7_edgesNow_109 : decode cX7_edgesNow 109 = .ok (.iconst 0, 1) := by decide +kernel
theorem dX7_edgesNow_110 : decode cX7_edgesNow 110 = .ok (.goto 4, 3) := by decide +kernel
theorem dX7_edgesNow_113 : decode cX7_edgesNow 113 = .ok (.iconst 1, 1) := by decide +kernel
theorem dX7_edgesNow_114 : decode cX7_edgesNow 114 = .ok (.iadd, 1) := by decide +kernel
theorem dX7_edgesNow_115 : decode cX7_edgesNow 115 = .ok (.istore_n 2, 1) := by decide +kernel
theorem dX7_edgesNow_116 : decode cX7_edgesNow 116 = .ok (.iload_n 2, 1) := by decide +kernel
theorem dX7_edgesNow_117 : decode cX7_edgesNow 117 = .ok (.aload_n 0, 1) := by decide +kernel
theorem dX7_edgesNow_118 : decode cX7_edgesNow 118 = .ok (.getfield 11, 3) := by decide +kernel
theorem dX7_edgesNow_121 : decode cX7_edgesNow 121 = .ok (.iload_n 1, 1) := by decide +kernel
theorem dX7_edgesNow_122 : decode cX7_edgesNow 122 = .ok (.aaload, 1) := by decide +kernel
theorem dX7_edgesNow_123 : decode cX7_edgesNow 123 = .ok (.iload_n 3, 1) := by decide +kernel
theorem dX7_edgesNow_124 : decode cX7_edgesNow 124 = .ok (.iload 4, 2) := by decide +kernel
theorem dX7_edgesNow_126 : decode cX7_edgesNow 126 = .ok (.iconst 1, 1) := by decide +kernel
theorem dX7_edgesNow_127 : decode cX7_edgesNow 127 = .ok (.iadd, 1) := by decide +kernel
theorem dX7_edgesNow_128 : decode cX7_edgesNow 128 = .ok (.invokestatic 95, 3) := by decide +kernel
theorem dX7_edgesNow_131 : decode cX7_edgesNow 131 = .ok (.ifCond .eq 7, 3) := by decide +kernel
theorem dX7_edgesNow_134 : decode cX7_edgesNow 134 = .ok (.iconst 0, 1) := by decide +kernel
theorem dX7_edgesNow_135 : decode cX7_edgesNow 135 = .ok (.goto 4, 3) := by decide +kernel
theorem dX7_edgesNow_138 : decode cX7_edgesNow 138 = .ok (.iconst 1, 1) := by decide +kernel
theorem dX7_edgesNow_139 : decode cX7_edgesNow 139 = .ok (.iadd, 1) := by decide +kernel
theorem dX7_edgesNow_140 : decode cX7_edgesNow 140 = .ok (.istore_n 2, 1) := by decide +kernel
theorem dX7_edgesNow_141 : decode cX7_edgesNow 141 = .ok (.iinc 4 1, 3) := by decide +kernel
theorem dX7_edgesNow_144 : decode cX7_edgesNow 144 = .ok (.goto (-129), 3) := by decide +kernel
theorem dX7_edgesNow_147 : decode cX7_edgesNow 147 = .ok (.iinc 3 1, 3) := by decide +kernel
theorem dX7_edgesNow_150 : decode cX7_edgesNow 150 = .ok (.goto (-145), 3) := by decide +kernel
theorem dX7_edgesNow_153 : decode cX7_edgesNow 153 = .ok (.iload_n 2, 1) := by decide +kernel
theorem dX7_edgesNow_154 : decode cX7_edgesNow 154 = .ok (.ireturn, 1) := by decide +kernel
theorem dX7_edges_0 : decode cX7_edges 0 = .ok (.aload_n 0, 1) := by decide +kernel
theorem dX7_edges_1 : decode cX7_edges 1 = .ok (.iconst 0, 1) := by decide +kernel
theorem dX7_edges_2 : decode cX7_edges 2 = .ok (.putfield 33, 3) := by decide +kernel
theorem dX7_edges_5 : decode cX7_edges 5 = .ok (.iload_n 1, 1) := by decide +kernel
theorem dX7_edges_6 : decode cX7_edges 6 = .ok (.invokestatic 76, 3) := by decide +kernel
theorem dX7_edges_9 : decode cX7_edges 9 = .ok (.ifCond .eq 11, 3) := by decide +kernel
theorem dX7_edges_12 : decode cX7_edges 12 = .ok (.aload_n 0, 1) := by decide +kernel
theorem dX7_edges_13 : decode cX7_edges 13 = .ok (.iload_n 1, 1) := by decide +kernel
theorem dX7_edges_14 : decode cX7_edges 14 = .ok (.invokevirtual 111, 3) := by decide +kernel
theorem dX7_edges_17 : decode cX7_edges 17 = .ok (.goto 8, 3) := by decide +kernel
theorem dX7_edges_20 : decode cX7_edges 20 = .ok (.aload_n 0, 1) := by decide +kernel
theorem dX7_edges_21 : decode cX7_edges 21 = .ok (.iconst 1, 1) := by decide +kernel
theorem dX7_edges_22 : decode cX7_edges 22 = .ok (.invokevirtual 61, 3) := by decide +kernel
theorem dX7_edges_25 : decode cX7_edges 25 = .ok (.ireturn, 1) := by decide +kernel
theorem dX7_pieces_0 : decode cX7_pieces 0 = .ok (.aload_n 0, 1) := by decide +kernel
theorem dX7_pieces_1 : decode cX7_pieces 1 = .ok (.iconst 0, 1) := by decide +kernel
theorem dX7_pieces_2 : decode cX7_pieces 2 = .ok (.putfield 33, 3) := by decide +kernel
theorem dX7_pieces_5 : decode cX7_pieces 5 = .ok (.iload_n 1, 1) := by decide +kernel
theorem dX7_pieces_6 : decode cX7_pieces 6 = .ok (.invokestatic 76, 3) := by decide +kernel
theorem dX7_pieces_9 : decode cX7_pieces 9 = .ok (.ifCond .eq 19, 3) := by decide +kernel
theorem dX7_pieces_12 : decode cX7_pieces 12 = .ok (.aload_n 0, 1) := by decide +kernel
theorem dX7_pieces_13 : decode cX7_pieces 13 = .ok (.getfield 11, 3) := by decide +kernel
theorem dX7_pieces_16 : decode cX7_pieces 16 = .ok (.iload_n 1, 1) := by decide +kernel
theorem dX7_pieces_17 : decode cX7_pieces 17 = .ok (.aaload, 1) := by decide +kernel
theorem dX7_pieces_18 : decode cX7_pieces 18 = .ok (.iconst 1, 1) := by decide +kernel
theorem dX7_pieces_19 : decode cX7_pieces 19 = .ok (.invokestatic 99, 3) := by decide +kernel
theorem dX7_pieces_22 : decode cX7_pieces 22 = .ok (.invokestatic 103, 3) := by decide +kernel
theorem dX7_pieces_25 : decode cX7_pieces 25 = .ok (.goto 8, 3) := by decide +kernel
theorem dX7_pieces_28 : decode cX7_pieces 28 = .ok (.aload_n 0, 1) := by decide +kernel
theorem dX7_pieces_29 : decode cX7_pieces 29 = .ok (.iconst 1, 1) := by decide +kernel
theorem dX7_pieces_30 : decode cX7_pieces 30 = .ok (.invokevirtual 61, 3) := by decide +kernel
theorem dX7_pieces_33 : decode cX7_pieces 33 = .ok (.ireturn, 1) := by decide +kernel
theorem dX7_holes_0 : decode cX7_holes 0 = .ok (.aload_n 0, 1) := by decide +kernel
theorem dX7_holes_1 : decode cX7_holes 1 = .ok (.iconst 0, 1) := by decide +kernel
theorem dX7_holes_2 : decode cX7_holes 2 = .ok (.putfield 33, 3) := by decide +kernel
theorem dX7_holes_5 : decode cX7_holes 5 = .ok (.iload_n 1, 1) := by decide +kernel
theorem dX7_holes_6 : decode cX7_holes 6 = .ok (.invokestatic 76, 3) := by decide +kernel
theorem dX7_holes_9 : decode cX7_holes 9 = .ok (.ifCond .eq 11, 3) := by decide +kernel
theorem dX7_holes_12 : decode cX7_holes 12 = .ok (.aload_n 0, 1) := by decide +kernel
theorem dX7_holes_13 : decode cX7_holes 13 = .ok (.iload_n 1, 1) := by decide +kernel
theorem dX7_holes_14 : decode cX7_holes 14 = .ok (.invokevirtual 114, 3) := by decide +kernel
theorem dX7_holes_17 : decode cX7_holes 17 = .ok (.goto 8, 3) := by decide +kernel
theorem dX7_holes_20 : decode cX7_holes 20 = .ok (.aload_n 0, 1) := by decide +kernel
theorem dX7_holes_21 : decode cX7_holes 21 = .ok (.iconst 1, 1) := by decide +kernel
theorem dX7_holes_22 : decode cX7_holes 22 = .ok (.invokevirtual 61, 3) := by decide +kernel
theorem dX7_holes_25 : decode cX7_holes 25 = .ok (.ireturn, 1) := by decide +kernel
theorem dX7_has__0 : decode cX7_has_ 0 = .ok (.aload_n 0, 1) := by decide +kernel
theorem dX7_has__1 : decode cX7_has_ 1 = .ok (.iload_n 1, 1) := by decide +kernel
theorem dX7_has__2 : decode cX7_has_ 2 = .ok (.invokestatic 76, 3) := by decide +kernel
theorem dX7_has__5 : decode cX7_has_ 5 = .ok (.ifCond .eq 7, 3) := by decide +kernel
theorem dX7_has__8 : decode cX7_has_ 8 = .ok (.iconst 0, 1) := by decide +kernel
theorem dX7_has__9 : decode cX7_has_ 9 = .ok (.goto 4, 3) := by decide +kernel
theorem dX7_has__12 : decode cX7_has_ 12 = .ok (.iconst 1, 1) := by decide +kernel
theorem dX7_has__13 : decode cX7_has_ 13 = .ok (.putfield 33, 3) := by decide +kernel
theorem dX7_has__16 : decode cX7_has_ 16 = .ok (.aload_n 0, 1) := by decide +kernel
theorem dX7_has__17 : decode cX7_has_ 17 = .ok (.getfield 33, 3) := by decide +kernel
theorem dX7_has__20 : decode cX7_has_ 20 = .ok (.ifCond .ne 21, 3) := by decide +kernel
theorem dX7_has__23 : decode cX7_has_ 23 = .ok (.aload_n 0, 1) := by decide +kernel
theorem dX7_has__24 : decode cX7_has_ 24 = .ok (.getfield 11, 3) := by decide +kernel
theorem dX7_has__27 : decode cX7_has_ 27 = .ok (.iload_n 1, 1) := by decide +kernel
theorem dX7_has__28 : decode cX7_has_ 28 = .ok (.aaload, 1) := by decide +kernel
theorem dX7_has__29 : decode cX7_has_ 29 = .ok (.iload_n 2, 1) := by decide +kernel
theorem dX7_has__30 : decode cX7_has_ 30 = .ok (.iload_n 3, 1) := by decide +kernel
theorem dX7_has__31 : decode cX7_has_ 31 = .ok (.invokestatic 95, 3) := by decide +kernel
theorem dX7_has__34 : decode cX7_has_ 34 = .ok (.ifCond .eq 7, 3) := by decide +kernel
theorem dX7_has__37 : decode cX7_has_ 37 = .ok (.iconst 1, 1) := by decide +kernel
theorem dX7_has__38 : decode cX7_has_ 38 = .ok (.goto 4, 3) := by decide +kernel
theorem dX7_has__41 : decode cX7_has_ 41 = .ok (.iconst 0, 1) := by decide +kernel
theorem dX7_has__42 : decode cX7_has_ 42 = .ok (.ireturn, 1) := by decide +kernel
theorem dX7_boundNow_0 : decode cX7_boundNow 0 = .ok (.iconst 0, 1) := by decide +kernel
theorem dX7_boundNow_1 : decode cX7_boundNow 1 = .ok (.istore_n 3, 1) := by decide +kernel
theorem dX7_boundNow_2 : decode cX7_boundNow 2 = .ok (.iconst 0, 1) := by decide +kernel
theorem dX7_boundNow_3 : decode cX7_boundNow 3 = .ok (.istore 4, 2) := by decide +kernel
theorem dX7_boundNow_5 : decode cX7_boundNow 5 = .ok (.bipush (-32), 2) := by decide +kernel
theorem dX7_boundNow_7 : decode cX7_boundNow 7 = .ok (.istore 5, 2) := by decide +kernel
theorem dX7_boundNow_9 : decode cX7_boundNow 9 = .ok (.iload 5, 2) := by decide +kernel
theorem dX7_boundNow_11 : decode cX7_boundNow 11 = .ok (.bipush 31, 2) := by decide +kernel
theorem dX7_boundNow_13 : decode cX7_boundNow 13 = .ok (.if_icmp .gt 92, 3) := by decide +kernel
theorem dX7_boundNow_16 : decode cX7_boundNow 16 = .ok (.bipush (-32), 2) := by decide +kernel
theorem dX7_boundNow_18 : decode cX7_boundNow 18 = .ok (.istore 6, 2) := by decide +kernel
theorem dX7_boundNow_20 : decode cX7_boundNow 20 = .ok (.iload 6, 2) := by decide +kernel
theorem dX7_boundNow_22 : decode cX7_boundNow 22 = .ok (.bipush 31, 2) := by decide +kernel
theorem dX7_boundNow_24 : decode cX7_boundNow 24 = .ok (.if_icmp .gt 75, 3) := by decide +kernel
theorem dX7_boundNow_27 : decode cX7_boundNow 27 = .ok (.aload_n 0, 1) := by decide +kernel
theorem dX7_boundNow_28 : decode cX7_boundNow 28 = .ok (.getfield 11, 3) := by decide +kernel
theorem dX7_boundNow_31 : decode cX7_boundNow 31 = .ok (.iload_n 1, 1) := by decide +kernel
theorem dX7_boundNow_32 : decode cX7_boundNow 32 = .ok (.aaload, 1) := by decide +kernel
theorem dX7_boundNow_33 : decode cX7_boundNow 33 = .ok (.iload 5, 2) := by decide +kernel
theorem dX7_boundNow_35 : decode cX7_boundNow 35 = .ok (.iload 6, 2) := by decide +kernel
theorem dX7_boundNow_37 : decode cX7_boundNow 37 = .ok (.invokestatic 44, 3) := by decide +kernel
theorem dX7_boundNow_40 : decode cX7_boundNow 40 = .ok (.baload, 1) := by decide +kernel
theorem dX7_boundNow_41 : decode cX7_boundNow 41 = .ok (.ifCond .ne 6, 3) := by decide +kernel
theorem dX7_boundNow_44 : decode cX7_boundNow 44 = .ok (.goto 49, 3) := by decide +kernel
theorem dX7_boundNow_47 : decode cX7_boundNow 47 = .ok (.iload_n 2, 1) := by decide +kernel
theorem dX7_boundNow_48 : decode cX7_boundNow 48 = .ok (.iconst 2, 1) := by decide +kernel
theorem dX7_boundNow_49 : decode cX7_boundNow 49 = .ok (.irem, 1) := by decide +kernel
theorem dX7_boundNow_50 : decode cX7_boundNow 50 = .ok (.ifCond .ne 8, 3) := by decide +kernel
theorem dX7_boundNow_53 : decode cX7_boundNow 53 = .ok (.iload 5, 2) := by decide +kernel
theorem dX7_boundNow_55 : decode cX7_boundNow 55 = .ok (.goto 5, 3) := by decide +kernel
theorem dX7_boundNow_58 : decode cX7_boundNow 58 = .ok (.iload 6, 2) := by decide +kernel
theorem dX7_boundNow_60 : decode cX7_boundNow 60 = .ok (.istore 7, 2) := by decide +kernel
theorem dX7_boundNow_62 : decode cX7_boundNow 62 = .ok (.iload 4, 2) := by decide +kernel
theorem dX7_boundNow_64 : decode cX7_boundNow 64 = .ok (.ifCond .eq 23, 3) := by decide +kernel
theorem dX7_boundNow_67 : decode cX7_boundNow 67 = .ok (.iload_n 2, 1) := by decide +kernel
theorem dX7_boundNow_68 : decode cX7_boundNow 68 = .ok (.iconst 2, 1) := by decide +kernel
theorem dX7_boundNow_69 : decode cX7_boundNow 69 = .ok (.if_icmp .ge 12, 3) := by decide +kernel
theorem dX7_boundNow_72 : decode cX7_boundNow 72 = .ok (.iload 7, 2) := by decide +kernel
theorem dX7_boundNow_74 : decode cX7_boundNow 74 = .ok (.iload_n 3, 1) := by decide +kernel
theorem dX7_boundNow_75 : decode cX7_boundNow 75 = .ok (.if_icmp .ge 15, 3) := by decide +kernel
theorem dX7_boundNow_78 : decode cX7_boundNow 78 = .ok (.goto 9, 3) := by decide +kernel
theorem dX7_boundNow_81 : decode cX7_boundNow 81 = .ok (.iload 7, 2) := by decide +kernel
theorem dX7_boundNow_83 : decode cX7_boundNow 83 = .ok (.iload_n 3, 1) := by decide +kernel
theorem dX7_boundNow_84 : decode cX7_boundNow 84 = .ok (.if_icmp .le 6, 3) := by decide +kernel
theorem dX7_boundNow_87 : decode cX7_boundNow 87 = .ok (.iload 7, 2) := by decide +kernel
theorem dX7_boundNow_89 : decode cX7_boundNow 89 = .ok (.istore_n 3, 1) := by decide +kernel
theorem dX7_boundNow_90 : decode cX7_boundNow 90 = .ok (.iconst 1, 1) := by decide +kernel
theorem dX7_boundNow_91 : decode cX7_boundNow 91 = .ok (.istore 4, 2) := by decide +kernel
theorem dX7_boundNow_93 : decode cX7_boundNow 93 = .ok (.iinc 6 1, 3) := by decide +kernel
theorem dX7_boundNow_96 : decode cX7_boundNow 96 = .ok (.goto (-76), 3) := by decide +kernel
theorem dX7_boundNow_99 : decode cX7_boundNow 99 = .ok (.iinc 5 1, 3) := by decide +kernel
theorem dX7_boundNow_102 : decode cX7_boundNow 102 = .ok (.goto (-93), 3) := by decide +kernel
theorem dX7_boundNow_105 : decode cX7_boundNow 105 = .ok (.iload_n 3, 1) := by decide +kernel
theorem dX7_boundNow_106 : decode cX7_boundNow 106 = .ok (.ireturn, 1) := by decide +kernel
theorem dX7_bound_0 : decode cX7_bound 0 = .ok (.aload_n 0, 1) := by decide +kernel
theorem dX7_bound_1 : decode cX7_bound 1 = .ok (.iconst 0, 1) := by decide +kernel
theorem dX7_bound_2 : decode cX7_bound 2 = .ok (.putfield 33, 3) := by decide +kernel
theorem dX7_bound_5 : decode cX7_bound 5 = .ok (.iload_n 1, 1) := by decide +kernel
theorem dX7_bound_6 : decode cX7_bound 6 = .ok (.invokestatic 76, 3) := by decide +kernel
theorem dX7_bound_9 : decode cX7_bound 9 = .ok (.ifCond .ne 9, 3) := by decide +kernel
theorem dX7_bound_12 : decode cX7_bound 12 = .ok (.aload_n 0, 1) := by decide +kernel
theorem dX7_bound_13 : decode cX7_bound 13 = .ok (.iconst 1, 1) := by decide +kernel
theorem dX7_bound_14 : decode cX7_bound 14 = .ok (.invokevirtual 61, 3) := by decide +kernel
theorem dX7_bound_17 : decode cX7_bound 17 = .ok (.ireturn, 1) := by decide +kernel
theorem dX7_bound_18 : decode cX7_bound 18 = .ok (.iload_n 2, 1) := by decide +kernel
theorem dX7_bound_19 : decode cX7_bound 19 = .ok (.iconst 0, 1) := by decide +kernel
theorem dX7_bound_20 : decode cX7_bound 20 = .ok (.iconst 3, 1) := by decide +kernel
theorem dX7_bound_21 : decode cX7_bound 21 = .ok (.invokestatic 36, 3) := by decide +kernel
theorem dX7_bound_24 : decode cX7_bound 24 = .ok (.ifCond .eq 12, 3) := by decide +kernel
theorem dX7_bound_27 : decode cX7_bound 27 = .ok (.aload_n 0, 1) := by decide +kernel
theorem dX7_bound_28 : decode cX7_bound 28 = .ok (.iload_n 1, 1) := by decide +kernel
theorem dX7_bound_29 : decode cX7_bound 29 = .ok (.iload_n 2, 1) := by decide +kernel
theorem dX7_bound_30 : decode cX7_bound 30 = .ok (.invokevirtual 117, 3) := by decide +kernel
theorem dX7_bound_33 : decode cX7_bound 33 = .ok (.goto 8, 3) := by decide +kernel
theorem dX7_bound_36 : decode cX7_bound 36 = .ok (.aload_n 0, 1) := by decide +kernel
theorem dX7_bound_37 : decode cX7_bound 37 = .ok (.iconst 2, 1) := by decide +kernel
theorem dX7_bound_38 : decode cX7_bound 38 = .ok (.invokevirtual 61, 3) := by decide +kernel
theorem dX7_bound_41 : decode cX7_bound 41 = .ok (.ireturn, 1) := by decide +kernel
theorem dX7_isEdge_0 : decode cX7_isEdge 0 = .ok (.iload_n 3, 1) := by decide +kernel
theorem dX7_isEdge_1 : decode cX7_isEdge 1 = .ok (.tableswitch 109 0 2 #[27, 53, 79], 27) := by decide +kernel
theorem dX7_isEdge_28 : decode cX7_isEdge 28 = .ok (.aload_n 0, 1) := by decide +kernel
theorem dX7_isEdge_29 : decode cX7_isEdge 29 = .ok (.iload_n 1, 1) := by decide +kernel
theorem dX7_isEdge_30 : decode cX7_isEdge 30 = .ok (.iload_n 2, 1) := by decide +kernel
theorem dX7_isEdge_31 : decode cX7_isEdge 31 = .ok (.invokestatic 95, 3) := by decide +kernel
theorem dX7_isEdge_34 : decode cX7_isEdge 34 = .ok (.ifCond .eq 18, 3) := by decide +kernel
theorem dX7_isEdge_37 : decode cX7_isEdge 37 = .ok (.aload_n 0, 1) := by decide +kernel
theorem dX7_isEdge_38 : decode cX7_isEdge 38 = .ok (.iload_n 1, 1) := by decide +kernel
theorem dX7_isEdge_39 : decode cX7_isEdge 39 = .ok (.iload_n 2, 1) := by decide +kernel
theorem dX7_isEdge_40 : decode cX7_isEdge 40 = .ok (.iconst 1, 1) := by decide +kernel
theorem dX7_isEdge_41 : decode cX7_isEdge 41 = .ok (.isub, 1) := by decide +kernel
theorem dX7_isEdge_42 : decode cX7_isEdge 42 = .ok (.invokestatic 95, 3) := by decide +kernel
theorem dX7_isEdge_45 : decode cX7_isEdge 45 = .ok (.ifCond .ne 7, 3) := by decide +kernel
theorem dX7_isEdge_48 : decode cX7_isEdge 48 = .ok (.iconst 1, 1) := by decide +kernel
theorem dX7_isEdge_49 : decode cX7_isEdge 49 = .ok (.goto 4, 3) := by decide +kernel
theorem dX7_isEdge_52 : decode cX7_isEdge 52 = .ok (.iconst 0, 1) := by decide +kernel
theorem dX7_isEdge_53 : decode cX7_isEdge 53 = .ok (.ireturn, 1) := by decide +kernel
theorem dX7_isEdge_54 : decode cX7_isEdge 54 = .ok (.aload_n 0, 1) := by decide +kernel
theorem dX7_isEdge_55 : decode cX7_isEdge 55 = .ok (.iload_n 1, 1) := by decide +kernel
theorem dX7_isEdge_56 : decode cX7_isEdge 56 = .ok (.iconst 1, 1) := by decide +kernel
theorem dX7_isEdge_57 : decode cX7_isEdge 57 = .ok (.isub, 1) := by decide +kernel
theorem dX7_isEdge_58 : decode cX7_isEdge 58 = .ok (.iload_n 2, 1) := by decide +kernel
theorem dX7_isEdge_59 : decode cX7_isEdge 59 = .ok (.invokestatic 95, 3) := by decide +kernel
theorem dX7_isEdge_62 : decode cX7_isEdge 62 = .ok (.ifCond .eq 16, 3) := by decide +kernel
theorem dX7_isEdge_65 : decode cX7_isEdge 65 = .ok (.aload_n 0, 1) := by decide +kernel
theorem dX7_isEdge_66 : decode cX7_isEdge 66 = .ok (.iload_n 1, 1) := by decide +kernel
theorem dX7_isEdge_67 : decode cX7_isEdge 67 = .ok (.iload_n 2, 1) := by decide +kernel
theorem dX7_isEdge_68 : decode cX7_isEdge 68 = .ok (.invokestatic 95, 3) := by decide +kernel
theorem dX7_isEdge_71 : decode cX7_isEdge 71 = .ok (.ifCond .ne 7, 3) := by decide +kernel
theorem dX7_isEdge_74 : decode cX7_isEdge 74 = .ok (.iconst 1, 1) := by decide +kernel
theorem dX7_isEdge_75 : decode cX7_isEdge 75 = .ok (.goto 4, 3) := by decide +kernel
theorem dX7_isEdge_78 : decode cX7_isEdge 78 = .ok (.iconst 0, 1) := by decide +kernel
theorem dX7_isEdge_79 : decode cX7_isEdge 79 = .ok (.ireturn, 1) := by decide +kernel
theorem dX7_isEdge_80 : decode cX7_isEdge 80 = .ok (.aload_n 0, 1) := by decide +kernel
theorem dX7_isEdge_81 : decode cX7_isEdge 81 = .ok (.iload_n 1, 1) := by decide +kernel
theorem dX7_isEdge_82 : decode cX7_isEdge 82 = .ok (.iconst 1, 1) := by decide +kernel
theorem dX7_isEdge_83 : decode cX7_isEdge 83 = .ok (.isub, 1) := by decide +kernel
theorem dX7_isEdge_84 : decode cX7_isEdge 84 = .ok (.iload_n 2, 1) := by decide +kernel
theorem dX7_isEdge_85 : decode cX7_isEdge 85 = .ok (.iconst 1, 1) := by decide +kernel
theorem dX7_isEdge_86 : decode cX7_isEdge 86 = .ok (.isub, 1) := by decide +kernel
theorem dX7_isEdge_87 : decode cX7_isEdge 87 = .ok (.invokestatic 95, 3) := by decide +kernel
theorem dX7_isEdge_90 : decode cX7_isEdge 90 = .ok (.ifCond .eq 18, 3) := by decide +kernel
theorem dX7_isEdge_93 : decode cX7_isEdge 93 = .ok (.aload_n 0, 1) := by decide +kernel
theorem dX7_isEdge_94 : decode cX7_isEdge 94 = .ok (.iload_n 1, 1) := by decide +kernel
theorem dX7_isEdge_95 : decode cX7_isEdge 95 = .ok (.iconst 1, 1) := by decide +kernel
theorem dX7_isEdge_96 : decode cX7_isEdge 96 = .ok (.isub, 1) := by decide +kernel
theorem dX7_isEdge_97 : decode cX7_isEdge 97 = .ok (.iload_n 2, 1) := by decide +kernel
theorem dX7_isEdge_98 : decode cX7_isEdge 98 = .ok (.invokestatic 95, 3) := by decide +kernel
theorem dX7_isEdge_101 : decode cX7_isEdge 101 = .ok (.ifCond .ne 7, 3) := by decide +kernel
theorem dX7_isEdge_104 : decode cX7_isEdge 104 = .ok (.iconst 1, 1) := by decide +kernel
theorem dX7_isEdge_105 : decode cX7_isEdge 105 = .ok (.goto 4, 3) := by decide +kernel
theorem dX7_isEdge_108 : decode cX7_isEdge 108 = .ok (.iconst 0, 1) := by decide +kernel
theorem dX7_isEdge_109 : decode cX7_isEdge 109 = .ok (.ireturn, 1) := by decide +kernel
theorem dX7_isEdge_110 : decode cX7_isEdge 110 = .ok (.aload_n 0, 1) := by decide +kernel
theorem dX7_isEdge_111 : decode cX7_isEdge 111 = .ok (.iload_n 1, 1) := by decide +kernel
theorem dX7_isEdge_112 : decode cX7_isEdge 112 = .ok (.iload_n 2, 1) := by decide +kernel
theorem dX7_isEdge_113 : decode cX7_isEdge 113 = .ok (.iconst 1, 1) := by decide +kernel
theorem dX7_isEdge_114 : decode cX7_isEdge 114 = .ok (.isub, 1) := by decide +kernel
theorem dX7_isEdge_115 : decode cX7_isEdge 115 = .ok (.invokestatic 95, 3) := by decide +kernel
theorem dX7_isEdge_118 : decode cX7_isEdge 118 = .ok (.ifCond .eq 20, 3) := by decide +kernel
theorem dX7_isEdge_121 : decode cX7_isEdge 121 = .ok (.aload_n 0, 1) := by decide +kernel
theorem dX7_isEdge_122 : decode cX7_isEdge 122 = .ok (.iload_n 1, 1) := by decide +kernel
theorem dX7_isEdge_123 : decode cX7_isEdge 123 = .ok (.iconst 1, 1) := by decide +kernel
theorem dX7_isEdge_124 : decode cX7_isEdge 124 = .ok (.isub, 1) := by decide +kernel
theorem dX7_isEdge_125 : decode cX7_isEdge 125 = .ok (.iload_n 2, 1) := by decide +kernel
theorem dX7_isEdge_126 : decode cX7_isEdge 126 = .ok (.iconst 1, 1) := by decide +kernel
theorem dX7_isEdge_127 : decode cX7_isEdge 127 = .ok (.isub, 1) := by decide +kernel
theorem dX7_isEdge_128 : decode cX7_isEdge 128 = .ok (.invokestatic 95, 3) := by decide +kernel
theorem dX7_isEdge_131 : decode cX7_isEdge 131 = .ok (.ifCond .ne 7, 3) := by decide +kernel
theorem dX7_isEdge_134 : decode cX7_isEdge 134 = .ok (.iconst 1, 1) := by decide +kernel
theorem dX7_isEdge_135 : decode cX7_isEdge 135 = .ok (.goto 4, 3) := by decide +kernel
theorem dX7_isEdge_138 : decode cX7_isEdge 138 = .ok (.iconst 0, 1) := by decide +kernel
theorem dX7_isEdge_139 : decode cX7_isEdge 139 = .ok (.ireturn, 1) := by decide +kernel
theorem dX7_stepX_0 : decode cX7_stepX 0 = .ok (.iload_n 0, 1) := by decide +kernel
theorem dX7_stepX_1 : decode cX7_stepX 1 = .ok (.ifCond .ne 7, 3) := by decide +kernel
theorem dX7_stepX_4 : decode cX7_stepX 4 = .ok (.iconst 1, 1) := by decide +kernel
theorem dX7_stepX_5 : decode cX7_stepX 5 = .ok (.goto 13, 3) := by decide +kernel
theorem dX7_stepX_8 : decode cX7_stepX 8 = .ok (.iload_n 0, 1) := by decide +kernel
theorem dX7_stepX_9 : decode cX7_stepX 9 = .ok (.iconst 2, 1) := by decide +kernel
theorem dX7_stepX_10 : decode cX7_stepX 10 = .ok (.if_icmp .ne 7, 3) := by decide +kernel
theorem dX7_stepX_13 : decode cX7_stepX 13 = .ok (.iconst (-1), 1) := by decide +kernel
theorem dX7_stepX_14 : decode cX7_stepX 14 = .ok (.goto 4, 3) := by decide +kernel
theorem dX7_stepX_17 : decode cX7_stepX 17 = .ok (.iconst 0, 1) := by decide +kernel
theorem dX7_stepX_18 : decode cX7_stepX 18 = .ok (.ireturn, 1) := by decide +kernel
theorem dX7_stepY_0 : decode cX7_stepY 0 = .ok (.iload_n 0, 1) := by decide +kernel
theorem dX7_stepY_1 : decode cX7_stepY 1 = .ok (.iconst 1, 1) := by decide +kernel
theorem dX7_stepY_2 : decode cX7_stepY 2 = .ok (.if_icmp .ne 7, 3) := by decide +kernel
theorem dX7_stepY_5 : decode cX7_stepY 5 = .ok (.iconst 1, 1) := by decide +kernel
theorem dX7_stepY_6 : decode cX7_stepY 6 = .ok (.goto 13, 3) := by decide +kernel
theorem dX7_stepY_9 : decode cX7_stepY 9 = .ok (.iload_n 0, 1) := by decide +kernel
theorem dX7_stepY_10 : decode cX7_stepY 10 = .ok (.iconst 3, 1) := by decide +kernel
theorem dX7_stepY_11 : decode cX7_stepY 11 = .ok (.if_icmp .ne 7, 3) := by decide +kernel
theorem dX7_stepY_14 : decode cX7_stepY 14 = .ok (.iconst (-1), 1) := by decide +kernel
theorem dX7_stepY_15 : decode cX7_stepY 15 = .ok (.goto 4, 3) := by decide +kernel
theorem dX7_stepY_18 : decode cX7_stepY 18 = .ok (.iconst 0, 1) := by decide +kernel
theorem dX7_stepY_19 : decode cX7_stepY 19 = .ok (.ireturn, 1) := by decide +kernel
theorem dX7_contoursNow_0 : decode cX7_contoursNow 0 = .ok (.aload_n 0, 1) := by decide +kernel
theorem dX7_contoursNow_1 : decode cX7_contoursNow 1 = .ok (.getfield 11, 3) := by decide +kernel
theorem dX7_contoursNow_4 : decode cX7_contoursNow 4 = .ok (.iload_n 1, 1) := by decide +kernel
theorem dX7_contoursNow_5 : decode cX7_contoursNow 5 = .ok (.aaload, 1) := by decide +kernel
theorem dX7_contoursNow_6 : decode cX7_contoursNow 6 = .ok (.astore_n 2, 1) := by decide +kernel
theorem dX7_contoursNow_7 : decode cX7_contoursNow 7 = .ok (.sipush 16900, 3) := by decide +kernel
theorem dX7_contoursNow_10 : decode cX7_contoursNow 10 = .ok (.newarray .boolean, 2) := by decide +kernel
theorem dX7_contoursNow_12 : decode cX7_contoursNow 12 = .ok (.astore_n 3, 1) := by decide +kernel
theorem dX7_contoursNow_13 : decode cX7_contoursNow 13 = .ok (.bipush 64, 2) := by decide +kernel
theorem dX7_contoursNow_15 : decode cX7_contoursNow 15 = .ok (.newarray .int, 2) := by decide +kernel
theorem dX7_contoursNow_17 : decode cX7_contoursNow 17 = .ok (.astore 4, 2) := by decide +kernel
theorem dX7_contoursNow_19 : decode cX7_contoursNow 19 = .ok (.iconst 1, 1) := by decide +kernel
theorem dX7_contoursNow_20 : decode cX7_contoursNow 20 = .ok (.istore 5, 2) := by decide +kernel
theorem dX7_contoursNow_22 : decode cX7_contoursNow 22 = .ok (.bipush (-32), 2) := by decide +kernel
theorem dX7_contoursNow_24 : decode cX7_contoursNow 24 = .ok (.istore 6, 2) := by decide +kernel
theorem dX7_contoursNow_26 : decode cX7_contoursNow 26 = .ok (.iload 6, 2) := by decide +kernel
theorem dX7_contoursNow_28 : decode cX7_contoursNow 28 = .ok (.bipush 32, 2) := by decide +kernel
theorem dX7_contoursNow_30 : decode cX7_contoursNow 30 = .ok (.if_icmp .gt 402, 3) := by decide +kernel
theorem dX7_contoursNow_33 : decode cX7_contoursNow 33 = .ok (.bipush (-32), 2) := by decide +kernel
theorem dX7_contoursNow_35 : decode cX7_contoursNow 35 = .ok (.istore 7, 2) := by decide +kernel
theorem dX7_contoursNow_37 : decode cX7_contoursNow 37 = .ok (.iload 7, 2) := by decide +kernel
theorem dX7_contoursNow_39 : decode cX7_contoursNow 39 = .ok (.bipush 32, 2) := by decide +kernel
theorem dX7_contoursNow_41 : decode cX7_contoursNow 41 = .ok (.if_icmp .gt 385, 3) := by decide +kernel
theorem dX7_contoursNow_44 : decode cX7_contoursNow 44 = .ok (.iconst 0, 1) := by decide +kernel
theorem dX7_contoursNow_45 : decode cX7_contoursNow 45 = .ok (.istore 8, 2) := by decide +kernel
theorem dX7_contoursNow_47 : decode cX7_contoursNow 47 = .ok (.iload 8, 2) := by decide +kernel
theorem dX7_contoursNow_49 : decode cX7_contoursNow 49 = .ok (.iconst 2, 1) := by decide +kernel
theorem dX7_contoursNow_50 : decode cX7_contoursNow 50 = .ok (.if_icmp .ge 370, 3) := by decide +kernel
theorem dX7_contoursNow_53 : decode cX7_contoursNow 53 = .ok (.iload 6, 2) := by decide +kernel
theorem dX7_contoursNow_55 : decode cX7_contoursNow 55 = .ok (.bipush (-32), 2) := by decide +kernel
theorem dX7_contoursNow_57 : decode cX7_contoursNow 57 = .ok (.isub, 1) := by decide +kernel
theorem dX7_contoursNow_58 : decode cX7_contoursNow 58 = .ok (.bipush 65, 2) := by decide +kernel
theorem dX7_contoursNow_60 : decode cX7_contoursNow 60 = .ok (.imul, 1) := by decide +kernel
theorem dX7_contoursNow_61 : decode cX7_contoursNow 61 = .ok (.iload 7, 2) := by decide +kernel
theorem dX7_contoursNow_63 : decode cX7_contoursNow 63 = .ok (.iadd, 1) := by decide +kernel
theorem dX7_contoursNow_64 : decode cX7_contoursNow 64 = .ok (.bipush (-32), 2) := by decide +kernel
theorem dX7_contoursNow_66 : decode cX7_contoursNow 66 = .ok (.isub, 1) := by decide +kernel
theorem dX7_contoursNow_67 : decode cX7_contoursNow 67 = .ok (.iconst 4, 1) := by decide +kernel
theorem dX7_contoursNow_68 : decode cX7_contoursNow 68 = .ok (.imul, 1) := by decide +kernel
theorem dX7_contoursNow_69 : decode cX7_contoursNow 69 = .ok (.iload 8, 2) := by decide +kernel
theorem dX7_contoursNow_71 : decode cX7_contoursNow 71 = .ok (.iadd, 1) := by decide +kernel
theorem dX7_contoursNow_72 : decode cX7_contoursNow 72 = .ok (.istore 9, 2) := by decide +kernel
theorem dX7_contoursNow_74 : decode cX7_contoursNow 74 = .ok (.aload_n 2, 1) := by decide +kernel
theorem dX7_contoursNow_75 : decode cX7_contoursNow 75 = .ok (.iload 7, 2) := by decide +kernel
theorem dX7_contoursNow_77 : decode cX7_contoursNow 77 = .ok (.iload 6, 2) := by decide +kernel
theorem dX7_contoursNow_79 : decode cX7_contoursNow 79 = .ok (.iload 8, 2) := by decide +kernel
theorem dX7_contoursNow_81 : decode cX7_contoursNow 81 = .ok (.invokestatic 120, 3) := by decide +kernel
theorem dX7_contoursNow_84 : decode cX7_contoursNow 84 = .ok (.ifCond .eq 330, 3) := by decide +kernel
theorem dX7_contoursNow_87 : decode cX7_contoursNow 87 = .ok (.aload_n 3, 1) := by decide +kernel
theorem dX7_contoursNow_88 : decode cX7_contoursNow 88 = .ok (.iload 9, 2) := by decide +kernel
theorem dX7_contoursNow_90 : decode cX7_contoursNow 90 = .ok (.baload, 1) := by decide +kernel
theorem dX7_contoursNow_91 : decode cX7_contoursNow 91 = .ok (.ifCond .eq 6, 3) := by decide +kernel
theorem dX7_contoursNow_94 : decode cX7_contoursNow 94 = .ok (.goto 320, 3) := by decide +kernel
theorem dX7_contoursNow_97 : decode cX7_contoursNow 97 = .ok (.aload 4, 2) := by decide +kernel
theorem dX7_contoursNow_99 : decode cX7_contoursNow 99 = .ok (.iconst 0, 1) := by decide +kernel
theorem dX7_contoursNow_100 : decode cX7_contoursNow 100 = .ok (.dup2, 1) := by decide +kernel
theorem dX7_contoursNow_101 : decode cX7_contoursNow 101 = .ok (.iaload, 1) := by decide +kernel
theorem dX7_contoursNow_102 : decode cX7_contoursNow 102 = .ok (.iconst 1, 1) := by decide +kernel
theorem dX7_contoursNow_103 : decode cX7_contoursNow 103 = .ok (.iadd, 1) := by decide +kernel
theorem dX7_contoursNow_104 : decode cX7_contoursNow 104 = .ok (.iastore, 1) := by decide +kernel
theorem dX7_contoursNow_105 : decode cX7_contoursNow 105 = .ok (.iload 5, 2) := by decide +kernel
theorem dX7_contoursNow_107 : decode cX7_contoursNow 107 = .ok (.istore 10, 2) := by decide +kernel
theorem dX7_contoursNow_109 : decode cX7_contoursNow 109 = .ok (.iinc 5 2, 3) := by decide +kernel
theorem dX7_contoursNow_112 : decode cX7_contoursNow 112 = .ok (.iload 7, 2) := by decide +kernel
theorem dX7_contoursNow_114 : decode cX7_contoursNow 114 = .ok (.istore 11, 2) := by decide +kernel
theorem dX7_contoursNow_116 : decode cX7_contoursNow 116 = .ok (.iload 6, 2) := by decide +kernel
theorem dX7_contoursNow_118 : decode cX7_contoursNow 118 = .ok (.istore 12, 2) := by decide +kernel
theorem dX7_contoursNow_120 : decode cX7_contoursNow 120 = .ok (.iload 8, 2) := by decide +kernel
theorem dX7_contoursNow_122 : decode cX7_contoursNow 122 = .ok (.istore 13, 2) := by decide +kernel
theorem dX7_contoursNow_124 : decode cX7_contoursNow 124 = .ok (.iconst 0, 1) := by decide +kernel
theorem dX7_contoursNow_125 : decode cX7_contoursNow 125 = .ok (.istore 14, 2) := by decide +kernel
theorem dX7_contoursNow_127 : decode cX7_contoursNow 127 = .ok (.iconst (-1), 1) := by decide +kernel
theorem dX7_contoursNow_128 : decode cX7_contoursNow 128 = .ok (.istore 15, 2) := by decide +kernel
theorem dX7_contoursNow_130 : decode cX7_contoursNow 130 = .ok (.iload 9, 2) := by decide +kernel
theorem dX7_contoursNow_132 : decode cX7_contoursNow 132 = .ok (.istore 16, 2) := by decide +kernel
theorem dX7_contoursNow_134 : decode cX7_contoursNow 134 = .ok (.aload_n 3, 1) := by decide +kernel
theorem dX7_contoursNow_135 : decode cX7_contoursNow 135 = .ok (.iload 16, 2) := by decide +kernel
theorem dX7_contoursNow_137 : decode cX7_contoursNow 137 = .ok (.baload, 1) := by decide +kernel
theorem dX7_contoursNow_138 : decode cX7_contoursNow 138 = .ok (.ifCond .ne 164, 3) := by decide +kernel
theorem dX7_contoursNow_141 : decode cX7_contoursNow 141 = .ok (.aload_n 3, 1) := by decide +kernel
theorem dX7_contoursNow_142 : decode cX7_contoursNow 142 = .ok (.iload 16, 2) := by decide +kernel
theorem dX7_contoursNow_144 : decode cX7_contoursNow 144 = .ok (.iconst 1, 1) := by decide +kernel
theorem dX7_contoursNow_145 : decode cX7_contoursNow 145 = .ok (.bastore, 1) := by decide +kernel
theorem dX7_contoursNow_146 : decode cX7_contoursNow 146 = .ok (.iload 13, 2) := by decide +kernel
theorem dX7_contoursNow_148 : decode cX7_contoursNow 148 = .ok (.iload 15, 2) := by decide +kernel
theorem dX7_contoursNow_150 : decode cX7_contoursNow 150 = .ok (.if_icmp .eq 25, 3) := by decide +kernel
theorem dX7_contoursNow_153 : decode cX7_contoursNow 153 = .ok (.iload 15, 2) := by decide +kernel
theorem dX7_contoursNow_155 : decode cX7_contoursNow 155 = .ok (.iconst (-1), 1) := by decide +kernel
theorem dX7_contoursNow_156 : decode cX7_contoursNow 156 = .ok (.if_icmp .eq 19, 3) := by decide +kernel
theorem dX7_contoursNow_159 : decode cX7_contoursNow 159 = .ok (.aload 4, 2) := by decide +kernel
theorem dX7_contoursNow_161 : decode cX7_contoursNow 161 = .ok (.iload 5, 2) := by decide +kernel
theorem dX7_contoursNow_163 : decode cX7_contoursNow 163 = .ok (.iload 11, 2) := by decide +kernel
theorem dX7_contoursNow_165 : decode cX7_contoursNow 165 = .ok (.iload 12, 2) := by decide +kernel
theorem dX7_contoursNow_167 : decode cX7_contoursNow 167 = .ok (.invokestatic 124, 3) := by decide +kernel
theorem dX7_contoursNow_170 : decode cX7_contoursNow 170 = .ok (.astore 4, 2) := by decide +kernel
theorem dX7_contoursNow_172 : decode cX7_contoursNow 172 = .ok (.iinc 5 2, 3) := by decide +kernel
theorem dX7_contoursNow_175 : decode cX7_contoursNow 175 = .ok (.iload 14, 2) := by decide +kernel
theorem dX7_contoursNow_177 : decode cX7_contoursNow 177 = .ok (.iload 13, 2) := by decide +kernel
theorem dX7_contoursNow_179 : decode cX7_contoursNow 179 = .ok (.iconst 1, 1) := by decide +kernel
theorem dX7_contoursNow_180 : decode cX7_contoursNow 180 = .ok (.if_icmp .ne 8, 3) := by decide +kernel
theorem dX7_contoursNow_183 : decode cX7_contoursNow 183 = .ok (.iload 11, 2) := by decide +kernel
theorem dX7_contoursNow_185 : decode cX7_contoursNow 185 = .ok (.goto 16, 3) := by decide +kernel
theorem dX7_contoursNow_188 : decode cX7_contoursNow 188 = .ok (.iload 13, 2) := by decide +kernel
theorem dX7_contoursNow_190 : decode cX7_contoursNow 190 = .ok (.iconst 3, 1) := by decide +kernel
theorem dX7_contoursNow_191 : decode cX7_contoursNow 191 = .ok (.if_icmp .ne 9, 3) := by decide +kernel
theorem dX7_contoursNow_194 : decode cX7_contoursNow 194 = .ok (.iload 11, 2) := by decide +kernel
theorem dX7_contoursNow_196 : decode cX7_contoursNow 196 = .ok (.ineg, 1) := by decide +kernel
theorem dX7_contoursNow_197 : decode cX7_contoursNow 197 = .ok (.goto 4, 3) := by decide +kernel
theorem dX7_contoursNow_200 : decode cX7_contoursNow 200 = .ok (.iconst 0, 1) := by decide +kernel
theorem dX7_contoursNow_201 : decode cX7_contoursNow 201 = .ok (.iadd, 1) := by decide +kernel
theorem dX7_contoursNow_202 : decode cX7_contoursNow 202 = .ok (.istore 14, 2) := by decide +kernel
theorem dX7_contoursNow_204 : decode cX7_contoursNow 204 = .ok (.iload 11, 2) := by decide +kernel
theorem dX7_contoursNow_206 : decode cX7_contoursNow 206 = .ok (.iload 13, 2) := by decide +kernel
theorem dX7_contoursNow_208 : decode cX7_contoursNow 208 = .ok (.invokestatic 128, 3) := by decide +kernel
theorem dX7_contoursNow_211 : decode cX7_contoursNow 211 = .ok (.iadd, 1) := by decide +kernel
theorem dX7_contoursNow_212 : decode cX7_contoursNow 212 = .ok (.istore 11, 2) := by decide +kernel
theorem dX7_contoursNow_214 : decode cX7_contoursNow 214 = .ok (.iload 12, 2) := by decide +kernel
theorem dX7_contoursNow_216 : decode cX7_contoursNow 216 = .ok (.iload 13, 2) := by decide +kernel
theorem dX7_contoursNow_218 : decode cX7_contoursNow 218 = .ok (.invokestatic 131, 3) := by decide +kernel
theorem dX7_contoursNow_221 : decode cX7_contoursNow 221 = .ok (.iadd, 1) := by decide +kernel
theorem dX7_contoursNow_222 : decode cX7_contoursNow 222 = .ok (.istore 12, 2) := by decide +kernel
theorem dX7_contoursNow_224 : decode cX7_contoursNow 224 = .ok (.iload 13, 2) := by decide +kernel
theorem dX7_contoursNow_226 : decode cX7_contoursNow 226 = .ok (.istore 15, 2) := by decide +kernel
theorem dX7_contoursNow_228 : decode cX7_contoursNow 228 = .ok (.iload 13, 2) := by decide +kernel
theorem dX7_contoursNow_230 : decode cX7_contoursNow 230 = .ok (.iconst 1, 1) := by decide +kernel
theorem dX7_contoursNow_231 : decode cX7_contoursNow 231 = .ok (.iadd, 1) := by decide +kernel
theorem dX7_contoursNow_232 : decode cX7_contoursNow 232 = .ok (.iconst 4, 1) := by decide +kernel
theorem dX7_contoursNow_233 : decode cX7_contoursNow 233 = .ok (.irem, 1) := by decide +kernel
theorem dX7_contoursNow_234 : decode cX7_contoursNow 234 = .ok (.istore 17, 2) := by decide +kernel
theorem dX7_contoursNow_236 : decode cX7_contoursNow 236 = .ok (.aload_n 2, 1) := by decide +kernel
theorem dX7_contoursNow_237 : decode cX7_contoursNow 237 = .ok (.iload 11, 2) := by decide +kernel
theorem dX7_contoursNow_239 : decode cX7_contoursNow 239 = .ok (.iload 12, 2) := by decide +kernel
theorem dX7_contoursNow_241 : decode cX7_contoursNow 241 = .ok (.iload 17, 2) := by decide +kernel
theorem dX7_contoursNow_243 : decode cX7_contoursNow 243 = .ok (.invokestatic 120, 3) := by decide +kernel
theorem dX7_contoursNow_246 : decode cX7_contoursNow 246 = .ok (.ifCond .ne 7, 3) := by decide +kernel
theorem dX7_contoursNow_249 : decode cX7_contoursNow 249 = .ok (.iload 13, 2) := by decide +kernel
theorem dX7_contoursNow_251 : decode cX7_contoursNow 251 = .ok (.istore 17, 2) := by decide +kernel
theorem dX7_contoursNow_253 : decode cX7_contoursNow 253 = .ok (.aload_n 2, 1) := by decide +kernel
theorem dX7_contoursNow_254 : decode cX7_contoursNow 254 = .ok (.iload 11, 2) := by decide +kernel
theorem dX7_contoursNow_256 : decode cX7_contoursNow 256 = .ok (.iload 12, 2) := by decide +kernel
theorem dX7_contoursNow_258 : decode cX7_contoursNow 258 = .ok (.iload 17, 2) := by decide +kernel
theorem dX7_contoursNow_260 : decode cX7_contoursNow 260 = .ok (.invokestatic 120, 3) := by decide +kernel
theorem dX7_contoursNow_263 : decode cX7_contoursNow 263 = .ok (.ifCond .ne 11, 3) := by decide +kernel
theorem dX7_contoursNow_266 : decode cX7_contoursNow 266 = .ok (.iload 13, 2) := by decide +kernel
theorem dX7_contoursNow_268 : decode cX7_contoursNow 268 = .ok (.iconst 3, 1) := by decide +kernel
theorem dX7_contoursNow_269 : decode cX7_contoursNow 269 = .ok (.iadd, 1) := by decide +kernel
theorem dX7_contoursNow_270 : decode cX7_contoursNow 270 = .ok (.iconst 4, 1) := by decide +kernel
theorem dX7_contoursNow_271 : decode cX7_contoursNow 271 = .ok (.irem, 1) := by decide +kernel
theorem dX7_contoursNow_272 : decode cX7_contoursNow 272 = .ok (.istore 17, 2) := by decide +kernel
theorem dX7_contoursNow_274 : decode cX7_contoursNow 274 = .ok (.iload 17, 2) := by decide +kernel
theorem dX7_contoursNow_276 : decode cX7_contoursNow 276 = .ok (.istore 13, 2) := by decide +kernel
theorem dX7_contoursNow_278 : decode cX7_contoursNow 278 = .ok (.iload 12, 2) := by decide +kernel
theorem dX7_contoursNow_280 : decode cX7_contoursNow 280 = .ok (.bipush (-32), 2) := by decide +kernel
theorem dX7_contoursNow_282 : decode cX7_contoursNow 282 = .ok (.isub, 1) := by decide +kernel
theorem dX7_contoursNow_283 : decode cX7_contoursNow 283 = .ok (.bipush 65, 2) := by decide +kernel
theorem dX7_contoursNow_285 : decode cX7_contoursNow 285 = .ok (.imul, 1) := by decide +kernel
theorem dX7_contoursNow_286 : decode cX7_contoursNow 286 = .ok (.iload 11, 2) := by decide +kernel
theorem dX7_contoursNow_288 : decode cX7_contoursNow 288 = .ok (.iadd, 1) := by decide +kernel
theorem dX7_contoursNow_289 : decode cX7_contoursNow 289 = .ok (.bipush (-32), 2) := by decide +kernel
theorem dX7_contoursNow_291 : decode cX7_contoursNow 291 = .ok (.isub, 1) := by decide +kernel
theorem dX7_contoursNow_292 : decode cX7_contoursNow 292 = .ok (.iconst 4, 1) := by decide +kernel
theorem dX7_contoursNow_293 : decode cX7_contoursNow 293 = .ok (.imul, 1) := by decide +kernel
theorem dX7_contoursNow_294 : decode cX7_contoursNow 294 = .ok (.iload 13, 2) := by decide +kernel
theorem dX7_contoursNow_296 : decode cX7_contoursNow 296 = .ok (.iadd, 1) := by decide +kernel
theorem dX7_contoursNow_297 : decode cX7_contoursNow 297 = .ok (.istore 16, 2) := by decide +kernel
theorem dX7_contoursNow_299 : decode cX7_contoursNow 299 = .ok (.goto (-165), 3) := by decide +kernel
theorem dX7_contoursNow_302 : decode cX7_contoursNow 302 = .ok (.aload 4, 2) := by decide +kernel
theorem dX7_contoursNow_304 : decode cX7_contoursNow 304 = .ok (.iload 5, 2) := by decide +kernel
theorem dX7_contoursNow_306 : decode cX7_contoursNow 306 = .ok (.iload 11, 2) := by decide +kernel
theorem dX7_contoursNow_308 : decode cX7_contoursNow 308 = .ok (.iload 12, 2) := by decide +kernel
theorem dX7_contoursNow_310 : decode cX7_contoursNow 310 = .ok (.invokestatic 124, 3) := by decide +kernel
theorem dX7_contoursNow_313 : decode cX7_contoursNow 313 = .ok (.astore 4, 2) := by decide +kernel
theorem dX7_contoursNow_315 : decode cX7_contoursNow 315 = .ok (.iinc 5 2, 3) := by decide +kernel
theorem dX7_contoursNow_318 : decode cX7_contoursNow 318 = .ok (.iload 5, 2) := by decide +kernel
theorem dX7_contoursNow_320 : decode cX7_contoursNow 320 = .ok (.iload 10, 2) := by decide +kernel
theorem dX7_contoursNow_322 : decode cX7_contoursNow 322 = .ok (.isub, 1) := by decide +kernel
theorem dX7_contoursNow_323 : decode cX7_contoursNow 323 = .ok (.iconst 2, 1) := by decide +kernel
theorem dX7_contoursNow_324 : decode cX7_contoursNow 324 = .ok (.isub, 1) := by decide +kernel
theorem dX7_contoursNow_325 : decode cX7_contoursNow 325 = .ok (.iconst 2, 1) := by decide +kernel
theorem dX7_contoursNow_326 : decode cX7_contoursNow 326 = .ok (.idiv, 1) := by decide +kernel
theorem dX7_contoursNow_327 : decode cX7_contoursNow 327 = .ok (.istore 17, 2) := by decide +kernel
theorem dX7_contoursNow_329 : decode cX7_contoursNow 329 = .ok (.aload 4, 2) := by decide +kernel
theorem dX7_contoursNow_331 : decode cX7_contoursNow 331 = .ok (.iload 5, 2) := by decide +kernel
theorem dX7_contoursNow_333 : decode cX7_contoursNow 333 = .ok (.iconst 2, 1) := by decide +kernel
theorem dX7_contoursNow_334 : decode cX7_contoursNow 334 = .ok (.isub, 1) := by decide +kernel
theorem dX7_contoursNow_335 : decode cX7_contoursNow 335 = .ok (.iaload, 1) := by decide +kernel
theorem dX7_contoursNow_336 : decode cX7_contoursNow 336 = .ok (.istore 18, 2) := by decide +kernel
theorem dX7_contoursNow_338 : decode cX7_contoursNow 338 = .ok (.aload 4, 2) := by decide +kernel
theorem dX7_contoursNow_340 : decode cX7_contoursNow 340 = .ok (.iload 5, 2) := by decide +kernel
theorem dX7_contoursNow_342 : decode cX7_contoursNow 342 = .ok (.iconst 1, 1) := by decide +kernel
theorem dX7_contoursNow_343 : decode cX7_contoursNow 343 = .ok (.isub, 1) := by decide +kernel
theorem dX7_contoursNow_344 : decode cX7_contoursNow 344 = .ok (.iaload, 1) := by decide +kernel
theorem dX7_contoursNow_345 : decode cX7_contoursNow 345 = .ok (.istore 19, 2) := by decide +kernel
theorem dX7_contoursNow_347 : decode cX7_contoursNow 347 = .ok (.iload 5, 2) := by decide +kernel
theorem dX7_contoursNow_349 : decode cX7_contoursNow 349 = .ok (.iconst 1, 1) := by decide +kernel
theorem dX7_contoursNow_350 : decode cX7_contoursNow 350 = .ok (.isub, 1) := by decide +kernel
theorem dX7_contoursNow_351 : decode cX7_contoursNow 351 = .ok (.istore 20, 2) := by decide +kernel
theorem dX7_contoursNow_353 : decode cX7_contoursNow 353 = .ok (.iload 20, 2) := by decide +kernel
theorem dX7_contoursNow_355 : decode cX7_contoursNow 355 = .ok (.iload 10, 2) := by decide +kernel
theorem dX7_contoursNow_357 : decode cX7_contoursNow 357 = .ok (.iconst 3, 1) := by decide +kernel
theorem dX7_contoursNow_358 : decode cX7_contoursNow 358 = .ok (.iadd, 1) := by decide +kernel
theorem dX7_contoursNow_359 : decode cX7_contoursNow 359 = .ok (.if_icmp .le 21, 3) := by decide +kernel
theorem dX7_contoursNow_362 : decode cX7_contoursNow 362 = .ok (.aload 4, 2) := by decide +kernel
theorem dX7_contoursNow_364 : decode cX7_contoursNow 364 = .ok (.iload 20, 2) := by decide +kernel
theorem dX7_contoursNow_366 : decode cX7_contoursNow 366 = .ok (.aload 4, 2) := by decide +kernel
theorem dX7_contoursNow_368 : decode cX7_contoursNow 368 = .ok (.iload 20, 2) := by decide +kernel
theorem dX7_contoursNow_370 : decode cX7_contoursNow 370 = .ok (.iconst 2, 1) := by decide +kernel
theorem dX7_contoursNow_371 : decode cX7_contoursNow 371 = .ok (.isub, 1) := by decide +kernel
theorem dX7_contoursNow_372 : decode cX7_contoursNow 372 = .ok (.iaload, 1) := by decide +kernel
theorem dX7_contoursNow_373 : decode cX7_contoursNow 373 = .ok (.iastore, 1) := by decide +kernel
theorem dX7_contoursNow_374 : decode cX7_contoursNow 374 = .ok (.iinc 20 (-1), 3) := by decide +kernel
theorem dX7_contoursNow_377 : decode cX7_contoursNow 377 = .ok (.goto (-24), 3) := by decide +kernel
theorem dX7_contoursNow_380 : decode cX7_contoursNow 380 = .ok (.aload 4, 2) := by decide +kernel
theorem dX7_contoursNow_382 : decode cX7_contoursNow 382 = .ok (.iload 10, 2) := by decide +kernel
theorem dX7_contoursNow_384 : decode cX7_contoursNow 384 = .ok (.iconst 2, 1) := by decide +kernel
theorem dX7_contoursNow_385 : decode cX7_contoursNow 385 = .ok (.iadd, 1) := by decide +kernel
theorem dX7_contoursNow_386 : decode cX7_contoursNow 386 = .ok (.iload 18, 2) := by decide +kernel
theorem dX7_contoursNow_388 : decode cX7_contoursNow 388 = .ok (.iastore, 1) := by decide +kernel
theorem dX7_contoursNow_389 : decode cX7_contoursNow 389 = .ok (.aload 4, 2) := by decide +kernel
theorem dX7_contoursNow_391 : decode cX7_contoursNow 391 = .ok (.iload 10, 2) := by decide +kernel
theorem dX7_contoursNow_393 : decode cX7_contoursNow 393 = .ok (.iconst 3, 1) := by decide +kernel
theorem dX7_contoursNow_394 : decode cX7_contoursNow 394 = .ok (.iadd, 1) := by decide +kernel
theorem dX7_contoursNow_395 : decode cX7_contoursNow 395 = .ok (.iload 19, 2) := by decide +kernel
theorem dX7_contoursNow_397 : decode cX7_contoursNow 397 = .ok (.iastore, 1) := by decide +kernel
theorem dX7_contoursNow_398 : decode cX7_contoursNow 398 = .ok (.aload 4, 2) := by decide +kernel
theorem dX7_contoursNow_400 : decode cX7_contoursNow 400 = .ok (.iload 10, 2) := by decide +kernel
theorem dX7_contoursNow_402 : decode cX7_contoursNow 402 = .ok (.iload 14, 2) := by decide +kernel
theorem dX7_contoursNow_404 : decode cX7_contoursNow 404 = .ok (.iastore, 1) := by decide +kernel
theorem dX7_contoursNow_405 : decode cX7_contoursNow 405 = .ok (.aload 4, 2) := by decide +kernel
theorem dX7_contoursNow_407 : decode cX7_contoursNow 407 = .ok (.iload 10, 2) := by decide +kernel
theorem dX7_contoursNow_409 : decode cX7_contoursNow 409 = .ok (.iconst 1, 1) := by decide +kernel
theorem dX7_contoursNow_410 : decode cX7_contoursNow 410 = .ok (.iadd, 1) := by decide +kernel
theorem dX7_contoursNow_411 : decode cX7_contoursNow 411 = .ok (.iload 17, 2) := by decide +kernel
theorem dX7_contoursNow_413 : decode cX7_contoursNow 413 = .ok (.iastore, 1) := by decide +kernel
theorem dX7_contoursNow_414 : decode cX7_contoursNow 414 = .ok (.iinc 8 1, 3) := by decide +kernel
theorem dX7_contoursNow_417 : decode cX7_contoursNow 417 = .ok (.goto (-370), 3) := by decide +kernel
theorem dX7_contoursNow_420 : decode cX7_contoursNow 420 = .ok (.iinc 7 1, 3) := by decide +kernel
theorem dX7_contoursNow_423 : decode cX7_contoursNow 423 = .ok (.goto (-386), 3) := by decide +kernel
theorem dX7_contoursNow_426 : decode cX7_contoursNow 426 = .ok (.iinc 6 1, 3) := by decide +kernel
theorem dX7_contoursNow_429 : decode cX7_contoursNow 429 = .ok (.goto (-403), 3) := by decide +kernel
theorem dX7_contoursNow_432 : decode cX7_contoursNow 432 = .ok (.aload 4, 2) := by decide +kernel
theorem dX7_contoursNow_434 : decode cX7_contoursNow 434 = .ok (.areturn, 1) := by decide +kernel
theorem dX7_put_0 : decode cX7_put 0 = .ok (.aload_n 0, 1) := by decide +kernel
theorem dX7_put_1 : decode cX7_put 1 = .ok (.astore 4, 2) := by decide +kernel
theorem dX7_put_3 : decode cX7_put 3 = .ok (.iload_n 1, 1) := by decide +kernel
theorem dX7_put_4 : decode cX7_put 4 = .ok (.iconst 4, 1) := by decide +kernel
theorem dX7_put_5 : decode cX7_put 5 = .ok (.iadd, 1) := by decide +kernel
theorem dX7_put_6 : decode cX7_put 6 = .ok (.aload_n 0, 1) := by decide +kernel
theorem dX7_put_7 : decode cX7_put 7 = .ok (.arraylength, 1) := by decide +kernel
theorem dX7_put_8 : decode cX7_put 8 = .ok (.if_icmp .le 23, 3) := by decide +kernel
theorem dX7_put_11 : decode cX7_put 11 = .ok (.iconst 2, 1) := by decide +kernel
theorem dX7_put_12 : decode cX7_put 12 = .ok (.aload_n 0, 1) := by decide +kernel
theorem dX7_put_13 : decode cX7_put 13 = .ok (.arraylength, 1) := by decide +kernel
theorem dX7_put_14 : decode cX7_put 14 = .ok (.imul, 1) := by decide +kernel
theorem dX7_put_15 : decode cX7_put 15 = .ok (.bipush 8, 2) := by decide +kernel
theorem dX7_put_17 : decode cX7_put 17 = .ok (.iadd, 1) := by decide +kernel
theorem dX7_put_18 : decode cX7_put 18 = .ok (.newarray .int, 2) := by decide +kernel
theorem dX7_put_20 : decode cX7_put 20 = .ok (.astore 4, 2) := by decide +kernel
theorem dX7_put_22 : decode cX7_put 22 = .ok (.aload_n 0, 1) := by decide +kernel
theorem dX7_put_23 : decode cX7_put 23 = .ok (.iconst 0, 1) := by decide +kernel
theorem dX7_put_24 : decode cX7_put 24 = .ok (.aload 4, 2) := by decide +kernel
theorem dX7_put_26 : decode cX7_put 26 = .ok (.iconst 0, 1) := by decide +kernel
theorem dX7_put_27 : decode cX7_put 27 = .ok (.iload_n 1, 1) := by decide +kernel
theorem dX7_put_28 : decode cX7_put 28 = .ok (.invokestatic 48, 3) := by decide +kernel
theorem dX7_put_31 : decode cX7_put 31 = .ok (.aload 4, 2) := by decide +kernel
theorem dX7_put_33 : decode cX7_put 33 = .ok (.iload_n 1, 1) := by decide +kernel
theorem dX7_put_34 : decode cX7_put 34 = .ok (.iload_n 2, 1) := by decide +kernel
theorem dX7_put_35 : decode cX7_put 35 = .ok (.iastore, 1) := by decide +kernel
theorem dX7_put_36 : decode cX7_put 36 = .ok (.aload 4, 2) := by decide +kernel
theorem dX7_put_38 : decode cX7_put 38 = .ok (.iload_n 1, 1) := by decide +kernel
theorem dX7_put_39 : decode cX7_put 39 = .ok (.iconst 1, 1) := by decide +kernel
theorem dX7_put_40 : decode cX7_put 40 = .ok (.iadd, 1) := by decide +kernel
theorem dX7_put_41 : decode cX7_put 41 = .ok (.iload_n 3, 1) := by decide +kernel
theorem dX7_put_42 : decode cX7_put 42 = .ok (.iastore, 1) := by decide +kernel
theorem dX7_put_43 : decode cX7_put 43 = .ok (.aload 4, 2) := by decide +kernel
theorem dX7_put_45 : decode cX7_put 45 = .ok (.areturn, 1) := by decide +kernel
theorem dX7_headOf_0 : decode cX7_headOf 0 = .ok (.iload_n 1, 1) := by decide +kernel
theorem dX7_headOf_1 : decode cX7_headOf 1 = .ok (.iconst 0, 1) := by decide +kernel
theorem dX7_headOf_2 : decode cX7_headOf 2 = .ok (.aload_n 0, 1) := by decide +kernel
theorem dX7_headOf_3 : decode cX7_headOf 3 = .ok (.iconst 0, 1) := by decide +kernel
theorem dX7_headOf_4 : decode cX7_headOf 4 = .ok (.iaload, 1) := by decide +kernel
theorem dX7_headOf_5 : decode cX7_headOf 5 = .ok (.iconst 1, 1) := by decide +kernel
theorem dX7_headOf_6 : decode cX7_headOf 6 = .ok (.isub, 1) := by decide +kernel
theorem dX7_headOf_7 : decode cX7_headOf 7 = .ok (.invokestatic 36, 3) := by decide +kernel
theorem dX7_headOf_10 : decode cX7_headOf 10 = .ok (.ifCond .ne 5, 3) := by decide +kernel
theorem dX7_headOf_13 : decode cX7_headOf 13 = .ok (.iconst (-1), 1) := by decide +kernel
theorem dX7_headOf_14 : decode cX7_headOf 14 = .ok (.ireturn, 1) := by decide +kernel
theorem dX7_headOf_15 : decode cX7_headOf 15 = .ok (.iconst 1, 1) := by decide +kernel
theorem dX7_headOf_16 : decode cX7_headOf 16 = .ok (.istore_n 2, 1) := by decide +kernel
theorem dX7_headOf_17 : decode cX7_headOf 17 = .ok (.iconst 0, 1) := by decide +kernel
theorem dX7_headOf_18 : decode cX7_headOf 18 = .ok (.istore_n 3, 1) := by decide +kernel
theorem dX7_headOf_19 : decode cX7_headOf 19 = .ok (.iload_n 3, 1) := by decide +kernel
theorem dX7_headOf_20 : decode cX7_headOf 20 = .ok (.iload_n 1, 1) := by decide +kernel
theorem dX7_headOf_21 : decode cX7_headOf 21 = .ok (.if_icmp .ge 21, 3) := by decide +kernel
theorem dX7_headOf_24 : decode cX7_headOf 24 = .ok (.iload_n 2, 1) := by decide +kernel
theorem dX7_headOf_25 : decode cX7_headOf 25 = .ok (.iconst 2, 1) := by decide +kernel
theorem dX7_headOf_26 : decode cX7_headOf 26 = .ok (.iconst 2, 1) := by decide +kernel
theorem dX7_headOf_27 : decode cX7_headOf 27 = .ok (.aload_n 0, 1) := by decide +kernel
theorem dX7_headOf_28 : decode cX7_headOf 28 = .ok (.iload_n 2, 1) := by decide +kernel
theorem dX7_headOf_29 : decode cX7_headOf 29 = .ok (.iconst 1, 1) := by decide +kernel
theorem dX7_headOf_30 : decode cX7_headOf 30 = .ok (.iadd, 1) := by decide +kernel
theorem dX7_headOf_31 : decode cX7_headOf 31 = .ok (.iaload, 1) := by decide +kernel
theorem dX7_headOf_32 : decode cX7_headOf 32 = .ok (.imul, 1) := by decide +kernel
theorem dX7_headOf_33 : decode cX7_headOf 33 = .ok (.iadd, 1) := by decide +kernel
theorem dX7_headOf_34 : decode cX7_headOf 34 = .ok (.iadd, 1) := by decide +kernel
theorem dX7_headOf_35 : decode cX7_headOf 35 = .ok (.istore_n 2, 1) := by decide +kernel
theorem dX7_headOf_36 : decode cX7_headOf 36 = .ok (.iinc 3 1, 3) := by decide +kernel
theorem dX7_headOf_39 : decode cX7_headOf 39 = .ok (.goto (-20), 3) := by decide +kernel
theorem dX7_headOf_42 : decode cX7_headOf 42 = .ok (.iload_n 2, 1) := by decide +kernel
theorem dX7_headOf_43 : decode cX7_headOf 43 = .ok (.ireturn, 1) := by decide +kernel
theorem dX7_contours_0 : decode cX7_contours 0 = .ok (.aload_n 0, 1) := by decide +kernel
theorem dX7_contours_1 : decode cX7_contours 1 = .ok (.iconst 0, 1) := by decide +kernel
theorem dX7_contours_2 : decode cX7_contours 2 = .ok (.putfield 33, 3) := by decide +kernel
theorem dX7_contours_5 : decode cX7_contours 5 = .ok (.iload_n 1, 1) := by decide +kernel
theorem dX7_contours_6 : decode cX7_contours 6 = .ok (.invokestatic 76, 3) := by decide +kernel
theorem dX7_contours_9 : decode cX7_contours 9 = .ok (.ifCond .eq 13, 3) := by decide +kernel
theorem dX7_contours_12 : decode cX7_contours 12 = .ok (.aload_n 0, 1) := by decide +kernel
theorem dX7_contours_13 : decode cX7_contours 13 = .ok (.iload_n 1, 1) := by decide +kernel
theorem dX7_contours_14 : decode cX7_contours 14 = .ok (.invokevirtual 134, 3) := by decide +kernel
theorem dX7_contours_17 : decode cX7_contours 17 = .ok (.iconst 0, 1) := by decide +kernel
theorem dX7_contours_18 : decode cX7_contours 18 = .ok (.iaload, 1) := by decide +kernel
theorem dX7_contours_19 : decode cX7_contours 19 = .ok (.goto 8, 3) := by decide +kernel
theorem dX7_contours_22 : decode cX7_contours 22 = .ok (.aload_n 0, 1) := by decide +kernel
theorem dX7_contours_23 : decode cX7_contours 23 = .ok (.iconst 1, 1) := by decide +kernel
theorem dX7_contours_24 : decode cX7_contours 24 = .ok (.invokevirtual 61, 3) := by decide +kernel
theorem dX7_contours_27 : decode cX7_contours 27 = .ok (.ireturn, 1) := by decide +kernel
theorem dX7_ofContour_0 : decode cX7_ofContour 0 = .ok (.aload_n 0, 1) := by decide +kernel
theorem dX7_ofContour_1 : decode cX7_ofContour 1 = .ok (.iconst 0, 1) := by decide +kernel
theorem dX7_ofContour_2 : decode cX7_ofContour 2 = .ok (.putfield 33, 3) := by decide +kernel
theorem dX7_ofContour_5 : decode cX7_ofContour 5 = .ok (.iload_n 1, 1) := by decide +kernel
theorem dX7_ofContour_6 : decode cX7_ofContour 6 = .ok (.invokestatic 76, 3) := by decide +kernel
theorem dX7_ofContour_9 : decode cX7_ofContour 9 = .ok (.ifCond .ne 9, 3) := by decide +kernel
theorem dX7_ofContour_12 : decode cX7_ofContour 12 = .ok (.aload_n 0, 1) := by decide +kernel
theorem dX7_ofContour_13 : decode cX7_ofContour 13 = .ok (.iconst 1, 1) := by decide +kernel
theorem dX7_ofContour_14 : decode cX7_ofContour 14 = .ok (.invokevirtual 61, 3) := by decide +kernel
theorem dX7_ofContour_17 : decode cX7_ofContour 17 = .ok (.ireturn, 1) := by decide +kernel
theorem dX7_ofContour_18 : decode cX7_ofContour 18 = .ok (.aload_n 0, 1) := by decide +kernel
theorem dX7_ofContour_19 : decode cX7_ofContour 19 = .ok (.iload_n 1, 1) := by decide +kernel
theorem dX7_ofContour_20 : decode cX7_ofContour 20 = .ok (.invokevirtual 134, 3) := by decide +kernel
theorem dX7_ofContour_23 : decode cX7_ofContour 23 = .ok (.astore 4, 2) := by decide +kernel
theorem dX7_ofContour_25 : decode cX7_ofContour 25 = .ok (.aload 4, 2) := by decide +kernel
theorem dX7_ofContour_27 : decode cX7_ofContour 27 = .ok (.iload_n 2, 1) := by decide +kernel
theorem dX7_ofContour_28 : decode cX7_ofContour 28 = .ok (.invokestatic 138, 3) := by decide +kernel
theorem dX7_ofContour_31 : decode cX7_ofContour 31 = .ok (.istore 5, 2) := by decide +kernel
theorem dX7_ofContour_33 : decode cX7_ofContour 33 = .ok (.iload 5, 2) := by decide +kernel
theorem dX7_ofContour_35 : decode cX7_ofContour 35 = .ok (.iconst (-1), 1) := by decide +kernel
theorem dX7_ofContour_36 : decode cX7_ofContour 36 = .ok (.if_icmp .ne 11, 3) := by decide +kernel
theorem dX7_ofContour_39 : decode cX7_ofContour 39 = .ok (.aload_n 0, 1) := by decide +kernel
theorem dX7_ofContour_40 : decode cX7_ofContour 40 = .ok (.iconst 1, 1) := by decide +kernel
theorem dX7_ofContour_41 : decode cX7_ofContour 41 = .ok (.invokevirtual 61, 3) := by decide +kernel
theorem dX7_ofContour_44 : decode cX7_ofContour 44 = .ok (.goto 10, 3) := by decide +kernel
theorem dX7_ofContour_47 : decode cX7_ofContour 47 = .ok (.aload 4, 2) := by decide +kernel
theorem dX7_ofContour_49 : decode cX7_ofContour 49 = .ok (.iload 5, 2) := by decide +kernel
theorem dX7_ofContour_51 : decode cX7_ofContour 51 = .ok (.iload_n 3, 1) := by decide +kernel
theorem dX7_ofContour_52 : decode cX7_ofContour 52 = .ok (.iadd, 1) := by decide +kernel
theorem dX7_ofContour_53 : decode cX7_ofContour 53 = .ok (.iaload, 1) := by decide +kernel
theorem dX7_ofContour_54 : decode cX7_ofContour 54 = .ok (.ireturn, 1) := by decide +kernel
theorem dX7_corners_0 : decode cX7_corners 0 = .ok (.aload_n 0, 1) := by decide +kernel
theorem dX7_corners_1 : decode cX7_corners 1 = .ok (.iload_n 1, 1) := by decide +kernel
theorem dX7_corners_2 : decode cX7_corners 2 = .ok (.iload_n 2, 1) := by decide +kernel
theorem dX7_corners_3 : decode cX7_corners 3 = .ok (.iconst 1, 1) := by decide +kernel
theorem dX7_corners_4 : decode cX7_corners 4 = .ok (.invokevirtual 142, 3) := by decide +kernel
theorem dX7_corners_7 : decode cX7_corners 7 = .ok (.ireturn, 1) := by decide +kernel
theorem dX7_areaOf__0 : decode cX7_areaOf_ 0 = .ok (.aload_n 0, 1) := by decide +kernel
theorem dX7_areaOf__1 : decode cX7_areaOf_ 1 = .ok (.iload_n 1, 1) := by decide +kernel
theorem dX7_areaOf__2 : decode cX7_areaOf_ 2 = .ok (.iload_n 2, 1) := by decide +kernel
theorem dX7_areaOf__3 : decode cX7_areaOf_ 3 = .ok (.iconst 0, 1) := by decide +kernel
theorem dX7_areaOf__4 : decode cX7_areaOf_ 4 = .ok (.invokevirtual 142, 3) := by decide +kernel
theorem dX7_areaOf__7 : decode cX7_areaOf_ 7 = .ok (.ireturn, 1) := by decide +kernel
theorem dX7_corner_0 : decode cX7_corner 0 = .ok (.aload_n 0, 1) := by decide +kernel
theorem dX7_corner_1 : decode cX7_corner 1 = .ok (.iload_n 1, 1) := by decide +kernel
theorem dX7_corner_2 : decode cX7_corner 2 = .ok (.iload_n 2, 1) := by decide +kernel
theorem dX7_corner_3 : decode cX7_corner 3 = .ok (.invokevirtual 145, 3) := by decide +kernel
theorem dX7_corner_6 : decode cX7_corner 6 = .ok (.istore 5, 2) := by decide +kernel
theorem dX7_corner_8 : decode cX7_corner 8 = .ok (.aload_n 0, 1) := by decide +kernel
theorem dX7_corner_9 : decode cX7_corner 9 = .ok (.getfield 33, 3) := by decide +kernel
theorem dX7_corner_12 : decode cX7_corner 12 = .ok (.ifCond .eq 5, 3) := by decide +kernel
theorem dX7_corner_15 : decode cX7_corner 15 = .ok (.iconst 0, 1) := by decide +kernel
theorem dX7_corner_16 : decode cX7_corner 16 = .ok (.ireturn, 1) := by decide +kernel
theorem dX7_corner_17 : decode cX7_corner 17 = .ok (.iload_n 3, 1) := by decide +kernel
theorem dX7_corner_18 : decode cX7_corner 18 = .ok (.iconst 0, 1) := by decide +kernel
theorem dX7_corner_19 : decode cX7_corner 19 = .ok (.iload 5, 2) := by decide +kernel
theorem dX7_corner_21 : decode cX7_corner 21 = .ok (.iconst 1, 1) := by decide +kernel
theorem dX7_corner_22 : decode cX7_corner 22 = .ok (.isub, 1) := by decide +kernel
theorem dX7_corner_23 : decode cX7_corner 23 = .ok (.invokestatic 36, 3) := by decide +kernel
theorem dX7_corner_26 : decode cX7_corner 26 = .ok (.ifCond .eq 20, 3) := by decide +kernel
theorem dX7_corner_29 : decode cX7_corner 29 = .ok (.aload_n 0, 1) := by decide +kernel
theorem dX7_corner_30 : decode cX7_corner 30 = .ok (.iload_n 1, 1) := by decide +kernel
theorem dX7_corner_31 : decode cX7_corner 31 = .ok (.iload_n 2, 1) := by decide +kernel
theorem dX7_corner_32 : decode cX7_corner 32 = .ok (.iconst 2, 1) := by decide +kernel
theorem dX7_corner_33 : decode cX7_corner 33 = .ok (.iconst 2, 1) := by decide +kernel
theorem dX7_corner_34 : decode cX7_corner 34 = .ok (.iload_n 3, 1) := by decide +kernel
theorem dX7_corner_35 : decode cX7_corner 35 = .ok (.imul, 1) := by decide +kernel
theorem dX7_corner_36 : decode cX7_corner 36 = .ok (.iadd, 1) := by decide +kernel
theorem dX7_corner_37 : decode cX7_corner 37 = .ok (.iload 4, 2) := by decide +kernel
theorem dX7_corner_39 : decode cX7_corner 39 = .ok (.iadd, 1) := by decide +kernel
theorem dX7_corner_40 : decode cX7_corner 40 = .ok (.invokevirtual 142, 3) := by decide +kernel
theorem dX7_corner_43 : decode cX7_corner 43 = .ok (.goto 8, 3) := by decide +kernel
theorem dX7_corner_46 : decode cX7_corner 46 = .ok (.aload_n 0, 1) := by decide +kernel
theorem dX7_corner_47 : decode cX7_corner 47 = .ok (.iconst 1, 1) := by decide +kernel
theorem dX7_corner_48 : decode cX7_corner 48 = .ok (.invokevirtual 61, 3) := by decide +kernel
theorem dX7_corner_51 : decode cX7_corner 51 = .ok (.ireturn, 1) := by decide +kernel
theorem dX7_cornerX_0 : decode cX7_cornerX 0 = .ok (.aload_n 0, 1) := by decide +kernel
theorem dX7_cornerX_1 : decode cX7_cornerX 1 = .ok (.iload_n 1, 1) := by decide +kernel
theorem dX7_cornerX_2 : decode cX7_cornerX 2 = .ok (.iload_n 2, 1) := by decide +kernel
theorem dX7_cornerX_3 : decode cX7_cornerX 3 = .ok (.iload_n 3, 1) := by decide +kernel
theorem dX7_cornerX_4 : decode cX7_cornerX 4 = .ok (.iconst 0, 1) := by decide +kernel
theorem dX7_cornerX_5 : decode cX7_cornerX 5 = .ok (.invokevirtual 148, 3) := by decide +kernel
theorem dX7_cornerX_8 : decode cX7_cornerX 8 = .ok (.ireturn, 1) := by decide +kernel
theorem dX7_cornerY_0 : decode cX7_cornerY 0 = .ok (.aload_n 0, 1) := by decide +kernel
theorem dX7_cornerY_1 : decode cX7_cornerY 1 = .ok (.iload_n 1, 1) := by decide +kernel
theorem dX7_cornerY_2 : decode cX7_cornerY 2 = .ok (.iload_n 2, 1) := by decide +kernel
theorem dX7_cornerY_3 : decode cX7_cornerY 3 = .ok (.iload_n 3, 1) := by decide +kernel
theorem dX7_cornerY_4 : decode cX7_cornerY 4 = .ok (.iconst 1, 1) := by decide +kernel
theorem dX7_cornerY_5 : decode cX7_cornerY 5 = .ok (.invokevirtual 148, 3) := by decide +kernel
theorem dX7_cornerY_8 : decode cX7_cornerY 8 = .ok (.ireturn, 1) := by decide +kernel
theorem dX7_isRun_0 : decode cX7_isRun 0 = .ok (.aload_n 0, 1) := by decide +kernel
theorem dX7_isRun_1 : decode cX7_isRun 1 = .ok (.iload_n 1, 1) := by decide +kernel
theorem dX7_isRun_2 : decode cX7_isRun 2 = .ok (.iconst 1, 1) := by decide +kernel
theorem dX7_isRun_3 : decode cX7_isRun 3 = .ok (.isub, 1) := by decide +kernel
theorem dX7_isRun_4 : decode cX7_isRun 4 = .ok (.iload_n 3, 1) := by decide +kernel
theorem dX7_isRun_5 : decode cX7_isRun 5 = .ok (.invokestatic 95, 3) := by decide +kernel
theorem dX7_isRun_8 : decode cX7_isRun 8 = .ok (.ifCond .ne 12, 3) := by decide +kernel
theorem dX7_isRun_11 : decode cX7_isRun 11 = .ok (.aload_n 0, 1) := by decide +kernel
theorem dX7_isRun_12 : decode cX7_isRun 12 = .ok (.iload_n 2, 1) := by decide +kernel
theorem dX7_isRun_13 : decode cX7_isRun 13 = .ok (.iload_n 3, 1) := by decide +kernel
theorem dX7_isRun_14 : decode cX7_isRun 14 = .ok (.invokestatic 95, 3) := by decide +kernel
theorem dX7_isRun_17 : decode cX7_isRun 17 = .ok (.ifCond .eq 5, 3) := by decide +kernel
theorem dX7_isRun_20 : decode cX7_isRun 20 = .ok (.iconst 0, 1) := by decide +kernel
theorem dX7_isRun_21 : decode cX7_isRun 21 = .ok (.ireturn, 1) := by decide +kernel
theorem dX7_isRun_22 : decode cX7_isRun 22 = .ok (.iload_n 1, 1) := by decide +kernel
theorem dX7_isRun_23 : decode cX7_isRun 23 = .ok (.istore 4, 2) := by decide +kernel
theorem dX7_isRun_25 : decode cX7_isRun 25 = .ok (.iload 4, 2) := by decide +kernel
theorem dX7_isRun_27 : decode cX7_isRun 27 = .ok (.iload_n 2, 1) := by decide +kernel
theorem dX7_isRun_28 : decode cX7_isRun 28 = .ok (.if_icmp .ge 21, 3) := by decide +kernel
theorem dX7_isRun_31 : decode cX7_isRun 31 = .ok (.aload_n 0, 1) := by decide +kernel
theorem dX7_isRun_32 : decode cX7_isRun 32 = .ok (.iload 4, 2) := by decide +kernel
theorem dX7_isRun_34 : decode cX7_isRun 34 = .ok (.iload_n 3, 1) := by decide +kernel
theorem dX7_isRun_35 : decode cX7_isRun 35 = .ok (.invokestatic 95, 3) := by decide +kernel
theorem dX7_isRun_38 : decode cX7_isRun 38 = .ok (.ifCond .ne 5, 3) := by decide +kernel
theorem dX7_isRun_41 : decode cX7_isRun 41 = .ok (.iconst 0, 1) := by decide +kernel
theorem dX7_isRun_42 : decode cX7_isRun 42 = .ok (.ireturn, 1) := by decide +kernel
theorem dX7_isRun_43 : decode cX7_isRun 43 = .ok (.iinc 4 1, 3) := by decide +kernel
theorem dX7_isRun_46 : decode cX7_isRun 46 = .ok (.goto (-21), 3) := by decide +kernel
theorem dX7_isRun_49 : decode cX7_isRun 49 = .ok (.iconst 1, 1) := by decide +kernel
theorem dX7_isRun_50 : decode cX7_isRun 50 = .ok (.ireturn, 1) := by decide +kernel
theorem dX7_stripsNow_0 : decode cX7_stripsNow 0 = .ok (.aload_n 0, 1) := by decide +kernel
theorem dX7_stripsNow_1 : decode cX7_stripsNow 1 = .ok (.getfield 11, 3) := by decide +kernel
theorem dX7_stripsNow_4 : decode cX7_stripsNow 4 = .ok (.iload_n 1, 1) := by decide +kernel
theorem dX7_stripsNow_5 : decode cX7_stripsNow 5 = .ok (.aaload, 1) := by decide +kernel
theorem dX7_stripsNow_6 : decode cX7_stripsNow 6 = .ok (.astore_n 2, 1) := by decide +kernel
theorem dX7_stripsNow_7 : decode cX7_stripsNow 7 = .ok (.bipush 64, 2) := by decide +kernel
theorem dX7_stripsNow_9 : decode cX7_stripsNow 9 = .ok (.newarray .int, 2) := by decide +kernel
theorem dX7_stripsNow_11 : decode cX7_stripsNow 11 = .ok (.astore_n 3, 1) := by decide +kernel
theorem dX7_stripsNow_12 : decode cX7_stripsNow 12 = .ok (.iconst 1, 1) := by decide +kernel
theorem dX7_stripsNow_13 : decode cX7_stripsNow 13 = .ok (.istore 4, 2) := by decide +kernel
theorem dX7_stripsNow_15 : decode cX7_stripsNow 15 = .ok (.bipush (-32), 2) := by decide +kernel
theorem dX7_stripsNow_17 : decode cX7_stripsNow 17 = .ok (.istore 5, 2) := by decide +kernel
theorem dX7_stripsNow_19 : decode cX7_stripsNow 19 = .ok (.iload 5, 2) := by decide +kernel
theorem dX7_stripsNow_21 : decode cX7_stripsNow 21 = .ok (.bipush 31, 2) := by decide +kernel
theorem dX7_stripsNow_23 : decode cX7_stripsNow 23 = .ok (.if_icmp .gt 155, 3) := by decide +kernel
theorem dX7_stripsNow_26 : decode cX7_stripsNow 26 = .ok (.bipush (-32), 2) := by decide +kernel
theorem dX7_stripsNow_28 : decode cX7_stripsNow 28 = .ok (.istore 6, 2) := by decide +kernel
theorem dX7_stripsNow_30 : decode cX7_stripsNow 30 = .ok (.iload 6, 2) := by decide +kernel
theorem dX7_stripsNow_32 : decode cX7_stripsNow 32 = .ok (.bipush 31, 2) := by decide +kernel
theorem dX7_stripsNow_34 : decode cX7_stripsNow 34 = .ok (.if_icmp .gt 138, 3) := by decide +kernel
theorem dX7_stripsNow_37 : decode cX7_stripsNow 37 = .ok (.aload_n 2, 1) := by decide +kernel
theorem dX7_stripsNow_38 : decode cX7_stripsNow 38 = .ok (.iload 6, 2) := by decide +kernel
theorem dX7_stripsNow_40 : decode cX7_stripsNow 40 = .ok (.iload 5, 2) := by decide +kernel
theorem dX7_stripsNow_42 : decode cX7_stripsNow 42 = .ok (.invokestatic 95, 3) := by decide +kernel
theorem dX7_stripsNow_45 : decode cX7_stripsNow 45 = .ok (.ifCond .eq 121, 3) := by decide +kernel
theorem dX7_stripsNow_48 : decode cX7_stripsNow 48 = .ok (.aload_n 2, 1) := by decide +kernel
theorem dX7_stripsNow_49 : decode cX7_stripsNow 49 = .ok (.iload 6, 2) := by decide +kernel
theorem dX7_stripsNow_51 : decode cX7_stripsNow 51 = .ok (.iconst 1, 1) := by decide +kernel
theorem dX7_stripsNow_52 : decode cX7_stripsNow 52 = .ok (.isub, 1) := by decide +kernel
theorem dX7_stripsNow_53 : decode cX7_stripsNow 53 = .ok (.iload 5, 2) := by decide +kernel
theorem dX7_stripsNow_55 : decode cX7_stripsNow 55 = .ok (.invokestatic 95, 3) := by decide +kernel
theorem dX7_stripsNow_58 : decode cX7_stripsNow 58 = .ok (.ifCond .eq 6, 3) := by decide +kernel
theorem dX7_stripsNow_61 : decode cX7_stripsNow 61 = .ok (.goto 105, 3) := by decide +kernel
theorem dX7_stripsNow_64 : decode cX7_stripsNow 64 = .ok (.iload 6, 2) := by decide +kernel
theorem dX7_stripsNow_66 : decode cX7_stripsNow 66 = .ok (.istore 7, 2) := by decide +kernel
theorem dX7_stripsNow_68 : decode cX7_stripsNow 68 = .ok (.aload_n 2, 1) := by decide +kernel
theorem dX7_stripsNow_69 : decode cX7_stripsNow 69 = .ok (.iload 7, 2) := by decide +kernel
theorem dX7_stripsNow_71 : decode cX7_stripsNow 71 = .ok (.iload 5, 2) := by decide +kernel
theorem dX7_stripsNow_73 : decode cX7_stripsNow 73 = .ok (.invokestatic 95, 3) := by decide +kernel
theorem dX7_stripsNow_76 : decode cX7_stripsNow 76 = .ok (.ifCond .eq 9, 3) := by decide +kernel
theorem dX7_stripsNow_79 : decode cX7_stripsNow 79 = .ok (.iinc 7 1, 3) := by decide +kernel
theorem dX7_stripsNow_82 : decode cX7_stripsNow 82 = .ok (.goto (-14), 3) := by decide +kernel
theorem dX7_stripsNow_85 : decode cX7_stripsNow 85 = .ok (.aload_n 2, 1) := by decide +kernel
theorem dX7_stripsNow_86 : decode cX7_stripsNow 86 = .ok (.iload 6, 2) := by decide +kernel
theorem dX7_stripsNow_88 : decode cX7_stripsNow 88 = .ok (.iload 7, 2) := by decide +kernel
theorem dX7_stripsNow_90 : decode cX7_stripsNow 90 = .ok (.iload 5, 2) := by decide +kernel
theorem dX7_stripsNow_92 : decode cX7_stripsNow 92 = .ok (.iconst 1, 1) := by decide +kernel
theorem dX7_stripsNow_93 : decode cX7_stripsNow 93 = .ok (.isub, 1) := by decide +kernel
theorem dX7_stripsNow_94 : decode cX7_stripsNow 94 = .ok (.invokestatic 152, 3) := by decide +kernel
theorem dX7_stripsNow_97 : decode cX7_stripsNow 97 = .ok (.ifCond .eq 6, 3) := by decide +kernel
theorem dX7_stripsNow_100 : decode cX7_stripsNow 100 = .ok (.goto 66, 3) := by decide +kernel
theorem dX7_stripsNow_103 : decode cX7_stripsNow 103 = .ok (.iload 5, 2) := by decide +kernel
theorem dX7_stripsNow_105 : decode cX7_stripsNow 105 = .ok (.istore 8, 2) := by decide +kernel
theorem dX7_stripsNow_107 : decode cX7_stripsNow 107 = .ok (.aload_n 2, 1) := by decide +kernel
theorem dX7_stripsNow_108 : decode cX7_stripsNow 108 = .ok (.iload 6, 2) := by decide +kernel
theorem dX7_stripsNow_110 : decode cX7_stripsNow 110 = .ok (.iload 7, 2) := by decide +kernel
theorem dX7_stripsNow_112 : decode cX7_stripsNow 112 = .ok (.iload 8, 2) := by decide +kernel
theorem dX7_stripsNow_114 : decode cX7_stripsNow 114 = .ok (.invokestatic 152, 3) := by decide +kernel
theorem dX7_stripsNow_117 : decode cX7_stripsNow 117 = .ok (.ifCond .eq 9, 3) := by decide +kernel
theorem dX7_stripsNow_120 : decode cX7_stripsNow 120 = .ok (.iinc 8 1, 3) := by decide +kernel
theorem dX7_stripsNow_123 : decode cX7_stripsNow 123 = .ok (.goto (-16), 3) := by decide +kernel
theorem dX7_stripsNow_126 : decode cX7_stripsNow 126 = .ok (.aload_n 3, 1) := by decide +kernel
theorem dX7_stripsNow_127 : decode cX7_stripsNow 127 = .ok (.iconst 0, 1) := by decide +kernel
theorem dX7_stripsNow_128 : decode cX7_stripsNow 128 = .ok (.dup2, 1) := by decide +kernel
theorem dX7_stripsNow_129 : decode cX7_stripsNow 129 = .ok (.iaload, 1) := by decide +kernel
theorem dX7_stripsNow_130 : decode cX7_stripsNow 130 = .ok (.iconst 1, 1) := by decide +kernel
theorem dX7_stripsNow_131 : decode cX7_stripsNow 131 = .ok (.iadd, 1) := by decide +kernel
theorem dX7_stripsNow_132 : decode cX7_stripsNow 132 = .ok (.iastore, 1) := by decide +kernel
theorem dX7_stripsNow_133 : decode cX7_stripsNow 133 = .ok (.aload_n 3, 1) := by decide +kernel
theorem dX7_stripsNow_134 : decode cX7_stripsNow 134 = .ok (.iload 4, 2) := by decide +kernel
theorem dX7_stripsNow_136 : decode cX7_stripsNow 136 = .ok (.iload 6, 2) := by decide +kernel
theorem dX7_stripsNow_138 : decode cX7_stripsNow 138 = .ok (.iload 5, 2) := by decide +kernel
theorem dX7_stripsNow_140 : decode cX7_stripsNow 140 = .ok (.invokestatic 124, 3) := by decide +kernel
theorem dX7_stripsNow_143 : decode cX7_stripsNow 143 = .ok (.astore_n 3, 1) := by decide +kernel
theorem dX7_stripsNow_144 : decode cX7_stripsNow 144 = .ok (.aload_n 3, 1) := by decide +kernel
theorem dX7_stripsNow_145 : decode cX7_stripsNow 145 = .ok (.iload 4, 2) := by decide +kernel
theorem dX7_stripsNow_147 : decode cX7_stripsNow 147 = .ok (.iconst 2, 1) := by decide +kernel
theorem dX7_stripsNow_148 : decode cX7_stripsNow 148 = .ok (.iadd, 1) := by decide +kernel
theorem dX7_stripsNow_149 : decode cX7_stripsNow 149 = .ok (.iload 7, 2) := by decide +kernel
theorem dX7_stripsNow_151 : decode cX7_stripsNow 151 = .ok (.iload 6, 2) := by decide +kernel
theorem dX7_stripsNow_153 : decode cX7_stripsNow 153 = .ok (.isub, 1) := by decide +kernel
theorem dX7_stripsNow_154 : decode cX7_stripsNow 154 = .ok (.iload 8, 2) := by decide +kernel
theorem dX7_stripsNow_156 : decode cX7_stripsNow 156 = .ok (.iload 5, 2) := by decide +kernel
theorem dX7_stripsNow_158 : decode cX7_stripsNow 158 = .ok (.isub, 1) := by decide +kernel
theorem dX7_stripsNow_159 : decode cX7_stripsNow 159 = .ok (.invokestatic 124, 3) := by decide +kernel
theorem dX7_stripsNow_162 : decode cX7_stripsNow 162 = .ok (.astore_n 3, 1) := by decide +kernel
theorem dX7_stripsNow_163 : decode cX7_stripsNow 163 = .ok (.iinc 4 4, 3) := by decide +kernel
theorem dX7_stripsNow_166 : decode cX7_stripsNow 166 = .ok (.iinc 6 1, 3) := by decide +kernel
theorem dX7_stripsNow_169 : decode cX7_stripsNow 169 = .ok (.goto (-139), 3) := by decide +kernel
theorem dX7_stripsNow_172 : decode cX7_stripsNow 172 = .ok (.iinc 5 1, 3) := by decide +kernel
theorem dX7_stripsNow_175 : decode cX7_stripsNow 175 = .ok (.goto (-156), 3) := by decide +kernel
theorem dX7_stripsNow_178 : decode cX7_stripsNow 178 = .ok (.aload_n 3, 1) := by decide +kernel
theorem dX7_stripsNow_179 : decode cX7_stripsNow 179 = .ok (.areturn, 1) := by decide +kernel
theorem dX7_strips_0 : decode cX7_strips 0 = .ok (.aload_n 0, 1) := by decide +kernel
theorem dX7_strips_1 : decode cX7_strips 1 = .ok (.iconst 0, 1) := by decide +kernel
theorem dX7_strips_2 : decode cX7_strips 2 = .ok (.putfield 33, 3) := by decide +kernel
theorem dX7_strips_5 : decode cX7_strips 5 = .ok (.iload_n 1, 1) := by decide +kernel
theorem dX7_strips_6 : decode cX7_strips 6 = .ok (.invokestatic 76, 3) := by decide +kernel
theorem dX7_strips_9 : decode cX7_strips 9 = .ok (.ifCond .eq 13, 3) := by decide +kernel
theorem dX7_strips_12 : decode cX7_strips 12 = .ok (.aload_n 0, 1) := by decide +kernel
theorem dX7_strips_13 : decode cX7_strips 13 = .ok (.iload_n 1, 1) := by decide +kernel
theorem dX7_strips_14 : decode cX7_strips 14 = .ok (.invokevirtual 155, 3) := by decide +kernel
theorem dX7_strips_17 : decode cX7_strips 17 = .ok (.iconst 0, 1) := by decide +kernel
theorem dX7_strips_18 : decode cX7_strips 18 = .ok (.iaload, 1) := by decide +kernel
theorem dX7_strips_19 : decode cX7_strips 19 = .ok (.goto 8, 3) := by decide +kernel
theorem dX7_strips_22 : decode cX7_strips 22 = .ok (.aload_n 0, 1) := by decide +kernel
theorem dX7_strips_23 : decode cX7_strips 23 = .ok (.iconst 1, 1) := by decide +kernel
theorem dX7_strips_24 : decode cX7_strips 24 = .ok (.invokevirtual 61, 3) := by decide +kernel
theorem dX7_strips_27 : decode cX7_strips 27 = .ok (.ireturn, 1) := by decide +kernel
theorem dX7_strip_0 : decode cX7_strip 0 = .ok (.aload_n 0, 1) := by decide +kernel
theorem dX7_strip_1 : decode cX7_strip 1 = .ok (.iconst 0, 1) := by decide +kernel
theorem dX7_strip_2 : decode cX7_strip 2 = .ok (.putfield 33, 3) := by decide +kernel
theorem dX7_strip_5 : decode cX7_strip 5 = .ok (.iload_n 1, 1) := by decide +kernel
theorem dX7_strip_6 : decode cX7_strip 6 = .ok (.invokestatic 76, 3) := by decide +kernel
theorem dX7_strip_9 : decode cX7_strip 9 = .ok (.ifCond .ne 9, 3) := by decide +kernel
theorem dX7_strip_12 : decode cX7_strip 12 = .ok (.aload_n 0, 1) := by decide +kernel
theorem dX7_strip_13 : decode cX7_strip 13 = .ok (.iconst 1, 1) := by decide +kernel
theorem dX7_strip_14 : decode cX7_strip 14 = .ok (.invokevirtual 61, 3) := by decide +kernel
theorem dX7_strip_17 : decode cX7_strip 17 = .ok (.ireturn, 1) := by decide +kernel
theorem dX7_strip_18 : decode cX7_strip 18 = .ok (.aload_n 0, 1) := by decide +kernel
theorem dX7_strip_19 : decode cX7_strip 19 = .ok (.iload_n 1, 1) := by decide +kernel
theorem dX7_strip_20 : decode cX7_strip 20 = .ok (.invokevirtual 155, 3) := by decide +kernel
theorem dX7_strip_23 : decode cX7_strip 23 = .ok (.astore 4, 2) := by decide +kernel
theorem dX7_strip_25 : decode cX7_strip 25 = .ok (.iload_n 2, 1) := by decide +kernel
theorem dX7_strip_26 : decode cX7_strip 26 = .ok (.iconst 0, 1) := by decide +kernel
theorem dX7_strip_27 : decode cX7_strip 27 = .ok (.aload 4, 2) := by decide +kernel
theorem dX7_strip_29 : decode cX7_strip 29 = .ok (.iconst 0, 1) := by decide +kernel
theorem dX7_strip_30 : decode cX7_strip 30 = .ok (.iaload, 1) := by decide +kernel
theorem dX7_strip_31 : decode cX7_strip 31 = .ok (.iconst 1, 1) := by decide +kernel
theorem dX7_strip_32 : decode cX7_strip 32 = .ok (.isub, 1) := by decide +kernel
theorem dX7_strip_33 : decode cX7_strip 33 = .ok (.invokestatic 36, 3) := by decide +kernel
theorem dX7_strip_36 : decode cX7_strip 36 = .ok (.ifCond .ne 9, 3) := by decide +kernel
theorem dX7_strip_39 : decode cX7_strip 39 = .ok (.aload_n 0, 1) := by decide +kernel
theorem dX7_strip_40 : decode cX7_strip 40 = .ok (.iconst 1, 1) := by decide +kernel
theorem dX7_strip_41 : decode cX7_strip 41 = .ok (.invokevirtual 61, 3) := by decide +kernel
theorem dX7_strip_44 : decode cX7_strip 44 = .ok (.ireturn, 1) := by decide +kernel
theorem dX7_strip_45 : decode cX7_strip 45 = .ok (.iload_n 3, 1) := by decide +kernel
theorem dX7_strip_46 : decode cX7_strip 46 = .ok (.iconst 0, 1) := by decide +kernel
theorem dX7_strip_47 : decode cX7_strip 47 = .ok (.iconst 3, 1) := by decide +kernel
theorem dX7_strip_48 : decode cX7_strip 48 = .ok (.invokestatic 36, 3) := by decide +kernel
theorem dX7_strip_51 : decode cX7_strip 51 = .ok (.ifCond .eq 16, 3) := by decide +kernel
theorem dX7_strip_54 : decode cX7_strip 54 = .ok (.aload 4, 2) := by decide +kernel
theorem dX7_strip_56 : decode cX7_strip 56 = .ok (.iconst 1, 1) := by decide +kernel
theorem dX7_strip_57 : decode cX7_strip 57 = .ok (.iconst 4, 1) := by decide +kernel
theorem dX7_strip_58 : decode cX7_strip 58 = .ok (.iload_n 2, 1) := by decide +kernel
theorem dX7_strip_59 : decode cX7_strip 59 = .ok (.imul, 1) := by decide +kernel
theorem dX7_strip_60 : decode cX7_strip 60 = .ok (.iadd, 1) := by decide +kernel
theorem dX7_strip_61 : decode cX7_strip 61 = .ok (.iload_n 3, 1) := by decide +kernel
theorem dX7_strip_62 : decode cX7_strip 62 = .ok (.iadd, 1) := by decide +kernel
theorem dX7_strip_63 : decode cX7_strip 63 = .ok (.iaload, 1) := by decide +kernel
theorem dX7_strip_64 : decode cX7_strip 64 = .ok (.goto 8, 3) := by decide +kernel
theorem dX7_strip_67 : decode cX7_strip 67 = .ok (.aload_n 0, 1) := by decide +kernel
theorem dX7_strip_68 : decode cX7_strip 68 = .ok (.iconst 2, 1) := by decide +kernel
theorem dX7_strip_69 : decode cX7_strip 69 = .ok (.invokevirtual 61, 3) := by decide +kernel
theorem dX7_strip_72 : decode cX7_strip 72 = .ok (.ireturn, 1) := by decide +kernel
theorem dX7_isOnLine_0 : decode cX7_isOnLine 0 = .ok (.iload_n 2, 1) := by decide +kernel
theorem dX7_isOnLine_1 : decode cX7_isOnLine 1 = .ok (.ifCond .ne 7, 3) := by decide +kernel
theorem dX7_isOnLine_4 : decode cX7_isOnLine 4 = .ok (.iload_n 1, 1) := by decide +kernel
theorem dX7_isOnLine_5 : decode cX7_isOnLine 5 = .ok (.goto 26, 3) := by decide +kernel
theorem dX7_isOnLine_8 : decode cX7_isOnLine 8 = .ok (.iload_n 2, 1) := by decide +kernel
theorem dX7_isOnLine_9 : decode cX7_isOnLine 9 = .ok (.iconst 1, 1) := by decide +kernel
theorem dX7_isOnLine_10 : decode cX7_isOnLine 10 = .ok (.if_icmp .ne 7, 3) := by decide +kernel
theorem dX7_isOnLine_13 : decode cX7_isOnLine 13 = .ok (.iload_n 0, 1) := by decide +kernel
theorem dX7_isOnLine_14 : decode cX7_isOnLine 14 = .ok (.goto 17, 3) := by decide +kernel
theorem dX7_isOnLine_17 : decode cX7_isOnLine 17 = .ok (.iload_n 2, 1) := by decide +kernel
theorem dX7_isOnLine_18 : decode cX7_isOnLine 18 = .ok (.iconst 2, 1) := by decide +kernel
theorem dX7_isOnLine_19 : decode cX7_isOnLine 19 = .ok (.if_icmp .ne 9, 3) := by decide +kernel
theorem dX7_isOnLine_22 : decode cX7_isOnLine 22 = .ok (.iload_n 0, 1) := by decide +kernel
theorem dX7_isOnLine_23 : decode cX7_isOnLine 23 = .ok (.iload_n 1, 1) := by decide +kernel
theorem dX7_isOnLine_24 : decode cX7_isOnLine 24 = .ok (.iadd, 1) := by decide +kernel
theorem dX7_isOnLine_25 : decode cX7_isOnLine 25 = .ok (.goto 6, 3) := by decide +kernel
theorem dX7_isOnLine_28 : decode cX7_isOnLine 28 = .ok (.iload_n 0, 1) := by decide +kernel
theorem dX7_isOnLine_29 : decode cX7_isOnLine 29 = .ok (.iload_n 1, 1) := by decide +kernel
theorem dX7_isOnLine_30 : decode cX7_isOnLine 30 = .ok (.isub, 1) := by decide +kernel
theorem dX7_isOnLine_31 : decode cX7_isOnLine 31 = .ok (.istore 5, 2) := by decide +kernel
theorem dX7_isOnLine_33 : decode cX7_isOnLine 33 = .ok (.iload 5, 2) := by decide +kernel
theorem dX7_isOnLine_35 : decode cX7_isOnLine 35 = .ok (.iload 4, 2) := by decide +kernel
theorem dX7_isOnLine_37 : decode cX7_isOnLine 37 = .ok (.isub, 1) := by decide +kernel
theorem dX7_isOnLine_38 : decode cX7_isOnLine 38 = .ok (.iload_n 3, 1) := by decide +kernel
theorem dX7_isOnLine_39 : decode cX7_isOnLine 39 = .ok (.irem, 1) := by decide +kernel
theorem dX7_isOnLine_40 : decode cX7_isOnLine 40 = .ok (.ifCond .ne 7, 3) := by decide +kernel
theorem dX7_isOnLine_43 : decode cX7_isOnLine 43 = .ok (.iconst 1, 1) := by decide +kernel
theorem dX7_isOnLine_44 : decode cX7_isOnLine 44 = .ok (.goto 4, 3) := by decide +kernel
theorem dX7_isOnLine_47 : decode cX7_isOnLine 47 = .ok (.iconst 0, 1) := by decide +kernel
theorem dX7_isOnLine_48 : decode cX7_isOnLine 48 = .ok (.ireturn, 1) := by decide +kernel
theorem dX7_hatching_0 : decode cX7_hatching 0 = .ok (.aload_n 0, 1) := by decide +kernel
theorem dX7_hatching_1 : decode cX7_hatching 1 = .ok (.iconst 0, 1) := by decide +kernel
theorem dX7_hatching_2 : decode cX7_hatching 2 = .ok (.putfield 33, 3) := by decide +kernel
theorem dX7_hatching_5 : decode cX7_hatching 5 = .ok (.iload_n 1, 1) := by decide +kernel
theorem dX7_hatching_6 : decode cX7_hatching 6 = .ok (.invokestatic 76, 3) := by decide +kernel
theorem dX7_hatching_9 : decode cX7_hatching 9 = .ok (.ifCond .ne 9, 3) := by decide +kernel
theorem dX7_hatching_12 : decode cX7_hatching 12 = .ok (.aload_n 0, 1) := by decide +kernel
theorem dX7_hatching_13 : decode cX7_hatching 13 = .ok (.iconst 1, 1) := by decide +kernel
theorem dX7_hatching_14 : decode cX7_hatching 14 = .ok (.invokevirtual 61, 3) := by decide +kernel
theorem dX7_hatching_17 : decode cX7_hatching 17 = .ok (.ireturn, 1) := by decide +kernel
theorem dX7_hatching_18 : decode cX7_hatching 18 = .ok (.iload_n 2, 1) := by decide +kernel
theorem dX7_hatching_19 : decode cX7_hatching 19 = .ok (.iconst 0, 1) := by decide +kernel
theorem dX7_hatching_20 : decode cX7_hatching 20 = .ok (.iconst 3, 1) := by decide +kernel
theorem dX7_hatching_21 : decode cX7_hatching 21 = .ok (.invokestatic 36, 3) := by decide +kernel
theorem dX7_hatching_24 : decode cX7_hatching 24 = .ok (.ifCond .eq 25, 3) := by decide +kernel
theorem dX7_hatching_27 : decode cX7_hatching 27 = .ok (.iload_n 3, 1) := by decide +kernel
theorem dX7_hatching_28 : decode cX7_hatching 28 = .ok (.iconst 1, 1) := by decide +kernel
theorem dX7_hatching_29 : decode cX7_hatching 29 = .ok (.bipush 20, 2) := by decide +kernel
theorem dX7_hatching_31 : decode cX7_hatching 31 = .ok (.invokestatic 36, 3) := by decide +kernel
theorem dX7_hatching_34 : decode cX7_hatching 34 = .ok (.ifCond .eq 15, 3) := by decide +kernel
theorem dX7_hatching_37 : decode cX7_hatching 37 = .ok (.iload 4, 2) := by decide +kernel
theorem dX7_hatching_39 : decode cX7_hatching 39 = .ok (.bipush (-100), 2) := by decide +kernel
theorem dX7_hatching_41 : decode cX7_hatching 41 = .ok (.bipush 100, 2) := by decide +kernel
theorem dX7_hatching_43 : decode cX7_hatching 43 = .ok (.invokestatic 36, 3) := by decide +kernel
theorem dX7_hatching_46 : decode cX7_hatching 46 = .ok (.ifCond .ne 9, 3) := by decide +kernel
theorem dX7_hatching_49 : decode cX7_hatching 49 = .ok (.aload_n 0, 1) := by decide +kernel
theorem dX7_hatching_50 : decode cX7_hatching 50 = .ok (.iconst 2, 1) := by decide +kernel
theorem dX7_hatching_51 : decode cX7_hatching 51 = .ok (.invokevirtual 61, 3) := by decide +kernel
theorem dX7_hatching_54 : decode cX7_hatching 54 = .ok (.ireturn, 1) := by decide +kernel
theorem dX7_hatching_55 : decode cX7_hatching 55 = .ok (.iconst 0, 1) := by decide +kernel
theorem dX7_hatching_56 : decode cX7_hatching 56 = .ok (.istore 6, 2) := by decide +kernel
theorem dX7_hatching_58 : decode cX7_hatching 58 = .ok (.bipush (-32), 2) := by decide +kernel
theorem dX7_hatching_60 : decode cX7_hatching 60 = .ok (.istore 7, 2) := by decide +kernel
theorem dX7_hatching_62 : decode cX7_hatching 62 = .ok (.iload 7, 2) := by decide +kernel
theorem dX7_hatching_64 : decode cX7_hatching 64 = .ok (.bipush 31, 2) := by decide +kernel
theorem dX7_hatching_66 : decode cX7_hatching 66 = .ok (.if_icmp .gt 134, 3) := by decide +kernel
theorem dX7_hatching_69 : decode cX7_hatching 69 = .ok (.bipush (-32), 2) := by decide +kernel
theorem dX7_hatching_71 : decode cX7_hatching 71 = .ok (.istore 8, 2) := by decide +kernel
theorem dX7_hatching_73 : decode cX7_hatching 73 = .ok (.iload 8, 2) := by decide +kernel
theorem dX7_hatching_75 : decode cX7_hatching 75 = .ok (.bipush 31, 2) := by decide +kernel
theorem dX7_hatching_77 : decode cX7_hatching 77 = .ok (.if_icmp .gt 117, 3) := by decide +kernel
theorem dX7_hatching_80 : decode cX7_hatching 80 = .ok (.aload_n 0, 1) := by decide +kernel
theorem dX7_hatching_81 : decode cX7_hatching 81 = .ok (.getfield 11, 3) := by decide +kernel
theorem dX7_hatching_84 : decode cX7_hatching 84 = .ok (.iload_n 1, 1) := by decide +kernel
theorem dX7_hatching_85 : decode cX7_hatching 85 = .ok (.aaload, 1) := by decide +kernel
theorem dX7_hatching_86 : decode cX7_hatching 86 = .ok (.iload 7, 2) := by decide +kernel
theorem dX7_hatching_88 : decode cX7_hatching 88 = .ok (.iload 8, 2) := by decide +kernel
theorem dX7_hatching_90 : decode cX7_hatching 90 = .ok (.invokestatic 44, 3) := by decide +kernel
theorem dX7_hatching_93 : decode cX7_hatching 93 = .ok (.baload, 1) := by decide +kernel
theorem dX7_hatching_94 : decode cX7_hatching 94 = .ok (.ifCond .eq 94, 3) := by decide +kernel
theorem dX7_hatching_97 : decode cX7_hatching 97 = .ok (.iload 7, 2) := by decide +kernel
theorem dX7_hatching_99 : decode cX7_hatching 99 = .ok (.iload 8, 2) := by decide +kernel
theorem dX7_hatching_101 : decode cX7_hatching 101 = .ok (.iload_n 2, 1) := by decide +kernel
theorem dX7_hatching_102 : decode cX7_hatching 102 = .ok (.iload_n 3, 1) := by decide +kernel
theorem dX7_hatching_103 : decode cX7_hatching 103 = .ok (.iload 4, 2) := by decide +kernel
theorem dX7_hatching_105 : decode cX7_hatching 105 = .ok (.invokestatic 158, 3) := by decide +kernel
theorem dX7_hatching_108 : decode cX7_hatching 108 = .ok (.ifCond .ne 6, 3) := by decide +kernel
theorem dX7_hatching_111 : decode cX7_hatching 111 = .ok (.goto 77, 3) := by decide +kernel
theorem dX7_hatching_114 : decode cX7_hatching 114 = .ok (.iload_n 2, 1) := by decide +kernel
theorem dX7_hatching_115 : decode cX7_hatching 115 = .ok (.iconst 1, 1) := by decide +kernel
theorem dX7_hatching_116 : decode cX7_hatching 116 = .ok (.if_icmp .ne 8, 3) := by decide +kernel
theorem dX7_hatching_119 : decode cX7_hatching 119 = .ok (.iload 7, 2) := by decide +kernel
theorem dX7_hatching_121 : decode cX7_hatching 121 = .ok (.goto 7, 3) := by decide +kernel
theorem dX7_hatching_124 : decode cX7_hatching 124 = .ok (.iload 7, 2) := by decide +kernel
theorem dX7_hatching_126 : decode cX7_hatching 126 = .ok (.iconst 1, 1) := by decide +kernel
theorem dX7_hatching_127 : decode cX7_hatching 127 = .ok (.isub, 1) := by decide +kernel
theorem dX7_hatching_128 : decode cX7_hatching 128 = .ok (.istore 9, 2) := by decide +kernel
theorem dX7_hatching_130 : decode cX7_hatching 130 = .ok (.iload_n 2, 1) := by decide +kernel
theorem dX7_hatching_131 : decode cX7_hatching 131 = .ok (.ifCond .ne 8, 3) := by decide +kernel
theorem dX7_hatching_134 : decode cX7_hatching 134 = .ok (.iload 8, 2) := by decide +kernel
theorem dX7_hatching_136 : decode cX7_hatching 136 = .ok (.goto 19, 3) := by decide +kernel
theorem dX7_hatching_139 : decode cX7_hatching 139 = .ok (.iload_n 2, 1) := by decide +kernel
theorem dX7_hatching_140 : decode cX7_hatching 140 = .ok (.iconst 2, 1) := by decide +kernel
theorem dX7_hatching_141 : decode cX7_hatching 141 = .ok (.if_icmp .ne 10, 3) := by decide +kernel
theorem dX7_hatching_144 : decode cX7_hatching 144 = .ok (.iload 8, 2) := by decide +kernel
theorem dX7_hatching_146 : decode cX7_hatching 146 = .ok (.iconst 1, 1) := by decide +kernel
theorem dX7_hatching_147 : decode cX7_hatching 147 = .ok (.iadd, 1) := by decide +kernel
theorem dX7_hatching_148 : decode cX7_hatching 148 = .ok (.goto 7, 3) := by decide +kernel
theorem dX7_hatching_151 : decode cX7_hatching 151 = .ok (.iload 8, 2) := by decide +kernel
theorem dX7_hatching_153 : decode cX7_hatching 153 = .ok (.iconst 1, 1) := by decide +kernel
theorem dX7_hatching_154 : decode cX7_hatching 154 = .ok (.isub, 1) := by decide +kernel
theorem dX7_hatching_155 : decode cX7_hatching 155 = .ok (.istore 10, 2) := by decide +kernel
theorem dX7_hatching_157 : decode cX7_hatching 157 = .ok (.iload 6, 2) := by decide +kernel
theorem dX7_hatching_159 : decode cX7_hatching 159 = .ok (.iload 5, 2) := by decide +kernel
theorem dX7_hatching_161 : decode cX7_hatching 161 = .ok (.ifCond .eq 23, 3) := by decide +kernel
theorem dX7_hatching_164 : decode cX7_hatching 164 = .ok (.aload_n 0, 1) := by decide +kernel
theorem dX7_hatching_165 : decode cX7_hatching 165 = .ok (.getfield 11, 3) := by decide +kernel
theorem dX7_hatching_168 : decode cX7_hatching 168 = .ok (.iload_n 1, 1) := by decide +kernel
theorem dX7_hatching_169 : decode cX7_hatching 169 = .ok (.aaload, 1) := by decide +kernel
theorem dX7_hatching_170 : decode cX7_hatching 170 = .ok (.iload 9, 2) := by decide +kernel
theorem dX7_hatching_172 : decode cX7_hatching 172 = .ok (.iload 10, 2) := by decide +kernel
theorem dX7_hatching_174 : decode cX7_hatching 174 = .ok (.invokestatic 95, 3) := by decide +kernel
theorem dX7_hatching_177 : decode cX7_hatching 177 = .ok (.ifCond .eq 7, 3) := by decide +kernel
theorem dX7_hatching_180 : decode cX7_hatching 180 = .ok (.iconst 0, 1) := by decide +kernel
theorem dX7_hatching_181 : decode cX7_hatching 181 = .ok (.goto 4, 3) := by decide +kernel
theorem dX7_hatching_184 : decode cX7_hatching 184 = .ok (.iconst 1, 1) := by decide +kernel
theorem dX7_hatching_185 : decode cX7_hatching 185 = .ok (.iadd, 1) := by decide +kernel
theorem dX7_hatching_186 : decode cX7_hatching 186 = .ok (.istore 6, 2) := by decide +kernel
theorem dX7_hatching_188 : decode cX7_hatching 188 = .ok (.iinc 8 1, 3) := by decide +kernel
theorem dX7_hatching_191 : decode cX7_hatching 191 = .ok (.goto (-118), 3) := by decide +kernel
theorem dX7_hatching_194 : decode cX7_hatching 194 = .ok (.iinc 7 1, 3) := by decide +kernel
theorem dX7_hatching_197 : decode cX7_hatching 197 = .ok (.goto (-135), 3) := by decide +kernel
theorem dX7_hatching_200 : decode cX7_hatching 200 = .ok (.iload 6, 2) := by decide +kernel
theorem dX7_hatching_202 : decode cX7_hatching 202 = .ok (.ireturn, 1) := by decide +kernel
theorem dX7_hatch_0 : decode cX7_hatch 0 = .ok (.aload_n 0, 1) := by decide +kernel
theorem dX7_hatch_1 : decode cX7_hatch 1 = .ok (.iload_n 1, 1) := by decide +kernel
theorem dX7_hatch_2 : decode cX7_hatch 2 = .ok (.iload_n 2, 1) := by decide +kernel
theorem dX7_hatch_3 : decode cX7_hatch 3 = .ok (.iload_n 3, 1) := by decide +kernel
theorem dX7_hatch_4 : decode cX7_hatch 4 = .ok (.iload 4, 2) := by decide +kernel
theorem dX7_hatch_6 : decode cX7_hatch 6 = .ok (.iconst 1, 1) := by decide +kernel
theorem dX7_hatch_7 : decode cX7_hatch 7 = .ok (.invokevirtual 162, 3) := by decide +kernel
theorem dX7_hatch_10 : decode cX7_hatch 10 = .ok (.ireturn, 1) := by decide +kernel
theorem dX7_hatched_0 : decode cX7_hatched 0 = .ok (.aload_n 0, 1) := by decide +kernel
theorem dX7_hatched_1 : decode cX7_hatched 1 = .ok (.iload_n 1, 1) := by decide +kernel
theorem dX7_hatched_2 : decode cX7_hatched 2 = .ok (.iload_n 2, 1) := by decide +kernel
theorem dX7_hatched_3 : decode cX7_hatched 3 = .ok (.iload_n 3, 1) := by decide +kernel
theorem dX7_hatched_4 : decode cX7_hatched 4 = .ok (.iload 4, 2) := by decide +kernel
theorem dX7_hatched_6 : decode cX7_hatched 6 = .ok (.iconst 0, 1) := by decide +kernel
theorem dX7_hatched_7 : decode cX7_hatched 7 = .ok (.invokevirtual 162, 3) := by decide +kernel
theorem dX7_hatched_10 : decode cX7_hatched 10 = .ok (.ireturn, 1) := by decide +kernel
theorem dX7_apart_0 : decode cX7_apart 0 = .ok (.aload_n 0, 1) := by decide +kernel
theorem dX7_apart_1 : decode cX7_apart 1 = .ok (.iconst 0, 1) := by decide +kernel
theorem dX7_apart_2 : decode cX7_apart 2 = .ok (.putfield 33, 3) := by decide +kernel
theorem dX7_apart_5 : decode cX7_apart 5 = .ok (.iload_n 1, 1) := by decide +kernel
theorem dX7_apart_6 : decode cX7_apart 6 = .ok (.invokestatic 76, 3) := by decide +kernel
theorem dX7_apart_9 : decode cX7_apart 9 = .ok (.ifCond .eq 10, 3) := by decide +kernel
theorem dX7_apart_12 : decode cX7_apart 12 = .ok (.iload_n 2, 1) := by decide +kernel
theorem dX7_apart_13 : decode cX7_apart 13 = .ok (.invokestatic 76, 3) := by decide +kernel
theorem dX7_apart_16 : decode cX7_apart 16 = .ok (.ifCond .ne 9, 3) := by decide +kernel
theorem dX7_apart_19 : decode cX7_apart 19 = .ok (.aload_n 0, 1) := by decide +kernel
theorem dX7_apart_20 : decode cX7_apart 20 = .ok (.iconst 1, 1) := by decide +kernel
theorem dX7_apart_21 : decode cX7_apart 21 = .ok (.invokevirtual 61, 3) := by decide +kernel
theorem dX7_apart_24 : decode cX7_apart 24 = .ok (.ireturn, 1) := by decide +kernel
theorem dX7_apart_25 : decode cX7_apart 25 = .ok (.aload_n 0, 1) := by decide +kernel
theorem dX7_apart_26 : decode cX7_apart 26 = .ok (.getfield 11, 3) := by decide +kernel
theorem dX7_apart_29 : decode cX7_apart 29 = .ok (.iload_n 1, 1) := by decide +kernel
theorem dX7_apart_30 : decode cX7_apart 30 = .ok (.aaload, 1) := by decide +kernel
theorem dX7_apart_31 : decode cX7_apart 31 = .ok (.invokestatic 57, 3) := by decide +kernel
theorem dX7_apart_34 : decode cX7_apart 34 = .ok (.ifCond .eq 15, 3) := by decide +kernel
theorem dX7_apart_37 : decode cX7_apart 37 = .ok (.aload_n 0, 1) := by decide +kernel
theorem dX7_apart_38 : decode cX7_apart 38 = .ok (.getfield 11, 3) := by decide +kernel
theorem dX7_apart_41 : decode cX7_apart 41 = .ok (.iload_n 2, 1) := by decide +kernel
theorem dX7_apart_42 : decode cX7_apart 42 = .ok (.aaload, 1) := by decide +kernel
theorem dX7_apart_43 : decode cX7_apart 43 = .ok (.invokestatic 57, 3) := by decide +kernel
theorem dX7_apart_46 : decode cX7_apart 46 = .ok (.ifCond .ne 5, 3) := by decide +kernel
theorem dX7_apart_49 : decode cX7_apart 49 = .ok (.iconst (-1), 1) := by decide +kernel
theorem dX7_apart_50 : decode cX7_apart 50 = .ok (.ireturn, 1) := by decide +kernel
theorem dX7_apart_51 : decode cX7_apart 51 = .ok (.aload_n 0, 1) := by decide +kernel
theorem dX7_apart_52 : decode cX7_apart 52 = .ok (.getfield 11, 3) := by decide +kernel
theorem dX7_apart_55 : decode cX7_apart 55 = .ok (.iload_n 1, 1) := by decide +kernel
theorem dX7_apart_56 : decode cX7_apart 56 = .ok (.aaload, 1) := by decide +kernel
theorem dX7_apart_57 : decode cX7_apart 57 = .ok (.astore_n 3, 1) := by decide +kernel
theorem dX7_apart_58 : decode cX7_apart 58 = .ok (.iconst 0, 1) := by decide +kernel
theorem dX7_apart_59 : decode cX7_apart 59 = .ok (.istore 4, 2) := by decide +kernel
theorem dX7_apart_61 : decode cX7_apart 61 = .ok (.iconst 0, 1) := by decide +kernel
theorem dX7_apart_62 : decode cX7_apart 62 = .ok (.istore 5, 2) := by decide +kernel
theorem dX7_apart_64 : decode cX7_apart 64 = .ok (.iload 5, 2) := by decide +kernel
theorem dX7_apart_66 : decode cX7_apart 66 = .ok (.sipush 4096, 3) := by decide +kernel
theorem dX7_apart_69 : decode cX7_apart 69 = .ok (.if_icmp .ge 31, 3) := by decide +kernel
theorem dX7_apart_72 : decode cX7_apart 72 = .ok (.aload_n 3, 1) := by decide +kernel
theorem dX7_apart_73 : decode cX7_apart 73 = .ok (.iload 5, 2) := by decide +kernel
theorem dX7_apart_75 : decode cX7_apart 75 = .ok (.baload, 1) := by decide +kernel
theorem dX7_apart_76 : decode cX7_apart 76 = .ok (.ifCond .eq 18, 3) := by decide +kernel
theorem dX7_apart_79 : decode cX7_apart 79 = .ok (.aload_n 0, 1) := by decide +kernel
theorem dX7_apart_80 : decode cX7_apart 80 = .ok (.getfield 11, 3) := by decide +kernel
theorem dX7_apart_83 : decode cX7_apart 83 = .ok (.iload_n 2, 1) := by decide +kernel
theorem dX7_apart_84 : decode cX7_apart 84 = .ok (.aaload, 1) := by decide +kernel
theorem dX7_apart_85 : decode cX7_apart 85 = .ok (.iload 5, 2) := by decide +kernel
theorem dX7_apart_87 : decode cX7_apart 87 = .ok (.baload, 1) := by decide +kernel
theorem dX7_apart_88 : decode cX7_apart 88 = .ok (.ifCond .eq 6, 3) := by decide +kernel
theorem dX7_apart_91 : decode cX7_apart 91 = .ok (.iload 4, 2) := by decide +kernel
theorem dX7_apart_93 : decode cX7_apart 93 = .ok (.ireturn, 1) := by decide +kernel
theorem dX7_apart_94 : decode cX7_apart 94 = .ok (.iinc 5 1, 3) := by decide +kernel
theorem dX7_apart_97 : decode cX7_apart 97 = .ok (.goto (-33), 3) := by decide +kernel
theorem dX7_apart_100 : decode cX7_apart 100 = .ok (.sipush 4096, 3) := by decide +kernel
theorem dX7_apart_103 : decode cX7_apart 103 = .ok (.newarray .boolean, 2) := by decide +kernel
theorem dX7_apart_105 : decode cX7_apart 105 = .ok (.astore 5, 2) := by decide +kernel
theorem dX7_apart_107 : decode cX7_apart 107 = .ok (.bipush (-32), 2) := by decide +kernel
theorem dX7_apart_109 : decode cX7_apart 109 = .ok (.istore 6, 2) := by decide +kernel
theorem dX7_apart_111 : decode cX7_apart 111 = .ok (.iload 6, 2) := by decide +kernel
theorem dX7_apart_113 : decode cX7_apart 113 = .ok (.bipush 31, 2) := by decide +kernel
theorem dX7_apart_115 : decode cX7_apart 115 = .ok (.if_icmp .gt 106, 3) := by decide +kernel
theorem dX7_apart_118 : decode cX7_apart 118 = .ok (.bipush (-32), 2) := by decide +kernel
theorem dX7_apart_120 : decode cX7_apart 120 = .ok (.istore 7, 2) := by decide +kernel
theorem dX7_apart_122 : decode cX7_apart 122 = .ok (.iload 7, 2) := by decide +kernel
theorem dX7_apart_124 : decode cX7_apart 124 = .ok (.bipush 31, 2) := by decide +kernel
theorem dX7_apart_126 : decode cX7_apart 126 = .ok (.if_icmp .gt 89, 3) := by decide +kernel
theorem dX7_apart_129 : decode cX7_apart 129 = .ok (.aload_n 3, 1) := by decide +kernel
theorem dX7_apart_130 : decode cX7_apart 130 = .ok (.iload 6, 2) := by decide +kernel
theorem dX7_apart_132 : decode cX7_apart 132 = .ok (.iload 7, 2) := by decide +kernel
theorem dX7_apart_134 : decode cX7_apart 134 = .ok (.invokestatic 44, 3) := by decide +kernel
theorem dX7_apart_137 : decode cX7_apart 137 = .ok (.baload, 1) := by decide +kernel
theorem dX7_apart_138 : decode cX7_apart 138 = .ok (.ifCond .ne 6, 3) := by decide +kernel
theorem dX7_apart_141 : decode cX7_apart 141 = .ok (.goto 68, 3) := by decide +kernel
theorem dX7_apart_144 : decode cX7_apart 144 = .ok (.iconst 0, 1) := by decide +kernel
theorem dX7_apart_145 : decode cX7_apart 145 = .ok (.istore 8, 2) := by decide +kernel
theorem dX7_apart_147 : decode cX7_apart 147 = .ok (.iload 8, 2) := by decide +kernel
theorem dX7_apart_149 : decode cX7_apart 149 = .ok (.bipush 9, 2) := by decide +kernel
theorem dX7_apart_151 : decode cX7_apart 151 = .ok (.if_icmp .ge 58, 3) := by decide +kernel
theorem dX7_apart_154 : decode cX7_apart 154 = .ok (.iload 6, 2) := by decide +kernel
theorem dX7_apart_156 : decode cX7_apart 156 = .ok (.iload 8, 2) := by decide +kernel
theorem dX7_apart_158 : decode cX7_apart 158 = .ok (.iconst 3, 1) := by decide +kernel
theorem dX7_apart_159 : decode cX7_apart 159 = .ok (.irem, 1) := by decide +kernel
theorem dX7_apart_160 : decode cX7_apart 160 = .ok (.iadd, 1) := by decide +kernel
theorem dX7_apart_161 : decode cX7_apart 161 = .ok (.iconst 1, 1) := by decide +kernel
theorem dX7_apart_162 : decode cX7_apart 162 = .ok (.isub, 1) := by decide +kernel
theorem dX7_apart_163 : decode cX7_apart 163 = .ok (.iload 7, 2) := by decide +kernel
theorem dX7_apart_165 : decode cX7_apart 165 = .ok (.iload 8, 2) := by decide +kernel
theorem dX7_apart_167 : decode cX7_apart 167 = .ok (.iconst 3, 1) := by decide +kernel
theorem dX7_apart_168 : decode cX7_apart 168 = .ok (.idiv, 1) := by decide +kernel
theorem dX7_apart_169 : decode cX7_apart 169 = .ok (.iadd, 1) := by decide +kernel
theorem dX7_apart_170 : decode cX7_apart 170 = .ok (.iconst 1, 1) := by decide +kernel
theorem dX7_apart_171 : decode cX7_apart 171 = .ok (.isub, 1) := by decide +kernel
theorem dX7_apart_172 : decode cX7_apart 172 = .ok (.invokestatic 40, 3) := by decide +kernel
theorem dX7_apart_175 : decode cX7_apart 175 = .ok (.ifCond .eq 28, 3) := by decide +kernel
theorem dX7_apart_178 : decode cX7_apart 178 = .ok (.aload 5, 2) := by decide +kernel
theorem dX7_apart_180 : decode cX7_apart 180 = .ok (.iload 6, 2) := by decide +kernel
theorem dX7_apart_182 : decode cX7_apart 182 = .ok (.iload 8, 2) := by decide +kernel
theorem dX7_apart_184 : decode cX7_apart 184 = .ok (.iconst 3, 1) := by decide +kernel
theorem dX7_apart_185 : decode cX7_apart 185 = .ok (.irem, 1) := by decide +kernel
theorem dX7_apart_186 : decode cX7_apart 186 = .ok (.iadd, 1) := by decide +kernel
theorem dX7_apart_187 : decode cX7_apart 187 = .ok (.iconst 1, 1) := by decide +kernel
theorem dX7_apart_188 : decode cX7_apart 188 = .ok (.isub, 1) := by decide +kernel
theorem dX7_apart_189 : decode cX7_apart 189 = .ok (.iload 7, 2) := by decide +kernel
theorem dX7_apart_191 : decode cX7_apart 191 = .ok (.iload 8, 2) := by decide +kernel
theorem dX7_apart_193 : decode cX7_apart 193 = .ok (.iconst 3, 1) := by decide +kernel
theorem dX7_apart_194 : decode cX7_apart 194 = .ok (.idiv, 1) := by decide +kernel
theorem dX7_apart_195 : decode cX7_apart 195 = .ok (.iadd, 1) := by decide +kernel
theorem dX7_apart_196 : decode cX7_apart 196 = .ok (.iconst 1, 1) := by decide +kernel
theorem dX7_apart_197 : decode cX7_apart 197 = .ok (.isub, 1) := by decide +kernel
theorem dX7_apart_198 : decode cX7_apart 198 = .ok (.invokestatic 44, 3) := by decide +kernel
theorem dX7_apart_201 : decode cX7_apart 201 = .ok (.iconst 1, 1) := by decide +kernel
theorem dX7_apart_202 : decode cX7_apart 202 = .ok (.bastore, 1) := by decide +kernel
theorem dX7_apart_203 : decode cX7_apart 203 = .ok (.iinc 8 1, 3) := by decide +kernel
theorem dX7_apart_206 : decode cX7_apart 206 = .ok (.goto (-59), 3) := by decide +kernel
theorem dX7_apart_209 : decode cX7_apart 209 = .ok (.iinc 7 1, 3) := by decide +kernel
theorem dX7_apart_212 : decode cX7_apart 212 = .ok (.goto (-90), 3) := by decide +kernel
theorem dX7_apart_215 : decode cX7_apart 215 = .ok (.iinc 6 1, 3) := by decide +kernel
theorem dX7_apart_218 : decode cX7_apart 218 = .ok (.goto (-107), 3) := by decide +kernel
theorem dX7_apart_221 : decode cX7_apart 221 = .ok (.aload 5, 2) := by decide +kernel
theorem dX7_apart_223 : decode cX7_apart 223 = .ok (.astore_n 3, 1) := by decide +kernel
theorem dX7_apart_224 : decode cX7_apart 224 = .ok (.iinc 4 1, 3) := by decide +kernel
theorem dX7_apart_227 : decode cX7_apart 227 = .ok (.goto (-166), 3) := by decide +kernel
theorem dX7_isSameForm_0 : decode cX7_isSameForm 0 = .ok (.aload_n 0, 1) := by decide +kernel
theorem dX7_isSameForm_1 : decode cX7_isSameForm 1 = .ok (.iload_n 1, 1) := by decide +kernel
theorem dX7_isSameForm_2 : decode cX7_isSameForm 2 = .ok (.invokestatic 76, 3) := by decide +kernel
theorem dX7_isSameForm_5 : decode cX7_isSameForm 5 = .ok (.ifCond .eq 14, 3) := by decide +kernel
theorem dX7_isSameForm_8 : decode cX7_isSameForm 8 = .ok (.iload_n 2, 1) := by decide +kernel
theorem dX7_isSameForm_9 : decode cX7_isSameForm 9 = .ok (.invokestatic 76, 3) := by decide +kernel
theorem dX7_isSameForm_12 : decode cX7_isSameForm 12 = .ok (.ifCond .eq 7, 3) := by decide +kernel
theorem dX7_isSameForm_15 : decode cX7_isSameForm 15 = .ok (.iconst 0, 1) := by decide +kernel
theorem dX7_isSameForm_16 : decode cX7_isSameForm 16 = .ok (.goto 4, 3) := by decide +kernel
theorem dX7_isSameForm_19 : decode cX7_isSameForm 19 = .ok (.iconst 1, 1) := by decide +kernel
theorem dX7_isSameForm_20 : decode cX7_isSameForm 20 = .ok (.putfield 33, 3) := by decide +kernel
theorem dX7_isSameForm_23 : decode cX7_isSameForm 23 = .ok (.aload_n 0, 1) := by decide +kernel
theorem dX7_isSameForm_24 : decode cX7_isSameForm 24 = .ok (.getfield 33, 3) := by decide +kernel
theorem dX7_isSameForm_27 : decode cX7_isSameForm 27 = .ok (.ifCond .eq 5, 3) := by decide +kernel
theorem dX7_isSameForm_30 : decode cX7_isSameForm 30 = .ok (.iconst 0, 1) := by decide +kernel
theorem dX7_isSameForm_31 : decode cX7_isSameForm 31 = .ok (.ireturn, 1) := by decide +kernel
theorem dX7_isSameForm_32 : decode cX7_isSameForm 32 = .ok (.aload_n 0, 1) := by decide +kernel
theorem dX7_isSameForm_33 : decode cX7_isSameForm 33 = .ok (.iload_n 2, 1) := by decide +kernel
theorem dX7_isSameForm_34 : decode cX7_isSameForm 34 = .ok (.iconst 0, 1) := by decide +kernel
theorem dX7_isSameForm_35 : decode cX7_isSameForm 35 = .ok (.invokevirtual 117, 3) := by decide +kernel
theorem dX7_isSameForm_38 : decode cX7_isSameForm 38 = .ok (.aload_n 0, 1) := by decide +kernel
theorem dX7_isSameForm_39 : decode cX7_isSameForm 39 = .ok (.iload_n 1, 1) := by decide +kernel
theorem dX7_isSameForm_40 : decode cX7_isSameForm 40 = .ok (.iconst 0, 1) := by decide +kernel
theorem dX7_isSameForm_41 : decode cX7_isSameForm 41 = .ok (.invokevirtual 117, 3) := by decide +kernel
theorem dX7_isSameForm_44 : decode cX7_isSameForm 44 = .ok (.isub, 1) := by decide +kernel
theorem dX7_isSameForm_45 : decode cX7_isSameForm 45 = .ok (.istore_n 3, 1) := by decide +kernel
theorem dX7_isSameForm_46 : decode cX7_isSameForm 46 = .ok (.aload_n 0, 1) := by decide +kernel
theorem dX7_isSameForm_47 : decode cX7_isSameForm 47 = .ok (.iload_n 2, 1) := by decide +kernel
theorem dX7_isSameForm_48 : decode cX7_isSameForm 48 = .ok (.iconst 1, 1) := by decide +kernel
theorem dX7_isSameForm_49 : decode cX7_isSameForm 49 = .ok (.invokevirtual 117, 3) := by decide +kernel
theorem dX7_isSameForm_52 : decode cX7_isSameForm 52 = .ok (.aload_n 0, 1) := by decide +kernel
theorem dX7_isSameForm_53 : decode cX7_isSameForm 53 = .ok (.iload_n 1, 1) := by decide +kernel
theorem dX7_isSameForm_54 : decode cX7_isSameForm 54 = .ok (.iconst 1, 1) := by decide +kernel
theorem dX7_isSameForm_55 : decode cX7_isSameForm 55 = .ok (.invokevirtual 117, 3) := by decide +kernel
theorem dX7_isSameForm_58 : decode cX7_isSameForm 58 = .ok (.isub, 1) := by decide +kernel
theorem dX7_isSameForm_59 : decode cX7_isSameForm 59 = .ok (.istore 4, 2) := by decide +kernel
theorem dX7_isSameForm_61 : decode cX7_isSameForm 61 = .ok (.aload_n 0, 1) := by decide +kernel
theorem dX7_isSameForm_62 : decode cX7_isSameForm 62 = .ok (.getfield 11, 3) := by decide +kernel
theorem dX7_isSameForm_65 : decode cX7_isSameForm 65 = .ok (.iload_n 1, 1) := by decide +kernel
theorem dX7_isSameForm_66 : decode cX7_isSameForm 66 = .ok (.aaload, 1) := by decide +kernel
theorem dX7_isSameForm_67 : decode cX7_isSameForm 67 = .ok (.invokestatic 57, 3) := by decide +kernel
theorem dX7_isSameForm_70 : decode cX7_isSameForm 70 = .ok (.aload_n 0, 1) := by decide +kernel
theorem dX7_isSameForm_71 : decode cX7_isSameForm 71 = .ok (.getfield 11, 3) := by decide +kernel
theorem dX7_isSameForm_74 : decode cX7_isSameForm 74 = .ok (.iload_n 2, 1) := by decide +kernel
theorem dX7_isSameForm_75 : decode cX7_isSameForm 75 = .ok (.aaload, 1) := by decide +kernel
theorem dX7_isSameForm_76 : decode cX7_isSameForm 76 = .ok (.invokestatic 57, 3) := by decide +kernel
theorem dX7_isSameForm_79 : decode cX7_isSameForm 79 = .ok (.if_icmp .eq 5, 3) := by decide +kernel
theorem dX7_isSameForm_82 : decode cX7_isSameForm 82 = .ok (.iconst 0, 1) := by decide +kernel
theorem dX7_isSameForm_83 : decode cX7_isSameForm 83 = .ok (.ireturn, 1) := by decide +kernel
theorem dX7_isSameForm_84 : decode cX7_isSameForm 84 = .ok (.bipush (-32), 2) := by decide +kernel
theorem dX7_isSameForm_86 : decode cX7_isSameForm 86 = .ok (.istore 5, 2) := by decide +kernel
theorem dX7_isSameForm_88 : decode cX7_isSameForm 88 = .ok (.iload 5, 2) := by decide +kernel
theorem dX7_isSameForm_90 : decode cX7_isSameForm 90 = .ok (.bipush 31, 2) := by decide +kernel
theorem dX7_isSameForm_92 : decode cX7_isSameForm 92 = .ok (.if_icmp .gt 66, 3) := by decide +kernel
theorem dX7_isSameForm_95 : decode cX7_isSameForm 95 = .ok (.bipush (-32), 2) := by decide +kernel
theorem dX7_isSameForm_97 : decode cX7_isSameForm 97 = .ok (.istore 6, 2) := by decide +kernel
theorem dX7_isSameForm_99 : decode cX7_isSameForm 99 = .ok (.iload 6, 2) := by decide +kernel
theorem dX7_isSameForm_101 : decode cX7_isSameForm 101 = .ok (.bipush 31, 2) := by decide +kernel
theorem dX7_isSameForm_103 : decode cX7_isSameForm 103 = .ok (.if_icmp .gt 49, 3) := by decide +kernel
theorem dX7_isSameForm_106 : decode cX7_isSameForm 106 = .ok (.aload_n 0, 1) := by decide +kernel
theorem dX7_isSameForm_107 : decode cX7_isSameForm 107 = .ok (.getfield 11, 3) := by decide +kernel
theorem dX7_isSameForm_110 : decode cX7_isSameForm 110 = .ok (.iload_n 1, 1) := by decide +kernel
theorem dX7_isSameForm_111 : decode cX7_isSameForm 111 = .ok (.aaload, 1) := by decide +kernel
theorem dX7_isSameForm_112 : decode cX7_isSameForm 112 = .ok (.iload 5, 2) := by decide +kernel
theorem dX7_isSameForm_114 : decode cX7_isSameForm 114 = .ok (.iload 6, 2) := by decide +kernel
theorem dX7_isSameForm_116 : decode cX7_isSameForm 116 = .ok (.invokestatic 44, 3) := by decide +kernel
theorem dX7_isSameForm_119 : decode cX7_isSameForm 119 = .ok (.baload, 1) := by decide +kernel
theorem dX7_isSameForm_120 : decode cX7_isSameForm 120 = .ok (.ifCond .eq 26, 3) := by decide +kernel
theorem dX7_isSameForm_123 : decode cX7_isSameForm 123 = .ok (.aload_n 0, 1) := by decide +kernel
theorem dX7_isSameForm_124 : decode cX7_isSameForm 124 = .ok (.getfield 11, 3) := by decide +kernel
theorem dX7_isSameForm_127 : decode cX7_isSameForm 127 = .ok (.iload_n 2, 1) := by decide +kernel
theorem dX7_isSameForm_128 : decode cX7_isSameForm 128 = .ok (.aaload, 1) := by decide +kernel
theorem dX7_isSameForm_129 : decode cX7_isSameForm 129 = .ok (.iload 5, 2) := by decide +kernel
theorem dX7_isSameForm_131 : decode cX7_isSameForm 131 = .ok (.iload_n 3, 1) := by decide +kernel
theorem dX7_isSameForm_132 : decode cX7_isSameForm 132 = .ok (.iadd, 1) := by decide +kernel
theorem dX7_isSameForm_133 : decode cX7_isSameForm 133 = .ok (.iload 6, 2) := by decide +kernel
theorem dX7_isSameForm_135 : decode cX7_isSameForm 135 = .ok (.iload 4, 2) := by decide +kernel
theorem dX7_isSameForm_137 : decode cX7_isSameForm 137 = .ok (.iadd, 1) := by decide +kernel
theorem dX7_isSameForm_138 : decode cX7_isSameForm 138 = .ok (.invokestatic 95, 3) := by decide +kernel
theorem dX7_isSameForm_141 : decode cX7_isSameForm 141 = .ok (.ifCond .ne 5, 3) := by decide +kernel
theorem dX7_isSameForm_144 : decode cX7_isSameForm 144 = .ok (.iconst 0, 1) := by decide +kernel
theorem dX7_isSameForm_145 : decode cX7_isSameForm 145 = .ok (.ireturn, 1) := by decide +kernel
theorem dX7_isSameForm_146 : decode cX7_isSameForm 146 = .ok (.iinc 6 1, 3) := by decide +kernel
theorem dX7_isSameForm_149 : decode cX7_isSameForm 149 = .ok (.goto (-50), 3) := by decide +kernel
theorem dX7_isSameForm_152 : decode cX7_isSameForm 152 = .ok (.iinc 5 1, 3) := by decide +kernel
theorem dX7_isSameForm_155 : decode cX7_isSameForm 155 = .ok (.goto (-67), 3) := by decide +kernel
theorem dX7_isSameForm_158 : decode cX7_isSameForm 158 = .ok (.iconst 1, 1) := by decide +kernel
theorem dX7_isSameForm_159 : decode cX7_isSameForm 159 = .ok (.ireturn, 1) := by decide +kernel
theorem dX7_middleX_0 : decode cX7_middleX 0 = .ok (.aload_n 0, 1) := by decide +kernel
theorem dX7_middleX_1 : decode cX7_middleX 1 = .ok (.iload_n 1, 1) := by decide +kernel
theorem dX7_middleX_2 : decode cX7_middleX 2 = .ok (.invokestatic 76, 3) := by decide +kernel
theorem dX7_middleX_5 : decode cX7_middleX 5 = .ok (.ifCond .eq 7, 3) := by decide +kernel
theorem dX7_middleX_8 : decode cX7_middleX 8 = .ok (.iconst 0, 1) := by decide +kernel
theorem dX7_middleX_9 : decode cX7_middleX 9 = .ok (.goto 4, 3) := by decide +kernel
theorem dX7_middleX_12 : decode cX7_middleX 12 = .ok (.iconst 1, 1) := by decide +kernel
theorem dX7_middleX_13 : decode cX7_middleX 13 = .ok (.putfield 33, 3) := by decide +kernel
theorem dX7_middleX_16 : decode cX7_middleX 16 = .ok (.aload_n 0, 1) := by decide +kernel
theorem dX7_middleX_17 : decode cX7_middleX 17 = .ok (.getfield 33, 3) := by decide +kernel
theorem dX7_middleX_20 : decode cX7_middleX 20 = .ok (.ifCond .eq 5, 3) := by decide +kernel
theorem dX7_middleX_23 : decode cX7_middleX 23 = .ok (.dconst 0, 1) := by decide +kernel
theorem dX7_middleX_24 : decode cX7_middleX 24 = .ok (.dreturn, 1) := by decide +kernel
theorem dX7_middleX_25 : decode cX7_middleX 25 = .ok (.iconst 0, 1) := by decide +kernel
theorem dX7_middleX_26 : decode cX7_middleX 26 = .ok (.istore_n 2, 1) := by decide +kernel
theorem dX7_middleX_27 : decode cX7_middleX 27 = .ok (.bipush (-32), 2) := by decide +kernel
theorem dX7_middleX_29 : decode cX7_middleX 29 = .ok (.istore_n 3, 1) := by decide +kernel
theorem dX7_middleX_30 : decode cX7_middleX 30 = .ok (.iload_n 3, 1) := by decide +kernel
theorem dX7_middleX_31 : decode cX7_middleX 31 = .ok (.bipush 31, 2) := by decide +kernel
theorem dX7_middleX_33 : decode cX7_middleX 33 = .ok (.if_icmp .gt 50, 3) := by decide +kernel
theorem dX7_middleX_36 : decode cX7_middleX 36 = .ok (.bipush (-32), 2) := by decide +kernel
theorem dX7_middleX_38 : decode cX7_middleX 38 = .ok (.istore 4, 2) := by decide +kernel
theorem dX7_middleX_40 : decode cX7_middleX 40 = .ok (.iload 4, 2) := by decide +kernel
theorem dX7_middleX_42 : decode cX7_middleX 42 = .ok (.bipush 31, 2) := by decide +kernel
theorem dX7_middleX_44 : decode cX7_middleX 44 = .ok (.if_icmp .gt 33, 3) := by decide +kernel
theorem dX7_middleX_47 : decode cX7_middleX 47 = .ok (.iload_n 2, 1) := by decide +kernel
theorem dX7_middleX_48 : decode cX7_middleX 48 = .ok (.aload_n 0, 1) := by decide +kernel
theorem dX7_middleX_49 : decode cX7_middleX 49 = .ok (.getfield 11, 3) := by decide +kernel
theorem dX7_middleX_52 : decode cX7_middleX 52 = .ok (.iload_n 1, 1) := by decide +kernel
theorem dX7_middleX_53 : decode cX7_middleX 53 = .ok (.aaload, 1) := by decide +kernel
theorem dX7_middleX_54 : decode cX7_middleX 54 = .ok (.iload_n 3, 1) := by decide +kernel
theorem dX7_middleX_55 : decode cX7_middleX 55 = .ok (.iload 4, 2) := by decide +kernel
theorem dX7_middleX_57 : decode cX7_middleX 57 = .ok (.invokestatic 44, 3) := by decide +kernel
theorem dX7_middleX_60 : decode cX7_middleX 60 = .ok (.baload, 1) := by decide +kernel
theorem dX7_middleX_61 : decode cX7_middleX 61 = .ok (.ifCond .eq 7, 3) := by decide +kernel
theorem dX7_middleX_64 : decode cX7_middleX 64 = .ok (.iload_n 3, 1) := by decide +kernel
theorem dX7_middleX_65 : decode cX7_middleX 65 = .ok (.goto 4, 3) := by decide +kernel
theorem dX7_middleX_68 : decode cX7_middleX 68 = .ok (.iconst 0, 1) := by decide +kernel
theorem dX7_middleX_69 : decode cX7_middleX 69 = .ok (.iadd, 1) := by decide +kernel
theorem dX7_middleX_70 : decode cX7_middleX 70 = .ok (.istore_n 2, 1) := by decide +kernel
theorem dX7_middleX_71 : decode cX7_middleX 71 = .ok (.iinc 4 1, 3) := by decide +kernel
theorem dX7_middleX_74 : decode cX7_middleX 74 = .ok (.goto (-34), 3) := by decide +kernel
theorem dX7_middleX_77 : decode cX7_middleX 77 = .ok (.iinc 3 1, 3) := by decide +kernel
theorem dX7_middleX_80 : decode cX7_middleX 80 = .ok (.goto (-50), 3) := by decide +kernel
theorem dX7_middleX_83 : decode cX7_middleX 83 = .ok (.aload_n 0, 1) := by decide +kernel
theorem dX7_middleX_84 : decode cX7_middleX 84 = .ok (.getfield 11, 3) := by decide +kernel
theorem dX7_middleX_87 : decode cX7_middleX 87 = .ok (.iload_n 1, 1) := by decide +kernel
theorem dX7_middleX_88 : decode cX7_middleX 88 = .ok (.aaload, 1) := by decide +kernel
theorem dX7_middleX_89 : decode cX7_middleX 89 = .ok (.invokestatic 57, 3) := by decide +kernel
theorem dX7_middleX_92 : decode cX7_middleX 92 = .ok (.istore_n 3, 1) := by decide +kernel
theorem dX7_middleX_93 : decode cX7_middleX 93 = .ok (.iload_n 3, 1) := by decide +kernel
theorem dX7_middleX_94 : decode cX7_middleX 94 = .ok (.ifCond .ne 7, 3) := by decide +kernel
theorem dX7_middleX_97 : decode cX7_middleX 97 = .ok (.dconst 0, 1) := by decide +kernel
theorem dX7_middleX_98 : decode cX7_middleX 98 = .ok (.goto 8, 3) := by decide +kernel
theorem dX7_middleX_101 : decode cX7_middleX 101 = .ok (.iload_n 2, 1) := by decide +kernel
theorem dX7_middleX_102 : decode cX7_middleX 102 = .ok (.i2d, 1) := by decide +kernel
theorem dX7_middleX_103 : decode cX7_middleX 103 = .ok (.iload_n 3, 1) := by decide +kernel
theorem dX7_middleX_104 : decode cX7_middleX 104 = .ok (.i2d, 1) := by decide +kernel
theorem dX7_middleX_105 : decode cX7_middleX 105 = .ok (.ddiv, 1) := by decide +kernel
theorem dX7_middleX_106 : decode cX7_middleX 106 = .ok (.dreturn, 1) := by decide +kernel
theorem dX7_digest_0 : decode cX7_digest 0 = .ok (.aload_n 0, 1) := by decide +kernel
theorem dX7_digest_1 : decode cX7_digest 1 = .ok (.iconst 0, 1) := by decide +kernel
theorem dX7_digest_2 : decode cX7_digest 2 = .ok (.putfield 33, 3) := by decide +kernel
theorem dX7_digest_5 : decode cX7_digest 5 = .ok (.ldc2_w 166, 3) := by decide +kernel
theorem dX7_digest_8 : decode cX7_digest 8 = .ok (.aload_n 0, 1) := by decide +kernel
theorem dX7_digest_9 : decode cX7_digest 9 = .ok (.getfield 21, 3) := by decide +kernel
theorem dX7_digest_12 : decode cX7_digest 12 = .ok (.i2l, 1) := by decide +kernel
theorem dX7_digest_13 : decode cX7_digest 13 = .ok (.ladd, 1) := by decide +kernel
theorem dX7_digest_14 : decode cX7_digest 14 = .ok (.lstore_n 1, 1) := by decide +kernel
theorem dX7_digest_15 : decode cX7_digest 15 = .ok (.iconst 0, 1) := by decide +kernel
theorem dX7_digest_16 : decode cX7_digest 16 = .ok (.istore_n 3, 1) := by decide +kernel
theorem dX7_digest_17 : decode cX7_digest 17 = .ok (.iload_n 3, 1) := by decide +kernel
theorem dX7_digest_18 : decode cX7_digest 18 = .ok (.bipush 8, 2) := by decide +kernel
theorem dX7_digest_20 : decode cX7_digest 20 = .ok (.if_icmp .ge 235, 3) := by decide +kernel
theorem dX7_digest_23 : decode cX7_digest 23 = .ok (.lload_n 1, 1) := by decide +kernel
theorem dX7_digest_24 : decode cX7_digest 24 = .ok (.ldc2_w 168, 3) := by decide +kernel
theorem dX7_digest_27 : decode cX7_digest 27 = .ok (.lmul, 1) := by decide +kernel
theorem dX7_digest_28 : decode cX7_digest 28 = .ok (.aload_n 0, 1) := by decide +kernel
theorem dX7_digest_29 : decode cX7_digest 29 = .ok (.getfield 11, 3) := by decide +kernel
theorem dX7_digest_32 : decode cX7_digest 32 = .ok (.iload_n 3, 1) := by decide +kernel
theorem dX7_digest_33 : decode cX7_digest 33 = .ok (.aaload, 1) := by decide +kernel
theorem dX7_digest_34 : decode cX7_digest 34 = .ok (.invokestatic 57, 3) := by decide +kernel
theorem dX7_digest_37 : decode cX7_digest 37 = .ok (.i2l, 1) := by decide +kernel
theorem dX7_digest_38 : decode cX7_digest 38 = .ok (.ladd, 1) := by decide +kernel
theorem dX7_digest_39 : decode cX7_digest 39 = .ok (.ldc2_w 168, 3) := by decide +kernel
theorem dX7_digest_42 : decode cX7_digest 42 = .ok (.lmul, 1) := by decide +kernel
theorem dX7_digest_43 : decode cX7_digest 43 = .ok (.aload_n 0, 1) := by decide +kernel
theorem dX7_digest_44 : decode cX7_digest 44 = .ok (.iload_n 3, 1) := by decide +kernel
theorem dX7_digest_45 : decode cX7_digest 45 = .ok (.invokevirtual 111, 3) := by decide +kernel
theorem dX7_digest_48 : decode cX7_digest 48 = .ok (.i2l, 1) := by decide +kernel
theorem dX7_digest_49 : decode cX7_digest 49 = .ok (.ladd, 1) := by decide +kernel
theorem dX7_digest_50 : decode cX7_digest 50 = .ok (.ldc2_w 168, 3) := by decide +kernel
theorem dX7_digest_53 : decode cX7_digest 53 = .ok (.lmul, 1) := by decide +kernel
theorem dX7_digest_54 : decode cX7_digest 54 = .ok (.aload_n 0, 1) := by decide +kernel
theorem dX7_digest_55 : decode cX7_digest 55 = .ok (.getfield 11, 3) := by decide +kernel
theorem dX7_digest_58 : decode cX7_digest 58 = .ok (.iload_n 3, 1) := by decide +kernel
theorem dX7_digest_59 : decode cX7_digest 59 = .ok (.aaload, 1) := by decide +kernel
theorem dX7_digest_60 : decode cX7_digest 60 = .ok (.iconst 1, 1) := by decide +kernel
theorem dX7_digest_61 : decode cX7_digest 61 = .ok (.invokestatic 99, 3) := by decide +kernel
theorem dX7_digest_64 : decode cX7_digest 64 = .ok (.invokestatic 103, 3) := by decide +kernel
theorem dX7_digest_67 : decode cX7_digest 67 = .ok (.i2l, 1) := by decide +kernel
theorem dX7_digest_68 : decode cX7_digest 68 = .ok (.ladd, 1) := by decide +kernel
theorem dX7_digest_69 : decode cX7_digest 69 = .ok (.ldc2_w 168, 3) := by decide +kernel
theorem dX7_digest_72 : decode cX7_digest 72 = .ok (.lmul, 1) := by decide +kernel
theorem dX7_digest_73 : decode cX7_digest 73 = .ok (.aload_n 0, 1) := by decide +kernel
theorem dX7_digest_74 : decode cX7_digest 74 = .ok (.iload_n 3, 1) := by decide +kernel
theorem dX7_digest_75 : decode cX7_digest 75 = .ok (.invokevirtual 114, 3) := by decide +kernel
theorem dX7_digest_78 : decode cX7_digest 78 = .ok (.i2l, 1) := by decide +kernel
theorem dX7_digest_79 : decode cX7_digest 79 = .ok (.ladd, 1) := by decide +kernel
theorem dX7_digest_80 : decode cX7_digest 80 = .ok (.lstore_n 1, 1) := by decide +kernel
theorem dX7_digest_81 : decode cX7_digest 81 = .ok (.iconst 0, 1) := by decide +kernel
theorem dX7_digest_82 : decode cX7_digest 82 = .ok (.istore 4, 2) := by decide +kernel
theorem dX7_digest_84 : decode cX7_digest 84 = .ok (.iload 4, 2) := by decide +kernel
theorem dX7_digest_86 : decode cX7_digest 86 = .ok (.iconst 4, 1) := by decide +kernel
theorem dX7_digest_87 : decode cX7_digest 87 = .ok (.if_icmp .ge 24, 3) := by decide +kernel
theorem dX7_digest_90 : decode cX7_digest 90 = .ok (.lload_n 1, 1) := by decide +kernel
theorem dX7_digest_91 : decode cX7_digest 91 = .ok (.ldc2_w 168, 3) := by decide +kernel
theorem dX7_digest_94 : decode cX7_digest 94 = .ok (.lmul, 1) := by decide +kernel
theorem dX7_digest_95 : decode cX7_digest 95 = .ok (.aload_n 0, 1) := by decide +kernel
theorem dX7_digest_96 : decode cX7_digest 96 = .ok (.iload_n 3, 1) := by decide +kernel
theorem dX7_digest_97 : decode cX7_digest 97 = .ok (.iload 4, 2) := by decide +kernel
theorem dX7_digest_99 : decode cX7_digest 99 = .ok (.invokevirtual 117, 3) := by decide +kernel
theorem dX7_digest_102 : decode cX7_digest 102 = .ok (.i2l, 1) := by decide +kernel
theorem dX7_digest_103 : decode cX7_digest 103 = .ok (.ladd, 1) := by decide +kernel
theorem dX7_digest_104 : decode cX7_digest 104 = .ok (.lstore_n 1, 1) := by decide +kernel
theorem dX7_digest_105 : decode cX7_digest 105 = .ok (.iinc 4 1, 3) := by decide +kernel
theorem dX7_digest_108 : decode cX7_digest 108 = .ok (.goto (-24), 3) := by decide +kernel
theorem dX7_digest_111 : decode cX7_digest 111 = .ok (.aload_n 0, 1) := by decide +kernel
theorem dX7_digest_112 : decode cX7_digest 112 = .ok (.iload_n 3, 1) := by decide +kernel
theorem dX7_digest_113 : decode cX7_digest 113 = .ok (.invokevirtual 134, 3) := by decide +kernel
theorem dX7_digest_116 : decode cX7_digest 116 = .ok (.astore 4, 2) := by decide +kernel
theorem dX7_digest_118 : decode cX7_digest 118 = .ok (.lload_n 1, 1) := by decide +kernel
theorem dX7_digest_119 : decode cX7_digest 119 = .ok (.ldc2_w 168, 3) := by decide +kernel
theorem dX7_digest_122 : decode cX7_digest 122 = .ok (.lmul, 1) := by decide +kernel
theorem dX7_digest_123 : decode cX7_digest 123 = .ok (.aload 4, 2) := by decide +kernel
theorem dX7_digest_125 : decode cX7_digest 125 = .ok (.iconst 0, 1) := by decide +kernel
theorem dX7_digest_126 : decode cX7_digest 126 = .ok (.iaload, 1) := by decide +kernel
theorem dX7_digest_127 : decode cX7_digest 127 = .ok (.i2l, 1) := by decide +kernel
theorem dX7_digest_128 : decode cX7_digest 128 = .ok (.ladd, 1) := by decide +kernel
theorem dX7_digest_129 : decode cX7_digest 129 = .ok (.lstore_n 1, 1) := by decide +kernel
theorem dX7_digest_130 : decode cX7_digest 130 = .ok (.iconst 0, 1) := by decide +kernel
theorem dX7_digest_131 : decode cX7_digest 131 = .ok (.istore 5, 2) := by decide +kernel
theorem dX7_digest_133 : decode cX7_digest 133 = .ok (.iload 5, 2) := by decide +kernel
theorem dX7_digest_135 : decode cX7_digest 135 = .ok (.aload 4, 2) := by decide +kernel
theorem dX7_digest_137 : decode cX7_digest 137 = .ok (.iconst 0, 1) := by decide +kernel
theorem dX7_digest_138 : decode cX7_digest 138 = .ok (.iaload, 1) := by decide +kernel
theorem dX7_digest_139 : decode cX7_digest 139 = .ok (.if_icmp .ge 70, 3) := by decide +kernel
theorem dX7_digest_142 : decode cX7_digest 142 = .ok (.aload 4, 2) := by decide +kernel
theorem dX7_digest_144 : decode cX7_digest 144 = .ok (.iload 5, 2) := by decide +kernel
theorem dX7_digest_146 : decode cX7_digest 146 = .ok (.invokestatic 138, 3) := by decide +kernel
theorem dX7_digest_149 : decode cX7_digest 149 = .ok (.istore 6, 2) := by decide +kernel
theorem dX7_digest_151 : decode cX7_digest 151 = .ok (.lload_n 1, 1) := by decide +kernel
theorem dX7_digest_152 : decode cX7_digest 152 = .ok (.ldc2_w 168, 3) := by decide +kernel
theorem dX7_digest_155 : decode cX7_digest 155 = .ok (.lmul, 1) := by decide +kernel
theorem dX7_digest_156 : decode cX7_digest 156 = .ok (.aload 4, 2) := by decide +kernel
theorem dX7_digest_158 : decode cX7_digest 158 = .ok (.iload 6, 2) := by decide +kernel
theorem dX7_digest_160 : decode cX7_digest 160 = .ok (.iconst 1, 1) := by decide +kernel
theorem dX7_digest_161 : decode cX7_digest 161 = .ok (.iadd, 1) := by decide +kernel
theorem dX7_digest_162 : decode cX7_digest 162 = .ok (.iaload, 1) := by decide +kernel
theorem dX7_digest_163 : decode cX7_digest 163 = .ok (.i2l, 1) := by decide +kernel
theorem dX7_digest_164 : decode cX7_digest 164 = .ok (.ladd, 1) := by decide +kernel
theorem dX7_digest_165 : decode cX7_digest 165 = .ok (.ldc2_w 168, 3) := by decide +kernel
theorem dX7_digest_168 : decode cX7_digest 168 = .ok (.lmul, 1) := by decide +kernel
theorem dX7_digest_169 : decode cX7_digest 169 = .ok (.aload 4, 2) := by decide +kernel
theorem dX7_digest_171 : decode cX7_digest 171 = .ok (.iload 6, 2) := by decide +kernel
theorem dX7_digest_173 : decode cX7_digest 173 = .ok (.iaload, 1) := by decide +kernel
theorem dX7_digest_174 : decode cX7_digest 174 = .ok (.i2l, 1) := by decide +kernel
theorem dX7_digest_175 : decode cX7_digest 175 = .ok (.ladd, 1) := by decide +kernel
theorem dX7_digest_176 : decode cX7_digest 176 = .ok (.ldc2_w 168, 3) := by decide +kernel
theorem dX7_digest_179 : decode cX7_digest 179 = .ok (.lmul, 1) := by decide +kernel
theorem dX7_digest_180 : decode cX7_digest 180 = .ok (.aload 4, 2) := by decide +kernel
theorem dX7_digest_182 : decode cX7_digest 182 = .ok (.iload 6, 2) := by decide +kernel
theorem dX7_digest_184 : decode cX7_digest 184 = .ok (.iconst 2, 1) := by decide +kernel
theorem dX7_digest_185 : decode cX7_digest 185 = .ok (.iadd, 1) := by decide +kernel
theorem dX7_digest_186 : decode cX7_digest 186 = .ok (.iaload, 1) := by decide +kernel
theorem dX7_digest_187 : decode cX7_digest 187 = .ok (.i2l, 1) := by decide +kernel
theorem dX7_digest_188 : decode cX7_digest 188 = .ok (.ladd, 1) := by decide +kernel
theorem dX7_digest_189 : decode cX7_digest 189 = .ok (.ldc2_w 168, 3) := by decide +kernel
theorem dX7_digest_192 : decode cX7_digest 192 = .ok (.lmul, 1) := by decide +kernel
theorem dX7_digest_193 : decode cX7_digest 193 = .ok (.aload 4, 2) := by decide +kernel
theorem dX7_digest_195 : decode cX7_digest 195 = .ok (.iload 6, 2) := by decide +kernel
theorem dX7_digest_197 : decode cX7_digest 197 = .ok (.iconst 3, 1) := by decide +kernel
theorem dX7_digest_198 : decode cX7_digest 198 = .ok (.iadd, 1) := by decide +kernel
theorem dX7_digest_199 : decode cX7_digest 199 = .ok (.iaload, 1) := by decide +kernel
theorem dX7_digest_200 : decode cX7_digest 200 = .ok (.i2l, 1) := by decide +kernel
theorem dX7_digest_201 : decode cX7_digest 201 = .ok (.ladd, 1) := by decide +kernel
theorem dX7_digest_202 : decode cX7_digest 202 = .ok (.lstore_n 1, 1) := by decide +kernel
theorem dX7_digest_203 : decode cX7_digest 203 = .ok (.iinc 5 1, 3) := by decide +kernel
theorem dX7_digest_206 : decode cX7_digest 206 = .ok (.goto (-73), 3) := by decide +kernel
theorem dX7_digest_209 : decode cX7_digest 209 = .ok (.aload_n 0, 1) := by decide +kernel
theorem dX7_digest_210 : decode cX7_digest 210 = .ok (.iload_n 3, 1) := by decide +kernel
theorem dX7_digest_211 : decode cX7_digest 211 = .ok (.invokevirtual 155, 3) := by decide +kernel
theorem dX7_digest_214 : decode cX7_digest 214 = .ok (.astore 5, 2) := by decide +kernel
theorem dX7_digest_216 : decode cX7_digest 216 = .ok (.iconst 0, 1) := by decide +kernel
theorem dX7_digest_217 : decode cX7_digest 217 = .ok (.istore 6, 2) := by decide +kernel
theorem dX7_digest_219 : decode cX7_digest 219 = .ok (.iload 6, 2) := by decide +kernel
theorem dX7_digest_221 : decode cX7_digest 221 = .ok (.iconst 4, 1) := by decide +kernel
theorem dX7_digest_222 : decode cX7_digest 222 = .ok (.aload 5, 2) := by decide +kernel
theorem dX7_digest_224 : decode cX7_digest 224 = .ok (.iconst 0, 1) := by decide +kernel
theorem dX7_digest_225 : decode cX7_digest 225 = .ok (.iaload, 1) := by decide +kernel
theorem dX7_digest_226 : decode cX7_digest 226 = .ok (.imul, 1) := by decide +kernel
theorem dX7_digest_227 : decode cX7_digest 227 = .ok (.if_icmp .gt 22, 3) := by decide +kernel
theorem dX7_digest_230 : decode cX7_digest 230 = .ok (.lload_n 1, 1) := by decide +kernel
theorem dX7_digest_231 : decode cX7_digest 231 = .ok (.ldc2_w 168, 3) := by decide +kernel
theorem dX7_digest_234 : decode cX7_digest 234 = .ok (.lmul, 1) := by decide +kernel
theorem dX7_digest_235 : decode cX7_digest 235 = .ok (.aload 5, 2) := by decide +kernel
theorem dX7_digest_237 : decode cX7_digest 237 = .ok (.iload 6, 2) := by decide +kernel
theorem dX7_digest_239 : decode cX7_digest 239 = .ok (.iaload, 1) := by decide +kernel
theorem dX7_digest_240 : decode cX7_digest 240 = .ok (.i2l, 1) := by decide +kernel
theorem dX7_digest_241 : decode cX7_digest 241 = .ok (.ladd, 1) := by decide +kernel
theorem dX7_digest_242 : decode cX7_digest 242 = .ok (.lstore_n 1, 1) := by decide +kernel
theorem dX7_digest_243 : decode cX7_digest 243 = .ok (.iinc 6 1, 3) := by decide +kernel
theorem dX7_digest_246 : decode cX7_digest 246 = .ok (.goto (-27), 3) := by decide +kernel
theorem dX7_digest_249 : decode cX7_digest 249 = .ok (.iinc 3 1, 3) := by decide +kernel
theorem dX7_digest_252 : decode cX7_digest 252 = .ok (.goto (-235), 3) := by decide +kernel
theorem dX7_digest_255 : decode cX7_digest 255 = .ok (.lload_n 1, 1) := by decide +kernel
theorem dX7_digest_256 : decode cX7_digest 256 = .ok (.ldc2_w 168, 3) := by decide +kernel
theorem dX7_digest_259 : decode cX7_digest 259 = .ok (.lmul, 1) := by decide +kernel
theorem dX7_digest_260 : decode cX7_digest 260 = .ok (.aload_n 0, 1) := by decide +kernel
theorem dX7_digest_261 : decode cX7_digest 261 = .ok (.getfield 54, 3) := by decide +kernel
theorem dX7_digest_264 : decode cX7_digest 264 = .ok (.i2l, 1) := by decide +kernel
theorem dX7_digest_265 : decode cX7_digest 265 = .ok (.ladd, 1) := by decide +kernel
theorem dX7_digest_266 : decode cX7_digest 266 = .ok (.lreturn, 1) := by decide +kernel
theorem dJ13_bitCount_95d88_0 : decode cJ13_bitCount_95d88 0 = .ok (.lload_n 0, 1) := by decide +kernel
theorem dJ13_bitCount_95d88_1 : decode cJ13_bitCount_95d88 1 = .ok (.lload_n 0, 1) := by decide +kernel
theorem dJ13_bitCount_95d88_2 : decode cJ13_bitCount_95d88 2 = .ok (.iconst 1, 1) := by decide +kernel
theorem dJ13_bitCount_95d88_3 : decode cJ13_bitCount_95d88 3 = .ok (.lushr, 1) := by decide +kernel
theorem dJ13_bitCount_95d88_4 : decode cJ13_bitCount_95d88 4 = .ok (.ldc2_w 314, 3) := by decide +kernel
theorem dJ13_bitCount_95d88_7 : decode cJ13_bitCount_95d88 7 = .ok (.land, 1) := by decide +kernel
theorem dJ13_bitCount_95d88_8 : decode cJ13_bitCount_95d88 8 = .ok (.lsub, 1) := by decide +kernel
theorem dJ13_bitCount_95d88_9 : decode cJ13_bitCount_95d88 9 = .ok (.lstore_n 0, 1) := by decide +kernel
theorem dJ13_bitCount_95d88_10 : decode cJ13_bitCount_95d88 10 = .ok (.lload_n 0, 1) := by decide +kernel
theorem dJ13_bitCount_95d88_11 : decode cJ13_bitCount_95d88 11 = .ok (.ldc2_w 316, 3) := by decide +kernel
theorem dJ13_bitCount_95d88_14 : decode cJ13_bitCount_95d88 14 = .ok (.land, 1) := by decide +kernel
theorem dJ13_bitCount_95d88_15 : decode cJ13_bitCount_95d88 15 = .ok (.lload_n 0, 1) := by decide +kernel
theorem dJ13_bitCount_95d88_16 : decode cJ13_bitCount_95d88 16 = .ok (.iconst 2, 1) := by decide +kernel
theorem dJ13_bitCount_95d88_17 : decode cJ13_bitCount_95d88 17 = .ok (.lushr, 1) := by decide +kernel
theorem dJ13_bitCount_95d88_18 : decode cJ13_bitCount_95d88 18 = .ok (.ldc2_w 316, 3) := by decide +kernel
theorem dJ13_bitCount_95d88_21 : decode cJ13_bitCount_95d88 21 = .ok (.land, 1) := by decide +kernel
theorem dJ13_bitCount_95d88_22 : decode cJ13_bitCount_95d88 22 = .ok (.ladd, 1) := by decide +kernel
theorem dJ13_bitCount_95d88_23 : decode cJ13_bitCount_95d88 23 = .ok (.lstore_n 0, 1) := by decide +kernel
theorem dJ13_bitCount_95d88_24 : decode cJ13_bitCount_95d88 24 = .ok (.lload_n 0, 1) := by decide +kernel
theorem dJ13_bitCount_95d88_25 : decode cJ13_bitCount_95d88 25 = .ok (.lload_n 0, 1) := by decide +kernel
theorem dJ13_bitCount_95d88_26 : decode cJ13_bitCount_95d88 26 = .ok (.iconst 4, 1) := by decide +kernel
theorem dJ13_bitCount_95d88_27 : decode cJ13_bitCount_95d88 27 = .ok (.lushr, 1) := by decide +kernel
theorem dJ13_bitCount_95d88_28 : decode cJ13_bitCount_95d88 28 = .ok (.ladd, 1) := by decide +kernel
theorem dJ13_bitCount_95d88_29 : decode cJ13_bitCount_95d88 29 = .ok (.ldc2_w 318, 3) := by decide +kernel
theorem dJ13_bitCount_95d88_32 : decode cJ13_bitCount_95d88 32 = .ok (.land, 1) := by decide +kernel
theorem dJ13_bitCount_95d88_33 : decode cJ13_bitCount_95d88 33 = .ok (.lstore_n 0, 1) := by decide +kernel
theorem dJ13_bitCount_95d88_34 : decode cJ13_bitCount_95d88 34 = .ok (.lload_n 0, 1) := by decide +kernel
theorem dJ13_bitCount_95d88_35 : decode cJ13_bitCount_95d88 35 = .ok (.lload_n 0, 1) := by decide +kernel
theorem dJ13_bitCount_95d88_36 : decode cJ13_bitCount_95d88 36 = .ok (.bipush 8, 2) := by decide +kernel
theorem dJ13_bitCount_95d88_38 : decode cJ13_bitCount_95d88 38 = .ok (.lushr, 1) := by decide +kernel
theorem dJ13_bitCount_95d88_39 : decode cJ13_bitCount_95d88 39 = .ok (.ladd, 1) := by decide +kernel
theorem dJ13_bitCount_95d88_40 : decode cJ13_bitCount_95d88 40 = .ok (.lstore_n 0, 1) := by decide +kernel
theorem dJ13_bitCount_95d88_41 : decode cJ13_bitCount_95d88 41 = .ok (.lload_n 0, 1) := by decide +kernel
theorem dJ13_bitCount_95d88_42 : decode cJ13_bitCount_95d88 42 = .ok (.lload_n 0, 1) := by decide +kernel
theorem dJ13_bitCount_95d88_43 : decode cJ13_bitCount_95d88 43 = .ok (.bipush 16, 2) := by decide +kernel
theorem dJ13_bitCount_95d88_45 : decode cJ13_bitCount_95d88 45 = .ok (.lushr, 1) := by decide +kernel
theorem dJ13_bitCount_95d88_46 : decode cJ13_bitCount_95d88 46 = .ok (.ladd, 1) := by decide +kernel
theorem dJ13_bitCount_95d88_47 : decode cJ13_bitCount_95d88 47 = .ok (.lstore_n 0, 1) := by decide +kernel
theorem dJ13_bitCount_95d88_48 : decode cJ13_bitCount_95d88 48 = .ok (.lload_n 0, 1) := by decide +kernel
theorem dJ13_bitCount_95d88_49 : decode cJ13_bitCount_95d88 49 = .ok (.lload_n 0, 1) := by decide +kernel
theorem dJ13_bitCount_95d88_50 : decode cJ13_bitCount_95d88 50 = .ok (.bipush 32, 2) := by decide +kernel
theorem dJ13_bitCount_95d88_52 : decode cJ13_bitCount_95d88 52 = .ok (.lushr, 1) := by decide +kernel
theorem dJ13_bitCount_95d88_53 : decode cJ13_bitCount_95d88 53 = .ok (.ladd, 1) := by decide +kernel
theorem dJ13_bitCount_95d88_54 : decode cJ13_bitCount_95d88 54 = .ok (.lstore_n 0, 1) := by decide +kernel
theorem dJ13_bitCount_95d88_55 : decode cJ13_bitCount_95d88 55 = .ok (.lload_n 0, 1) := by decide +kernel
theorem dJ13_bitCount_95d88_56 : decode cJ13_bitCount_95d88 56 = .ok (.l2i, 1) := by decide +kernel
theorem dJ13_bitCount_95d88_57 : decode cJ13_bitCount_95d88 57 = .ok (.bipush 127, 2) := by decide +kernel
theorem dJ13_bitCount_95d88_59 : decode cJ13_bitCount_95d88 59 = .ok (.iand, 1) := by decide +kernel
theorem dJ13_bitCount_95d88_60 : decode cJ13_bitCount_95d88 60 = .ok (.ireturn, 1) := by decide +kernel
theorem dJ9_abs_0f7a4_0 : decode cJ9_abs_0f7a4 0 = .ok (.iload_n 0, 1) := by decide +kernel
theorem dJ9_abs_0f7a4_1 : decode cJ9_abs_0f7a4 1 = .ok (.ifCond .ge 8, 3) := by decide +kernel
theorem dJ9_abs_0f7a4_4 : decode cJ9_abs_0f7a4 4 = .ok (.iload_n 0, 1) := by decide +kernel
theorem dJ9_abs_0f7a4_5 : decode cJ9_abs_0f7a4 5 = .ok (.ineg, 1) := by decide +kernel
theorem dJ9_abs_0f7a4_6 : decode cJ9_abs_0f7a4 6 = .ok (.goto 4, 3) := by decide +kernel
theorem dJ9_abs_0f7a4_9 : decode cJ9_abs_0f7a4 9 = .ok (.iload_n 0, 1) := by decide +kernel
theorem dJ9_abs_0f7a4_10 : decode cJ9_abs_0f7a4 10 = .ok (.ireturn, 1) := by decide +kernel
theorem dJ9_max_7cf53_0 : decode cJ9_max_7cf53 0 = .ok (.iload_n 0, 1) := by decide +kernel
theorem dJ9_max_7cf53_1 : decode cJ9_max_7cf53 1 = .ok (.iload_n 1, 1) := by decide +kernel
theorem dJ9_max_7cf53_2 : decode cJ9_max_7cf53 2 = .ok (.if_icmp .lt 7, 3) := by decide +kernel
theorem dJ9_max_7cf53_5 : decode cJ9_max_7cf53 5 = .ok (.iload_n 0, 1) := by decide +kernel
theorem dJ9_max_7cf53_6 : decode cJ9_max_7cf53 6 = .ok (.goto 4, 3) := by decide +kernel
theorem dJ9_max_7cf53_9 : decode cJ9_max_7cf53 9 = .ok (.iload_n 1, 1) := by decide +kernel
theorem dJ9_max_7cf53_10 : decode cJ9_max_7cf53 10 = .ok (.ireturn, 1) := by decide +kernel
theorem dJ9_min_7cf53_0 : decode cJ9_min_7cf53 0 = .ok (.iload_n 0, 1) := by decide +kernel
theorem dJ9_min_7cf53_1 : decode cJ9_min_7cf53 1 = .ok (.iload_n 1, 1) := by decide +kernel
theorem dJ9_min_7cf53_2 : decode cJ9_min_7cf53 2 = .ok (.if_icmp .gt 7, 3) := by decide +kernel
theorem dJ9_min_7cf53_5 : decode cJ9_min_7cf53 5 = .ok (.iload_n 0, 1) := by decide +kernel
theorem dJ9_min_7cf53_6 : decode cJ9_min_7cf53 6 = .ok (.goto 4, 3) := by decide +kernel
theorem dJ9_min_7cf53_9 : decode cJ9_min_7cf53 9 = .ok (.iload_n 1, 1) := by decide +kernel
theorem dJ9_min_7cf53_10 : decode cJ9_min_7cf53 10 = .ok (.ireturn, 1) := by decide +kernel
theorem dJ7_fill_d0a16_0 : decode cJ7_fill_d0a16 0 = .ok (.iconst 0, 1) := by decide +kernel
theorem dJ7_fill_d0a16_1 : decode cJ7_fill_d0a16 1 = .ok (.istore_n 3, 1) := by decide +kernel
theorem dJ7_fill_d0a16_2 : decode cJ7_fill_d0a16 2 = .ok (.aload_n 0, 1) := by decide +kernel
theorem dJ7_fill_d0a16_3 : decode cJ7_fill_d0a16 3 = .ok (.arraylength, 1) := by decide +kernel
theorem dJ7_fill_d0a16_4 : decode cJ7_fill_d0a16 4 = .ok (.istore 4, 2) := by decide +kernel
theorem dJ7_fill_d0a16_6 : decode cJ7_fill_d0a16 6 = .ok (.iload_n 3, 1) := by decide +kernel
theorem dJ7_fill_d0a16_7 : decode cJ7_fill_d0a16 7 = .ok (.iload 4, 2) := by decide +kernel
theorem dJ7_fill_d0a16_9 : decode cJ7_fill_d0a16 9 = .ok (.if_icmp .ge 13, 3) := by decide +kernel
theorem dJ7_fill_d0a16_12 : decode cJ7_fill_d0a16 12 = .ok (.aload_n 0, 1) := by decide +kernel
theorem dJ7_fill_d0a16_13 : decode cJ7_fill_d0a16 13 = .ok (.iload_n 3, 1) := by decide +kernel
theorem dJ7_fill_d0a16_14 : decode cJ7_fill_d0a16 14 = .ok (.lload_n 1, 1) := by decide +kernel
theorem dJ7_fill_d0a16_15 : decode cJ7_fill_d0a16 15 = .ok (.lastore, 1) := by decide +kernel
theorem dJ7_fill_d0a16_16 : decode cJ7_fill_d0a16 16 = .ok (.iinc 3 1, 3) := by decide +kernel
theorem dJ7_fill_d0a16_19 : decode cJ7_fill_d0a16 19 = .ok (.goto (-13), 3) := by decide +kernel
theorem dJ7_fill_d0a16_22 : decode cJ7_fill_d0a16 22 = .ok (.return_, 1) := by decide +kernel
theorem dJ7_fill_53178_0 : decode cJ7_fill_53178 0 = .ok (.iconst 0, 1) := by decide +kernel
theorem dJ7_fill_53178_1 : decode cJ7_fill_53178 1 = .ok (.istore_n 2, 1) := by decide +kernel
theorem dJ7_fill_53178_2 : decode cJ7_fill_53178 2 = .ok (.aload_n 0, 1) := by decide +kernel
theorem dJ7_fill_53178_3 : decode cJ7_fill_53178 3 = .ok (.arraylength, 1) := by decide +kernel
theorem dJ7_fill_53178_4 : decode cJ7_fill_53178 4 = .ok (.istore_n 3, 1) := by decide +kernel
theorem dJ7_fill_53178_5 : decode cJ7_fill_53178 5 = .ok (.iload_n 2, 1) := by decide +kernel
theorem dJ7_fill_53178_6 : decode cJ7_fill_53178 6 = .ok (.iload_n 3, 1) := by decide +kernel
theorem dJ7_fill_53178_7 : decode cJ7_fill_53178 7 = .ok (.if_icmp .ge 13, 3) := by decide +kernel
theorem dJ7_fill_53178_10 : decode cJ7_fill_53178 10 = .ok (.aload_n 0, 1) := by decide +kernel
theorem dJ7_fill_53178_11 : decode cJ7_fill_53178 11 = .ok (.iload_n 2, 1) := by decide +kernel
theorem dJ7_fill_53178_12 : decode cJ7_fill_53178 12 = .ok (.iload_n 1, 1) := by decide +kernel
theorem dJ7_fill_53178_13 : decode cJ7_fill_53178 13 = .ok (.iastore, 1) := by decide +kernel
theorem dJ7_fill_53178_14 : decode cJ7_fill_53178 14 = .ok (.iinc 2 1, 3) := by decide +kernel
theorem dJ7_fill_53178_17 : decode cJ7_fill_53178 17 = .ok (.goto (-12), 3) := by decide +kernel
theorem dJ7_fill_53178_20 : decode cJ7_fill_53178 20 = .ok (.return_, 1) := by decide +kernel
theorem dL_moveTo_0 : decode cL_moveTo 0 = .ok (.aload_n 3, 1) := by decide +kernel
theorem dL_moveTo_1 : decode cL_moveTo 1 = .ok (.iconst 0, 1) := by decide +kernel
theorem dL_moveTo_2 : decode cL_moveTo 2 = .ok (.aload_n 0, 1) := by decide +kernel
theorem dL_moveTo_3 : decode cL_moveTo 3 = .ok (.iload_n 1, 1) := by decide +kernel
theorem dL_moveTo_4 : decode cL_moveTo 4 = .ok (.iload_n 2, 1) := by decide +kernel
theorem dL_moveTo_5 : decode cL_moveTo 5 = .ok (.invokevirtual 7, 3) := by decide +kernel
theorem dL_moveTo_8 : decode cL_moveTo 8 = .ok (.i2l, 1) := by decide +kernel
theorem dL_moveTo_9 : decode cL_moveTo 9 = .ok (.lastore, 1) := by decide +kernel
theorem dL_moveTo_10 : decode cL_moveTo 10 = .ok (.goto 7, 3) := by decide +kernel
theorem dL_moveTo_13 : decode cL_moveTo 13 = .ok (.astore 4, 2) := by decide +kernel
theorem dL_moveTo_15 : decode cL_moveTo 15 = .ok (.iconst 1, 1) := by decide +kernel
theorem dL_moveTo_16 : decode cL_moveTo 16 = .ok (.ireturn, 1) := by decide +kernel
theorem dL_moveTo_17 : decode cL_moveTo 17 = .ok (.iconst 0, 1) := by decide +kernel
theorem dL_moveTo_18 : decode cL_moveTo 18 = .ok (.ireturn, 1) := by decide +kernel
theorem dL_lineX_0 : decode cL_lineX 0 = .ok (.aload_n 2, 1) := by decide +kernel
theorem dL_lineX_1 : decode cL_lineX 1 = .ok (.iconst 0, 1) := by decide +kernel
theorem dL_lineX_2 : decode cL_lineX 2 = .ok (.aload_n 0, 1) := by decide +kernel
theorem dL_lineX_3 : decode cL_lineX 3 = .ok (.iload_n 1, 1) := by decide +kernel
theorem dL_lineX_4 : decode cL_lineX 4 = .ok (.invokevirtual 15, 3) := by decide +kernel
theorem dL_lineX_7 : decode cL_lineX 7 = .ok (.i2l, 1) := by decide +kernel
theorem dL_lineX_8 : decode cL_lineX 8 = .ok (.lastore, 1) := by decide +kernel
theorem dL_lineX_9 : decode cL_lineX 9 = .ok (.goto 9, 3) := by decide +kernel
theorem dL_lineX_12 : decode cL_lineX 12 = .ok (.astore_n 3, 1) := by decide +kernel
theorem dL_lineX_13 : decode cL_lineX 13 = .ok (.iconst 1, 1) := by decide +kernel
theorem dL_lineX_14 : decode cL_lineX 14 = .ok (.ireturn, 1) := by decide +kernel
theorem dL_lineX_15 : decode cL_lineX 15 = .ok (.astore_n 3, 1) := by decide +kernel
theorem dL_lineX_16 : decode cL_lineX 16 = .ok (.iconst 2, 1) := by decide +kernel
theorem dL_lineX_17 : decode cL_lineX 17 = .ok (.ireturn, 1) := by decide +kernel
theorem dL_lineX_18 : decode cL_lineX 18 = .ok (.iconst 0, 1) := by decide +kernel
theorem dL_lineX_19 : decode cL_lineX 19 = .ok (.ireturn, 1) := by decide +kernel
theorem dL_lineY_0 : decode cL_lineY 0 = .ok (.aload_n 2, 1) := by decide +kernel
theorem dL_lineY_1 : decode cL_lineY 1 = .ok (.iconst 0, 1) := by decide +kernel
theorem dL_lineY_2 : decode cL_lineY 2 = .ok (.aload_n 0, 1) := by decide +kernel
theorem dL_lineY_3 : decode cL_lineY 3 = .ok (.iload_n 1, 1) := by decide +kernel
theorem dL_lineY_4 : decode cL_lineY 4 = .ok (.invokevirtual 21, 3) := by decide +kernel
theorem dL_lineY_7 : decode cL_lineY 7 = .ok (.i2l, 1) := by decide +kernel
theorem dL_lineY_8 : decode cL_lineY 8 = .ok (.lastore, 1) := by decide +kernel
theorem dL_lineY_9 : decode cL_lineY 9 = .ok (.goto 9, 3) := by decide +kernel
theorem dL_lineY_12 : decode cL_lineY 12 = .ok (.astore_n 3, 1) := by decide +kernel
theorem dL_lineY_13 : decode cL_lineY 13 = .ok (.iconst 1, 1) := by decide +kernel
theorem dL_lineY_14 : decode cL_lineY 14 = .ok (.ireturn, 1) := by decide +kernel
theorem dL_lineY_15 : decode cL_lineY 15 = .ok (.astore_n 3, 1) := by decide +kernel
theorem dL_lineY_16 : decode cL_lineY 16 = .ok (.iconst 2, 1) := by decide +kernel
theorem dL_lineY_17 : decode cL_lineY 17 = .ok (.ireturn, 1) := by decide +kernel
theorem dL_lineY_18 : decode cL_lineY 18 = .ok (.iconst 0, 1) := by decide +kernel
theorem dL_lineY_19 : decode cL_lineY 19 = .ok (.ireturn, 1) := by decide +kernel
theorem dL_close_0 : decode cL_close 0 = .ok (.aload_n 3, 1) := by decide +kernel
theorem dL_close_1 : decode cL_close 1 = .ok (.iconst 0, 1) := by decide +kernel
theorem dL_close_2 : decode cL_close 2 = .ok (.aload_n 0, 1) := by decide +kernel
theorem dL_close_3 : decode cL_close 3 = .ok (.iload_n 1, 1) := by decide +kernel
theorem dL_close_4 : decode cL_close 4 = .ok (.iload_n 2, 1) := by decide +kernel
theorem dL_close_5 : decode cL_close 5 = .ok (.invokevirtual 24, 3) := by decide +kernel
theorem dL_close_8 : decode cL_close 8 = .ok (.i2l, 1) := by decide +kernel
theorem dL_close_9 : decode cL_close 9 = .ok (.lastore, 1) := by decide +kernel
theorem dL_close_10 : decode cL_close 10 = .ok (.goto 11, 3) := by decide +kernel
theorem dL_close_13 : decode cL_close 13 = .ok (.astore 4, 2) := by decide +kernel
theorem dL_close_15 : decode cL_close 15 = .ok (.iconst 1, 1) := by decide +kernel
theorem dL_close_16 : decode cL_close 16 = .ok (.ireturn, 1) := by decide +kernel
theorem dL_close_17 : decode cL_close 17 = .ok (.astore 4, 2) := by decide +kernel
theorem dL_close_19 : decode cL_close 19 = .ok (.iconst 2, 1) := by decide +kernel
theorem dL_close_20 : decode cL_close 20 = .ok (.ireturn, 1) := by decide +kernel
theorem dL_close_21 : decode cL_close 21 = .ok (.iconst 0, 1) := by decide +kernel
theorem dL_close_22 : decode cL_close 22 = .ok (.ireturn, 1) := by decide +kernel
theorem dL_addRectangle_0 : decode cL_addRectangle 0 = .ok (.aload 6, 2) := by decide +kernel
theorem dL_addRectangle_2 : decode cL_addRectangle 2 = .ok (.iconst 0, 1) := by decide +kernel
theorem dL_addRectangle_3 : decode cL_addRectangle 3 = .ok (.aload_n 0, 1) := by decide +kernel
theorem dL_addRectangle_4 : decode cL_addRectangle 4 = .ok (.iload_n 1, 1) := by decide +kernel
theorem dL_addRectangle_5 : decode cL_addRectangle 5 = .ok (.iload_n 2, 1) := by decide +kernel
theorem dL_addRectangle_6 : decode cL_addRectangle 6 = .ok (.iload_n 3, 1) := by decide +kernel
theorem dL_addRectangle_7 : decode cL_addRectangle 7 = .ok (.iload 4, 2) := by decide +kernel
theorem dL_addRectangle_9 : decode cL_addRectangle 9 = .ok (.iload 5, 2) := by decide +kernel
theorem dL_addRectangle_11 : decode cL_addRectangle 11 = .ok (.invokevirtual 29, 3) := by decide +kernel
theorem dL_addRectangle_14 : decode cL_addRectangle 14 = .ok (.i2l, 1) := by decide +kernel
theorem dL_addRectangle_15 : decode cL_addRectangle 15 = .ok (.lastore, 1) := by decide +kernel
theorem dL_addRectangle_16 : decode cL_addRectangle 16 = .ok (.goto 15, 3) := by decide +kernel
theorem dL_addRectangle_19 : decode cL_addRectangle 19 = .ok (.astore 7, 2) := by decide +kernel
theorem dL_addRectangle_21 : decode cL_addRectangle 21 = .ok (.iconst 1, 1) := by decide +kernel
theorem dL_addRectangle_22 : decode cL_addRectangle 22 = .ok (.ireturn, 1) := by decide +kernel
theorem dL_addRectangle_23 : decode cL_addRectangle 23 = .ok (.astore 7, 2) := by decide +kernel
theorem dL_addRectangle_25 : decode cL_addRectangle 25 = .ok (.iconst 2, 1) := by decide +kernel
theorem dL_addRectangle_26 : decode cL_addRectangle 26 = .ok (.ireturn, 1) := by decide +kernel
theorem dL_addRectangle_27 : decode cL_addRectangle 27 = .ok (.astore 7, 2) := by decide +kernel
theorem dL_addRectangle_29 : decode cL_addRectangle 29 = .ok (.iconst 3, 1) := by decide +kernel
theorem dL_addRectangle_30 : decode cL_addRectangle 30 = .ok (.ireturn, 1) := by decide +kernel
theorem dL_addRectangle_31 : decode cL_addRectangle 31 = .ok (.iconst 0, 1) := by decide +kernel
theorem dL_addRectangle_32 : decode cL_addRectangle 32 = .ok (.ireturn, 1) := by decide +kernel
theorem dL_combine_0 : decode cL_combine 0 = .ok (.aload 5, 2) := by decide +kernel
theorem dL_combine_2 : decode cL_combine 2 = .ok (.iconst 0, 1) := by decide +kernel
theorem dL_combine_3 : decode cL_combine 3 = .ok (.aload_n 0, 1) := by decide +kernel
theorem dL_combine_4 : decode cL_combine 4 = .ok (.iload_n 1, 1) := by decide +kernel
theorem dL_combine_5 : decode cL_combine 5 = .ok (.iload_n 2, 1) := by decide +kernel
theorem dL_combine_6 : decode cL_combine 6 = .ok (.iload_n 3, 1) := by decide +kernel
theorem dL_combine_7 : decode cL_combine 7 = .ok (.iload 4, 2) := by decide +kernel
theorem dL_combine_9 : decode cL_combine 9 = .ok (.invokevirtual 33, 3) := by decide +kernel
theorem dL_combine_12 : decode cL_combine 12 = .ok (.i2l, 1) := by decide +kernel
theorem dL_combine_13 : decode cL_combine 13 = .ok (.lastore, 1) := by decide +kernel
theorem dL_combine_14 : decode cL_combine 14 = .ok (.goto 11, 3) := by decide +kernel
theorem dL_combine_17 : decode cL_combine 17 = .ok (.astore 6, 2) := by decide +kernel
theorem dL_combine_19 : decode cL_combine 19 = .ok (.iconst 1, 1) := by decide +kernel
theorem dL_combine_20 : decode cL_combine 20 = .ok (.ireturn, 1) := by decide +kernel
theorem dL_combine_21 : decode cL_combine 21 = .ok (.astore 6, 2) := by decide +kernel
theorem dL_combine_23 : decode cL_combine 23 = .ok (.iconst 2, 1) := by decide +kernel
theorem dL_combine_24 : decode cL_combine 24 = .ok (.ireturn, 1) := by decide +kernel
theorem dL_combine_25 : decode cL_combine 25 = .ok (.iconst 0, 1) := by decide +kernel
theorem dL_combine_26 : decode cL_combine 26 = .ok (.ireturn, 1) := by decide +kernel
theorem dL_move_0 : decode cL_move 0 = .ok (.aload 4, 2) := by decide +kernel
theorem dL_move_2 : decode cL_move 2 = .ok (.iconst 0, 1) := by decide +kernel
theorem dL_move_3 : decode cL_move 3 = .ok (.aload_n 0, 1) := by decide +kernel
theorem dL_move_4 : decode cL_move 4 = .ok (.iload_n 1, 1) := by decide +kernel
theorem dL_move_5 : decode cL_move 5 = .ok (.iload_n 2, 1) := by decide +kernel
theorem dL_move_6 : decode cL_move 6 = .ok (.iload_n 3, 1) := by decide +kernel
theorem dL_move_7 : decode cL_move 7 = .ok (.invokevirtual 37, 3) := by decide +kernel
theorem dL_move_10 : decode cL_move 10 = .ok (.i2l, 1) := by decide +kernel
theorem dL_move_11 : decode cL_move 11 = .ok (.lastore, 1) := by decide +kernel
theorem dL_move_12 : decode cL_move 12 = .ok (.goto 15, 3) := by decide +kernel
theorem dL_move_15 : decode cL_move 15 = .ok (.astore 5, 2) := by decide +kernel
theorem dL_move_17 : decode cL_move 17 = .ok (.iconst 1, 1) := by decide +kernel
theorem dL_move_18 : decode cL_move 18 = .ok (.ireturn, 1) := by decide +kernel
theorem dL_move_19 : decode cL_move 19 = .ok (.astore 5, 2) := by decide +kernel
theorem dL_move_21 : decode cL_move 21 = .ok (.iconst 2, 1) := by decide +kernel
theorem dL_move_22 : decode cL_move 22 = .ok (.ireturn, 1) := by decide +kernel
theorem dL_move_23 : decode cL_move 23 = .ok (.astore 5, 2) := by decide +kernel
theorem dL_move_25 : decode cL_move 25 = .ok (.iconst 3, 1) := by decide +kernel
theorem dL_move_26 : decode cL_move 26 = .ok (.ireturn, 1) := by decide +kernel
theorem dL_move_27 : decode cL_move 27 = .ok (.iconst 0, 1) := by decide +kernel
theorem dL_move_28 : decode cL_move 28 = .ok (.ireturn, 1) := by decide +kernel
theorem dL_turn_0 : decode cL_turn 0 = .ok (.aload_n 3, 1) := by decide +kernel
theorem dL_turn_1 : decode cL_turn 1 = .ok (.iconst 0, 1) := by decide +kernel
theorem dL_turn_2 : decode cL_turn 2 = .ok (.aload_n 0, 1) := by decide +kernel
theorem dL_turn_3 : decode cL_turn 3 = .ok (.iload_n 1, 1) := by decide +kernel
theorem dL_turn_4 : decode cL_turn 4 = .ok (.iload_n 2, 1) := by decide +kernel
theorem dL_turn_5 : decode cL_turn 5 = .ok (.invokevirtual 41, 3) := by decide +kernel
theorem dL_turn_8 : decode cL_turn 8 = .ok (.i2l, 1) := by decide +kernel
theorem dL_turn_9 : decode cL_turn 9 = .ok (.lastore, 1) := by decide +kernel
theorem dL_turn_10 : decode cL_turn 10 = .ok (.goto 11, 3) := by decide +kernel
theorem dL_turn_13 : decode cL_turn 13 = .ok (.astore 4, 2) := by decide +kernel
theorem dL_turn_15 : decode cL_turn 15 = .ok (.iconst 1, 1) := by decide +kernel
theorem dL_turn_16 : decode cL_turn 16 = .ok (.ireturn, 1) := by decide +kernel
theorem dL_turn_17 : decode cL_turn 17 = .ok (.astore 4, 2) := by decide +kernel
theorem dL_turn_19 : decode cL_turn 19 = .ok (.iconst 2, 1) := by decide +kernel
theorem dL_turn_20 : decode cL_turn 20 = .ok (.ireturn, 1) := by decide +kernel
theorem dL_turn_21 : decode cL_turn 21 = .ok (.iconst 0, 1) := by decide +kernel
theorem dL_turn_22 : decode cL_turn 22 = .ok (.ireturn, 1) := by decide +kernel
theorem dL_mirror_0 : decode cL_mirror 0 = .ok (.aload_n 2, 1) := by decide +kernel
theorem dL_mirror_1 : decode cL_mirror 1 = .ok (.iconst 0, 1) := by decide +kernel
theorem dL_mirror_2 : decode cL_mirror 2 = .ok (.aload_n 0, 1) := by decide +kernel
theorem dL_mirror_3 : decode cL_mirror 3 = .ok (.iload_n 1, 1) := by decide +kernel
theorem dL_mirror_4 : decode cL_mirror 4 = .ok (.invokevirtual 44, 3) := by decide +kernel
theorem dL_mirror_7 : decode cL_mirror 7 = .ok (.i2l, 1) := by decide +kernel
theorem dL_mirror_8 : decode cL_mirror 8 = .ok (.lastore, 1) := by decide +kernel
theorem dL_mirror_9 : decode cL_mirror 9 = .ok (.goto 6, 3) := by decide +kernel
theorem dL_mirror_12 : decode cL_mirror 12 = .ok (.astore_n 3, 1) := by decide +kernel
theorem dL_mirror_13 : decode cL_mirror 13 = .ok (.iconst 1, 1) := by decide +kernel
theorem dL_mirror_14 : decode cL_mirror 14 = .ok (.ireturn, 1) := by decide +kernel
theorem dL_mirror_15 : decode cL_mirror 15 = .ok (.iconst 0, 1) := by decide +kernel
theorem dL_mirror_16 : decode cL_mirror 16 = .ok (.ireturn, 1) := by decide +kernel
theorem dL_grow_0 : decode cL_grow 0 = .ok (.aload 4, 2) := by decide +kernel
theorem dL_grow_2 : decode cL_grow 2 = .ok (.iconst 0, 1) := by decide +kernel
theorem dL_grow_3 : decode cL_grow 3 = .ok (.aload_n 0, 1) := by decide +kernel
theorem dL_grow_4 : decode cL_grow 4 = .ok (.iload_n 1, 1) := by decide +kernel
theorem dL_grow_5 : decode cL_grow 5 = .ok (.iload_n 2, 1) := by decide +kernel
theorem dL_grow_6 : decode cL_grow 6 = .ok (.iload_n 3, 1) := by decide +kernel
theorem dL_grow_7 : decode cL_grow 7 = .ok (.invokevirtual 47, 3) := by decide +kernel
theorem dL_grow_10 : decode cL_grow 10 = .ok (.i2l, 1) := by decide +kernel
theorem dL_grow_11 : decode cL_grow 11 = .ok (.lastore, 1) := by decide +kernel
theorem dL_grow_12 : decode cL_grow 12 = .ok (.goto 15, 3) := by decide +kernel
theorem dL_grow_15 : decode cL_grow 15 = .ok (.astore 5, 2) := by decide +kernel
theorem dL_grow_17 : decode cL_grow 17 = .ok (.iconst 1, 1) := by decide +kernel
theorem dL_grow_18 : decode cL_grow 18 = .ok (.ireturn, 1) := by decide +kernel
theorem dL_grow_19 : decode cL_grow 19 = .ok (.astore 5, 2) := by decide +kernel
theorem dL_grow_21 : decode cL_grow 21 = .ok (.iconst 2, 1) := by decide +kernel
theorem dL_grow_22 : decode cL_grow 22 = .ok (.ireturn, 1) := by decide +kernel
theorem dL_grow_23 : decode cL_grow 23 = .ok (.astore 5, 2) := by decide +kernel
theorem dL_grow_25 : decode cL_grow 25 = .ok (.iconst 3, 1) := by decide +kernel
theorem dL_grow_26 : decode cL_grow 26 = .ok (.ireturn, 1) := by decide +kernel
theorem dL_grow_27 : decode cL_grow 27 = .ok (.iconst 0, 1) := by decide +kernel
theorem dL_grow_28 : decode cL_grow 28 = .ok (.ireturn, 1) := by decide +kernel
theorem dL_shrink_0 : decode cL_shrink 0 = .ok (.aload 4, 2) := by decide +kernel
theorem dL_shrink_2 : decode cL_shrink 2 = .ok (.iconst 0, 1) := by decide +kernel
theorem dL_shrink_3 : decode cL_shrink 3 = .ok (.aload_n 0, 1) := by decide +kernel
theorem dL_shrink_4 : decode cL_shrink 4 = .ok (.iload_n 1, 1) := by decide +kernel
theorem dL_shrink_5 : decode cL_shrink 5 = .ok (.iload_n 2, 1) := by decide +kernel
theorem dL_shrink_6 : decode cL_shrink 6 = .ok (.iload_n 3, 1) := by decide +kernel
theorem dL_shrink_7 : decode cL_shrink 7 = .ok (.invokevirtual 50, 3) := by decide +kernel
theorem dL_shrink_10 : decode cL_shrink 10 = .ok (.i2l, 1) := by decide +kernel
theorem dL_shrink_11 : decode cL_shrink 11 = .ok (.lastore, 1) := by decide +kernel
theorem dL_shrink_12 : decode cL_shrink 12 = .ok (.goto 11, 3) := by decide +kernel
theorem dL_shrink_15 : decode cL_shrink 15 = .ok (.astore 5, 2) := by decide +kernel
theorem dL_shrink_17 : decode cL_shrink 17 = .ok (.iconst 1, 1) := by decide +kernel
theorem dL_shrink_18 : decode cL_shrink 18 = .ok (.ireturn, 1) := by decide +kernel
theorem dL_shrink_19 : decode cL_shrink 19 = .ok (.astore 5, 2) := by decide +kernel
theorem dL_shrink_21 : decode cL_shrink 21 = .ok (.iconst 2, 1) := by decide +kernel
theorem dL_shrink_22 : decode cL_shrink 22 = .ok (.ireturn, 1) := by decide +kernel
theorem dL_shrink_23 : decode cL_shrink 23 = .ok (.iconst 0, 1) := by decide +kernel
theorem dL_shrink_24 : decode cL_shrink 24 = .ok (.ireturn, 1) := by decide +kernel
theorem dL_fill_0 : decode cL_fill 0 = .ok (.aload_n 2, 1) := by decide +kernel
theorem dL_fill_1 : decode cL_fill 1 = .ok (.iconst 0, 1) := by decide +kernel
theorem dL_fill_2 : decode cL_fill 2 = .ok (.aload_n 0, 1) := by decide +kernel
theorem dL_fill_3 : decode cL_fill 3 = .ok (.iload_n 1, 1) := by decide +kernel
theorem dL_fill_4 : decode cL_fill 4 = .ok (.invokevirtual 53, 3) := by decide +kernel
theorem dL_fill_7 : decode cL_fill 7 = .ok (.i2l, 1) := by decide +kernel
theorem dL_fill_8 : decode cL_fill 8 = .ok (.lastore, 1) := by decide +kernel
theorem dL_fill_9 : decode cL_fill 9 = .ok (.goto 6, 3) := by decide +kernel
theorem dL_fill_12 : decode cL_fill 12 = .ok (.astore_n 3, 1) := by decide +kernel
theorem dL_fill_13 : decode cL_fill 13 = .ok (.iconst 1, 1) := by decide +kernel
theorem dL_fill_14 : decode cL_fill 14 = .ok (.ireturn, 1) := by decide +kernel
theorem dL_fill_15 : decode cL_fill 15 = .ok (.iconst 0, 1) := by decide +kernel
theorem dL_fill_16 : decode cL_fill 16 = .ok (.ireturn, 1) := by decide +kernel
theorem dL_keepPiece_0 : decode cL_keepPiece 0 = .ok (.aload 4, 2) := by decide +kernel
theorem dL_keepPiece_2 : decode cL_keepPiece 2 = .ok (.iconst 0, 1) := by decide +kernel
theorem dL_keepPiece_3 : decode cL_keepPiece 3 = .ok (.aload_n 0, 1) := by decide +kernel
theorem dL_keepPiece_4 : decode cL_keepPiece 4 = .ok (.iload_n 1, 1) := by decide +kernel
theorem dL_keepPiece_5 : decode cL_keepPiece 5 = .ok (.iload_n 2, 1) := by decide +kernel
theorem dL_keepPiece_6 : decode cL_keepPiece 6 = .ok (.iload_n 3, 1) := by decide +kernel
theorem dL_keepPiece_7 : decode cL_keepPiece 7 = .ok (.invokevirtual 56, 3) := by decide +kernel
theorem dL_keepPiece_10 : decode cL_keepPiece 10 = .ok (.i2l, 1) := by decide +kernel
theorem dL_keepPiece_11 : decode cL_keepPiece 11 = .ok (.lastore, 1) := by decide +kernel
theorem dL_keepPiece_12 : decode cL_keepPiece 12 = .ok (.goto 7, 3) := by decide +kernel
theorem dL_keepPiece_15 : decode cL_keepPiece 15 = .ok (.astore 5, 2) := by decide +kernel
theorem dL_keepPiece_17 : decode cL_keepPiece 17 = .ok (.iconst 1, 1) := by decide +kernel
theorem dL_keepPiece_18 : decode cL_keepPiece 18 = .ok (.ireturn, 1) := by decide +kernel
