theorem dX7_parts_89 : decode cX7_parts 89 = .ok (.iconst 0, 1) := by decide +kernel
theorem dX7_parts_90 : decode cX7_parts 90 = .ok (.istore 9, 2) := by decide +kernel
theorem dX7_parts_92 : decode cX7_parts 92 = .ok (.aload 4, 2) := by decide +kernel
theorem dX7_parts_94 : decode cX7_parts 94 = .ok (.iload 9, 2) := by decide +kernel
theorem dX7_parts_96 : decode cX7_parts 96 = .ok (.iinc 9 1, 3) := by decide +kernel
theorem dX7_parts_99 : decode cX7_parts 99 = .ok (.iload 6, 2) := by decide +kernel
theorem dX7_parts_101 : decode cX7_parts 101 = .ok (.iastore, 1) := by decide +kernel
theorem dX7_parts_102 : decode cX7_parts 102 = .ok (.iload 8, 2) := by decide +kernel
theorem dX7_parts_104 : decode cX7_parts 104 = .ok (.iload 9, 2) := by decide +kernel
theorem dX7_parts_106 : decode cX7_parts 106 = .ok (.if_icmp .ge 167, 3) := by decide +kernel
theorem dX7_parts_109 : decode cX7_parts 109 = .ok (.aload 4, 2) := by decide +kernel
theorem dX7_parts_111 : decode cX7_parts 111 = .ok (.iload 8, 2) := by decide +kernel
theorem dX7_parts_113 : decode cX7_parts 113 = .ok (.iinc 8 1, 3) := by decide +kernel
theorem dX7_parts_116 : decode cX7_parts 116 = .ok (.iaload, 1) := by decide +kernel
theorem dX7_parts_117 : decode cX7_parts 117 = .ok (.istore 10, 2) := by decide +kernel
theorem dX7_parts_119 : decode cX7_parts 119 = .ok (.iconst 0, 1) := by decide +kernel
theorem dX7_parts_120 : decode cX7_parts 120 = .ok (.istore 11, 2) := by decide +kernel
theorem dX7_parts_122 : decode cX7_parts 122 = .ok (.iload 11, 2) := by decide +kernel
theorem dX7_parts_124 : decode cX7_parts 124 = .ok (.bipush 9, 2) := by decide +kernel
theorem dX7_parts_126 : decode cX7_parts 126 = .ok (.if_icmp .ge 144, 3) := by decide +kernel
theorem dX7_parts_129 : decode cX7_parts 129 = .ok (.iload 11, 2) := by decide +kernel
theorem dX7_parts_131 : decode cX7_parts 131 = .ok (.iconst 3, 1) := by decide +kernel
theorem dX7_parts_132 : decode cX7_parts 132 = .ok (.irem, 1) := by decide +kernel
theorem dX7_parts_133 : decode cX7_parts 133 = .ok (.iconst 1, 1) := by decide +kernel
theorem dX7_parts_134 : decode cX7_parts 134 = .ok (.isub, 1) := by decide +kernel
theorem dX7_parts_135 : decode cX7_parts 135 = .ok (.istore 12, 2) := by decide +kernel
theorem dX7_parts_137 : decode cX7_parts 137 = .ok (.iload 11, 2) := by decide +kernel
theorem dX7_parts_139 : decode cX7_parts 139 = .ok (.iconst 3, 1) := by decide +kernel
theorem dX7_parts_140 : decode cX7_parts 140 = .ok (.idiv, 1) := by decide +kernel
theorem dX7_parts_141 : decode cX7_parts 141 = .ok (.iconst 1, 1) := by decide +kernel
theorem dX7_parts_142 : decode cX7_parts 142 = .ok (.isub, 1) := by decide +kernel
theorem dX7_parts_143 : decode cX7_parts 143 = .ok (.istore 13, 2) := by decide +kernel
theorem dX7_parts_145 : decode cX7_parts 145 = .ok (.iload_n 1, 1) := by decide +kernel
theorem dX7_parts_146 : decode cX7_parts 146 = .ok (.ifCond .eq 16, 3) := by decide +kernel
theorem dX7_parts_162 : decode cX7_parts 162 = .ok (.iload 10, 2) := by decide +kernel
theorem dX7_parts_164 : decode cX7_parts 164 = .ok (.iload_n 2, 1) := by decide +kernel
theorem dX7_parts_165 : decode cX7_parts 165 = .ok (.irem, 1) := by decide +kernel
theorem dX7_parts_166 : decode cX7_parts 166 = .ok (.iload 12, 2) := by decide +kernel
theorem dX7_parts_168 : decode cX7_parts 168 = .ok (.iadd, 1) := by decide +kernel
theorem dX7_parts_169 : decode cX7_parts 169 = .ok (.istore 14, 2) := by decide +kernel
theorem dX7_parts_171 : decode cX7_parts 171 = .ok (.iload 10, 2) := by decide +kernel
theorem dX7_parts_173 : decode cX7_parts 173 = .ok (.iload_n 2, 1) := by decide +kernel
theorem dX7_parts_174 : decode cX7_parts 174 = .ok (.idiv, 1) := by decide +kernel
theorem dX7_parts_175 : decode cX7_parts 175 = .ok (.iload 13, 2) := by decide +kernel
theorem dX7_parts_177 : decode cX7_parts 177 = .ok (.iadd, 1) := by decide +kernel
theorem dX7_parts_178 : decode cX7_parts 178 = .ok (.istore 15, 2) := by decide +kernel
theorem dX7_parts_180 : decode cX7_parts 180 = .ok (.iload 14, 2) := by decide +kernel
theorem dX7_parts_182 : decode cX7_parts 182 = .ok (.iconst 0, 1) := by decide +kernel
theorem dX7_parts_183 : decode cX7_parts 183 = .ok (.iload_n 2, 1) := by decide +kernel
theorem dX7_parts_184 : decode cX7_parts 184 = .ok (.iconst 1, 1) := by decide +kernel
theorem dX7_parts_185 : decode cX7_parts 185 = .ok (.isub, 1) := by decide +kernel
theorem dX7_parts_186 : decode cX7_parts 186 = .ok (.invokestatic 36, 3) := by decide +kernel
theorem dX7_parts_189 : decode cX7_parts 189 = .ok (.ifCond .eq 75, 3) := by decide +kernel
theorem dX7_parts_192 : decode cX7_parts 192 = .ok (.iload 15, 2) := by decide +kernel
theorem dX7_parts_194 : decode cX7_parts 194 = .ok (.iconst 0, 1) := by decide +kernel
theorem dX7_parts_195 : decode cX7_parts 195 = .ok (.iload_n 2, 1) := by decide +kernel
theorem dX7_parts_196 : decode cX7_parts 196 = .ok (.iconst 1, 1) := by decide +kernel
theorem dX7_parts_197 : decode cX7_parts 197 = .ok (.isub, 1) := by decide +kernel
theorem dX7_parts_198 : decode cX7_parts 198 = .ok (.invokestatic 36, 3) := by decide +kernel
theorem dX7_parts_201 : decode cX7_parts 201 = .ok (.ifCond .ne 6, 3) := by decide +kernel
theorem dX7_parts_204 : decode cX7_parts 204 = .ok (.goto 60, 3) := by decide +kernel
theorem dX7_parts_207 : decode cX7_parts 207 = .ok (.iload 15, 2) := by decide +kernel
theorem dX7_parts_209 : decode cX7_parts 209 = .ok (.iload_n 2, 1) := by decide +kernel
theorem dX7_parts_210 : decode cX7_parts 210 = .ok (.imul, 1) := by decide +kernel
theorem dX7_parts_211 : decode cX7_parts 211 = .ok (.iload 14, 2) := by decide +kernel
theorem dX7_parts_213 : decode cX7_parts 213 = .ok (.iadd, 1) := by decide +kernel
theorem dX7_parts_214 : decode cX7_parts 214 = .ok (.istore 16, 2) := by decide +kernel
theorem dX7_parts_216 : decode cX7_parts 216 = .ok (.aload_n 3, 1) := by decide +kernel
theorem dX7_parts_217 : decode cX7_parts 217 = .ok (.iload 16, 2) := by decide +kernel
theorem dX7_parts_219 : decode cX7_parts 219 = .ok (.iaload, 1) := by decide +kernel
theorem dX7_parts_220 : decode cX7_parts 220 = .ok (.ifCond .ne 44, 3) := by decide +kernel
theorem dX7_parts_223 : decode cX7_parts 223 = .ok (.aload_n 0, 1) := by decide +kernel
theorem dX7_parts_224 : decode cX7_parts 224 = .ok (.iload 14, 2) := by decide +kernel
theorem dX7_parts_226 : decode cX7_parts 226 = .ok (.bipush (-32), 2) := by decide +kernel
theorem dX7_parts_228 : decode cX7_parts 228 = .ok (.iadd, 1) := by decide +kernel
theorem dX7_parts_229 : decode cX7_parts 229 = .ok (.iconst 1, 1) := by decide +kernel
theorem dX7_parts_230 : decode cX7_parts 230 = .ok (.isub, 1) := by decide +kernel
theorem dX7_parts_231 : decode cX7_parts 231 = .ok (.iload 15, 2) := by decide +kernel
theorem dX7_parts_233 : decode cX7_parts 233 = .ok (.bipush (-32), 2) := by decide +kernel
theorem dX7_parts_235 : decode cX7_parts 235 = .ok (.iadd, 1) := by decide +kernel
theorem dX7_parts_236 : decode cX7_parts 236 = .ok (.iconst 1, 1) := by decide +kernel
theorem dX7_parts_237 : decode cX7_parts 237 = .ok (.isub, 1) := by decide +kernel
theorem dX7_parts_238 : decode cX7_parts 238 = .ok (.invokestatic 95, 3) := by decide +kernel
theorem dX7_parts_241 : decode cX7_parts 241 = .ok (.iload_n 1, 1) := by decide +kernel
theorem dX7_parts_242 : decode cX7_parts 242 = .ok (.if_icmp .eq 6, 3) := by decide +kernel
theorem dX7_parts_248 : decode cX7_parts 248 = .ok (.aload_n 3, 1) := by decide +kernel
theorem dX7_parts_249 : decode cX7_parts 249 = .ok (.iload 16, 2) := by decide +kernel
theorem dX7_parts_251 : decode cX7_parts 251 = .ok (.iload 5, 2) := by decide +kernel
theorem dX7_parts_253 : decode cX7_parts 253 = .ok (.iastore, 1) := by decide +kernel
theorem dX7_parts_254 : decode cX7_parts 254 = .ok (.aload 4, 2) := by decide +kernel
theorem dX7_parts_256 : decode cX7_parts 256 = .ok (.iload 9, 2) := by decide +kernel
theorem dX7_parts_258 : decode cX7_parts 258 = .ok (.iinc 9 1, 3) := by decide +kernel
theorem dX7_parts_261 : decode cX7_parts 261 = .ok (.iload 16, 2) := by decide +kernel
theorem dX7_parts_263 : decode cX7_parts 263 = .ok (.iastore, 1) := by decide +kernel
theorem dX7_parts_264 : decode cX7_parts 264 = .ok (.iinc 11 1, 3) := by decide +kernel
theorem dX7_parts_267 : decode cX7_parts 267 = .ok (.goto (-145), 3) := by decide +kernel
theorem dX7_parts_270 : decode cX7_parts 270 = .ok (.goto (-168), 3) := by decide +kernel
theorem dX7_parts_273 : decode cX7_parts 273 = .ok (.iinc 6 1, 3) := by decide +kernel
theorem dX7_parts_276 : decode cX7_parts 276 = .ok (.goto (-254), 3) := by decide +kernel
theorem dX7_parts_279 : decode cX7_parts 279 = .ok (.aload_n 3, 1) := by decide +kernel
theorem dX7_parts_280 : decode cX7_parts 280 = .ok (.areturn, 1) := by decide +kernel
theorem dX7_most_0 : decode cX7_most 0 = .ok (.iconst 0, 1) := by decide +kernel
theorem dX7_most_1 : decode cX7_most 1 = .ok (.istore_n 1, 1) := by decide +kernel
theorem dX7_most_2 : decode cX7_most 2 = .ok (.aload_n 0, 1) := by decide +kernel
theorem dX7_most_3 : decode cX7_most 3 = .ok (.astore_n 2, 1) := by decide +kernel
theorem dX7_most_4 : decode cX7_most 4 = .ok (.aload_n 2, 1) := by decide +kernel
theorem dX7_most_5 : decode cX7_most 5 = .ok (.arraylength, 1) := by decide +kernel
theorem dX7_most_6 : decode cX7_most 6 = .ok (.istore_n 3, 1) := by decide +kernel
theorem dX7_most_7 : decode cX7_most 7 = .ok (.iconst 0, 1) := by decide +kernel
theorem dX7_most_8 : decode cX7_most 8 = .ok (.istore 4, 2) := by decide +kernel
theorem dX7_most_10 : decode cX7_most 10 = .ok (.iload 4, 2) := by decide +kernel
theorem dX7_most_12 : decode cX7_most 12 = .ok (.iload_n 3, 1) := by decide +kernel
theorem dX7_most_13 : decode cX7_most 13 = .ok (.if_icmp .ge 22, 3) := by decide +kernel
theorem dX7_most_16 : decode cX7_most 16 = .ok (.aload_n 2, 1) := by decide +kernel
theorem dX7_most_17 : decode cX7_most 17 = .ok (.iload 4, 2) := by decide +kernel
theorem dX7_most_19 : decode cX7_most 19 = .ok (.iaload, 1) := by decide +kernel
theorem dX7_most_20 : decode cX7_most 20 = .ok (.istore 5, 2) := by decide +kernel
theorem dX7_most_22 : decode cX7_most 22 = .ok (.iload_n 1, 1) := by decide +kernel
theorem dX7_most_23 : decode cX7_most 23 = .ok (.iload 5, 2) := by decide +kernel
theorem dX7_most_25 : decode cX7_most 25 = .ok (.invokestatic 73, 3) := by decide +kernel
theorem dX7_most_28 : decode cX7_most 28 = .ok (.istore_n 1, 1) := by decide +kernel
theorem dX7_most_29 : decode cX7_most 29 = .ok (.iinc 4 1, 3) := by decide +kernel
theorem dX7_most_32 : decode cX7_most 32 = .ok (.goto (-22), 3) := by decide +kernel
theorem dX7_most_35 : decode cX7_most 35 = .ok (.iload_n 1, 1) := by decide +kernel
theorem dX7_most_36 : decode cX7_most 36 = .ok (.ireturn, 1) := by decide +kernel
theorem dX7_holesNow_0 : decode cX7_holesNow 0 = .ok (.aload_n 0, 1) := by decide +kernel
theorem dX7_holesNow_1 : decode cX7_holesNow 1 = .ok (.getfield 11, 3) := by decide +kernel
theorem dX7_holesNow_4 : decode cX7_holesNow 4 = .ok (.iload_n 1, 1) := by decide +kernel
theorem dX7_holesNow_5 : decode cX7_holesNow 5 = .ok (.aaload, 1) := by decide +kernel
theorem dX7_holesNow_6 : decode cX7_holesNow 6 = .ok (.iconst 0, 1) := by decide +kernel
theorem dX7_holesNow_7 : decode cX7_holesNow 7 = .ok (.invokestatic 99, 3) := by decide +kernel
theorem dX7_holesNow_10 : decode cX7_holesNow 10 = .ok (.invokestatic 103, 3) := by decide +kernel
theorem dX7_holesNow_13 : decode cX7_holesNow 13 = .ok (.iconst 1, 1) := by decide +kernel
theorem dX7_holesNow_14 : decode cX7_holesNow 14 = .ok (.isub, 1) := by decide +kernel
theorem dX7_holesNow_15 : decode cX7_holesNow 15 = .ok (.ireturn, 1) := by decide +kernel
theorem dX7_edgesNow_0 : decode cX7_edgesNow 0 = .ok (.iconst 0, 1) := by decide +kernel
theorem dX7_edgesNow_1 : decode cX7_edgesNow 1 = .ok (.istore_n 2, 1) := by decide +kernel
theorem dX7_edgesNow_2 : decode cX7_edgesNow 2 = .ok (.bipush (-32), 2) := by decide +kernel
theorem dX7_edgesNow_4 : decode cX7_edgesNow 4 = .ok (.istore_n 3, 1) := by decide +kernel
theorem dX7_edgesNow_5 : decode cX7_edgesNow 5 = .ok (.iload_n 3, 1) := by decide +kernel
theorem dX7_edgesNow_6 : decode cX7_edgesNow 6 = .ok (.bipush 31, 2) := by decide +kernel
theorem dX7_edgesNow_8 : decode cX7_edgesNow 8 = .ok (.if_icmp .gt 145, 3) := by decide +kernel
theorem dX7_edgesNow_11 : decode cX7_edgesNow 11 = .ok (.bipush (-32), 2) := by decide +kernel
theorem dX7_edgesNow_13 : decode cX7_edgesNow 13 = .ok (.istore 4, 2) := by decide +kernel
theorem dX7_edgesNow_15 : decode cX7_edgesNow 15 = .ok (.iload 4, 2) := by decide +kernel
theorem dX7_edgesNow_17 : decode cX7_edgesNow 17 = .ok (.bipush 31, 2) := by decide +kernel
theorem dX7_edgesNow_19 : decode cX7_edgesNow 19 = .ok (.if_icmp .gt 128, 3) := by decide +kernel
theorem dX7_edgesNow_22 : decode cX7_edgesNow 22 = .ok (.aload_n 0, 1) := by decide +kernel
theorem dX7_edgesNow_23 : decode cX7_edgesNow 23 = .ok (.getfield 11, 3) := by decide +kernel
theorem dX7_edgesNow_26 : decode cX7_edgesNow 26 = .ok (.iload_n 1, 1) := by decide +kernel
theorem dX7_edgesNow_27 : decode cX7_edgesNow 27 = .ok (.aaload, 1) := by decide +kernel
theorem dX7_edgesNow_28 : decode cX7_edgesNow 28 = .ok (.iload_n 3, 1) := by decide +kernel
theorem dX7_edgesNow_29 : decode cX7_edgesNow 29 = .ok (.iload 4, 2) := by decide +kernel
theorem dX7_edgesNow_31 : decode cX7_edgesNow 31 = .ok (.invokestatic 44, 3) := by decide +kernel
theorem dX7_edgesNow_34 : decode cX7_edgesNow 34 = .ok (.baload, 1) := by decide +kernel
theorem dX7_edgesNow_35 : decode cX7_edgesNow 35 = .ok (.ifCond .ne 6, 3) := by decide +kernel
theorem dX7_edgesNow_38 : decode cX7_edgesNow 38 = .ok (.goto 103, 3) := by decide +kernel
theorem dX7_edgesNow_141 : decode cX7_edgesNow 141 = .ok (.iinc 4 1, 3) := by decide +kernel
theorem dX7_edgesNow_144 : decode cX7_edgesNow 144 = .ok (.goto (-129), 3) := by decide +kernel
theorem dX7_edgesNow_147 : decode cX7_edgesNow 147 = .ok (.iinc 3 1, 3) := by decide +kernel
theorem dX7_edgesNow_150 : decode cX7_edgesNow 150 = .ok (.goto (-145), 3) := by decide +kernel
theorem dX7_edgesNow_153 : decode cX7_edgesNow 153 = .ok (.iload_n 2, 1) := by decide +kernel
theorem dX7_edgesNow_154 : decode cX7_edgesNow 154 = .ok (.ireturn, 1) := by decide +kernel
theorem dX7_boundNow_0 : decode cX7_boundNow 0 = .ok (.iconst 0, 1) := by decide +kernel
theorem dX7_boundNow_1 : decode cX7_boundNow 1 = .ok (.istore_n 3, 1) := by decide +kernel
theorem dX7_boundNow_2 : decode cX7_boundNow 2 = .ok (.iconst 0, 1) := by decide +kernel
theorem dX7_boundNow_3 : decode cX7_boundNow 3 = .ok (.istore 4, 2) := by decide +kernel
theorem dX7_boundNow_5 : decode cX7_boundNow 5 = .ok (.bipush (-32), 2) := by decide +kernel
theorem dX7_boundNow_7 : decode cX7_boundNow 7 = .ok (.istore 5, 2) := by decide +kernel
theorem dX7_boundNow_9 : decode cX7_boundNow 9 = .ok (.iload 5, 2) := by decide +kernel
theorem dX7_boundNow_11 : decode cX7_boundNow 11 = .ok (.bipush 31, 2) := by decide +kernel
theorem dX7_boundNow_13 : decode cX7_boundNow 13 = .ok (.if_icmp .gt 92, 3) := by decide +kernel
theorem dX7_boundNow_16 : decode cX7_boundNow 16 = .ok (.bipush (-32), 2) := by decide +kernel
theorem dX7_boundNow_18 : decode cX7_boundNow 18 = .ok (.istore 6, 2) := by decide +kernel
theorem dX7_boundNow_20 : decode cX7_boundNow 20 = .ok (.iload 6, 2) := by decide +kernel
theorem dX7_boundNow_22 : decode cX7_boundNow 22 = .ok (.bipush 31, 2) := by decide +kernel
theorem dX7_boundNow_24 : decode cX7_boundNow 24 = .ok (.if_icmp .gt 75, 3) := by decide +kernel
theorem dX7_boundNow_27 : decode cX7_boundNow 27 = .ok (.aload_n 0, 1) := by decide +kernel
theorem dX7_boundNow_28 : decode cX7_boundNow 28 = .ok (.getfield 11, 3) := by decide +kernel
theorem dX7_boundNow_31 : decode cX7_boundNow 31 = .ok (.iload_n 1, 1) := by decide +kernel
theorem dX7_boundNow_32 : decode cX7_boundNow 32 = .ok (.aaload, 1) := by decide +kernel
theorem dX7_boundNow_33 : decode cX7_boundNow 33 = .ok (.iload 5, 2) := by decide +kernel
theorem dX7_boundNow_35 : decode cX7_boundNow 35 = .ok (.iload 6, 2) := by decide +kernel
theorem dX7_boundNow_37 : decode cX7_boundNow 37 = .ok (.invokestatic 44, 3) := by decide +kernel
theorem dX7_boundNow_40 : decode cX7_boundNow 40 = .ok (.baload, 1) := by decide +kernel
theorem dX7_boundNow_41 : decode cX7_boundNow 41 = .ok (.ifCond .ne 6, 3) := by decide +kernel
theorem dX7_boundNow_44 : decode cX7_boundNow 44 = .ok (.goto 49, 3) := by decide +kernel
theorem dX7_boundNow_93 : decode cX7_boundNow 93 = .ok (.iinc 6 1, 3) := by decide +kernel
theorem dX7_boundNow_96 : decode cX7_boundNow 96 = .ok (.goto (-76), 3) := by decide +kernel
theorem dX7_boundNow_99 : decode cX7_boundNow 99 = .ok (.iinc 5 1, 3) := by decide +kernel
theorem dX7_boundNow_102 : decode cX7_boundNow 102 = .ok (.goto (-93), 3) := by decide +kernel
theorem dX7_boundNow_105 : decode cX7_boundNow 105 = .ok (.iload_n 3, 1) := by decide +kernel
theorem dX7_boundNow_106 : decode cX7_boundNow 106 = .ok (.ireturn, 1) := by decide +kernel
theorem dX7_isEdge_0 : decode cX7_isEdge 0 = .ok (.iload_n 3, 1) := by decide +kernel
theorem dX7_isEdge_1 : decode cX7_isEdge 1 = .ok (.tableswitch 109 0 2 #[27, 53, 79], 27) := by decide +kernel
theorem dX7_isEdge_28 : decode cX7_isEdge 28 = .ok (.aload_n 0, 1) := by decide +kernel
theorem dX7_isEdge_29 : decode cX7_isEdge 29 = .ok (.iload_n 1, 1) := by decide +kernel
theorem dX7_isEdge_30 : decode cX7_isEdge 30 = .ok (.iload_n 2, 1) := by decide +kernel
theorem dX7_isEdge_31 : decode cX7_isEdge 31 = .ok (.invokestatic 95, 3) := by decide +kernel
theorem dX7_isEdge_34 : decode cX7_isEdge 34 = .ok (.ifCond .eq 18, 3) := by decide +kernel
theorem dX7_isEdge_52 : decode cX7_isEdge 52 = .ok (.iconst 0, 1) := by decide +kernel
theorem dX7_isEdge_53 : decode cX7_isEdge 53 = .ok (.ireturn, 1) := by decide +kernel
theorem dX7_isEdge_54 : decode cX7_isEdge 54 = .ok (.aload_n 0, 1) := by decide +kernel
theorem dX7_isEdge_55 : decode cX7_isEdge 55 = .ok (.iload_n 1, 1) := by decide +kernel
theorem dX7_isEdge_56 : decode cX7_isEdge 56 = .ok (.iconst 1, 1) := by decide +kernel
theorem dX7_isEdge_57 : decode cX7_isEdge 57 = .ok (.isub, 1) := by decide +kernel
theorem dX7_isEdge_58 : decode cX7_isEdge 58 = .ok (.iload_n 2, 1) := by decide +kernel
theorem dX7_isEdge_59 : decode cX7_isEdge 59 = .ok (.invokestatic 95, 3) := by decide +kernel
theorem dX7_isEdge_62 : decode cX7_isEdge 62 = .ok (.ifCond .eq 16, 3) := by decide +kernel
theorem dX7_isEdge_78 : decode cX7_isEdge 78 = .ok (.iconst 0, 1) := by decide +kernel
theorem dX7_isEdge_79 : decode cX7_isEdge 79 = .ok (.ireturn, 1) := by decide +kernel
theorem dX7_contoursNow_0 : decode cX7_contoursNow 0 = .ok (.aload_n 0, 1) := by decide +kernel
theorem dX7_contoursNow_1 : decode cX7_contoursNow 1 = .ok (.getfield 11, 3) := by decide +kernel
theorem dX7_contoursNow_4 : decode cX7_contoursNow 4 = .ok (.iload_n 1, 1) := by decide +kernel
theorem dX7_contoursNow_5 : decode cX7_contoursNow 5 = .ok (.aaload, 1) := by decide +kernel
theorem dX7_contoursNow_6 : decode cX7_contoursNow 6 = .ok (.astore_n 2, 1) := by decide +kernel
theorem dX7_contoursNow_7 : decode cX7_contoursNow 7 = .ok (.sipush 16900, 3) := by decide +kernel
theorem dX7_contoursNow_10 : decode cX7_contoursNow 10 = .ok (.newarray .boolean, 2) := by decide +kernel
theorem dX7_contoursNow_12 : decode cX7_contoursNow 12 = .ok (.astore_n 3, 1) := by decide +kernel
theorem dX7_contoursNow_13 : decode cX7_contoursNow 13 = .ok (.bipush 64, 2) := by decide +kernel
theorem dX7_contoursNow_15 : decode cX7_contoursNow 15 = .ok (.newarray .int, 2) := by decide +kernel
theorem dX7_contoursNow_17 : decode cX7_contoursNow 17 = .ok (.astore 4, 2) := by decide +kernel
theorem dX7_contoursNow_19 : decode cX7_contoursNow 19 = .ok (.iconst 1, 1) := by decide +kernel
theorem dX7_contoursNow_20 : decode cX7_contoursNow 20 = .ok (.istore 5, 2) := by decide +kernel
theorem dX7_contoursNow_22 : decode cX7_contoursNow 22 = .ok (.bipush (-32), 2) := by decide +kernel
theorem dX7_contoursNow_24 : decode cX7_contoursNow 24 = .ok (.istore 6, 2) := by decide +kernel
theorem dX7_contoursNow_26 : decode cX7_contoursNow 26 = .ok (.iload 6, 2) := by decide +kernel
theorem dX7_contoursNow_28 : decode cX7_contoursNow 28 = .ok (.bipush 32, 2) := by decide +kernel
theorem dX7_contoursNow_30 : decode cX7_contoursNow 30 = .ok (.if_icmp .gt 402, 3) := by decide +kernel
theorem dX7_contoursNow_33 : decode cX7_contoursNow 33 = .ok (.bipush (-32), 2) := by decide +kernel
theorem dX7_contoursNow_35 : decode cX7_contoursNow 35 = .ok (.istore 7, 2) := by decide +kernel
theorem dX7_contoursNow_37 : decode cX7_contoursNow 37 = .ok (.iload 7, 2) := by decide +kernel
theorem dX7_contoursNow_39 : decode cX7_contoursNow 39 = .ok (.bipush 32, 2) := by decide +kernel
theorem dX7_contoursNow_41 : decode cX7_contoursNow 41 = .ok (.if_icmp .gt 385, 3) := by decide +kernel
theorem dX7_contoursNow_44 : decode cX7_contoursNow 44 = .ok (.iconst 0, 1) := by decide +kernel
theorem dX7_contoursNow_45 : decode cX7_contoursNow 45 = .ok (.istore 8, 2) := by decide +kernel
theorem dX7_contoursNow_47 : decode cX7_contoursNow 47 = .ok (.iload 8, 2) := by decide +kernel
theorem dX7_contoursNow_49 : decode cX7_contoursNow 49 = .ok (.iconst 2, 1) := by decide +kernel
theorem dX7_contoursNow_50 : decode cX7_contoursNow 50 = .ok (.if_icmp .ge 370, 3) := by decide +kernel
theorem dX7_contoursNow_53 : decode cX7_contoursNow 53 = .ok (.iload 6, 2) := by decide +kernel
theorem dX7_contoursNow_55 : decode cX7_contoursNow 55 = .ok (.bipush (-32), 2) := by decide +kernel
theorem dX7_contoursNow_57 : decode cX7_contoursNow 57 = .ok (.isub, 1) := by decide +kernel
theorem dX7_contoursNow_58 : decode cX7_contoursNow 58 = .ok (.bipush 65, 2) := by decide +kernel
theorem dX7_contoursNow_60 : decode cX7_contoursNow 60 = .ok (.imul, 1) := by decide +kernel
theorem dX7_contoursNow_61 : decode cX7_contoursNow 61 = .ok (.iload 7, 2) := by decide +kernel
theorem dX7_contoursNow_63 : decode cX7_contoursNow 63 = .ok (.iadd, 1) := by decide +kernel
theorem dX7_contoursNow_64 : decode cX7_contoursNow 64 = .ok (.bipush (-32), 2) := by decide +kernel
theorem dX7_contoursNow_66 : decode cX7_contoursNow 66 = .ok (.isub, 1) := by decide +kernel
theorem dX7_contoursNow_67 : decode cX7_contoursNow 67 = .ok (.iconst 4, 1) := by decide +kernel
theorem dX7_contoursNow_68 : decode cX7_contoursNow 68 = .ok (.imul, 1) := by decide +kernel
theorem dX7_contoursNow_69 : decode cX7_contoursNow 69 = .ok (.iload 8, 2) := by decide +kernel
theorem dX7_contoursNow_71 : decode cX7_contoursNow 71 = .ok (.iadd, 1) := by decide +kernel
theorem dX7_contoursNow_72 : decode cX7_contoursNow 72 = .ok (.istore 9, 2) := by decide +kernel
theorem dX7_contoursNow_74 : decode cX7_contoursNow 74 = .ok (.aload_n 2, 1) := by decide +kernel
theorem dX7_contoursNow_75 : decode cX7_contoursNow 75 = .ok (.iload 7, 2) := by decide +kernel
theorem dX7_contoursNow_77 : decode cX7_contoursNow 77 = .ok (.iload 6, 2) := by decide +kernel
theorem dX7_contoursNow_79 : decode cX7_contoursNow 79 = .ok (.iload 8, 2) := by decide +kernel
theorem dX7_contoursNow_81 : decode cX7_contoursNow 81 = .ok (.invokestatic 120, 3) := by decide +kernel
theorem dX7_contoursNow_84 : decode cX7_contoursNow 84 = .ok (.ifCond .eq 330, 3) := by decide +kernel
theorem dX7_contoursNow_414 : decode cX7_contoursNow 414 = .ok (.iinc 8 1, 3) := by decide +kernel
theorem dX7_contoursNow_417 : decode cX7_contoursNow 417 = .ok (.goto (-370), 3) := by decide +kernel
theorem dX7_contoursNow_420 : decode cX7_contoursNow 420 = .ok (.iinc 7 1, 3) := by decide +kernel
theorem dX7_contoursNow_423 : decode cX7_contoursNow 423 = .ok (.goto (-386), 3) := by decide +kernel
theorem dX7_contoursNow_426 : decode cX7_contoursNow 426 = .ok (.iinc 6 1, 3) := by decide +kernel
theorem dX7_contoursNow_429 : decode cX7_contoursNow 429 = .ok (.goto (-403), 3) := by decide +kernel
theorem dX7_contoursNow_432 : decode cX7_contoursNow 432 = .ok (.aload 4, 2) := by decide +kernel
theorem dX7_contoursNow_434 : decode cX7_contoursNow 434 = .ok (.areturn, 1) := by decide +kernel
theorem dX7_stripsNow_0 : decode cX7_stripsNow 0 = .ok (.aload_n 0, 1) := by decide +kernel
theorem dX7_stripsNow_1 : decode cX7_stripsNow 1 = .ok (.getfield 11, 3) := by decide +kernel
theorem dX7_stripsNow_4 : decode cX7_stripsNow 4 = .ok (.iload_n 1, 1) := by decide +kernel
theorem dX7_stripsNow_5 : decode cX7_stripsNow 5 = .ok (.aaload, 1) := by decide +kernel
theorem dX7_stripsNow_6 : decode cX7_stripsNow 6 = .ok (.astore_n 2, 1) := by decide +kernel
theorem dX7_stripsNow_7 : decode cX7_stripsNow 7 = .ok (.bipush 64, 2) := by decide +kernel
theorem dX7_stripsNow_9 : decode cX7_stripsNow 9 = .ok (.newarray .int, 2) := by decide +kernel
theorem dX7_stripsNow_11 : decode cX7_stripsNow 11 = .ok (.astore_n 3, 1) := by decide +kernel
theorem dX7_stripsNow_12 : decode cX7_stripsNow 12 = .ok (.iconst 1, 1) := by decide +kernel
theorem dX7_stripsNow_13 : decode cX7_stripsNow 13 = .ok (.istore 4, 2) := by decide +kernel
theorem dX7_stripsNow_15 : decode cX7_stripsNow 15 = .ok (.bipush (-32), 2) := by decide +kernel
theorem dX7_stripsNow_17 : decode cX7_stripsNow 17 = .ok (.istore 5, 2) := by decide +kernel
theorem dX7_stripsNow_19 : decode cX7_stripsNow 19 = .ok (.iload 5, 2) := by decide +kernel
theorem dX7_stripsNow_21 : decode cX7_stripsNow 21 = .ok (.bipush 31, 2) := by decide +kernel
theorem dX7_stripsNow_23 : decode cX7_stripsNow 23 = .ok (.if_icmp .gt 155, 3) := by decide +kernel
theorem dX7_stripsNow_26 : decode cX7_stripsNow 26 = .ok (.bipush (-32), 2) := by decide +kernel
theorem dX7_stripsNow_28 : decode cX7_stripsNow 28 = .ok (.istore 6, 2) := by decide +kernel
theorem dX7_stripsNow_30 : decode cX7_stripsNow 30 = .ok (.iload 6, 2) := by decide +kernel
theorem dX7_stripsNow_32 : decode cX7_stripsNow 32 = .ok (.bipush 31, 2) := by decide +kernel
theorem dX7_stripsNow_34 : decode cX7_stripsNow 34 = .ok (.if_icmp .gt 138, 3) := by decide +kernel
theorem dX7_stripsNow_37 : decode cX7_stripsNow 37 = .ok (.aload_n 2, 1) := by decide +kernel
theorem dX7_stripsNow_38 : decode cX7_stripsNow 38 = .ok (.iload 6, 2) := by decide +kernel
theorem dX7_stripsNow_40 : decode cX7_stripsNow 40 = .ok (.iload 5, 2) := by decide +kernel
theorem dX7_stripsNow_42 : decode cX7_stripsNow 42 = .ok (.invokestatic 95, 3) := by decide +kernel
theorem dX7_stripsNow_45 : decode cX7_stripsNow 45 = .ok (.ifCond .eq 121, 3) := by decide +kernel
theorem dX7_stripsNow_166 : decode cX7_stripsNow 166 = .ok (.iinc 6 1, 3) := by decide +kernel
theorem dX7_stripsNow_169 : decode cX7_stripsNow 169 = .ok (.goto (-139), 3) := by decide +kernel
theorem dX7_stripsNow_172 : decode cX7_stripsNow 172 = .ok (.iinc 5 1, 3) := by decide +kernel
theorem dX7_stripsNow_175 : decode cX7_stripsNow 175 = .ok (.goto (-156), 3) := by decide +kernel
theorem dX7_stripsNow_178 : decode cX7_stripsNow 178 = .ok (.aload_n 3, 1) := by decide +kernel
theorem dX7_stripsNow_179 : decode cX7_stripsNow 179 = .ok (.areturn, 1) := by decide +kernel
theorem dX7_digest_0 : decode cX7_digest 0 = .ok (.aload_n 0, 1) := by decide +kernel
theorem dX7_digest_1 : decode cX7_digest 1 = .ok (.iconst 0, 1) := by decide +kernel
theorem dX7_digest_2 : decode cX7_digest 2 = .ok (.putfield 33, 3) := by decide +kernel
theorem dX7_digest_5 : decode cX7_digest 5 = .ok (.ldc2_w 166, 3) := by decide +kernel
theorem dX7_digest_8 : decode cX7_digest 8 = .ok (.aload_n 0, 1) := by decide +kernel
theorem dX7_digest_9 : decode cX7_digest 9 = .ok (.getfield 21, 3) := by decide +kernel
theorem dX7_digest_12 : decode cX7_digest 12 = .ok (.i2l, 1) := by decide +kernel
theorem dX7_digest_13 : decode cX7_digest 13 = .ok (.ladd, 1) := by decide +kernel
theorem dX7_digest_14 : decode cX7_digest 14 = .ok (.lstore_n 1, 1) := by decide +kernel
theorem dX7_digest_15 : decode cX7_digest 15 = .ok (.iconst 0, 1) := by decide +kernel
theorem dX7_digest_16 : decode cX7_digest 16 = .ok (.istore_n 3, 1) := by decide +kernel
theorem dX7_digest_17 : decode cX7_digest 17 = .ok (.iload_n 3, 1) := by decide +kernel
theorem dX7_digest_18 : decode cX7_digest 18 = .ok (.bipush 8, 2) := by decide +kernel
theorem dX7_digest_20 : decode cX7_digest 20 = .ok (.if_icmp .ge 235, 3) := by decide +kernel
theorem dX7_digest_23 : decode cX7_digest 23 = .ok (.lload_n 1, 1) := by decide +kernel
theorem dX7_digest_24 : decode cX7_digest 24 = .ok (.ldc2_w 168, 3) := by decide +kernel
theorem dX7_digest_27 : decode cX7_digest 27 = .ok (.lmul, 1) := by decide +kernel
theorem dX7_digest_28 : decode cX7_digest 28 = .ok (.aload_n 0, 1) := by decide +kernel
theorem dX7_digest_29 : decode cX7_digest 29 = .ok (.getfield 11, 3) := by decide +kernel
theorem dX7_digest_32 : decode cX7_digest 32 = .ok (.iload_n 3, 1) := by decide +kernel
theorem dX7_digest_33 : decode cX7_digest 33 = .ok (.aaload, 1) := by decide +kernel
theorem dX7_digest_34 : decode cX7_digest 34 = .ok (.invokestatic 57, 3) := by decide +kernel
theorem dX7_digest_37 : decode cX7_digest 37 = .ok (.i2l, 1) := by decide +kernel
theorem dX7_digest_38 : decode cX7_digest 38 = .ok (.ladd, 1) := by decide +kernel
theorem dX7_digest_39 : decode cX7_digest 39 = .ok (.ldc2_w 168, 3) := by decide +kernel
theorem dX7_digest_42 : decode cX7_digest 42 = .ok (.lmul, 1) := by decide +kernel
theorem dX7_digest_43 : decode cX7_digest 43 = .ok (.aload_n 0, 1) := by decide +kernel
theorem dX7_digest_44 : decode cX7_digest 44 = .ok (.iload_n 3, 1) := by decide +kernel
theorem dX7_digest_45 : decode cX7_digest 45 = .ok (.invokevirtual 111, 3) := by decide +kernel
theorem dX7_digest_48 : decode cX7_digest 48 = .ok (.i2l, 1) := by decide +kernel
theorem dX7_digest_49 : decode cX7_digest 49 = .ok (.ladd, 1) := by decide +kernel
theorem dX7_digest_50 : decode cX7_digest 50 = .ok (.ldc2_w 168, 3) := by decide +kernel
theorem dX7_digest_53 : decode cX7_digest 53 = .ok (.lmul, 1) := by decide +kernel
theorem dX7_digest_54 : decode cX7_digest 54 = .ok (.aload_n 0, 1) := by decide +kernel
theorem dX7_digest_55 : decode cX7_digest 55 = .ok (.getfield 11, 3) := by decide +kernel
theorem dX7_digest_58 : decode cX7_digest 58 = .ok (.iload_n 3, 1) := by decide +kernel
theorem dX7_digest_59 : decode cX7_digest 59 = .ok (.aaload, 1) := by decide +kernel
theorem dX7_digest_60 : decode cX7_digest 60 = .ok (.iconst 1, 1) := by decide +kernel
theorem dX7_digest_61 : decode cX7_digest 61 = .ok (.invokestatic 99, 3) := by decide +kernel
theorem dX7_digest_64 : decode cX7_digest 64 = .ok (.invokestatic 103, 3) := by decide +kernel
theorem dX7_digest_67 : decode cX7_digest 67 = .ok (.i2l, 1) := by decide +kernel
theorem dX7_digest_68 : decode cX7_digest 68 = .ok (.ladd, 1) := by decide +kernel
theorem dX7_digest_69 : decode cX7_digest 69 = .ok (.ldc2_w 168, 3) := by decide +kernel
theorem dX7_digest_72 : decode cX7_digest 72 = .ok (.lmul, 1) := by decide +kernel
theorem dX7_digest_73 : decode cX7_digest 73 = .ok (.aload_n 0, 1) := by decide +kernel
theorem dX7_digest_74 : decode cX7_digest 74 = .ok (.iload_n 3, 1) := by decide +kernel
theorem dX7_digest_75 : decode cX7_digest 75 = .ok (.invokevirtual 114, 3) := by decide +kernel
theorem dX7_digest_78 : decode cX7_digest 78 = .ok (.i2l, 1) := by decide +kernel
theorem dX7_digest_79 : decode cX7_digest 79 = .ok (.ladd, 1) := by decide +kernel
theorem dX7_digest_80 : decode cX7_digest 80 = .ok (.lstore_n 1, 1) := by decide +kernel
theorem dX7_digest_81 : decode cX7_digest 81 = .ok (.iconst 0, 1) := by decide +kernel
theorem dX7_digest_82 : decode cX7_digest 82 = .ok (.istore 4, 2) := by decide +kernel
theorem dX7_digest_84 : decode cX7_digest 84 = .ok (.iload 4, 2) := by decide +kernel
theorem dX7_digest_86 : decode cX7_digest 86 = .ok (.iconst 4, 1) := by decide +kernel
theorem dX7_digest_87 : decode cX7_digest 87 = .ok (.if_icmp .ge 24, 3) := by decide +kernel
theorem dX7_digest_90 : decode cX7_digest 90 = .ok (.lload_n 1, 1) := by decide +kernel
theorem dX7_digest_91 : decode cX7_digest 91 = .ok (.ldc2_w 168, 3) := by decide +kernel
theorem dX7_digest_94 : decode cX7_digest 94 = .ok (.lmul, 1) := by decide +kernel
theorem dX7_digest_95 : decode cX7_digest 95 = .ok (.aload_n 0, 1) := by decide +kernel
theorem dX7_digest_96 : decode cX7_digest 96 = .ok (.iload_n 3, 1) := by decide +kernel
theorem dX7_digest_97 : decode cX7_digest 97 = .ok (.iload 4, 2) := by decide +kernel
theorem dX7_digest_99 : decode cX7_digest 99 = .ok (.invokevirtual 117, 3) := by decide +kernel
theorem dX7_digest_102 : decode cX7_digest 102 = .ok (.i2l, 1) := by decide +kernel
theorem dX7_digest_103 : decode cX7_digest 103 = .ok (.ladd, 1) := by decide +kernel
theorem dX7_digest_104 : decode cX7_digest 104 = .ok (.lstore_n 1, 1) := by decide +kernel
theorem dX7_digest_105 : decode cX7_digest 105 = .ok (.iinc 4 1, 3) := by decide +kernel
theorem dX7_digest_108 : decode cX7_digest 108 = .ok (.goto (-24), 3) := by decide +kernel
theorem dX7_digest_111 : decode cX7_digest 111 = .ok (.aload_n 0, 1) := by decide +kernel
theorem dX7_digest_112 : decode cX7_digest 112 = .ok (.iload_n 3, 1) := by decide +kernel
theorem dX7_digest_113 : decode cX7_digest 113 = .ok (.invokevirtual 134, 3) := by decide +kernel
theorem dX7_digest_116 : decode cX7_digest 116 = .ok (.astore 4, 2) := by decide +kernel
theorem dX7_digest_118 : decode cX7_digest 118 = .ok (.lload_n 1, 1) := by decide +kernel
theorem dX7_digest_119 : decode cX7_digest 119 = .ok (.ldc2_w 168, 3) := by decide +kernel
theorem dX7_digest_122 : decode cX7_digest 122 = .ok (.lmul, 1) := by decide +kernel
theorem dX7_digest_123 : decode cX7_digest 123 = .ok (.aload 4, 2) := by decide +kernel
theorem dX7_digest_125 : decode cX7_digest 125 = .ok (.iconst 0, 1) := by decide +kernel
theorem dX7_digest_126 : decode cX7_digest 126 = .ok (.iaload, 1) := by decide +kernel
theorem dX7_digest_127 : decode cX7_digest 127 = .ok (.i2l, 1) := by decide +kernel
theorem dX7_digest_128 : decode cX7_digest 128 = .ok (.ladd, 1) := by decide +kernel
theorem dX7_digest_129 : decode cX7_digest 129 = .ok (.lstore_n 1, 1) := by decide +kernel
theorem dX7_digest_130 : decode cX7_digest 130 = .ok (.iconst 0, 1) := by decide +kernel
theorem dX7_digest_131 : decode cX7_digest 131 = .ok (.istore 5, 2) := by decide +kernel
theorem dX7_digest_133 : decode cX7_digest 133 = .ok (.iload 5, 2) := by decide +kernel
theorem dX7_digest_135 : decode cX7_digest 135 = .ok (.aload 4, 2) := by decide +kernel
theorem dX7_digest_137 : decode cX7_digest 137 = .ok (.iconst 0, 1) := by decide +kernel
theorem dX7_digest_138 : decode cX7_digest 138 = .ok (.iaload, 1) := by decide +kernel
theorem dX7_digest_139 : decode cX7_digest 139 = .ok (.if_icmp .ge 70, 3) := by decide +kernel
theorem dX7_digest_209 : decode cX7_digest 209 = .ok (.aload_n 0, 1) := by decide +kernel
theorem dX7_digest_210 : decode cX7_digest 210 = .ok (.iload_n 3, 1) := by decide +kernel
theorem dX7_digest_211 : decode cX7_digest 211 = .ok (.invokevirtual 155, 3) := by decide +kernel
theorem dX7_digest_214 : decode cX7_digest 214 = .ok (.astore 5, 2) := by decide +kernel
theorem dX7_digest_216 : decode cX7_digest 216 = .ok (.iconst 0, 1) := by decide +kernel
theorem dX7_digest_217 : decode cX7_digest 217 = .ok (.istore 6, 2) := by decide +kernel
theorem dX7_digest_219 : decode cX7_digest 219 = .ok (.iload 6, 2) := by decide +kernel
theorem dX7_digest_221 : decode cX7_digest 221 = .ok (.iconst 4, 1) := by decide +kernel
theorem dX7_digest_222 : decode cX7_digest 222 = .ok (.aload 5, 2) := by decide +kernel
theorem dX7_digest_224 : decode cX7_digest 224 = .ok (.iconst 0, 1) := by decide +kernel
theorem dX7_digest_225 : decode cX7_digest 225 = .ok (.iaload, 1) := by decide +kernel
theorem dX7_digest_226 : decode cX7_digest 226 = .ok (.imul, 1) := by decide +kernel
theorem dX7_digest_227 : decode cX7_digest 227 = .ok (.if_icmp .gt 22, 3) := by decide +kernel
theorem dX7_digest_230 : decode cX7_digest 230 = .ok (.lload_n 1, 1) := by decide +kernel
theorem dX7_digest_231 : decode cX7_digest 231 = .ok (.ldc2_w 168, 3) := by decide +kernel
theorem dX7_digest_234 : decode cX7_digest 234 = .ok (.lmul, 1) := by decide +kernel
theorem dX7_digest_235 : decode cX7_digest 235 = .ok (.aload 5, 2) := by decide +kernel
theorem dX7_digest_237 : decode cX7_digest 237 = .ok (.iload 6, 2) := by decide +kernel
theorem dX7_digest_239 : decode cX7_digest 239 = .ok (.iaload, 1) := by decide +kernel
theorem dX7_digest_240 : decode cX7_digest 240 = .ok (.i2l, 1) := by decide +kernel
theorem dX7_digest_241 : decode cX7_digest 241 = .ok (.ladd, 1) := by decide +kernel
theorem dX7_digest_242 : decode cX7_digest 242 = .ok (.lstore_n 1, 1) := by decide +kernel
theorem dX7_digest_243 : decode cX7_digest 243 = .ok (.iinc 6 1, 3) := by decide +kernel
theorem dX7_digest_246 : decode cX7_digest 246 = .ok (.goto (-27), 3) := by decide +kernel
theorem dX7_digest_249 : decode cX7_digest 249 = .ok (.iinc 3 1, 3) := by decide +kernel
theorem dX7_digest_252 : decode cX7_digest 252 = .ok (.goto (-235), 3) := by decide +kernel
theorem dX7_digest_255 : decode cX7_digest 255 = .ok (.lload_n 1, 1) := by decide +kernel
theorem dX7_digest_256 : decode cX7_digest 256 = .ok (.ldc2_w 168, 3) := by decide +kernel
theorem dX7_digest_259 : decode cX7_digest 259 = .ok (.lmul, 1) := by decide +kernel
theorem dX7_digest_260 : decode cX7_digest 260 = .ok (.aload_n 0, 1) := by decide +kernel
theorem dX7_digest_261 : decode cX7_digest 261 = .ok (.getfield 54, 3) := by decide +kernel
theorem dX7_digest_264 : decode cX7_digest 264 = .ok (.i2l, 1) := by decide +kernel
theorem dX7_digest_265 : decode cX7_digest 265 = .ok (.ladd, 1) := by decide +kernel
theorem dX7_digest_266 : decode cX7_digest 266 = .ok (.lreturn, 1) := by decide +kernel
theorem dJ13_bitCount_95d88_0 : decode cJ13_bitCount_95d88 0 = .ok (.lload_n 0, 1) := by decide +kernel
theorem dJ13_bitCount_95d88_1 : decode cJ13_bitCount_95d88 1 = .ok (.lload_n 0, 1) := by decide +kernel
theorem dJ13_bitCount_95d88_2 : decode cJ13_bitCount_95d88 2 = .ok (.iconst 1, 1) := by decide +kernel
theorem dJ13_bitCount_95d88_3 : decode cJ13_bitCount_95d88 3 = .ok (.lushr, 1) := by decide +kernel
theorem dJ13_bitCount_95d88_4 : decode cJ13_bitCount_95d88 4 = .ok (.ldc2_w 314, 3) := by decide +kernel
theorem dJ13_bitCount_95d88_7 : decode cJ13_bitCount_95d88 7 = .ok (.land, 1) := by decide +kernel
theorem dJ13_bitCount_95d88_8 : decode cJ13_bitCount_95d88 8 = .ok (.lsub, 1) := by decide +kernel
theorem dJ13_bitCount_95d88_9 : decode cJ13_bitCount_95d88 9 = .ok (.lstore_n 0, 1) := by decide +kernel
theorem dJ13_bitCount_95d88_10 : decode cJ13_bitCount_95d88 10 = .ok (.lload_n 0, 1) := by decide +kernel
theorem dJ13_bitCount_95d88_11 : decode cJ13_bitCount_95d88 11 = .ok (.ldc2_w 316, 3) := by decide +kernel
theorem dJ13_bitCount_95d88_14 : decode cJ13_bitCount_95d88 14 = .ok (.land, 1) := by decide +kernel
theorem dJ13_bitCount_95d88_15 : decode cJ13_bitCount_95d88 15 = .ok (.lload_n 0, 1) := by decide +kernel
theorem dJ13_bitCount_95d88_16 : decode cJ13_bitCount_95d88 16 = .ok (.iconst 2, 1) := by decide +kernel
theorem dJ13_bitCount_95d88_17 : decode cJ13_bitCount_95d88 17 = .ok (.lushr, 1) := by decide +kernel
theorem dJ13_bitCount_95d88_18 : decode cJ13_bitCount_95d88 18 = .ok (.ldc2_w 316, 3) := by decide +kernel
theorem dJ13_bitCount_95d88_21 : decode cJ13_bitCount_95d88 21 = .ok (.land, 1) := by decide +kernel
theorem dJ13_bitCount_95d88_22 : decode cJ13_bitCount_95d88 22 = .ok (.ladd, 1) := by decide +kernel
theorem dJ13_bitCount_95d88_23 : decode cJ13_bitCount_95d88 23 = .ok (.lstore_n 0, 1) := by decide +kernel
theorem dJ13_bitCount_95d88_24 : decode cJ13_bitCount_95d88 24 = .ok (.lload_n 0, 1) := by decide +kernel
theorem dJ13_bitCount_95d88_25 : decode cJ13_bitCount_95d88 25 = .ok (.lload_n 0, 1) := by decide +kernel
theorem dJ13_bitCount_95d88_26 : decode cJ13_bitCount_95d88 26 = .ok (.iconst 4, 1) := by decide +kernel
theorem dJ13_bitCount_95d88_27 : decode cJ13_bitCount_95d88 27 = .ok (.lushr, 1) := by decide +kernel
theorem dJ13_bitCount_95d88_28 : decode cJ13_bitCount_95d88 28 = .ok (.ladd, 1) := by decide +kernel
theorem dJ13_bitCount_95d88_29 : decode cJ13_bitCount_95d88 29 = .ok (.ldc2_w 318, 3) := by decide +kernel
theorem dJ13_bitCount_95d88_32 : decode cJ13_bitCount_95d88 32 = .ok (.land, 1) := by decide +kernel
theorem dJ13_bitCount_95d88_33 : decode cJ13_bitCount_95d88 33 = .ok (.lstore_n 0, 1) := by decide +kernel
theorem dJ13_bitCount_95d88_34 : decode cJ13_bitCount_95d88 34 = .ok (.lload_n 0, 1) := by decide +kernel
theorem dJ13_bitCount_95d88_35 : decode cJ13_bitCount_95d88 35 = .ok (.lload_n 0, 1) := by decide +kernel
theorem dJ13_bitCount_95d88_36 : decode cJ13_bitCount_95d88 36 = .ok (.bipush 8, 2) := by decide +kernel
theorem dJ13_bitCount_95d88_38 : decode cJ13_bitCount_95d88 38 = .ok (.lushr, 1) := by decide +kernel
theorem dJ13_bitCount_95d88_39 : decode cJ13_bitCount_95d88 39 = .ok (.ladd, 1) := by decide +kernel
theorem dJ13_bitCount_95d88_40 : decode cJ13_bitCount_95d88 40 = .ok (.lstore_n 0, 1) := by decide +kernel
theorem dJ13_bitCount_95d88_41 : decode cJ13_bitCount_95d88 41 = .ok (.lload_n 0, 1) := by decide +kernel
theorem dJ13_bitCount_95d88_42 : decode cJ13_bitCount_95d88 42 = .ok (.lload_n 0, 1) := by decide +kernel
theorem dJ13_bitCount_95d88_43 : decode cJ13_bitCount_95d88 43 = .ok (.bipush 16, 2) := by decide +kernel
theorem dJ13_bitCount_95d88_45 : decode cJ13_bitCount_95d88 45 = .ok (.lushr, 1) := by decide +kernel
theorem dJ13_bitCount_95d88_46 : decode cJ13_bitCount_95d88 46 = .ok (.ladd, 1) := by decide +kernel
theorem dJ13_bitCount_95d88_47 : decode cJ13_bitCount_95d88 47 = .ok (.lstore_n 0, 1) := by decide +kernel
theorem dJ13_bitCount_95d88_48 : decode cJ13_bitCount_95d88 48 = .ok (.lload_n 0, 1) := by decide +kernel
theorem dJ13_bitCount_95d88_49 : decode cJ13_bitCount_95d88 49 = .ok (.lload_n 0, 1) := by decide +kernel
theorem dJ13_bitCount_95d88_50 : decode cJ13_bitCount_95d88 50 = .ok (.bipush 32, 2) := by decide +kernel
theorem dJ13_bitCount_95d88_52 : decode cJ13_bitCount_95d88 52 = .ok (.lushr, 1) := by decide +kernel
theorem dJ13_bitCount_95d88_53 : decode cJ13_bitCount_95d88 53 = .ok (.ladd, 1) := by decide +kernel
theorem dJ13_bitCount_95d88_54 : decode cJ13_bitCount_95d88 54 = .ok (.lstore_n 0, 1) := by decide +kernel
theorem dJ13_bitCount_95d88_55 : decode cJ13_bitCount_95d88 55 = .ok (.lload_n 0, 1) := by decide +kernel
theorem dJ13_bitCount_95d88_56 : decode cJ13_bitCount_95d88 56 = .ok (.l2i, 1) := by decide +kernel
theorem dJ13_bitCount_95d88_57 : decode cJ13_bitCount_95d88 57 = .ok (.bipush 127, 2) := by decide +kernel
theorem dJ13_bitCount_95d88_59 : decode cJ13_bitCount_95d88 59 = .ok (.iand, 1) := by decide +kernel
theorem dJ13_bitCount_95d88_60 : decode cJ13_bitCount_95d88 60 = .ok (.ireturn, 1) := by decide +kernel
theorem dJ7_fill_d0a16_0 : decode cJ7_fill_d0a16 0 = .ok (.iconst 0, 1) := by decide +kernel
theorem dJ7_fill_d0a16_1 : decode cJ7_fill_d0a16 1 = .ok (.istore_n 3, 1) := by decide +kernel
theorem dJ7_fill_d0a16_2 : decode cJ7_fill_d0a16 2 = .ok (.aload_n 0, 1) := by decide +kernel
theorem dJ7_fill_d0a16_3 : decode cJ7_fill_d0a16 3 = .ok (.arraylength, 1) := by decide +kernel
theorem dJ7_fill_d0a16_4 : decode cJ7_fill_d0a16 4 = .ok (.istore 4, 2) := by decide +kernel
theorem dJ7_fill_d0a16_6 : decode cJ7_fill_d0a16 6 = .ok (.iload_n 3, 1) := by decide +kernel
theorem dJ7_fill_d0a16_7 : decode cJ7_fill_d0a16 7 = .ok (.iload 4, 2) := by decide +kernel
theorem dJ7_fill_d0a16_9 : decode cJ7_fill_d0a16 9 = .ok (.if_icmp .ge 13, 3) := by decide +kernel
theorem dJ7_fill_d0a16_12 : decode cJ7_fill_d0a16 12 = .ok (.aload_n 0, 1) := by decide +kernel
theorem dJ7_fill_d0a16_13 : decode cJ7_fill_d0a16 13 = .ok (.iload_n 3, 1) := by decide +kernel
theorem dJ7_fill_d0a16_14 : decode cJ7_fill_d0a16 14 = .ok (.lload_n 1, 1) := by decide +kernel
theorem dJ7_fill_d0a16_15 : decode cJ7_fill_d0a16 15 = .ok (.lastore, 1) := by decide +kernel
theorem dJ7_fill_d0a16_16 : decode cJ7_fill_d0a16 16 = .ok (.iinc 3 1, 3) := by decide +kernel
theorem dJ7_fill_d0a16_19 : decode cJ7_fill_d0a16 19 = .ok (.goto (-13), 3) := by decide +kernel
theorem dJ7_fill_d0a16_22 : decode cJ7_fill_d0a16 22 = .ok (.return_, 1) := by decide +kernel
