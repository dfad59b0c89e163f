theorem dX6_digest_0 : decode cX6_digest 0 = .ok (.ldc2_w 276, 3) := by decide +kernel
theorem dX6_digest_3 : decode cX6_digest 3 = .ok (.aload_n 0, 1) := by decide +kernel
theorem dX6_digest_4 : decode cX6_digest 4 = .ok (.getfield 23, 3) := by decide +kernel
theorem dX6_digest_7 : decode cX6_digest 7 = .ok (.invokevirtual 66, 3) := by decide +kernel
theorem dX6_digest_10 : decode cX6_digest 10 = .ok (.i2l, 1) := by decide +kernel
theorem dX6_digest_11 : decode cX6_digest 11 = .ok (.invokestatic 278, 3) := by decide +kernel
theorem dX6_digest_14 : decode cX6_digest 14 = .ok (.lstore_n 1, 1) := by decide +kernel
theorem dX6_digest_15 : decode cX6_digest 15 = .ok (.iconst 0, 1) := by decide +kernel
theorem dX6_digest_16 : decode cX6_digest 16 = .ok (.istore_n 3, 1) := by decide +kernel
theorem dX6_digest_17 : decode cX6_digest 17 = .ok (.iload_n 3, 1) := by decide +kernel
theorem dX6_digest_18 : decode cX6_digest 18 = .ok (.aload_n 0, 1) := by decide +kernel
theorem dX6_digest_19 : decode cX6_digest 19 = .ok (.getfield 11, 3) := by decide +kernel
theorem dX6_digest_22 : decode cX6_digest 22 = .ok (.arraylength, 1) := by decide +kernel
theorem dX6_digest_23 : decode cX6_digest 23 = .ok (.if_icmp .ge 143, 3) := by decide +kernel
theorem dX6_digest_26 : decode cX6_digest 26 = .ok (.aload_n 0, 1) := by decide +kernel
theorem dX6_digest_27 : decode cX6_digest 27 = .ok (.getfield 11, 3) := by decide +kernel
theorem dX6_digest_30 : decode cX6_digest 30 = .ok (.iload_n 3, 1) := by decide +kernel
theorem dX6_digest_31 : decode cX6_digest 31 = .ok (.aaload, 1) := by decide +kernel
theorem dX6_digest_32 : decode cX6_digest 32 = .ok (.astore 4, 2) := by decide +kernel
theorem dX6_digest_34 : decode cX6_digest 34 = .ok (.lload_n 1, 1) := by decide +kernel
theorem dX6_digest_35 : decode cX6_digest 35 = .ok (.aload 4, 2) := by decide +kernel
theorem dX6_digest_37 : decode cX6_digest 37 = .ok (.invokevirtual 108, 3) := by decide +kernel
theorem dX6_digest_40 : decode cX6_digest 40 = .ok (.i2l, 1) := by decide +kernel
theorem dX6_digest_41 : decode cX6_digest 41 = .ok (.invokestatic 278, 3) := by decide +kernel
theorem dX6_digest_44 : decode cX6_digest 44 = .ok (.lstore_n 1, 1) := by decide +kernel
theorem dX6_digest_45 : decode cX6_digest 45 = .ok (.lload_n 1, 1) := by decide +kernel
theorem dX6_digest_46 : decode cX6_digest 46 = .ok (.aload 4, 2) := by decide +kernel
theorem dX6_digest_48 : decode cX6_digest 48 = .ok (.invokevirtual 193, 3) := by decide +kernel
theorem dX6_digest_51 : decode cX6_digest 51 = .ok (.i2l, 1) := by decide +kernel
theorem dX6_digest_52 : decode cX6_digest 52 = .ok (.invokestatic 278, 3) := by decide +kernel
theorem dX6_digest_55 : decode cX6_digest 55 = .ok (.lstore_n 1, 1) := by decide +kernel
theorem dX6_digest_56 : decode cX6_digest 56 = .ok (.lload_n 1, 1) := by decide +kernel
theorem dX6_digest_57 : decode cX6_digest 57 = .ok (.aload_n 0, 1) := by decide +kernel
theorem dX6_digest_58 : decode cX6_digest 58 = .ok (.getfield 37, 3) := by decide +kernel
theorem dX6_digest_61 : decode cX6_digest 61 = .ok (.aload 4, 2) := by decide +kernel
theorem dX6_digest_63 : decode cX6_digest 63 = .ok (.invokevirtual 196, 3) := by decide +kernel
theorem dX6_digest_66 : decode cX6_digest 66 = .ok (.i2l, 1) := by decide +kernel
theorem dX6_digest_67 : decode cX6_digest 67 = .ok (.invokestatic 278, 3) := by decide +kernel
theorem dX6_digest_70 : decode cX6_digest 70 = .ok (.lstore_n 1, 1) := by decide +kernel
theorem dX6_digest_71 : decode cX6_digest 71 = .ok (.lload_n 1, 1) := by decide +kernel
theorem dX6_digest_72 : decode cX6_digest 72 = .ok (.aload_n 0, 1) := by decide +kernel
theorem dX6_digest_73 : decode cX6_digest 73 = .ok (.getfield 37, 3) := by decide +kernel
theorem dX6_digest_76 : decode cX6_digest 76 = .ok (.aload 4, 2) := by decide +kernel
theorem dX6_digest_78 : decode cX6_digest 78 = .ok (.invokevirtual 199, 3) := by decide +kernel
theorem dX6_digest_81 : decode cX6_digest 81 = .ok (.i2l, 1) := by decide +kernel
theorem dX6_digest_82 : decode cX6_digest 82 = .ok (.invokestatic 278, 3) := by decide +kernel
theorem dX6_digest_85 : decode cX6_digest 85 = .ok (.lstore_n 1, 1) := by decide +kernel
theorem dX6_digest_86 : decode cX6_digest 86 = .ok (.iconst 0, 1) := by decide +kernel
theorem dX6_digest_87 : decode cX6_digest 87 = .ok (.istore 5, 2) := by decide +kernel
theorem dX6_digest_89 : decode cX6_digest 89 = .ok (.iload 5, 2) := by decide +kernel
theorem dX6_digest_91 : decode cX6_digest 91 = .ok (.iconst 4, 1) := by decide +kernel
theorem dX6_digest_92 : decode cX6_digest 92 = .ok (.if_icmp .ge 22, 3) := by decide +kernel
theorem dX6_digest_95 : decode cX6_digest 95 = .ok (.lload_n 1, 1) := by decide +kernel
theorem dX6_digest_96 : decode cX6_digest 96 = .ok (.aload 4, 2) := by decide +kernel
theorem dX6_digest_98 : decode cX6_digest 98 = .ok (.iload 5, 2) := by decide +kernel
theorem dX6_digest_100 : decode cX6_digest 100 = .ok (.invokestatic 208, 3) := by decide +kernel
theorem dX6_digest_103 : decode cX6_digest 103 = .ok (.i2l, 1) := by decide +kernel
theorem dX6_digest_104 : decode cX6_digest 104 = .ok (.invokestatic 278, 3) := by decide +kernel
theorem dX6_digest_107 : decode cX6_digest 107 = .ok (.lstore_n 1, 1) := by decide +kernel
theorem dX6_digest_108 : decode cX6_digest 108 = .ok (.iinc 5 1, 3) := by decide +kernel
theorem dX6_digest_111 : decode cX6_digest 111 = .ok (.goto (-22), 3) := by decide +kernel
theorem dX6_digest_114 : decode cX6_digest 114 = .ok (.lload_n 1, 1) := by decide +kernel
theorem dX6_digest_115 : decode cX6_digest 115 = .ok (.aload_n 0, 1) := by decide +kernel
theorem dX6_digest_116 : decode cX6_digest 116 = .ok (.getfield 44, 3) := by decide +kernel
theorem dX6_digest_119 : decode cX6_digest 119 = .ok (.aload 4, 2) := by decide +kernel
theorem dX6_digest_121 : decode cX6_digest 121 = .ok (.invokevirtual 212, 3) := by decide +kernel
theorem dX6_digest_124 : decode cX6_digest 124 = .ok (.i2l, 1) := by decide +kernel
theorem dX6_digest_125 : decode cX6_digest 125 = .ok (.invokestatic 278, 3) := by decide +kernel
theorem dX6_digest_128 : decode cX6_digest 128 = .ok (.lstore_n 1, 1) := by decide +kernel
theorem dX6_digest_129 : decode cX6_digest 129 = .ok (.aload_n 0, 1) := by decide +kernel
theorem dX6_digest_130 : decode cX6_digest 130 = .ok (.lload_n 1, 1) := by decide +kernel
theorem dX6_digest_131 : decode cX6_digest 131 = .ok (.aload 4, 2) := by decide +kernel
theorem dX6_digest_133 : decode cX6_digest 133 = .ok (.invokevirtual 282, 3) := by decide +kernel
theorem dX6_digest_136 : decode cX6_digest 136 = .ok (.lstore_n 1, 1) := by decide +kernel
theorem dX6_digest_137 : decode cX6_digest 137 = .ok (.lload_n 1, 1) := by decide +kernel
theorem dX6_digest_138 : decode cX6_digest 138 = .ok (.aload_n 0, 1) := by decide +kernel
theorem dX6_digest_139 : decode cX6_digest 139 = .ok (.getfield 51, 3) := by decide +kernel
theorem dX6_digest_142 : decode cX6_digest 142 = .ok (.aload 4, 2) := by decide +kernel
theorem dX6_digest_144 : decode cX6_digest 144 = .ok (.invokevirtual 231, 3) := by decide +kernel
theorem dX6_digest_147 : decode cX6_digest 147 = .ok (.i2l, 1) := by decide +kernel
theorem dX6_digest_148 : decode cX6_digest 148 = .ok (.invokestatic 278, 3) := by decide +kernel
theorem dX6_digest_151 : decode cX6_digest 151 = .ok (.lstore_n 1, 1) := by decide +kernel
theorem dX6_digest_152 : decode cX6_digest 152 = .ok (.aload_n 0, 1) := by decide +kernel
theorem dX6_digest_153 : decode cX6_digest 153 = .ok (.lload_n 1, 1) := by decide +kernel
theorem dX6_digest_154 : decode cX6_digest 154 = .ok (.aload 4, 2) := by decide +kernel
theorem dX6_digest_156 : decode cX6_digest 156 = .ok (.invokevirtual 286, 3) := by decide +kernel
theorem dX6_digest_159 : decode cX6_digest 159 = .ok (.lstore_n 1, 1) := by decide +kernel
theorem dX6_digest_160 : decode cX6_digest 160 = .ok (.iinc 3 1, 3) := by decide +kernel
theorem dX6_digest_163 : decode cX6_digest 163 = .ok (.goto (-146), 3) := by decide +kernel
theorem dX6_digest_166 : decode cX6_digest 166 = .ok (.lload_n 1, 1) := by decide +kernel
theorem dX6_digest_167 : decode cX6_digest 167 = .ok (.aload_n 0, 1) := by decide +kernel
theorem dX6_digest_168 : decode cX6_digest 168 = .ok (.getfield 30, 3) := by decide +kernel
theorem dX6_digest_171 : decode cX6_digest 171 = .ok (.invokevirtual 289, 3) := by decide +kernel
theorem dX6_digest_174 : decode cX6_digest 174 = .ok (.i2l, 1) := by decide +kernel
theorem dX6_digest_175 : decode cX6_digest 175 = .ok (.invokestatic 278, 3) := by decide +kernel
theorem dX6_digest_178 : decode cX6_digest 178 = .ok (.lreturn, 1) := by decide +kernel
theorem dX6_boundOf_0 : decode cX6_boundOf 0 = .ok (.iload_n 1, 1) := by decide +kernel
theorem dX6_boundOf_1 : decode cX6_boundOf 1 = .ok (.tableswitch 42 0 2 #[27, 32, 37], 27) := by decide +kernel
theorem dX6_boundOf_28 : decode cX6_boundOf 28 = .ok (.aload_n 0, 1) := by decide +kernel
theorem dX6_boundOf_29 : decode cX6_boundOf 29 = .ok (.invokevirtual 138, 3) := by decide +kernel
theorem dX6_boundOf_32 : decode cX6_boundOf 32 = .ok (.ireturn, 1) := by decide +kernel
theorem dX6_boundOf_33 : decode cX6_boundOf 33 = .ok (.aload_n 0, 1) := by decide +kernel
theorem dX6_boundOf_34 : decode cX6_boundOf 34 = .ok (.invokevirtual 144, 3) := by decide +kernel
theorem dX6_boundOf_37 : decode cX6_boundOf 37 = .ok (.ireturn, 1) := by decide +kernel
theorem dX6_boundOf_38 : decode cX6_boundOf 38 = .ok (.aload_n 0, 1) := by decide +kernel
theorem dX6_boundOf_39 : decode cX6_boundOf 39 = .ok (.invokevirtual 141, 3) := by decide +kernel
theorem dX6_boundOf_42 : decode cX6_boundOf 42 = .ok (.ireturn, 1) := by decide +kernel
theorem dX6_boundOf_43 : decode cX6_boundOf 43 = .ok (.aload_n 0, 1) := by decide +kernel
theorem dX6_boundOf_44 : decode cX6_boundOf 44 = .ok (.invokevirtual 147, 3) := by decide +kernel
theorem dX6_boundOf_47 : decode cX6_boundOf 47 = .ok (.ireturn, 1) := by decide +kernel
theorem dX6_mixed_0 : decode cX6_mixed 0 = .ok (.lload_n 0, 1) := by decide +kernel
theorem dX6_mixed_1 : decode cX6_mixed 1 = .ok (.ldc2_w 304, 3) := by decide +kernel
theorem dX6_mixed_4 : decode cX6_mixed 4 = .ok (.lmul, 1) := by decide +kernel
theorem dX6_mixed_5 : decode cX6_mixed 5 = .ok (.lload_n 2, 1) := by decide +kernel
theorem dX6_mixed_6 : decode cX6_mixed 6 = .ok (.ladd, 1) := by decide +kernel
theorem dX6_mixed_7 : decode cX6_mixed 7 = .ok (.lreturn, 1) := by decide +kernel
theorem dX6_digestOfContours_0 : decode cX6_digestOfContours 0 = .ok (.lload_n 1, 1) := by decide +kernel
theorem dX6_digestOfContours_1 : decode cX6_digestOfContours 1 = .ok (.lstore 4, 2) := by decide +kernel
theorem dX6_digestOfContours_3 : decode cX6_digestOfContours 3 = .ok (.aload_n 0, 1) := by decide +kernel
theorem dX6_digestOfContours_4 : decode cX6_digestOfContours 4 = .ok (.getfield 44, 3) := by decide +kernel
theorem dX6_digestOfContours_7 : decode cX6_digestOfContours 7 = .ok (.aload_n 3, 1) := by decide +kernel
theorem dX6_digestOfContours_8 : decode cX6_digestOfContours 8 = .ok (.invokevirtual 330, 3) := by decide +kernel
theorem dX6_digestOfContours_11 : decode cX6_digestOfContours 11 = .ok (.iconst 0, 1) := by decide +kernel
theorem dX6_digestOfContours_12 : decode cX6_digestOfContours 12 = .ok (.istore 6, 2) := by decide +kernel
theorem dX6_digestOfContours_14 : decode cX6_digestOfContours 14 = .ok (.iload 6, 2) := by decide +kernel
theorem dX6_digestOfContours_16 : decode cX6_digestOfContours 16 = .ok (.sipush 16384, 3) := by decide +kernel
theorem dX6_digestOfContours_19 : decode cX6_digestOfContours 19 = .ok (.if_icmp .ge 80, 3) := by decide +kernel
theorem dX6_digestOfContours_22 : decode cX6_digestOfContours 22 = .ok (.aload_n 0, 1) := by decide +kernel
theorem dX6_digestOfContours_23 : decode cX6_digestOfContours 23 = .ok (.getfield 44, 3) := by decide +kernel
theorem dX6_digestOfContours_26 : decode cX6_digestOfContours 26 = .ok (.iconst 0, 1) := by decide +kernel
theorem dX6_digestOfContours_27 : decode cX6_digestOfContours 27 = .ok (.invokevirtual 332, 3) := by decide +kernel
theorem dX6_digestOfContours_30 : decode cX6_digestOfContours 30 = .ok (.ifCond .eq 69, 3) := by decide +kernel
theorem dX6_digestOfContours_99 : decode cX6_digestOfContours 99 = .ok (.lload 4, 2) := by decide +kernel
theorem dX6_digestOfContours_101 : decode cX6_digestOfContours 101 = .ok (.lreturn, 1) := by decide +kernel
theorem dX6_digestOfStrips_0 : decode cX6_digestOfStrips 0 = .ok (.lload_n 1, 1) := by decide +kernel
theorem dX6_digestOfStrips_1 : decode cX6_digestOfStrips 1 = .ok (.lstore 4, 2) := by decide +kernel
theorem dX6_digestOfStrips_3 : decode cX6_digestOfStrips 3 = .ok (.aload_n 0, 1) := by decide +kernel
theorem dX6_digestOfStrips_4 : decode cX6_digestOfStrips 4 = .ok (.getfield 51, 3) := by decide +kernel
theorem dX6_digestOfStrips_7 : decode cX6_digestOfStrips 7 = .ok (.aload_n 3, 1) := by decide +kernel
theorem dX6_digestOfStrips_8 : decode cX6_digestOfStrips 8 = .ok (.invokevirtual 336, 3) := by decide +kernel
theorem dX6_digestOfStrips_11 : decode cX6_digestOfStrips 11 = .ok (.iconst 0, 1) := by decide +kernel
theorem dX6_digestOfStrips_12 : decode cX6_digestOfStrips 12 = .ok (.istore 6, 2) := by decide +kernel
theorem dX6_digestOfStrips_14 : decode cX6_digestOfStrips 14 = .ok (.iload 6, 2) := by decide +kernel
theorem dX6_digestOfStrips_16 : decode cX6_digestOfStrips 16 = .ok (.sipush 16384, 3) := by decide +kernel
theorem dX6_digestOfStrips_19 : decode cX6_digestOfStrips 19 = .ok (.if_icmp .ge 51, 3) := by decide +kernel
theorem dX6_digestOfStrips_22 : decode cX6_digestOfStrips 22 = .ok (.aload_n 0, 1) := by decide +kernel
theorem dX6_digestOfStrips_23 : decode cX6_digestOfStrips 23 = .ok (.getfield 51, 3) := by decide +kernel
theorem dX6_digestOfStrips_26 : decode cX6_digestOfStrips 26 = .ok (.invokevirtual 337, 3) := by decide +kernel
theorem dX6_digestOfStrips_29 : decode cX6_digestOfStrips 29 = .ok (.ifCond .eq 41, 3) := by decide +kernel
theorem dX6_digestOfStrips_70 : decode cX6_digestOfStrips 70 = .ok (.lload 4, 2) := by decide +kernel
theorem dX6_digestOfStrips_72 : decode cX6_digestOfStrips 72 = .ok (.lreturn, 1) := by decide +kernel
theorem dX6_bit_0 : decode cX6_bit 0 = .ok (.lconst 1, 1) := by decide +kernel
theorem dX6_bit_1 : decode cX6_bit 1 = .ok (.iload_n 0, 1) := by decide +kernel
theorem dX6_bit_2 : decode cX6_bit 2 = .ok (.bipush (-32), 2) := by decide +kernel
theorem dX6_bit_4 : decode cX6_bit 4 = .ok (.isub, 1) := by decide +kernel
theorem dX6_bit_5 : decode cX6_bit 5 = .ok (.lshl, 1) := by decide +kernel
theorem dX6_bit_6 : decode cX6_bit 6 = .ok (.lreturn, 1) := by decide +kernel
theorem dX7_init_0 : decode cX7_init 0 = .ok (.aload_n 0, 1) := by decide +kernel
theorem dX7_init_1 : decode cX7_init 1 = .ok (.invokespecial 3, 3) := by decide +kernel
theorem dX7_init_4 : decode cX7_init 4 = .ok (.aload_n 0, 1) := by decide +kernel
theorem dX7_init_5 : decode cX7_init 5 = .ok (.bipush 8, 2) := by decide +kernel
theorem dX7_init_7 : decode cX7_init 7 = .ok (.sipush 4096, 3) := by decide +kernel
theorem dX7_init_10 : decode cX7_init 10 = .ok (.multianewarray 9 2, 4) := by decide +kernel
theorem dX7_init_14 : decode cX7_init 14 = .ok (.putfield 11, 3) := by decide +kernel
theorem dX7_init_17 : decode cX7_init 17 = .ok (.aload_n 0, 1) := by decide +kernel
theorem dX7_init_18 : decode cX7_init 18 = .ok (.bipush 61, 2) := by decide +kernel
theorem dX7_init_20 : decode cX7_init 20 = .ok (.newarray .int, 2) := by decide +kernel
theorem dX7_init_22 : decode cX7_init 22 = .ok (.putfield 14, 3) := by decide +kernel
theorem dX7_init_25 : decode cX7_init 25 = .ok (.aload_n 0, 1) := by decide +kernel
theorem dX7_init_26 : decode cX7_init 26 = .ok (.bipush 61, 2) := by decide +kernel
theorem dX7_init_28 : decode cX7_init 28 = .ok (.newarray .int, 2) := by decide +kernel
theorem dX7_init_30 : decode cX7_init 30 = .ok (.putfield 18, 3) := by decide +kernel
theorem dX7_init_33 : decode cX7_init 33 = .ok (.aload_n 0, 1) := by decide +kernel
theorem dX7_init_34 : decode cX7_init 34 = .ok (.iconst 1, 1) := by decide +kernel
theorem dX7_init_35 : decode cX7_init 35 = .ok (.putfield 21, 3) := by decide +kernel
theorem dX7_init_38 : decode cX7_init 38 = .ok (.aload_n 0, 1) := by decide +kernel
theorem dX7_init_39 : decode cX7_init 39 = .ok (.bipush 13, 2) := by decide +kernel
theorem dX7_init_41 : decode cX7_init 41 = .ok (.newarray .int, 2) := by decide +kernel
theorem dX7_init_43 : decode cX7_init 43 = .ok (.putfield 25, 3) := by decide +kernel
theorem dX7_init_46 : decode cX7_init 46 = .ok (.aload_n 0, 1) := by decide +kernel
theorem dX7_init_47 : decode cX7_init 47 = .ok (.bipush 13, 2) := by decide +kernel
theorem dX7_init_49 : decode cX7_init 49 = .ok (.anewarray 28, 3) := by decide +kernel
theorem dX7_init_52 : decode cX7_init 52 = .ok (.putfield 30, 3) := by decide +kernel
theorem dX7_init_55 : decode cX7_init 55 = .ok (.return_, 1) := by decide +kernel
theorem dX7_isIn_0 : decode cX7_isIn 0 = .ok (.iload_n 0, 1) := by decide +kernel
theorem dX7_isIn_1 : decode cX7_isIn 1 = .ok (.iload_n 1, 1) := by decide +kernel
theorem dX7_isIn_2 : decode cX7_isIn 2 = .ok (.if_icmp .lt 12, 3) := by decide +kernel
theorem dX7_isIn_5 : decode cX7_isIn 5 = .ok (.iload_n 0, 1) := by decide +kernel
theorem dX7_isIn_6 : decode cX7_isIn 6 = .ok (.iload_n 2, 1) := by decide +kernel
theorem dX7_isIn_7 : decode cX7_isIn 7 = .ok (.if_icmp .gt 7, 3) := by decide +kernel
theorem dX7_isIn_10 : decode cX7_isIn 10 = .ok (.iconst 1, 1) := by decide +kernel
theorem dX7_isIn_11 : decode cX7_isIn 11 = .ok (.goto 4, 3) := by decide +kernel
theorem dX7_isIn_14 : decode cX7_isIn 14 = .ok (.iconst 0, 1) := by decide +kernel
theorem dX7_isIn_15 : decode cX7_isIn 15 = .ok (.ireturn, 1) := by decide +kernel
theorem dX7_isField_0 : decode cX7_isField 0 = .ok (.iload_n 0, 1) := by decide +kernel
theorem dX7_isField_1 : decode cX7_isField 1 = .ok (.bipush (-32), 2) := by decide +kernel
theorem dX7_isField_3 : decode cX7_isField 3 = .ok (.bipush 31, 2) := by decide +kernel
theorem dX7_isField_5 : decode cX7_isField 5 = .ok (.invokestatic 36, 3) := by decide +kernel
theorem dX7_isField_8 : decode cX7_isField 8 = .ok (.ifCond .eq 18, 3) := by decide +kernel
theorem dX7_isField_11 : decode cX7_isField 11 = .ok (.iload_n 1, 1) := by decide +kernel
theorem dX7_isField_12 : decode cX7_isField 12 = .ok (.bipush (-32), 2) := by decide +kernel
theorem dX7_isField_14 : decode cX7_isField 14 = .ok (.bipush 31, 2) := by decide +kernel
theorem dX7_isField_16 : decode cX7_isField 16 = .ok (.invokestatic 36, 3) := by decide +kernel
theorem dX7_isField_19 : decode cX7_isField 19 = .ok (.ifCond .eq 7, 3) := by decide +kernel
theorem dX7_isField_22 : decode cX7_isField 22 = .ok (.iconst 1, 1) := by decide +kernel
theorem dX7_isField_23 : decode cX7_isField 23 = .ok (.goto 4, 3) := by decide +kernel
theorem dX7_isField_26 : decode cX7_isField 26 = .ok (.iconst 0, 1) := by decide +kernel
theorem dX7_isField_27 : decode cX7_isField 27 = .ok (.ireturn, 1) := by decide +kernel
theorem dX7_at_0 : decode cX7_at 0 = .ok (.iload_n 1, 1) := by decide +kernel
theorem dX7_at_1 : decode cX7_at 1 = .ok (.bipush (-32), 2) := by decide +kernel
theorem dX7_at_3 : decode cX7_at 3 = .ok (.isub, 1) := by decide +kernel
theorem dX7_at_4 : decode cX7_at 4 = .ok (.bipush 64, 2) := by decide +kernel
theorem dX7_at_6 : decode cX7_at 6 = .ok (.imul, 1) := by decide +kernel
theorem dX7_at_7 : decode cX7_at 7 = .ok (.iload_n 0, 1) := by decide +kernel
theorem dX7_at_8 : decode cX7_at 8 = .ok (.iadd, 1) := by decide +kernel
theorem dX7_at_9 : decode cX7_at 9 = .ok (.bipush (-32), 2) := by decide +kernel
theorem dX7_at_11 : decode cX7_at 11 = .ok (.isub, 1) := by decide +kernel
theorem dX7_at_12 : decode cX7_at 12 = .ok (.ireturn, 1) := by decide +kernel
theorem dX7_has_0 : decode cX7_has 0 = .ok (.iload_n 1, 1) := by decide +kernel
theorem dX7_has_1 : decode cX7_has 1 = .ok (.iload_n 2, 1) := by decide +kernel
theorem dX7_has_2 : decode cX7_has 2 = .ok (.invokestatic 40, 3) := by decide +kernel
theorem dX7_has_5 : decode cX7_has 5 = .ok (.ifCond .eq 17, 3) := by decide +kernel
theorem dX7_has_8 : decode cX7_has 8 = .ok (.aload_n 0, 1) := by decide +kernel
theorem dX7_has_9 : decode cX7_has 9 = .ok (.iload_n 1, 1) := by decide +kernel
theorem dX7_has_10 : decode cX7_has 10 = .ok (.iload_n 2, 1) := by decide +kernel
theorem dX7_has_11 : decode cX7_has 11 = .ok (.invokestatic 44, 3) := by decide +kernel
theorem dX7_has_14 : decode cX7_has 14 = .ok (.baload, 1) := by decide +kernel
theorem dX7_has_15 : decode cX7_has 15 = .ok (.ifCond .eq 7, 3) := by decide +kernel
theorem dX7_has_22 : decode cX7_has 22 = .ok (.iconst 0, 1) := by decide +kernel
theorem dX7_has_23 : decode cX7_has 23 = .ok (.ireturn, 1) := by decide +kernel
theorem dX7_areaOf_0 : decode cX7_areaOf 0 = .ok (.iconst 0, 1) := by decide +kernel
theorem dX7_areaOf_1 : decode cX7_areaOf 1 = .ok (.istore_n 1, 1) := by decide +kernel
theorem dX7_areaOf_2 : decode cX7_areaOf 2 = .ok (.aload_n 0, 1) := by decide +kernel
theorem dX7_areaOf_3 : decode cX7_areaOf 3 = .ok (.astore_n 2, 1) := by decide +kernel
theorem dX7_areaOf_4 : decode cX7_areaOf 4 = .ok (.aload_n 2, 1) := by decide +kernel
theorem dX7_areaOf_5 : decode cX7_areaOf 5 = .ok (.arraylength, 1) := by decide +kernel
theorem dX7_areaOf_6 : decode cX7_areaOf 6 = .ok (.istore_n 3, 1) := by decide +kernel
theorem dX7_areaOf_7 : decode cX7_areaOf 7 = .ok (.iconst 0, 1) := by decide +kernel
theorem dX7_areaOf_8 : decode cX7_areaOf 8 = .ok (.istore 4, 2) := by decide +kernel
theorem dX7_areaOf_10 : decode cX7_areaOf 10 = .ok (.iload 4, 2) := by decide +kernel
theorem dX7_areaOf_12 : decode cX7_areaOf 12 = .ok (.iload_n 3, 1) := by decide +kernel
theorem dX7_areaOf_13 : decode cX7_areaOf 13 = .ok (.if_icmp .ge 28, 3) := by decide +kernel
theorem dX7_areaOf_16 : decode cX7_areaOf 16 = .ok (.aload_n 2, 1) := by decide +kernel
theorem dX7_areaOf_17 : decode cX7_areaOf 17 = .ok (.iload 4, 2) := by decide +kernel
theorem dX7_areaOf_19 : decode cX7_areaOf 19 = .ok (.baload, 1) := by decide +kernel
theorem dX7_areaOf_20 : decode cX7_areaOf 20 = .ok (.istore 5, 2) := by decide +kernel
theorem dX7_areaOf_22 : decode cX7_areaOf 22 = .ok (.iload_n 1, 1) := by decide +kernel
theorem dX7_areaOf_23 : decode cX7_areaOf 23 = .ok (.iload 5, 2) := by decide +kernel
theorem dX7_areaOf_25 : decode cX7_areaOf 25 = .ok (.ifCond .eq 7, 3) := by decide +kernel
theorem dX7_areaOf_28 : decode cX7_areaOf 28 = .ok (.iconst 1, 1) := by decide +kernel
theorem dX7_areaOf_29 : decode cX7_areaOf 29 = .ok (.goto 4, 3) := by decide +kernel
theorem dX7_areaOf_32 : decode cX7_areaOf 32 = .ok (.iconst 0, 1) := by decide +kernel
theorem dX7_areaOf_33 : decode cX7_areaOf 33 = .ok (.iadd, 1) := by decide +kernel
theorem dX7_areaOf_34 : decode cX7_areaOf 34 = .ok (.istore_n 1, 1) := by decide +kernel
theorem dX7_areaOf_35 : decode cX7_areaOf 35 = .ok (.iinc 4 1, 3) := by decide +kernel
theorem dX7_areaOf_38 : decode cX7_areaOf 38 = .ok (.goto (-28), 3) := by decide +kernel
theorem dX7_areaOf_41 : decode cX7_areaOf 41 = .ok (.iload_n 1, 1) := by decide +kernel
theorem dX7_areaOf_42 : decode cX7_areaOf 42 = .ok (.ireturn, 1) := by decide +kernel
theorem dX7_parts_0 : decode cX7_parts 0 = .ok (.bipush 66, 2) := by decide +kernel
theorem dX7_parts_2 : decode cX7_parts 2 = .ok (.istore_n 2, 1) := by decide +kernel
theorem dX7_parts_3 : decode cX7_parts 3 = .ok (.iload_n 2, 1) := by decide +kernel
theorem dX7_parts_4 : decode cX7_parts 4 = .ok (.iload_n 2, 1) := by decide +kernel
theorem dX7_parts_5 : decode cX7_parts 5 = .ok (.imul, 1) := by decide +kernel
theorem dX7_parts_6 : decode cX7_parts 6 = .ok (.newarray .int, 2) := by decide +kernel
theorem dX7_parts_8 : decode cX7_parts 8 = .ok (.astore_n 3, 1) := by decide +kernel
theorem dX7_parts_9 : decode cX7_parts 9 = .ok (.iload_n 2, 1) := by decide +kernel
theorem dX7_parts_10 : decode cX7_parts 10 = .ok (.iload_n 2, 1) := by decide +kernel
theorem dX7_parts_11 : decode cX7_parts 11 = .ok (.imul, 1) := by decide +kernel
theorem dX7_parts_12 : decode cX7_parts 12 = .ok (.newarray .int, 2) := by decide +kernel
theorem dX7_parts_14 : decode cX7_parts 14 = .ok (.astore 4, 2) := by decide +kernel
theorem dX7_parts_16 : decode cX7_parts 16 = .ok (.iconst 0, 1) := by decide +kernel
theorem dX7_parts_17 : decode cX7_parts 17 = .ok (.istore 5, 2) := by decide +kernel
theorem dX7_parts_19 : decode cX7_parts 19 = .ok (.iconst 0, 1) := by decide +kernel
theorem dX7_parts_20 : decode cX7_parts 20 = .ok (.istore 6, 2) := by decide +kernel
theorem dX7_parts_22 : decode cX7_parts 22 = .ok (.iload 6, 2) := by decide +kernel
theorem dX7_parts_24 : decode cX7_parts 24 = .ok (.aload_n 3, 1) := by decide +kernel
theorem dX7_parts_25 : decode cX7_parts 25 = .ok (.arraylength, 1) := by decide +kernel
theorem dX7_parts_26 : decode cX7_parts 26 = .ok (.if_icmp .ge 253, 3) := by decide +kernel
theorem dX7_parts_29 : decode cX7_parts 29 = .ok (.aload_n 0, 1) := by decide +kernel
theorem dX7_parts_30 : decode cX7_parts 30 = .ok (.iload 6, 2) := by decide +kernel
theorem dX7_parts_32 : decode cX7_parts 32 = .ok (.iload_n 2, 1) := by decide +kernel
theorem dX7_parts_33 : decode cX7_parts 33 = .ok (.irem, 1) := by decide +kernel
theorem dX7_parts_34 : decode cX7_parts 34 = .ok (.bipush (-32), 2) := by decide +kernel
theorem dX7_parts_36 : decode cX7_parts 36 = .ok (.iadd, 1) := by decide +kernel
theorem dX7_parts_37 : decode cX7_parts 37 = .ok (.iconst 1, 1) := by decide +kernel
theorem dX7_parts_38 : decode cX7_parts 38 = .ok (.isub, 1) := by decide +kernel
theorem dX7_parts_39 : decode cX7_parts 39 = .ok (.iload 6, 2) := by decide +kernel
theorem dX7_parts_41 : decode cX7_parts 41 = .ok (.iload_n 2, 1) := by decide +kernel
theorem dX7_parts_42 : decode cX7_parts 42 = .ok (.idiv, 1) := by decide +kernel
theorem dX7_parts_43 : decode cX7_parts 43 = .ok (.bipush (-32), 2) := by decide +kernel
theorem dX7_parts_45 : decode cX7_parts 45 = .ok (.iadd, 1) := by decide +kernel
theorem dX7_parts_46 : decode cX7_parts 46 = .ok (.iconst 1, 1) := by decide +kernel
theorem dX7_parts_47 : decode cX7_parts 47 = .ok (.isub, 1) := by decide +kernel
theorem dX7_parts_48 : decode cX7_parts 48 = .ok (.invokestatic 95, 3) := by decide +kernel
theorem dX7_parts_51 : decode cX7_parts 51 = .ok (.iload_n 1, 1) := by decide +kernel
theorem dX7_parts_52 : decode cX7_parts 52 = .ok (.if_icmp .ne 7, 3) := by decide +kernel
theorem dX7_parts_55 : decode cX7_parts 55 = .ok (.iconst 1, 1) := by decide +kernel
theorem dX7_parts_56 : decode cX7_parts 56 = .ok (.goto 4, 3) := by decide +kernel
theorem dX7_parts_59 : decode cX7_parts 59 = .ok (.iconst 0, 1) := by decide +kernel
theorem dX7_parts_60 : decode cX7_parts 60 = .ok (.istore 7, 2) := by decide +kernel
theorem dX7_parts_62 : decode cX7_parts 62 = .ok (.iload 7, 2) := by decide +kernel
theorem dX7_parts_64 : decode cX7_parts 64 = .ok (.ifCond .eq 209, 3) := by decide +kernel
theorem dX7_parts_67 : decode cX7_parts 67 = .ok (.aload_n 3, 1) := by decide +kernel
theorem dX7_parts_68 : decode cX7_parts 68 = .ok (.iload 6, 2) := by decide +kernel
theorem dX7_parts_70 : decode cX7_parts 70 = .ok (.iaload, 1) := by decide +kernel
theorem dX7_parts_71 : decode cX7_parts 71 = .ok (.ifCond .eq 6, 3) := by decide +kernel
theorem dX7_parts_74 : decode cX7_parts 74 = .ok (.goto 199, 3) := by decide +kernel
theorem dX7_parts_77 : decode cX7_parts 77 = .ok (.aload_n 3, 1) := by decide +kernel
theorem dX7_parts_78 : decode cX7_parts 78 = .ok (.iload 6, 2) := by decide +kernel
theorem dX7_parts_80 : decode cX7_parts 80 = .ok (.iinc 5 1, 3) := by decide +kernel
theorem dX7_parts_83 : decode cX7_parts 83 = .ok (.iload 5, 2) := by decide +kernel
theorem dX7_parts_85 : decode cX7_parts 85 = .ok (.iastore, 1) := by decide +kernel
theorem dX7_parts_86 : decode cX7_parts 86 = .ok (.iconst 0, 1) := by decide +kernel
theorem dX7_parts_87 : decode cX7_parts 87 = .ok (.istore 8, 2) := by decide +kernel
