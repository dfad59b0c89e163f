theorem dX6_combine_55 : decode cX6_combine 55 = .ok (.iload 8, 2) := by decide +kernel
theorem dX6_combine_57 : decode cX6_combine 57 = .ok (.bipush 31, 2) := by decide +kernel
theorem dX6_combine_59 : decode cX6_combine 59 = .ok (.if_icmp .gt 35, 3) := by decide +kernel
theorem dX6_combine_62 : decode cX6_combine 62 = .ok (.aload 5, 2) := by decide +kernel
theorem dX6_combine_64 : decode cX6_combine 64 = .ok (.iload 8, 2) := by decide +kernel
theorem dX6_combine_66 : decode cX6_combine 66 = .ok (.aload 6, 2) := by decide +kernel
theorem dX6_combine_68 : decode cX6_combine 68 = .ok (.iload 8, 2) := by decide +kernel
theorem dX6_combine_70 : decode cX6_combine 70 = .ok (.invokevirtual 119, 3) := by decide +kernel
theorem dX6_combine_73 : decode cX6_combine 73 = .ok (.aload 7, 2) := by decide +kernel
theorem dX6_combine_75 : decode cX6_combine 75 = .ok (.iload 8, 2) := by decide +kernel
theorem dX6_combine_77 : decode cX6_combine 77 = .ok (.invokevirtual 119, 3) := by decide +kernel
theorem dX6_combine_80 : decode cX6_combine 80 = .ok (.iload 4, 2) := by decide +kernel
theorem dX6_combine_82 : decode cX6_combine 82 = .ok (.invokestatic 128, 3) := by decide +kernel
theorem dX6_combine_85 : decode cX6_combine 85 = .ok (.invokevirtual 123, 3) := by decide +kernel
theorem dX6_combine_88 : decode cX6_combine 88 = .ok (.iinc 8 1, 3) := by decide +kernel
theorem dX6_combine_91 : decode cX6_combine 91 = .ok (.goto (-36), 3) := by decide +kernel
theorem dX6_combine_94 : decode cX6_combine 94 = .ok (.aload 5, 2) := by decide +kernel
theorem dX6_combine_96 : decode cX6_combine 96 = .ok (.invokevirtual 108, 3) := by decide +kernel
theorem dX6_combine_99 : decode cX6_combine 99 = .ok (.ireturn, 1) := by decide +kernel
theorem dX6_move_0 : decode cX6_move 0 = .ok (.aload_n 0, 1) := by decide +kernel
theorem dX6_move_1 : decode cX6_move 1 = .ok (.iload_n 1, 1) := by decide +kernel
theorem dX6_move_2 : decode cX6_move 2 = .ok (.invokevirtual 87, 3) := by decide +kernel
theorem dX6_move_5 : decode cX6_move 5 = .ok (.astore 4, 2) := by decide +kernel
theorem dX6_move_7 : decode cX6_move 7 = .ok (.bipush (-64), 2) := by decide +kernel
theorem dX6_move_9 : decode cX6_move 9 = .ok (.iload_n 2, 1) := by decide +kernel
theorem dX6_move_10 : decode cX6_move 10 = .ok (.bipush 64, 2) := by decide +kernel
theorem dX6_move_12 : decode cX6_move 12 = .ok (.invokestatic 91, 3) := by decide +kernel
theorem dX6_move_15 : decode cX6_move 15 = .ok (.ifCond .eq 14, 3) := by decide +kernel
theorem dX6_move_18 : decode cX6_move 18 = .ok (.bipush (-64), 2) := by decide +kernel
theorem dX6_move_20 : decode cX6_move 20 = .ok (.iload_n 3, 1) := by decide +kernel
theorem dX6_move_21 : decode cX6_move 21 = .ok (.bipush 64, 2) := by decide +kernel
theorem dX6_move_23 : decode cX6_move 23 = .ok (.invokestatic 91, 3) := by decide +kernel
theorem dX6_move_26 : decode cX6_move 26 = .ok (.ifCond .ne 13, 3) := by decide +kernel
theorem dX6_move_29 : decode cX6_move 29 = .ok (.new 59, 3) := by decide +kernel
theorem dX6_move_32 : decode cX6_move 32 = .ok (.dup, 1) := by decide +kernel
theorem dX6_move_33 : decode cX6_move 33 = .ok (.ldc 132, 2) := by decide +kernel
theorem dX6_move_35 : decode cX6_move 35 = .ok (.invokespecial 63, 3) := by decide +kernel
theorem dX6_move_38 : decode cX6_move 38 = .ok (.athrow, 1) := by decide +kernel
theorem dX6_move_39 : decode cX6_move 39 = .ok (.aload 4, 2) := by decide +kernel
theorem dX6_move_41 : decode cX6_move 41 = .ok (.invokevirtual 134, 3) := by decide +kernel
theorem dX6_move_44 : decode cX6_move 44 = .ok (.ifCond .ne 41, 3) := by decide +kernel
theorem dX6_move_47 : decode cX6_move 47 = .ok (.aload 4, 2) := by decide +kernel
theorem dX6_move_49 : decode cX6_move 49 = .ok (.invokevirtual 138, 3) := by decide +kernel
theorem dX6_move_52 : decode cX6_move 52 = .ok (.iload_n 2, 1) := by decide +kernel
theorem dX6_move_53 : decode cX6_move 53 = .ok (.iadd, 1) := by decide +kernel
theorem dX6_move_54 : decode cX6_move 54 = .ok (.i2l, 1) := by decide +kernel
theorem dX6_move_55 : decode cX6_move 55 = .ok (.aload 4, 2) := by decide +kernel
theorem dX6_move_57 : decode cX6_move 57 = .ok (.invokevirtual 141, 3) := by decide +kernel
theorem dX6_move_60 : decode cX6_move 60 = .ok (.iload_n 2, 1) := by decide +kernel
theorem dX6_move_61 : decode cX6_move 61 = .ok (.iadd, 1) := by decide +kernel
theorem dX6_move_62 : decode cX6_move 62 = .ok (.i2l, 1) := by decide +kernel
theorem dX6_move_63 : decode cX6_move 63 = .ok (.invokestatic 113, 3) := by decide +kernel
theorem dX6_move_66 : decode cX6_move 66 = .ok (.aload 4, 2) := by decide +kernel
theorem dX6_move_68 : decode cX6_move 68 = .ok (.invokevirtual 144, 3) := by decide +kernel
theorem dX6_move_71 : decode cX6_move 71 = .ok (.iload_n 3, 1) := by decide +kernel
theorem dX6_move_72 : decode cX6_move 72 = .ok (.iadd, 1) := by decide +kernel
theorem dX6_move_73 : decode cX6_move 73 = .ok (.i2l, 1) := by decide +kernel
theorem dX6_move_74 : decode cX6_move 74 = .ok (.aload 4, 2) := by decide +kernel
theorem dX6_move_76 : decode cX6_move 76 = .ok (.invokevirtual 147, 3) := by decide +kernel
theorem dX6_move_79 : decode cX6_move 79 = .ok (.iload_n 3, 1) := by decide +kernel
theorem dX6_move_80 : decode cX6_move 80 = .ok (.iadd, 1) := by decide +kernel
theorem dX6_move_81 : decode cX6_move 81 = .ok (.i2l, 1) := by decide +kernel
theorem dX6_move_82 : decode cX6_move 82 = .ok (.invokestatic 113, 3) := by decide +kernel
theorem dX6_move_85 : decode cX6_move 85 = .ok (.aload_n 0, 1) := by decide +kernel
theorem dX6_move_86 : decode cX6_move 86 = .ok (.getfield 30, 3) := by decide +kernel
theorem dX6_move_89 : decode cX6_move 89 = .ok (.iload_n 1, 1) := by decide +kernel
theorem dX6_move_90 : decode cX6_move 90 = .ok (.aload 4, 2) := by decide +kernel
theorem dX6_move_92 : decode cX6_move 92 = .ok (.invokevirtual 97, 3) := by decide +kernel
theorem dX6_move_95 : decode cX6_move 95 = .ok (.aload 4, 2) := by decide +kernel
theorem dX6_move_97 : decode cX6_move 97 = .ok (.iload_n 2, 1) := by decide +kernel
theorem dX6_move_98 : decode cX6_move 98 = .ok (.iload_n 3, 1) := by decide +kernel
theorem dX6_move_99 : decode cX6_move 99 = .ok (.invokevirtual 150, 3) := by decide +kernel
theorem dX6_move_102 : decode cX6_move 102 = .ok (.aload 4, 2) := by decide +kernel
theorem dX6_move_104 : decode cX6_move 104 = .ok (.invokevirtual 108, 3) := by decide +kernel
theorem dX6_move_107 : decode cX6_move 107 = .ok (.ireturn, 1) := by decide +kernel
theorem dX6_turn_0 : decode cX6_turn 0 = .ok (.aload_n 0, 1) := by decide +kernel
theorem dX6_turn_1 : decode cX6_turn 1 = .ok (.iload_n 1, 1) := by decide +kernel
theorem dX6_turn_2 : decode cX6_turn 2 = .ok (.invokevirtual 87, 3) := by decide +kernel
theorem dX6_turn_5 : decode cX6_turn 5 = .ok (.astore_n 3, 1) := by decide +kernel
theorem dX6_turn_6 : decode cX6_turn 6 = .ok (.iconst 0, 1) := by decide +kernel
theorem dX6_turn_7 : decode cX6_turn 7 = .ok (.iload_n 2, 1) := by decide +kernel
theorem dX6_turn_8 : decode cX6_turn 8 = .ok (.iconst 3, 1) := by decide +kernel
theorem dX6_turn_9 : decode cX6_turn 9 = .ok (.invokestatic 91, 3) := by decide +kernel
theorem dX6_turn_12 : decode cX6_turn 12 = .ok (.ifCond .ne 13, 3) := by decide +kernel
theorem dX6_turn_15 : decode cX6_turn 15 = .ok (.new 59, 3) := by decide +kernel
theorem dX6_turn_18 : decode cX6_turn 18 = .ok (.dup, 1) := by decide +kernel
theorem dX6_turn_19 : decode cX6_turn 19 = .ok (.ldc 153, 2) := by decide +kernel
theorem dX6_turn_21 : decode cX6_turn 21 = .ok (.invokespecial 63, 3) := by decide +kernel
theorem dX6_turn_24 : decode cX6_turn 24 = .ok (.athrow, 1) := by decide +kernel
theorem dX6_turn_25 : decode cX6_turn 25 = .ok (.aload_n 0, 1) := by decide +kernel
theorem dX6_turn_26 : decode cX6_turn 26 = .ok (.getfield 30, 3) := by decide +kernel
theorem dX6_turn_29 : decode cX6_turn 29 = .ok (.iload_n 1, 1) := by decide +kernel
theorem dX6_turn_30 : decode cX6_turn 30 = .ok (.aload_n 3, 1) := by decide +kernel
theorem dX6_turn_31 : decode cX6_turn 31 = .ok (.invokevirtual 97, 3) := by decide +kernel
theorem dX6_turn_34 : decode cX6_turn 34 = .ok (.iconst 0, 1) := by decide +kernel
theorem dX6_turn_35 : decode cX6_turn 35 = .ok (.istore 4, 2) := by decide +kernel
theorem dX6_turn_37 : decode cX6_turn 37 = .ok (.iload 4, 2) := by decide +kernel
theorem dX6_turn_39 : decode cX6_turn 39 = .ok (.iload_n 2, 1) := by decide +kernel
theorem dX6_turn_40 : decode cX6_turn 40 = .ok (.if_icmp .ge 25, 3) := by decide +kernel
theorem dX6_turn_43 : decode cX6_turn 43 = .ok (.aload_n 0, 1) := by decide +kernel
theorem dX6_turn_44 : decode cX6_turn 44 = .ok (.getfield 16, 3) := by decide +kernel
theorem dX6_turn_47 : decode cX6_turn 47 = .ok (.aload_n 3, 1) := by decide +kernel
theorem dX6_turn_48 : decode cX6_turn 48 = .ok (.invokevirtual 155, 3) := by decide +kernel
theorem dX6_turn_51 : decode cX6_turn 51 = .ok (.aload_n 3, 1) := by decide +kernel
theorem dX6_turn_52 : decode cX6_turn 52 = .ok (.aload_n 0, 1) := by decide +kernel
theorem dX6_turn_53 : decode cX6_turn 53 = .ok (.getfield 16, 3) := by decide +kernel
theorem dX6_turn_56 : decode cX6_turn 56 = .ok (.invokevirtual 159, 3) := by decide +kernel
theorem dX6_turn_59 : decode cX6_turn 59 = .ok (.iinc 4 1, 3) := by decide +kernel
theorem dX6_turn_62 : decode cX6_turn 62 = .ok (.goto (-25), 3) := by decide +kernel
theorem dX6_turn_65 : decode cX6_turn 65 = .ok (.aload_n 3, 1) := by decide +kernel
theorem dX6_turn_66 : decode cX6_turn 66 = .ok (.invokevirtual 108, 3) := by decide +kernel
theorem dX6_turn_69 : decode cX6_turn 69 = .ok (.ireturn, 1) := by decide +kernel
theorem dX6_mirror_0 : decode cX6_mirror 0 = .ok (.aload_n 0, 1) := by decide +kernel
theorem dX6_mirror_1 : decode cX6_mirror 1 = .ok (.iload_n 1, 1) := by decide +kernel
theorem dX6_mirror_2 : decode cX6_mirror 2 = .ok (.invokevirtual 87, 3) := by decide +kernel
theorem dX6_mirror_5 : decode cX6_mirror 5 = .ok (.astore_n 2, 1) := by decide +kernel
theorem dX6_mirror_6 : decode cX6_mirror 6 = .ok (.aload_n 0, 1) := by decide +kernel
theorem dX6_mirror_7 : decode cX6_mirror 7 = .ok (.getfield 30, 3) := by decide +kernel
theorem dX6_mirror_10 : decode cX6_mirror 10 = .ok (.iload_n 1, 1) := by decide +kernel
theorem dX6_mirror_11 : decode cX6_mirror 11 = .ok (.aload_n 2, 1) := by decide +kernel
theorem dX6_mirror_12 : decode cX6_mirror 12 = .ok (.invokevirtual 97, 3) := by decide +kernel
theorem dX6_mirror_15 : decode cX6_mirror 15 = .ok (.bipush (-32), 2) := by decide +kernel
theorem dX6_mirror_17 : decode cX6_mirror 17 = .ok (.istore_n 3, 1) := by decide +kernel
theorem dX6_mirror_18 : decode cX6_mirror 18 = .ok (.iload_n 3, 1) := by decide +kernel
theorem dX6_mirror_19 : decode cX6_mirror 19 = .ok (.bipush 31, 2) := by decide +kernel
theorem dX6_mirror_21 : decode cX6_mirror 21 = .ok (.if_icmp .gt 22, 3) := by decide +kernel
theorem dX6_mirror_24 : decode cX6_mirror 24 = .ok (.aload_n 2, 1) := by decide +kernel
theorem dX6_mirror_25 : decode cX6_mirror 25 = .ok (.iload_n 3, 1) := by decide +kernel
theorem dX6_mirror_26 : decode cX6_mirror 26 = .ok (.aload_n 2, 1) := by decide +kernel
theorem dX6_mirror_27 : decode cX6_mirror 27 = .ok (.iload_n 3, 1) := by decide +kernel
theorem dX6_mirror_28 : decode cX6_mirror 28 = .ok (.invokevirtual 119, 3) := by decide +kernel
theorem dX6_mirror_31 : decode cX6_mirror 31 = .ok (.invokestatic 162, 3) := by decide +kernel
theorem dX6_mirror_34 : decode cX6_mirror 34 = .ok (.invokevirtual 123, 3) := by decide +kernel
theorem dX6_mirror_37 : decode cX6_mirror 37 = .ok (.iinc 3 1, 3) := by decide +kernel
theorem dX6_mirror_40 : decode cX6_mirror 40 = .ok (.goto (-22), 3) := by decide +kernel
theorem dX6_mirror_43 : decode cX6_mirror 43 = .ok (.aload_n 2, 1) := by decide +kernel
theorem dX6_mirror_44 : decode cX6_mirror 44 = .ok (.invokevirtual 108, 3) := by decide +kernel
theorem dX6_mirror_47 : decode cX6_mirror 47 = .ok (.ireturn, 1) := by decide +kernel
theorem dX6_grow_0 : decode cX6_grow 0 = .ok (.aload_n 0, 1) := by decide +kernel
theorem dX6_grow_1 : decode cX6_grow 1 = .ok (.iload_n 1, 1) := by decide +kernel
theorem dX6_grow_2 : decode cX6_grow 2 = .ok (.invokevirtual 87, 3) := by decide +kernel
theorem dX6_grow_5 : decode cX6_grow 5 = .ok (.astore 4, 2) := by decide +kernel
theorem dX6_grow_7 : decode cX6_grow 7 = .ok (.iload_n 2, 1) := by decide +kernel
theorem dX6_grow_8 : decode cX6_grow 8 = .ok (.iload_n 3, 1) := by decide +kernel
theorem dX6_grow_9 : decode cX6_grow 9 = .ok (.invokestatic 166, 3) := by decide +kernel
theorem dX6_grow_12 : decode cX6_grow 12 = .ok (.aload 4, 2) := by decide +kernel
theorem dX6_grow_14 : decode cX6_grow 14 = .ok (.invokevirtual 134, 3) := by decide +kernel
theorem dX6_grow_17 : decode cX6_grow 17 = .ok (.ifCond .ne 41, 3) := by decide +kernel
theorem dX6_grow_20 : decode cX6_grow 20 = .ok (.aload 4, 2) := by decide +kernel
theorem dX6_grow_22 : decode cX6_grow 22 = .ok (.invokevirtual 138, 3) := by decide +kernel
theorem dX6_grow_25 : decode cX6_grow 25 = .ok (.iload_n 2, 1) := by decide +kernel
theorem dX6_grow_26 : decode cX6_grow 26 = .ok (.isub, 1) := by decide +kernel
theorem dX6_grow_27 : decode cX6_grow 27 = .ok (.i2l, 1) := by decide +kernel
theorem dX6_grow_28 : decode cX6_grow 28 = .ok (.aload 4, 2) := by decide +kernel
theorem dX6_grow_30 : decode cX6_grow 30 = .ok (.invokevirtual 141, 3) := by decide +kernel
theorem dX6_grow_33 : decode cX6_grow 33 = .ok (.iload_n 2, 1) := by decide +kernel
theorem dX6_grow_34 : decode cX6_grow 34 = .ok (.iadd, 1) := by decide +kernel
theorem dX6_grow_35 : decode cX6_grow 35 = .ok (.i2l, 1) := by decide +kernel
theorem dX6_grow_36 : decode cX6_grow 36 = .ok (.invokestatic 113, 3) := by decide +kernel
theorem dX6_grow_39 : decode cX6_grow 39 = .ok (.aload 4, 2) := by decide +kernel
theorem dX6_grow_41 : decode cX6_grow 41 = .ok (.invokevirtual 144, 3) := by decide +kernel
theorem dX6_grow_44 : decode cX6_grow 44 = .ok (.iload_n 2, 1) := by decide +kernel
theorem dX6_grow_45 : decode cX6_grow 45 = .ok (.isub, 1) := by decide +kernel
theorem dX6_grow_46 : decode cX6_grow 46 = .ok (.i2l, 1) := by decide +kernel
theorem dX6_grow_47 : decode cX6_grow 47 = .ok (.aload 4, 2) := by decide +kernel
theorem dX6_grow_49 : decode cX6_grow 49 = .ok (.invokevirtual 147, 3) := by decide +kernel
theorem dX6_grow_52 : decode cX6_grow 52 = .ok (.iload_n 2, 1) := by decide +kernel
theorem dX6_grow_53 : decode cX6_grow 53 = .ok (.iadd, 1) := by decide +kernel
theorem dX6_grow_54 : decode cX6_grow 54 = .ok (.i2l, 1) := by decide +kernel
theorem dX6_grow_55 : decode cX6_grow 55 = .ok (.invokestatic 113, 3) := by decide +kernel
theorem dX6_grow_58 : decode cX6_grow 58 = .ok (.aload_n 0, 1) := by decide +kernel
theorem dX6_grow_59 : decode cX6_grow 59 = .ok (.getfield 30, 3) := by decide +kernel
theorem dX6_grow_62 : decode cX6_grow 62 = .ok (.iload_n 1, 1) := by decide +kernel
theorem dX6_grow_63 : decode cX6_grow 63 = .ok (.aload 4, 2) := by decide +kernel
theorem dX6_grow_65 : decode cX6_grow 65 = .ok (.invokevirtual 97, 3) := by decide +kernel
theorem dX6_grow_68 : decode cX6_grow 68 = .ok (.iconst 0, 1) := by decide +kernel
theorem dX6_grow_69 : decode cX6_grow 69 = .ok (.istore 5, 2) := by decide +kernel
theorem dX6_grow_71 : decode cX6_grow 71 = .ok (.iload 5, 2) := by decide +kernel
theorem dX6_grow_73 : decode cX6_grow 73 = .ok (.iload_n 2, 1) := by decide +kernel
theorem dX6_grow_74 : decode cX6_grow 74 = .ok (.if_icmp .ge 15, 3) := by decide +kernel
theorem dX6_grow_77 : decode cX6_grow 77 = .ok (.aload 4, 2) := by decide +kernel
theorem dX6_grow_79 : decode cX6_grow 79 = .ok (.iload_n 3, 1) := by decide +kernel
theorem dX6_grow_80 : decode cX6_grow 80 = .ok (.invokevirtual 169, 3) := by decide +kernel
theorem dX6_grow_83 : decode cX6_grow 83 = .ok (.iinc 5 1, 3) := by decide +kernel
theorem dX6_grow_86 : decode cX6_grow 86 = .ok (.goto (-15), 3) := by decide +kernel
theorem dX6_grow_89 : decode cX6_grow 89 = .ok (.aload 4, 2) := by decide +kernel
theorem dX6_grow_91 : decode cX6_grow 91 = .ok (.invokevirtual 108, 3) := by decide +kernel
theorem dX6_grow_94 : decode cX6_grow 94 = .ok (.ireturn, 1) := by decide +kernel
theorem dX6_shrink_0 : decode cX6_shrink 0 = .ok (.aload_n 0, 1) := by decide +kernel
theorem dX6_shrink_1 : decode cX6_shrink 1 = .ok (.iload_n 1, 1) := by decide +kernel
theorem dX6_shrink_2 : decode cX6_shrink 2 = .ok (.invokevirtual 87, 3) := by decide +kernel
theorem dX6_shrink_5 : decode cX6_shrink 5 = .ok (.astore 4, 2) := by decide +kernel
theorem dX6_shrink_7 : decode cX6_shrink 7 = .ok (.iload_n 2, 1) := by decide +kernel
theorem dX6_shrink_8 : decode cX6_shrink 8 = .ok (.iload_n 3, 1) := by decide +kernel
theorem dX6_shrink_9 : decode cX6_shrink 9 = .ok (.invokestatic 166, 3) := by decide +kernel
theorem dX6_shrink_12 : decode cX6_shrink 12 = .ok (.aload_n 0, 1) := by decide +kernel
theorem dX6_shrink_13 : decode cX6_shrink 13 = .ok (.getfield 30, 3) := by decide +kernel
theorem dX6_shrink_16 : decode cX6_shrink 16 = .ok (.iload_n 1, 1) := by decide +kernel
theorem dX6_shrink_17 : decode cX6_shrink 17 = .ok (.aload 4, 2) := by decide +kernel
theorem dX6_shrink_19 : decode cX6_shrink 19 = .ok (.invokevirtual 97, 3) := by decide +kernel
theorem dX6_shrink_22 : decode cX6_shrink 22 = .ok (.iconst 0, 1) := by decide +kernel
theorem dX6_shrink_23 : decode cX6_shrink 23 = .ok (.istore 5, 2) := by decide +kernel
theorem dX6_shrink_25 : decode cX6_shrink 25 = .ok (.iload 5, 2) := by decide +kernel
theorem dX6_shrink_27 : decode cX6_shrink 27 = .ok (.iload_n 2, 1) := by decide +kernel
theorem dX6_shrink_28 : decode cX6_shrink 28 = .ok (.if_icmp .ge 15, 3) := by decide +kernel
theorem dX6_shrink_31 : decode cX6_shrink 31 = .ok (.aload 4, 2) := by decide +kernel
theorem dX6_shrink_33 : decode cX6_shrink 33 = .ok (.iload_n 3, 1) := by decide +kernel
theorem dX6_shrink_34 : decode cX6_shrink 34 = .ok (.invokevirtual 173, 3) := by decide +kernel
theorem dX6_shrink_37 : decode cX6_shrink 37 = .ok (.iinc 5 1, 3) := by decide +kernel
theorem dX6_shrink_40 : decode cX6_shrink 40 = .ok (.goto (-15), 3) := by decide +kernel
theorem dX6_shrink_43 : decode cX6_shrink 43 = .ok (.aload 4, 2) := by decide +kernel
theorem dX6_shrink_45 : decode cX6_shrink 45 = .ok (.invokevirtual 108, 3) := by decide +kernel
theorem dX6_shrink_48 : decode cX6_shrink 48 = .ok (.ireturn, 1) := by decide +kernel
theorem dX6_fill_0 : decode cX6_fill 0 = .ok (.aload_n 0, 1) := by decide +kernel
theorem dX6_fill_1 : decode cX6_fill 1 = .ok (.iload_n 1, 1) := by decide +kernel
theorem dX6_fill_2 : decode cX6_fill 2 = .ok (.invokevirtual 87, 3) := by decide +kernel
theorem dX6_fill_5 : decode cX6_fill 5 = .ok (.astore_n 2, 1) := by decide +kernel
theorem dX6_fill_6 : decode cX6_fill 6 = .ok (.aload_n 0, 1) := by decide +kernel
theorem dX6_fill_7 : decode cX6_fill 7 = .ok (.getfield 30, 3) := by decide +kernel
theorem dX6_fill_10 : decode cX6_fill 10 = .ok (.iload_n 1, 1) := by decide +kernel
theorem dX6_fill_11 : decode cX6_fill 11 = .ok (.aload_n 2, 1) := by decide +kernel
theorem dX6_fill_12 : decode cX6_fill 12 = .ok (.invokevirtual 97, 3) := by decide +kernel
theorem dX6_fill_15 : decode cX6_fill 15 = .ok (.aload_n 0, 1) := by decide +kernel
theorem dX6_fill_16 : decode cX6_fill 16 = .ok (.getfield 37, 3) := by decide +kernel
theorem dX6_fill_19 : decode cX6_fill 19 = .ok (.aload_n 2, 1) := by decide +kernel
theorem dX6_fill_20 : decode cX6_fill 20 = .ok (.invokevirtual 176, 3) := by decide +kernel
theorem dX6_fill_23 : decode cX6_fill 23 = .ok (.ireturn, 1) := by decide +kernel
theorem dX6_keepPiece_0 : decode cX6_keepPiece 0 = .ok (.aload_n 0, 1) := by decide +kernel
theorem dX6_keepPiece_1 : decode cX6_keepPiece 1 = .ok (.iload_n 1, 1) := by decide +kernel
theorem dX6_keepPiece_2 : decode cX6_keepPiece 2 = .ok (.invokevirtual 87, 3) := by decide +kernel
theorem dX6_keepPiece_5 : decode cX6_keepPiece 5 = .ok (.astore 4, 2) := by decide +kernel
theorem dX6_keepPiece_7 : decode cX6_keepPiece 7 = .ok (.aload_n 0, 1) := by decide +kernel
theorem dX6_keepPiece_8 : decode cX6_keepPiece 8 = .ok (.getfield 30, 3) := by decide +kernel
theorem dX6_keepPiece_11 : decode cX6_keepPiece 11 = .ok (.iload_n 1, 1) := by decide +kernel
theorem dX6_keepPiece_12 : decode cX6_keepPiece 12 = .ok (.aload 4, 2) := by decide +kernel
theorem dX6_keepPiece_14 : decode cX6_keepPiece 14 = .ok (.invokevirtual 97, 3) := by decide +kernel
theorem dX6_keepPiece_17 : decode cX6_keepPiece 17 = .ok (.aload_n 0, 1) := by decide +kernel
theorem dX6_keepPiece_18 : decode cX6_keepPiece 18 = .ok (.getfield 37, 3) := by decide +kernel
theorem dX6_keepPiece_21 : decode cX6_keepPiece 21 = .ok (.aload 4, 2) := by decide +kernel
theorem dX6_keepPiece_23 : decode cX6_keepPiece 23 = .ok (.iload_n 2, 1) := by decide +kernel
theorem dX6_keepPiece_24 : decode cX6_keepPiece 24 = .ok (.iload_n 3, 1) := by decide +kernel
theorem dX6_keepPiece_25 : decode cX6_keepPiece 25 = .ok (.invokevirtual 180, 3) := by decide +kernel
theorem dX6_keepPiece_28 : decode cX6_keepPiece 28 = .ok (.aload 4, 2) := by decide +kernel
theorem dX6_keepPiece_30 : decode cX6_keepPiece 30 = .ok (.invokevirtual 108, 3) := by decide +kernel
theorem dX6_keepPiece_33 : decode cX6_keepPiece 33 = .ok (.ireturn, 1) := by decide +kernel
theorem dX6_clear_0 : decode cX6_clear 0 = .ok (.aload_n 0, 1) := by decide +kernel
theorem dX6_clear_1 : decode cX6_clear 1 = .ok (.iload_n 1, 1) := by decide +kernel
theorem dX6_clear_2 : decode cX6_clear 2 = .ok (.invokevirtual 87, 3) := by decide +kernel
theorem dX6_clear_5 : decode cX6_clear 5 = .ok (.astore_n 2, 1) := by decide +kernel
theorem dX6_clear_6 : decode cX6_clear 6 = .ok (.aload_n 0, 1) := by decide +kernel
theorem dX6_clear_7 : decode cX6_clear 7 = .ok (.getfield 30, 3) := by decide +kernel
theorem dX6_clear_10 : decode cX6_clear 10 = .ok (.iload_n 1, 1) := by decide +kernel
theorem dX6_clear_11 : decode cX6_clear 11 = .ok (.aload_n 2, 1) := by decide +kernel
theorem dX6_clear_12 : decode cX6_clear 12 = .ok (.invokevirtual 97, 3) := by decide +kernel
theorem dX6_clear_15 : decode cX6_clear 15 = .ok (.aload_n 2, 1) := by decide +kernel
theorem dX6_clear_16 : decode cX6_clear 16 = .ok (.invokevirtual 108, 3) := by decide +kernel
theorem dX6_clear_19 : decode cX6_clear 19 = .ok (.istore_n 3, 1) := by decide +kernel
theorem dX6_clear_20 : decode cX6_clear 20 = .ok (.aload_n 2, 1) := by decide +kernel
theorem dX6_clear_21 : decode cX6_clear 21 = .ok (.invokevirtual 184, 3) := by decide +kernel
theorem dX6_clear_24 : decode cX6_clear 24 = .ok (.iload_n 3, 1) := by decide +kernel
theorem dX6_clear_25 : decode cX6_clear 25 = .ok (.ireturn, 1) := by decide +kernel
theorem dX6_undo_0 : decode cX6_undo 0 = .ok (.aload_n 0, 1) := by decide +kernel
theorem dX6_undo_1 : decode cX6_undo 1 = .ok (.getfield 30, 3) := by decide +kernel
theorem dX6_undo_4 : decode cX6_undo 4 = .ok (.invokevirtual 187, 3) := by decide +kernel
theorem dX6_undo_7 : decode cX6_undo 7 = .ok (.istore_n 1, 1) := by decide +kernel
theorem dX6_undo_8 : decode cX6_undo 8 = .ok (.iload_n 1, 1) := by decide +kernel
theorem dX6_undo_9 : decode cX6_undo 9 = .ok (.ifCond .lt 25, 3) := by decide +kernel
theorem dX6_undo_12 : decode cX6_undo 12 = .ok (.iload_n 1, 1) := by decide +kernel
theorem dX6_undo_13 : decode cX6_undo 13 = .ok (.aload_n 0, 1) := by decide +kernel
theorem dX6_undo_14 : decode cX6_undo 14 = .ok (.getfield 11, 3) := by decide +kernel
theorem dX6_undo_17 : decode cX6_undo 17 = .ok (.arraylength, 1) := by decide +kernel
theorem dX6_undo_18 : decode cX6_undo 18 = .ok (.if_icmp .ge 16, 3) := by decide +kernel
theorem dX6_undo_21 : decode cX6_undo 21 = .ok (.aload_n 0, 1) := by decide +kernel
theorem dX6_undo_22 : decode cX6_undo 22 = .ok (.getfield 30, 3) := by decide +kernel
theorem dX6_undo_25 : decode cX6_undo 25 = .ok (.aload_n 0, 1) := by decide +kernel
theorem dX6_undo_26 : decode cX6_undo 26 = .ok (.getfield 11, 3) := by decide +kernel
theorem dX6_undo_29 : decode cX6_undo 29 = .ok (.iload_n 1, 1) := by decide +kernel
theorem dX6_undo_30 : decode cX6_undo 30 = .ok (.aaload, 1) := by decide +kernel
theorem dX6_undo_31 : decode cX6_undo 31 = .ok (.invokevirtual 190, 3) := by decide +kernel
theorem dX6_undo_34 : decode cX6_undo 34 = .ok (.iload_n 1, 1) := by decide +kernel
theorem dX6_undo_35 : decode cX6_undo 35 = .ok (.ireturn, 1) := by decide +kernel
theorem dX6_area_0 : decode cX6_area 0 = .ok (.aload_n 0, 1) := by decide +kernel
theorem dX6_area_1 : decode cX6_area 1 = .ok (.iload_n 1, 1) := by decide +kernel
theorem dX6_area_2 : decode cX6_area 2 = .ok (.invokevirtual 87, 3) := by decide +kernel
theorem dX6_area_5 : decode cX6_area 5 = .ok (.invokevirtual 108, 3) := by decide +kernel
theorem dX6_area_8 : decode cX6_area 8 = .ok (.ireturn, 1) := by decide +kernel
theorem dX6_edges_0 : decode cX6_edges 0 = .ok (.aload_n 0, 1) := by decide +kernel
theorem dX6_edges_1 : decode cX6_edges 1 = .ok (.iload_n 1, 1) := by decide +kernel
theorem dX6_edges_2 : decode cX6_edges 2 = .ok (.invokevirtual 87, 3) := by decide +kernel
theorem dX6_edges_5 : decode cX6_edges 5 = .ok (.invokevirtual 193, 3) := by decide +kernel
theorem dX6_edges_8 : decode cX6_edges 8 = .ok (.ireturn, 1) := by decide +kernel
theorem dX6_pieces_0 : decode cX6_pieces 0 = .ok (.aload_n 0, 1) := by decide +kernel
theorem dX6_pieces_1 : decode cX6_pieces 1 = .ok (.getfield 37, 3) := by decide +kernel
theorem dX6_pieces_4 : decode cX6_pieces 4 = .ok (.aload_n 0, 1) := by decide +kernel
theorem dX6_pieces_5 : decode cX6_pieces 5 = .ok (.iload_n 1, 1) := by decide +kernel
theorem dX6_pieces_6 : decode cX6_pieces 6 = .ok (.invokevirtual 87, 3) := by decide +kernel
theorem dX6_pieces_9 : decode cX6_pieces 9 = .ok (.invokevirtual 196, 3) := by decide +kernel
theorem dX6_pieces_12 : decode cX6_pieces 12 = .ok (.ireturn, 1) := by decide +kernel
theorem dX6_holes_0 : decode cX6_holes 0 = .ok (.aload_n 0, 1) := by decide +kernel
theorem dX6_holes_1 : decode cX6_holes 1 = .ok (.getfield 37, 3) := by decide +kernel
theorem dX6_holes_4 : decode cX6_holes 4 = .ok (.aload_n 0, 1) := by decide +kernel
theorem dX6_holes_5 : decode cX6_holes 5 = .ok (.iload_n 1, 1) := by decide +kernel
theorem dX6_holes_6 : decode cX6_holes 6 = .ok (.invokevirtual 87, 3) := by decide +kernel
theorem dX6_holes_9 : decode cX6_holes 9 = .ok (.invokevirtual 199, 3) := by decide +kernel
theorem dX6_holes_12 : decode cX6_holes 12 = .ok (.ireturn, 1) := by decide +kernel
theorem dX6_has_0 : decode cX6_has 0 = .ok (.aload_n 0, 1) := by decide +kernel
theorem dX6_has_1 : decode cX6_has 1 = .ok (.iload_n 1, 1) := by decide +kernel
theorem dX6_has_2 : decode cX6_has 2 = .ok (.invokevirtual 87, 3) := by decide +kernel
theorem dX6_has_5 : decode cX6_has 5 = .ok (.iload_n 2, 1) := by decide +kernel
theorem dX6_has_6 : decode cX6_has 6 = .ok (.iload_n 3, 1) := by decide +kernel
theorem dX6_has_7 : decode cX6_has 7 = .ok (.invokevirtual 202, 3) := by decide +kernel
theorem dX6_has_10 : decode cX6_has 10 = .ok (.ireturn, 1) := by decide +kernel
theorem dX6_bound_0 : decode cX6_bound 0 = .ok (.aload_n 0, 1) := by decide +kernel
theorem dX6_bound_1 : decode cX6_bound 1 = .ok (.iload_n 1, 1) := by decide +kernel
theorem dX6_bound_2 : decode cX6_bound 2 = .ok (.invokevirtual 87, 3) := by decide +kernel
theorem dX6_bound_5 : decode cX6_bound 5 = .ok (.astore_n 3, 1) := by decide +kernel
theorem dX6_bound_6 : decode cX6_bound 6 = .ok (.iconst 0, 1) := by decide +kernel
theorem dX6_bound_7 : decode cX6_bound 7 = .ok (.iload_n 2, 1) := by decide +kernel
theorem dX6_bound_8 : decode cX6_bound 8 = .ok (.iconst 3, 1) := by decide +kernel
theorem dX6_bound_9 : decode cX6_bound 9 = .ok (.invokestatic 91, 3) := by decide +kernel
theorem dX6_bound_12 : decode cX6_bound 12 = .ok (.ifCond .ne 13, 3) := by decide +kernel
theorem dX6_bound_15 : decode cX6_bound 15 = .ok (.new 59, 3) := by decide +kernel
theorem dX6_bound_18 : decode cX6_bound 18 = .ok (.dup, 1) := by decide +kernel
theorem dX6_bound_19 : decode cX6_bound 19 = .ok (.ldc 206, 2) := by decide +kernel
theorem dX6_bound_21 : decode cX6_bound 21 = .ok (.invokespecial 63, 3) := by decide +kernel
theorem dX6_bound_24 : decode cX6_bound 24 = .ok (.athrow, 1) := by decide +kernel
theorem dX6_bound_25 : decode cX6_bound 25 = .ok (.aload_n 3, 1) := by decide +kernel
theorem dX6_bound_26 : decode cX6_bound 26 = .ok (.iload_n 2, 1) := by decide +kernel
theorem dX6_bound_27 : decode cX6_bound 27 = .ok (.invokestatic 208, 3) := by decide +kernel
theorem dX6_bound_30 : decode cX6_bound 30 = .ok (.ireturn, 1) := by decide +kernel
theorem dX6_contours_0 : decode cX6_contours 0 = .ok (.aload_n 0, 1) := by decide +kernel
theorem dX6_contours_1 : decode cX6_contours 1 = .ok (.getfield 44, 3) := by decide +kernel
theorem dX6_contours_4 : decode cX6_contours 4 = .ok (.aload_n 0, 1) := by decide +kernel
theorem dX6_contours_5 : decode cX6_contours 5 = .ok (.iload_n 1, 1) := by decide +kernel
theorem dX6_contours_6 : decode cX6_contours 6 = .ok (.invokevirtual 87, 3) := by decide +kernel
theorem dX6_contours_9 : decode cX6_contours 9 = .ok (.invokevirtual 212, 3) := by decide +kernel
theorem dX6_contours_12 : decode cX6_contours 12 = .ok (.ireturn, 1) := by decide +kernel
theorem dX6_corners_0 : decode cX6_corners 0 = .ok (.aload_n 0, 1) := by decide +kernel
theorem dX6_corners_1 : decode cX6_corners 1 = .ok (.iload_n 1, 1) := by decide +kernel
theorem dX6_corners_2 : decode cX6_corners 2 = .ok (.iload_n 2, 1) := by decide +kernel
theorem dX6_corners_3 : decode cX6_corners 3 = .ok (.iconst 0, 1) := by decide +kernel
theorem dX6_corners_4 : decode cX6_corners 4 = .ok (.invokevirtual 215, 3) := by decide +kernel
theorem dX6_corners_7 : decode cX6_corners 7 = .ok (.aload_n 0, 1) := by decide +kernel
theorem dX6_corners_8 : decode cX6_corners 8 = .ok (.getfield 44, 3) := by decide +kernel
theorem dX6_corners_11 : decode cX6_corners 11 = .ok (.invokevirtual 219, 3) := by decide +kernel
theorem dX6_corners_14 : decode cX6_corners 14 = .ok (.ireturn, 1) := by decide +kernel
theorem dX6_cornerX_0 : decode cX6_cornerX 0 = .ok (.aload_n 0, 1) := by decide +kernel
theorem dX6_cornerX_1 : decode cX6_cornerX 1 = .ok (.iload_n 1, 1) := by decide +kernel
theorem dX6_cornerX_2 : decode cX6_cornerX 2 = .ok (.iload_n 2, 1) := by decide +kernel
theorem dX6_cornerX_3 : decode cX6_cornerX 3 = .ok (.iload_n 3, 1) := by decide +kernel
theorem dX6_cornerX_4 : decode cX6_cornerX 4 = .ok (.invokevirtual 215, 3) := by decide +kernel
theorem dX6_cornerX_7 : decode cX6_cornerX 7 = .ok (.aload_n 0, 1) := by decide +kernel
theorem dX6_cornerX_8 : decode cX6_cornerX 8 = .ok (.getfield 44, 3) := by decide +kernel
theorem dX6_cornerX_11 : decode cX6_cornerX 11 = .ok (.invokevirtual 222, 3) := by decide +kernel
theorem dX6_cornerX_14 : decode cX6_cornerX 14 = .ok (.ireturn, 1) := by decide +kernel
theorem dX6_cornerY_0 : decode cX6_cornerY 0 = .ok (.aload_n 0, 1) := by decide +kernel
theorem dX6_cornerY_1 : decode cX6_cornerY 1 = .ok (.iload_n 1, 1) := by decide +kernel
theorem dX6_cornerY_2 : decode cX6_cornerY 2 = .ok (.iload_n 2, 1) := by decide +kernel
theorem dX6_cornerY_3 : decode cX6_cornerY 3 = .ok (.iload_n 3, 1) := by decide +kernel
theorem dX6_cornerY_4 : decode cX6_cornerY 4 = .ok (.invokevirtual 215, 3) := by decide +kernel
theorem dX6_cornerY_7 : decode cX6_cornerY 7 = .ok (.aload_n 0, 1) := by decide +kernel
theorem dX6_cornerY_8 : decode cX6_cornerY 8 = .ok (.getfield 44, 3) := by decide +kernel
theorem dX6_cornerY_11 : decode cX6_cornerY 11 = .ok (.invokevirtual 225, 3) := by decide +kernel
theorem dX6_cornerY_14 : decode cX6_cornerY 14 = .ok (.ireturn, 1) := by decide +kernel
theorem dX6_areaOf_0 : decode cX6_areaOf 0 = .ok (.aload_n 0, 1) := by decide +kernel
theorem dX6_areaOf_1 : decode cX6_areaOf 1 = .ok (.iload_n 1, 1) := by decide +kernel
theorem dX6_areaOf_2 : decode cX6_areaOf 2 = .ok (.iload_n 2, 1) := by decide +kernel
theorem dX6_areaOf_3 : decode cX6_areaOf 3 = .ok (.iconst 0, 1) := by decide +kernel
theorem dX6_areaOf_4 : decode cX6_areaOf 4 = .ok (.invokevirtual 215, 3) := by decide +kernel
theorem dX6_areaOf_7 : decode cX6_areaOf 7 = .ok (.aload_n 0, 1) := by decide +kernel
theorem dX6_areaOf_8 : decode cX6_areaOf 8 = .ok (.getfield 44, 3) := by decide +kernel
theorem dX6_areaOf_11 : decode cX6_areaOf 11 = .ok (.invokevirtual 228, 3) := by decide +kernel
theorem dX6_areaOf_14 : decode cX6_areaOf 14 = .ok (.ireturn, 1) := by decide +kernel
theorem dX6_strips_0 : decode cX6_strips 0 = .ok (.aload_n 0, 1) := by decide +kernel
theorem dX6_strips_1 : decode cX6_strips 1 = .ok (.getfield 51, 3) := by decide +kernel
theorem dX6_strips_4 : decode cX6_strips 4 = .ok (.aload_n 0, 1) := by decide +kernel
theorem dX6_strips_5 : decode cX6_strips 5 = .ok (.iload_n 1, 1) := by decide +kernel
theorem dX6_strips_6 : decode cX6_strips 6 = .ok (.invokevirtual 87, 3) := by decide +kernel
theorem dX6_strips_9 : decode cX6_strips 9 = .ok (.invokevirtual 231, 3) := by decide +kernel
theorem dX6_strips_12 : decode cX6_strips 12 = .ok (.ireturn, 1) := by decide +kernel
theorem dX6_strip_0 : decode cX6_strip 0 = .ok (.aload_n 0, 1) := by decide +kernel
theorem dX6_strip_1 : decode cX6_strip 1 = .ok (.iload_n 1, 1) := by decide +kernel
theorem dX6_strip_2 : decode cX6_strip 2 = .ok (.invokevirtual 87, 3) := by decide +kernel
theorem dX6_strip_5 : decode cX6_strip 5 = .ok (.astore 4, 2) := by decide +kernel
theorem dX6_strip_7 : decode cX6_strip 7 = .ok (.aload_n 0, 1) := by decide +kernel
theorem dX6_strip_8 : decode cX6_strip 8 = .ok (.getfield 51, 3) := by decide +kernel
theorem dX6_strip_11 : decode cX6_strip 11 = .ok (.aload 4, 2) := by decide +kernel
theorem dX6_strip_13 : decode cX6_strip 13 = .ok (.iload_n 2, 1) := by decide +kernel
theorem dX6_strip_14 : decode cX6_strip 14 = .ok (.invokevirtual 234, 3) := by decide +kernel
theorem dX6_strip_17 : decode cX6_strip 17 = .ok (.ifCond .ne 13, 3) := by decide +kernel
theorem dX6_strip_20 : decode cX6_strip 20 = .ok (.new 238, 3) := by decide +kernel
theorem dX6_strip_23 : decode cX6_strip 23 = .ok (.dup, 1) := by decide +kernel
theorem dX6_strip_24 : decode cX6_strip 24 = .ok (.ldc 240, 2) := by decide +kernel
theorem dX6_strip_26 : decode cX6_strip 26 = .ok (.invokespecial 242, 3) := by decide +kernel
theorem dX6_strip_29 : decode cX6_strip 29 = .ok (.athrow, 1) := by decide +kernel
theorem dX6_strip_30 : decode cX6_strip 30 = .ok (.iconst 0, 1) := by decide +kernel
theorem dX6_strip_31 : decode cX6_strip 31 = .ok (.iload_n 3, 1) := by decide +kernel
theorem dX6_strip_32 : decode cX6_strip 32 = .ok (.iconst 3, 1) := by decide +kernel
theorem dX6_strip_33 : decode cX6_strip 33 = .ok (.invokestatic 91, 3) := by decide +kernel
theorem dX6_strip_36 : decode cX6_strip 36 = .ok (.ifCond .ne 13, 3) := by decide +kernel
theorem dX6_strip_39 : decode cX6_strip 39 = .ok (.new 59, 3) := by decide +kernel
theorem dX6_strip_42 : decode cX6_strip 42 = .ok (.dup, 1) := by decide +kernel
theorem dX6_strip_43 : decode cX6_strip 43 = .ok (.ldc 243, 2) := by decide +kernel
theorem dX6_strip_45 : decode cX6_strip 45 = .ok (.invokespecial 63, 3) := by decide +kernel
theorem dX6_strip_48 : decode cX6_strip 48 = .ok (.athrow, 1) := by decide +kernel
theorem dX6_strip_49 : decode cX6_strip 49 = .ok (.aload_n 0, 1) := by decide +kernel
theorem dX6_strip_50 : decode cX6_strip 50 = .ok (.getfield 51, 3) := by decide +kernel
theorem dX6_strip_53 : decode cX6_strip 53 = .ok (.iload_n 3, 1) := by decide +kernel
theorem dX6_strip_54 : decode cX6_strip 54 = .ok (.invokevirtual 245, 3) := by decide +kernel
theorem dX6_strip_57 : decode cX6_strip 57 = .ok (.ireturn, 1) := by decide +kernel
theorem dX6_hatch_0 : decode cX6_hatch 0 = .ok (.aload_n 0, 1) := by decide +kernel
theorem dX6_hatch_1 : decode cX6_hatch 1 = .ok (.iload_n 1, 1) := by decide +kernel
theorem dX6_hatch_2 : decode cX6_hatch 2 = .ok (.invokevirtual 87, 3) := by decide +kernel
theorem dX6_hatch_5 : decode cX6_hatch 5 = .ok (.astore 5, 2) := by decide +kernel
theorem dX6_hatch_7 : decode cX6_hatch 7 = .ok (.iload_n 2, 1) := by decide +kernel
theorem dX6_hatch_8 : decode cX6_hatch 8 = .ok (.iload_n 3, 1) := by decide +kernel
theorem dX6_hatch_9 : decode cX6_hatch 9 = .ok (.iload 4, 2) := by decide +kernel
theorem dX6_hatch_11 : decode cX6_hatch 11 = .ok (.invokestatic 249, 3) := by decide +kernel
theorem dX6_hatch_14 : decode cX6_hatch 14 = .ok (.iconst 0, 1) := by decide +kernel
theorem dX6_hatch_15 : decode cX6_hatch 15 = .ok (.istore 6, 2) := by decide +kernel
theorem dX6_hatch_17 : decode cX6_hatch 17 = .ok (.bipush (-32), 2) := by decide +kernel
theorem dX6_hatch_19 : decode cX6_hatch 19 = .ok (.istore 7, 2) := by decide +kernel
theorem dX6_hatch_21 : decode cX6_hatch 21 = .ok (.iload 7, 2) := by decide +kernel
theorem dX6_hatch_23 : decode cX6_hatch 23 = .ok (.bipush 31, 2) := by decide +kernel
theorem dX6_hatch_25 : decode cX6_hatch 25 = .ok (.if_icmp .gt 51, 3) := by decide +kernel
theorem dX6_hatch_28 : decode cX6_hatch 28 = .ok (.aload 5, 2) := by decide +kernel
theorem dX6_hatch_30 : decode cX6_hatch 30 = .ok (.iload 7, 2) := by decide +kernel
theorem dX6_hatch_32 : decode cX6_hatch 32 = .ok (.invokevirtual 119, 3) := by decide +kernel
theorem dX6_hatch_35 : decode cX6_hatch 35 = .ok (.aload 5, 2) := by decide +kernel
theorem dX6_hatch_37 : decode cX6_hatch 37 = .ok (.iload 7, 2) := by decide +kernel
theorem dX6_hatch_39 : decode cX6_hatch 39 = .ok (.iload_n 2, 1) := by decide +kernel
theorem dX6_hatch_40 : decode cX6_hatch 40 = .ok (.invokestatic 252, 3) := by decide +kernel
theorem dX6_hatch_43 : decode cX6_hatch 43 = .ok (.ldc2_w 117, 3) := by decide +kernel
theorem dX6_hatch_46 : decode cX6_hatch 46 = .ok (.lxor, 1) := by decide +kernel
theorem dX6_hatch_47 : decode cX6_hatch 47 = .ok (.land, 1) := by decide +kernel
theorem dX6_hatch_48 : decode cX6_hatch 48 = .ok (.lstore 8, 2) := by decide +kernel
theorem dX6_hatch_50 : decode cX6_hatch 50 = .ok (.iload 6, 2) := by decide +kernel
theorem dX6_hatch_52 : decode cX6_hatch 52 = .ok (.lload 8, 2) := by decide +kernel
theorem dX6_hatch_54 : decode cX6_hatch 54 = .ok (.iload 7, 2) := by decide +kernel
theorem dX6_hatch_56 : decode cX6_hatch 56 = .ok (.iload_n 2, 1) := by decide +kernel
theorem dX6_hatch_57 : decode cX6_hatch 57 = .ok (.iload_n 3, 1) := by decide +kernel
theorem dX6_hatch_58 : decode cX6_hatch 58 = .ok (.iload 4, 2) := by decide +kernel
theorem dX6_hatch_60 : decode cX6_hatch 60 = .ok (.invokestatic 256, 3) := by decide +kernel
theorem dX6_hatch_63 : decode cX6_hatch 63 = .ok (.land, 1) := by decide +kernel
theorem dX6_hatch_64 : decode cX6_hatch 64 = .ok (.invokestatic 260, 3) := by decide +kernel
theorem dX6_hatch_67 : decode cX6_hatch 67 = .ok (.iadd, 1) := by decide +kernel
theorem dX6_hatch_68 : decode cX6_hatch 68 = .ok (.istore 6, 2) := by decide +kernel
theorem dX6_hatch_70 : decode cX6_hatch 70 = .ok (.iinc 7 1, 3) := by decide +kernel
theorem dX6_hatch_73 : decode cX6_hatch 73 = .ok (.goto (-52), 3) := by decide +kernel
theorem dX6_hatch_76 : decode cX6_hatch 76 = .ok (.iload 6, 2) := by decide +kernel
theorem dX6_hatch_78 : decode cX6_hatch 78 = .ok (.ireturn, 1) := by decide +kernel
theorem dX6_hatched_0 : decode cX6_hatched 0 = .ok (.aload_n 0, 1) := by decide +kernel
theorem dX6_hatched_1 : decode cX6_hatched 1 = .ok (.iload_n 1, 1) := by decide +kernel
theorem dX6_hatched_2 : decode cX6_hatched 2 = .ok (.invokevirtual 87, 3) := by decide +kernel
theorem dX6_hatched_5 : decode cX6_hatched 5 = .ok (.astore 5, 2) := by decide +kernel
theorem dX6_hatched_7 : decode cX6_hatched 7 = .ok (.iload_n 2, 1) := by decide +kernel
theorem dX6_hatched_8 : decode cX6_hatched 8 = .ok (.iload_n 3, 1) := by decide +kernel
theorem dX6_hatched_9 : decode cX6_hatched 9 = .ok (.iload 4, 2) := by decide +kernel
theorem dX6_hatched_11 : decode cX6_hatched 11 = .ok (.invokestatic 249, 3) := by decide +kernel
theorem dX6_hatched_14 : decode cX6_hatched 14 = .ok (.iconst 0, 1) := by decide +kernel
theorem dX6_hatched_15 : decode cX6_hatched 15 = .ok (.istore 6, 2) := by decide +kernel
theorem dX6_hatched_17 : decode cX6_hatched 17 = .ok (.bipush (-32), 2) := by decide +kernel
theorem dX6_hatched_19 : decode cX6_hatched 19 = .ok (.istore 7, 2) := by decide +kernel
theorem dX6_hatched_21 : decode cX6_hatched 21 = .ok (.iload 7, 2) := by decide +kernel
theorem dX6_hatched_23 : decode cX6_hatched 23 = .ok (.bipush 31, 2) := by decide +kernel
theorem dX6_hatched_25 : decode cX6_hatched 25 = .ok (.if_icmp .gt 34, 3) := by decide +kernel
theorem dX6_hatched_28 : decode cX6_hatched 28 = .ok (.iload 6, 2) := by decide +kernel
theorem dX6_hatched_30 : decode cX6_hatched 30 = .ok (.aload 5, 2) := by decide +kernel
theorem dX6_hatched_32 : decode cX6_hatched 32 = .ok (.iload 7, 2) := by decide +kernel
theorem dX6_hatched_34 : decode cX6_hatched 34 = .ok (.invokevirtual 119, 3) := by decide +kernel
theorem dX6_hatched_37 : decode cX6_hatched 37 = .ok (.iload 7, 2) := by decide +kernel
theorem dX6_hatched_39 : decode cX6_hatched 39 = .ok (.iload_n 2, 1) := by decide +kernel
theorem dX6_hatched_40 : decode cX6_hatched 40 = .ok (.iload_n 3, 1) := by decide +kernel
theorem dX6_hatched_41 : decode cX6_hatched 41 = .ok (.iload 4, 2) := by decide +kernel
theorem dX6_hatched_43 : decode cX6_hatched 43 = .ok (.invokestatic 256, 3) := by decide +kernel
theorem dX6_hatched_46 : decode cX6_hatched 46 = .ok (.land, 1) := by decide +kernel
theorem dX6_hatched_47 : decode cX6_hatched 47 = .ok (.invokestatic 260, 3) := by decide +kernel
theorem dX6_hatched_50 : decode cX6_hatched 50 = .ok (.iadd, 1) := by decide +kernel
theorem dX6_hatched_51 : decode cX6_hatched 51 = .ok (.istore 6, 2) := by decide +kernel
theorem dX6_hatched_53 : decode cX6_hatched 53 = .ok (.iinc 7 1, 3) := by decide +kernel
theorem dX6_hatched_56 : decode cX6_hatched 56 = .ok (.goto (-35), 3) := by decide +kernel
theorem dX6_hatched_59 : decode cX6_hatched 59 = .ok (.iload 6, 2) := by decide +kernel
theorem dX6_hatched_61 : decode cX6_hatched 61 = .ok (.ireturn, 1) := by decide +kernel
theorem dX6_apart_0 : decode cX6_apart 0 = .ok (.aload_n 0, 1) := by decide +kernel
theorem dX6_apart_1 : decode cX6_apart 1 = .ok (.iload_n 1, 1) := by decide +kernel
theorem dX6_apart_2 : decode cX6_apart 2 = .ok (.invokevirtual 87, 3) := by decide +kernel
theorem dX6_apart_5 : decode cX6_apart 5 = .ok (.astore_n 3, 1) := by decide +kernel
theorem dX6_apart_6 : decode cX6_apart 6 = .ok (.aload_n 0, 1) := by decide +kernel
theorem dX6_apart_7 : decode cX6_apart 7 = .ok (.iload_n 2, 1) := by decide +kernel
theorem dX6_apart_8 : decode cX6_apart 8 = .ok (.invokevirtual 87, 3) := by decide +kernel
theorem dX6_apart_11 : decode cX6_apart 11 = .ok (.astore 4, 2) := by decide +kernel
theorem dX6_apart_13 : decode cX6_apart 13 = .ok (.aload_n 3, 1) := by decide +kernel
theorem dX6_apart_14 : decode cX6_apart 14 = .ok (.invokevirtual 134, 3) := by decide +kernel
theorem dX6_apart_17 : decode cX6_apart 17 = .ok (.ifCond .ne 11, 3) := by decide +kernel
theorem dX6_apart_20 : decode cX6_apart 20 = .ok (.aload 4, 2) := by decide +kernel
theorem dX6_apart_22 : decode cX6_apart 22 = .ok (.invokevirtual 134, 3) := by decide +kernel
theorem dX6_apart_25 : decode cX6_apart 25 = .ok (.ifCond .eq 5, 3) := by decide +kernel
theorem dX6_apart_28 : decode cX6_apart 28 = .ok (.iconst (-1), 1) := by decide +kernel
theorem dX6_apart_29 : decode cX6_apart 29 = .ok (.ireturn, 1) := by decide +kernel
theorem dX6_apart_30 : decode cX6_apart 30 = .ok (.aload_n 0, 1) := by decide +kernel
theorem dX6_apart_31 : decode cX6_apart 31 = .ok (.getfield 16, 3) := by decide +kernel
theorem dX6_apart_34 : decode cX6_apart 34 = .ok (.aload_n 3, 1) := by decide +kernel
theorem dX6_apart_35 : decode cX6_apart 35 = .ok (.invokevirtual 155, 3) := by decide +kernel
theorem dX6_apart_38 : decode cX6_apart 38 = .ok (.iconst 0, 1) := by decide +kernel
theorem dX6_apart_39 : decode cX6_apart 39 = .ok (.istore 5, 2) := by decide +kernel
theorem dX6_apart_41 : decode cX6_apart 41 = .ok (.iload 5, 2) := by decide +kernel
theorem dX6_apart_43 : decode cX6_apart 43 = .ok (.bipush 64, 2) := by decide +kernel
theorem dX6_apart_45 : decode cX6_apart 45 = .ok (.if_icmp .ge 29, 3) := by decide +kernel
theorem dX6_apart_48 : decode cX6_apart 48 = .ok (.aload_n 0, 1) := by decide +kernel
theorem dX6_apart_49 : decode cX6_apart 49 = .ok (.getfield 16, 3) := by decide +kernel
theorem dX6_apart_52 : decode cX6_apart 52 = .ok (.aload 4, 2) := by decide +kernel
theorem dX6_apart_54 : decode cX6_apart 54 = .ok (.invokevirtual 266, 3) := by decide +kernel
theorem dX6_apart_57 : decode cX6_apart 57 = .ok (.ifCond .ne 17, 3) := by decide +kernel
theorem dX6_apart_60 : decode cX6_apart 60 = .ok (.aload_n 0, 1) := by decide +kernel
theorem dX6_apart_61 : decode cX6_apart 61 = .ok (.getfield 16, 3) := by decide +kernel
theorem dX6_apart_64 : decode cX6_apart 64 = .ok (.iconst 0, 1) := by decide +kernel
theorem dX6_apart_65 : decode cX6_apart 65 = .ok (.invokevirtual 169, 3) := by decide +kernel
theorem dX6_apart_68 : decode cX6_apart 68 = .ok (.iinc 5 1, 3) := by decide +kernel
theorem dX6_apart_71 : decode cX6_apart 71 = .ok (.goto (-30), 3) := by decide +kernel
theorem dX6_apart_74 : decode cX6_apart 74 = .ok (.iload 5, 2) := by decide +kernel
theorem dX6_apart_76 : decode cX6_apart 76 = .ok (.ireturn, 1) := by decide +kernel
theorem dX6_isSameForm_0 : decode cX6_isSameForm 0 = .ok (.aload_n 0, 1) := by decide +kernel
theorem dX6_isSameForm_1 : decode cX6_isSameForm 1 = .ok (.iload_n 1, 1) := by decide +kernel
theorem dX6_isSameForm_2 : decode cX6_isSameForm 2 = .ok (.invokevirtual 87, 3) := by decide +kernel
theorem dX6_isSameForm_5 : decode cX6_isSameForm 5 = .ok (.astore_n 3, 1) := by decide +kernel
theorem dX6_isSameForm_6 : decode cX6_isSameForm 6 = .ok (.aload_n 0, 1) := by decide +kernel
theorem dX6_isSameForm_7 : decode cX6_isSameForm 7 = .ok (.iload_n 2, 1) := by decide +kernel
theorem dX6_isSameForm_8 : decode cX6_isSameForm 8 = .ok (.invokevirtual 87, 3) := by decide +kernel
theorem dX6_isSameForm_11 : decode cX6_isSameForm 11 = .ok (.astore 4, 2) := by decide +kernel
theorem dX6_isSameForm_13 : decode cX6_isSameForm 13 = .ok (.aload_n 3, 1) := by decide +kernel
theorem dX6_isSameForm_14 : decode cX6_isSameForm 14 = .ok (.invokevirtual 108, 3) := by decide +kernel
theorem dX6_isSameForm_17 : decode cX6_isSameForm 17 = .ok (.aload 4, 2) := by decide +kernel
theorem dX6_isSameForm_19 : decode cX6_isSameForm 19 = .ok (.invokevirtual 108, 3) := by decide +kernel
theorem dX6_isSameForm_22 : decode cX6_isSameForm 22 = .ok (.if_icmp .eq 5, 3) := by decide +kernel
theorem dX6_isSameForm_25 : decode cX6_isSameForm 25 = .ok (.iconst 0, 1) := by decide +kernel
theorem dX6_isSameForm_26 : decode cX6_isSameForm 26 = .ok (.ireturn, 1) := by decide +kernel
theorem dX6_isSameForm_27 : decode cX6_isSameForm 27 = .ok (.aload_n 0, 1) := by decide +kernel
theorem dX6_isSameForm_28 : decode cX6_isSameForm 28 = .ok (.getfield 16, 3) := by decide +kernel
theorem dX6_isSameForm_31 : decode cX6_isSameForm 31 = .ok (.aload_n 3, 1) := by decide +kernel
theorem dX6_isSameForm_32 : decode cX6_isSameForm 32 = .ok (.invokevirtual 155, 3) := by decide +kernel
theorem dX6_isSameForm_35 : decode cX6_isSameForm 35 = .ok (.aload_n 0, 1) := by decide +kernel
theorem dX6_isSameForm_36 : decode cX6_isSameForm 36 = .ok (.getfield 16, 3) := by decide +kernel
theorem dX6_isSameForm_39 : decode cX6_isSameForm 39 = .ok (.aload 4, 2) := by decide +kernel
theorem dX6_isSameForm_41 : decode cX6_isSameForm 41 = .ok (.invokevirtual 138, 3) := by decide +kernel
theorem dX6_isSameForm_44 : decode cX6_isSameForm 44 = .ok (.aload_n 3, 1) := by decide +kernel
theorem dX6_isSameForm_45 : decode cX6_isSameForm 45 = .ok (.invokevirtual 138, 3) := by decide +kernel
theorem dX6_isSameForm_48 : decode cX6_isSameForm 48 = .ok (.isub, 1) := by decide +kernel
theorem dX6_isSameForm_49 : decode cX6_isSameForm 49 = .ok (.aload 4, 2) := by decide +kernel
theorem dX6_isSameForm_51 : decode cX6_isSameForm 51 = .ok (.invokevirtual 144, 3) := by decide +kernel
theorem dX6_isSameForm_54 : decode cX6_isSameForm 54 = .ok (.aload_n 3, 1) := by decide +kernel
theorem dX6_isSameForm_55 : decode cX6_isSameForm 55 = .ok (.invokevirtual 144, 3) := by decide +kernel
theorem dX6_isSameForm_58 : decode cX6_isSameForm 58 = .ok (.isub, 1) := by decide +kernel
theorem dX6_isSameForm_59 : decode cX6_isSameForm 59 = .ok (.invokevirtual 150, 3) := by decide +kernel
theorem dX6_isSameForm_62 : decode cX6_isSameForm 62 = .ok (.aload_n 0, 1) := by decide +kernel
theorem dX6_isSameForm_63 : decode cX6_isSameForm 63 = .ok (.getfield 16, 3) := by decide +kernel
theorem dX6_isSameForm_66 : decode cX6_isSameForm 66 = .ok (.aload 4, 2) := by decide +kernel
theorem dX6_isSameForm_68 : decode cX6_isSameForm 68 = .ok (.invokevirtual 270, 3) := by decide +kernel
theorem dX6_isSameForm_71 : decode cX6_isSameForm 71 = .ok (.ireturn, 1) := by decide +kernel
theorem dX6_middleX_0 : decode cX6_middleX 0 = .ok (.aload_n 0, 1) := by decide +kernel
theorem dX6_middleX_1 : decode cX6_middleX 1 = .ok (.iload_n 1, 1) := by decide +kernel
theorem dX6_middleX_2 : decode cX6_middleX 2 = .ok (.invokevirtual 87, 3) := by decide +kernel
theorem dX6_middleX_5 : decode cX6_middleX 5 = .ok (.astore_n 2, 1) := by decide +kernel
theorem dX6_middleX_6 : decode cX6_middleX 6 = .ok (.aload_n 2, 1) := by decide +kernel
theorem dX6_middleX_7 : decode cX6_middleX 7 = .ok (.invokevirtual 108, 3) := by decide +kernel
theorem dX6_middleX_10 : decode cX6_middleX 10 = .ok (.istore_n 3, 1) := by decide +kernel
theorem dX6_middleX_11 : decode cX6_middleX 11 = .ok (.iload_n 3, 1) := by decide +kernel
theorem dX6_middleX_12 : decode cX6_middleX 12 = .ok (.ifCond .ne 7, 3) := by decide +kernel
theorem dX6_middleX_15 : decode cX6_middleX 15 = .ok (.dconst 0, 1) := by decide +kernel
theorem dX6_middleX_16 : decode cX6_middleX 16 = .ok (.goto 11, 3) := by decide +kernel
theorem dX6_middleX_19 : decode cX6_middleX 19 = .ok (.aload_n 2, 1) := by decide +kernel
theorem dX6_middleX_20 : decode cX6_middleX 20 = .ok (.invokevirtual 273, 3) := by decide +kernel
theorem dX6_middleX_23 : decode cX6_middleX 23 = .ok (.i2d, 1) := by decide +kernel
theorem dX6_middleX_24 : decode cX6_middleX 24 = .ok (.iload_n 3, 1) := by decide +kernel
theorem dX6_middleX_25 : decode cX6_middleX 25 = .ok (.i2d, 1) := by decide +kernel
theorem dX6_middleX_26 : decode cX6_middleX 26 = .ok (.ddiv, 1) := by decide +kernel
theorem dX6_middleX_27 : decode cX6_middleX 27 = .ok (.dreturn, 1) := by decide +kernel
theorem dX6_digest_0 : decode cX6_digest 0 = .ok (.ldc2_w 276, 3) := by decide +kernel
theorem dX6_digest_3 : decode cX6_digest 3 = .ok (.aload_n 0, 1) := by decide +kernel
theorem dX6_digest_4 : decode cX6_digest 4 = .ok (.getfield 23, 3) := by decide +kernel
theorem dX6_digest_7 : decode cX6_digest 7 = .ok (.invokevirtual 66, 3) := by decide +kernel
theorem dX6_digest_10 : decode cX6_digest 10 = .ok (.i2l, 1) := by decide +kernel
theorem dX6_digest_11 : decode cX6_digest 11 = .ok (.invokestatic 278, 3) := by decide +kernel
theorem dX6_digest_14 : decode cX6_digest 14 = .ok (.lstore_n 1, 1) := by decide +kernel
theorem dX6_digest_15 : decode cX6_digest 15 = .ok (.iconst 0, 1) := by decide +kernel
theorem dX6_digest_16 : decode cX6_digest 16 = .ok (.istore_n 3, 1) := by decide +kernel
theorem dX6_digest_17 : decode cX6_digest 17 = .ok (.iload_n 3, 1) := by decide +kernel
theorem dX6_digest_18 : decode cX6_digest 18 = .ok (.aload_n 0, 1) := by decide +kernel
theorem dX6_digest_19 : decode cX6_digest 19 = .ok (.getfield 11, 3) := by decide +kernel
theorem dX6_digest_22 : decode cX6_digest 22 = .ok (.arraylength, 1) := by decide +kernel
theorem dX6_digest_23 : decode cX6_digest 23 = .ok (.if_icmp .ge 143, 3) := by decide +kernel
theorem dX6_digest_26 : decode cX6_digest 26 = .ok (.aload_n 0, 1) := by decide +kernel
theorem dX6_digest_27 : decode cX6_digest 27 = .ok (.getfield 11, 3) := by decide +kernel
theorem dX6_digest_30 : decode cX6_digest 30 = .ok (.iload_n 3, 1) := by decide +kernel
theorem dX6_digest_31 : decode cX6_digest 31 = .ok (.aaload, 1) := by decide +kernel
theorem dX6_digest_32 : decode cX6_digest 32 = .ok (.astore 4, 2) := by decide +kernel
theorem dX6_digest_34 : decode cX6_digest 34 = .ok (.lload_n 1, 1) := by decide +kernel
theorem dX6_digest_35 : decode cX6_digest 35 = .ok (.aload 4, 2) := by decide +kernel
theorem dX6_digest_37 : decode cX6_digest 37 = .ok (.invokevirtual 108, 3) := by decide +kernel
theorem dX6_digest_40 : decode cX6_digest 40 = .ok (.i2l, 1) := by decide +kernel
theorem dX6_digest_41 : decode cX6_digest 41 = .ok (.invokestatic 278, 3) := by decide +kernel
theorem dX6_digest_44 : decode cX6_digest 44 = .ok (.lstore_n 1, 1) := by decide +kernel
theorem dX6_digest_45 : decode cX6_digest 45 = .ok (.lload_n 1, 1) := by decide +kernel
theorem dX6_digest_46 : decode cX6_digest 46 = .ok (.aload 4, 2) := by decide +kernel
theorem dX6_digest_48 : decode cX6_digest 48 = .ok (.invokevirtual 193, 3) := by decide +kernel
theorem dX6_digest_51 : decode cX6_digest 51 = .ok (.i2l, 1) := by decide +kernel
theorem dX6_digest_52 : decode cX6_digest 52 = .ok (.invokestatic 278, 3) := by decide +kernel
theorem dX6_digest_55 : decode cX6_digest 55 = .ok (.lstore_n 1, 1) := by decide +kernel
theorem dX6_digest_56 : decode cX6_digest 56 = .ok (.lload_n 1, 1) := by decide +kernel
theorem dX6_digest_57 : decode cX6_digest 57 = .ok (.aload_n 0, 1) := by decide +kernel
theorem dX6_digest_58 : decode cX6_digest 58 = .ok (.getfield 37, 3) := by decide +kernel
theorem dX6_digest_61 : decode cX6_digest 61 = .ok (.aload 4, 2) := by decide +kernel
theorem dX6_digest_63 : decode cX6_digest 63 = .ok (.invokevirtual 196, 3) := by decide +kernel
theorem dX6_digest_66 : decode cX6_digest 66 = .ok (.i2l, 1) := by decide +kernel
theorem dX6_digest_67 : decode cX6_digest 67 = .ok (.invokestatic 278, 3) := by decide +kernel
theorem dX6_digest_70 : decode cX6_digest 70 = .ok (.lstore_n 1, 1) := by decide +kernel
theorem dX6_digest_71 : decode cX6_digest 71 = .ok (.lload_n 1, 1) := by decide +kernel
theorem dX6_digest_72 : decode cX6_digest 72 = .ok (.aload_n 0, 1) := by decide +kernel
theorem dX6_digest_73 : decode cX6_digest 73 = .ok (.getfield 37, 3) := by decide +kernel
theorem dX6_digest_76 : decode cX6_digest 76 = .ok (.aload 4, 2) := by decide +kernel
theorem dX6_digest_78 : decode cX6_digest 78 = .ok (.invokevirtual 199, 3) := by decide +kernel
theorem dX6_digest_81 : decode cX6_digest 81 = .ok (.i2l, 1) := by decide +kernel
theorem dX6_digest_82 : decode cX6_digest 82 = .ok (.invokestatic 278, 3) := by decide +kernel
theorem dX6_digest_85 : decode cX6_digest 85 = .ok (.lstore_n 1, 1) := by decide +kernel
theorem dX6_digest_86 : decode cX6_digest 86 = .ok (.iconst 0, 1) := by decide +kernel
theorem dX6_digest_87 : decode cX6_digest 87 = .ok (.istore 5, 2) := by decide +kernel
theorem dX6_digest_89 : decode cX6_digest 89 = .ok (.iload 5, 2) := by decide +kernel
theorem dX6_digest_91 : decode cX6_digest 91 = .ok (.iconst 4, 1) := by decide +kernel
theorem dX6_digest_92 : decode cX6_digest 92 = .ok (.if_icmp .ge 22, 3) := by decide +kernel
theorem dX6_digest_95 : decode cX6_digest 95 = .ok (.lload_n 1, 1) := by decide +kernel
theorem dX6_digest_96 : decode cX6_digest 96 = .ok (.aload 4, 2) := by decide +kernel
theorem dX6_digest_98 : decode cX6_digest 98 = .ok (.iload 5, 2) := by decide +kernel
theorem dX6_digest_100 : decode cX6_digest 100 = .ok (.invokestatic 208, 3) := by decide +kernel
theorem dX6_digest_103 : decode cX6_digest 103 = .ok (.i2l, 1) := by decide +kernel
theorem dX6_digest_104 : decode cX6_digest 104 = .ok (.invokestatic 278, 3) := by decide +kernel
theorem dX6_digest_107 : decode cX6_digest 107 = .ok (.lstore_n 1, 1) := by decide +kernel
theorem dX6_digest_108 : decode cX6_digest 108 = .ok (.iinc 5 1, 3) := by decide +kernel
theorem dX6_digest_111 : decode cX6_digest 111 = .ok (.goto (-22), 3) := by decide +kernel
theorem dX6_digest_114 : decode cX6_digest 114 = .ok (.lload_n 1, 1) := by decide +kernel
theorem dX6_digest_115 : decode cX6_digest 115 = .ok (.aload_n 0, 1) := by decide +kernel
theorem dX6_digest_116 : decode cX6_digest 116 = .ok (.getfield 44, 3) := by decide +kernel
theorem dX6_digest_119 : decode cX6_digest 119 = .ok (.aload 4, 2) := by decide +kernel
theorem dX6_digest_121 : decode cX6_digest 121 = .ok (.invokevirtual 212, 3) := by decide +kernel
theorem dX6_digest_124 : decode cX6_digest 124 = .ok (.i2l, 1) := by decide +kernel
theorem dX6_digest_125 : decode cX6_digest 125 = .ok (.invokestatic 278, 3) := by decide +kernel
theorem dX6_digest_128 : decode cX6_digest 128 = .ok (.lstore_n 1, 1) := by decide +kernel
theorem dX6_digest_129 : decode cX6_digest 129 = .ok (.aload_n 0, 1) := by decide +kernel
theorem dX6_digest_130 : decode cX6_digest 130 = .ok (.lload_n 1, 1) := by decide +kernel
theorem dX6_digest_131 : decode cX6_digest 131 = .ok (.aload 4, 2) := by decide +kernel
theorem dX6_digest_133 : decode cX6_digest 133 = .ok (.invokevirtual 282, 3) := by decide +kernel
theorem dX6_digest_136 : decode cX6_digest 136 = .ok (.lstore_n 1, 1) := by decide +kernel
theorem dX6_digest_137 : decode cX6_digest 137 = .ok (.lload_n 1, 1) := by decide +kernel
theorem dX6_digest_138 : decode cX6_digest 138 = .ok (.aload_n 0, 1) := by decide +kernel
theorem dX6_digest_139 : decode cX6_digest 139 = .ok (.getfield 51, 3) := by decide +kernel
theorem dX6_digest_142 : decode cX6_digest 142 = .ok (.aload 4, 2) := by decide +kernel
theorem dX6_digest_144 : decode cX6_digest 144 = .ok (.invokevirtual 231, 3) := by decide +kernel
theorem dX6_digest_147 : decode cX6_digest 147 = .ok (.i2l, 1) := by decide +kernel
theorem dX6_digest_148 : decode cX6_digest 148 = .ok (.invokestatic 278, 3) := by decide +kernel
theorem dX6_digest_151 : decode cX6_digest 151 = .ok (.lstore_n 1, 1) := by decide +kernel
theorem dX6_digest_152 : decode cX6_digest 152 = .ok (.aload_n 0, 1) := by decide +kernel
theorem dX6_digest_153 : decode cX6_digest 153 = .ok (.lload_n 1, 1) := by decide +kernel
theorem dX6_digest_154 : decode cX6_digest 154 = .ok (.aload 4, 2) := by decide +kernel
theorem dX6_digest_156 : decode cX6_digest 156 = .ok (.invokevirtual 286, 3) := by decide +kernel
theorem dX6_digest_159 : decode cX6_digest 159 = .ok (.lstore_n 1, 1) := by decide +kernel
theorem dX6_digest_160 : decode cX6_digest 160 = .ok (.iinc 3 1, 3) := by decide +kernel
theorem dX6_digest_163 : decode cX6_digest 163 = .ok (.goto (-146), 3) := by decide +kernel
theorem dX6_digest_166 : decode cX6_digest 166 = .ok (.lload_n 1, 1) := by decide +kernel
theorem dX6_digest_167 : decode cX6_digest 167 = .ok (.aload_n 0, 1) := by decide +kernel
theorem dX6_digest_168 : decode cX6_digest 168 = .ok (.getfield 30, 3) := by decide +kernel
theorem dX6_digest_171 : decode cX6_digest 171 = .ok (.invokevirtual 289, 3) := by decide +kernel
theorem dX6_digest_174 : decode cX6_digest 174 = .ok (.i2l, 1) := by decide +kernel
theorem dX6_digest_175 : decode cX6_digest 175 = .ok (.invokestatic 278, 3) := by decide +kernel
theorem dX6_digest_178 : decode cX6_digest 178 = .ok (.lreturn, 1) := by decide +kernel
theorem dX6_regionAt_0 : decode cX6_regionAt 0 = .ok (.iload_n 1, 1) := by decide +kernel
theorem dX6_regionAt_1 : decode cX6_regionAt 1 = .ok (.ifCond .lt 12, 3) := by decide +kernel
theorem dX6_regionAt_4 : decode cX6_regionAt 4 = .ok (.iload_n 1, 1) := by decide +kernel
theorem dX6_regionAt_5 : decode cX6_regionAt 5 = .ok (.aload_n 0, 1) := by decide +kernel
theorem dX6_regionAt_6 : decode cX6_regionAt 6 = .ok (.getfield 11, 3) := by decide +kernel
theorem dX6_regionAt_9 : decode cX6_regionAt 9 = .ok (.arraylength, 1) := by decide +kernel
theorem dX6_regionAt_10 : decode cX6_regionAt 10 = .ok (.if_icmp .lt 14, 3) := by decide +kernel
theorem dX6_regionAt_13 : decode cX6_regionAt 13 = .ok (.new 238, 3) := by decide +kernel
theorem dX6_regionAt_16 : decode cX6_regionAt 16 = .ok (.dup, 1) := by decide +kernel
theorem dX6_regionAt_17 : decode cX6_regionAt 17 = .ok (.ldc_w 290, 3) := by decide +kernel
theorem dX6_regionAt_20 : decode cX6_regionAt 20 = .ok (.invokespecial 242, 3) := by decide +kernel
theorem dX6_regionAt_23 : decode cX6_regionAt 23 = .ok (.athrow, 1) := by decide +kernel
theorem dX6_regionAt_24 : decode cX6_regionAt 24 = .ok (.aload_n 0, 1) := by decide +kernel
theorem dX6_regionAt_25 : decode cX6_regionAt 25 = .ok (.getfield 11, 3) := by decide +kernel
theorem dX6_regionAt_28 : decode cX6_regionAt 28 = .ok (.iload_n 1, 1) := by decide +kernel
theorem dX6_regionAt_29 : decode cX6_regionAt 29 = .ok (.aaload, 1) := by decide +kernel
theorem dX6_regionAt_30 : decode cX6_regionAt 30 = .ok (.areturn, 1) := by decide +kernel
theorem dX6_checkLine_0 : decode cX6_checkLine 0 = .ok (.lload_n 2, 1) := by decide +kernel
theorem dX6_checkLine_1 : decode cX6_checkLine 1 = .ok (.invokestatic 55, 3) := by decide +kernel
theorem dX6_checkLine_4 : decode cX6_checkLine 4 = .ok (.ifCond .ne 14, 3) := by decide +kernel
theorem dX6_checkLine_7 : decode cX6_checkLine 7 = .ok (.new 59, 3) := by decide +kernel
theorem dX6_checkLine_10 : decode cX6_checkLine 10 = .ok (.dup, 1) := by decide +kernel
theorem dX6_checkLine_11 : decode cX6_checkLine 11 = .ok (.ldc_w 292, 3) := by decide +kernel
theorem dX6_checkLine_14 : decode cX6_checkLine 14 = .ok (.invokespecial 63, 3) := by decide +kernel
theorem dX6_checkLine_17 : decode cX6_checkLine 17 = .ok (.athrow, 1) := by decide +kernel
theorem dX6_checkLine_18 : decode cX6_checkLine 18 = .ok (.iload_n 1, 1) := by decide +kernel
theorem dX6_checkLine_19 : decode cX6_checkLine 19 = .ok (.ifCond .eq 24, 3) := by decide +kernel
theorem dX6_checkLine_22 : decode cX6_checkLine 22 = .ok (.aload_n 0, 1) := by decide +kernel
theorem dX6_checkLine_23 : decode cX6_checkLine 23 = .ok (.getfield 23, 3) := by decide +kernel
theorem dX6_checkLine_26 : decode cX6_checkLine 26 = .ok (.invokevirtual 294, 3) := by decide +kernel
theorem dX6_checkLine_29 : decode cX6_checkLine 29 = .ok (.ifCond .eq 14, 3) := by decide +kernel
theorem dX6_checkLine_32 : decode cX6_checkLine 32 = .ok (.new 297, 3) := by decide +kernel
theorem dX6_checkLine_35 : decode cX6_checkLine 35 = .ok (.dup, 1) := by decide +kernel
theorem dX6_checkLine_36 : decode cX6_checkLine 36 = .ok (.ldc_w 299, 3) := by decide +kernel
theorem dX6_checkLine_39 : decode cX6_checkLine 39 = .ok (.invokespecial 301, 3) := by decide +kernel
theorem dX6_checkLine_42 : decode cX6_checkLine 42 = .ok (.athrow, 1) := by decide +kernel
theorem dX6_checkLine_43 : decode cX6_checkLine 43 = .ok (.return_, 1) := by decide +kernel
theorem dX6_checkRoom_0 : decode cX6_checkRoom 0 = .ok (.lload_n 0, 1) := by decide +kernel
theorem dX6_checkRoom_1 : decode cX6_checkRoom 1 = .ok (.ldc2_w 302, 3) := by decide +kernel
theorem dX6_checkRoom_4 : decode cX6_checkRoom 4 = .ok (.lcmp, 1) := by decide +kernel
theorem dX6_checkRoom_5 : decode cX6_checkRoom 5 = .ok (.ifCond .lt 11, 3) := by decide +kernel
theorem dX6_checkRoom_8 : decode cX6_checkRoom 8 = .ok (.lload_n 2, 1) := by decide +kernel
theorem dX6_checkRoom_9 : decode cX6_checkRoom 9 = .ok (.ldc2_w 304, 3) := by decide +kernel
theorem dX6_checkRoom_12 : decode cX6_checkRoom 12 = .ok (.lcmp, 1) := by decide +kernel
theorem dX6_checkRoom_13 : decode cX6_checkRoom 13 = .ok (.ifCond .le 14, 3) := by decide +kernel
theorem dX6_checkRoom_16 : decode cX6_checkRoom 16 = .ok (.new 297, 3) := by decide +kernel
theorem dX6_checkRoom_19 : decode cX6_checkRoom 19 = .ok (.dup, 1) := by decide +kernel
theorem dX6_checkRoom_20 : decode cX6_checkRoom 20 = .ok (.ldc_w 306, 3) := by decide +kernel
theorem dX6_checkRoom_23 : decode cX6_checkRoom 23 = .ok (.invokespecial 301, 3) := by decide +kernel
theorem dX6_checkRoom_26 : decode cX6_checkRoom 26 = .ok (.athrow, 1) := by decide +kernel
theorem dX6_checkRoom_27 : decode cX6_checkRoom 27 = .ok (.return_, 1) := by decide +kernel
theorem dX6_checkGrowth_0 : decode cX6_checkGrowth 0 = .ok (.iconst 0, 1) := by decide +kernel
theorem dX6_checkGrowth_1 : decode cX6_checkGrowth 1 = .ok (.iload_n 0, 1) := by decide +kernel
theorem dX6_checkGrowth_2 : decode cX6_checkGrowth 2 = .ok (.bipush 8, 2) := by decide +kernel
theorem dX6_checkGrowth_4 : decode cX6_checkGrowth 4 = .ok (.invokestatic 91, 3) := by decide +kernel
theorem dX6_checkGrowth_7 : decode cX6_checkGrowth 7 = .ok (.ifCond .eq 12, 3) := by decide +kernel
theorem dX6_checkGrowth_10 : decode cX6_checkGrowth 10 = .ok (.iconst 0, 1) := by decide +kernel
theorem dX6_checkGrowth_11 : decode cX6_checkGrowth 11 = .ok (.iload_n 1, 1) := by decide +kernel
theorem dX6_checkGrowth_12 : decode cX6_checkGrowth 12 = .ok (.iconst 1, 1) := by decide +kernel
theorem dX6_checkGrowth_13 : decode cX6_checkGrowth 13 = .ok (.invokestatic 91, 3) := by decide +kernel
theorem dX6_checkGrowth_16 : decode cX6_checkGrowth 16 = .ok (.ifCond .ne 14, 3) := by decide +kernel
theorem dX6_checkGrowth_19 : decode cX6_checkGrowth 19 = .ok (.new 59, 3) := by decide +kernel
theorem dX6_checkGrowth_22 : decode cX6_checkGrowth 22 = .ok (.dup, 1) := by decide +kernel
theorem dX6_checkGrowth_23 : decode cX6_checkGrowth 23 = .ok (.ldc_w 308, 3) := by decide +kernel
theorem dX6_checkGrowth_26 : decode cX6_checkGrowth 26 = .ok (.invokespecial 63, 3) := by decide +kernel
theorem dX6_checkGrowth_29 : decode cX6_checkGrowth 29 = .ok (.athrow, 1) := by decide +kernel
theorem dX6_checkGrowth_30 : decode cX6_checkGrowth 30 = .ok (.return_, 1) := by decide +kernel
theorem dX6_checkHatching_0 : decode cX6_checkHatching 0 = .ok (.iconst 0, 1) := by decide +kernel
theorem dX6_checkHatching_1 : decode cX6_checkHatching 1 = .ok (.iload_n 0, 1) := by decide +kernel
theorem dX6_checkHatching_2 : decode cX6_checkHatching 2 = .ok (.iconst 3, 1) := by decide +kernel
theorem dX6_checkHatching_3 : decode cX6_checkHatching 3 = .ok (.invokestatic 91, 3) := by decide +kernel
theorem dX6_checkHatching_6 : decode cX6_checkHatching 6 = .ok (.ifCond .eq 24, 3) := by decide +kernel
theorem dX6_checkHatching_9 : decode cX6_checkHatching 9 = .ok (.iconst 1, 1) := by decide +kernel
theorem dX6_checkHatching_10 : decode cX6_checkHatching 10 = .ok (.iload_n 1, 1) := by decide +kernel
theorem dX6_checkHatching_11 : decode cX6_checkHatching 11 = .ok (.bipush 20, 2) := by decide +kernel
theorem dX6_checkHatching_13 : decode cX6_checkHatching 13 = .ok (.invokestatic 91, 3) := by decide +kernel
theorem dX6_checkHatching_16 : decode cX6_checkHatching 16 = .ok (.ifCond .eq 14, 3) := by decide +kernel
theorem dX6_checkHatching_19 : decode cX6_checkHatching 19 = .ok (.bipush (-100), 2) := by decide +kernel
theorem dX6_checkHatching_21 : decode cX6_checkHatching 21 = .ok (.iload_n 2, 1) := by decide +kernel
theorem dX6_checkHatching_22 : decode cX6_checkHatching 22 = .ok (.bipush 100, 2) := by decide +kernel
theorem dX6_checkHatching_24 : decode cX6_checkHatching 24 = .ok (.invokestatic 91, 3) := by decide +kernel
theorem dX6_checkHatching_27 : decode cX6_checkHatching 27 = .ok (.ifCond .ne 14, 3) := by decide +kernel
theorem dX6_checkHatching_30 : decode cX6_checkHatching 30 = .ok (.new 59, 3) := by decide +kernel
theorem dX6_checkHatching_33 : decode cX6_checkHatching 33 = .ok (.dup, 1) := by decide +kernel
theorem dX6_checkHatching_34 : decode cX6_checkHatching 34 = .ok (.ldc_w 310, 3) := by decide +kernel
theorem dX6_checkHatching_37 : decode cX6_checkHatching 37 = .ok (.invokespecial 63, 3) := by decide +kernel
theorem dX6_checkHatching_40 : decode cX6_checkHatching 40 = .ok (.athrow, 1) := by decide +kernel
theorem dX6_checkHatching_41 : decode cX6_checkHatching 41 = .ok (.return_, 1) := by decide +kernel
theorem dX6_walkTo_0 : decode cX6_walkTo 0 = .ok (.aload_n 0, 1) := by decide +kernel
theorem dX6_walkTo_1 : decode cX6_walkTo 1 = .ok (.iload_n 1, 1) := by decide +kernel
theorem dX6_walkTo_2 : decode cX6_walkTo 2 = .ok (.invokevirtual 87, 3) := by decide +kernel
theorem dX6_walkTo_5 : decode cX6_walkTo 5 = .ok (.astore 4, 2) := by decide +kernel
theorem dX6_walkTo_7 : decode cX6_walkTo 7 = .ok (.aload_n 0, 1) := by decide +kernel
theorem dX6_walkTo_8 : decode cX6_walkTo 8 = .ok (.getfield 44, 3) := by decide +kernel
theorem dX6_walkTo_11 : decode cX6_walkTo 11 = .ok (.aload 4, 2) := by decide +kernel
theorem dX6_walkTo_13 : decode cX6_walkTo 13 = .ok (.iload_n 2, 1) := by decide +kernel
theorem dX6_walkTo_14 : decode cX6_walkTo 14 = .ok (.iload_n 3, 1) := by decide +kernel
theorem dX6_walkTo_15 : decode cX6_walkTo 15 = .ok (.invokevirtual 312, 3) := by decide +kernel
theorem dX6_walkTo_18 : decode cX6_walkTo 18 = .ok (.ifCond .ne 14, 3) := by decide +kernel
theorem dX6_walkTo_21 : decode cX6_walkTo 21 = .ok (.new 238, 3) := by decide +kernel
theorem dX6_walkTo_24 : decode cX6_walkTo 24 = .ok (.dup, 1) := by decide +kernel
theorem dX6_walkTo_25 : decode cX6_walkTo 25 = .ok (.ldc_w 315, 3) := by decide +kernel
theorem dX6_walkTo_28 : decode cX6_walkTo 28 = .ok (.invokespecial 242, 3) := by decide +kernel
theorem dX6_walkTo_31 : decode cX6_walkTo 31 = .ok (.athrow, 1) := by decide +kernel
theorem dX6_walkTo_32 : decode cX6_walkTo 32 = .ok (.iload_n 3, 1) := by decide +kernel
theorem dX6_walkTo_33 : decode cX6_walkTo 33 = .ok (.ifCond .lt 14, 3) := by decide +kernel
theorem dX6_walkTo_36 : decode cX6_walkTo 36 = .ok (.iload_n 3, 1) := by decide +kernel
theorem dX6_walkTo_37 : decode cX6_walkTo 37 = .ok (.aload_n 0, 1) := by decide +kernel
theorem dX6_walkTo_38 : decode cX6_walkTo 38 = .ok (.getfield 44, 3) := by decide +kernel
theorem dX6_walkTo_41 : decode cX6_walkTo 41 = .ok (.invokevirtual 219, 3) := by decide +kernel
theorem dX6_walkTo_44 : decode cX6_walkTo 44 = .ok (.if_icmp .lt 14, 3) := by decide +kernel
theorem dX6_walkTo_47 : decode cX6_walkTo 47 = .ok (.new 238, 3) := by decide +kernel
theorem dX6_walkTo_50 : decode cX6_walkTo 50 = .ok (.dup, 1) := by decide +kernel
theorem dX6_walkTo_51 : decode cX6_walkTo 51 = .ok (.ldc_w 317, 3) := by decide +kernel
theorem dX6_walkTo_54 : decode cX6_walkTo 54 = .ok (.invokespecial 242, 3) := by decide +kernel
theorem dX6_walkTo_57 : decode cX6_walkTo 57 = .ok (.athrow, 1) := by decide +kernel
theorem dX6_walkTo_58 : decode cX6_walkTo 58 = .ok (.return_, 1) := by decide +kernel
theorem dX6_isInReach_0 : decode cX6_isInReach 0 = .ok (.lload_n 0, 1) := by decide +kernel
theorem dX6_isInReach_1 : decode cX6_isInReach 1 = .ok (.ldc2_w 319, 3) := by decide +kernel
theorem dX6_isInReach_4 : decode cX6_isInReach 4 = .ok (.lcmp, 1) := by decide +kernel
theorem dX6_isInReach_5 : decode cX6_isInReach 5 = .ok (.ifCond .lt 15, 3) := by decide +kernel
theorem dX6_isInReach_8 : decode cX6_isInReach 8 = .ok (.lload_n 0, 1) := by decide +kernel
theorem dX6_isInReach_9 : decode cX6_isInReach 9 = .ok (.ldc2_w 321, 3) := by decide +kernel
theorem dX6_isInReach_12 : decode cX6_isInReach 12 = .ok (.lcmp, 1) := by decide +kernel
theorem dX6_isInReach_13 : decode cX6_isInReach 13 = .ok (.ifCond .gt 7, 3) := by decide +kernel
theorem dX6_isInReach_16 : decode cX6_isInReach 16 = .ok (.iconst 1, 1) := by decide +kernel
theorem dX6_isInReach_17 : decode cX6_isInReach 17 = .ok (.goto 4, 3) := by decide +kernel
theorem dX6_isInReach_20 : decode cX6_isInReach 20 = .ok (.iconst 0, 1) := by decide +kernel
theorem dX6_isInReach_21 : decode cX6_isInReach 21 = .ok (.ireturn, 1) := by decide +kernel
theorem dX6_isFrom_0 : decode cX6_isFrom 0 = .ok (.iload_n 1, 1) := by decide +kernel
theorem dX6_isFrom_1 : decode cX6_isFrom 1 = .ok (.iload_n 0, 1) := by decide +kernel
theorem dX6_isFrom_2 : decode cX6_isFrom 2 = .ok (.if_icmp .lt 12, 3) := by decide +kernel
theorem dX6_isFrom_5 : decode cX6_isFrom 5 = .ok (.iload_n 1, 1) := by decide +kernel
theorem dX6_isFrom_6 : decode cX6_isFrom 6 = .ok (.iload_n 2, 1) := by decide +kernel
theorem dX6_isFrom_7 : decode cX6_isFrom 7 = .ok (.if_icmp .gt 7, 3) := by decide +kernel
theorem dX6_isFrom_10 : decode cX6_isFrom 10 = .ok (.iconst 1, 1) := by decide +kernel
theorem dX6_isFrom_11 : decode cX6_isFrom 11 = .ok (.goto 4, 3) := by decide +kernel
theorem dX6_isFrom_14 : decode cX6_isFrom 14 = .ok (.iconst 0, 1) := by decide +kernel
theorem dX6_isFrom_15 : decode cX6_isFrom 15 = .ok (.ireturn, 1) := by decide +kernel
theorem dX6_boundOf_0 : decode cX6_boundOf 0 = .ok (.iload_n 1, 1) := by decide +kernel
theorem dX6_boundOf_1 : decode cX6_boundOf 1 = .ok (.tableswitch 42 0 2 #[27, 32, 37], 27) := by decide +kernel
theorem dX6_boundOf_28 : decode cX6_boundOf 28 = .ok (.aload_n 0, 1) := by decide +kernel
theorem dX6_boundOf_29 : decode cX6_boundOf 29 = .ok (.invokevirtual 138, 3) := by decide +kernel
theorem dX6_boundOf_32 : decode cX6_boundOf 32 = .ok (.ireturn, 1) := by decide +kernel
theorem dX6_boundOf_33 : decode cX6_boundOf 33 = .ok (.aload_n 0, 1) := by decide +kernel
theorem dX6_boundOf_34 : decode cX6_boundOf 34 = .ok (.invokevirtual 144, 3) := by decide +kernel
theorem dX6_boundOf_37 : decode cX6_boundOf 37 = .ok (.ireturn, 1) := by decide +kernel
theorem dX6_boundOf_38 : decode cX6_boundOf 38 = .ok (.aload_n 0, 1) := by decide +kernel
theorem dX6_boundOf_39 : decode cX6_boundOf 39 = .ok (.invokevirtual 141, 3) := by decide +kernel
theorem dX6_boundOf_42 : decode cX6_boundOf 42 = .ok (.ireturn, 1) := by decide +kernel
theorem dX6_boundOf_43 : decode cX6_boundOf 43 = .ok (.aload_n 0, 1) := by decide +kernel
theorem dX6_boundOf_44 : decode cX6_boundOf 44 = .ok (.invokevirtual 147, 3) := by decide +kernel
theorem dX6_boundOf_47 : decode cX6_boundOf 47 = .ok (.ireturn, 1) := by decide +kernel
theorem dX6_combined_0 : decode cX6_combined 0 = .ok (.iload 4, 2) := by decide +kernel
theorem dX6_combined_2 : decode cX6_combined 2 = .ok (.tableswitch 42 0 2 #[26, 30, 34], 26) := by decide +kernel
theorem dX6_combined_28 : decode cX6_combined 28 = .ok (.lload_n 0, 1) := by decide +kernel
theorem dX6_combined_29 : decode cX6_combined 29 = .ok (.lload_n 2, 1) := by decide +kernel
theorem dX6_combined_30 : decode cX6_combined 30 = .ok (.lor, 1) := by decide +kernel
theorem dX6_combined_31 : decode cX6_combined 31 = .ok (.lreturn, 1) := by decide +kernel
theorem dX6_combined_32 : decode cX6_combined 32 = .ok (.lload_n 0, 1) := by decide +kernel
theorem dX6_combined_33 : decode cX6_combined 33 = .ok (.lload_n 2, 1) := by decide +kernel
theorem dX6_combined_34 : decode cX6_combined 34 = .ok (.land, 1) := by decide +kernel
theorem dX6_combined_35 : decode cX6_combined 35 = .ok (.lreturn, 1) := by decide +kernel
theorem dX6_combined_36 : decode cX6_combined 36 = .ok (.lload_n 0, 1) := by decide +kernel
theorem dX6_combined_37 : decode cX6_combined 37 = .ok (.lload_n 2, 1) := by decide +kernel
theorem dX6_combined_38 : decode cX6_combined 38 = .ok (.ldc2_w 117, 3) := by decide +kernel
theorem dX6_combined_41 : decode cX6_combined 41 = .ok (.lxor, 1) := by decide +kernel
theorem dX6_combined_42 : decode cX6_combined 42 = .ok (.land, 1) := by decide +kernel
theorem dX6_combined_43 : decode cX6_combined 43 = .ok (.lreturn, 1) := by decide +kernel
theorem dX6_combined_44 : decode cX6_combined 44 = .ok (.lload_n 0, 1) := by decide +kernel
theorem dX6_combined_45 : decode cX6_combined 45 = .ok (.lload_n 2, 1) := by decide +kernel
theorem dX6_combined_46 : decode cX6_combined 46 = .ok (.lxor, 1) := by decide +kernel
theorem dX6_combined_47 : decode cX6_combined 47 = .ok (.lreturn, 1) := by decide +kernel
theorem dX6_mirrored_0 : decode cX6_mirrored 0 = .ok (.lconst 0, 1) := by decide +kernel
theorem dX6_mirrored_1 : decode cX6_mirrored 1 = .ok (.lstore_n 2, 1) := by decide +kernel
theorem dX6_mirrored_2 : decode cX6_mirrored 2 = .ok (.iconst 0, 1) := by decide +kernel
theorem dX6_mirrored_3 : decode cX6_mirrored 3 = .ok (.istore 4, 2) := by decide +kernel
theorem dX6_mirrored_5 : decode cX6_mirrored 5 = .ok (.iload 4, 2) := by decide +kernel
theorem dX6_mirrored_7 : decode cX6_mirrored 7 = .ok (.bipush 64, 2) := by decide +kernel
theorem dX6_mirrored_9 : decode cX6_mirrored 9 = .ok (.if_icmp .ge 20, 3) := by decide +kernel
theorem dX6_mirrored_12 : decode cX6_mirrored 12 = .ok (.lload_n 2, 1) := by decide +kernel
theorem dX6_mirrored_13 : decode cX6_mirrored 13 = .ok (.iconst 1, 1) := by decide +kernel
theorem dX6_mirrored_14 : decode cX6_mirrored 14 = .ok (.lshl, 1) := by decide +kernel
theorem dX6_mirrored_15 : decode cX6_mirrored 15 = .ok (.lload_n 0, 1) := by decide +kernel
theorem dX6_mirrored_16 : decode cX6_mirrored 16 = .ok (.iload 4, 2) := by decide +kernel
theorem dX6_mirrored_18 : decode cX6_mirrored 18 = .ok (.lushr, 1) := by decide +kernel
theorem dX6_mirrored_19 : decode cX6_mirrored 19 = .ok (.lconst 1, 1) := by decide +kernel
theorem dX6_mirrored_20 : decode cX6_mirrored 20 = .ok (.land, 1) := by decide +kernel
theorem dX6_mirrored_21 : decode cX6_mirrored 21 = .ok (.lor, 1) := by decide +kernel
theorem dX6_mirrored_22 : decode cX6_mirrored 22 = .ok (.lstore_n 2, 1) := by decide +kernel
theorem dX6_mirrored_23 : decode cX6_mirrored 23 = .ok (.iinc 4 1, 3) := by decide +kernel
theorem dX6_mirrored_26 : decode cX6_mirrored 26 = .ok (.goto (-21), 3) := by decide +kernel
theorem dX6_mirrored_29 : decode cX6_mirrored 29 = .ok (.lload_n 2, 1) := by decide +kernel
theorem dX6_mirrored_30 : decode cX6_mirrored 30 = .ok (.lreturn, 1) := by decide +kernel
theorem dX6_fieldsBehind_0 : decode cX6_fieldsBehind 0 = .ok (.iload_n 2, 1) := by decide +kernel
theorem dX6_fieldsBehind_1 : decode cX6_fieldsBehind 1 = .ok (.tableswitch 53 0 2 #[27, 35, 43], 27) := by decide +kernel
theorem dX6_fieldsBehind_28 : decode cX6_fieldsBehind 28 = .ok (.aload_n 0, 1) := by decide +kernel
theorem dX6_fieldsBehind_29 : decode cX6_fieldsBehind 29 = .ok (.iload_n 1, 1) := by decide +kernel
theorem dX6_fieldsBehind_30 : decode cX6_fieldsBehind 30 = .ok (.invokevirtual 119, 3) := by decide +kernel
theorem dX6_fieldsBehind_33 : decode cX6_fieldsBehind 33 = .ok (.iconst 1, 1) := by decide +kernel
theorem dX6_fieldsBehind_34 : decode cX6_fieldsBehind 34 = .ok (.lshl, 1) := by decide +kernel
theorem dX6_fieldsBehind_35 : decode cX6_fieldsBehind 35 = .ok (.lreturn, 1) := by decide +kernel
theorem dX6_fieldsBehind_36 : decode cX6_fieldsBehind 36 = .ok (.aload_n 0, 1) := by decide +kernel
theorem dX6_fieldsBehind_37 : decode cX6_fieldsBehind 37 = .ok (.iload_n 1, 1) := by decide +kernel
theorem dX6_fieldsBehind_38 : decode cX6_fieldsBehind 38 = .ok (.iconst 1, 1) := by decide +kernel
theorem dX6_fieldsBehind_39 : decode cX6_fieldsBehind 39 = .ok (.isub, 1) := by decide +kernel
theorem dX6_fieldsBehind_40 : decode cX6_fieldsBehind 40 = .ok (.invokevirtual 119, 3) := by decide +kernel
theorem dX6_fieldsBehind_43 : decode cX6_fieldsBehind 43 = .ok (.lreturn, 1) := by decide +kernel
theorem dX6_fieldsBehind_44 : decode cX6_fieldsBehind 44 = .ok (.aload_n 0, 1) := by decide +kernel
theorem dX6_fieldsBehind_45 : decode cX6_fieldsBehind 45 = .ok (.iload_n 1, 1) := by decide +kernel
theorem dX6_fieldsBehind_46 : decode cX6_fieldsBehind 46 = .ok (.iconst 1, 1) := by decide +kernel
theorem dX6_fieldsBehind_47 : decode cX6_fieldsBehind 47 = .ok (.iadd, 1) := by decide +kernel
theorem dX6_fieldsBehind_48 : decode cX6_fieldsBehind 48 = .ok (.invokevirtual 119, 3) := by decide +kernel
theorem dX6_fieldsBehind_51 : decode cX6_fieldsBehind 51 = .ok (.iconst 1, 1) := by decide +kernel
theorem dX6_fieldsBehind_52 : decode cX6_fieldsBehind 52 = .ok (.lshl, 1) := by decide +kernel
theorem dX6_fieldsBehind_53 : decode cX6_fieldsBehind 53 = .ok (.lreturn, 1) := by decide +kernel
theorem dX6_fieldsBehind_54 : decode cX6_fieldsBehind 54 = .ok (.aload_n 0, 1) := by decide +kernel
theorem dX6_fieldsBehind_55 : decode cX6_fieldsBehind 55 = .ok (.iload_n 1, 1) := by decide +kernel
theorem dX6_fieldsBehind_56 : decode cX6_fieldsBehind 56 = .ok (.iconst 1, 1) := by decide +kernel
theorem dX6_fieldsBehind_57 : decode cX6_fieldsBehind 57 = .ok (.isub, 1) := by decide +kernel
theorem dX6_fieldsBehind_58 : decode cX6_fieldsBehind 58 = .ok (.invokevirtual 119, 3) := by decide +kernel
theorem dX6_fieldsBehind_61 : decode cX6_fieldsBehind 61 = .ok (.iconst 1, 1) := by decide +kernel
theorem dX6_fieldsBehind_62 : decode cX6_fieldsBehind 62 = .ok (.lshl, 1) := by decide +kernel
theorem dX6_fieldsBehind_63 : decode cX6_fieldsBehind 63 = .ok (.lreturn, 1) := by decide +kernel
theorem dX6_fieldsOnLines_0 : decode cX6_fieldsOnLines 0 = .ok (.lconst 0, 1) := by decide +kernel
theorem dX6_fieldsOnLines_1 : decode cX6_fieldsOnLines 1 = .ok (.lstore 4, 2) := by decide +kernel
theorem dX6_fieldsOnLines_3 : decode cX6_fieldsOnLines 3 = .ok (.bipush (-32), 2) := by decide +kernel
theorem dX6_fieldsOnLines_5 : decode cX6_fieldsOnLines 5 = .ok (.istore 6, 2) := by decide +kernel
theorem dX6_fieldsOnLines_7 : decode cX6_fieldsOnLines 7 = .ok (.iload 6, 2) := by decide +kernel
theorem dX6_fieldsOnLines_9 : decode cX6_fieldsOnLines 9 = .ok (.bipush 31, 2) := by decide +kernel
theorem dX6_fieldsOnLines_11 : decode cX6_fieldsOnLines 11 = .ok (.if_icmp .gt 37, 3) := by decide +kernel
theorem dX6_fieldsOnLines_14 : decode cX6_fieldsOnLines 14 = .ok (.iload_n 2, 1) := by decide +kernel
theorem dX6_fieldsOnLines_15 : decode cX6_fieldsOnLines 15 = .ok (.ifCond .le 27, 3) := by decide +kernel
theorem dX6_fieldsOnLines_18 : decode cX6_fieldsOnLines 18 = .ok (.iload 6, 2) := by decide +kernel
theorem dX6_fieldsOnLines_20 : decode cX6_fieldsOnLines 20 = .ok (.iload_n 0, 1) := by decide +kernel
theorem dX6_fieldsOnLines_21 : decode cX6_fieldsOnLines 21 = .ok (.iload_n 1, 1) := by decide +kernel
theorem dX6_fieldsOnLines_22 : decode cX6_fieldsOnLines 22 = .ok (.invokestatic 323, 3) := by decide +kernel
theorem dX6_fieldsOnLines_25 : decode cX6_fieldsOnLines 25 = .ok (.iload_n 3, 1) := by decide +kernel
theorem dX6_fieldsOnLines_26 : decode cX6_fieldsOnLines 26 = .ok (.isub, 1) := by decide +kernel
theorem dX6_fieldsOnLines_27 : decode cX6_fieldsOnLines 27 = .ok (.iload_n 2, 1) := by decide +kernel
theorem dX6_fieldsOnLines_28 : decode cX6_fieldsOnLines 28 = .ok (.irem, 1) := by decide +kernel
theorem dX6_fieldsOnLines_29 : decode cX6_fieldsOnLines 29 = .ok (.ifCond .ne 13, 3) := by decide +kernel
theorem dX6_fieldsOnLines_32 : decode cX6_fieldsOnLines 32 = .ok (.lload 4, 2) := by decide +kernel
theorem dX6_fieldsOnLines_34 : decode cX6_fieldsOnLines 34 = .ok (.iload 6, 2) := by decide +kernel
theorem dX6_fieldsOnLines_36 : decode cX6_fieldsOnLines 36 = .ok (.invokestatic 327, 3) := by decide +kernel
theorem dX6_fieldsOnLines_39 : decode cX6_fieldsOnLines 39 = .ok (.lor, 1) := by decide +kernel
theorem dX6_fieldsOnLines_40 : decode cX6_fieldsOnLines 40 = .ok (.lstore 4, 2) := by decide +kernel
theorem dX6_fieldsOnLines_42 : decode cX6_fieldsOnLines 42 = .ok (.iinc 6 1, 3) := by decide +kernel
theorem dX6_fieldsOnLines_45 : decode cX6_fieldsOnLines 45 = .ok (.goto (-38), 3) := by decide +kernel
theorem dX6_fieldsOnLines_48 : decode cX6_fieldsOnLines 48 = .ok (.lload 4, 2) := by decide +kernel
theorem dX6_fieldsOnLines_50 : decode cX6_fieldsOnLines 50 = .ok (.lreturn, 1) := by decide +kernel
theorem dX6_numberOfLine_0 : decode cX6_numberOfLine 0 = .ok (.iload_n 2, 1) := by decide +kernel
theorem dX6_numberOfLine_1 : decode cX6_numberOfLine 1 = .ok (.tableswitch 35 0 2 #[27, 29, 31], 27) := by decide +kernel
theorem dX6_numberOfLine_28 : decode cX6_numberOfLine 28 = .ok (.iload_n 1, 1) := by decide +kernel
theorem dX6_numberOfLine_29 : decode cX6_numberOfLine 29 = .ok (.ireturn, 1) := by decide +kernel
theorem dX6_numberOfLine_30 : decode cX6_numberOfLine 30 = .ok (.iload_n 0, 1) := by decide +kernel
theorem dX6_numberOfLine_31 : decode cX6_numberOfLine 31 = .ok (.ireturn, 1) := by decide +kernel
theorem dX6_numberOfLine_32 : decode cX6_numberOfLine 32 = .ok (.iload_n 0, 1) := by decide +kernel
theorem dX6_numberOfLine_33 : decode cX6_numberOfLine 33 = .ok (.iload_n 1, 1) := by decide +kernel
theorem dX6_numberOfLine_34 : decode cX6_numberOfLine 34 = .ok (.iadd, 1) := by decide +kernel
theorem dX6_numberOfLine_35 : decode cX6_numberOfLine 35 = .ok (.ireturn, 1) := by decide +kernel
theorem dX6_numberOfLine_36 : decode cX6_numberOfLine 36 = .ok (.iload_n 0, 1) := by decide +kernel
theorem dX6_numberOfLine_37 : decode cX6_numberOfLine 37 = .ok (.iload_n 1, 1) := by decide +kernel
theorem dX6_numberOfLine_38 : decode cX6_numberOfLine 38 = .ok (.isub, 1) := by decide +kernel
theorem dX6_numberOfLine_39 : decode cX6_numberOfLine 39 = .ok (.ireturn, 1) := by decide +kernel
theorem dX6_mixed_0 : decode cX6_mixed 0 = .ok (.lload_n 0, 1) := by decide +kernel
theorem dX6_mixed_1 : decode cX6_mixed 1 = .ok (.ldc2_w 304, 3) := by decide +kernel
theorem dX6_mixed_4 : decode cX6_mixed 4 = .ok (.lmul, 1) := by decide +kernel
theorem dX6_mixed_5 : decode cX6_mixed 5 = .ok (.lload_n 2, 1) := by decide +kernel
theorem dX6_mixed_6 : decode cX6_mixed 6 = .ok (.ladd, 1) := by decide +kernel
theorem dX6_mixed_7 : decode cX6_mixed 7 = .ok (.lreturn, 1) := by decide +kernel
theorem dX6_digestOfContours_0 : decode cX6_digestOfContours 0 = .ok (.lload_n 1, 1) := by decide +kernel
theorem dX6_digestOfContours_1 : decode cX6_digestOfContours 1 = .ok (.lstore 4, 2) := by decide +kernel
theorem dX6_digestOfContours_3 : decode cX6_digestOfContours 3 = .ok (.aload_n 0, 1) := by decide +kernel
theorem dX6_digestOfContours_4 : decode cX6_digestOfContours 4 = .ok (.getfield 44, 3) := by decide +kernel
theorem dX6_digestOfContours_7 : decode cX6_digestOfContours 7 = .ok (.aload_n 3, 1) := by decide +kernel
theorem dX6_digestOfContours_8 : decode cX6_digestOfContours 8 = .ok (.invokevirtual 330, 3) := by decide +kernel
theorem dX6_digestOfContours_11 : decode cX6_digestOfContours 11 = .ok (.iconst 0, 1) := by decide +kernel
theorem dX6_digestOfContours_12 : decode cX6_digestOfContours 12 = .ok (.istore 6, 2) := by decide +kernel
theorem dX6_digestOfContours_14 : decode cX6_digestOfContours 14 = .ok (.iload 6, 2) := by decide +kernel
theorem dX6_digestOfContours_16 : decode cX6_digestOfContours 16 = .ok (.sipush 16384, 3) := by decide +kernel
theorem dX6_digestOfContours_19 : decode cX6_digestOfContours 19 = .ok (.if_icmp .ge 80, 3) := by decide +kernel
theorem dX6_digestOfContours_22 : decode cX6_digestOfContours 22 = .ok (.aload_n 0, 1) := by decide +kernel
theorem dX6_digestOfContours_23 : decode cX6_digestOfContours 23 = .ok (.getfield 44, 3) := by decide +kernel
theorem dX6_digestOfContours_26 : decode cX6_digestOfContours 26 = .ok (.iconst 0, 1) := by decide +kernel
theorem dX6_digestOfContours_27 : decode cX6_digestOfContours 27 = .ok (.invokevirtual 332, 3) := by decide +kernel
theorem dX6_digestOfContours_30 : decode cX6_digestOfContours 30 = .ok (.ifCond .eq 69, 3) := by decide +kernel
theorem dX6_digestOfContours_33 : decode cX6_digestOfContours 33 = .ok (.lload 4, 2) := by decide +kernel
theorem dX6_digestOfContours_35 : decode cX6_digestOfContours 35 = .ok (.aload_n 0, 1) := by decide +kernel
theorem dX6_digestOfContours_36 : decode cX6_digestOfContours 36 = .ok (.getfield 44, 3) := by decide +kernel
theorem dX6_digestOfContours_39 : decode cX6_digestOfContours 39 = .ok (.invokevirtual 219, 3) := by decide +kernel
theorem dX6_digestOfContours_42 : decode cX6_digestOfContours 42 = .ok (.i2l, 1) := by decide +kernel
theorem dX6_digestOfContours_43 : decode cX6_digestOfContours 43 = .ok (.invokestatic 278, 3) := by decide +kernel
theorem dX6_digestOfContours_46 : decode cX6_digestOfContours 46 = .ok (.lstore 4, 2) := by decide +kernel
theorem dX6_digestOfContours_48 : decode cX6_digestOfContours 48 = .ok (.lload 4, 2) := by decide +kernel
theorem dX6_digestOfContours_50 : decode cX6_digestOfContours 50 = .ok (.aload_n 0, 1) := by decide +kernel
theorem dX6_digestOfContours_51 : decode cX6_digestOfContours 51 = .ok (.getfield 44, 3) := by decide +kernel
theorem dX6_digestOfContours_54 : decode cX6_digestOfContours 54 = .ok (.invokevirtual 228, 3) := by decide +kernel
theorem dX6_digestOfContours_57 : decode cX6_digestOfContours 57 = .ok (.i2l, 1) := by decide +kernel
theorem dX6_digestOfContours_58 : decode cX6_digestOfContours 58 = .ok (.invokestatic 278, 3) := by decide +kernel
theorem dX6_digestOfContours_61 : decode cX6_digestOfContours 61 = .ok (.lstore 4, 2) := by decide +kernel
theorem dX6_digestOfContours_63 : decode cX6_digestOfContours 63 = .ok (.lload 4, 2) := by decide +kernel
theorem dX6_digestOfContours_65 : decode cX6_digestOfContours 65 = .ok (.aload_n 0, 1) := by decide +kernel
theorem dX6_digestOfContours_66 : decode cX6_digestOfContours 66 = .ok (.getfield 44, 3) := by decide +kernel
theorem dX6_digestOfContours_69 : decode cX6_digestOfContours 69 = .ok (.invokevirtual 222, 3) := by decide +kernel
theorem dX6_digestOfContours_72 : decode cX6_digestOfContours 72 = .ok (.i2l, 1) := by decide +kernel
theorem dX6_digestOfContours_73 : decode cX6_digestOfContours 73 = .ok (.invokestatic 278, 3) := by decide +kernel
theorem dX6_digestOfContours_76 : decode cX6_digestOfContours 76 = .ok (.lstore 4, 2) := by decide +kernel
theorem dX6_digestOfContours_78 : decode cX6_digestOfContours 78 = .ok (.lload 4, 2) := by decide +kernel
theorem dX6_digestOfContours_80 : decode cX6_digestOfContours 80 = .ok (.aload_n 0, 1) := by decide +kernel
theorem dX6_digestOfContours_81 : decode cX6_digestOfContours 81 = .ok (.getfield 44, 3) := by decide +kernel
theorem dX6_digestOfContours_84 : decode cX6_digestOfContours 84 = .ok (.invokevirtual 225, 3) := by decide +kernel
theorem dX6_digestOfContours_87 : decode cX6_digestOfContours 87 = .ok (.i2l, 1) := by decide +kernel
theorem dX6_digestOfContours_88 : decode cX6_digestOfContours 88 = .ok (.invokestatic 278, 3) := by decide +kernel
theorem dX6_digestOfContours_91 : decode cX6_digestOfContours 91 = .ok (.lstore 4, 2) := by decide +kernel
theorem dX6_digestOfContours_93 : decode cX6_digestOfContours 93 = .ok (.iinc 6 1, 3) := by decide +kernel
theorem dX6_digestOfContours_96 : decode cX6_digestOfContours 96 = .ok (.goto (-82), 3) := by decide +kernel
theorem dX6_digestOfContours_99 : decode cX6_digestOfContours 99 = .ok (.lload 4, 2) := by decide +kernel
theorem dX6_digestOfContours_101 : decode cX6_digestOfContours 101 = .ok (.lreturn, 1) := by decide +kernel
theorem dX6_digestOfStrips_0 : decode cX6_digestOfStrips 0 = .ok (.lload_n 1, 1) := by decide +kernel
theorem dX6_digestOfStrips_1 : decode cX6_digestOfStrips 1 = .ok (.lstore 4, 2) := by decide +kernel
theorem dX6_digestOfStrips_3 : decode cX6_digestOfStrips 3 = .ok (.aload_n 0, 1) := by decide +kernel
theorem dX6_digestOfStrips_4 : decode cX6_digestOfStrips 4 = .ok (.getfield 51, 3) := by decide +kernel
theorem dX6_digestOfStrips_7 : decode cX6_digestOfStrips 7 = .ok (.aload_n 3, 1) := by decide +kernel
theorem dX6_digestOfStrips_8 : decode cX6_digestOfStrips 8 = .ok (.invokevirtual 336, 3) := by decide +kernel
theorem dX6_digestOfStrips_11 : decode cX6_digestOfStrips 11 = .ok (.iconst 0, 1) := by decide +kernel
theorem dX6_digestOfStrips_12 : decode cX6_digestOfStrips 12 = .ok (.istore 6, 2) := by decide +kernel
theorem dX6_digestOfStrips_14 : decode cX6_digestOfStrips 14 = .ok (.iload 6, 2) := by decide +kernel
theorem dX6_digestOfStrips_16 : decode cX6_digestOfStrips 16 = .ok (.sipush 16384, 3) := by decide +kernel
theorem dX6_digestOfStrips_19 : decode cX6_digestOfStrips 19 = .ok (.if_icmp .ge 51, 3) := by decide +kernel
theorem dX6_digestOfStrips_22 : decode cX6_digestOfStrips 22 = .ok (.aload_n 0, 1) := by decide +kernel
theorem dX6_digestOfStrips_23 : decode cX6_digestOfStrips 23 = .ok (.getfield 51, 3) := by decide +kernel
theorem dX6_digestOfStrips_26 : decode cX6_digestOfStrips 26 = .ok (.invokevirtual 337, 3) := by decide +kernel
theorem dX6_digestOfStrips_29 : decode cX6_digestOfStrips 29 = .ok (.ifCond .eq 41, 3) := by decide +kernel
theorem dX6_digestOfStrips_32 : decode cX6_digestOfStrips 32 = .ok (.iconst 0, 1) := by decide +kernel
theorem dX6_digestOfStrips_33 : decode cX6_digestOfStrips 33 = .ok (.istore 7, 2) := by decide +kernel
theorem dX6_digestOfStrips_35 : decode cX6_digestOfStrips 35 = .ok (.iload 7, 2) := by decide +kernel
theorem dX6_digestOfStrips_37 : decode cX6_digestOfStrips 37 = .ok (.iconst 4, 1) := by decide +kernel
theorem dX6_digestOfStrips_38 : decode cX6_digestOfStrips 38 = .ok (.if_icmp .ge 26, 3) := by decide +kernel
theorem dX6_digestOfStrips_41 : decode cX6_digestOfStrips 41 = .ok (.lload 4, 2) := by decide +kernel
theorem dX6_digestOfStrips_43 : decode cX6_digestOfStrips 43 = .ok (.aload_n 0, 1) := by decide +kernel
theorem dX6_digestOfStrips_44 : decode cX6_digestOfStrips 44 = .ok (.getfield 51, 3) := by decide +kernel
theorem dX6_digestOfStrips_47 : decode cX6_digestOfStrips 47 = .ok (.iload 7, 2) := by decide +kernel
theorem dX6_digestOfStrips_49 : decode cX6_digestOfStrips 49 = .ok (.invokevirtual 245, 3) := by decide +kernel
theorem dX6_digestOfStrips_52 : decode cX6_digestOfStrips 52 = .ok (.i2l, 1) := by decide +kernel
theorem dX6_digestOfStrips_53 : decode cX6_digestOfStrips 53 = .ok (.invokestatic 278, 3) := by decide +kernel
theorem dX6_digestOfStrips_56 : decode cX6_digestOfStrips 56 = .ok (.lstore 4, 2) := by decide +kernel
theorem dX6_digestOfStrips_58 : decode cX6_digestOfStrips 58 = .ok (.iinc 7 1, 3) := by decide +kernel
theorem dX6_digestOfStrips_61 : decode cX6_digestOfStrips 61 = .ok (.goto (-26), 3) := by decide +kernel
theorem dX6_digestOfStrips_64 : decode cX6_digestOfStrips 64 = .ok (.iinc 6 1, 3) := by decide +kernel
theorem dX6_digestOfStrips_67 : decode cX6_digestOfStrips 67 = .ok (.goto (-53), 3) := by decide +kernel
theorem dX6_digestOfStrips_70 : decode cX6_digestOfStrips 70 = .ok (.lload 4, 2) := by decide +kernel
theorem dX6_digestOfStrips_72 : decode cX6_digestOfStrips 72 = .ok (.lreturn, 1) := by decide +kernel
theorem dX6_bit_0 : decode cX6_bit 0 = .ok (.lconst 1, 1) := by decide +kernel
theorem dX6_bit_1 : decode cX6_bit 1 = .ok (.iload_n 0, 1) := by decide +kernel
theorem dX6_bit_2 : decode cX6_bit 2 = .ok (.bipush (-32), 2) := by decide +kernel
theorem dX6_bit_4 : decode cX6_bit 4 = .ok (.isub, 1) := by decide +kernel
theorem dX6_bit_5 : decode cX6_bit 5 = .ok (.lshl, 1) := by decide +kernel
theorem dX6_bit_6 : decode cX6_bit 6 = .ok (.lreturn, 1) := by decide +kernel
theorem dX6_lowestBit_0 : decode cX6_lowestBit 0 = .ok (.lload_n 0, 1) := by decide +kernel
theorem dX6_lowestBit_1 : decode cX6_lowestBit 1 = .ok (.lload_n 0, 1) := by decide +kernel
theorem dX6_lowestBit_2 : decode cX6_lowestBit 2 = .ok (.lneg, 1) := by decide +kernel
theorem dX6_lowestBit_3 : decode cX6_lowestBit 3 = .ok (.land, 1) := by decide +kernel
theorem dX6_lowestBit_4 : decode cX6_lowestBit 4 = .ok (.lconst 1, 1) := by decide +kernel
theorem dX6_lowestBit_5 : decode cX6_lowestBit 5 = .ok (.lsub, 1) := by decide +kernel
theorem dX6_lowestBit_6 : decode cX6_lowestBit 6 = .ok (.invokestatic 260, 3) := by decide +kernel
theorem dX6_lowestBit_9 : decode cX6_lowestBit 9 = .ok (.ireturn, 1) := by decide +kernel
theorem dX7_init_0 : decode cX7_init 0 = .ok (.aload_n 0, 1) := by decide +kernel
theorem dX7_init_1 : decode cX7_init 1 = .ok (.invokespecial 3, 3) := by decide +kernel
theorem dX7_init_4 : decode cX7_init 4 = .ok (.aload_n 0, 1) := by decide +kernel
theorem dX7_init_5 : decode cX7_init 5 = .ok (.bipush 8, 2) := by decide +kernel
theorem dX7_init_7 : decode cX7_init 7 = .ok (.sipush 4096, 3) := by decide +kernel
theorem dX7_init_10 : decode cX7_init 10 = .ok (.multianewarray 9 2, 4) := by decide +kernel
theorem dX7_init_14 : decode cX7_init 14 = .ok (.putfield 11, 3) := by decide +kernel
theorem dX7_init_17 : decode cX7_init 17 = .ok (.aload_n 0, 1) := by decide +kernel
theorem dX7_init_18 : decode cX7_init 18 = .ok (.bipush 61, 2) := by decide +kernel
theorem dX7_init_20 : decode cX7_init 20 = .ok (.newarray .int, 2) := by decide +kernel
theorem dX7_init_22 : decode cX7_init 22 = .ok (.putfield 14, 3) := by decide +kernel
theorem dX7_init_25 : decode cX7_init 25 = .ok (.aload_n 0, 1) := by decide +kernel
theorem dX7_init_26 : decode cX7_init 26 = .ok (.bipush 61, 2) := by decide +kernel
theorem dX7_init_28 : decode cX7_init 28 = .ok (.newarray .int, 2) := by decide +kernel
theorem dX7_init_30 : decode cX7_init 30 = .ok (.putfield 18, 3) := by decide +kernel
theorem dX7_init_33 : decode cX7_init 33 = .ok (.aload_n 0, 1) := by decide +kernel
theorem dX7_init_34 : decode cX7_init 34 = .ok (.iconst 1, 1) := by decide +kernel
theorem dX7_init_35 : decode cX7_init 35 = .ok (.putfield 21, 3) := by decide +kernel
theorem dX7_init_38 : decode cX7_init 38 = .ok (.aload_n 0, 1) := by decide +kernel
theorem dX7_init_39 : decode cX7_init 39 = .ok (.bipush 13, 2) := by decide +kernel
theorem dX7_init_41 : decode cX7_init 41 = .ok (.newarray .int, 2) := by decide +kernel
theorem dX7_init_43 : decode cX7_init 43 = .ok (.putfield 25, 3) := by decide +kernel
theorem dX7_init_46 : decode cX7_init 46 = .ok (.aload_n 0, 1) := by decide +kernel
theorem dX7_init_47 : decode cX7_init 47 = .ok (.bipush 13, 2) := by decide +kernel
theorem dX7_init_49 : decode cX7_init 49 = .ok (.anewarray 28, 3) := by decide +kernel
theorem dX7_init_52 : decode cX7_init 52 = .ok (.putfield 30, 3) := by decide +kernel
theorem dX7_init_55 : decode cX7_init 55 = .ok (.return_, 1) := by decide +kernel
theorem dX7_thrown_0 : decode cX7_thrown 0 = .ok (.aload_n 0, 1) := by decide +kernel
theorem dX7_thrown_1 : decode cX7_thrown 1 = .ok (.getfield 33, 3) := by decide +kernel
theorem dX7_thrown_4 : decode cX7_thrown 4 = .ok (.ireturn, 1) := by decide +kernel
theorem dX7_no_0 : decode cX7_no 0 = .ok (.aload_n 0, 1) := by decide +kernel
theorem dX7_no_1 : decode cX7_no 1 = .ok (.iload_n 1, 1) := by decide +kernel
theorem dX7_no_2 : decode cX7_no 2 = .ok (.putfield 33, 3) := by decide +kernel
theorem dX7_no_5 : decode cX7_no 5 = .ok (.iconst 0, 1) := by decide +kernel
theorem dX7_no_6 : decode cX7_no 6 = .ok (.ireturn, 1) := by decide +kernel
theorem dX7_isIn_0 : decode cX7_isIn 0 = .ok (.iload_n 0, 1) := by decide +kernel
theorem dX7_isIn_1 : decode cX7_isIn 1 = .ok (.iload_n 1, 1) := by decide +kernel
theorem dX7_isIn_2 : decode cX7_isIn 2 = .ok (.if_icmp .lt 12, 3) := by decide +kernel
theorem dX7_isIn_5 : decode cX7_isIn 5 = .ok (.iload_n 0, 1) := by decide +kernel
theorem dX7_isIn_6 : decode cX7_isIn 6 = .ok (.iload_n 2, 1) := by decide +kernel
theorem dX7_isIn_7 : decode cX7_isIn 7 = .ok (.if_icmp .gt 7, 3) := by decide +kernel
theorem dX7_isIn_10 : decode cX7_isIn 10 = .ok (.iconst 1, 1) := by decide +kernel
theorem dX7_isIn_11 : decode cX7_isIn 11 = .ok (.goto 4, 3) := by decide +kernel
theorem dX7_isIn_14 : decode cX7_isIn 14 = .ok (.iconst 0, 1) := by decide +kernel
theorem dX7_isIn_15 : decode cX7_isIn 15 = .ok (.ireturn, 1) := by decide +kernel
theorem dX7_isRegion_0 : decode cX7_isRegion 0 = .ok (.iload_n 0, 1) := by decide +kernel
theorem dX7_isRegion_1 : decode cX7_isRegion 1 = .ok (.iconst 0, 1) := by decide +kernel
theorem dX7_isRegion_2 : decode cX7_isRegion 2 = .ok (.bipush 7, 2) := by decide +kernel
theorem dX7_isRegion_4 : decode cX7_isRegion 4 = .ok (.invokestatic 36, 3) := by decide +kernel
theorem dX7_isRegion_7 : decode cX7_isRegion 7 = .ok (.ireturn, 1) := by decide +kernel
theorem dX7_isField_0 : decode cX7_isField 0 = .ok (.iload_n 0, 1) := by decide +kernel
theorem dX7_isField_1 : decode cX7_isField 1 = .ok (.bipush (-32), 2) := by decide +kernel
theorem dX7_isField_3 : decode cX7_isField 3 = .ok (.bipush 31, 2) := by decide +kernel
theorem dX7_isField_5 : decode cX7_isField 5 = .ok (.invokestatic 36, 3) := by decide +kernel
theorem dX7_isField_8 : decode cX7_isField 8 = .ok (.ifCond .eq 18, 3) := by decide +kernel
theorem dX7_isField_11 : decode cX7_isField 11 = .ok (.iload_n 1, 1) := by decide +kernel
theorem dX7_isField_12 : decode cX7_isField 12 = .ok (.bipush (-32), 2) := by decide +kernel
theorem dX7_isField_14 : decode cX7_isField 14 = .ok (.bipush 31, 2) := by decide +kernel
theorem dX7_isField_16 : decode cX7_isField 16 = .ok (.invokestatic 36, 3) := by decide +kernel
theorem dX7_isField_19 : decode cX7_isField 19 = .ok (.ifCond .eq 7, 3) := by decide +kernel
theorem dX7_isField_22 : decode cX7_isField 22 = .ok (.iconst 1, 1) := by decide +kernel
theorem dX7_isField_23 : decode cX7_isField 23 = .ok (.goto 4, 3) := by decide +kernel
theorem dX7_isField_26 : decode cX7_isField 26 = .ok (.iconst 0, 1) := by decide +kernel
theorem dX7_isField_27 : decode cX7_isField 27 = .ok (.ireturn, 1) := by decide +kernel
theorem dX7_at_0 : decode cX7_at 0 = .ok (.iload_n 1, 1) := by decide +kernel
theorem dX7_at_1 : decode cX7_at 1 = .ok (.bipush (-32), 2) := by decide +kernel
theorem dX7_at_3 : decode cX7_at 3 = .ok (.isub, 1) := by decide +kernel
theorem dX7_at_4 : decode cX7_at 4 = .ok (.bipush 64, 2) := by decide +kernel
theorem dX7_at_6 : decode cX7_at 6 = .ok (.imul, 1) := by decide +kernel
theorem dX7_at_7 : decode cX7_at 7 = .ok (.iload_n 0, 1) := by decide +kernel
theorem dX7_at_8 : decode cX7_at 8 = .ok (.iadd, 1) := by decide +kernel
theorem dX7_at_9 : decode cX7_at 9 = .ok (.bipush (-32), 2) := by decide +kernel
theorem dX7_at_11 : decode cX7_at 11 = .ok (.isub, 1) := by decide +kernel
theorem dX7_at_12 : decode cX7_at 12 = .ok (.ireturn, 1) := by decide +kernel
theorem dX7_has_0 : decode cX7_has 0 = .ok (.iload_n 1, 1) := by decide +kernel
theorem dX7_has_1 : decode cX7_has 1 = .ok (.iload_n 2, 1) := by decide +kernel
theorem dX7_has_2 : decode cX7_has 2 = .ok (.invokestatic 40, 3) := by decide +kernel
theorem dX7_has_5 : decode cX7_has 5 = .ok (.ifCond .eq 17, 3) := by decide +kernel
theorem dX7_has_8 : decode cX7_has 8 = .ok (.aload_n 0, 1) := by decide +kernel
theorem dX7_has_9 : decode cX7_has 9 = .ok (.iload_n 1, 1) := by decide +kernel
theorem dX7_has_10 : decode cX7_has 10 = .ok (.iload_n 2, 1) := by decide +kernel
theorem dX7_has_11 : decode cX7_has 11 = .ok (.invokestatic 44, 3) := by decide +kernel
theorem dX7_has_14 : decode cX7_has 14 = .ok (.baload, 1) := by decide +kernel
theorem dX7_has_15 : decode cX7_has 15 = .ok (.ifCond .eq 7, 3) := by decide +kernel
theorem dX7_has_18 : decode cX7_has 18 = .ok (.iconst 1, 1) := by decide +kernel
theorem dX7_has_19 : decode cX7_has 19 = .ok (.goto 4, 3) := by decide +kernel
theorem dX7_has_22 : decode cX7_has 22 = .ok (.iconst 0, 1) := by decide +kernel
theorem dX7_has_23 : decode cX7_has 23 = .ok (.ireturn, 1) := by decide +kernel
theorem dX7_areaOf_0 : decode cX7_areaOf 0 = .ok (.iconst 0, 1) := by decide +kernel
theorem dX7_areaOf_1 : decode cX7_areaOf 1 = .ok (.istore_n 1, 1) := by decide +kernel
theorem dX7_areaOf_2 : decode cX7_areaOf 2 = .ok (.aload_n 0, 1) := by decide +kernel
theorem dX7_areaOf_3 : decode cX7_areaOf 3 = .ok (.astore_n 2, 1) := by decide +kernel
theorem dX7_areaOf_4 : decode cX7_areaOf 4 = .ok (.aload_n 2, 1) := by decide +kernel
theorem dX7_areaOf_5 : decode cX7_areaOf 5 = .ok (.arraylength, 1) := by decide +kernel
theorem dX7_areaOf_6 : decode cX7_areaOf 6 = .ok (.istore_n 3, 1) := by decide +kernel
theorem dX7_areaOf_7 : decode cX7_areaOf 7 = .ok (.iconst 0, 1) := by decide +kernel
theorem dX7_areaOf_8 : decode cX7_areaOf 8 = .ok (.istore 4, 2) := by decide +kernel
theorem dX7_areaOf_10 : decode cX7_areaOf 10 = .ok (.iload 4, 2) := by decide +kernel
theorem dX7_areaOf_12 : decode cX7_areaOf 12 = .ok (.iload_n 3, 1) := by decide +kernel
theorem dX7_areaOf_13 : decode cX7_areaOf 13 = .ok (.if_icmp .ge 28, 3) := by decide +kernel
theorem dX7_areaOf_16 : decode cX7_areaOf 16 = .ok (.aload_n 2, 1) := by decide +kernel
theorem dX7_areaOf_17 : decode cX7_areaOf 17 = .ok (.iload 4, 2) := by decide +kernel
theorem dX7_areaOf_19 : decode cX7_areaOf 19 = .ok (.baload, 1) := by decide +kernel
theorem dX7_areaOf_20 : decode cX7_areaOf 20 = .ok (.istore 5, 2) := by decide +kernel
theorem dX7_areaOf_22 : decode cX7_areaOf 22 = .ok (.iload_n 1, 1) := by decide +kernel
theorem dX7_areaOf_23 : decode cX7_areaOf 23 = .ok (.iload 5, 2) := by decide +kernel
theorem dX7_areaOf_25 : decode cX7_areaOf 25 = .ok (.ifCond .eq 7, 3) := by decide +kernel
theorem dX7_areaOf_28 : decode cX7_areaOf 28 = .ok (.iconst 1, 1) := by decide +kernel
theorem dX7_areaOf_29 : decode cX7_areaOf 29 = .ok (.goto 4, 3) := by decide +kernel
theorem dX7_areaOf_32 : decode cX7_areaOf 32 = .ok (.iconst 0, 1) := by decide +kernel
theorem dX7_areaOf_33 : decode cX7_areaOf 33 = .ok (.iadd, 1) := by decide +kernel
theorem dX7_areaOf_34 : decode cX7_areaOf 34 = .ok (.istore_n 1, 1) := by decide +kernel
theorem dX7_areaOf_35 : decode cX7_areaOf 35 = .ok (.iinc 4 1, 3) := by decide +kernel
theorem dX7_areaOf_38 : decode cX7_areaOf 38 = .ok (.goto (-28), 3) := by decide +kernel
theorem dX7_areaOf_41 : decode cX7_areaOf 41 = .ok (.iload_n 1, 1) := by decide +kernel
theorem dX7_areaOf_42 : decode cX7_areaOf 42 = .ok (.ireturn, 1) := by decide +kernel
theorem dX7_change_0 : decode cX7_change 0 = .ok (.sipush 4096, 3) := by decide +kernel
theorem dX7_change_3 : decode cX7_change 3 = .ok (.newarray .boolean, 2) := by decide +kernel
theorem dX7_change_5 : decode cX7_change 5 = .ok (.astore_n 3, 1) := by decide +kernel
theorem dX7_change_6 : decode cX7_change 6 = .ok (.aload_n 0, 1) := by decide +kernel
theorem dX7_change_7 : decode cX7_change 7 = .ok (.getfield 11, 3) := by decide +kernel
theorem dX7_change_10 : decode cX7_change 10 = .ok (.iload_n 1, 1) := by decide +kernel
theorem dX7_change_11 : decode cX7_change 11 = .ok (.aaload, 1) := by decide +kernel
theorem dX7_change_12 : decode cX7_change 12 = .ok (.iconst 0, 1) := by decide +kernel
theorem dX7_change_13 : decode cX7_change 13 = .ok (.aload_n 3, 1) := by decide +kernel
theorem dX7_change_14 : decode cX7_change 14 = .ok (.iconst 0, 1) := by decide +kernel
theorem dX7_change_15 : decode cX7_change 15 = .ok (.sipush 4096, 3) := by decide +kernel
theorem dX7_change_18 : decode cX7_change 18 = .ok (.invokestatic 48, 3) := by decide +kernel
theorem dX7_change_21 : decode cX7_change 21 = .ok (.aload_n 0, 1) := by decide +kernel
theorem dX7_change_22 : decode cX7_change 22 = .ok (.getfield 25, 3) := by decide +kernel
theorem dX7_change_25 : decode cX7_change 25 = .ok (.aload_n 0, 1) := by decide +kernel
theorem dX7_change_26 : decode cX7_change 26 = .ok (.getfield 54, 3) := by decide +kernel
theorem dX7_change_29 : decode cX7_change 29 = .ok (.iload_n 1, 1) := by decide +kernel
theorem dX7_change_30 : decode cX7_change 30 = .ok (.iastore, 1) := by decide +kernel
theorem dX7_change_31 : decode cX7_change 31 = .ok (.aload_n 0, 1) := by decide +kernel
theorem dX7_change_32 : decode cX7_change 32 = .ok (.getfield 30, 3) := by decide +kernel
theorem dX7_change_35 : decode cX7_change 35 = .ok (.aload_n 0, 1) := by decide +kernel
theorem dX7_change_36 : decode cX7_change 36 = .ok (.dup, 1) := by decide +kernel
theorem dX7_change_37 : decode cX7_change 37 = .ok (.getfield 54, 3) := by decide +kernel
theorem dX7_change_40 : decode cX7_change 40 = .ok (.dup_x1, 1) := by decide +kernel
theorem dX7_change_41 : decode cX7_change 41 = .ok (.iconst 1, 1) := by decide +kernel
theorem dX7_change_42 : decode cX7_change 42 = .ok (.iadd, 1) := by decide +kernel
theorem dX7_change_43 : decode cX7_change 43 = .ok (.putfield 54, 3) := by decide +kernel
theorem dX7_change_46 : decode cX7_change 46 = .ok (.aload_n 3, 1) := by decide +kernel
theorem dX7_change_47 : decode cX7_change 47 = .ok (.aastore, 1) := by decide +kernel
theorem dX7_change_48 : decode cX7_change 48 = .ok (.aload_n 0, 1) := by decide +kernel
theorem dX7_change_49 : decode cX7_change 49 = .ok (.getfield 54, 3) := by decide +kernel
theorem dX7_change_52 : decode cX7_change 52 = .ok (.bipush 12, 2) := by decide +kernel
theorem dX7_change_54 : decode cX7_change 54 = .ok (.if_icmp .le 57, 3) := by decide +kernel
theorem dX7_change_57 : decode cX7_change 57 = .ok (.aload_n 0, 1) := by decide +kernel
theorem dX7_change_58 : decode cX7_change 58 = .ok (.bipush 12, 2) := by decide +kernel
theorem dX7_change_60 : decode cX7_change 60 = .ok (.putfield 54, 3) := by decide +kernel
theorem dX7_change_63 : decode cX7_change 63 = .ok (.iconst 0, 1) := by decide +kernel
theorem dX7_change_64 : decode cX7_change 64 = .ok (.istore 4, 2) := by decide +kernel
theorem dX7_change_66 : decode cX7_change 66 = .ok (.iload 4, 2) := by decide +kernel
theorem dX7_change_68 : decode cX7_change 68 = .ok (.bipush 12, 2) := by decide +kernel
theorem dX7_change_70 : decode cX7_change 70 = .ok (.if_icmp .ge 41, 3) := by decide +kernel
theorem dX7_change_73 : decode cX7_change 73 = .ok (.aload_n 0, 1) := by decide +kernel
theorem dX7_change_74 : decode cX7_change 74 = .ok (.getfield 25, 3) := by decide +kernel
theorem dX7_change_77 : decode cX7_change 77 = .ok (.iload 4, 2) := by decide +kernel
theorem dX7_change_79 : decode cX7_change 79 = .ok (.aload_n 0, 1) := by decide +kernel
theorem dX7_change_80 : decode cX7_change 80 = .ok (.getfield 25, 3) := by decide +kernel
theorem dX7_change_83 : decode cX7_change 83 = .ok (.iload 4, 2) := by decide +kernel
theorem dX7_change_85 : decode cX7_change 85 = .ok (.iconst 1, 1) := by decide +kernel
theorem dX7_change_86 : decode cX7_change 86 = .ok (.iadd, 1) := by decide +kernel
theorem dX7_change_87 : decode cX7_change 87 = .ok (.iaload, 1) := by decide +kernel
theorem dX7_change_88 : decode cX7_change 88 = .ok (.iastore, 1) := by decide +kernel
theorem dX7_change_89 : decode cX7_change 89 = .ok (.aload_n 0, 1) := by decide +kernel
theorem dX7_change_90 : decode cX7_change 90 = .ok (.getfield 30, 3) := by decide +kernel
theorem dX7_change_93 : decode cX7_change 93 = .ok (.iload 4, 2) := by decide +kernel
theorem dX7_change_95 : decode cX7_change 95 = .ok (.aload_n 0, 1) := by decide +kernel
theorem dX7_change_96 : decode cX7_change 96 = .ok (.getfield 30, 3) := by decide +kernel
theorem dX7_change_99 : decode cX7_change 99 = .ok (.iload 4, 2) := by decide +kernel
theorem dX7_change_101 : decode cX7_change 101 = .ok (.iconst 1, 1) := by decide +kernel
theorem dX7_change_102 : decode cX7_change 102 = .ok (.iadd, 1) := by decide +kernel
theorem dX7_change_103 : decode cX7_change 103 = .ok (.aaload, 1) := by decide +kernel
theorem dX7_change_104 : decode cX7_change 104 = .ok (.aastore, 1) := by decide +kernel
theorem dX7_change_105 : decode cX7_change 105 = .ok (.iinc 4 1, 3) := by decide +kernel
theorem dX7_change_108 : decode cX7_change 108 = .ok (.goto (-42), 3) := by decide +kernel
theorem dX7_change_111 : decode cX7_change 111 = .ok (.aload_n 2, 1) := by decide +kernel
theorem dX7_change_112 : decode cX7_change 112 = .ok (.iconst 0, 1) := by decide +kernel
theorem dX7_change_113 : decode cX7_change 113 = .ok (.aload_n 0, 1) := by decide +kernel
theorem dX7_change_114 : decode cX7_change 114 = .ok (.getfield 11, 3) := by decide +kernel
theorem dX7_change_117 : decode cX7_change 117 = .ok (.iload_n 1, 1) := by decide +kernel
theorem dX7_change_118 : decode cX7_change 118 = .ok (.aaload, 1) := by decide +kernel
theorem dX7_change_119 : decode cX7_change 119 = .ok (.iconst 0, 1) := by decide +kernel
theorem dX7_change_120 : decode cX7_change 120 = .ok (.sipush 4096, 3) := by decide +kernel
theorem dX7_change_123 : decode cX7_change 123 = .ok (.invokestatic 48, 3) := by decide +kernel
theorem dX7_change_126 : decode cX7_change 126 = .ok (.aload_n 2, 1) := by decide +kernel
theorem dX7_change_127 : decode cX7_change 127 = .ok (.invokestatic 57, 3) := by decide +kernel
theorem dX7_change_130 : decode cX7_change 130 = .ok (.ireturn, 1) := by decide +kernel
theorem dX7_moveTo_0 : decode cX7_moveTo 0 = .ok (.aload_n 0, 1) := by decide +kernel
theorem dX7_moveTo_1 : decode cX7_moveTo 1 = .ok (.iconst 0, 1) := by decide +kernel
theorem dX7_moveTo_2 : decode cX7_moveTo 2 = .ok (.putfield 33, 3) := by decide +kernel
theorem dX7_moveTo_5 : decode cX7_moveTo 5 = .ok (.iload_n 1, 1) := by decide +kernel
theorem dX7_moveTo_6 : decode cX7_moveTo 6 = .ok (.bipush (-24), 2) := by decide +kernel
theorem dX7_moveTo_8 : decode cX7_moveTo 8 = .ok (.bipush 24, 2) := by decide +kernel
theorem dX7_moveTo_10 : decode cX7_moveTo 10 = .ok (.invokestatic 36, 3) := by decide +kernel
theorem dX7_moveTo_13 : decode cX7_moveTo 13 = .ok (.ifCond .eq 14, 3) := by decide +kernel
theorem dX7_moveTo_16 : decode cX7_moveTo 16 = .ok (.iload_n 2, 1) := by decide +kernel
theorem dX7_moveTo_17 : decode cX7_moveTo 17 = .ok (.bipush (-24), 2) := by decide +kernel
theorem dX7_moveTo_19 : decode cX7_moveTo 19 = .ok (.bipush 24, 2) := by decide +kernel
theorem dX7_moveTo_21 : decode cX7_moveTo 21 = .ok (.invokestatic 36, 3) := by decide +kernel
theorem dX7_moveTo_24 : decode cX7_moveTo 24 = .ok (.ifCond .ne 9, 3) := by decide +kernel
theorem dX7_moveTo_27 : decode cX7_moveTo 27 = .ok (.aload_n 0, 1) := by decide +kernel
theorem dX7_moveTo_28 : decode cX7_moveTo 28 = .ok (.iconst 1, 1) := by decide +kernel
theorem dX7_moveTo_29 : decode cX7_moveTo 29 = .ok (.invokevirtual 61, 3) := by decide +kernel
theorem dX7_moveTo_32 : decode cX7_moveTo 32 = .ok (.ireturn, 1) := by decide +kernel
theorem dX7_moveTo_33 : decode cX7_moveTo 33 = .ok (.aload_n 0, 1) := by decide +kernel
theorem dX7_moveTo_34 : decode cX7_moveTo 34 = .ok (.getfield 21, 3) := by decide +kernel
theorem dX7_moveTo_37 : decode cX7_moveTo 37 = .ok (.istore_n 3, 1) := by decide +kernel
theorem dX7_moveTo_38 : decode cX7_moveTo 38 = .ok (.aload_n 0, 1) := by decide +kernel
theorem dX7_moveTo_39 : decode cX7_moveTo 39 = .ok (.iconst 1, 1) := by decide +kernel
theorem dX7_moveTo_40 : decode cX7_moveTo 40 = .ok (.putfield 21, 3) := by decide +kernel
theorem dX7_moveTo_43 : decode cX7_moveTo 43 = .ok (.aload_n 0, 1) := by decide +kernel
theorem dX7_moveTo_44 : decode cX7_moveTo 44 = .ok (.getfield 14, 3) := by decide +kernel
theorem dX7_moveTo_47 : decode cX7_moveTo 47 = .ok (.iconst 0, 1) := by decide +kernel
theorem dX7_moveTo_48 : decode cX7_moveTo 48 = .ok (.iload_n 1, 1) := by decide +kernel
theorem dX7_moveTo_49 : decode cX7_moveTo 49 = .ok (.iastore, 1) := by decide +kernel
theorem dX7_moveTo_50 : decode cX7_moveTo 50 = .ok (.aload_n 0, 1) := by decide +kernel
theorem dX7_moveTo_51 : decode cX7_moveTo 51 = .ok (.getfield 18, 3) := by decide +kernel
theorem dX7_moveTo_54 : decode cX7_moveTo 54 = .ok (.iconst 0, 1) := by decide +kernel
theorem dX7_moveTo_55 : decode cX7_moveTo 55 = .ok (.iload_n 2, 1) := by decide +kernel
theorem dX7_moveTo_56 : decode cX7_moveTo 56 = .ok (.iastore, 1) := by decide +kernel
theorem dX7_moveTo_57 : decode cX7_moveTo 57 = .ok (.iload_n 3, 1) := by decide +kernel
theorem dX7_moveTo_58 : decode cX7_moveTo 58 = .ok (.ireturn, 1) := by decide +kernel
theorem dX7_line_0 : decode cX7_line 0 = .ok (.aload_n 0, 1) := by decide +kernel
theorem dX7_line_1 : decode cX7_line 1 = .ok (.iconst 0, 1) := by decide +kernel
theorem dX7_line_2 : decode cX7_line 2 = .ok (.putfield 33, 3) := by decide +kernel
theorem dX7_line_5 : decode cX7_line 5 = .ok (.aload_n 0, 1) := by decide +kernel
theorem dX7_line_6 : decode cX7_line 6 = .ok (.getfield 14, 3) := by decide +kernel
theorem dX7_line_9 : decode cX7_line 9 = .ok (.aload_n 0, 1) := by decide +kernel
theorem dX7_line_10 : decode cX7_line 10 = .ok (.getfield 21, 3) := by decide +kernel
theorem dX7_line_13 : decode cX7_line 13 = .ok (.iconst 1, 1) := by decide +kernel
theorem dX7_line_14 : decode cX7_line 14 = .ok (.isub, 1) := by decide +kernel
theorem dX7_line_15 : decode cX7_line 15 = .ok (.iaload, 1) := by decide +kernel
theorem dX7_line_16 : decode cX7_line 16 = .ok (.istore_n 3, 1) := by decide +kernel
theorem dX7_line_17 : decode cX7_line 17 = .ok (.aload_n 0, 1) := by decide +kernel
theorem dX7_line_18 : decode cX7_line 18 = .ok (.getfield 18, 3) := by decide +kernel
theorem dX7_line_21 : decode cX7_line 21 = .ok (.aload_n 0, 1) := by decide +kernel
theorem dX7_line_22 : decode cX7_line 22 = .ok (.getfield 21, 3) := by decide +kernel
theorem dX7_line_25 : decode cX7_line 25 = .ok (.iconst 1, 1) := by decide +kernel
theorem dX7_line_26 : decode cX7_line 26 = .ok (.isub, 1) := by decide +kernel
theorem dX7_line_27 : decode cX7_line 27 = .ok (.iaload, 1) := by decide +kernel
theorem dX7_line_28 : decode cX7_line 28 = .ok (.istore 4, 2) := by decide +kernel
theorem dX7_line_30 : decode cX7_line 30 = .ok (.iload_n 1, 1) := by decide +kernel
theorem dX7_line_31 : decode cX7_line 31 = .ok (.bipush (-24), 2) := by decide +kernel
theorem dX7_line_33 : decode cX7_line 33 = .ok (.iload_n 3, 1) := by decide +kernel
theorem dX7_line_34 : decode cX7_line 34 = .ok (.isub, 1) := by decide +kernel
theorem dX7_line_35 : decode cX7_line 35 = .ok (.bipush 24, 2) := by decide +kernel
theorem dX7_line_37 : decode cX7_line 37 = .ok (.iload_n 3, 1) := by decide +kernel
theorem dX7_line_38 : decode cX7_line 38 = .ok (.isub, 1) := by decide +kernel
theorem dX7_line_39 : decode cX7_line 39 = .ok (.invokestatic 36, 3) := by decide +kernel
theorem dX7_line_42 : decode cX7_line 42 = .ok (.ifCond .eq 20, 3) := by decide +kernel
theorem dX7_line_45 : decode cX7_line 45 = .ok (.iload_n 2, 1) := by decide +kernel
theorem dX7_line_46 : decode cX7_line 46 = .ok (.bipush (-24), 2) := by decide +kernel
theorem dX7_line_48 : decode cX7_line 48 = .ok (.iload 4, 2) := by decide +kernel
theorem dX7_line_50 : decode cX7_line 50 = .ok (.isub, 1) := by decide +kernel
theorem dX7_line_51 : decode cX7_line 51 = .ok (.bipush 24, 2) := by decide +kernel
theorem dX7_line_53 : decode cX7_line 53 = .ok (.iload 4, 2) := by decide +kernel
theorem dX7_line_55 : decode cX7_line 55 = .ok (.isub, 1) := by decide +kernel
theorem dX7_line_56 : decode cX7_line 56 = .ok (.invokestatic 36, 3) := by decide +kernel
theorem dX7_line_59 : decode cX7_line 59 = .ok (.ifCond .ne 9, 3) := by decide +kernel
theorem dX7_line_62 : decode cX7_line 62 = .ok (.aload_n 0, 1) := by decide +kernel
theorem dX7_line_63 : decode cX7_line 63 = .ok (.iconst 1, 1) := by decide +kernel
theorem dX7_line_64 : decode cX7_line 64 = .ok (.invokevirtual 61, 3) := by decide +kernel
theorem dX7_line_67 : decode cX7_line 67 = .ok (.ireturn, 1) := by decide +kernel
theorem dX7_line_68 : decode cX7_line 68 = .ok (.iload_n 1, 1) := by decide +kernel
theorem dX7_line_69 : decode cX7_line 69 = .ok (.ifCond .ne 9, 3) := by decide +kernel
theorem dX7_line_72 : decode cX7_line 72 = .ok (.iload_n 2, 1) := by decide +kernel
theorem dX7_line_73 : decode cX7_line 73 = .ok (.ifCond .ne 5, 3) := by decide +kernel
theorem dX7_line_76 : decode cX7_line 76 = .ok (.iconst 0, 1) := by decide +kernel
theorem dX7_line_77 : decode cX7_line 77 = .ok (.ireturn, 1) := by decide +kernel
theorem dX7_line_78 : decode cX7_line 78 = .ok (.aload_n 0, 1) := by decide +kernel
theorem dX7_line_79 : decode cX7_line 79 = .ok (.getfield 21, 3) := by decide +kernel
theorem dX7_line_82 : decode cX7_line 82 = .ok (.bipush 60, 2) := by decide +kernel
theorem dX7_line_84 : decode cX7_line 84 = .ok (.if_icmp .ne 9, 3) := by decide +kernel
theorem dX7_line_87 : decode cX7_line 87 = .ok (.aload_n 0, 1) := by decide +kernel
theorem dX7_line_88 : decode cX7_line 88 = .ok (.iconst 2, 1) := by decide +kernel
theorem dX7_line_89 : decode cX7_line 89 = .ok (.invokevirtual 61, 3) := by decide +kernel
theorem dX7_line_92 : decode cX7_line 92 = .ok (.ireturn, 1) := by decide +kernel
theorem dX7_line_93 : decode cX7_line 93 = .ok (.aload_n 0, 1) := by decide +kernel
theorem dX7_line_94 : decode cX7_line 94 = .ok (.getfield 14, 3) := by decide +kernel
theorem dX7_line_97 : decode cX7_line 97 = .ok (.aload_n 0, 1) := by decide +kernel
theorem dX7_line_98 : decode cX7_line 98 = .ok (.getfield 21, 3) := by decide +kernel
theorem dX7_line_101 : decode cX7_line 101 = .ok (.iload_n 3, 1) := by decide +kernel
theorem dX7_line_102 : decode cX7_line 102 = .ok (.iload_n 1, 1) := by decide +kernel
theorem dX7_line_103 : decode cX7_line 103 = .ok (.iadd, 1) := by decide +kernel
theorem dX7_line_104 : decode cX7_line 104 = .ok (.iastore, 1) := by decide +kernel
theorem dX7_line_105 : decode cX7_line 105 = .ok (.aload_n 0, 1) := by decide +kernel
theorem dX7_line_106 : decode cX7_line 106 = .ok (.getfield 18, 3) := by decide +kernel
theorem dX7_line_109 : decode cX7_line 109 = .ok (.aload_n 0, 1) := by decide +kernel
theorem dX7_line_110 : decode cX7_line 110 = .ok (.dup, 1) := by decide +kernel
theorem dX7_line_111 : decode cX7_line 111 = .ok (.getfield 21, 3) := by decide +kernel
theorem dX7_line_114 : decode cX7_line 114 = .ok (.dup_x1, 1) := by decide +kernel
theorem dX7_line_115 : decode cX7_line 115 = .ok (.iconst 1, 1) := by decide +kernel
theorem dX7_line_116 : decode cX7_line 116 = .ok (.iadd, 1) := by decide +kernel
theorem dX7_line_117 : decode cX7_line 117 = .ok (.putfield 21, 3) := by decide +kernel
theorem dX7_line_120 : decode cX7_line 120 = .ok (.iload 4, 2) := by decide +kernel
theorem dX7_line_122 : decode cX7_line 122 = .ok (.iload_n 2, 1) := by decide +kernel
theorem dX7_line_123 : decode cX7_line 123 = .ok (.iadd, 1) := by decide +kernel
theorem dX7_line_124 : decode cX7_line 124 = .ok (.iastore, 1) := by decide +kernel
theorem dX7_line_125 : decode cX7_line 125 = .ok (.iconst 0, 1) := by decide +kernel
theorem dX7_line_126 : decode cX7_line 126 = .ok (.ireturn, 1) := by decide +kernel
theorem dX7_lineX_0 : decode cX7_lineX 0 = .ok (.aload_n 0, 1) := by decide +kernel
theorem dX7_lineX_1 : decode cX7_lineX 1 = .ok (.iload_n 1, 1) := by decide +kernel
theorem dX7_lineX_2 : decode cX7_lineX 2 = .ok (.iconst 0, 1) := by decide +kernel
theorem dX7_lineX_3 : decode cX7_lineX 3 = .ok (.invokevirtual 65, 3) := by decide +kernel
theorem dX7_lineX_6 : decode cX7_lineX 6 = .ok (.pop, 1) := by decide +kernel
theorem dX7_lineX_7 : decode cX7_lineX 7 = .ok (.aload_n 0, 1) := by decide +kernel
theorem dX7_lineX_8 : decode cX7_lineX 8 = .ok (.getfield 33, 3) := by decide +kernel
theorem dX7_lineX_11 : decode cX7_lineX 11 = .ok (.ifCond .ne 17, 3) := by decide +kernel
theorem dX7_lineX_14 : decode cX7_lineX 14 = .ok (.aload_n 0, 1) := by decide +kernel
theorem dX7_lineX_15 : decode cX7_lineX 15 = .ok (.getfield 14, 3) := by decide +kernel
theorem dX7_lineX_18 : decode cX7_lineX 18 = .ok (.aload_n 0, 1) := by decide +kernel
theorem dX7_lineX_19 : decode cX7_lineX 19 = .ok (.getfield 21, 3) := by decide +kernel
theorem dX7_lineX_22 : decode cX7_lineX 22 = .ok (.iconst 1, 1) := by decide +kernel
theorem dX7_lineX_23 : decode cX7_lineX 23 = .ok (.isub, 1) := by decide +kernel
theorem dX7_lineX_24 : decode cX7_lineX 24 = .ok (.iaload, 1) := by decide +kernel
theorem dX7_lineX_25 : decode cX7_lineX 25 = .ok (.goto 4, 3) := by decide +kernel
theorem dX7_lineX_28 : decode cX7_lineX 28 = .ok (.iconst 0, 1) := by decide +kernel
theorem dX7_lineX_29 : decode cX7_lineX 29 = .ok (.ireturn, 1) := by decide +kernel
theorem dX7_lineY_0 : decode cX7_lineY 0 = .ok (.aload_n 0, 1) := by decide +kernel
theorem dX7_lineY_1 : decode cX7_lineY 1 = .ok (.iconst 0, 1) := by decide +kernel
theorem dX7_lineY_2 : decode cX7_lineY 2 = .ok (.iload_n 1, 1) := by decide +kernel
theorem dX7_lineY_3 : decode cX7_lineY 3 = .ok (.invokevirtual 65, 3) := by decide +kernel
theorem dX7_lineY_6 : decode cX7_lineY 6 = .ok (.pop, 1) := by decide +kernel
theorem dX7_lineY_7 : decode cX7_lineY 7 = .ok (.aload_n 0, 1) := by decide +kernel
theorem dX7_lineY_8 : decode cX7_lineY 8 = .ok (.getfield 33, 3) := by decide +kernel
theorem dX7_lineY_11 : decode cX7_lineY 11 = .ok (.ifCond .ne 17, 3) := by decide +kernel
theorem dX7_lineY_14 : decode cX7_lineY 14 = .ok (.aload_n 0, 1) := by decide +kernel
theorem dX7_lineY_15 : decode cX7_lineY 15 = .ok (.getfield 18, 3) := by decide +kernel
theorem dX7_lineY_18 : decode cX7_lineY 18 = .ok (.aload_n 0, 1) := by decide +kernel
theorem dX7_lineY_19 : decode cX7_lineY 19 = .ok (.getfield 21, 3) := by decide +kernel
theorem dX7_lineY_22 : decode cX7_lineY 22 = .ok (.iconst 1, 1) := by decide +kernel
theorem dX7_lineY_23 : decode cX7_lineY 23 = .ok (.isub, 1) := by decide +kernel
theorem dX7_lineY_24 : decode cX7_lineY 24 = .ok (.iaload, 1) := by decide +kernel
theorem dX7_lineY_25 : decode cX7_lineY 25 = .ok (.goto 4, 3) := by decide +kernel
theorem dX7_lineY_28 : decode cX7_lineY 28 = .ok (.iconst 0, 1) := by decide +kernel
theorem dX7_lineY_29 : decode cX7_lineY 29 = .ok (.ireturn, 1) := by decide +kernel
theorem dX7_cross_0 : decode cX7_cross 0 = .ok (.iload_n 3, 1) := by decide +kernel
theorem dX7_cross_1 : decode cX7_cross 1 = .ok (.iload 4, 2) := by decide +kernel
theorem dX7_cross_3 : decode cX7_cross 3 = .ok (.invokestatic 68, 3) := by decide +kernel
theorem dX7_cross_6 : decode cX7_cross 6 = .ok (.istore 5, 2) := by decide +kernel
theorem dX7_cross_8 : decode cX7_cross 8 = .ok (.iload 5, 2) := by decide +kernel
theorem dX7_cross_10 : decode cX7_cross 10 = .ok (.iload_n 3, 1) := by decide +kernel
theorem dX7_cross_11 : decode cX7_cross 11 = .ok (.iload 4, 2) := by decide +kernel
theorem dX7_cross_13 : decode cX7_cross 13 = .ok (.invokestatic 73, 3) := by decide +kernel
theorem dX7_cross_16 : decode cX7_cross 16 = .ok (.if_icmp .ge 61, 3) := by decide +kernel
theorem dX7_cross_19 : decode cX7_cross 19 = .ok (.bipush (-32), 2) := by decide +kernel
theorem dX7_cross_21 : decode cX7_cross 21 = .ok (.istore 6, 2) := by decide +kernel
theorem dX7_cross_23 : decode cX7_cross 23 = .ok (.iload 6, 2) := by decide +kernel
theorem dX7_cross_25 : decode cX7_cross 25 = .ok (.iload_n 2, 1) := by decide +kernel
theorem dX7_cross_26 : decode cX7_cross 26 = .ok (.if_icmp .ge 45, 3) := by decide +kernel
theorem dX7_cross_29 : decode cX7_cross 29 = .ok (.aload_n 0, 1) := by decide +kernel
theorem dX7_cross_30 : decode cX7_cross 30 = .ok (.iload 6, 2) := by decide +kernel
theorem dX7_cross_32 : decode cX7_cross 32 = .ok (.iload 5, 2) := by decide +kernel
theorem dX7_cross_34 : decode cX7_cross 34 = .ok (.invokestatic 44, 3) := by decide +kernel
theorem dX7_cross_37 : decode cX7_cross 37 = .ok (.dup2, 1) := by decide +kernel
theorem dX7_cross_38 : decode cX7_cross 38 = .ok (.iaload, 1) := by decide +kernel
theorem dX7_cross_39 : decode cX7_cross 39 = .ok (.iconst 1, 1) := by decide +kernel
theorem dX7_cross_40 : decode cX7_cross 40 = .ok (.iadd, 1) := by decide +kernel
theorem dX7_cross_41 : decode cX7_cross 41 = .ok (.iastore, 1) := by decide +kernel
theorem dX7_cross_42 : decode cX7_cross 42 = .ok (.aload_n 1, 1) := by decide +kernel
theorem dX7_cross_43 : decode cX7_cross 43 = .ok (.iload 6, 2) := by decide +kernel
theorem dX7_cross_45 : decode cX7_cross 45 = .ok (.iload 5, 2) := by decide +kernel
theorem dX7_cross_47 : decode cX7_cross 47 = .ok (.invokestatic 44, 3) := by decide +kernel
theorem dX7_cross_50 : decode cX7_cross 50 = .ok (.dup2, 1) := by decide +kernel
theorem dX7_cross_51 : decode cX7_cross 51 = .ok (.iaload, 1) := by decide +kernel
theorem dX7_cross_52 : decode cX7_cross 52 = .ok (.iload 4, 2) := by decide +kernel
theorem dX7_cross_54 : decode cX7_cross 54 = .ok (.iload_n 3, 1) := by decide +kernel
theorem dX7_cross_55 : decode cX7_cross 55 = .ok (.if_icmp .le 7, 3) := by decide +kernel
theorem dX7_cross_58 : decode cX7_cross 58 = .ok (.iconst 1, 1) := by decide +kernel
theorem dX7_cross_59 : decode cX7_cross 59 = .ok (.goto 4, 3) := by decide +kernel
theorem dX7_cross_62 : decode cX7_cross 62 = .ok (.iconst (-1), 1) := by decide +kernel
theorem dX7_cross_63 : decode cX7_cross 63 = .ok (.iadd, 1) := by decide +kernel
theorem dX7_cross_64 : decode cX7_cross 64 = .ok (.iastore, 1) := by decide +kernel
theorem dX7_cross_65 : decode cX7_cross 65 = .ok (.iinc 6 1, 3) := by decide +kernel
theorem dX7_cross_68 : decode cX7_cross 68 = .ok (.goto (-45), 3) := by decide +kernel
theorem dX7_cross_71 : decode cX7_cross 71 = .ok (.iinc 5 1, 3) := by decide +kernel
theorem dX7_cross_74 : decode cX7_cross 74 = .ok (.goto (-66), 3) := by decide +kernel
theorem dX7_cross_77 : decode cX7_cross 77 = .ok (.return_, 1) := by decide +kernel
theorem dX7_close_0 : decode cX7_close 0 = .ok (.aload_n 0, 1) := by decide +kernel
theorem dX7_close_1 : decode cX7_close 1 = .ok (.iconst 0, 1) := by decide +kernel
theorem dX7_close_2 : decode cX7_close 2 = .ok (.putfield 33, 3) := by decide +kernel
theorem dX7_close_5 : decode cX7_close 5 = .ok (.iload_n 1, 1) := by decide +kernel
theorem dX7_close_6 : decode cX7_close 6 = .ok (.invokestatic 76, 3) := by decide +kernel
theorem dX7_close_9 : decode cX7_close 9 = .ok (.ifCond .ne 9, 3) := by decide +kernel
theorem dX7_close_12 : decode cX7_close 12 = .ok (.aload_n 0, 1) := by decide +kernel
theorem dX7_close_13 : decode cX7_close 13 = .ok (.iconst 1, 1) := by decide +kernel
theorem dX7_close_14 : decode cX7_close 14 = .ok (.invokevirtual 61, 3) := by decide +kernel
theorem dX7_close_17 : decode cX7_close 17 = .ok (.ireturn, 1) := by decide +kernel
theorem dX7_close_18 : decode cX7_close 18 = .ok (.iload_n 2, 1) := by decide +kernel
theorem dX7_close_19 : decode cX7_close 19 = .ok (.iconst 0, 1) := by decide +kernel
theorem dX7_close_20 : decode cX7_close 20 = .ok (.iconst 1, 1) := by decide +kernel
theorem dX7_close_21 : decode cX7_close 21 = .ok (.invokestatic 36, 3) := by decide +kernel
theorem dX7_close_24 : decode cX7_close 24 = .ok (.ifCond .ne 9, 3) := by decide +kernel
theorem dX7_close_27 : decode cX7_close 27 = .ok (.aload_n 0, 1) := by decide +kernel
theorem dX7_close_28 : decode cX7_close 28 = .ok (.iconst 2, 1) := by decide +kernel
theorem dX7_close_29 : decode cX7_close 29 = .ok (.invokevirtual 61, 3) := by decide +kernel
theorem dX7_close_32 : decode cX7_close 32 = .ok (.ireturn, 1) := by decide +kernel
theorem dX7_close_33 : decode cX7_close 33 = .ok (.sipush 4096, 3) := by decide +kernel
theorem dX7_close_36 : decode cX7_close 36 = .ok (.newarray .int, 2) := by decide +kernel
theorem dX7_close_38 : decode cX7_close 38 = .ok (.astore_n 3, 1) := by decide +kernel
theorem dX7_close_39 : decode cX7_close 39 = .ok (.sipush 4096, 3) := by decide +kernel
theorem dX7_close_42 : decode cX7_close 42 = .ok (.newarray .int, 2) := by decide +kernel
theorem dX7_close_44 : decode cX7_close 44 = .ok (.astore 4, 2) := by decide +kernel
theorem dX7_close_46 : decode cX7_close 46 = .ok (.iconst 1, 1) := by decide +kernel
theorem dX7_close_47 : decode cX7_close 47 = .ok (.istore 5, 2) := by decide +kernel
theorem dX7_close_49 : decode cX7_close 49 = .ok (.iload 5, 2) := by decide +kernel
theorem dX7_close_51 : decode cX7_close 51 = .ok (.aload_n 0, 1) := by decide +kernel
theorem dX7_close_52 : decode cX7_close 52 = .ok (.getfield 21, 3) := by decide +kernel
theorem dX7_close_55 : decode cX7_close 55 = .ok (.if_icmp .ge 57, 3) := by decide +kernel
theorem dX7_close_58 : decode cX7_close 58 = .ok (.aload_n 0, 1) := by decide +kernel
theorem dX7_close_59 : decode cX7_close 59 = .ok (.getfield 14, 3) := by decide +kernel
theorem dX7_close_62 : decode cX7_close 62 = .ok (.iload 5, 2) := by decide +kernel
theorem dX7_close_64 : decode cX7_close 64 = .ok (.iaload, 1) := by decide +kernel
theorem dX7_close_65 : decode cX7_close 65 = .ok (.aload_n 0, 1) := by decide +kernel
theorem dX7_close_66 : decode cX7_close 66 = .ok (.getfield 14, 3) := by decide +kernel
theorem dX7_close_69 : decode cX7_close 69 = .ok (.iload 5, 2) := by decide +kernel
theorem dX7_close_71 : decode cX7_close 71 = .ok (.iconst 1, 1) := by decide +kernel
theorem dX7_close_72 : decode cX7_close 72 = .ok (.isub, 1) := by decide +kernel
theorem dX7_close_73 : decode cX7_close 73 = .ok (.iaload, 1) := by decide +kernel
theorem dX7_close_74 : decode cX7_close 74 = .ok (.if_icmp .ne 32, 3) := by decide +kernel
theorem dX7_close_77 : decode cX7_close 77 = .ok (.aload_n 3, 1) := by decide +kernel
theorem dX7_close_78 : decode cX7_close 78 = .ok (.aload 4, 2) := by decide +kernel
theorem dX7_close_80 : decode cX7_close 80 = .ok (.aload_n 0, 1) := by decide +kernel
theorem dX7_close_81 : decode cX7_close 81 = .ok (.getfield 14, 3) := by decide +kernel
theorem dX7_close_84 : decode cX7_close 84 = .ok (.iload 5, 2) := by decide +kernel
theorem dX7_close_86 : decode cX7_close 86 = .ok (.iaload, 1) := by decide +kernel
theorem dX7_close_87 : decode cX7_close 87 = .ok (.aload_n 0, 1) := by decide +kernel
theorem dX7_close_88 : decode cX7_close 88 = .ok (.getfield 18, 3) := by decide +kernel
theorem dX7_close_91 : decode cX7_close 91 = .ok (.iload 5, 2) := by decide +kernel
theorem dX7_close_93 : decode cX7_close 93 = .ok (.iconst 1, 1) := by decide +kernel
theorem dX7_close_94 : decode cX7_close 94 = .ok (.isub, 1) := by decide +kernel
theorem dX7_close_95 : decode cX7_close 95 = .ok (.iaload, 1) := by decide +kernel
theorem dX7_close_96 : decode cX7_close 96 = .ok (.aload_n 0, 1) := by decide +kernel
theorem dX7_close_97 : decode cX7_close 97 = .ok (.getfield 18, 3) := by decide +kernel
theorem dX7_close_100 : decode cX7_close 100 = .ok (.iload 5, 2) := by decide +kernel
theorem dX7_close_102 : decode cX7_close 102 = .ok (.iaload, 1) := by decide +kernel
theorem dX7_close_103 : decode cX7_close 103 = .ok (.invokestatic 80, 3) := by decide +kernel
theorem dX7_close_106 : decode cX7_close 106 = .ok (.iinc 5 1, 3) := by decide +kernel
theorem dX7_close_109 : decode cX7_close 109 = .ok (.goto (-60), 3) := by decide +kernel
theorem dX7_close_112 : decode cX7_close 112 = .ok (.aload_n 3, 1) := by decide +kernel
theorem dX7_close_113 : decode cX7_close 113 = .ok (.aload 4, 2) := by decide +kernel
theorem dX7_close_115 : decode cX7_close 115 = .ok (.aload_n 0, 1) := by decide +kernel
theorem dX7_close_116 : decode cX7_close 116 = .ok (.getfield 14, 3) := by decide +kernel
theorem dX7_close_119 : decode cX7_close 119 = .ok (.iconst 0, 1) := by decide +kernel
theorem dX7_close_120 : decode cX7_close 120 = .ok (.iaload, 1) := by decide +kernel
theorem dX7_close_121 : decode cX7_close 121 = .ok (.aload_n 0, 1) := by decide +kernel
theorem dX7_close_122 : decode cX7_close 122 = .ok (.getfield 18, 3) := by decide +kernel
theorem dX7_close_125 : decode cX7_close 125 = .ok (.aload_n 0, 1) := by decide +kernel
theorem dX7_close_126 : decode cX7_close 126 = .ok (.getfield 21, 3) := by decide +kernel
theorem dX7_close_129 : decode cX7_close 129 = .ok (.iconst 1, 1) := by decide +kernel
theorem dX7_close_130 : decode cX7_close 130 = .ok (.isub, 1) := by decide +kernel
theorem dX7_close_131 : decode cX7_close 131 = .ok (.iaload, 1) := by decide +kernel
theorem dX7_close_132 : decode cX7_close 132 = .ok (.aload_n 0, 1) := by decide +kernel
theorem dX7_close_133 : decode cX7_close 133 = .ok (.getfield 18, 3) := by decide +kernel
theorem dX7_close_136 : decode cX7_close 136 = .ok (.iconst 0, 1) := by decide +kernel
theorem dX7_close_137 : decode cX7_close 137 = .ok (.iaload, 1) := by decide +kernel
theorem dX7_close_138 : decode cX7_close 138 = .ok (.invokestatic 80, 3) := by decide +kernel
theorem dX7_close_141 : decode cX7_close 141 = .ok (.sipush 4096, 3) := by decide +kernel
theorem dX7_close_144 : decode cX7_close 144 = .ok (.newarray .boolean, 2) := by decide +kernel
theorem dX7_close_146 : decode cX7_close 146 = .ok (.astore 5, 2) := by decide +kernel
theorem dX7_close_148 : decode cX7_close 148 = .ok (.iconst 0, 1) := by decide +kernel
theorem dX7_close_149 : decode cX7_close 149 = .ok (.istore 6, 2) := by decide +kernel
theorem dX7_close_151 : decode cX7_close 151 = .ok (.iload 6, 2) := by decide +kernel
theorem dX7_close_153 : decode cX7_close 153 = .ok (.sipush 4096, 3) := by decide +kernel
theorem dX7_close_156 : decode cX7_close 156 = .ok (.if_icmp .ge 49, 3) := by decide +kernel
theorem dX7_close_159 : decode cX7_close 159 = .ok (.aload 5, 2) := by decide +kernel
theorem dX7_close_161 : decode cX7_close 161 = .ok (.iload 6, 2) := by decide +kernel
theorem dX7_close_163 : decode cX7_close 163 = .ok (.iload_n 2, 1) := by decide +kernel
theorem dX7_close_164 : decode cX7_close 164 = .ok (.ifCond .ne 21, 3) := by decide +kernel
theorem dX7_close_167 : decode cX7_close 167 = .ok (.aload_n 3, 1) := by decide +kernel
theorem dX7_close_168 : decode cX7_close 168 = .ok (.iload 6, 2) := by decide +kernel
theorem dX7_close_170 : decode cX7_close 170 = .ok (.iaload, 1) := by decide +kernel
theorem dX7_close_171 : decode cX7_close 171 = .ok (.iconst 2, 1) := by decide +kernel
theorem dX7_close_172 : decode cX7_close 172 = .ok (.irem, 1) := by decide +kernel
theorem dX7_close_173 : decode cX7_close 173 = .ok (.iconst 1, 1) := by decide +kernel
theorem dX7_close_174 : decode cX7_close 174 = .ok (.if_icmp .ne 7, 3) := by decide +kernel
theorem dX7_close_177 : decode cX7_close 177 = .ok (.iconst 1, 1) := by decide +kernel
theorem dX7_close_178 : decode cX7_close 178 = .ok (.goto 20, 3) := by decide +kernel
theorem dX7_close_181 : decode cX7_close 181 = .ok (.iconst 0, 1) := by decide +kernel
theorem dX7_close_182 : decode cX7_close 182 = .ok (.goto 16, 3) := by decide +kernel
theorem dX7_close_185 : decode cX7_close 185 = .ok (.aload 4, 2) := by decide +kernel
theorem dX7_close_187 : decode cX7_close 187 = .ok (.iload 6, 2) := by decide +kernel
theorem dX7_close_189 : decode cX7_close 189 = .ok (.iaload, 1) := by decide +kernel
theorem dX7_close_190 : decode cX7_close 190 = .ok (.ifCond .eq 7, 3) := by decide +kernel
theorem dX7_close_193 : decode cX7_close 193 = .ok (.iconst 1, 1) := by decide +kernel
theorem dX7_close_194 : decode cX7_close 194 = .ok (.goto 4, 3) := by decide +kernel
theorem dX7_close_197 : decode cX7_close 197 = .ok (.iconst 0, 1) := by decide +kernel
theorem dX7_close_198 : decode cX7_close 198 = .ok (.bastore, 1) := by decide +kernel
theorem dX7_close_199 : decode cX7_close 199 = .ok (.iinc 6 1, 3) := by decide +kernel
theorem dX7_close_202 : decode cX7_close 202 = .ok (.goto (-51), 3) := by decide +kernel
theorem dX7_close_205 : decode cX7_close 205 = .ok (.aload_n 0, 1) := by decide +kernel
theorem dX7_close_206 : decode cX7_close 206 = .ok (.iconst 1, 1) := by decide +kernel
theorem dX7_close_207 : decode cX7_close 207 = .ok (.putfield 21, 3) := by decide +kernel
theorem dX7_close_210 : decode cX7_close 210 = .ok (.aload_n 0, 1) := by decide +kernel
theorem dX7_close_211 : decode cX7_close 211 = .ok (.iload_n 1, 1) := by decide +kernel
theorem dX7_close_212 : decode cX7_close 212 = .ok (.aload 5, 2) := by decide +kernel
theorem dX7_close_214 : decode cX7_close 214 = .ok (.invokevirtual 84, 3) := by decide +kernel
theorem dX7_close_217 : decode cX7_close 217 = .ok (.ireturn, 1) := by decide +kernel
theorem dX7_points_0 : decode cX7_points 0 = .ok (.aload_n 0, 1) := by decide +kernel
theorem dX7_points_1 : decode cX7_points 1 = .ok (.iconst 0, 1) := by decide +kernel
theorem dX7_points_2 : decode cX7_points 2 = .ok (.putfield 33, 3) := by decide +kernel
theorem dX7_points_5 : decode cX7_points 5 = .ok (.aload_n 0, 1) := by decide +kernel
theorem dX7_points_6 : decode cX7_points 6 = .ok (.getfield 21, 3) := by decide +kernel
theorem dX7_points_9 : decode cX7_points 9 = .ok (.ireturn, 1) := by decide +kernel
theorem dX7_addRectangle_0 : decode cX7_addRectangle 0 = .ok (.aload_n 0, 1) := by decide +kernel
theorem dX7_addRectangle_1 : decode cX7_addRectangle 1 = .ok (.iconst 0, 1) := by decide +kernel
theorem dX7_addRectangle_2 : decode cX7_addRectangle 2 = .ok (.putfield 33, 3) := by decide +kernel
theorem dX7_addRectangle_5 : decode cX7_addRectangle 5 = .ok (.iload_n 1, 1) := by decide +kernel
theorem dX7_addRectangle_6 : decode cX7_addRectangle 6 = .ok (.invokestatic 76, 3) := by decide +kernel
theorem dX7_addRectangle_9 : decode cX7_addRectangle 9 = .ok (.ifCond .ne 9, 3) := by decide +kernel
theorem dX7_addRectangle_12 : decode cX7_addRectangle 12 = .ok (.aload_n 0, 1) := by decide +kernel
theorem dX7_addRectangle_13 : decode cX7_addRectangle 13 = .ok (.iconst 1, 1) := by decide +kernel
theorem dX7_addRectangle_14 : decode cX7_addRectangle 14 = .ok (.invokevirtual 61, 3) := by decide +kernel
theorem dX7_addRectangle_17 : decode cX7_addRectangle 17 = .ok (.ireturn, 1) := by decide +kernel
theorem dX7_addRectangle_18 : decode cX7_addRectangle 18 = .ok (.iload 4, 2) := by decide +kernel
theorem dX7_addRectangle_20 : decode cX7_addRectangle 20 = .ok (.iconst 1, 1) := by decide +kernel
theorem dX7_addRectangle_21 : decode cX7_addRectangle 21 = .ok (.bipush 64, 2) := by decide +kernel
theorem dX7_addRectangle_23 : decode cX7_addRectangle 23 = .ok (.invokestatic 36, 3) := by decide +kernel
theorem dX7_addRectangle_26 : decode cX7_addRectangle 26 = .ok (.ifCond .eq 14, 3) := by decide +kernel
theorem dX7_addRectangle_29 : decode cX7_addRectangle 29 = .ok (.iload 5, 2) := by decide +kernel
theorem dX7_addRectangle_31 : decode cX7_addRectangle 31 = .ok (.iconst 1, 1) := by decide +kernel
theorem dX7_addRectangle_32 : decode cX7_addRectangle 32 = .ok (.bipush 64, 2) := by decide +kernel
theorem dX7_addRectangle_34 : decode cX7_addRectangle 34 = .ok (.invokestatic 36, 3) := by decide +kernel
theorem dX7_addRectangle_37 : decode cX7_addRectangle 37 = .ok (.ifCond .ne 9, 3) := by decide +kernel
theorem dX7_addRectangle_40 : decode cX7_addRectangle 40 = .ok (.aload_n 0, 1) := by decide +kernel
theorem dX7_addRectangle_41 : decode cX7_addRectangle 41 = .ok (.iconst 2, 1) := by decide +kernel
theorem dX7_addRectangle_42 : decode cX7_addRectangle 42 = .ok (.invokevirtual 61, 3) := by decide +kernel
theorem dX7_addRectangle_45 : decode cX7_addRectangle 45 = .ok (.ireturn, 1) := by decide +kernel
theorem dX7_addRectangle_46 : decode cX7_addRectangle 46 = .ok (.iload_n 2, 1) := by decide +kernel
theorem dX7_addRectangle_47 : decode cX7_addRectangle 47 = .ok (.bipush (-32), 2) := by decide +kernel
theorem dX7_addRectangle_49 : decode cX7_addRectangle 49 = .ok (.bipush 32, 2) := by decide +kernel
theorem dX7_addRectangle_51 : decode cX7_addRectangle 51 = .ok (.iload 4, 2) := by decide +kernel
theorem dX7_addRectangle_53 : decode cX7_addRectangle 53 = .ok (.isub, 1) := by decide +kernel
theorem dX7_addRectangle_54 : decode cX7_addRectangle 54 = .ok (.invokestatic 36, 3) := by decide +kernel
theorem dX7_addRectangle_57 : decode cX7_addRectangle 57 = .ok (.ifCond .eq 17, 3) := by decide +kernel
theorem dX7_addRectangle_60 : decode cX7_addRectangle 60 = .ok (.iload_n 3, 1) := by decide +kernel
theorem dX7_addRectangle_61 : decode cX7_addRectangle 61 = .ok (.bipush (-32), 2) := by decide +kernel
theorem dX7_addRectangle_63 : decode cX7_addRectangle 63 = .ok (.bipush 32, 2) := by decide +kernel
theorem dX7_addRectangle_65 : decode cX7_addRectangle 65 = .ok (.iload 5, 2) := by decide +kernel
theorem dX7_addRectangle_67 : decode cX7_addRectangle 67 = .ok (.isub, 1) := by decide +kernel
theorem dX7_addRectangle_68 : decode cX7_addRectangle 68 = .ok (.invokestatic 36, 3) := by decide +kernel
theorem dX7_addRectangle_71 : decode cX7_addRectangle 71 = .ok (.ifCond .ne 9, 3) := by decide +kernel
theorem dX7_addRectangle_74 : decode cX7_addRectangle 74 = .ok (.aload_n 0, 1) := by decide +kernel
theorem dX7_addRectangle_75 : decode cX7_addRectangle 75 = .ok (.iconst 3, 1) := by decide +kernel
theorem dX7_addRectangle_76 : decode cX7_addRectangle 76 = .ok (.invokevirtual 61, 3) := by decide +kernel
theorem dX7_addRectangle_79 : decode cX7_addRectangle 79 = .ok (.ireturn, 1) := by decide +kernel
theorem dX7_addRectangle_80 : decode cX7_addRectangle 80 = .ok (.sipush 4096, 3) := by decide +kernel
theorem dX7_addRectangle_83 : decode cX7_addRectangle 83 = .ok (.newarray .boolean, 2) := by decide +kernel
theorem dX7_addRectangle_85 : decode cX7_addRectangle 85 = .ok (.astore 6, 2) := by decide +kernel
theorem dX7_addRectangle_87 : decode cX7_addRectangle 87 = .ok (.aload_n 0, 1) := by decide +kernel
theorem dX7_addRectangle_88 : decode cX7_addRectangle 88 = .ok (.getfield 11, 3) := by decide +kernel
theorem dX7_addRectangle_91 : decode cX7_addRectangle 91 = .ok (.iload_n 1, 1) := by decide +kernel
theorem dX7_addRectangle_92 : decode cX7_addRectangle 92 = .ok (.aaload, 1) := by decide +kernel
theorem dX7_addRectangle_93 : decode cX7_addRectangle 93 = .ok (.iconst 0, 1) := by decide +kernel
theorem dX7_addRectangle_94 : decode cX7_addRectangle 94 = .ok (.aload 6, 2) := by decide +kernel
theorem dX7_addRectangle_96 : decode cX7_addRectangle 96 = .ok (.iconst 0, 1) := by decide +kernel
theorem dX7_addRectangle_97 : decode cX7_addRectangle 97 = .ok (.sipush 4096, 3) := by decide +kernel
theorem dX7_addRectangle_100 : decode cX7_addRectangle 100 = .ok (.invokestatic 48, 3) := by decide +kernel
theorem dX7_addRectangle_103 : decode cX7_addRectangle 103 = .ok (.iconst 0, 1) := by decide +kernel
theorem dX7_addRectangle_104 : decode cX7_addRectangle 104 = .ok (.istore 7, 2) := by decide +kernel
theorem dX7_addRectangle_106 : decode cX7_addRectangle 106 = .ok (.iload 7, 2) := by decide +kernel
theorem dX7_addRectangle_108 : decode cX7_addRectangle 108 = .ok (.iload 4, 2) := by decide +kernel
theorem dX7_addRectangle_110 : decode cX7_addRectangle 110 = .ok (.if_icmp .ge 40, 3) := by decide +kernel
theorem dX7_addRectangle_113 : decode cX7_addRectangle 113 = .ok (.iconst 0, 1) := by decide +kernel
theorem dX7_addRectangle_114 : decode cX7_addRectangle 114 = .ok (.istore 8, 2) := by decide +kernel
theorem dX7_addRectangle_116 : decode cX7_addRectangle 116 = .ok (.iload 8, 2) := by decide +kernel
theorem dX7_addRectangle_118 : decode cX7_addRectangle 118 = .ok (.iload 5, 2) := by decide +kernel
theorem dX7_addRectangle_120 : decode cX7_addRectangle 120 = .ok (.if_icmp .ge 24, 3) := by decide +kernel
theorem dX7_addRectangle_123 : decode cX7_addRectangle 123 = .ok (.aload 6, 2) := by decide +kernel
theorem dX7_addRectangle_125 : decode cX7_addRectangle 125 = .ok (.iload_n 2, 1) := by decide +kernel
theorem dX7_addRectangle_126 : decode cX7_addRectangle 126 = .ok (.iload 7, 2) := by decide +kernel
theorem dX7_addRectangle_128 : decode cX7_addRectangle 128 = .ok (.iadd, 1) := by decide +kernel
theorem dX7_addRectangle_129 : decode cX7_addRectangle 129 = .ok (.iload_n 3, 1) := by decide +kernel
theorem dX7_addRectangle_130 : decode cX7_addRectangle 130 = .ok (.iload 8, 2) := by decide +kernel
theorem dX7_addRectangle_132 : decode cX7_addRectangle 132 = .ok (.iadd, 1) := by decide +kernel
theorem dX7_addRectangle_133 : decode cX7_addRectangle 133 = .ok (.invokestatic 44, 3) := by decide +kernel
theorem dX7_addRectangle_136 : decode cX7_addRectangle 136 = .ok (.iconst 1, 1) := by decide +kernel
theorem dX7_addRectangle_137 : decode cX7_addRectangle 137 = .ok (.bastore, 1) := by decide +kernel
theorem dX7_addRectangle_138 : decode cX7_addRectangle 138 = .ok (.iinc 8 1, 3) := by decide +kernel
theorem dX7_addRectangle_141 : decode cX7_addRectangle 141 = .ok (.goto (-25), 3) := by decide +kernel
theorem dX7_addRectangle_144 : decode cX7_addRectangle 144 = .ok (.iinc 7 1, 3) := by decide +kernel
theorem dX7_addRectangle_147 : decode cX7_addRectangle 147 = .ok (.goto (-41), 3) := by decide +kernel
theorem dX7_addRectangle_150 : decode cX7_addRectangle 150 = .ok (.aload_n 0, 1) := by decide +kernel
theorem dX7_addRectangle_151 : decode cX7_addRectangle 151 = .ok (.iload_n 1, 1) := by decide +kernel
theorem dX7_addRectangle_152 : decode cX7_addRectangle 152 = .ok (.aload 6, 2) := by decide +kernel
theorem dX7_addRectangle_154 : decode cX7_addRectangle 154 = .ok (.invokevirtual 84, 3) := by decide +kernel
theorem dX7_addRectangle_157 : decode cX7_addRectangle 157 = .ok (.ireturn, 1) := by decide +kernel
theorem dX7_combine_0 : decode cX7_combine 0 = .ok (.aload_n 0, 1) := by decide +kernel
theorem dX7_combine_1 : decode cX7_combine 1 = .ok (.iconst 0, 1) := by decide +kernel
theorem dX7_combine_2 : decode cX7_combine 2 = .ok (.putfield 33, 3) := by decide +kernel
theorem dX7_combine_5 : decode cX7_combine 5 = .ok (.iload_n 1, 1) := by decide +kernel
theorem dX7_combine_6 : decode cX7_combine 6 = .ok (.invokestatic 76, 3) := by decide +kernel
theorem dX7_combine_9 : decode cX7_combine 9 = .ok (.ifCond .eq 17, 3) := by decide +kernel
theorem dX7_combine_12 : decode cX7_combine 12 = .ok (.iload_n 2, 1) := by decide +kernel
theorem dX7_combine_13 : decode cX7_combine 13 = .ok (.invokestatic 76, 3) := by decide +kernel
theorem dX7_combine_16 : decode cX7_combine 16 = .ok (.ifCond .eq 10, 3) := by decide +kernel
theorem dX7_combine_19 : decode cX7_combine 19 = .ok (.iload_n 3, 1) := by decide +kernel
theorem dX7_combine_20 : decode cX7_combine 20 = .ok (.invokestatic 76, 3) := by decide +kernel
theorem dX7_combine_23 : decode cX7_combine 23 = .ok (.ifCond .ne 9, 3) := by decide +kernel
theorem dX7_combine_26 : decode cX7_combine 26 = .ok (.aload_n 0, 1) := by decide +kernel
theorem dX7_combine_27 : decode cX7_combine 27 = .ok (.iconst 1, 1) := by decide +kernel
theorem dX7_combine_28 : decode cX7_combine 28 = .ok (.invokevirtual 61, 3) := by decide +kernel
theorem dX7_combine_31 : decode cX7_combine 31 = .ok (.ireturn, 1) := by decide +kernel
theorem dX7_combine_32 : decode cX7_combine 32 = .ok (.iload 4, 2) := by decide +kernel
theorem dX7_combine_34 : decode cX7_combine 34 = .ok (.iconst 0, 1) := by decide +kernel
theorem dX7_combine_35 : decode cX7_combine 35 = .ok (.iconst 3, 1) := by decide +kernel
theorem dX7_combine_36 : decode cX7_combine 36 = .ok (.invokestatic 36, 3) := by decide +kernel
theorem dX7_combine_39 : decode cX7_combine 39 = .ok (.ifCond .ne 9, 3) := by decide +kernel
theorem dX7_combine_42 : decode cX7_combine 42 = .ok (.aload_n 0, 1) := by decide +kernel
theorem dX7_combine_43 : decode cX7_combine 43 = .ok (.iconst 2, 1) := by decide +kernel
theorem dX7_combine_44 : decode cX7_combine 44 = .ok (.invokevirtual 61, 3) := by decide +kernel
theorem dX7_combine_47 : decode cX7_combine 47 = .ok (.ireturn, 1) := by decide +kernel
theorem dX7_combine_48 : decode cX7_combine 48 = .ok (.sipush 4096, 3) := by decide +kernel
theorem dX7_combine_51 : decode cX7_combine 51 = .ok (.newarray .boolean, 2) := by decide +kernel
theorem dX7_combine_53 : decode cX7_combine 53 = .ok (.astore 5, 2) := by decide +kernel
theorem dX7_combine_55 : decode cX7_combine 55 = .ok (.iconst 0, 1) := by decide +kernel
theorem dX7_combine_56 : decode cX7_combine 56 = .ok (.istore 6, 2) := by decide +kernel
theorem dX7_combine_58 : decode cX7_combine 58 = .ok (.iload 6, 2) := by decide +kernel
theorem dX7_combine_60 : decode cX7_combine 60 = .ok (.sipush 4096, 3) := by decide +kernel
theorem dX7_combine_63 : decode cX7_combine 63 = .ok (.if_icmp .ge 119, 3) := by decide +kernel
theorem dX7_combine_66 : decode cX7_combine 66 = .ok (.aload_n 0, 1) := by decide +kernel
theorem dX7_combine_67 : decode cX7_combine 67 = .ok (.getfield 11, 3) := by decide +kernel
theorem dX7_combine_70 : decode cX7_combine 70 = .ok (.iload_n 2, 1) := by decide +kernel
theorem dX7_combine_71 : decode cX7_combine 71 = .ok (.aaload, 1) := by decide +kernel
theorem dX7_combine_72 : decode cX7_combine 72 = .ok (.iload 6, 2) := by decide +kernel
theorem dX7_combine_74 : decode cX7_combine 74 = .ok (.baload, 1) := by decide +kernel
theorem dX7_combine_75 : decode cX7_combine 75 = .ok (.istore 7, 2) := by decide +kernel
theorem dX7_combine_77 : decode cX7_combine 77 = .ok (.aload_n 0, 1) := by decide +kernel
theorem dX7_combine_78 : decode cX7_combine 78 = .ok (.getfield 11, 3) := by decide +kernel
theorem dX7_combine_81 : decode cX7_combine 81 = .ok (.iload_n 3, 1) := by decide +kernel
theorem dX7_combine_82 : decode cX7_combine 82 = .ok (.aaload, 1) := by decide +kernel
theorem dX7_combine_83 : decode cX7_combine 83 = .ok (.iload 6, 2) := by decide +kernel
theorem dX7_combine_85 : decode cX7_combine 85 = .ok (.baload, 1) := by decide +kernel
theorem dX7_combine_86 : decode cX7_combine 86 = .ok (.istore 8, 2) := by decide +kernel
theorem dX7_combine_88 : decode cX7_combine 88 = .ok (.aload 5, 2) := by decide +kernel
theorem dX7_combine_90 : decode cX7_combine 90 = .ok (.iload 6, 2) := by decide +kernel
theorem dX7_combine_92 : decode cX7_combine 92 = .ok (.iload 4, 2) := by decide +kernel
theorem dX7_combine_94 : decode cX7_combine 94 = .ok (.ifCond .ne 21, 3) := by decide +kernel
theorem dX7_combine_97 : decode cX7_combine 97 = .ok (.iload 7, 2) := by decide +kernel
theorem dX7_combine_99 : decode cX7_combine 99 = .ok (.ifCond .ne 8, 3) := by decide +kernel
theorem dX7_combine_102 : decode cX7_combine 102 = .ok (.iload 8, 2) := by decide +kernel
theorem dX7_combine_104 : decode cX7_combine 104 = .ok (.ifCond .eq 7, 3) := by decide +kernel
theorem dX7_combine_107 : decode cX7_combine 107 = .ok (.iconst 1, 1) := by decide +kernel
theorem dX7_combine_108 : decode cX7_combine 108 = .ok (.goto 67, 3) := by decide +kernel
theorem dX7_combine_111 : decode cX7_combine 111 = .ok (.iconst 0, 1) := by decide +kernel
theorem dX7_combine_112 : decode cX7_combine 112 = .ok (.goto 63, 3) := by decide +kernel
theorem dX7_combine_115 : decode cX7_combine 115 = .ok (.iload 4, 2) := by decide +kernel
theorem dX7_combine_117 : decode cX7_combine 117 = .ok (.iconst 1, 1) := by decide +kernel
theorem dX7_combine_118 : decode cX7_combine 118 = .ok (.if_icmp .ne 21, 3) := by decide +kernel
theorem dX7_combine_121 : decode cX7_combine 121 = .ok (.iload 7, 2) := by decide +kernel
theorem dX7_combine_123 : decode cX7_combine 123 = .ok (.ifCond .eq 12, 3) := by decide +kernel
theorem dX7_combine_126 : decode cX7_combine 126 = .ok (.iload 8, 2) := by decide +kernel
theorem dX7_combine_128 : decode cX7_combine 128 = .ok (.ifCond .eq 7, 3) := by decide +kernel
theorem dX7_combine_131 : decode cX7_combine 131 = .ok (.iconst 1, 1) := by decide +kernel
theorem dX7_combine_132 : decode cX7_combine 132 = .ok (.goto 43, 3) := by decide +kernel
theorem dX7_combine_135 : decode cX7_combine 135 = .ok (.iconst 0, 1) := by decide +kernel
theorem dX7_combine_136 : decode cX7_combine 136 = .ok (.goto 39, 3) := by decide +kernel
theorem dX7_combine_139 : decode cX7_combine 139 = .ok (.iload 4, 2) := by decide +kernel
theorem dX7_combine_141 : decode cX7_combine 141 = .ok (.iconst 2, 1) := by decide +kernel
theorem dX7_combine_142 : decode cX7_combine 142 = .ok (.if_icmp .ne 21, 3) := by decide +kernel
theorem dX7_combine_145 : decode cX7_combine 145 = .ok (.iload 7, 2) := by decide +kernel
theorem dX7_combine_147 : decode cX7_combine 147 = .ok (.ifCond .eq 12, 3) := by decide +kernel
theorem dX7_combine_150 : decode cX7_combine 150 = .ok (.iload 8, 2) := by decide +kernel
theorem dX7_combine_152 : decode cX7_combine 152 = .ok (.ifCond .ne 7, 3) := by decide +kernel
theorem dX7_combine_155 : decode cX7_combine 155 = .ok (.iconst 1, 1) := by decide +kernel
theorem dX7_combine_156 : decode cX7_combine 156 = .ok (.goto 19, 3) := by decide +kernel
theorem dX7_combine_159 : decode cX7_combine 159 = .ok (.iconst 0, 1) := by decide +kernel
theorem dX7_combine_160 : decode cX7_combine 160 = .ok (.goto 15, 3) := by decide +kernel
theorem dX7_combine_163 : decode cX7_combine 163 = .ok (.iload 7, 2) := by decide +kernel
theorem dX7_combine_165 : decode cX7_combine 165 = .ok (.iload 8, 2) := by decide +kernel
theorem dX7_combine_167 : decode cX7_combine 167 = .ok (.if_icmp .eq 7, 3) := by decide +kernel
theorem dX7_combine_170 : decode cX7_combine 170 = .ok (.iconst 1, 1) := by decide +kernel
theorem dX7_combine_171 : decode cX7_combine 171 = .ok (.goto 4, 3) := by decide +kernel
theorem dX7_combine_174 : decode cX7_combine 174 = .ok (.iconst 0, 1) := by decide +kernel
theorem dX7_combine_175 : decode cX7_combine 175 = .ok (.bastore, 1) := by decide +kernel
theorem dX7_combine_176 : decode cX7_combine 176 = .ok (.iinc 6 1, 3) := by decide +kernel
theorem dX7_combine_179 : decode cX7_combine 179 = .ok (.goto (-121), 3) := by decide +kernel
theorem dX7_combine_182 : decode cX7_combine 182 = .ok (.aload_n 0, 1) := by decide +kernel
theorem dX7_combine_183 : decode cX7_combine 183 = .ok (.iload_n 1, 1) := by decide +kernel
theorem dX7_combine_184 : decode cX7_combine 184 = .ok (.aload 5, 2) := by decide +kernel
theorem dX7_combine_186 : decode cX7_combine 186 = .ok (.invokevirtual 84, 3) := by decide +kernel
theorem dX7_combine_189 : decode cX7_combine 189 = .ok (.ireturn, 1) := by decide +kernel
theorem dX7_move_0 : decode cX7_move 0 = .ok (.aload_n 0, 1) := by decide +kernel
theorem dX7_move_1 : decode cX7_move 1 = .ok (.iconst 0, 1) := by decide +kernel
theorem dX7_move_2 : decode cX7_move 2 = .ok (.putfield 33, 3) := by decide +kernel
theorem dX7_move_5 : decode cX7_move 5 = .ok (.iload_n 1, 1) := by decide +kernel
theorem dX7_move_6 : decode cX7_move 6 = .ok (.invokestatic 76, 3) := by decide +kernel
theorem dX7_move_9 : decode cX7_move 9 = .ok (.ifCond .ne 9, 3) := by decide +kernel
theorem dX7_move_12 : decode cX7_move 12 = .ok (.aload_n 0, 1) := by decide +kernel
theorem dX7_move_13 : decode cX7_move 13 = .ok (.iconst 1, 1) := by decide +kernel
theorem dX7_move_14 : decode cX7_move 14 = .ok (.invokevirtual 61, 3) := by decide +kernel
theorem dX7_move_17 : decode cX7_move 17 = .ok (.ireturn, 1) := by decide +kernel
theorem dX7_move_18 : decode cX7_move 18 = .ok (.iload_n 2, 1) := by decide +kernel
theorem dX7_move_19 : decode cX7_move 19 = .ok (.bipush (-64), 2) := by decide +kernel
theorem dX7_move_21 : decode cX7_move 21 = .ok (.bipush 64, 2) := by decide +kernel
theorem dX7_move_23 : decode cX7_move 23 = .ok (.invokestatic 36, 3) := by decide +kernel
theorem dX7_move_26 : decode cX7_move 26 = .ok (.ifCond .eq 14, 3) := by decide +kernel
theorem dX7_move_29 : decode cX7_move 29 = .ok (.iload_n 3, 1) := by decide +kernel
theorem dX7_move_30 : decode cX7_move 30 = .ok (.bipush (-64), 2) := by decide +kernel
theorem dX7_move_32 : decode cX7_move 32 = .ok (.bipush 64, 2) := by decide +kernel
theorem dX7_move_34 : decode cX7_move 34 = .ok (.invokestatic 36, 3) := by decide +kernel
theorem dX7_move_37 : decode cX7_move 37 = .ok (.ifCond .ne 9, 3) := by decide +kernel
theorem dX7_move_40 : decode cX7_move 40 = .ok (.aload_n 0, 1) := by decide +kernel
theorem dX7_move_41 : decode cX7_move 41 = .ok (.iconst 2, 1) := by decide +kernel
theorem dX7_move_42 : decode cX7_move 42 = .ok (.invokevirtual 61, 3) := by decide +kernel
theorem dX7_move_45 : decode cX7_move 45 = .ok (.ireturn, 1) := by decide +kernel
theorem dX7_move_46 : decode cX7_move 46 = .ok (.sipush 4096, 3) := by decide +kernel
theorem dX7_move_49 : decode cX7_move 49 = .ok (.newarray .boolean, 2) := by decide +kernel
theorem dX7_move_51 : decode cX7_move 51 = .ok (.astore 4, 2) := by decide +kernel
theorem dX7_move_53 : decode cX7_move 53 = .ok (.bipush (-32), 2) := by decide +kernel
theorem dX7_move_55 : decode cX7_move 55 = .ok (.istore 5, 2) := by decide +kernel
theorem dX7_move_57 : decode cX7_move 57 = .ok (.iload 5, 2) := by decide +kernel
theorem dX7_move_59 : decode cX7_move 59 = .ok (.bipush 31, 2) := by decide +kernel
theorem dX7_move_61 : decode cX7_move 61 = .ok (.if_icmp .gt 81, 3) := by decide +kernel
theorem dX7_move_64 : decode cX7_move 64 = .ok (.bipush (-32), 2) := by decide +kernel
theorem dX7_move_66 : decode cX7_move 66 = .ok (.istore 6, 2) := by decide +kernel
theorem dX7_move_68 : decode cX7_move 68 = .ok (.iload 6, 2) := by decide +kernel
theorem dX7_move_70 : decode cX7_move 70 = .ok (.bipush 31, 2) := by decide +kernel
theorem dX7_move_72 : decode cX7_move 72 = .ok (.if_icmp .gt 64, 3) := by decide +kernel
theorem dX7_move_75 : decode cX7_move 75 = .ok (.aload_n 0, 1) := by decide +kernel
theorem dX7_move_76 : decode cX7_move 76 = .ok (.getfield 11, 3) := by decide +kernel
theorem dX7_move_79 : decode cX7_move 79 = .ok (.iload_n 1, 1) := by decide +kernel
theorem dX7_move_80 : decode cX7_move 80 = .ok (.aaload, 1) := by decide +kernel
theorem dX7_move_81 : decode cX7_move 81 = .ok (.iload 5, 2) := by decide +kernel
theorem dX7_move_83 : decode cX7_move 83 = .ok (.iload 6, 2) := by decide +kernel
theorem dX7_move_85 : decode cX7_move 85 = .ok (.invokestatic 44, 3) := by decide +kernel
theorem dX7_move_88 : decode cX7_move 88 = .ok (.baload, 1) := by decide +kernel
theorem dX7_move_89 : decode cX7_move 89 = .ok (.ifCond .ne 6, 3) := by decide +kernel
theorem dX7_move_92 : decode cX7_move 92 = .ok (.goto 38, 3) := by decide +kernel
theorem dX7_move_95 : decode cX7_move 95 = .ok (.iload 5, 2) := by decide +kernel
theorem dX7_move_97 : decode cX7_move 97 = .ok (.iload_n 2, 1) := by decide +kernel
theorem dX7_move_98 : decode cX7_move 98 = .ok (.iadd, 1) := by decide +kernel
theorem dX7_move_99 : decode cX7_move 99 = .ok (.iload 6, 2) := by decide +kernel
theorem dX7_move_101 : decode cX7_move 101 = .ok (.iload_n 3, 1) := by decide +kernel
theorem dX7_move_102 : decode cX7_move 102 = .ok (.iadd, 1) := by decide +kernel
theorem dX7_move_103 : decode cX7_move 103 = .ok (.invokestatic 40, 3) := by decide +kernel
theorem dX7_move_106 : decode cX7_move 106 = .ok (.ifCond .ne 9, 3) := by decide +kernel
theorem dX7_move_109 : decode cX7_move 109 = .ok (.aload_n 0, 1) := by decide +kernel
theorem dX7_move_110 : decode cX7_move 110 = .ok (.iconst 3, 1) := by decide +kernel
theorem dX7_move_111 : decode cX7_move 111 = .ok (.invokevirtual 61, 3) := by decide +kernel
theorem dX7_move_114 : decode cX7_move 114 = .ok (.ireturn, 1) := by decide +kernel
theorem dX7_move_115 : decode cX7_move 115 = .ok (.aload 4, 2) := by decide +kernel
theorem dX7_move_117 : decode cX7_move 117 = .ok (.iload 5, 2) := by decide +kernel
theorem dX7_move_119 : decode cX7_move 119 = .ok (.iload_n 2, 1) := by decide +kernel
theorem dX7_move_120 : decode cX7_move 120 = .ok (.iadd, 1) := by decide +kernel
theorem dX7_move_121 : decode cX7_move 121 = .ok (.iload 6, 2) := by decide +kernel
theorem dX7_move_123 : decode cX7_move 123 = .ok (.iload_n 3, 1) := by decide +kernel
theorem dX7_move_124 : decode cX7_move 124 = .ok (.iadd, 1) := by decide +kernel
theorem dX7_move_125 : decode cX7_move 125 = .ok (.invokestatic 44, 3) := by decide +kernel
theorem dX7_move_128 : decode cX7_move 128 = .ok (.iconst 1, 1) := by decide +kernel
theorem dX7_move_129 : decode cX7_move 129 = .ok (.bastore, 1) := by decide +kernel
theorem dX7_move_130 : decode cX7_move 130 = .ok (.iinc 6 1, 3) := by decide +kernel
theorem dX7_move_133 : decode cX7_move 133 = .ok (.goto (-65), 3) := by decide +kernel
theorem dX7_move_136 : decode cX7_move 136 = .ok (.iinc 5 1, 3) := by decide +kernel
theorem dX7_move_139 : decode cX7_move 139 = .ok (.goto (-82), 3) := by decide +kernel
theorem dX7_move_142 : decode cX7_move 142 = .ok (.aload_n 0, 1) := by decide +kernel
theorem dX7_move_143 : decode cX7_move 143 = .ok (.iload_n 1, 1) := by decide +kernel
theorem dX7_move_144 : decode cX7_move 144 = .ok (.aload 4, 2) := by decide +kernel
theorem dX7_move_146 : decode cX7_move 146 = .ok (.invokevirtual 84, 3) := by decide +kernel
theorem dX7_move_149 : decode cX7_move 149 = .ok (.ireturn, 1) := by decide +kernel
theorem dX7_turn_0 : decode cX7_turn 0 = .ok (.aload_n 0, 1) := by decide +kernel
theorem dX7_turn_1 : decode cX7_turn 1 = .ok (.iconst 0, 1) := by decide +kernel
theorem dX7_turn_2 : decode cX7_turn 2 = .ok (.putfield 33, 3) := by decide +kernel
theorem dX7_turn_5 : decode cX7_turn 5 = .ok (.iload_n 1, 1) := by decide +kernel
theorem dX7_turn_6 : decode cX7_turn 6 = .ok (.invokestatic 76, 3) := by decide +kernel
theorem dX7_turn_9 : decode cX7_turn 9 = .ok (.ifCond .ne 9, 3) := by decide +kernel
theorem dX7_turn_12 : decode cX7_turn 12 = .ok (.aload_n 0, 1) := by decide +kernel
theorem dX7_turn_13 : decode cX7_turn 13 = .ok (.iconst 1, 1) := by decide +kernel
theorem dX7_turn_14 : decode cX7_turn 14 = .ok (.invokevirtual 61, 3) := by decide +kernel
theorem dX7_turn_17 : decode cX7_turn 17 = .ok (.ireturn, 1) := by decide +kernel
theorem dX7_turn_18 : decode cX7_turn 18 = .ok (.iload_n 2, 1) := by decide +kernel
theorem dX7_turn_19 : decode cX7_turn 19 = .ok (.iconst 0, 1) := by decide +kernel
theorem dX7_turn_20 : decode cX7_turn 20 = .ok (.iconst 3, 1) := by decide +kernel
theorem dX7_turn_21 : decode cX7_turn 21 = .ok (.invokestatic 36, 3) := by decide +kernel
theorem dX7_turn_24 : decode cX7_turn 24 = .ok (.ifCond .ne 9, 3) := by decide +kernel
theorem dX7_turn_27 : decode cX7_turn 27 = .ok (.aload_n 0, 1) := by decide +kernel
theorem dX7_turn_28 : decode cX7_turn 28 = .ok (.iconst 2, 1) := by decide +kernel
theorem dX7_turn_29 : decode cX7_turn 29 = .ok (.invokevirtual 61, 3) := by decide +kernel
theorem dX7_turn_32 : decode cX7_turn 32 = .ok (.ireturn, 1) := by decide +kernel
theorem dX7_turn_33 : decode cX7_turn 33 = .ok (.aload_n 0, 1) := by decide +kernel
theorem dX7_turn_34 : decode cX7_turn 34 = .ok (.getfield 11, 3) := by decide +kernel
theorem dX7_turn_37 : decode cX7_turn 37 = .ok (.iload_n 1, 1) := by decide +kernel
theorem dX7_turn_38 : decode cX7_turn 38 = .ok (.aaload, 1) := by decide +kernel
theorem dX7_turn_39 : decode cX7_turn 39 = .ok (.astore_n 3, 1) := by decide +kernel
theorem dX7_turn_40 : decode cX7_turn 40 = .ok (.iconst 0, 1) := by decide +kernel
theorem dX7_turn_41 : decode cX7_turn 41 = .ok (.istore 4, 2) := by decide +kernel
theorem dX7_turn_43 : decode cX7_turn 43 = .ok (.iload 4, 2) := by decide +kernel
theorem dX7_turn_45 : decode cX7_turn 45 = .ok (.iload_n 2, 1) := by decide +kernel
theorem dX7_turn_46 : decode cX7_turn 46 = .ok (.if_icmp .ge 75, 3) := by decide +kernel
theorem dX7_turn_49 : decode cX7_turn 49 = .ok (.sipush 4096, 3) := by decide +kernel
theorem dX7_turn_52 : decode cX7_turn 52 = .ok (.newarray .boolean, 2) := by decide +kernel
theorem dX7_turn_54 : decode cX7_turn 54 = .ok (.astore 5, 2) := by decide +kernel
theorem dX7_turn_56 : decode cX7_turn 56 = .ok (.bipush (-32), 2) := by decide +kernel
theorem dX7_turn_58 : decode cX7_turn 58 = .ok (.istore 6, 2) := by decide +kernel
theorem dX7_turn_60 : decode cX7_turn 60 = .ok (.iload 6, 2) := by decide +kernel
theorem dX7_turn_62 : decode cX7_turn 62 = .ok (.bipush 31, 2) := by decide +kernel
theorem dX7_turn_64 : decode cX7_turn 64 = .ok (.if_icmp .gt 48, 3) := by decide +kernel
theorem dX7_turn_67 : decode cX7_turn 67 = .ok (.bipush (-32), 2) := by decide +kernel
theorem dX7_turn_69 : decode cX7_turn 69 = .ok (.istore 7, 2) := by decide +kernel
theorem dX7_turn_71 : decode cX7_turn 71 = .ok (.iload 7, 2) := by decide +kernel
theorem dX7_turn_73 : decode cX7_turn 73 = .ok (.bipush 31, 2) := by decide +kernel
theorem dX7_turn_75 : decode cX7_turn 75 = .ok (.if_icmp .gt 31, 3) := by decide +kernel
theorem dX7_turn_78 : decode cX7_turn 78 = .ok (.aload 5, 2) := by decide +kernel
theorem dX7_turn_80 : decode cX7_turn 80 = .ok (.iload 7, 2) := by decide +kernel
theorem dX7_turn_82 : decode cX7_turn 82 = .ok (.ineg, 1) := by decide +kernel
theorem dX7_turn_83 : decode cX7_turn 83 = .ok (.iconst 1, 1) := by decide +kernel
theorem dX7_turn_84 : decode cX7_turn 84 = .ok (.isub, 1) := by decide +kernel
theorem dX7_turn_85 : decode cX7_turn 85 = .ok (.iload 6, 2) := by decide +kernel
theorem dX7_turn_87 : decode cX7_turn 87 = .ok (.invokestatic 44, 3) := by decide +kernel
theorem dX7_turn_90 : decode cX7_turn 90 = .ok (.aload_n 3, 1) := by decide +kernel
theorem dX7_turn_91 : decode cX7_turn 91 = .ok (.iload 6, 2) := by decide +kernel
theorem dX7_turn_93 : decode cX7_turn 93 = .ok (.iload 7, 2) := by decide +kernel
theorem dX7_turn_95 : decode cX7_turn 95 = .ok (.invokestatic 44, 3) := by decide +kernel
theorem dX7_turn_98 : decode cX7_turn 98 = .ok (.baload, 1) := by decide +kernel
theorem dX7_turn_99 : decode cX7_turn 99 = .ok (.bastore, 1) := by decide +kernel
theorem dX7_turn_100 : decode cX7_turn 100 = .ok (.iinc 7 1, 3) := by decide +kernel
theorem dX7_turn_103 : decode cX7_turn 103 = .ok (.goto (-32), 3) := by decide +kernel
theorem dX7_turn_106 : decode cX7_turn 106 = .ok (.iinc 6 1, 3) := by decide +kernel
theorem dX7_turn_109 : decode cX7_turn 109 = .ok (.goto (-49), 3) := by decide +kernel
theorem dX7_turn_112 : decode cX7_turn 112 = .ok (.aload 5, 2) := by decide +kernel
theorem dX7_turn_114 : decode cX7_turn 114 = .ok (.astore_n 3, 1) := by decide +kernel
theorem dX7_turn_115 : decode cX7_turn 115 = .ok (.iinc 4 1, 3) := by decide +kernel
theorem dX7_turn_118 : decode cX7_turn 118 = .ok (.goto (-75), 3) := by decide +kernel
theorem dX7_turn_121 : decode cX7_turn 121 = .ok (.aload_n 0, 1) := by decide +kernel
theorem dX7_turn_122 : decode cX7_turn 122 = .ok (.iload_n 1, 1) := by decide +kernel
theorem dX7_turn_123 : decode cX7_turn 123 = .ok (.aload_n 3, 1) := by decide +kernel
theorem dX7_turn_124 : decode cX7_turn 124 = .ok (.invokevirtual 84, 3) := by decide +kernel
theorem dX7_turn_127 : decode cX7_turn 127 = .ok (.ireturn, 1) := by decide +kernel
theorem dX7_mirror_0 : decode cX7_mirror 0 = .ok (.aload_n 0, 1) := by decide +kernel
theorem dX7_mirror_1 : decode cX7_mirror 1 = .ok (.iconst 0, 1) := by decide +kernel
theorem dX7_mirror_2 : decode cX7_mirror 2 = .ok (.putfield 33, 3) := by decide +kernel
theorem dX7_mirror_5 : decode cX7_mirror 5 = .ok (.iload_n 1, 1) := by decide +kernel
theorem dX7_mirror_6 : decode cX7_mirror 6 = .ok (.invokestatic 76, 3) := by decide +kernel
theorem dX7_mirror_9 : decode cX7_mirror 9 = .ok (.ifCond .ne 9, 3) := by decide +kernel
theorem dX7_mirror_12 : decode cX7_mirror 12 = .ok (.aload_n 0, 1) := by decide +kernel
theorem dX7_mirror_13 : decode cX7_mirror 13 = .ok (.iconst 1, 1) := by decide +kernel
theorem dX7_mirror_14 : decode cX7_mirror 14 = .ok (.invokevirtual 61, 3) := by decide +kernel
theorem dX7_mirror_17 : decode cX7_mirror 17 = .ok (.ireturn, 1) := by decide +kernel
theorem dX7_mirror_18 : decode cX7_mirror 18 = .ok (.sipush 4096, 3) := by decide +kernel
theorem dX7_mirror_21 : decode cX7_mirror 21 = .ok (.newarray .boolean, 2) := by decide +kernel
theorem dX7_mirror_23 : decode cX7_mirror 23 = .ok (.astore_n 2, 1) := by decide +kernel
theorem dX7_mirror_24 : decode cX7_mirror 24 = .ok (.bipush (-32), 2) := by decide +kernel
theorem dX7_mirror_26 : decode cX7_mirror 26 = .ok (.istore_n 3, 1) := by decide +kernel
theorem dX7_mirror_27 : decode cX7_mirror 27 = .ok (.iload_n 3, 1) := by decide +kernel
theorem dX7_mirror_28 : decode cX7_mirror 28 = .ok (.bipush 31, 2) := by decide +kernel
theorem dX7_mirror_30 : decode cX7_mirror 30 = .ok (.if_icmp .gt 50, 3) := by decide +kernel
theorem dX7_mirror_33 : decode cX7_mirror 33 = .ok (.bipush (-32), 2) := by decide +kernel
theorem dX7_mirror_35 : decode cX7_mirror 35 = .ok (.istore 4, 2) := by decide +kernel
theorem dX7_mirror_37 : decode cX7_mirror 37 = .ok (.iload 4, 2) := by decide +kernel
theorem dX7_mirror_39 : decode cX7_mirror 39 = .ok (.bipush 31, 2) := by decide +kernel
theorem dX7_mirror_41 : decode cX7_mirror 41 = .ok (.if_icmp .gt 33, 3) := by decide +kernel
theorem dX7_mirror_44 : decode cX7_mirror 44 = .ok (.aload_n 2, 1) := by decide +kernel
theorem dX7_mirror_45 : decode cX7_mirror 45 = .ok (.iload_n 3, 1) := by decide +kernel
theorem dX7_mirror_46 : decode cX7_mirror 46 = .ok (.ineg, 1) := by decide +kernel
theorem dX7_mirror_47 : decode cX7_mirror 47 = .ok (.iconst 1, 1) := by decide +kernel
theorem dX7_mirror_48 : decode cX7_mirror 48 = .ok (.isub, 1) := by decide +kernel
theorem dX7_mirror_49 : decode cX7_mirror 49 = .ok (.iload 4, 2) := by decide +kernel
theorem dX7_mirror_51 : decode cX7_mirror 51 = .ok (.invokestatic 44, 3) := by decide +kernel
theorem dX7_mirror_54 : decode cX7_mirror 54 = .ok (.aload_n 0, 1) := by decide +kernel
theorem dX7_mirror_55 : decode cX7_mirror 55 = .ok (.getfield 11, 3) := by decide +kernel
theorem dX7_mirror_58 : decode cX7_mirror 58 = .ok (.iload_n 1, 1) := by decide +kernel
theorem dX7_mirror_59 : decode cX7_mirror 59 = .ok (.aaload, 1) := by decide +kernel
theorem dX7_mirror_60 : decode cX7_mirror 60 = .ok (.iload_n 3, 1) := by decide +kernel
theorem dX7_mirror_61 : decode cX7_mirror 61 = .ok (.iload 4, 2) := by decide +kernel
theorem dX7_mirror_63 : decode cX7_mirror 63 = .ok (.invokestatic 44, 3) := by decide +kernel
theorem dX7_mirror_66 : decode cX7_mirror 66 = .ok (.baload, 1) := by decide +kernel
theorem dX7_mirror_67 : decode cX7_mirror 67 = .ok (.bastore, 1) := by decide +kernel
theorem dX7_mirror_68 : decode cX7_mirror 68 = .ok (.iinc 4 1, 3) := by decide +kernel
theorem dX7_mirror_71 : decode cX7_mirror 71 = .ok (.goto (-34), 3) := by decide +kernel
theorem dX7_mirror_74 : decode cX7_mirror 74 = .ok (.iinc 3 1, 3) := by decide +kernel
theorem dX7_mirror_77 : decode cX7_mirror 77 = .ok (.goto (-50), 3) := by decide +kernel
theorem dX7_mirror_80 : decode cX7_mirror 80 = .ok (.aload_n 0, 1) := by decide +kernel
theorem dX7_mirror_81 : decode cX7_mirror 81 = .ok (.iload_n 1, 1) := by decide +kernel
theorem dX7_mirror_82 : decode cX7_mirror 82 = .ok (.aload_n 2, 1) := by decide +kernel
theorem dX7_mirror_83 : decode cX7_mirror 83 = .ok (.invokevirtual 84, 3) := by decide +kernel
theorem dX7_mirror_86 : decode cX7_mirror 86 = .ok (.ireturn, 1) := by decide +kernel
theorem dX7_distance_0 : decode cX7_distance 0 = .ok (.iload_n 2, 1) := by decide +kernel
theorem dX7_distance_1 : decode cX7_distance 1 = .ok (.ifCond .ne 17, 3) := by decide +kernel
theorem dX7_distance_4 : decode cX7_distance 4 = .ok (.iload_n 0, 1) := by decide +kernel
theorem dX7_distance_5 : decode cX7_distance 5 = .ok (.invokestatic 88, 3) := by decide +kernel
theorem dX7_distance_8 : decode cX7_distance 8 = .ok (.iload_n 1, 1) := by decide +kernel
theorem dX7_distance_9 : decode cX7_distance 9 = .ok (.invokestatic 88, 3) := by decide +kernel
theorem dX7_distance_12 : decode cX7_distance 12 = .ok (.invokestatic 73, 3) := by decide +kernel
theorem dX7_distance_15 : decode cX7_distance 15 = .ok (.goto 12, 3) := by decide +kernel
theorem dX7_distance_18 : decode cX7_distance 18 = .ok (.iload_n 0, 1) := by decide +kernel
theorem dX7_distance_19 : decode cX7_distance 19 = .ok (.invokestatic 88, 3) := by decide +kernel
theorem dX7_distance_22 : decode cX7_distance 22 = .ok (.iload_n 1, 1) := by decide +kernel
theorem dX7_distance_23 : decode cX7_distance 23 = .ok (.invokestatic 88, 3) := by decide +kernel
theorem dX7_distance_26 : decode cX7_distance 26 = .ok (.iadd, 1) := by decide +kernel
theorem dX7_distance_27 : decode cX7_distance 27 = .ok (.ireturn, 1) := by decide +kernel
theorem dX7_grow_0 : decode cX7_grow 0 = .ok (.aload_n 0, 1) := by decide +kernel
theorem dX7_grow_1 : decode cX7_grow 1 = .ok (.iconst 0, 1) := by decide +kernel
theorem dX7_grow_2 : decode cX7_grow 2 = .ok (.putfield 33, 3) := by decide +kernel
theorem dX7_grow_5 : decode cX7_grow 5 = .ok (.iload_n 1, 1) := by decide +kernel
theorem dX7_grow_6 : decode cX7_grow 6 = .ok (.invokestatic 76, 3) := by decide +kernel
theorem dX7_grow_9 : decode cX7_grow 9 = .ok (.ifCond .ne 9, 3) := by decide +kernel
theorem dX7_grow_12 : decode cX7_grow 12 = .ok (.aload_n 0, 1) := by decide +kernel
theorem dX7_grow_13 : decode cX7_grow 13 = .ok (.iconst 1, 1) := by decide +kernel
theorem dX7_grow_14 : decode cX7_grow 14 = .ok (.invokevirtual 61, 3) := by decide +kernel
theorem dX7_grow_17 : decode cX7_grow 17 = .ok (.ireturn, 1) := by decide +kernel
theorem dX7_grow_18 : decode cX7_grow 18 = .ok (.iload_n 2, 1) := by decide +kernel
theorem dX7_grow_19 : decode cX7_grow 19 = .ok (.iconst 0, 1) := by decide +kernel
theorem dX7_grow_20 : decode cX7_grow 20 = .ok (.bipush 8, 2) := by decide +kernel
theorem dX7_grow_22 : decode cX7_grow 22 = .ok (.invokestatic 36, 3) := by decide +kernel
theorem dX7_grow_25 : decode cX7_grow 25 = .ok (.ifCond .eq 12, 3) := by decide +kernel
theorem dX7_grow_28 : decode cX7_grow 28 = .ok (.iload_n 3, 1) := by decide +kernel
theorem dX7_grow_29 : decode cX7_grow 29 = .ok (.iconst 0, 1) := by decide +kernel
theorem dX7_grow_30 : decode cX7_grow 30 = .ok (.iconst 1, 1) := by decide +kernel
theorem dX7_grow_31 : decode cX7_grow 31 = .ok (.invokestatic 36, 3) := by decide +kernel
theorem dX7_grow_34 : decode cX7_grow 34 = .ok (.ifCond .ne 9, 3) := by decide +kernel
theorem dX7_grow_37 : decode cX7_grow 37 = .ok (.aload_n 0, 1) := by decide +kernel
theorem dX7_grow_38 : decode cX7_grow 38 = .ok (.iconst 2, 1) := by decide +kernel
theorem dX7_grow_39 : decode cX7_grow 39 = .ok (.invokevirtual 61, 3) := by decide +kernel
theorem dX7_grow_42 : decode cX7_grow 42 = .ok (.ireturn, 1) := by decide +kernel
theorem dX7_grow_43 : decode cX7_grow 43 = .ok (.sipush 4096, 3) := by decide +kernel
theorem dX7_grow_46 : decode cX7_grow 46 = .ok (.newarray .boolean, 2) := by decide +kernel
theorem dX7_grow_48 : decode cX7_grow 48 = .ok (.astore 4, 2) := by decide +kernel
theorem dX7_grow_50 : decode cX7_grow 50 = .ok (.bipush (-32), 2) := by decide +kernel
theorem dX7_grow_52 : decode cX7_grow 52 = .ok (.istore 5, 2) := by decide +kernel
theorem dX7_grow_54 : decode cX7_grow 54 = .ok (.iload 5, 2) := by decide +kernel
theorem dX7_grow_56 : decode cX7_grow 56 = .ok (.bipush 31, 2) := by decide +kernel
theorem dX7_grow_58 : decode cX7_grow 58 = .ok (.if_icmp .gt 141, 3) := by decide +kernel
theorem dX7_grow_61 : decode cX7_grow 61 = .ok (.bipush (-32), 2) := by decide +kernel
theorem dX7_grow_63 : decode cX7_grow 63 = .ok (.istore 6, 2) := by decide +kernel
theorem dX7_grow_65 : decode cX7_grow 65 = .ok (.iload 6, 2) := by decide +kernel
theorem dX7_grow_67 : decode cX7_grow 67 = .ok (.bipush 31, 2) := by decide +kernel
theorem dX7_grow_69 : decode cX7_grow 69 = .ok (.if_icmp .gt 124, 3) := by decide +kernel
theorem dX7_grow_72 : decode cX7_grow 72 = .ok (.aload_n 0, 1) := by decide +kernel
theorem dX7_grow_73 : decode cX7_grow 73 = .ok (.getfield 11, 3) := by decide +kernel
theorem dX7_grow_76 : decode cX7_grow 76 = .ok (.iload_n 1, 1) := by decide +kernel
theorem dX7_grow_77 : decode cX7_grow 77 = .ok (.aaload, 1) := by decide +kernel
theorem dX7_grow_78 : decode cX7_grow 78 = .ok (.iload 5, 2) := by decide +kernel
theorem dX7_grow_80 : decode cX7_grow 80 = .ok (.iload 6, 2) := by decide +kernel
theorem dX7_grow_82 : decode cX7_grow 82 = .ok (.invokestatic 44, 3) := by decide +kernel
theorem dX7_grow_85 : decode cX7_grow 85 = .ok (.baload, 1) := by decide +kernel
theorem dX7_grow_86 : decode cX7_grow 86 = .ok (.ifCond .ne 6, 3) := by decide +kernel
theorem dX7_grow_89 : decode cX7_grow 89 = .ok (.goto 98, 3) := by decide +kernel
theorem dX7_grow_92 : decode cX7_grow 92 = .ok (.iload 5, 2) := by decide +kernel
theorem dX7_grow_94 : decode cX7_grow 94 = .ok (.iload_n 2, 1) := by decide +kernel
theorem dX7_grow_95 : decode cX7_grow 95 = .ok (.isub, 1) := by decide +kernel
theorem dX7_grow_96 : decode cX7_grow 96 = .ok (.iload 6, 2) := by decide +kernel
theorem dX7_grow_98 : decode cX7_grow 98 = .ok (.iload_n 2, 1) := by decide +kernel
theorem dX7_grow_99 : decode cX7_grow 99 = .ok (.isub, 1) := by decide +kernel
theorem dX7_grow_100 : decode cX7_grow 100 = .ok (.invokestatic 40, 3) := by decide +kernel
theorem dX7_grow_103 : decode cX7_grow 103 = .ok (.ifCond .eq 17, 3) := by decide +kernel
theorem dX7_grow_106 : decode cX7_grow 106 = .ok (.iload 5, 2) := by decide +kernel
theorem dX7_grow_108 : decode cX7_grow 108 = .ok (.iload_n 2, 1) := by decide +kernel
theorem dX7_grow_109 : decode cX7_grow 109 = .ok (.iadd, 1) := by decide +kernel
theorem dX7_grow_110 : decode cX7_grow 110 = .ok (.iload 6, 2) := by decide +kernel
theorem dX7_grow_112 : decode cX7_grow 112 = .ok (.iload_n 2, 1) := by decide +kernel
theorem dX7_grow_113 : decode cX7_grow 113 = .ok (.iadd, 1) := by decide +kernel
theorem dX7_grow_114 : decode cX7_grow 114 = .ok (.invokestatic 40, 3) := by decide +kernel
theorem dX7_grow_117 : decode cX7_grow 117 = .ok (.ifCond .ne 9, 3) := by decide +kernel
theorem dX7_grow_120 : decode cX7_grow 120 = .ok (.aload_n 0, 1) := by decide +kernel
theorem dX7_grow_121 : decode cX7_grow 121 = .ok (.iconst 3, 1) := by decide +kernel
theorem dX7_grow_122 : decode cX7_grow 122 = .ok (.invokevirtual 61, 3) := by decide +kernel
theorem dX7_grow_125 : decode cX7_grow 125 = .ok (.ireturn, 1) := by decide +kernel
theorem dX7_grow_126 : decode cX7_grow 126 = .ok (.iload_n 2, 1) := by decide +kernel
theorem dX7_grow_127 : decode cX7_grow 127 = .ok (.ineg, 1) := by decide +kernel
theorem dX7_grow_128 : decode cX7_grow 128 = .ok (.istore 7, 2) := by decide +kernel
theorem dX7_grow_130 : decode cX7_grow 130 = .ok (.iload 7, 2) := by decide +kernel
theorem dX7_grow_132 : decode cX7_grow 132 = .ok (.iload_n 2, 1) := by decide +kernel
theorem dX7_grow_133 : decode cX7_grow 133 = .ok (.if_icmp .gt 54, 3) := by decide +kernel
theorem dX7_grow_136 : decode cX7_grow 136 = .ok (.iload_n 2, 1) := by decide +kernel
theorem dX7_grow_137 : decode cX7_grow 137 = .ok (.ineg, 1) := by decide +kernel
theorem dX7_grow_138 : decode cX7_grow 138 = .ok (.istore 8, 2) := by decide +kernel
theorem dX7_grow_140 : decode cX7_grow 140 = .ok (.iload 8, 2) := by decide +kernel
theorem dX7_grow_142 : decode cX7_grow 142 = .ok (.iload_n 2, 1) := by decide +kernel
theorem dX7_grow_143 : decode cX7_grow 143 = .ok (.if_icmp .gt 38, 3) := by decide +kernel
theorem dX7_grow_146 : decode cX7_grow 146 = .ok (.iload 7, 2) := by decide +kernel
theorem dX7_grow_148 : decode cX7_grow 148 = .ok (.iload 8, 2) := by decide +kernel
theorem dX7_grow_150 : decode cX7_grow 150 = .ok (.iload_n 3, 1) := by decide +kernel
theorem dX7_grow_151 : decode cX7_grow 151 = .ok (.invokestatic 91, 3) := by decide +kernel
theorem dX7_grow_154 : decode cX7_grow 154 = .ok (.iload_n 2, 1) := by decide +kernel
theorem dX7_grow_155 : decode cX7_grow 155 = .ok (.if_icmp .gt 20, 3) := by decide +kernel
theorem dX7_grow_158 : decode cX7_grow 158 = .ok (.aload 4, 2) := by decide +kernel
theorem dX7_grow_160 : decode cX7_grow 160 = .ok (.iload 5, 2) := by decide +kernel
theorem dX7_grow_162 : decode cX7_grow 162 = .ok (.iload 7, 2) := by decide +kernel
theorem dX7_grow_164 : decode cX7_grow 164 = .ok (.iadd, 1) := by decide +kernel
theorem dX7_grow_165 : decode cX7_grow 165 = .ok (.iload 6, 2) := by decide +kernel
theorem dX7_grow_167 : decode cX7_grow 167 = .ok (.iload 8, 2) := by decide +kernel
theorem dX7_grow_169 : decode cX7_grow 169 = .ok (.iadd, 1) := by decide +kernel
theorem dX7_grow_170 : decode cX7_grow 170 = .ok (.invokestatic 44, 3) := by decide +kernel
theorem dX7_grow_173 : decode cX7_grow 173 = .ok (.iconst 1, 1) := by decide +kernel
theorem dX7_grow_174 : decode cX7_grow 174 = .ok (.bastore, 1) := by decide +kernel
theorem dX7_grow_175 : decode cX7_grow 175 = .ok (.iinc 8 1, 3) := by decide +kernel
theorem dX7_grow_178 : decode cX7_grow 178 = .ok (.goto (-38), 3) := by decide +kernel
theorem dX7_grow_181 : decode cX7_grow 181 = .ok (.iinc 7 1, 3) := by decide +kernel
theorem dX7_grow_184 : decode cX7_grow 184 = .ok (.goto (-54), 3) := by decide +kernel
theorem dX7_grow_187 : decode cX7_grow 187 = .ok (.iinc 6 1, 3) := by decide +kernel
theorem dX7_grow_190 : decode cX7_grow 190 = .ok (.goto (-125), 3) := by decide +kernel
theorem dX7_grow_193 : decode cX7_grow 193 = .ok (.iinc 5 1, 3) := by decide +kernel
theorem dX7_grow_196 : decode cX7_grow 196 = .ok (.goto (-142), 3) := by decide +kernel
theorem dX7_grow_199 : decode cX7_grow 199 = .ok (.aload_n 0, 1) := by decide +kernel
theorem dX7_grow_200 : decode cX7_grow 200 = .ok (.iload_n 1, 1) := by decide +kernel
theorem dX7_grow_201 : decode cX7_grow 201 = .ok (.aload 4, 2) := by decide +kernel
theorem dX7_grow_203 : decode cX7_grow 203 = .ok (.invokevirtual 84, 3) := by decide +kernel
theorem dX7_grow_206 : decode cX7_grow 206 = .ok (.ireturn, 1) := by decide +kernel
theorem dX7_shrink_0 : decode cX7_shrink 0 = .ok (.aload_n 0, 1) := by decide +kernel
theorem dX7_shrink_1 : decode cX7_shrink 1 = .ok (.iconst 0, 1) := by decide +kernel
theorem dX7_shrink_2 : decode cX7_shrink 2 = .ok (.putfield 33, 3) := by decide +kernel
theorem dX7_shrink_5 : decode cX7_shrink 5 = .ok (.iload_n 1, 1) := by decide +kernel
theorem dX7_shrink_6 : decode cX7_shrink 6 = .ok (.invokestatic 76, 3) := by decide +kernel
theorem dX7_shrink_9 : decode cX7_shrink 9 = .ok (.ifCond .ne 9, 3) := by decide +kernel
theorem dX7_shrink_12 : decode cX7_shrink 12 = .ok (.aload_n 0, 1) := by decide +kernel
theorem dX7_shrink_13 : decode cX7_shrink 13 = .ok (.iconst 1, 1) := by decide +kernel
theorem dX7_shrink_14 : decode cX7_shrink 14 = .ok (.invokevirtual 61, 3) := by decide +kernel
theorem dX7_shrink_17 : decode cX7_shrink 17 = .ok (.ireturn, 1) := by decide +kernel
theorem dX7_shrink_18 : decode cX7_shrink 18 = .ok (.iload_n 2, 1) := by decide +kernel
theorem dX7_shrink_19 : decode cX7_shrink 19 = .ok (.iconst 0, 1) := by decide +kernel
theorem dX7_shrink_20 : decode cX7_shrink 20 = .ok (.bipush 8, 2) := by decide +kernel
theorem dX7_shrink_22 : decode cX7_shrink 22 = .ok (.invokestatic 36, 3) := by decide +kernel
theorem dX7_shrink_25 : decode cX7_shrink 25 = .ok (.ifCond .eq 12, 3) := by decide +kernel
theorem dX7_shrink_28 : decode cX7_shrink 28 = .ok (.iload_n 3, 1) := by decide +kernel
theorem dX7_shrink_29 : decode cX7_shrink 29 = .ok (.iconst 0, 1) := by decide +kernel
theorem dX7_shrink_30 : decode cX7_shrink 30 = .ok (.iconst 1, 1) := by decide +kernel
theorem dX7_shrink_31 : decode cX7_shrink 31 = .ok (.invokestatic 36, 3) := by decide +kernel
theorem dX7_shrink_34 : decode cX7_shrink 34 = .ok (.ifCond .ne 9, 3) := by decide +kernel
theorem dX7_shrink_37 : decode cX7_shrink 37 = .ok (.aload_n 0, 1) := by decide +kernel
theorem dX7_shrink_38 : decode cX7_shrink 38 = .ok (.iconst 2, 1) := by decide +kernel
theorem dX7_shrink_39 : decode cX7_shrink 39 = .ok (.invokevirtual 61, 3) := by decide +kernel
theorem dX7_shrink_42 : decode cX7_shrink 42 = .ok (.ireturn, 1) := by decide +kernel
theorem dX7_shrink_43 : decode cX7_shrink 43 = .ok (.sipush 4096, 3) := by decide +kernel
theorem dX7_shrink_46 : decode cX7_shrink 46 = .ok (.newarray .boolean, 2) := by decide +kernel
theorem dX7_shrink_48 : decode cX7_shrink 48 = .ok (.astore 4, 2) := by decide +kernel
theorem dX7_shrink_50 : decode cX7_shrink 50 = .ok (.bipush (-32), 2) := by decide +kernel
theorem dX7_shrink_52 : decode cX7_shrink 52 = .ok (.istore 5, 2) := by decide +kernel
theorem dX7_shrink_54 : decode cX7_shrink 54 = .ok (.iload 5, 2) := by decide +kernel
theorem dX7_shrink_56 : decode cX7_shrink 56 = .ok (.bipush 31, 2) := by decide +kernel
theorem dX7_shrink_58 : decode cX7_shrink 58 = .ok (.if_icmp .gt 137, 3) := by decide +kernel
theorem dX7_shrink_61 : decode cX7_shrink 61 = .ok (.bipush (-32), 2) := by decide +kernel
theorem dX7_shrink_63 : decode cX7_shrink 63 = .ok (.istore 6, 2) := by decide +kernel
theorem dX7_shrink_65 : decode cX7_shrink 65 = .ok (.iload 6, 2) := by decide +kernel
theorem dX7_shrink_67 : decode cX7_shrink 67 = .ok (.bipush 31, 2) := by decide +kernel
theorem dX7_shrink_69 : decode cX7_shrink 69 = .ok (.if_icmp .gt 120, 3) := by decide +kernel
theorem dX7_shrink_72 : decode cX7_shrink 72 = .ok (.aload_n 0, 1) := by decide +kernel
theorem dX7_shrink_73 : decode cX7_shrink 73 = .ok (.getfield 11, 3) := by decide +kernel
theorem dX7_shrink_76 : decode cX7_shrink 76 = .ok (.iload_n 1, 1) := by decide +kernel
theorem dX7_shrink_77 : decode cX7_shrink 77 = .ok (.aaload, 1) := by decide +kernel
theorem dX7_shrink_78 : decode cX7_shrink 78 = .ok (.iload 5, 2) := by decide +kernel
theorem dX7_shrink_80 : decode cX7_shrink 80 = .ok (.iload 6, 2) := by decide +kernel
theorem dX7_shrink_82 : decode cX7_shrink 82 = .ok (.invokestatic 44, 3) := by decide +kernel
theorem dX7_shrink_85 : decode cX7_shrink 85 = .ok (.baload, 1) := by decide +kernel
theorem dX7_shrink_86 : decode cX7_shrink 86 = .ok (.istore 7, 2) := by decide +kernel
theorem dX7_shrink_88 : decode cX7_shrink 88 = .ok (.iload_n 2, 1) := by decide +kernel
theorem dX7_shrink_89 : decode cX7_shrink 89 = .ok (.ineg, 1) := by decide +kernel
theorem dX7_shrink_90 : decode cX7_shrink 90 = .ok (.istore 8, 2) := by decide +kernel
theorem dX7_shrink_92 : decode cX7_shrink 92 = .ok (.iload 7, 2) := by decide +kernel
theorem dX7_shrink_94 : decode cX7_shrink 94 = .ok (.ifCond .eq 77, 3) := by decide +kernel
theorem dX7_shrink_97 : decode cX7_shrink 97 = .ok (.iload 8, 2) := by decide +kernel
theorem dX7_shrink_99 : decode cX7_shrink 99 = .ok (.iload_n 2, 1) := by decide +kernel
theorem dX7_shrink_100 : decode cX7_shrink 100 = .ok (.if_icmp .gt 71, 3) := by decide +kernel
theorem dX7_shrink_103 : decode cX7_shrink 103 = .ok (.iload_n 2, 1) := by decide +kernel
theorem dX7_shrink_104 : decode cX7_shrink 104 = .ok (.ineg, 1) := by decide +kernel
theorem dX7_shrink_105 : decode cX7_shrink 105 = .ok (.istore 9, 2) := by decide +kernel
theorem dX7_shrink_107 : decode cX7_shrink 107 = .ok (.iload 7, 2) := by decide +kernel
theorem dX7_shrink_109 : decode cX7_shrink 109 = .ok (.ifCond .eq 56, 3) := by decide +kernel
theorem dX7_shrink_112 : decode cX7_shrink 112 = .ok (.iload 9, 2) := by decide +kernel
theorem dX7_shrink_114 : decode cX7_shrink 114 = .ok (.iload_n 2, 1) := by decide +kernel
theorem dX7_shrink_115 : decode cX7_shrink 115 = .ok (.if_icmp .gt 50, 3) := by decide +kernel
theorem dX7_shrink_118 : decode cX7_shrink 118 = .ok (.iload 8, 2) := by decide +kernel
theorem dX7_shrink_120 : decode cX7_shrink 120 = .ok (.iload 9, 2) := by decide +kernel
theorem dX7_shrink_122 : decode cX7_shrink 122 = .ok (.iload_n 3, 1) := by decide +kernel
theorem dX7_shrink_123 : decode cX7_shrink 123 = .ok (.invokestatic 91, 3) := by decide +kernel
theorem dX7_shrink_126 : decode cX7_shrink 126 = .ok (.iload_n 2, 1) := by decide +kernel
theorem dX7_shrink_127 : decode cX7_shrink 127 = .ok (.if_icmp .gt 25, 3) := by decide +kernel
theorem dX7_shrink_130 : decode cX7_shrink 130 = .ok (.aload_n 0, 1) := by decide +kernel
theorem dX7_shrink_131 : decode cX7_shrink 131 = .ok (.getfield 11, 3) := by decide +kernel
theorem dX7_shrink_134 : decode cX7_shrink 134 = .ok (.iload_n 1, 1) := by decide +kernel
theorem dX7_shrink_135 : decode cX7_shrink 135 = .ok (.aaload, 1) := by decide +kernel
theorem dX7_shrink_136 : decode cX7_shrink 136 = .ok (.iload 5, 2) := by decide +kernel
theorem dX7_shrink_138 : decode cX7_shrink 138 = .ok (.iload 8, 2) := by decide +kernel
theorem dX7_shrink_140 : decode cX7_shrink 140 = .ok (.iadd, 1) := by decide +kernel
theorem dX7_shrink_141 : decode cX7_shrink 141 = .ok (.iload 6, 2) := by decide +kernel
theorem dX7_shrink_143 : decode cX7_shrink 143 = .ok (.iload 9, 2) := by decide +kernel
theorem dX7_shrink_145 : decode cX7_shrink 145 = .ok (.iadd, 1) := by decide +kernel
theorem dX7_shrink_146 : decode cX7_shrink 146 = .ok (.invokestatic 95, 3) := by decide +kernel
theorem dX7_shrink_149 : decode cX7_shrink 149 = .ok (.ifCond .eq 7, 3) := by decide +kernel
theorem dX7_shrink_152 : decode cX7_shrink 152 = .ok (.iconst 1, 1) := by decide +kernel
theorem dX7_shrink_153 : decode cX7_shrink 153 = .ok (.goto 4, 3) := by decide +kernel
theorem dX7_shrink_156 : decode cX7_shrink 156 = .ok (.iconst 0, 1) := by decide +kernel
theorem dX7_shrink_157 : decode cX7_shrink 157 = .ok (.istore 7, 2) := by decide +kernel
theorem dX7_shrink_159 : decode cX7_shrink 159 = .ok (.iinc 9 1, 3) := by decide +kernel
theorem dX7_shrink_162 : decode cX7_shrink 162 = .ok (.goto (-55), 3) := by decide +kernel
theorem dX7_shrink_165 : decode cX7_shrink 165 = .ok (.iinc 8 1, 3) := by decide +kernel
theorem dX7_shrink_168 : decode cX7_shrink 168 = .ok (.goto (-76), 3) := by decide +kernel
theorem dX7_shrink_171 : decode cX7_shrink 171 = .ok (.aload 4, 2) := by decide +kernel
theorem dX7_shrink_173 : decode cX7_shrink 173 = .ok (.iload 5, 2) := by decide +kernel
theorem dX7_shrink_175 : decode cX7_shrink 175 = .ok (.iload 6, 2) := by decide +kernel
theorem dX7_shrink_177 : decode cX7_shrink 177 = .ok (.invokestatic 44, 3) := by decide +kernel
theorem dX7_shrink_180 : decode cX7_shrink 180 = .ok (.iload 7, 2) := by decide +kernel
theorem dX7_shrink_182 : decode cX7_shrink 182 = .ok (.bastore, 1) := by decide +kernel
theorem dX7_shrink_183 : decode cX7_shrink 183 = .ok (.iinc 6 1, 3) := by decide +kernel
theorem dX7_shrink_186 : decode cX7_shrink 186 = .ok (.goto (-121), 3) := by decide +kernel
theorem dX7_shrink_189 : decode cX7_shrink 189 = .ok (.iinc 5 1, 3) := by decide +kernel
theorem dX7_shrink_192 : decode cX7_shrink 192 = .ok (.goto (-138), 3) := by decide +kernel
theorem dX7_shrink_195 : decode cX7_shrink 195 = .ok (.aload_n 0, 1) := by decide +kernel
theorem dX7_shrink_196 : decode cX7_shrink 196 = .ok (.iload_n 1, 1) := by decide +kernel
theorem dX7_shrink_197 : decode cX7_shrink 197 = .ok (.aload 4, 2) := by decide +kernel
theorem dX7_shrink_199 : decode cX7_shrink 199 = .ok (.invokevirtual 84, 3) := by decide +kernel
theorem dX7_shrink_202 : decode cX7_shrink 202 = .ok (.ireturn, 1) := by decide +kernel
theorem dX7_parts_0 : decode cX7_parts 0 = .ok (.bipush 66, 2) := by decide +kernel
theorem dX7_parts_2 : decode cX7_parts 2 = .ok (.istore_n 2, 1) := by decide +kernel
theorem dX7_parts_3 : decode cX7_parts 3 = .ok (.iload_n 2, 1) := by decide +kernel
theorem dX7_parts_4 : decode cX7_parts 4 = .ok (.iload_n 2, 1) := by decide +kernel
theorem dX7_parts_5 : decode cX7_parts 5 = .ok (.imul, 1) := by decide +kernel
theorem dX7_parts_6 : decode cX7_parts 6 = .ok (.newarray .int, 2) := by decide +kernel
theorem dX7_parts_8 : decode cX7_parts 8 = .ok (.astore_n 3, 1) := by decide +kernel
theorem dX7_parts_9 : decode cX7_parts 9 = .ok (.iload_n 2, 1) := by decide +kernel
theorem dX7_parts_10 : decode cX7_parts 10 = .ok (.iload_n 2, 1) := by decide +kernel
theorem dX7_parts_11 : decode cX7_parts 11 = .ok (.imul, 1) := by decide +kernel
theorem dX7_parts_12 : decode cX7_parts 12 = .ok (.newarray .int, 2) := by decide +kernel
theorem dX7_parts_14 : decode cX7_parts 14 = .ok (.astore 4, 2) := by decide +kernel
theorem dX7_parts_16 : decode cX7_parts 16 = .ok (.iconst 0, 1) := by decide +kernel
theorem dX7_parts_17 : decode cX7_parts 17 = .ok (.istore 5, 2) := by decide +kernel
theorem dX7_parts_19 : decode cX7_parts 19 = .ok (.iconst 0, 1) := by decide +kernel
theorem dX7_parts_20 : decode cX7_parts 20 = .ok (.istore 6, 2) := by decide +kernel
theorem dX7_parts_22 : decode cX7_parts 22 = .ok (.iload 6, 2) := by decide +kernel
theorem dX7_parts_24 : decode cX7_parts 24 = .ok (.aload_n 3, 1) := by decide +kernel
theorem dX7_parts_25 : decode cX7_parts 25 = .ok (.arraylength, 1) := by decide +kernel
theorem dX7_parts_26 : decode cX7_parts 26 = .ok (.if_icmp .ge 253, 3) := by decide +kernel
theorem dX7_parts_29 : decode cX7_parts 29 = .ok (.aload_n 0, 1) := by decide +kernel
theorem dX7_parts_30 : decode cX7_parts 30 = .ok (.iload 6, 2) := by decide +kernel
theorem dX7_parts_32 : decode cX7_parts 32 = .ok (.iload_n 2, 1) := by decide +kernel
theorem dX7_parts_33 : decode cX7_parts 33 = .ok (.irem, 1) := by decide +kernel
theorem dX7_parts_34 : decode cX7_parts 34 = .ok (.bipush (-32), 2) := by decide +kernel
theorem dX7_parts_36 : decode cX7_parts 36 = .ok (.iadd, 1) := by decide +kernel
theorem dX7_parts_37 : decode cX7_parts 37 = .ok (.iconst 1, 1) := by decide +kernel
theorem dX7_parts_38 : decode cX7_parts 38 = .ok (.isub, 1) := by decide +kernel
theorem dX7_parts_39 : decode cX7_parts 39 = .ok (.iload 6, 2) := by decide +kernel
theorem dX7_parts_41 : decode cX7_parts 41 = .ok (.iload_n 2, 1) := by decide +kernel
theorem dX7_parts_42 : decode cX7_parts 42 = .ok (.idiv, 1) := by decide +kernel
theorem dX7_parts_43 : decode cX7_parts 43 = .ok (.bipush (-32), 2) := by decide +kernel
theorem dX7_parts_45 : decode cX7_parts 45 = .ok (.iadd, 1) := by decide +kernel
theorem dX7_parts_46 : decode cX7_parts 46 = .ok (.iconst 1, 1) := by decide +kernel
theorem dX7_parts_47 : decode cX7_parts 47 = .ok (.isub, 1) := by decide +kernel
theorem dX7_parts_48 : decode cX7_parts 48 = .ok (.invokestatic 95, 3) := by decide +kernel
theorem dX7_parts_51 : decode cX7_parts 51 = .ok (.iload_n 1, 1) := by decide +kernel
theorem dX7_parts_52 : decode cX7_parts 52 = .ok (.if_icmp .ne 7, 3) := by decide +kernel
theorem dX7_parts_55 : decode cX7_parts 55 = .ok (.iconst 1, 1) := by decide +kernel
theorem dX7_parts_56 : decode cX7_parts 56 = .ok (.goto 4, 3) := by decide +kernel
theorem dX7_parts_59 : decode cX7_parts 59 = .ok (.iconst 0, 1) := by decide +kernel
theorem dX7_parts_60 : decode cX7_parts 60 = .ok (.istore 7, 2) := by decide +kernel
theorem dX7_parts_62 : decode cX7_parts 62 = .ok (.iload 7, 2) := by decide +kernel
theorem dX7_parts_64 : decode cX7_parts 64 = .ok (.ifCond .eq 209, 3) := by decide +kernel
theorem dX7_parts_67 : decode cX7_parts 67 = .ok (.aload_n 3, 1) := by decide +kernel
theorem dX7_parts_68 : decode cX7_parts 68 = .ok (.iload 6, 2) := by decide +kernel
theorem dX7_parts_70 : decode cX7_parts 70 = .ok (.iaload, 1) := by decide +kernel
theorem dX7_parts_71 : decode cX7_parts 71 = .ok (.ifCond .eq 6, 3) := by decide +kernel
theorem dX7_parts_74 : decode cX7_parts 74 = .ok (.goto 199, 3) := by decide +kernel
theorem dX7_parts_77 : decode cX7_parts 77 = .ok (.aload_n 3, 1) := by decide +kernel
theorem dX7_parts_78 : decode cX7_parts 78 = .ok (.iload 6, 2) := by decide +kernel
theorem dX7_parts_80 : decode cX7_parts 80 = .ok (.iinc 5 1, 3) := by decide +kernel
theorem dX7_parts_83 : decode cX7_parts 83 = .ok (.iload 5, 2) := by decide +kernel
theorem dX7_parts_85 : decode cX7_parts 85 = .ok (.iastore, 1) := by decide +kernel
theorem dX7_parts_86 : decode cX7_parts 86 = .ok (.iconst 0, 1) := by decide +kernel
theorem dX7_parts_87 : decode cX7_parts 87 = .ok (.istore 8, 2) := by decide +kernel
