theorem dX0_init_0 : decode cX0_init 0 = .ok (.aload_n 0, 1) := by decide +kernel
theorem dX0_init_1 : decode cX0_init 1 = .ok (.invokespecial 3, 3) := by decide +kernel
theorem dX0_init_4 : decode cX0_init 4 = .ok (.aload_n 0, 1) := by decide +kernel
theorem dX0_init_5 : decode cX0_init 5 = .ok (.bipush 64, 2) := by decide +kernel
theorem dX0_init_7 : decode cX0_init 7 = .ok (.newarray .long, 2) := by decide +kernel
theorem dX0_init_9 : decode cX0_init 9 = .ok (.putfield 9, 3) := by decide +kernel
theorem dX0_init_12 : decode cX0_init 12 = .ok (.return_, 1) := by decide +kernel
theorem dX0_row_0 : decode cX0_row 0 = .ok (.iload_n 1, 1) := by decide +kernel
theorem dX0_row_1 : decode cX0_row 1 = .ok (.bipush (-32), 2) := by decide +kernel
theorem dX0_row_3 : decode cX0_row 3 = .ok (.isub, 1) := by decide +kernel
theorem dX0_row_4 : decode cX0_row 4 = .ok (.istore_n 2, 1) := by decide +kernel
theorem dX0_row_5 : decode cX0_row 5 = .ok (.iload_n 2, 1) := by decide +kernel
theorem dX0_row_6 : decode cX0_row 6 = .ok (.ifCond .lt 21, 3) := by decide +kernel
theorem dX0_row_9 : decode cX0_row 9 = .ok (.iload_n 2, 1) := by decide +kernel
theorem dX0_row_10 : decode cX0_row 10 = .ok (.aload_n 0, 1) := by decide +kernel
theorem dX0_row_11 : decode cX0_row 11 = .ok (.getfield 9, 3) := by decide +kernel
theorem dX0_row_14 : decode cX0_row 14 = .ok (.arraylength, 1) := by decide +kernel
theorem dX0_row_15 : decode cX0_row 15 = .ok (.if_icmp .ge 12, 3) := by decide +kernel
theorem dX0_row_18 : decode cX0_row 18 = .ok (.aload_n 0, 1) := by decide +kernel
theorem dX0_row_19 : decode cX0_row 19 = .ok (.getfield 9, 3) := by decide +kernel
theorem dX0_row_22 : decode cX0_row 22 = .ok (.iload_n 2, 1) := by decide +kernel
theorem dX0_row_23 : decode cX0_row 23 = .ok (.laload, 1) := by decide +kernel
theorem dX0_row_24 : decode cX0_row 24 = .ok (.goto 4, 3) := by decide +kernel
theorem dX0_row_27 : decode cX0_row 27 = .ok (.lconst 0, 1) := by decide +kernel
theorem dX0_row_28 : decode cX0_row 28 = .ok (.lreturn, 1) := by decide +kernel
theorem dX0_putRow_0 : decode cX0_putRow 0 = .ok (.iload_n 1, 1) := by decide +kernel
theorem dX0_putRow_1 : decode cX0_putRow 1 = .ok (.bipush (-32), 2) := by decide +kernel
theorem dX0_putRow_3 : decode cX0_putRow 3 = .ok (.isub, 1) := by decide +kernel
theorem dX0_putRow_4 : decode cX0_putRow 4 = .ok (.istore 4, 2) := by decide +kernel
theorem dX0_putRow_6 : decode cX0_putRow 6 = .ok (.iload 4, 2) := by decide +kernel
theorem dX0_putRow_8 : decode cX0_putRow 8 = .ok (.ifCond .lt 21, 3) := by decide +kernel
theorem dX0_putRow_11 : decode cX0_putRow 11 = .ok (.iload 4, 2) := by decide +kernel
theorem dX0_putRow_13 : decode cX0_putRow 13 = .ok (.aload_n 0, 1) := by decide +kernel
theorem dX0_putRow_14 : decode cX0_putRow 14 = .ok (.getfield 9, 3) := by decide +kernel
theorem dX0_putRow_17 : decode cX0_putRow 17 = .ok (.arraylength, 1) := by decide +kernel
theorem dX0_putRow_18 : decode cX0_putRow 18 = .ok (.if_icmp .ge 11, 3) := by decide +kernel
theorem dX0_putRow_21 : decode cX0_putRow 21 = .ok (.aload_n 0, 1) := by decide +kernel
theorem dX0_putRow_22 : decode cX0_putRow 22 = .ok (.getfield 9, 3) := by decide +kernel
theorem dX0_putRow_25 : decode cX0_putRow 25 = .ok (.iload 4, 2) := by decide +kernel
theorem dX0_putRow_27 : decode cX0_putRow 27 = .ok (.lload_n 2, 1) := by decide +kernel
theorem dX0_putRow_28 : decode cX0_putRow 28 = .ok (.lastore, 1) := by decide +kernel
theorem dX0_putRow_29 : decode cX0_putRow 29 = .ok (.return_, 1) := by decide +kernel
theorem dX0_empty_0 : decode cX0_empty 0 = .ok (.aload_n 0, 1) := by decide +kernel
theorem dX0_empty_1 : decode cX0_empty 1 = .ok (.getfield 9, 3) := by decide +kernel
theorem dX0_empty_4 : decode cX0_empty 4 = .ok (.lconst 0, 1) := by decide +kernel
theorem dX0_empty_5 : decode cX0_empty 5 = .ok (.invokestatic 15, 3) := by decide +kernel
theorem dX0_empty_8 : decode cX0_empty 8 = .ok (.return_, 1) := by decide +kernel
theorem dX0_copy_0 : decode cX0_copy 0 = .ok (.bipush (-32), 2) := by decide +kernel
theorem dX0_copy_2 : decode cX0_copy 2 = .ok (.istore_n 2, 1) := by decide +kernel
theorem dX0_copy_3 : decode cX0_copy 3 = .ok (.iload_n 2, 1) := by decide +kernel
theorem dX0_copy_4 : decode cX0_copy 4 = .ok (.bipush 31, 2) := by decide +kernel
theorem dX0_copy_6 : decode cX0_copy 6 = .ok (.if_icmp .gt 19, 3) := by decide +kernel
theorem dX0_copy_9 : decode cX0_copy 9 = .ok (.aload_n 0, 1) := by decide +kernel
theorem dX0_copy_10 : decode cX0_copy 10 = .ok (.iload_n 2, 1) := by decide +kernel
theorem dX0_copy_11 : decode cX0_copy 11 = .ok (.aload_n 1, 1) := by decide +kernel
theorem dX0_copy_12 : decode cX0_copy 12 = .ok (.iload_n 2, 1) := by decide +kernel
theorem dX0_copy_13 : decode cX0_copy 13 = .ok (.invokevirtual 25, 3) := by decide +kernel
theorem dX0_copy_16 : decode cX0_copy 16 = .ok (.invokevirtual 29, 3) := by decide +kernel
theorem dX0_copy_19 : decode cX0_copy 19 = .ok (.iinc 2 1, 3) := by decide +kernel
theorem dX0_copy_22 : decode cX0_copy 22 = .ok (.goto (-19), 3) := by decide +kernel
theorem dX0_copy_25 : decode cX0_copy 25 = .ok (.return_, 1) := by decide +kernel
theorem dX0_count_0 : decode cX0_count 0 = .ok (.iconst 0, 1) := by decide +kernel
theorem dX0_count_1 : decode cX0_count 1 = .ok (.istore_n 1, 1) := by decide +kernel
theorem dX0_count_2 : decode cX0_count 2 = .ok (.bipush (-32), 2) := by decide +kernel
theorem dX0_count_4 : decode cX0_count 4 = .ok (.istore_n 2, 1) := by decide +kernel
theorem dX0_count_5 : decode cX0_count 5 = .ok (.iload_n 2, 1) := by decide +kernel
theorem dX0_count_6 : decode cX0_count 6 = .ok (.bipush 31, 2) := by decide +kernel
theorem dX0_count_8 : decode cX0_count 8 = .ok (.if_icmp .gt 20, 3) := by decide +kernel
theorem dX0_count_11 : decode cX0_count 11 = .ok (.iload_n 1, 1) := by decide +kernel
theorem dX0_count_12 : decode cX0_count 12 = .ok (.aload_n 0, 1) := by decide +kernel
theorem dX0_count_13 : decode cX0_count 13 = .ok (.iload_n 2, 1) := by decide +kernel
theorem dX0_count_14 : decode cX0_count 14 = .ok (.invokevirtual 25, 3) := by decide +kernel
theorem dX0_count_17 : decode cX0_count 17 = .ok (.invokestatic 33, 3) := by decide +kernel
theorem dX0_count_20 : decode cX0_count 20 = .ok (.iadd, 1) := by decide +kernel
theorem dX0_count_21 : decode cX0_count 21 = .ok (.istore_n 1, 1) := by decide +kernel
theorem dX0_count_22 : decode cX0_count 22 = .ok (.iinc 2 1, 3) := by decide +kernel
theorem dX0_count_25 : decode cX0_count 25 = .ok (.goto (-20), 3) := by decide +kernel
theorem dX0_count_28 : decode cX0_count 28 = .ok (.iload_n 1, 1) := by decide +kernel
theorem dX0_count_29 : decode cX0_count 29 = .ok (.ireturn, 1) := by decide +kernel
theorem dX0_countEdges_0 : decode cX0_countEdges 0 = .ok (.iconst 0, 1) := by decide +kernel
theorem dX0_countEdges_1 : decode cX0_countEdges 1 = .ok (.istore_n 1, 1) := by decide +kernel
theorem dX0_countEdges_2 : decode cX0_countEdges 2 = .ok (.bipush (-32), 2) := by decide +kernel
theorem dX0_countEdges_4 : decode cX0_countEdges 4 = .ok (.istore_n 2, 1) := by decide +kernel
theorem dX0_countEdges_5 : decode cX0_countEdges 5 = .ok (.iload_n 2, 1) := by decide +kernel
theorem dX0_countEdges_6 : decode cX0_countEdges 6 = .ok (.bipush 32, 2) := by decide +kernel
theorem dX0_countEdges_8 : decode cX0_countEdges 8 = .ok (.if_icmp .gt 53, 3) := by decide +kernel
theorem dX0_countEdges_11 : decode cX0_countEdges 11 = .ok (.aload_n 0, 1) := by decide +kernel
theorem dX0_countEdges_12 : decode cX0_countEdges 12 = .ok (.iload_n 2, 1) := by decide +kernel
theorem dX0_countEdges_13 : decode cX0_countEdges 13 = .ok (.invokevirtual 25, 3) := by decide +kernel
theorem dX0_countEdges_16 : decode cX0_countEdges 16 = .ok (.aload_n 0, 1) := by decide +kernel
theorem dX0_countEdges_17 : decode cX0_countEdges 17 = .ok (.iload_n 2, 1) := by decide +kernel
theorem dX0_countEdges_18 : decode cX0_countEdges 18 = .ok (.invokevirtual 25, 3) := by decide +kernel
theorem dX0_countEdges_21 : decode cX0_countEdges 21 = .ok (.iconst 1, 1) := by decide +kernel
theorem dX0_countEdges_22 : decode cX0_countEdges 22 = .ok (.lshl, 1) := by decide +kernel
theorem dX0_countEdges_23 : decode cX0_countEdges 23 = .ok (.ldc2_w 39, 3) := by decide +kernel
theorem dX0_countEdges_26 : decode cX0_countEdges 26 = .ok (.lxor, 1) := by decide +kernel
theorem dX0_countEdges_27 : decode cX0_countEdges 27 = .ok (.land, 1) := by decide +kernel
theorem dX0_countEdges_28 : decode cX0_countEdges 28 = .ok (.lstore_n 3, 1) := by decide +kernel
theorem dX0_countEdges_29 : decode cX0_countEdges 29 = .ok (.iload_n 1, 1) := by decide +kernel
theorem dX0_countEdges_30 : decode cX0_countEdges 30 = .ok (.iconst 2, 1) := by decide +kernel
theorem dX0_countEdges_31 : decode cX0_countEdges 31 = .ok (.lload_n 3, 1) := by decide +kernel
theorem dX0_countEdges_32 : decode cX0_countEdges 32 = .ok (.invokestatic 33, 3) := by decide +kernel
theorem dX0_countEdges_35 : decode cX0_countEdges 35 = .ok (.imul, 1) := by decide +kernel
theorem dX0_countEdges_36 : decode cX0_countEdges 36 = .ok (.aload_n 0, 1) := by decide +kernel
theorem dX0_countEdges_37 : decode cX0_countEdges 37 = .ok (.iload_n 2, 1) := by decide +kernel
theorem dX0_countEdges_38 : decode cX0_countEdges 38 = .ok (.invokevirtual 25, 3) := by decide +kernel
theorem dX0_countEdges_41 : decode cX0_countEdges 41 = .ok (.aload_n 0, 1) := by decide +kernel
theorem dX0_countEdges_42 : decode cX0_countEdges 42 = .ok (.iload_n 2, 1) := by decide +kernel
theorem dX0_countEdges_43 : decode cX0_countEdges 43 = .ok (.iconst 1, 1) := by decide +kernel
theorem dX0_countEdges_44 : decode cX0_countEdges 44 = .ok (.isub, 1) := by decide +kernel
theorem dX0_countEdges_45 : decode cX0_countEdges 45 = .ok (.invokevirtual 25, 3) := by decide +kernel
theorem dX0_countEdges_48 : decode cX0_countEdges 48 = .ok (.lxor, 1) := by decide +kernel
theorem dX0_countEdges_49 : decode cX0_countEdges 49 = .ok (.invokestatic 33, 3) := by decide +kernel
theorem dX0_countEdges_52 : decode cX0_countEdges 52 = .ok (.iadd, 1) := by decide +kernel
theorem dX0_countEdges_53 : decode cX0_countEdges 53 = .ok (.iadd, 1) := by decide +kernel
theorem dX0_countEdges_54 : decode cX0_countEdges 54 = .ok (.istore_n 1, 1) := by decide +kernel
theorem dX0_countEdges_55 : decode cX0_countEdges 55 = .ok (.iinc 2 1, 3) := by decide +kernel
theorem dX0_countEdges_58 : decode cX0_countEdges 58 = .ok (.goto (-53), 3) := by decide +kernel
theorem dX0_countEdges_61 : decode cX0_countEdges 61 = .ok (.iload_n 1, 1) := by decide +kernel
theorem dX0_countEdges_62 : decode cX0_countEdges 62 = .ok (.ireturn, 1) := by decide +kernel
theorem dX0_columns_0 : decode cX0_columns 0 = .ok (.lconst 0, 1) := by decide +kernel
theorem dX0_columns_1 : decode cX0_columns 1 = .ok (.lstore_n 1, 1) := by decide +kernel
theorem dX0_columns_2 : decode cX0_columns 2 = .ok (.bipush (-32), 2) := by decide +kernel
theorem dX0_columns_4 : decode cX0_columns 4 = .ok (.istore_n 3, 1) := by decide +kernel
theorem dX0_columns_5 : decode cX0_columns 5 = .ok (.iload_n 3, 1) := by decide +kernel
theorem dX0_columns_6 : decode cX0_columns 6 = .ok (.bipush 31, 2) := by decide +kernel
theorem dX0_columns_8 : decode cX0_columns 8 = .ok (.if_icmp .gt 17, 3) := by decide +kernel
theorem dX0_columns_11 : decode cX0_columns 11 = .ok (.lload_n 1, 1) := by decide +kernel
theorem dX0_columns_12 : decode cX0_columns 12 = .ok (.aload_n 0, 1) := by decide +kernel
theorem dX0_columns_13 : decode cX0_columns 13 = .ok (.iload_n 3, 1) := by decide +kernel
theorem dX0_columns_14 : decode cX0_columns 14 = .ok (.invokevirtual 25, 3) := by decide +kernel
theorem dX0_columns_17 : decode cX0_columns 17 = .ok (.lor, 1) := by decide +kernel
theorem dX0_columns_18 : decode cX0_columns 18 = .ok (.lstore_n 1, 1) := by decide +kernel
theorem dX0_columns_19 : decode cX0_columns 19 = .ok (.iinc 3 1, 3) := by decide +kernel
theorem dX0_columns_22 : decode cX0_columns 22 = .ok (.goto (-17), 3) := by decide +kernel
theorem dX0_columns_25 : decode cX0_columns 25 = .ok (.lload_n 1, 1) := by decide +kernel
theorem dX0_columns_26 : decode cX0_columns 26 = .ok (.lreturn, 1) := by decide +kernel
theorem dX0_leastX_0 : decode cX0_leastX 0 = .ok (.aload_n 0, 1) := by decide +kernel
theorem dX0_leastX_1 : decode cX0_leastX 1 = .ok (.invokevirtual 21, 3) := by decide +kernel
theorem dX0_leastX_4 : decode cX0_leastX 4 = .ok (.lstore_n 1, 1) := by decide +kernel
theorem dX0_leastX_5 : decode cX0_leastX 5 = .ok (.lload_n 1, 1) := by decide +kernel
theorem dX0_leastX_6 : decode cX0_leastX 6 = .ok (.lconst 0, 1) := by decide +kernel
theorem dX0_leastX_7 : decode cX0_leastX 7 = .ok (.lcmp, 1) := by decide +kernel
theorem dX0_leastX_8 : decode cX0_leastX 8 = .ok (.ifCond .ne 7, 3) := by decide +kernel
theorem dX0_leastX_11 : decode cX0_leastX 11 = .ok (.iconst 0, 1) := by decide +kernel
theorem dX0_leastX_12 : decode cX0_leastX 12 = .ok (.goto 10, 3) := by decide +kernel
theorem dX0_leastX_22 : decode cX0_leastX 22 = .ok (.ireturn, 1) := by decide +kernel
theorem dX0_greatestX_0 : decode cX0_greatestX 0 = .ok (.aload_n 0, 1) := by decide +kernel
theorem dX0_greatestX_1 : decode cX0_greatestX 1 = .ok (.invokevirtual 21, 3) := by decide +kernel
theorem dX0_greatestX_4 : decode cX0_greatestX 4 = .ok (.lstore_n 1, 1) := by decide +kernel
theorem dX0_greatestX_5 : decode cX0_greatestX 5 = .ok (.bipush 31, 2) := by decide +kernel
theorem dX0_greatestX_7 : decode cX0_greatestX 7 = .ok (.istore_n 3, 1) := by decide +kernel
theorem dX0_greatestX_8 : decode cX0_greatestX 8 = .ok (.iload_n 3, 1) := by decide +kernel
theorem dX0_greatestX_9 : decode cX0_greatestX 9 = .ok (.bipush (-32), 2) := by decide +kernel
theorem dX0_greatestX_11 : decode cX0_greatestX 11 = .ok (.if_icmp .lt 22, 3) := by decide +kernel
theorem dX0_greatestX_14 : decode cX0_greatestX 14 = .ok (.lload_n 1, 1) := by decide +kernel
theorem dX0_greatestX_15 : decode cX0_greatestX 15 = .ok (.iload_n 3, 1) := by decide +kernel
theorem dX0_greatestX_16 : decode cX0_greatestX 16 = .ok (.invokestatic 48, 3) := by decide +kernel
theorem dX0_greatestX_19 : decode cX0_greatestX 19 = .ok (.land, 1) := by decide +kernel
theorem dX0_greatestX_20 : decode cX0_greatestX 20 = .ok (.lconst 0, 1) := by decide +kernel
theorem dX0_greatestX_21 : decode cX0_greatestX 21 = .ok (.lcmp, 1) := by decide +kernel
theorem dX0_greatestX_22 : decode cX0_greatestX 22 = .ok (.ifCond .eq 5, 3) := by decide +kernel
theorem dX0_greatestX_27 : decode cX0_greatestX 27 = .ok (.iinc 3 (-1), 3) := by decide +kernel
theorem dX0_greatestX_30 : decode cX0_greatestX 30 = .ok (.goto (-22), 3) := by decide +kernel
theorem dX0_greatestX_33 : decode cX0_greatestX 33 = .ok (.iconst 0, 1) := by decide +kernel
theorem dX0_greatestX_34 : decode cX0_greatestX 34 = .ok (.ireturn, 1) := by decide +kernel
theorem dX0_leastY_0 : decode cX0_leastY 0 = .ok (.bipush (-32), 2) := by decide +kernel
theorem dX0_leastY_2 : decode cX0_leastY 2 = .ok (.istore_n 1, 1) := by decide +kernel
theorem dX0_leastY_3 : decode cX0_leastY 3 = .ok (.iload_n 1, 1) := by decide +kernel
theorem dX0_leastY_4 : decode cX0_leastY 4 = .ok (.bipush 31, 2) := by decide +kernel
theorem dX0_leastY_6 : decode cX0_leastY 6 = .ok (.if_icmp .gt 21, 3) := by decide +kernel
theorem dX0_leastY_9 : decode cX0_leastY 9 = .ok (.aload_n 0, 1) := by decide +kernel
theorem dX0_leastY_10 : decode cX0_leastY 10 = .ok (.iload_n 1, 1) := by decide +kernel
theorem dX0_leastY_11 : decode cX0_leastY 11 = .ok (.invokevirtual 25, 3) := by decide +kernel
theorem dX0_leastY_14 : decode cX0_leastY 14 = .ok (.lconst 0, 1) := by decide +kernel
theorem dX0_leastY_15 : decode cX0_leastY 15 = .ok (.lcmp, 1) := by decide +kernel
theorem dX0_leastY_16 : decode cX0_leastY 16 = .ok (.ifCond .eq 5, 3) := by decide +kernel
theorem dX0_leastY_21 : decode cX0_leastY 21 = .ok (.iinc 1 1, 3) := by decide +kernel
theorem dX0_leastY_24 : decode cX0_leastY 24 = .ok (.goto (-21), 3) := by decide +kernel
theorem dX0_leastY_27 : decode cX0_leastY 27 = .ok (.iconst 0, 1) := by decide +kernel
theorem dX0_leastY_28 : decode cX0_leastY 28 = .ok (.ireturn, 1) := by decide +kernel
theorem dX0_greatestY_0 : decode cX0_greatestY 0 = .ok (.bipush 31, 2) := by decide +kernel
theorem dX0_greatestY_2 : decode cX0_greatestY 2 = .ok (.istore_n 1, 1) := by decide +kernel
theorem dX0_greatestY_3 : decode cX0_greatestY 3 = .ok (.iload_n 1, 1) := by decide +kernel
theorem dX0_greatestY_4 : decode cX0_greatestY 4 = .ok (.bipush (-32), 2) := by decide +kernel
theorem dX0_greatestY_6 : decode cX0_greatestY 6 = .ok (.if_icmp .lt 21, 3) := by decide +kernel
theorem dX0_greatestY_9 : decode cX0_greatestY 9 = .ok (.aload_n 0, 1) := by decide +kernel
theorem dX0_greatestY_10 : decode cX0_greatestY 10 = .ok (.iload_n 1, 1) := by decide +kernel
theorem dX0_greatestY_11 : decode cX0_greatestY 11 = .ok (.invokevirtual 25, 3) := by decide +kernel
theorem dX0_greatestY_14 : decode cX0_greatestY 14 = .ok (.lconst 0, 1) := by decide +kernel
theorem dX0_greatestY_15 : decode cX0_greatestY 15 = .ok (.lcmp, 1) := by decide +kernel
theorem dX0_greatestY_16 : decode cX0_greatestY 16 = .ok (.ifCond .eq 5, 3) := by decide +kernel
theorem dX0_greatestY_21 : decode cX0_greatestY 21 = .ok (.iinc 1 (-1), 3) := by decide +kernel
theorem dX0_greatestY_24 : decode cX0_greatestY 24 = .ok (.goto (-21), 3) := by decide +kernel
theorem dX0_greatestY_27 : decode cX0_greatestY 27 = .ok (.iconst 0, 1) := by decide +kernel
theorem dX0_greatestY_28 : decode cX0_greatestY 28 = .ok (.ireturn, 1) := by decide +kernel
theorem dX1_init_0 : decode cX1_init 0 = .ok (.aload_n 0, 1) := by decide +kernel
theorem dX1_init_1 : decode cX1_init 1 = .ok (.invokespecial 3, 3) := by decide +kernel
theorem dX1_init_4 : decode cX1_init 4 = .ok (.aload_n 0, 1) := by decide +kernel
theorem dX1_init_5 : decode cX1_init 5 = .ok (.new 9, 3) := by decide +kernel
theorem dX1_init_8 : decode cX1_init 8 = .ok (.dup, 1) := by decide +kernel
theorem dX1_init_9 : decode cX1_init 9 = .ok (.invokespecial 11, 3) := by decide +kernel
theorem dX1_init_12 : decode cX1_init 12 = .ok (.putfield 12, 3) := by decide +kernel
theorem dX1_init_15 : decode cX1_init 15 = .ok (.aload_n 0, 1) := by decide +kernel
theorem dX1_init_16 : decode cX1_init 16 = .ok (.new 9, 3) := by decide +kernel
theorem dX1_init_19 : decode cX1_init 19 = .ok (.dup, 1) := by decide +kernel
theorem dX1_init_20 : decode cX1_init 20 = .ok (.invokespecial 11, 3) := by decide +kernel
theorem dX1_init_23 : decode cX1_init 23 = .ok (.putfield 18, 3) := by decide +kernel
theorem dX1_init_26 : decode cX1_init 26 = .ok (.return_, 1) := by decide +kernel
theorem dX1_countPieces_0 : decode cX1_countPieces 0 = .ok (.aload_n 0, 1) := by decide +kernel
theorem dX1_countPieces_1 : decode cX1_countPieces 1 = .ok (.getfield 12, 3) := by decide +kernel
theorem dX1_countPieces_4 : decode cX1_countPieces 4 = .ok (.aload_n 1, 1) := by decide +kernel
theorem dX1_countPieces_5 : decode cX1_countPieces 5 = .ok (.invokevirtual 21, 3) := by decide +kernel
theorem dX1_countPieces_8 : decode cX1_countPieces 8 = .ok (.aload_n 0, 1) := by decide +kernel
theorem dX1_countPieces_9 : decode cX1_countPieces 9 = .ok (.iconst 0, 1) := by decide +kernel
theorem dX1_countPieces_10 : decode cX1_countPieces 10 = .ok (.invokevirtual 25, 3) := by decide +kernel
theorem dX1_countPieces_13 : decode cX1_countPieces 13 = .ok (.ireturn, 1) := by decide +kernel
theorem dX1_countHoles_0 : decode cX1_countHoles 0 = .ok (.aload_n 0, 1) := by decide +kernel
theorem dX1_countHoles_1 : decode cX1_countHoles 1 = .ok (.aload_n 1, 1) := by decide +kernel
theorem dX1_countHoles_2 : decode cX1_countHoles 2 = .ok (.invokevirtual 29, 3) := by decide +kernel
theorem dX1_countHoles_5 : decode cX1_countHoles 5 = .ok (.aload_n 0, 1) := by decide +kernel
theorem dX1_countHoles_6 : decode cX1_countHoles 6 = .ok (.iconst 1, 1) := by decide +kernel
theorem dX1_countHoles_7 : decode cX1_countHoles 7 = .ok (.invokevirtual 25, 3) := by decide +kernel
theorem dX1_countHoles_10 : decode cX1_countHoles 10 = .ok (.ireturn, 1) := by decide +kernel
theorem dX1_findHoles_0 : decode cX1_findHoles 0 = .ok (.bipush (-32), 2) := by decide +kernel
theorem dX1_findHoles_2 : decode cX1_findHoles 2 = .ok (.istore_n 2, 1) := by decide +kernel
theorem dX1_findHoles_3 : decode cX1_findHoles 3 = .ok (.iload_n 2, 1) := by decide +kernel
theorem dX1_findHoles_4 : decode cX1_findHoles 4 = .ok (.bipush 31, 2) := by decide +kernel
theorem dX1_findHoles_6 : decode cX1_findHoles 6 = .ok (.if_icmp .gt 87, 3) := by decide +kernel
theorem dX1_findHoles_9 : decode cX1_findHoles 9 = .ok (.iload_n 2, 1) := by decide +kernel
theorem dX1_findHoles_10 : decode cX1_findHoles 10 = .ok (.bipush (-32), 2) := by decide +kernel
theorem dX1_findHoles_12 : decode cX1_findHoles 12 = .ok (.if_icmp .eq 9, 3) := by decide +kernel
theorem dX1_findHoles_15 : decode cX1_findHoles 15 = .ok (.iload_n 2, 1) := by decide +kernel
theorem dX1_findHoles_16 : decode cX1_findHoles 16 = .ok (.bipush 31, 2) := by decide +kernel
theorem dX1_findHoles_18 : decode cX1_findHoles 18 = .ok (.if_icmp .ne 7, 3) := by decide +kernel
theorem dX1_findHoles_21 : decode cX1_findHoles 21 = .ok (.iconst 1, 1) := by decide +kernel
theorem dX1_findHoles_22 : decode cX1_findHoles 22 = .ok (.goto 4, 3) := by decide +kernel
theorem dX1_findHoles_25 : decode cX1_findHoles 25 = .ok (.iconst 0, 1) := by decide +kernel
theorem dX1_findHoles_26 : decode cX1_findHoles 26 = .ok (.istore_n 3, 1) := by decide +kernel
theorem dX1_findHoles_27 : decode cX1_findHoles 27 = .ok (.iload_n 3, 1) := by decide +kernel
theorem dX1_findHoles_28 : decode cX1_findHoles 28 = .ok (.ifCond .eq 9, 3) := by decide +kernel
theorem dX1_findHoles_31 : decode cX1_findHoles 31 = .ok (.ldc2_w 46, 3) := by decide +kernel
theorem dX1_findHoles_34 : decode cX1_findHoles 34 = .ok (.goto 14, 3) := by decide +kernel
theorem dX1_findHoles_37 : decode cX1_findHoles 37 = .ok (.bipush (-32), 2) := by decide +kernel
theorem dX1_findHoles_39 : decode cX1_findHoles 39 = .ok (.invokestatic 48, 3) := by decide +kernel
theorem dX1_findHoles_42 : decode cX1_findHoles 42 = .ok (.bipush 31, 2) := by decide +kernel
theorem dX1_findHoles_44 : decode cX1_findHoles 44 = .ok (.invokestatic 48, 3) := by decide +kernel
theorem dX1_findHoles_47 : decode cX1_findHoles 47 = .ok (.lor, 1) := by decide +kernel
theorem dX1_findHoles_48 : decode cX1_findHoles 48 = .ok (.lstore 4, 2) := by decide +kernel
theorem dX1_findHoles_50 : decode cX1_findHoles 50 = .ok (.aload_n 0, 1) := by decide +kernel
theorem dX1_findHoles_51 : decode cX1_findHoles 51 = .ok (.getfield 12, 3) := by decide +kernel
theorem dX1_findHoles_54 : decode cX1_findHoles 54 = .ok (.iload_n 2, 1) := by decide +kernel
theorem dX1_findHoles_55 : decode cX1_findHoles 55 = .ok (.aload_n 1, 1) := by decide +kernel
theorem dX1_findHoles_56 : decode cX1_findHoles 56 = .ok (.iload_n 2, 1) := by decide +kernel
theorem dX1_findHoles_57 : decode cX1_findHoles 57 = .ok (.invokevirtual 52, 3) := by decide +kernel
theorem dX1_findHoles_60 : decode cX1_findHoles 60 = .ok (.ldc2_w 46, 3) := by decide +kernel
theorem dX1_findHoles_63 : decode cX1_findHoles 63 = .ok (.lxor, 1) := by decide +kernel
theorem dX1_findHoles_64 : decode cX1_findHoles 64 = .ok (.invokevirtual 55, 3) := by decide +kernel
theorem dX1_findHoles_67 : decode cX1_findHoles 67 = .ok (.aload_n 0, 1) := by decide +kernel
theorem dX1_findHoles_68 : decode cX1_findHoles 68 = .ok (.getfield 18, 3) := by decide +kernel
theorem dX1_findHoles_71 : decode cX1_findHoles 71 = .ok (.iload_n 2, 1) := by decide +kernel
theorem dX1_findHoles_72 : decode cX1_findHoles 72 = .ok (.aload_n 1, 1) := by decide +kernel
theorem dX1_findHoles_73 : decode cX1_findHoles 73 = .ok (.iload_n 2, 1) := by decide +kernel
theorem dX1_findHoles_74 : decode cX1_findHoles 74 = .ok (.invokevirtual 52, 3) := by decide +kernel
theorem dX1_findHoles_77 : decode cX1_findHoles 77 = .ok (.ldc2_w 46, 3) := by decide +kernel
theorem dX1_findHoles_80 : decode cX1_findHoles 80 = .ok (.lxor, 1) := by decide +kernel
theorem dX1_findHoles_81 : decode cX1_findHoles 81 = .ok (.lload 4, 2) := by decide +kernel
theorem dX1_findHoles_83 : decode cX1_findHoles 83 = .ok (.land, 1) := by decide +kernel
theorem dX1_findHoles_84 : decode cX1_findHoles 84 = .ok (.invokevirtual 55, 3) := by decide +kernel
theorem dX1_findHoles_87 : decode cX1_findHoles 87 = .ok (.iinc 2 1, 3) := by decide +kernel
theorem dX1_findHoles_90 : decode cX1_findHoles 90 = .ok (.goto (-87), 3) := by decide +kernel
theorem dX1_findHoles_93 : decode cX1_findHoles 93 = .ok (.aload_n 0, 1) := by decide +kernel
theorem dX1_findHoles_94 : decode cX1_findHoles 94 = .ok (.bipush (-32), 2) := by decide +kernel
theorem dX1_findHoles_96 : decode cX1_findHoles 96 = .ok (.putfield 59, 3) := by decide +kernel
theorem dX1_findHoles_99 : decode cX1_findHoles 99 = .ok (.aload_n 0, 1) := by decide +kernel
theorem dX1_findHoles_100 : decode cX1_findHoles 100 = .ok (.bipush 31, 2) := by decide +kernel
theorem dX1_findHoles_102 : decode cX1_findHoles 102 = .ok (.putfield 63, 3) := by decide +kernel
theorem dX1_findHoles_105 : decode cX1_findHoles 105 = .ok (.aload_n 0, 1) := by decide +kernel
theorem dX1_findHoles_106 : decode cX1_findHoles 106 = .ok (.iconst 1, 1) := by decide +kernel
theorem dX1_findHoles_107 : decode cX1_findHoles 107 = .ok (.invokevirtual 66, 3) := by decide +kernel
theorem dX1_findHoles_110 : decode cX1_findHoles 110 = .ok (.aload_n 0, 1) := by decide +kernel
theorem dX1_findHoles_111 : decode cX1_findHoles 111 = .ok (.invokevirtual 70, 3) := by decide +kernel
theorem dX1_findHoles_114 : decode cX1_findHoles 114 = .ok (.return_, 1) := by decide +kernel
theorem dX1_countParts_0 : decode cX1_countParts 0 = .ok (.iconst 0, 1) := by decide +kernel
theorem dX1_countParts_1 : decode cX1_countParts 1 = .ok (.istore_n 2, 1) := by decide +kernel
theorem dX1_countParts_2 : decode cX1_countParts 2 = .ok (.bipush (-32), 2) := by decide +kernel
theorem dX1_countParts_4 : decode cX1_countParts 4 = .ok (.istore_n 3, 1) := by decide +kernel
theorem dX1_countParts_5 : decode cX1_countParts 5 = .ok (.iload_n 3, 1) := by decide +kernel
theorem dX1_countParts_6 : decode cX1_countParts 6 = .ok (.bipush 31, 2) := by decide +kernel
theorem dX1_countParts_8 : decode cX1_countParts 8 = .ok (.if_icmp .gt 61, 3) := by decide +kernel
theorem dX1_countParts_11 : decode cX1_countParts 11 = .ok (.iconst 0, 1) := by decide +kernel
theorem dX1_countParts_12 : decode cX1_countParts 12 = .ok (.istore 4, 2) := by decide +kernel
theorem dX1_countParts_14 : decode cX1_countParts 14 = .ok (.iload 4, 2) := by decide +kernel
theorem dX1_countParts_16 : decode cX1_countParts 16 = .ok (.bipush 64, 2) := by decide +kernel
theorem dX1_countParts_18 : decode cX1_countParts 18 = .ok (.if_icmp .ge 45, 3) := by decide +kernel
theorem dX1_countParts_21 : decode cX1_countParts 21 = .ok (.aload_n 0, 1) := by decide +kernel
theorem dX1_countParts_22 : decode cX1_countParts 22 = .ok (.getfield 12, 3) := by decide +kernel
theorem dX1_countParts_25 : decode cX1_countParts 25 = .ok (.iload_n 3, 1) := by decide +kernel
theorem dX1_countParts_26 : decode cX1_countParts 26 = .ok (.invokevirtual 52, 3) := by decide +kernel
theorem dX1_countParts_29 : decode cX1_countParts 29 = .ok (.lconst 0, 1) := by decide +kernel
theorem dX1_countParts_30 : decode cX1_countParts 30 = .ok (.lcmp, 1) := by decide +kernel
theorem dX1_countParts_31 : decode cX1_countParts 31 = .ok (.ifCond .eq 32, 3) := by decide +kernel
theorem dX1_countParts_63 : decode cX1_countParts 63 = .ok (.iinc 3 1, 3) := by decide +kernel
theorem dX1_countParts_66 : decode cX1_countParts 66 = .ok (.goto (-61), 3) := by decide +kernel
theorem dX1_countParts_69 : decode cX1_countParts 69 = .ok (.iload_n 2, 1) := by decide +kernel
theorem dX1_countParts_70 : decode cX1_countParts 70 = .ok (.ireturn, 1) := by decide +kernel
theorem dX1_removeFound_0 : decode cX1_removeFound 0 = .ok (.aload_n 0, 1) := by decide +kernel
theorem dX1_removeFound_1 : decode cX1_removeFound 1 = .ok (.getfield 59, 3) := by decide +kernel
theorem dX1_removeFound_4 : decode cX1_removeFound 4 = .ok (.istore_n 1, 1) := by decide +kernel
theorem dX1_removeFound_5 : decode cX1_removeFound 5 = .ok (.iload_n 1, 1) := by decide +kernel
theorem dX1_removeFound_6 : decode cX1_removeFound 6 = .ok (.aload_n 0, 1) := by decide +kernel
theorem dX1_removeFound_7 : decode cX1_removeFound 7 = .ok (.getfield 63, 3) := by decide +kernel
theorem dX1_removeFound_10 : decode cX1_removeFound 10 = .ok (.if_icmp .gt 38, 3) := by decide +kernel
theorem dX1_removeFound_13 : decode cX1_removeFound 13 = .ok (.aload_n 0, 1) := by decide +kernel
theorem dX1_removeFound_14 : decode cX1_removeFound 14 = .ok (.getfield 12, 3) := by decide +kernel
theorem dX1_removeFound_17 : decode cX1_removeFound 17 = .ok (.iload_n 1, 1) := by decide +kernel
theorem dX1_removeFound_18 : decode cX1_removeFound 18 = .ok (.aload_n 0, 1) := by decide +kernel
theorem dX1_removeFound_19 : decode cX1_removeFound 19 = .ok (.getfield 12, 3) := by decide +kernel
theorem dX1_removeFound_22 : decode cX1_removeFound 22 = .ok (.iload_n 1, 1) := by decide +kernel
theorem dX1_removeFound_23 : decode cX1_removeFound 23 = .ok (.invokevirtual 52, 3) := by decide +kernel
theorem dX1_removeFound_26 : decode cX1_removeFound 26 = .ok (.aload_n 0, 1) := by decide +kernel
theorem dX1_removeFound_27 : decode cX1_removeFound 27 = .ok (.getfield 18, 3) := by decide +kernel
theorem dX1_removeFound_30 : decode cX1_removeFound 30 = .ok (.iload_n 1, 1) := by decide +kernel
theorem dX1_removeFound_31 : decode cX1_removeFound 31 = .ok (.invokevirtual 52, 3) := by decide +kernel
theorem dX1_removeFound_34 : decode cX1_removeFound 34 = .ok (.ldc2_w 46, 3) := by decide +kernel
theorem dX1_removeFound_37 : decode cX1_removeFound 37 = .ok (.lxor, 1) := by decide +kernel
theorem dX1_removeFound_38 : decode cX1_removeFound 38 = .ok (.land, 1) := by decide +kernel
theorem dX1_removeFound_39 : decode cX1_removeFound 39 = .ok (.invokevirtual 55, 3) := by decide +kernel
theorem dX1_removeFound_42 : decode cX1_removeFound 42 = .ok (.iinc 1 1, 3) := by decide +kernel
theorem dX1_removeFound_45 : decode cX1_removeFound 45 = .ok (.goto (-40), 3) := by decide +kernel
theorem dX1_removeFound_48 : decode cX1_removeFound 48 = .ok (.return_, 1) := by decide +kernel
theorem dX1_spread_0 : decode cX1_spread 0 = .ok (.iconst 1, 1) := by decide +kernel
theorem dX1_spread_1 : decode cX1_spread 1 = .ok (.istore_n 2, 1) := by decide +kernel
theorem dX1_spread_2 : decode cX1_spread 2 = .ok (.iconst 0, 1) := by decide +kernel
theorem dX1_spread_3 : decode cX1_spread 3 = .ok (.istore_n 3, 1) := by decide +kernel
theorem dX1_spread_4 : decode cX1_spread 4 = .ok (.iload_n 3, 1) := by decide +kernel
theorem dX1_spread_5 : decode cX1_spread 5 = .ok (.sipush 4096, 3) := by decide +kernel
theorem dX1_spread_8 : decode cX1_spread 8 = .ok (.if_icmp .gt 95, 3) := by decide +kernel
theorem dX1_spread_11 : decode cX1_spread 11 = .ok (.iload_n 2, 1) := by decide +kernel
theorem dX1_spread_12 : decode cX1_spread 12 = .ok (.ifCond .eq 91, 3) := by decide +kernel
theorem dX1_spread_15 : decode cX1_spread 15 = .ok (.iconst 0, 1) := by decide +kernel
theorem dX1_spread_16 : decode cX1_spread 16 = .ok (.istore_n 2, 1) := by decide +kernel
theorem dX1_spread_17 : decode cX1_spread 17 = .ok (.aload_n 0, 1) := by decide +kernel
theorem dX1_spread_18 : decode cX1_spread 18 = .ok (.getfield 59, 3) := by decide +kernel
theorem dX1_spread_21 : decode cX1_spread 21 = .ok (.istore 4, 2) := by decide +kernel
theorem dX1_spread_23 : decode cX1_spread 23 = .ok (.iload 4, 2) := by decide +kernel
theorem dX1_spread_25 : decode cX1_spread 25 = .ok (.bipush 31, 2) := by decide +kernel
theorem dX1_spread_27 : decode cX1_spread 27 = .ok (.if_icmp .gt 30, 3) := by decide +kernel
theorem dX1_spread_30 : decode cX1_spread 30 = .ok (.iload 4, 2) := by decide +kernel
theorem dX1_spread_32 : decode cX1_spread 32 = .ok (.aload_n 0, 1) := by decide +kernel
theorem dX1_spread_33 : decode cX1_spread 33 = .ok (.getfield 63, 3) := by decide +kernel
theorem dX1_spread_36 : decode cX1_spread 36 = .ok (.iconst 1, 1) := by decide +kernel
theorem dX1_spread_37 : decode cX1_spread 37 = .ok (.iadd, 1) := by decide +kernel
theorem dX1_spread_38 : decode cX1_spread 38 = .ok (.if_icmp .gt 19, 3) := by decide +kernel
theorem dX1_spread_41 : decode cX1_spread 41 = .ok (.iload_n 2, 1) := by decide +kernel
theorem dX1_spread_42 : decode cX1_spread 42 = .ok (.aload_n 0, 1) := by decide +kernel
theorem dX1_spread_43 : decode cX1_spread 43 = .ok (.iload 4, 2) := by decide +kernel
theorem dX1_spread_45 : decode cX1_spread 45 = .ok (.iload_n 1, 1) := by decide +kernel
theorem dX1_spread_46 : decode cX1_spread 46 = .ok (.invokevirtual 81, 3) := by decide +kernel
theorem dX1_spread_49 : decode cX1_spread 49 = .ok (.ior, 1) := by decide +kernel
theorem dX1_spread_50 : decode cX1_spread 50 = .ok (.istore_n 2, 1) := by decide +kernel
theorem dX1_spread_51 : decode cX1_spread 51 = .ok (.iinc 4 1, 3) := by decide +kernel
theorem dX1_spread_54 : decode cX1_spread 54 = .ok (.goto (-31), 3) := by decide +kernel
theorem dX1_spread_57 : decode cX1_spread 57 = .ok (.aload_n 0, 1) := by decide +kernel
theorem dX1_spread_58 : decode cX1_spread 58 = .ok (.getfield 63, 3) := by decide +kernel
theorem dX1_spread_61 : decode cX1_spread 61 = .ok (.istore 4, 2) := by decide +kernel
theorem dX1_spread_63 : decode cX1_spread 63 = .ok (.iload 4, 2) := by decide +kernel
theorem dX1_spread_65 : decode cX1_spread 65 = .ok (.bipush (-32), 2) := by decide +kernel
theorem dX1_spread_67 : decode cX1_spread 67 = .ok (.if_icmp .lt 30, 3) := by decide +kernel
theorem dX1_spread_70 : decode cX1_spread 70 = .ok (.iload 4, 2) := by decide +kernel
theorem dX1_spread_72 : decode cX1_spread 72 = .ok (.aload_n 0, 1) := by decide +kernel
theorem dX1_spread_73 : decode cX1_spread 73 = .ok (.getfield 59, 3) := by decide +kernel
theorem dX1_spread_76 : decode cX1_spread 76 = .ok (.iconst 1, 1) := by decide +kernel
theorem dX1_spread_77 : decode cX1_spread 77 = .ok (.isub, 1) := by decide +kernel
theorem dX1_spread_78 : decode cX1_spread 78 = .ok (.if_icmp .lt 19, 3) := by decide +kernel
theorem dX1_spread_81 : decode cX1_spread 81 = .ok (.iload_n 2, 1) := by decide +kernel
theorem dX1_spread_82 : decode cX1_spread 82 = .ok (.aload_n 0, 1) := by decide +kernel
theorem dX1_spread_83 : decode cX1_spread 83 = .ok (.iload 4, 2) := by decide +kernel
theorem dX1_spread_85 : decode cX1_spread 85 = .ok (.iload_n 1, 1) := by decide +kernel
theorem dX1_spread_86 : decode cX1_spread 86 = .ok (.invokevirtual 81, 3) := by decide +kernel
theorem dX1_spread_89 : decode cX1_spread 89 = .ok (.ior, 1) := by decide +kernel
theorem dX1_spread_90 : decode cX1_spread 90 = .ok (.istore_n 2, 1) := by decide +kernel
theorem dX1_spread_91 : decode cX1_spread 91 = .ok (.iinc 4 (-1), 3) := by decide +kernel
theorem dX1_spread_94 : decode cX1_spread 94 = .ok (.goto (-31), 3) := by decide +kernel
theorem dX1_spread_97 : decode cX1_spread 97 = .ok (.iinc 3 1, 3) := by decide +kernel
theorem dX1_spread_100 : decode cX1_spread 100 = .ok (.goto (-96), 3) := by decide +kernel
theorem dX1_spread_103 : decode cX1_spread 103 = .ok (.return_, 1) := by decide +kernel
theorem dX1_spreadInto_0 : decode cX1_spreadInto 0 = .ok (.aload_n 0, 1) := by decide +kernel
theorem dX1_spreadInto_1 : decode cX1_spreadInto 1 = .ok (.getfield 18, 3) := by decide +kernel
theorem dX1_spreadInto_4 : decode cX1_spreadInto 4 = .ok (.iload_n 1, 1) := by decide +kernel
theorem dX1_spreadInto_5 : decode cX1_spreadInto 5 = .ok (.iconst 1, 1) := by decide +kernel
theorem dX1_spreadInto_6 : decode cX1_spreadInto 6 = .ok (.isub, 1) := by decide +kernel
theorem dX1_spreadInto_7 : decode cX1_spreadInto 7 = .ok (.invokevirtual 52, 3) := by decide +kernel
theorem dX1_spreadInto_10 : decode cX1_spreadInto 10 = .ok (.aload_n 0, 1) := by decide +kernel
theorem dX1_spreadInto_11 : decode cX1_spreadInto 11 = .ok (.getfield 18, 3) := by decide +kernel
theorem dX1_spreadInto_14 : decode cX1_spreadInto 14 = .ok (.iload_n 1, 1) := by decide +kernel
theorem dX1_spreadInto_15 : decode cX1_spreadInto 15 = .ok (.iconst 1, 1) := by decide +kernel
theorem dX1_spreadInto_16 : decode cX1_spreadInto 16 = .ok (.iadd, 1) := by decide +kernel
theorem dX1_spreadInto_17 : decode cX1_spreadInto 17 = .ok (.invokevirtual 52, 3) := by decide +kernel
theorem dX1_spreadInto_20 : decode cX1_spreadInto 20 = .ok (.lor, 1) := by decide +kernel
theorem dX1_spreadInto_21 : decode cX1_spreadInto 21 = .ok (.lstore_n 3, 1) := by decide +kernel
theorem dX1_spreadInto_22 : decode cX1_spreadInto 22 = .ok (.iload_n 2, 1) := by decide +kernel
theorem dX1_spreadInto_23 : decode cX1_spreadInto 23 = .ok (.ifCond .eq 13, 3) := by decide +kernel
theorem dX1_spreadInto_26 : decode cX1_spreadInto 26 = .ok (.lload_n 3, 1) := by decide +kernel
theorem dX1_spreadInto_27 : decode cX1_spreadInto 27 = .ok (.lload_n 3, 1) := by decide +kernel
theorem dX1_spreadInto_28 : decode cX1_spreadInto 28 = .ok (.iconst 1, 1) := by decide +kernel
theorem dX1_spreadInto_29 : decode cX1_spreadInto 29 = .ok (.lshl, 1) := by decide +kernel
theorem dX1_spreadInto_30 : decode cX1_spreadInto 30 = .ok (.lload_n 3, 1) := by decide +kernel
theorem dX1_spreadInto_31 : decode cX1_spreadInto 31 = .ok (.iconst 1, 1) := by decide +kernel
theorem dX1_spreadInto_32 : decode cX1_spreadInto 32 = .ok (.lushr, 1) := by decide +kernel
theorem dX1_spreadInto_33 : decode cX1_spreadInto 33 = .ok (.lor, 1) := by decide +kernel
theorem dX1_spreadInto_34 : decode cX1_spreadInto 34 = .ok (.lor, 1) := by decide +kernel
theorem dX1_spreadInto_35 : decode cX1_spreadInto 35 = .ok (.lstore_n 3, 1) := by decide +kernel
theorem dX1_spreadInto_36 : decode cX1_spreadInto 36 = .ok (.aload_n 0, 1) := by decide +kernel
theorem dX1_spreadInto_37 : decode cX1_spreadInto 37 = .ok (.getfield 12, 3) := by decide +kernel
theorem dX1_spreadInto_40 : decode cX1_spreadInto 40 = .ok (.iload_n 1, 1) := by decide +kernel
theorem dX1_spreadInto_41 : decode cX1_spreadInto 41 = .ok (.invokevirtual 52, 3) := by decide +kernel
theorem dX1_spreadInto_44 : decode cX1_spreadInto 44 = .ok (.lstore 5, 2) := by decide +kernel
theorem dX1_spreadInto_46 : decode cX1_spreadInto 46 = .ok (.aload_n 0, 1) := by decide +kernel
theorem dX1_spreadInto_47 : decode cX1_spreadInto 47 = .ok (.getfield 18, 3) := by decide +kernel
theorem dX1_spreadInto_50 : decode cX1_spreadInto 50 = .ok (.iload_n 1, 1) := by decide +kernel
theorem dX1_spreadInto_51 : decode cX1_spreadInto 51 = .ok (.invokevirtual 52, 3) := by decide +kernel
theorem dX1_spreadInto_54 : decode cX1_spreadInto 54 = .ok (.lstore 7, 2) := by decide +kernel
theorem dX1_spreadInto_56 : decode cX1_spreadInto 56 = .ok (.lload 5, 2) := by decide +kernel
theorem dX1_spreadInto_58 : decode cX1_spreadInto 58 = .ok (.lload 7, 2) := by decide +kernel
theorem dX1_spreadInto_60 : decode cX1_spreadInto 60 = .ok (.lload_n 3, 1) := by decide +kernel
theorem dX1_spreadInto_61 : decode cX1_spreadInto 61 = .ok (.lor, 1) := by decide +kernel
theorem dX1_spreadInto_62 : decode cX1_spreadInto 62 = .ok (.land, 1) := by decide +kernel
theorem dX1_spreadInto_63 : decode cX1_spreadInto 63 = .ok (.lload 5, 2) := by decide +kernel
theorem dX1_spreadInto_65 : decode cX1_spreadInto 65 = .ok (.invokestatic 85, 3) := by decide +kernel
theorem dX1_spreadInto_68 : decode cX1_spreadInto 68 = .ok (.lstore 9, 2) := by decide +kernel
theorem dX1_spreadInto_70 : decode cX1_spreadInto 70 = .ok (.lload 9, 2) := by decide +kernel
theorem dX1_spreadInto_72 : decode cX1_spreadInto 72 = .ok (.lload 7, 2) := by decide +kernel
theorem dX1_spreadInto_74 : decode cX1_spreadInto 74 = .ok (.lcmp, 1) := by decide +kernel
theorem dX1_spreadInto_75 : decode cX1_spreadInto 75 = .ok (.ifCond .ne 5, 3) := by decide +kernel
theorem dX1_spreadInto_78 : decode cX1_spreadInto 78 = .ok (.iconst 0, 1) := by decide +kernel
theorem dX1_spreadInto_79 : decode cX1_spreadInto 79 = .ok (.ireturn, 1) := by decide +kernel
theorem dX1_spreadInto_80 : decode cX1_spreadInto 80 = .ok (.aload_n 0, 1) := by decide +kernel
theorem dX1_spreadInto_81 : decode cX1_spreadInto 81 = .ok (.getfield 18, 3) := by decide +kernel
theorem dX1_spreadInto_84 : decode cX1_spreadInto 84 = .ok (.iload_n 1, 1) := by decide +kernel
theorem dX1_spreadInto_85 : decode cX1_spreadInto 85 = .ok (.lload 9, 2) := by decide +kernel
theorem dX1_spreadInto_87 : decode cX1_spreadInto 87 = .ok (.invokevirtual 55, 3) := by decide +kernel
theorem dX1_spreadInto_90 : decode cX1_spreadInto 90 = .ok (.aload_n 0, 1) := by decide +kernel
theorem dX1_spreadInto_91 : decode cX1_spreadInto 91 = .ok (.aload_n 0, 1) := by decide +kernel
theorem dX1_spreadInto_92 : decode cX1_spreadInto 92 = .ok (.getfield 59, 3) := by decide +kernel
theorem dX1_spreadInto_95 : decode cX1_spreadInto 95 = .ok (.iload_n 1, 1) := by decide +kernel
theorem dX1_spreadInto_96 : decode cX1_spreadInto 96 = .ok (.invokestatic 89, 3) := by decide +kernel
theorem dX1_spreadInto_99 : decode cX1_spreadInto 99 = .ok (.putfield 59, 3) := by decide +kernel
theorem dX1_spreadInto_102 : decode cX1_spreadInto 102 = .ok (.aload_n 0, 1) := by decide +kernel
theorem dX1_spreadInto_103 : decode cX1_spreadInto 103 = .ok (.aload_n 0, 1) := by decide +kernel
theorem dX1_spreadInto_104 : decode cX1_spreadInto 104 = .ok (.getfield 63, 3) := by decide +kernel
theorem dX1_spreadInto_107 : decode cX1_spreadInto 107 = .ok (.iload_n 1, 1) := by decide +kernel
theorem dX1_spreadInto_108 : decode cX1_spreadInto 108 = .ok (.invokestatic 95, 3) := by decide +kernel
theorem dX1_spreadInto_111 : decode cX1_spreadInto 111 = .ok (.putfield 63, 3) := by decide +kernel
theorem dX1_spreadInto_114 : decode cX1_spreadInto 114 = .ok (.iconst 1, 1) := by decide +kernel
theorem dX1_spreadInto_115 : decode cX1_spreadInto 115 = .ok (.ireturn, 1) := by decide +kernel
theorem dX1_along_0 : decode cX1_along 0 = .ok (.lload_n 0, 1) := by decide +kernel
theorem dX1_along_1 : decode cX1_along 1 = .ok (.lstore 4, 2) := by decide +kernel
theorem dX1_along_3 : decode cX1_along 3 = .ok (.lload_n 2, 1) := by decide +kernel
theorem dX1_along_4 : decode cX1_along 4 = .ok (.lstore 6, 2) := by decide +kernel
theorem dX1_along_6 : decode cX1_along 6 = .ok (.lload_n 0, 1) := by decide +kernel
theorem dX1_along_7 : decode cX1_along 7 = .ok (.lstore 8, 2) := by decide +kernel
theorem dX1_along_9 : decode cX1_along 9 = .ok (.lload_n 2, 1) := by decide +kernel
theorem dX1_along_10 : decode cX1_along 10 = .ok (.lstore 10, 2) := by decide +kernel
theorem dX1_along_12 : decode cX1_along 12 = .ok (.iconst 1, 1) := by decide +kernel
theorem dX1_along_13 : decode cX1_along 13 = .ok (.istore 12, 2) := by decide +kernel
theorem dX1_along_15 : decode cX1_along 15 = .ok (.iload 12, 2) := by decide +kernel
theorem dX1_along_17 : decode cX1_along 17 = .ok (.bipush 64, 2) := by decide +kernel
theorem dX1_along_19 : decode cX1_along 19 = .ok (.if_icmp .ge 58, 3) := by decide +kernel
theorem dX1_along_22 : decode cX1_along 22 = .ok (.lload 4, 2) := by decide +kernel
theorem dX1_along_24 : decode cX1_along 24 = .ok (.lload 6, 2) := by decide +kernel
theorem dX1_along_26 : decode cX1_along 26 = .ok (.lload 4, 2) := by decide +kernel
theorem dX1_along_28 : decode cX1_along 28 = .ok (.iload 12, 2) := by decide +kernel
theorem dX1_along_30 : decode cX1_along 30 = .ok (.lshl, 1) := by decide +kernel
theorem dX1_along_31 : decode cX1_along 31 = .ok (.land, 1) := by decide +kernel
theorem dX1_along_32 : decode cX1_along 32 = .ok (.lor, 1) := by decide +kernel
theorem dX1_along_33 : decode cX1_along 33 = .ok (.lstore 4, 2) := by decide +kernel
theorem dX1_along_35 : decode cX1_along 35 = .ok (.lload 6, 2) := by decide +kernel
theorem dX1_along_37 : decode cX1_along 37 = .ok (.lload 6, 2) := by decide +kernel
theorem dX1_along_39 : decode cX1_along 39 = .ok (.iload 12, 2) := by decide +kernel
theorem dX1_along_41 : decode cX1_along 41 = .ok (.lshl, 1) := by decide +kernel
theorem dX1_along_42 : decode cX1_along 42 = .ok (.land, 1) := by decide +kernel
theorem dX1_along_43 : decode cX1_along 43 = .ok (.lstore 6, 2) := by decide +kernel
theorem dX1_along_45 : decode cX1_along 45 = .ok (.lload 8, 2) := by decide +kernel
theorem dX1_along_47 : decode cX1_along 47 = .ok (.lload 10, 2) := by decide +kernel
theorem dX1_along_49 : decode cX1_along 49 = .ok (.lload 8, 2) := by decide +kernel
theorem dX1_along_51 : decode cX1_along 51 = .ok (.iload 12, 2) := by decide +kernel
theorem dX1_along_53 : decode cX1_along 53 = .ok (.lushr, 1) := by decide +kernel
theorem dX1_along_54 : decode cX1_along 54 = .ok (.land, 1) := by decide +kernel
theorem dX1_along_55 : decode cX1_along 55 = .ok (.lor, 1) := by decide +kernel
theorem dX1_along_56 : decode cX1_along 56 = .ok (.lstore 8, 2) := by decide +kernel
theorem dX1_along_58 : decode cX1_along 58 = .ok (.lload 10, 2) := by decide +kernel
theorem dX1_along_60 : decode cX1_along 60 = .ok (.lload 10, 2) := by decide +kernel
theorem dX1_along_62 : decode cX1_along 62 = .ok (.iload 12, 2) := by decide +kernel
theorem dX1_along_64 : decode cX1_along 64 = .ok (.lushr, 1) := by decide +kernel
theorem dX1_along_65 : decode cX1_along 65 = .ok (.land, 1) := by decide +kernel
theorem dX1_along_66 : decode cX1_along 66 = .ok (.lstore 10, 2) := by decide +kernel
theorem dX1_along_68 : decode cX1_along 68 = .ok (.iload 12, 2) := by decide +kernel
theorem dX1_along_70 : decode cX1_along 70 = .ok (.iconst 2, 1) := by decide +kernel
theorem dX1_along_71 : decode cX1_along 71 = .ok (.imul, 1) := by decide +kernel
theorem dX1_along_72 : decode cX1_along 72 = .ok (.istore 12, 2) := by decide +kernel
theorem dX1_along_74 : decode cX1_along 74 = .ok (.goto (-59), 3) := by decide +kernel
theorem dX1_along_77 : decode cX1_along 77 = .ok (.lload 4, 2) := by decide +kernel
theorem dX1_along_79 : decode cX1_along 79 = .ok (.lload 8, 2) := by decide +kernel
theorem dX1_along_81 : decode cX1_along 81 = .ok (.lor, 1) := by decide +kernel
theorem dX1_along_82 : decode cX1_along 82 = .ok (.lreturn, 1) := by decide +kernel
theorem dX2_init_0 : decode cX2_init 0 = .ok (.aload_n 0, 1) := by decide +kernel
theorem dX2_init_1 : decode cX2_init 1 = .ok (.invokespecial 3, 3) := by decide +kernel
theorem dX2_init_4 : decode cX2_init 4 = .ok (.aload_n 0, 1) := by decide +kernel
theorem dX2_init_5 : decode cX2_init 5 = .ok (.bipush 12, 2) := by decide +kernel
theorem dX2_init_7 : decode cX2_init 7 = .ok (.anewarray 9, 3) := by decide +kernel
theorem dX2_init_10 : decode cX2_init 10 = .ok (.putfield 11, 3) := by decide +kernel
theorem dX2_init_13 : decode cX2_init 13 = .ok (.aload_n 0, 1) := by decide +kernel
theorem dX2_init_14 : decode cX2_init 14 = .ok (.bipush 12, 2) := by decide +kernel
theorem dX2_init_16 : decode cX2_init 16 = .ok (.newarray .int, 2) := by decide +kernel
theorem dX2_init_18 : decode cX2_init 18 = .ok (.putfield 17, 3) := by decide +kernel
theorem dX2_init_21 : decode cX2_init 21 = .ok (.iconst 0, 1) := by decide +kernel
theorem dX2_init_22 : decode cX2_init 22 = .ok (.istore_n 1, 1) := by decide +kernel
theorem dX2_init_23 : decode cX2_init 23 = .ok (.iload_n 1, 1) := by decide +kernel
theorem dX2_init_24 : decode cX2_init 24 = .ok (.aload_n 0, 1) := by decide +kernel
theorem dX2_init_25 : decode cX2_init 25 = .ok (.getfield 11, 3) := by decide +kernel
theorem dX2_init_28 : decode cX2_init 28 = .ok (.arraylength, 1) := by decide +kernel
theorem dX2_init_29 : decode cX2_init 29 = .ok (.if_icmp .ge 22, 3) := by decide +kernel
theorem dX2_init_32 : decode cX2_init 32 = .ok (.aload_n 0, 1) := by decide +kernel
theorem dX2_init_33 : decode cX2_init 33 = .ok (.getfield 11, 3) := by decide +kernel
theorem dX2_init_36 : decode cX2_init 36 = .ok (.iload_n 1, 1) := by decide +kernel
theorem dX2_init_37 : decode cX2_init 37 = .ok (.new 9, 3) := by decide +kernel
theorem dX2_init_40 : decode cX2_init 40 = .ok (.dup, 1) := by decide +kernel
theorem dX2_init_41 : decode cX2_init 41 = .ok (.invokespecial 21, 3) := by decide +kernel
theorem dX2_init_44 : decode cX2_init 44 = .ok (.aastore, 1) := by decide +kernel
theorem dX2_init_45 : decode cX2_init 45 = .ok (.iinc 1 1, 3) := by decide +kernel
theorem dX2_init_48 : decode cX2_init 48 = .ok (.goto (-25), 3) := by decide +kernel
theorem dX2_init_51 : decode cX2_init 51 = .ok (.return_, 1) := by decide +kernel
theorem dX2_count_0 : decode cX2_count 0 = .ok (.aload_n 0, 1) := by decide +kernel
theorem dX2_count_1 : decode cX2_count 1 = .ok (.getfield 22, 3) := by decide +kernel
theorem dX2_count_4 : decode cX2_count 4 = .ok (.ireturn, 1) := by decide +kernel
theorem dX3_init_0 : decode cX3_init 0 = .ok (.aload_n 0, 1) := by decide +kernel
theorem dX3_init_1 : decode cX3_init 1 = .ok (.invokespecial 3, 3) := by decide +kernel
theorem dX3_init_4 : decode cX3_init 4 = .ok (.aload_n 0, 1) := by decide +kernel
theorem dX3_init_5 : decode cX3_init 5 = .ok (.new 9, 3) := by decide +kernel
theorem dX3_init_8 : decode cX3_init 8 = .ok (.dup, 1) := by decide +kernel
theorem dX3_init_9 : decode cX3_init 9 = .ok (.invokespecial 11, 3) := by decide +kernel
theorem dX3_init_12 : decode cX3_init 12 = .ok (.putfield 12, 3) := by decide +kernel
theorem dX3_init_15 : decode cX3_init 15 = .ok (.aload_n 0, 1) := by decide +kernel
theorem dX3_init_16 : decode cX3_init 16 = .ok (.new 9, 3) := by decide +kernel
theorem dX3_init_19 : decode cX3_init 19 = .ok (.dup, 1) := by decide +kernel
theorem dX3_init_20 : decode cX3_init 20 = .ok (.invokespecial 11, 3) := by decide +kernel
theorem dX3_init_23 : decode cX3_init 23 = .ok (.putfield 18, 3) := by decide +kernel
theorem dX3_init_26 : decode cX3_init 26 = .ok (.aload_n 0, 1) := by decide +kernel
theorem dX3_init_27 : decode cX3_init 27 = .ok (.new 9, 3) := by decide +kernel
theorem dX3_init_30 : decode cX3_init 30 = .ok (.dup, 1) := by decide +kernel
theorem dX3_init_31 : decode cX3_init 31 = .ok (.invokespecial 11, 3) := by decide +kernel
theorem dX3_init_34 : decode cX3_init 34 = .ok (.putfield 21, 3) := by decide +kernel
theorem dX3_init_37 : decode cX3_init 37 = .ok (.return_, 1) := by decide +kernel
theorem dX3_countContours_0 : decode cX3_countContours 0 = .ok (.aload_n 0, 1) := by decide +kernel
theorem dX3_countContours_1 : decode cX3_countContours 1 = .ok (.aload_n 1, 1) := by decide +kernel
theorem dX3_countContours_2 : decode cX3_countContours 2 = .ok (.invokevirtual 37, 3) := by decide +kernel
theorem dX3_countContours_5 : decode cX3_countContours 5 = .ok (.iconst 0, 1) := by decide +kernel
theorem dX3_countContours_6 : decode cX3_countContours 6 = .ok (.istore_n 2, 1) := by decide +kernel
theorem dX3_countContours_7 : decode cX3_countContours 7 = .ok (.iload_n 2, 1) := by decide +kernel
theorem dX3_countContours_8 : decode cX3_countContours 8 = .ok (.sipush 16384, 3) := by decide +kernel
theorem dX3_countContours_11 : decode cX3_countContours 11 = .ok (.if_icmp .ge 17, 3) := by decide +kernel
theorem dX3_countContours_14 : decode cX3_countContours 14 = .ok (.aload_n 0, 1) := by decide +kernel
theorem dX3_countContours_15 : decode cX3_countContours 15 = .ok (.iconst 0, 1) := by decide +kernel
theorem dX3_countContours_16 : decode cX3_countContours 16 = .ok (.invokevirtual 41, 3) := by decide +kernel
theorem dX3_countContours_19 : decode cX3_countContours 19 = .ok (.ifCond .eq 9, 3) := by decide +kernel
theorem dX3_countContours_28 : decode cX3_countContours 28 = .ok (.iload_n 2, 1) := by decide +kernel
theorem dX3_countContours_29 : decode cX3_countContours 29 = .ok (.ireturn, 1) := by decide +kernel
theorem dX3_begin_0 : decode cX3_begin 0 = .ok (.aload_n 0, 1) := by decide +kernel
theorem dX3_begin_1 : decode cX3_begin 1 = .ok (.getfield 12, 3) := by decide +kernel
theorem dX3_begin_4 : decode cX3_begin 4 = .ok (.aload_n 1, 1) := by decide +kernel
theorem dX3_begin_5 : decode cX3_begin 5 = .ok (.invokevirtual 45, 3) := by decide +kernel
theorem dX3_begin_8 : decode cX3_begin 8 = .ok (.aload_n 0, 1) := by decide +kernel
theorem dX3_begin_9 : decode cX3_begin 9 = .ok (.getfield 18, 3) := by decide +kernel
theorem dX3_begin_12 : decode cX3_begin 12 = .ok (.invokevirtual 48, 3) := by decide +kernel
theorem dX3_begin_15 : decode cX3_begin 15 = .ok (.aload_n 0, 1) := by decide +kernel
theorem dX3_begin_16 : decode cX3_begin 16 = .ok (.getfield 21, 3) := by decide +kernel
theorem dX3_begin_19 : decode cX3_begin 19 = .ok (.invokevirtual 48, 3) := by decide +kernel
theorem dX3_begin_22 : decode cX3_begin 22 = .ok (.aload_n 0, 1) := by decide +kernel
theorem dX3_begin_23 : decode cX3_begin 23 = .ok (.bipush (-32), 2) := by decide +kernel
theorem dX3_begin_25 : decode cX3_begin 25 = .ok (.putfield 51, 3) := by decide +kernel
theorem dX3_begin_28 : decode cX3_begin 28 = .ok (.return_, 1) := by decide +kernel
theorem dX3_next_0 : decode cX3_next 0 = .ok (.aload_n 0, 1) := by decide +kernel
theorem dX3_next_1 : decode cX3_next 1 = .ok (.iload_n 1, 1) := by decide +kernel
theorem dX3_next_2 : decode cX3_next 2 = .ok (.putfield 54, 3) := by decide +kernel
theorem dX3_next_5 : decode cX3_next 5 = .ok (.aload_n 0, 1) := by decide +kernel
theorem dX3_next_6 : decode cX3_next 6 = .ok (.getfield 51, 3) := by decide +kernel
theorem dX3_next_9 : decode cX3_next 9 = .ok (.bipush 31, 2) := by decide +kernel
theorem dX3_next_11 : decode cX3_next 11 = .ok (.if_icmp .gt 122, 3) := by decide +kernel
theorem dX3_next_14 : decode cX3_next 14 = .ok (.aload_n 0, 1) := by decide +kernel
theorem dX3_next_15 : decode cX3_next 15 = .ok (.getfield 12, 3) := by decide +kernel
theorem dX3_next_18 : decode cX3_next 18 = .ok (.aload_n 0, 1) := by decide +kernel
theorem dX3_next_19 : decode cX3_next 19 = .ok (.getfield 51, 3) := by decide +kernel
theorem dX3_next_22 : decode cX3_next 22 = .ok (.invokevirtual 57, 3) := by decide +kernel
theorem dX3_next_25 : decode cX3_next 25 = .ok (.lstore_n 2, 1) := by decide +kernel
theorem dX3_next_26 : decode cX3_next 26 = .ok (.lload_n 2, 1) := by decide +kernel
theorem dX3_next_27 : decode cX3_next 27 = .ok (.aload_n 0, 1) := by decide +kernel
theorem dX3_next_28 : decode cX3_next 28 = .ok (.getfield 12, 3) := by decide +kernel
theorem dX3_next_31 : decode cX3_next 31 = .ok (.aload_n 0, 1) := by decide +kernel
theorem dX3_next_32 : decode cX3_next 32 = .ok (.getfield 51, 3) := by decide +kernel
theorem dX3_next_35 : decode cX3_next 35 = .ok (.iconst 1, 1) := by decide +kernel
theorem dX3_next_36 : decode cX3_next 36 = .ok (.isub, 1) := by decide +kernel
theorem dX3_next_37 : decode cX3_next 37 = .ok (.invokevirtual 57, 3) := by decide +kernel
theorem dX3_next_40 : decode cX3_next 40 = .ok (.ldc2_w 61, 3) := by decide +kernel
theorem dX3_next_43 : decode cX3_next 43 = .ok (.lxor, 1) := by decide +kernel
theorem dX3_next_44 : decode cX3_next 44 = .ok (.land, 1) := by decide +kernel
theorem dX3_next_45 : decode cX3_next 45 = .ok (.aload_n 0, 1) := by decide +kernel
theorem dX3_next_46 : decode cX3_next 46 = .ok (.getfield 18, 3) := by decide +kernel
theorem dX3_next_49 : decode cX3_next 49 = .ok (.aload_n 0, 1) := by decide +kernel
theorem dX3_next_50 : decode cX3_next 50 = .ok (.getfield 51, 3) := by decide +kernel
theorem dX3_next_53 : decode cX3_next 53 = .ok (.invokevirtual 57, 3) := by decide +kernel
theorem dX3_next_56 : decode cX3_next 56 = .ok (.ldc2_w 61, 3) := by decide +kernel
theorem dX3_next_59 : decode cX3_next 59 = .ok (.lxor, 1) := by decide +kernel
theorem dX3_next_60 : decode cX3_next 60 = .ok (.land, 1) := by decide +kernel
theorem dX3_next_61 : decode cX3_next 61 = .ok (.lstore 4, 2) := by decide +kernel
theorem dX3_next_63 : decode cX3_next 63 = .ok (.lload_n 2, 1) := by decide +kernel
theorem dX3_next_64 : decode cX3_next 64 = .ok (.lload_n 2, 1) := by decide +kernel
theorem dX3_next_65 : decode cX3_next 65 = .ok (.iconst 1, 1) := by decide +kernel
theorem dX3_next_66 : decode cX3_next 66 = .ok (.lushr, 1) := by decide +kernel
theorem dX3_next_67 : decode cX3_next 67 = .ok (.ldc2_w 61, 3) := by decide +kernel
theorem dX3_next_70 : decode cX3_next 70 = .ok (.lxor, 1) := by decide +kernel
theorem dX3_next_71 : decode cX3_next 71 = .ok (.land, 1) := by decide +kernel
theorem dX3_next_72 : decode cX3_next 72 = .ok (.aload_n 0, 1) := by decide +kernel
theorem dX3_next_73 : decode cX3_next 73 = .ok (.getfield 21, 3) := by decide +kernel
theorem dX3_next_76 : decode cX3_next 76 = .ok (.aload_n 0, 1) := by decide +kernel
theorem dX3_next_77 : decode cX3_next 77 = .ok (.getfield 51, 3) := by decide +kernel
theorem dX3_next_80 : decode cX3_next 80 = .ok (.invokevirtual 57, 3) := by decide +kernel
theorem dX3_next_83 : decode cX3_next 83 = .ok (.ldc2_w 61, 3) := by decide +kernel
theorem dX3_next_86 : decode cX3_next 86 = .ok (.lxor, 1) := by decide +kernel
theorem dX3_next_87 : decode cX3_next 87 = .ok (.land, 1) := by decide +kernel
theorem dX3_next_88 : decode cX3_next 88 = .ok (.lstore 6, 2) := by decide +kernel
theorem dX3_next_90 : decode cX3_next 90 = .ok (.lload 4, 2) := by decide +kernel
theorem dX3_next_92 : decode cX3_next 92 = .ok (.lload 6, 2) := by decide +kernel
theorem dX3_next_94 : decode cX3_next 94 = .ok (.lor, 1) := by decide +kernel
theorem dX3_next_95 : decode cX3_next 95 = .ok (.lconst 0, 1) := by decide +kernel
theorem dX3_next_96 : decode cX3_next 96 = .ok (.lcmp, 1) := by decide +kernel
theorem dX3_next_97 : decode cX3_next 97 = .ok (.ifCond .eq 23, 3) := by decide +kernel
theorem dX3_next_120 : decode cX3_next 120 = .ok (.aload_n 0, 1) := by decide +kernel
theorem dX3_next_121 : decode cX3_next 121 = .ok (.dup, 1) := by decide +kernel
theorem dX3_next_122 : decode cX3_next 122 = .ok (.getfield 51, 3) := by decide +kernel
theorem dX3_next_125 : decode cX3_next 125 = .ok (.iconst 1, 1) := by decide +kernel
theorem dX3_next_126 : decode cX3_next 126 = .ok (.iadd, 1) := by decide +kernel
theorem dX3_next_127 : decode cX3_next 127 = .ok (.putfield 51, 3) := by decide +kernel
theorem dX3_next_130 : decode cX3_next 130 = .ok (.goto (-125), 3) := by decide +kernel
theorem dX3_next_133 : decode cX3_next 133 = .ok (.iconst 0, 1) := by decide +kernel
theorem dX3_next_134 : decode cX3_next 134 = .ok (.ireturn, 1) := by decide +kernel
theorem dX4_init_0 : decode cX4_init 0 = .ok (.aload_n 0, 1) := by decide +kernel
theorem dX4_init_1 : decode cX4_init 1 = .ok (.invokespecial 3, 3) := by decide +kernel
theorem dX4_init_4 : decode cX4_init 4 = .ok (.aload_n 0, 1) := by decide +kernel
theorem dX4_init_5 : decode cX4_init 5 = .ok (.bipush 60, 2) := by decide +kernel
theorem dX4_init_7 : decode cX4_init 7 = .ok (.newarray .int, 2) := by decide +kernel
theorem dX4_init_9 : decode cX4_init 9 = .ok (.putfield 9, 3) := by decide +kernel
theorem dX4_init_12 : decode cX4_init 12 = .ok (.aload_n 0, 1) := by decide +kernel
theorem dX4_init_13 : decode cX4_init 13 = .ok (.bipush 60, 2) := by decide +kernel
theorem dX4_init_15 : decode cX4_init 15 = .ok (.newarray .int, 2) := by decide +kernel
theorem dX4_init_17 : decode cX4_init 17 = .ok (.putfield 15, 3) := by decide +kernel
theorem dX4_init_20 : decode cX4_init 20 = .ok (.aload_n 0, 1) := by decide +kernel
theorem dX4_init_21 : decode cX4_init 21 = .ok (.iconst 1, 1) := by decide +kernel
theorem dX4_init_22 : decode cX4_init 22 = .ok (.putfield 18, 3) := by decide +kernel
theorem dX4_init_25 : decode cX4_init 25 = .ok (.aload_n 0, 1) := by decide +kernel
theorem dX4_init_26 : decode cX4_init 26 = .ok (.bipush 64, 2) := by decide +kernel
theorem dX4_init_28 : decode cX4_init 28 = .ok (.newarray .int, 2) := by decide +kernel
theorem dX4_init_30 : decode cX4_init 30 = .ok (.putfield 22, 3) := by decide +kernel
theorem dX4_init_33 : decode cX4_init 33 = .ok (.return_, 1) := by decide +kernel
theorem dX4_length_0 : decode cX4_length 0 = .ok (.aload_n 0, 1) := by decide +kernel
theorem dX4_length_1 : decode cX4_length 1 = .ok (.getfield 18, 3) := by decide +kernel
theorem dX4_length_4 : decode cX4_length 4 = .ok (.ireturn, 1) := by decide +kernel
theorem dX5_init_0 : decode cX5_init 0 = .ok (.aload_n 0, 1) := by decide +kernel
theorem dX5_init_1 : decode cX5_init 1 = .ok (.invokespecial 3, 3) := by decide +kernel
theorem dX5_init_4 : decode cX5_init 4 = .ok (.aload_n 0, 1) := by decide +kernel
theorem dX5_init_5 : decode cX5_init 5 = .ok (.new 9, 3) := by decide +kernel
theorem dX5_init_8 : decode cX5_init 8 = .ok (.dup, 1) := by decide +kernel
theorem dX5_init_9 : decode cX5_init 9 = .ok (.invokespecial 11, 3) := by decide +kernel
theorem dX5_init_12 : decode cX5_init 12 = .ok (.putfield 12, 3) := by decide +kernel
theorem dX5_init_15 : decode cX5_init 15 = .ok (.return_, 1) := by decide +kernel
theorem dX5_countStrips_0 : decode cX5_countStrips 0 = .ok (.aload_n 0, 1) := by decide +kernel
theorem dX5_countStrips_1 : decode cX5_countStrips 1 = .ok (.aload_n 1, 1) := by decide +kernel
theorem dX5_countStrips_2 : decode cX5_countStrips 2 = .ok (.invokevirtual 31, 3) := by decide +kernel
theorem dX5_countStrips_5 : decode cX5_countStrips 5 = .ok (.iconst 0, 1) := by decide +kernel
theorem dX5_countStrips_6 : decode cX5_countStrips 6 = .ok (.istore_n 2, 1) := by decide +kernel
theorem dX5_countStrips_7 : decode cX5_countStrips 7 = .ok (.iload_n 2, 1) := by decide +kernel
theorem dX5_countStrips_8 : decode cX5_countStrips 8 = .ok (.sipush 16384, 3) := by decide +kernel
theorem dX5_countStrips_11 : decode cX5_countStrips 11 = .ok (.if_icmp .ge 16, 3) := by decide +kernel
theorem dX5_countStrips_14 : decode cX5_countStrips 14 = .ok (.aload_n 0, 1) := by decide +kernel
theorem dX5_countStrips_15 : decode cX5_countStrips 15 = .ok (.invokevirtual 35, 3) := by decide +kernel
theorem dX5_countStrips_18 : decode cX5_countStrips 18 = .ok (.ifCond .eq 9, 3) := by decide +kernel
theorem dX5_countStrips_27 : decode cX5_countStrips 27 = .ok (.iload_n 2, 1) := by decide +kernel
theorem dX5_countStrips_28 : decode cX5_countStrips 28 = .ok (.ireturn, 1) := by decide +kernel
theorem dX5_begin_0 : decode cX5_begin 0 = .ok (.aload_n 0, 1) := by decide +kernel
theorem dX5_begin_1 : decode cX5_begin 1 = .ok (.getfield 12, 3) := by decide +kernel
theorem dX5_begin_4 : decode cX5_begin 4 = .ok (.aload_n 1, 1) := by decide +kernel
theorem dX5_begin_5 : decode cX5_begin 5 = .ok (.invokevirtual 39, 3) := by decide +kernel
theorem dX5_begin_8 : decode cX5_begin 8 = .ok (.aload_n 0, 1) := by decide +kernel
theorem dX5_begin_9 : decode cX5_begin 9 = .ok (.bipush (-32), 2) := by decide +kernel
theorem dX5_begin_11 : decode cX5_begin 11 = .ok (.putfield 42, 3) := by decide +kernel
theorem dX5_begin_14 : decode cX5_begin 14 = .ok (.aload_n 0, 1) := by decide +kernel
theorem dX5_begin_15 : decode cX5_begin 15 = .ok (.aload_n 0, 1) := by decide +kernel
theorem dX5_begin_16 : decode cX5_begin 16 = .ok (.getfield 12, 3) := by decide +kernel
theorem dX5_begin_19 : decode cX5_begin 19 = .ok (.aload_n 0, 1) := by decide +kernel
theorem dX5_begin_20 : decode cX5_begin 20 = .ok (.getfield 42, 3) := by decide +kernel
theorem dX5_begin_23 : decode cX5_begin 23 = .ok (.invokevirtual 45, 3) := by decide +kernel
theorem dX5_begin_26 : decode cX5_begin 26 = .ok (.putfield 49, 3) := by decide +kernel
theorem dX5_begin_29 : decode cX5_begin 29 = .ok (.return_, 1) := by decide +kernel
theorem dX5_next_0 : decode cX5_next 0 = .ok (.aload_n 0, 1) := by decide +kernel
theorem dX5_next_1 : decode cX5_next 1 = .ok (.getfield 42, 3) := by decide +kernel
theorem dX5_next_4 : decode cX5_next 4 = .ok (.bipush 31, 2) := by decide +kernel
theorem dX5_next_6 : decode cX5_next 6 = .ok (.if_icmp .gt 97, 3) := by decide +kernel
theorem dX5_next_9 : decode cX5_next 9 = .ok (.iconst 0, 1) := by decide +kernel
theorem dX5_next_10 : decode cX5_next 10 = .ok (.istore_n 1, 1) := by decide +kernel
theorem dX5_next_11 : decode cX5_next 11 = .ok (.iload_n 1, 1) := by decide +kernel
theorem dX5_next_12 : decode cX5_next 12 = .ok (.bipush 64, 2) := by decide +kernel
theorem dX5_next_14 : decode cX5_next 14 = .ok (.if_icmp .ge 61, 3) := by decide +kernel
theorem dX5_next_17 : decode cX5_next 17 = .ok (.aload_n 0, 1) := by decide +kernel
theorem dX5_next_18 : decode cX5_next 18 = .ok (.getfield 49, 3) := by decide +kernel
theorem dX5_next_21 : decode cX5_next 21 = .ok (.lconst 0, 1) := by decide +kernel
theorem dX5_next_22 : decode cX5_next 22 = .ok (.lcmp, 1) := by decide +kernel
theorem dX5_next_23 : decode cX5_next 23 = .ok (.ifCond .eq 52, 3) := by decide +kernel
theorem dX5_next_75 : decode cX5_next 75 = .ok (.aload_n 0, 1) := by decide +kernel
theorem dX5_next_76 : decode cX5_next 76 = .ok (.dup, 1) := by decide +kernel
theorem dX5_next_77 : decode cX5_next 77 = .ok (.getfield 42, 3) := by decide +kernel
theorem dX5_next_80 : decode cX5_next 80 = .ok (.iconst 1, 1) := by decide +kernel
theorem dX5_next_81 : decode cX5_next 81 = .ok (.iadd, 1) := by decide +kernel
theorem dX5_next_82 : decode cX5_next 82 = .ok (.putfield 42, 3) := by decide +kernel
theorem dX5_next_85 : decode cX5_next 85 = .ok (.aload_n 0, 1) := by decide +kernel
theorem dX5_next_86 : decode cX5_next 86 = .ok (.aload_n 0, 1) := by decide +kernel
theorem dX5_next_87 : decode cX5_next 87 = .ok (.getfield 12, 3) := by decide +kernel
theorem dX5_next_90 : decode cX5_next 90 = .ok (.aload_n 0, 1) := by decide +kernel
theorem dX5_next_91 : decode cX5_next 91 = .ok (.getfield 42, 3) := by decide +kernel
theorem dX5_next_94 : decode cX5_next 94 = .ok (.invokevirtual 45, 3) := by decide +kernel
theorem dX5_next_97 : decode cX5_next 97 = .ok (.putfield 49, 3) := by decide +kernel
theorem dX5_next_100 : decode cX5_next 100 = .ok (.goto (-100), 3) := by decide +kernel
theorem dX5_next_103 : decode cX5_next 103 = .ok (.iconst 0, 1) := by decide +kernel
theorem dX5_next_104 : decode cX5_next 104 = .ok (.ireturn, 1) := by decide +kernel
theorem dX6_init_0 : decode cX6_init 0 = .ok (.aload_n 0, 1) := by decide +kernel
theorem dX6_init_1 : decode cX6_init 1 = .ok (.invokespecial 3, 3) := by decide +kernel
theorem dX6_init_4 : decode cX6_init 4 = .ok (.aload_n 0, 1) := by decide +kernel
theorem dX6_init_5 : decode cX6_init 5 = .ok (.bipush 8, 2) := by decide +kernel
theorem dX6_init_7 : decode cX6_init 7 = .ok (.anewarray 9, 3) := by decide +kernel
theorem dX6_init_10 : decode cX6_init 10 = .ok (.putfield 11, 3) := by decide +kernel
theorem dX6_init_13 : decode cX6_init 13 = .ok (.aload_n 0, 1) := by decide +kernel
theorem dX6_init_14 : decode cX6_init 14 = .ok (.new 9, 3) := by decide +kernel
theorem dX6_init_17 : decode cX6_init 17 = .ok (.dup, 1) := by decide +kernel
theorem dX6_init_18 : decode cX6_init 18 = .ok (.invokespecial 15, 3) := by decide +kernel
theorem dX6_init_21 : decode cX6_init 21 = .ok (.putfield 16, 3) := by decide +kernel
theorem dX6_init_24 : decode cX6_init 24 = .ok (.aload_n 0, 1) := by decide +kernel
theorem dX6_init_25 : decode cX6_init 25 = .ok (.new 20, 3) := by decide +kernel
theorem dX6_init_28 : decode cX6_init 28 = .ok (.dup, 1) := by decide +kernel
theorem dX6_init_29 : decode cX6_init 29 = .ok (.invokespecial 22, 3) := by decide +kernel
theorem dX6_init_32 : decode cX6_init 32 = .ok (.putfield 23, 3) := by decide +kernel
theorem dX6_init_35 : decode cX6_init 35 = .ok (.aload_n 0, 1) := by decide +kernel
theorem dX6_init_36 : decode cX6_init 36 = .ok (.new 27, 3) := by decide +kernel
theorem dX6_init_39 : decode cX6_init 39 = .ok (.dup, 1) := by decide +kernel
theorem dX6_init_40 : decode cX6_init 40 = .ok (.invokespecial 29, 3) := by decide +kernel
theorem dX6_init_43 : decode cX6_init 43 = .ok (.putfield 30, 3) := by decide +kernel
theorem dX6_init_46 : decode cX6_init 46 = .ok (.aload_n 0, 1) := by decide +kernel
theorem dX6_init_47 : decode cX6_init 47 = .ok (.new 34, 3) := by decide +kernel
theorem dX6_init_50 : decode cX6_init 50 = .ok (.dup, 1) := by decide +kernel
theorem dX6_init_51 : decode cX6_init 51 = .ok (.invokespecial 36, 3) := by decide +kernel
theorem dX6_init_54 : decode cX6_init 54 = .ok (.putfield 37, 3) := by decide +kernel
theorem dX6_init_57 : decode cX6_init 57 = .ok (.aload_n 0, 1) := by decide +kernel
theorem dX6_init_58 : decode cX6_init 58 = .ok (.new 41, 3) := by decide +kernel
theorem dX6_init_61 : decode cX6_init 61 = .ok (.dup, 1) := by decide +kernel
theorem dX6_init_62 : decode cX6_init 62 = .ok (.invokespecial 43, 3) := by decide +kernel
theorem dX6_init_65 : decode cX6_init 65 = .ok (.putfield 44, 3) := by decide +kernel
theorem dX6_init_68 : decode cX6_init 68 = .ok (.aload_n 0, 1) := by decide +kernel
theorem dX6_init_69 : decode cX6_init 69 = .ok (.new 48, 3) := by decide +kernel
theorem dX6_init_72 : decode cX6_init 72 = .ok (.dup, 1) := by decide +kernel
theorem dX6_init_73 : decode cX6_init 73 = .ok (.invokespecial 50, 3) := by decide +kernel
theorem dX6_init_76 : decode cX6_init 76 = .ok (.putfield 51, 3) := by decide +kernel
theorem dX6_init_79 : decode cX6_init 79 = .ok (.iconst 0, 1) := by decide +kernel
theorem dX6_init_80 : decode cX6_init 80 = .ok (.istore_n 1, 1) := by decide +kernel
theorem dX6_init_81 : decode cX6_init 81 = .ok (.iload_n 1, 1) := by decide +kernel
theorem dX6_init_82 : decode cX6_init 82 = .ok (.aload_n 0, 1) := by decide +kernel
theorem dX6_init_83 : decode cX6_init 83 = .ok (.getfield 11, 3) := by decide +kernel
theorem dX6_init_86 : decode cX6_init 86 = .ok (.arraylength, 1) := by decide +kernel
theorem dX6_init_87 : decode cX6_init 87 = .ok (.if_icmp .ge 22, 3) := by decide +kernel
theorem dX6_init_90 : decode cX6_init 90 = .ok (.aload_n 0, 1) := by decide +kernel
theorem dX6_init_91 : decode cX6_init 91 = .ok (.getfield 11, 3) := by decide +kernel
theorem dX6_init_94 : decode cX6_init 94 = .ok (.iload_n 1, 1) := by decide +kernel
theorem dX6_init_95 : decode cX6_init 95 = .ok (.new 9, 3) := by decide +kernel
theorem dX6_init_98 : decode cX6_init 98 = .ok (.dup, 1) := by decide +kernel
theorem dX6_init_99 : decode cX6_init 99 = .ok (.invokespecial 15, 3) := by decide +kernel
theorem dX6_init_102 : decode cX6_init 102 = .ok (.aastore, 1) := by decide +kernel
theorem dX6_init_103 : decode cX6_init 103 = .ok (.iinc 1 1, 3) := by decide +kernel
theorem dX6_init_106 : decode cX6_init 106 = .ok (.goto (-25), 3) := by decide +kernel
theorem dX6_init_109 : decode cX6_init 109 = .ok (.return_, 1) := by decide +kernel
