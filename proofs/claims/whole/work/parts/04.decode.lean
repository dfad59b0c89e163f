theorem dX0_init_0 : decode cX0_init 0 = .ok (.aload_n 0, 1) := by decide +kernel
theorem dX0_init_1 : decode cX0_init 1 = .ok (.invokespecial 3, 3) := by decide +kernel
theorem dX0_init_4 : decode cX0_init 4 = .ok (.aload_n 0, 1) := by decide +kernel
theorem dX0_init_5 : decode cX0_init 5 = .ok (.bipush 64, 2) := by decide +kernel
theorem dX0_init_7 : decode cX0_init 7 = .ok (.newarray .long, 2) := by decide +kernel
theorem dX0_init_9 : decode cX0_init 9 = .ok (.putfield 9, 3) := by decide +kernel
theorem dX0_init_12 : decode cX0_init 12 = .ok (.return_, 1) := by decide +kernel
theorem dX0_row_0 : decode cX0_row 0 = .ok (.iload_n 1, 1) := by decide +kernel
theorem dX0_row_1 : decode cX0_row 1 = .ok (.bipush (-32), 2) := by decide +kernel
theorem dX0_row_3 : decode cX0_row 3 = .ok (.isub, 1) := by decide +kernel
theorem dX0_row_4 : decode cX0_row 4 = .ok (.istore_n 2, 1) := by decide +kernel
theorem dX0_row_5 : decode cX0_row 5 = .ok (.iload_n 2, 1) := by decide +kernel
theorem dX0_row_6 : decode cX0_row 6 = .ok (.ifCond .lt 21, 3) := by decide +kernel
theorem dX0_row_9 : decode cX0_row 9 = .ok (.iload_n 2, 1) := by decide +kernel
theorem dX0_row_10 : decode cX0_row 10 = .ok (.aload_n 0, 1) := by decide +kernel
theorem dX0_row_11 : decode cX0_row 11 = .ok (.getfield 9, 3) := by decide +kernel
theorem dX0_row_14 : decode cX0_row 14 = .ok (.arraylength, 1) := by decide +kernel
theorem dX0_row_15 : decode cX0_row 15 = .ok (.if_icmp .ge 12, 3) := by decide +kernel
theorem dX0_row_18 : decode cX0_row 18 = .ok (.aload_n 0, 1) := by decide +kernel
theorem dX0_row_19 : decode cX0_row 19 = .ok (.getfield 9, 3) := by decide +kernel
theorem dX0_row_22 : decode cX0_row 22 = .ok (.iload_n 2, 1) := by decide +kernel
theorem dX0_row_23 : decode cX0_row 23 = .ok (.laload, 1) := by decide +kernel
theorem dX0_row_24 : decode cX0_row 24 = .ok (.goto 4, 3) := by decide +kernel
theorem dX0_row_27 : decode cX0_row 27 = .ok (.lconst 0, 1) := by decide +kernel
theorem dX0_row_28 : decode cX0_row 28 = .ok (.lreturn, 1) := by decide +kernel
theorem dX0_putRow_0 : decode cX0_putRow 0 = .ok (.iload_n 1, 1) := by decide +kernel
theorem dX0_putRow_1 : decode cX0_putRow 1 = .ok (.bipush (-32), 2) := by decide +kernel
theorem dX0_putRow_3 : decode cX0_putRow 3 = .ok (.isub, 1) := by decide +kernel
theorem dX0_putRow_4 : decode cX0_putRow 4 = .ok (.istore 4, 2) := by decide +kernel
theorem dX0_putRow_6 : decode cX0_putRow 6 = .ok (.iload 4, 2) := by decide +kernel
theorem dX0_putRow_8 : decode cX0_putRow 8 = .ok (.ifCond .lt 21, 3) := by decide +kernel
theorem dX0_putRow_11 : decode cX0_putRow 11 = .ok (.iload 4, 2) := by decide +kernel
theorem dX0_putRow_13 : decode cX0_putRow 13 = .ok (.aload_n 0, 1) := by decide +kernel
theorem dX0_putRow_14 : decode cX0_putRow 14 = .ok (.getfield 9, 3) := by decide +kernel
theorem dX0_putRow_17 : decode cX0_putRow 17 = .ok (.arraylength, 1) := by decide +kernel
theorem dX0_putRow_18 : decode cX0_putRow 18 = .ok (.if_icmp .ge 11, 3) := by decide +kernel
theorem dX0_putRow_21 : decode cX0_putRow 21 = .ok (.aload_n 0, 1) := by decide +kernel
theorem dX0_putRow_22 : decode cX0_putRow 22 = .ok (.getfield 9, 3) := by decide +kernel
theorem dX0_putRow_25 : decode cX0_putRow 25 = .ok (.iload 4, 2) := by decide +kernel
theorem dX0_putRow_27 : decode cX0_putRow 27 = .ok (.lload_n 2, 1) := by decide +kernel
theorem dX0_putRow_28 : decode cX0_putRow 28 = .ok (.lastore, 1) := by decide +kernel
theorem dX0_putRow_29 : decode cX0_putRow 29 = .ok (.return_, 1) := by decide +kernel
theorem dX0_holds_0 : decode cX0_holds 0 = .ok (.iload_n 2, 1) := by decide +kernel
theorem dX0_holds_1 : decode cX0_holds 1 = .ok (.bipush (-32), 2) := by decide +kernel
theorem dX0_holds_3 : decode cX0_holds 3 = .ok (.isub, 1) := by decide +kernel
theorem dX0_holds_4 : decode cX0_holds 4 = .ok (.istore_n 3, 1) := by decide +kernel
theorem dX0_holds_5 : decode cX0_holds 5 = .ok (.iload_n 3, 1) := by decide +kernel
theorem dX0_holds_6 : decode cX0_holds 6 = .ok (.ifCond .lt 28, 3) := by decide +kernel
theorem dX0_holds_9 : decode cX0_holds 9 = .ok (.iload_n 3, 1) := by decide +kernel
theorem dX0_holds_10 : decode cX0_holds 10 = .ok (.aload_n 0, 1) := by decide +kernel
theorem dX0_holds_11 : decode cX0_holds 11 = .ok (.getfield 9, 3) := by decide +kernel
theorem dX0_holds_14 : decode cX0_holds 14 = .ok (.arraylength, 1) := by decide +kernel
theorem dX0_holds_15 : decode cX0_holds 15 = .ok (.if_icmp .ge 19, 3) := by decide +kernel
theorem dX0_holds_18 : decode cX0_holds 18 = .ok (.iload_n 1, 1) := by decide +kernel
theorem dX0_holds_19 : decode cX0_holds 19 = .ok (.bipush (-32), 2) := by decide +kernel
theorem dX0_holds_21 : decode cX0_holds 21 = .ok (.if_icmp .lt 13, 3) := by decide +kernel
theorem dX0_holds_24 : decode cX0_holds 24 = .ok (.iload_n 1, 1) := by decide +kernel
theorem dX0_holds_25 : decode cX0_holds 25 = .ok (.bipush 31, 2) := by decide +kernel
theorem dX0_holds_27 : decode cX0_holds 27 = .ok (.if_icmp .gt 7, 3) := by decide +kernel
theorem dX0_holds_30 : decode cX0_holds 30 = .ok (.iconst 1, 1) := by decide +kernel
theorem dX0_holds_31 : decode cX0_holds 31 = .ok (.goto 4, 3) := by decide +kernel
theorem dX0_holds_34 : decode cX0_holds 34 = .ok (.iconst 0, 1) := by decide +kernel
theorem dX0_holds_35 : decode cX0_holds 35 = .ok (.istore 4, 2) := by decide +kernel
theorem dX0_holds_37 : decode cX0_holds 37 = .ok (.iload 4, 2) := by decide +kernel
theorem dX0_holds_39 : decode cX0_holds 39 = .ok (.ifCond .eq 25, 3) := by decide +kernel
theorem dX0_holds_42 : decode cX0_holds 42 = .ok (.aload_n 0, 1) := by decide +kernel
theorem dX0_holds_43 : decode cX0_holds 43 = .ok (.getfield 9, 3) := by decide +kernel
theorem dX0_holds_46 : decode cX0_holds 46 = .ok (.iload_n 3, 1) := by decide +kernel
theorem dX0_holds_47 : decode cX0_holds 47 = .ok (.laload, 1) := by decide +kernel
theorem dX0_holds_48 : decode cX0_holds 48 = .ok (.iload_n 1, 1) := by decide +kernel
theorem dX0_holds_49 : decode cX0_holds 49 = .ok (.bipush (-32), 2) := by decide +kernel
theorem dX0_holds_51 : decode cX0_holds 51 = .ok (.isub, 1) := by decide +kernel
theorem dX0_holds_52 : decode cX0_holds 52 = .ok (.lushr, 1) := by decide +kernel
theorem dX0_holds_53 : decode cX0_holds 53 = .ok (.lconst 1, 1) := by decide +kernel
theorem dX0_holds_54 : decode cX0_holds 54 = .ok (.land, 1) := by decide +kernel
theorem dX0_holds_55 : decode cX0_holds 55 = .ok (.lconst 0, 1) := by decide +kernel
theorem dX0_holds_56 : decode cX0_holds 56 = .ok (.lcmp, 1) := by decide +kernel
theorem dX0_holds_57 : decode cX0_holds 57 = .ok (.ifCond .eq 7, 3) := by decide +kernel
theorem dX0_holds_60 : decode cX0_holds 60 = .ok (.iconst 1, 1) := by decide +kernel
theorem dX0_holds_61 : decode cX0_holds 61 = .ok (.goto 4, 3) := by decide +kernel
theorem dX0_holds_64 : decode cX0_holds 64 = .ok (.iconst 0, 1) := by decide +kernel
theorem dX0_holds_65 : decode cX0_holds 65 = .ok (.ireturn, 1) := by decide +kernel
theorem dX0_add_0 : decode cX0_add 0 = .ok (.iload_n 2, 1) := by decide +kernel
theorem dX0_add_1 : decode cX0_add 1 = .ok (.bipush (-32), 2) := by decide +kernel
theorem dX0_add_3 : decode cX0_add 3 = .ok (.isub, 1) := by decide +kernel
theorem dX0_add_4 : decode cX0_add 4 = .ok (.istore_n 3, 1) := by decide +kernel
theorem dX0_add_5 : decode cX0_add 5 = .ok (.iload_n 3, 1) := by decide +kernel
theorem dX0_add_6 : decode cX0_add 6 = .ok (.ifCond .lt 39, 3) := by decide +kernel
theorem dX0_add_9 : decode cX0_add 9 = .ok (.iload_n 3, 1) := by decide +kernel
theorem dX0_add_10 : decode cX0_add 10 = .ok (.aload_n 0, 1) := by decide +kernel
theorem dX0_add_11 : decode cX0_add 11 = .ok (.getfield 9, 3) := by decide +kernel
theorem dX0_add_14 : decode cX0_add 14 = .ok (.arraylength, 1) := by decide +kernel
theorem dX0_add_15 : decode cX0_add 15 = .ok (.if_icmp .ge 30, 3) := by decide +kernel
theorem dX0_add_18 : decode cX0_add 18 = .ok (.iload_n 1, 1) := by decide +kernel
theorem dX0_add_19 : decode cX0_add 19 = .ok (.bipush (-32), 2) := by decide +kernel
theorem dX0_add_21 : decode cX0_add 21 = .ok (.if_icmp .lt 24, 3) := by decide +kernel
theorem dX0_add_24 : decode cX0_add 24 = .ok (.iload_n 1, 1) := by decide +kernel
theorem dX0_add_25 : decode cX0_add 25 = .ok (.bipush 31, 2) := by decide +kernel
theorem dX0_add_27 : decode cX0_add 27 = .ok (.if_icmp .gt 18, 3) := by decide +kernel
theorem dX0_add_30 : decode cX0_add 30 = .ok (.aload_n 0, 1) := by decide +kernel
theorem dX0_add_31 : decode cX0_add 31 = .ok (.getfield 9, 3) := by decide +kernel
theorem dX0_add_34 : decode cX0_add 34 = .ok (.iload_n 3, 1) := by decide +kernel
theorem dX0_add_35 : decode cX0_add 35 = .ok (.dup2, 1) := by decide +kernel
theorem dX0_add_36 : decode cX0_add 36 = .ok (.laload, 1) := by decide +kernel
theorem dX0_add_37 : decode cX0_add 37 = .ok (.lconst 1, 1) := by decide +kernel
theorem dX0_add_38 : decode cX0_add 38 = .ok (.iload_n 1, 1) := by decide +kernel
theorem dX0_add_39 : decode cX0_add 39 = .ok (.bipush (-32), 2) := by decide +kernel
theorem dX0_add_41 : decode cX0_add 41 = .ok (.isub, 1) := by decide +kernel
theorem dX0_add_42 : decode cX0_add 42 = .ok (.lshl, 1) := by decide +kernel
theorem dX0_add_43 : decode cX0_add 43 = .ok (.lor, 1) := by decide +kernel
theorem dX0_add_44 : decode cX0_add 44 = .ok (.lastore, 1) := by decide +kernel
theorem dX0_add_45 : decode cX0_add 45 = .ok (.return_, 1) := by decide +kernel
theorem dX0_empty_0 : decode cX0_empty 0 = .ok (.aload_n 0, 1) := by decide +kernel
theorem dX0_empty_1 : decode cX0_empty 1 = .ok (.getfield 9, 3) := by decide +kernel
theorem dX0_empty_4 : decode cX0_empty 4 = .ok (.lconst 0, 1) := by decide +kernel
theorem dX0_empty_5 : decode cX0_empty 5 = .ok (.invokestatic 15, 3) := by decide +kernel
theorem dX0_empty_8 : decode cX0_empty 8 = .ok (.return_, 1) := by decide +kernel
theorem dX0_isEmpty_0 : decode cX0_isEmpty 0 = .ok (.aload_n 0, 1) := by decide +kernel
theorem dX0_isEmpty_1 : decode cX0_isEmpty 1 = .ok (.invokevirtual 21, 3) := by decide +kernel
theorem dX0_isEmpty_4 : decode cX0_isEmpty 4 = .ok (.lconst 0, 1) := by decide +kernel
theorem dX0_isEmpty_5 : decode cX0_isEmpty 5 = .ok (.lcmp, 1) := by decide +kernel
theorem dX0_isEmpty_6 : decode cX0_isEmpty 6 = .ok (.ifCond .ne 7, 3) := by decide +kernel
theorem dX0_isEmpty_9 : decode cX0_isEmpty 9 = .ok (.iconst 1, 1) := by decide +kernel
theorem dX0_isEmpty_10 : decode cX0_isEmpty 10 = .ok (.goto 4, 3) := by decide +kernel
theorem dX0_isEmpty_13 : decode cX0_isEmpty 13 = .ok (.iconst 0, 1) := by decide +kernel
theorem dX0_isEmpty_14 : decode cX0_isEmpty 14 = .ok (.ireturn, 1) := by decide +kernel
theorem dX0_copy_0 : decode cX0_copy 0 = .ok (.bipush (-32), 2) := by decide +kernel
theorem dX0_copy_2 : decode cX0_copy 2 = .ok (.istore_n 2, 1) := by decide +kernel
theorem dX0_copy_3 : decode cX0_copy 3 = .ok (.iload_n 2, 1) := by decide +kernel
theorem dX0_copy_4 : decode cX0_copy 4 = .ok (.bipush 31, 2) := by decide +kernel
theorem dX0_copy_6 : decode cX0_copy 6 = .ok (.if_icmp .gt 19, 3) := by decide +kernel
theorem dX0_copy_9 : decode cX0_copy 9 = .ok (.aload_n 0, 1) := by decide +kernel
theorem dX0_copy_10 : decode cX0_copy 10 = .ok (.iload_n 2, 1) := by decide +kernel
theorem dX0_copy_11 : decode cX0_copy 11 = .ok (.aload_n 1, 1) := by decide +kernel
theorem dX0_copy_12 : decode cX0_copy 12 = .ok (.iload_n 2, 1) := by decide +kernel
theorem dX0_copy_13 : decode cX0_copy 13 = .ok (.invokevirtual 25, 3) := by decide +kernel
theorem dX0_copy_16 : decode cX0_copy 16 = .ok (.invokevirtual 29, 3) := by decide +kernel
theorem dX0_copy_19 : decode cX0_copy 19 = .ok (.iinc 2 1, 3) := by decide +kernel
theorem dX0_copy_22 : decode cX0_copy 22 = .ok (.goto (-19), 3) := by decide +kernel
theorem dX0_copy_25 : decode cX0_copy 25 = .ok (.return_, 1) := by decide +kernel
theorem dX0_isSame_0 : decode cX0_isSame 0 = .ok (.bipush (-32), 2) := by decide +kernel
theorem dX0_isSame_2 : decode cX0_isSame 2 = .ok (.istore_n 2, 1) := by decide +kernel
theorem dX0_isSame_3 : decode cX0_isSame 3 = .ok (.iload_n 2, 1) := by decide +kernel
theorem dX0_isSame_4 : decode cX0_isSame 4 = .ok (.bipush 31, 2) := by decide +kernel
theorem dX0_isSame_6 : decode cX0_isSame 6 = .ok (.if_icmp .gt 25, 3) := by decide +kernel
theorem dX0_isSame_9 : decode cX0_isSame 9 = .ok (.aload_n 0, 1) := by decide +kernel
theorem dX0_isSame_10 : decode cX0_isSame 10 = .ok (.iload_n 2, 1) := by decide +kernel
theorem dX0_isSame_11 : decode cX0_isSame 11 = .ok (.invokevirtual 25, 3) := by decide +kernel
theorem dX0_isSame_14 : decode cX0_isSame 14 = .ok (.aload_n 1, 1) := by decide +kernel
theorem dX0_isSame_15 : decode cX0_isSame 15 = .ok (.iload_n 2, 1) := by decide +kernel
theorem dX0_isSame_16 : decode cX0_isSame 16 = .ok (.invokevirtual 25, 3) := by decide +kernel
theorem dX0_isSame_19 : decode cX0_isSame 19 = .ok (.lcmp, 1) := by decide +kernel
theorem dX0_isSame_20 : decode cX0_isSame 20 = .ok (.ifCond .eq 5, 3) := by decide +kernel
theorem dX0_isSame_23 : decode cX0_isSame 23 = .ok (.iconst 0, 1) := by decide +kernel
theorem dX0_isSame_24 : decode cX0_isSame 24 = .ok (.ireturn, 1) := by decide +kernel
theorem dX0_isSame_25 : decode cX0_isSame 25 = .ok (.iinc 2 1, 3) := by decide +kernel
theorem dX0_isSame_28 : decode cX0_isSame 28 = .ok (.goto (-25), 3) := by decide +kernel
theorem dX0_isSame_31 : decode cX0_isSame 31 = .ok (.iconst 1, 1) := by decide +kernel
theorem dX0_isSame_32 : decode cX0_isSame 32 = .ok (.ireturn, 1) := by decide +kernel
theorem dX0_meets_0 : decode cX0_meets 0 = .ok (.bipush (-32), 2) := by decide +kernel
theorem dX0_meets_2 : decode cX0_meets 2 = .ok (.istore_n 2, 1) := by decide +kernel
theorem dX0_meets_3 : decode cX0_meets 3 = .ok (.iload_n 2, 1) := by decide +kernel
theorem dX0_meets_4 : decode cX0_meets 4 = .ok (.bipush 31, 2) := by decide +kernel
theorem dX0_meets_6 : decode cX0_meets 6 = .ok (.if_icmp .gt 27, 3) := by decide +kernel
theorem dX0_meets_9 : decode cX0_meets 9 = .ok (.aload_n 0, 1) := by decide +kernel
theorem dX0_meets_10 : decode cX0_meets 10 = .ok (.iload_n 2, 1) := by decide +kernel
theorem dX0_meets_11 : decode cX0_meets 11 = .ok (.invokevirtual 25, 3) := by decide +kernel
theorem dX0_meets_14 : decode cX0_meets 14 = .ok (.aload_n 1, 1) := by decide +kernel
theorem dX0_meets_15 : decode cX0_meets 15 = .ok (.iload_n 2, 1) := by decide +kernel
theorem dX0_meets_16 : decode cX0_meets 16 = .ok (.invokevirtual 25, 3) := by decide +kernel
theorem dX0_meets_19 : decode cX0_meets 19 = .ok (.land, 1) := by decide +kernel
theorem dX0_meets_20 : decode cX0_meets 20 = .ok (.lconst 0, 1) := by decide +kernel
theorem dX0_meets_21 : decode cX0_meets 21 = .ok (.lcmp, 1) := by decide +kernel
theorem dX0_meets_22 : decode cX0_meets 22 = .ok (.ifCond .eq 5, 3) := by decide +kernel
theorem dX0_meets_25 : decode cX0_meets 25 = .ok (.iconst 1, 1) := by decide +kernel
theorem dX0_meets_26 : decode cX0_meets 26 = .ok (.ireturn, 1) := by decide +kernel
theorem dX0_meets_27 : decode cX0_meets 27 = .ok (.iinc 2 1, 3) := by decide +kernel
theorem dX0_meets_30 : decode cX0_meets 30 = .ok (.goto (-27), 3) := by decide +kernel
theorem dX0_meets_33 : decode cX0_meets 33 = .ok (.iconst 0, 1) := by decide +kernel
theorem dX0_meets_34 : decode cX0_meets 34 = .ok (.ireturn, 1) := by decide +kernel
theorem dX0_unite_0 : decode cX0_unite 0 = .ok (.bipush (-32), 2) := by decide +kernel
theorem dX0_unite_2 : decode cX0_unite 2 = .ok (.istore_n 2, 1) := by decide +kernel
theorem dX0_unite_3 : decode cX0_unite 3 = .ok (.iload_n 2, 1) := by decide +kernel
theorem dX0_unite_4 : decode cX0_unite 4 = .ok (.bipush 31, 2) := by decide +kernel
theorem dX0_unite_6 : decode cX0_unite 6 = .ok (.if_icmp .gt 25, 3) := by decide +kernel
theorem dX0_unite_9 : decode cX0_unite 9 = .ok (.aload_n 0, 1) := by decide +kernel
theorem dX0_unite_10 : decode cX0_unite 10 = .ok (.iload_n 2, 1) := by decide +kernel
theorem dX0_unite_11 : decode cX0_unite 11 = .ok (.aload_n 0, 1) := by decide +kernel
theorem dX0_unite_12 : decode cX0_unite 12 = .ok (.iload_n 2, 1) := by decide +kernel
theorem dX0_unite_13 : decode cX0_unite 13 = .ok (.invokevirtual 25, 3) := by decide +kernel
theorem dX0_unite_16 : decode cX0_unite 16 = .ok (.aload_n 1, 1) := by decide +kernel
theorem dX0_unite_17 : decode cX0_unite 17 = .ok (.iload_n 2, 1) := by decide +kernel
theorem dX0_unite_18 : decode cX0_unite 18 = .ok (.invokevirtual 25, 3) := by decide +kernel
theorem dX0_unite_21 : decode cX0_unite 21 = .ok (.lor, 1) := by decide +kernel
theorem dX0_unite_22 : decode cX0_unite 22 = .ok (.invokevirtual 29, 3) := by decide +kernel
theorem dX0_unite_25 : decode cX0_unite 25 = .ok (.iinc 2 1, 3) := by decide +kernel
theorem dX0_unite_28 : decode cX0_unite 28 = .ok (.goto (-25), 3) := by decide +kernel
theorem dX0_unite_31 : decode cX0_unite 31 = .ok (.return_, 1) := by decide +kernel
theorem dX0_count_0 : decode cX0_count 0 = .ok (.iconst 0, 1) := by decide +kernel
theorem dX0_count_1 : decode cX0_count 1 = .ok (.istore_n 1, 1) := by decide +kernel
theorem dX0_count_2 : decode cX0_count 2 = .ok (.bipush (-32), 2) := by decide +kernel
theorem dX0_count_4 : decode cX0_count 4 = .ok (.istore_n 2, 1) := by decide +kernel
theorem dX0_count_5 : decode cX0_count 5 = .ok (.iload_n 2, 1) := by decide +kernel
theorem dX0_count_6 : decode cX0_count 6 = .ok (.bipush 31, 2) := by decide +kernel
theorem dX0_count_8 : decode cX0_count 8 = .ok (.if_icmp .gt 20, 3) := by decide +kernel
theorem dX0_count_11 : decode cX0_count 11 = .ok (.iload_n 1, 1) := by decide +kernel
theorem dX0_count_12 : decode cX0_count 12 = .ok (.aload_n 0, 1) := by decide +kernel
theorem dX0_count_13 : decode cX0_count 13 = .ok (.iload_n 2, 1) := by decide +kernel
theorem dX0_count_14 : decode cX0_count 14 = .ok (.invokevirtual 25, 3) := by decide +kernel
theorem dX0_count_17 : decode cX0_count 17 = .ok (.invokestatic 33, 3) := by decide +kernel
theorem dX0_count_20 : decode cX0_count 20 = .ok (.iadd, 1) := by decide +kernel
theorem dX0_count_21 : decode cX0_count 21 = .ok (.istore_n 1, 1) := by decide +kernel
theorem dX0_count_22 : decode cX0_count 22 = .ok (.iinc 2 1, 3) := by decide +kernel
theorem dX0_count_25 : decode cX0_count 25 = .ok (.goto (-20), 3) := by decide +kernel
theorem dX0_count_28 : decode cX0_count 28 = .ok (.iload_n 1, 1) := by decide +kernel
theorem dX0_count_29 : decode cX0_count 29 = .ok (.ireturn, 1) := by decide +kernel
theorem dX0_countEdges_0 : decode cX0_countEdges 0 = .ok (.iconst 0, 1) := by decide +kernel
theorem dX0_countEdges_1 : decode cX0_countEdges 1 = .ok (.istore_n 1, 1) := by decide +kernel
theorem dX0_countEdges_2 : decode cX0_countEdges 2 = .ok (.bipush (-32), 2) := by decide +kernel
theorem dX0_countEdges_4 : decode cX0_countEdges 4 = .ok (.istore_n 2, 1) := by decide +kernel
theorem dX0_countEdges_5 : decode cX0_countEdges 5 = .ok (.iload_n 2, 1) := by decide +kernel
theorem dX0_countEdges_6 : decode cX0_countEdges 6 = .ok (.bipush 32, 2) := by decide +kernel
theorem dX0_countEdges_8 : decode cX0_countEdges 8 = .ok (.if_icmp .gt 53, 3) := by decide +kernel
theorem dX0_countEdges_11 : decode cX0_countEdges 11 = .ok (.aload_n 0, 1) := by decide +kernel
theorem dX0_countEdges_12 : decode cX0_countEdges 12 = .ok (.iload_n 2, 1) := by decide +kernel
theorem dX0_countEdges_13 : decode cX0_countEdges 13 = .ok (.invokevirtual 25, 3) := by decide +kernel
theorem dX0_countEdges_16 : decode cX0_countEdges 16 = .ok (.aload_n 0, 1) := by decide +kernel
theorem dX0_countEdges_17 : decode cX0_countEdges 17 = .ok (.iload_n 2, 1) := by decide +kernel
theorem dX0_countEdges_18 : decode cX0_countEdges 18 = .ok (.invokevirtual 25, 3) := by decide +kernel
theorem dX0_countEdges_21 : decode cX0_countEdges 21 = .ok (.iconst 1, 1) := by decide +kernel
theorem dX0_countEdges_22 : decode cX0_countEdges 22 = .ok (.lshl, 1) := by decide +kernel
theorem dX0_countEdges_23 : decode cX0_countEdges 23 = .ok (.ldc2_w 39, 3) := by decide +kernel
theorem dX0_countEdges_26 : decode cX0_countEdges 26 = .ok (.lxor, 1) := by decide +kernel
theorem dX0_countEdges_27 : decode cX0_countEdges 27 = .ok (.land, 1) := by decide +kernel
theorem dX0_countEdges_28 : decode cX0_countEdges 28 = .ok (.lstore_n 3, 1) := by decide +kernel
theorem dX0_countEdges_29 : decode cX0_countEdges 29 = .ok (.iload_n 1, 1) := by decide +kernel
theorem dX0_countEdges_30 : decode cX0_countEdges 30 = .ok (.iconst 2, 1) := by decide +kernel
theorem dX0_countEdges_31 : decode cX0_countEdges 31 = .ok (.lload_n 3, 1) := by decide +kernel
theorem dX0_countEdges_32 : decode cX0_countEdges 32 = .ok (.invokestatic 33, 3) := by decide +kernel
theorem dX0_countEdges_35 : decode cX0_countEdges 35 = .ok (.imul, 1) := by decide +kernel
theorem dX0_countEdges_36 : decode cX0_countEdges 36 = .ok (.aload_n 0, 1) := by decide +kernel
theorem dX0_countEdges_37 : decode cX0_countEdges 37 = .ok (.iload_n 2, 1) := by decide +kernel
theorem dX0_countEdges_38 : decode cX0_countEdges 38 = .ok (.invokevirtual 25, 3) := by decide +kernel
theorem dX0_countEdges_41 : decode cX0_countEdges 41 = .ok (.aload_n 0, 1) := by decide +kernel
theorem dX0_countEdges_42 : decode cX0_countEdges 42 = .ok (.iload_n 2, 1) := by decide +kernel
theorem dX0_countEdges_43 : decode cX0_countEdges 43 = .ok (.iconst 1, 1) := by decide +kernel
theorem dX0_countEdges_44 : decode cX0_countEdges 44 = .ok (.isub, 1) := by decide +kernel
theorem dX0_countEdges_45 : decode cX0_countEdges 45 = .ok (.invokevirtual 25, 3) := by decide +kernel
theorem dX0_countEdges_48 : decode cX0_countEdges 48 = .ok (.lxor, 1) := by decide +kernel
theorem dX0_countEdges_49 : decode cX0_countEdges 49 = .ok (.invokestatic 33, 3) := by decide +kernel
theorem dX0_countEdges_52 : decode cX0_countEdges 52 = .ok (.iadd, 1) := by decide +kernel
theorem dX0_countEdges_53 : decode cX0_countEdges 53 = .ok (.iadd, 1) := by decide +kernel
theorem dX0_countEdges_54 : decode cX0_countEdges 54 = .ok (.istore_n 1, 1) := by decide +kernel
theorem dX0_countEdges_55 : decode cX0_countEdges 55 = .ok (.iinc 2 1, 3) := by decide +kernel
theorem dX0_countEdges_58 : decode cX0_countEdges 58 = .ok (.goto (-53), 3) := by decide +kernel
theorem dX0_countEdges_61 : decode cX0_countEdges 61 = .ok (.iload_n 1, 1) := by decide +kernel
theorem dX0_countEdges_62 : decode cX0_countEdges 62 = .ok (.ireturn, 1) := by decide +kernel
theorem dX0_sumOfX_0 : decode cX0_sumOfX 0 = .ok (.iconst 0, 1) := by decide +kernel
theorem dX0_sumOfX_1 : decode cX0_sumOfX 1 = .ok (.istore_n 1, 1) := by decide +kernel
theorem dX0_sumOfX_2 : decode cX0_sumOfX 2 = .ok (.bipush (-32), 2) := by decide +kernel
theorem dX0_sumOfX_4 : decode cX0_sumOfX 4 = .ok (.istore_n 2, 1) := by decide +kernel
theorem dX0_sumOfX_5 : decode cX0_sumOfX 5 = .ok (.iload_n 2, 1) := by decide +kernel
theorem dX0_sumOfX_6 : decode cX0_sumOfX 6 = .ok (.bipush 31, 2) := by decide +kernel
theorem dX0_sumOfX_8 : decode cX0_sumOfX 8 = .ok (.if_icmp .gt 37, 3) := by decide +kernel
theorem dX0_sumOfX_11 : decode cX0_sumOfX 11 = .ok (.bipush (-32), 2) := by decide +kernel
theorem dX0_sumOfX_13 : decode cX0_sumOfX 13 = .ok (.istore_n 3, 1) := by decide +kernel
theorem dX0_sumOfX_14 : decode cX0_sumOfX 14 = .ok (.iload_n 3, 1) := by decide +kernel
theorem dX0_sumOfX_15 : decode cX0_sumOfX 15 = .ok (.bipush 31, 2) := by decide +kernel
theorem dX0_sumOfX_17 : decode cX0_sumOfX 17 = .ok (.if_icmp .gt 22, 3) := by decide +kernel
theorem dX0_sumOfX_20 : decode cX0_sumOfX 20 = .ok (.aload_n 0, 1) := by decide +kernel
theorem dX0_sumOfX_21 : decode cX0_sumOfX 21 = .ok (.iload_n 2, 1) := by decide +kernel
theorem dX0_sumOfX_22 : decode cX0_sumOfX 22 = .ok (.iload_n 3, 1) := by decide +kernel
theorem dX0_sumOfX_23 : decode cX0_sumOfX 23 = .ok (.invokevirtual 41, 3) := by decide +kernel
theorem dX0_sumOfX_26 : decode cX0_sumOfX 26 = .ok (.ifCond .eq 7, 3) := by decide +kernel
theorem dX0_sumOfX_29 : decode cX0_sumOfX 29 = .ok (.iload_n 1, 1) := by decide +kernel
theorem dX0_sumOfX_30 : decode cX0_sumOfX 30 = .ok (.iload_n 2, 1) := by decide +kernel
theorem dX0_sumOfX_31 : decode cX0_sumOfX 31 = .ok (.iadd, 1) := by decide +kernel
theorem dX0_sumOfX_32 : decode cX0_sumOfX 32 = .ok (.istore_n 1, 1) := by decide +kernel
theorem dX0_sumOfX_33 : decode cX0_sumOfX 33 = .ok (.iinc 3 1, 3) := by decide +kernel
theorem dX0_sumOfX_36 : decode cX0_sumOfX 36 = .ok (.goto (-22), 3) := by decide +kernel
theorem dX0_sumOfX_39 : decode cX0_sumOfX 39 = .ok (.iinc 2 1, 3) := by decide +kernel
theorem dX0_sumOfX_42 : decode cX0_sumOfX 42 = .ok (.goto (-37), 3) := by decide +kernel
theorem dX0_sumOfX_45 : decode cX0_sumOfX 45 = .ok (.iload_n 1, 1) := by decide +kernel
theorem dX0_sumOfX_46 : decode cX0_sumOfX 46 = .ok (.ireturn, 1) := by decide +kernel
theorem dX0_columns_0 : decode cX0_columns 0 = .ok (.lconst 0, 1) := by decide +kernel
theorem dX0_columns_1 : decode cX0_columns 1 = .ok (.lstore_n 1, 1) := by decide +kernel
theorem dX0_columns_2 : decode cX0_columns 2 = .ok (.bipush (-32), 2) := by decide +kernel
theorem dX0_columns_4 : decode cX0_columns 4 = .ok (.istore_n 3, 1) := by decide +kernel
theorem dX0_columns_5 : decode cX0_columns 5 = .ok (.iload_n 3, 1) := by decide +kernel
theorem dX0_columns_6 : decode cX0_columns 6 = .ok (.bipush 31, 2) := by decide +kernel
theorem dX0_columns_8 : decode cX0_columns 8 = .ok (.if_icmp .gt 17, 3) := by decide +kernel
theorem dX0_columns_11 : decode cX0_columns 11 = .ok (.lload_n 1, 1) := by decide +kernel
theorem dX0_columns_12 : decode cX0_columns 12 = .ok (.aload_n 0, 1) := by decide +kernel
theorem dX0_columns_13 : decode cX0_columns 13 = .ok (.iload_n 3, 1) := by decide +kernel
theorem dX0_columns_14 : decode cX0_columns 14 = .ok (.invokevirtual 25, 3) := by decide +kernel
theorem dX0_columns_17 : decode cX0_columns 17 = .ok (.lor, 1) := by decide +kernel
theorem dX0_columns_18 : decode cX0_columns 18 = .ok (.lstore_n 1, 1) := by decide +kernel
theorem dX0_columns_19 : decode cX0_columns 19 = .ok (.iinc 3 1, 3) := by decide +kernel
theorem dX0_columns_22 : decode cX0_columns 22 = .ok (.goto (-17), 3) := by decide +kernel
theorem dX0_columns_25 : decode cX0_columns 25 = .ok (.lload_n 1, 1) := by decide +kernel
theorem dX0_columns_26 : decode cX0_columns 26 = .ok (.lreturn, 1) := by decide +kernel
theorem dX0_leastX_0 : decode cX0_leastX 0 = .ok (.aload_n 0, 1) := by decide +kernel
theorem dX0_leastX_1 : decode cX0_leastX 1 = .ok (.invokevirtual 21, 3) := by decide +kernel
theorem dX0_leastX_4 : decode cX0_leastX 4 = .ok (.lstore_n 1, 1) := by decide +kernel
theorem dX0_leastX_5 : decode cX0_leastX 5 = .ok (.lload_n 1, 1) := by decide +kernel
theorem dX0_leastX_6 : decode cX0_leastX 6 = .ok (.lconst 0, 1) := by decide +kernel
theorem dX0_leastX_7 : decode cX0_leastX 7 = .ok (.lcmp, 1) := by decide +kernel
theorem dX0_leastX_8 : decode cX0_leastX 8 = .ok (.ifCond .ne 7, 3) := by decide +kernel
theorem dX0_leastX_11 : decode cX0_leastX 11 = .ok (.iconst 0, 1) := by decide +kernel
theorem dX0_leastX_12 : decode cX0_leastX 12 = .ok (.goto 10, 3) := by decide +kernel
theorem dX0_leastX_15 : decode cX0_leastX 15 = .ok (.bipush (-32), 2) := by decide +kernel
theorem dX0_leastX_17 : decode cX0_leastX 17 = .ok (.lload_n 1, 1) := by decide +kernel
theorem dX0_leastX_18 : decode cX0_leastX 18 = .ok (.invokestatic 45, 3) := by decide +kernel
theorem dX0_leastX_21 : decode cX0_leastX 21 = .ok (.iadd, 1) := by decide +kernel
theorem dX0_leastX_22 : decode cX0_leastX 22 = .ok (.ireturn, 1) := by decide +kernel
theorem dX0_greatestX_0 : decode cX0_greatestX 0 = .ok (.aload_n 0, 1) := by decide +kernel
theorem dX0_greatestX_1 : decode cX0_greatestX 1 = .ok (.invokevirtual 21, 3) := by decide +kernel
theorem dX0_greatestX_4 : decode cX0_greatestX 4 = .ok (.lstore_n 1, 1) := by decide +kernel
theorem dX0_greatestX_5 : decode cX0_greatestX 5 = .ok (.bipush 31, 2) := by decide +kernel
theorem dX0_greatestX_7 : decode cX0_greatestX 7 = .ok (.istore_n 3, 1) := by decide +kernel
theorem dX0_greatestX_8 : decode cX0_greatestX 8 = .ok (.iload_n 3, 1) := by decide +kernel
theorem dX0_greatestX_9 : decode cX0_greatestX 9 = .ok (.bipush (-32), 2) := by decide +kernel
theorem dX0_greatestX_11 : decode cX0_greatestX 11 = .ok (.if_icmp .lt 22, 3) := by decide +kernel
theorem dX0_greatestX_14 : decode cX0_greatestX 14 = .ok (.lload_n 1, 1) := by decide +kernel
theorem dX0_greatestX_15 : decode cX0_greatestX 15 = .ok (.iload_n 3, 1) := by decide +kernel
theorem dX0_greatestX_16 : decode cX0_greatestX 16 = .ok (.invokestatic 48, 3) := by decide +kernel
theorem dX0_greatestX_19 : decode cX0_greatestX 19 = .ok (.land, 1) := by decide +kernel
theorem dX0_greatestX_20 : decode cX0_greatestX 20 = .ok (.lconst 0, 1) := by decide +kernel
theorem dX0_greatestX_21 : decode cX0_greatestX 21 = .ok (.lcmp, 1) := by decide +kernel
theorem dX0_greatestX_22 : decode cX0_greatestX 22 = .ok (.ifCond .eq 5, 3) := by decide +kernel
theorem dX0_greatestX_25 : decode cX0_greatestX 25 = .ok (.iload_n 3, 1) := by decide +kernel
theorem dX0_greatestX_26 : decode cX0_greatestX 26 = .ok (.ireturn, 1) := by decide +kernel
theorem dX0_greatestX_27 : decode cX0_greatestX 27 = .ok (.iinc 3 (-1), 3) := by decide +kernel
theorem dX0_greatestX_30 : decode cX0_greatestX 30 = .ok (.goto (-22), 3) := by decide +kernel
theorem dX0_greatestX_33 : decode cX0_greatestX 33 = .ok (.iconst 0, 1) := by decide +kernel
theorem dX0_greatestX_34 : decode cX0_greatestX 34 = .ok (.ireturn, 1) := by decide +kernel
theorem dX0_leastY_0 : decode cX0_leastY 0 = .ok (.bipush (-32), 2) := by decide +kernel
theorem dX0_leastY_2 : decode cX0_leastY 2 = .ok (.istore_n 1, 1) := by decide +kernel
theorem dX0_leastY_3 : decode cX0_leastY 3 = .ok (.iload_n 1, 1) := by decide +kernel
theorem dX0_leastY_4 : decode cX0_leastY 4 = .ok (.bipush 31, 2) := by decide +kernel
theorem dX0_leastY_6 : decode cX0_leastY 6 = .ok (.if_icmp .gt 21, 3) := by decide +kernel
theorem dX0_leastY_9 : decode cX0_leastY 9 = .ok (.aload_n 0, 1) := by decide +kernel
theorem dX0_leastY_10 : decode cX0_leastY 10 = .ok (.iload_n 1, 1) := by decide +kernel
theorem dX0_leastY_11 : decode cX0_leastY 11 = .ok (.invokevirtual 25, 3) := by decide +kernel
theorem dX0_leastY_14 : decode cX0_leastY 14 = .ok (.lconst 0, 1) := by decide +kernel
theorem dX0_leastY_15 : decode cX0_leastY 15 = .ok (.lcmp, 1) := by decide +kernel
theorem dX0_leastY_16 : decode cX0_leastY 16 = .ok (.ifCond .eq 5, 3) := by decide +kernel
theorem dX0_leastY_19 : decode cX0_leastY 19 = .ok (.iload_n 1, 1) := by decide +kernel
theorem dX0_leastY_20 : decode cX0_leastY 20 = .ok (.ireturn, 1) := by decide +kernel
theorem dX0_leastY_21 : decode cX0_leastY 21 = .ok (.iinc 1 1, 3) := by decide +kernel
theorem dX0_leastY_24 : decode cX0_leastY 24 = .ok (.goto (-21), 3) := by decide +kernel
theorem dX0_leastY_27 : decode cX0_leastY 27 = .ok (.iconst 0, 1) := by decide +kernel
theorem dX0_leastY_28 : decode cX0_leastY 28 = .ok (.ireturn, 1) := by decide +kernel
theorem dX0_greatestY_0 : decode cX0_greatestY 0 = .ok (.bipush 31, 2) := by decide +kernel
theorem dX0_greatestY_2 : decode cX0_greatestY 2 = .ok (.istore_n 1, 1) := by decide +kernel
theorem dX0_greatestY_3 : decode cX0_greatestY 3 = .ok (.iload_n 1, 1) := by decide +kernel
theorem dX0_greatestY_4 : decode cX0_greatestY 4 = .ok (.bipush (-32), 2) := by decide +kernel
theorem dX0_greatestY_6 : decode cX0_greatestY 6 = .ok (.if_icmp .lt 21, 3) := by decide +kernel
theorem dX0_greatestY_9 : decode cX0_greatestY 9 = .ok (.aload_n 0, 1) := by decide +kernel
theorem dX0_greatestY_10 : decode cX0_greatestY 10 = .ok (.iload_n 1, 1) := by decide +kernel
theorem dX0_greatestY_11 : decode cX0_greatestY 11 = .ok (.invokevirtual 25, 3) := by decide +kernel
theorem dX0_greatestY_14 : decode cX0_greatestY 14 = .ok (.lconst 0, 1) := by decide +kernel
theorem dX0_greatestY_15 : decode cX0_greatestY 15 = .ok (.lcmp, 1) := by decide +kernel
theorem dX0_greatestY_16 : decode cX0_greatestY 16 = .ok (.ifCond .eq 5, 3) := by decide +kernel
theorem dX0_greatestY_19 : decode cX0_greatestY 19 = .ok (.iload_n 1, 1) := by decide +kernel
theorem dX0_greatestY_20 : decode cX0_greatestY 20 = .ok (.ireturn, 1) := by decide +kernel
theorem dX0_greatestY_21 : decode cX0_greatestY 21 = .ok (.iinc 1 (-1), 3) := by decide +kernel
theorem dX0_greatestY_24 : decode cX0_greatestY 24 = .ok (.goto (-21), 3) := by decide +kernel
theorem dX0_greatestY_27 : decode cX0_greatestY 27 = .ok (.iconst 0, 1) := by decide +kernel
theorem dX0_greatestY_28 : decode cX0_greatestY 28 = .ok (.ireturn, 1) := by decide +kernel
theorem dX0_shift_0 : decode cX0_shift 0 = .ok (.iconst 0, 1) := by decide +kernel
theorem dX0_shift_1 : decode cX0_shift 1 = .ok (.istore_n 3, 1) := by decide +kernel
theorem dX0_shift_2 : decode cX0_shift 2 = .ok (.iload_n 3, 1) := by decide +kernel
theorem dX0_shift_3 : decode cX0_shift 3 = .ok (.bipush 64, 2) := by decide +kernel
theorem dX0_shift_5 : decode cX0_shift 5 = .ok (.if_icmp .ge 44, 3) := by decide +kernel
theorem dX0_shift_8 : decode cX0_shift 8 = .ok (.iload_n 2, 1) := by decide +kernel
theorem dX0_shift_9 : decode cX0_shift 9 = .ok (.ifCond .le 10, 3) := by decide +kernel
theorem dX0_shift_12 : decode cX0_shift 12 = .ok (.bipush 31, 2) := by decide +kernel
theorem dX0_shift_14 : decode cX0_shift 14 = .ok (.iload_n 3, 1) := by decide +kernel
theorem dX0_shift_15 : decode cX0_shift 15 = .ok (.isub, 1) := by decide +kernel
theorem dX0_shift_16 : decode cX0_shift 16 = .ok (.goto 7, 3) := by decide +kernel
theorem dX0_shift_19 : decode cX0_shift 19 = .ok (.bipush (-32), 2) := by decide +kernel
theorem dX0_shift_21 : decode cX0_shift 21 = .ok (.iload_n 3, 1) := by decide +kernel
theorem dX0_shift_22 : decode cX0_shift 22 = .ok (.iadd, 1) := by decide +kernel
theorem dX0_shift_23 : decode cX0_shift 23 = .ok (.istore 4, 2) := by decide +kernel
theorem dX0_shift_25 : decode cX0_shift 25 = .ok (.aload_n 0, 1) := by decide +kernel
theorem dX0_shift_26 : decode cX0_shift 26 = .ok (.iload 4, 2) := by decide +kernel
theorem dX0_shift_28 : decode cX0_shift 28 = .ok (.aload_n 0, 1) := by decide +kernel
theorem dX0_shift_29 : decode cX0_shift 29 = .ok (.iload 4, 2) := by decide +kernel
theorem dX0_shift_31 : decode cX0_shift 31 = .ok (.iload_n 2, 1) := by decide +kernel
theorem dX0_shift_32 : decode cX0_shift 32 = .ok (.isub, 1) := by decide +kernel
theorem dX0_shift_33 : decode cX0_shift 33 = .ok (.invokevirtual 25, 3) := by decide +kernel
theorem dX0_shift_36 : decode cX0_shift 36 = .ok (.iload_n 1, 1) := by decide +kernel
theorem dX0_shift_37 : decode cX0_shift 37 = .ok (.invokestatic 51, 3) := by decide +kernel
theorem dX0_shift_40 : decode cX0_shift 40 = .ok (.invokevirtual 29, 3) := by decide +kernel
theorem dX0_shift_43 : decode cX0_shift 43 = .ok (.iinc 3 1, 3) := by decide +kernel
theorem dX0_shift_46 : decode cX0_shift 46 = .ok (.goto (-44), 3) := by decide +kernel
theorem dX0_shift_49 : decode cX0_shift 49 = .ok (.return_, 1) := by decide +kernel
theorem dX0_shifted_0 : decode cX0_shifted 0 = .ok (.iload_n 2, 1) := by decide +kernel
theorem dX0_shifted_1 : decode cX0_shifted 1 = .ok (.bipush (-64), 2) := by decide +kernel
theorem dX0_shifted_3 : decode cX0_shifted 3 = .ok (.if_icmp .le 9, 3) := by decide +kernel
theorem dX0_shifted_6 : decode cX0_shifted 6 = .ok (.iload_n 2, 1) := by decide +kernel
theorem dX0_shifted_7 : decode cX0_shifted 7 = .ok (.bipush 64, 2) := by decide +kernel
theorem dX0_shifted_9 : decode cX0_shifted 9 = .ok (.if_icmp .lt 5, 3) := by decide +kernel
theorem dX0_shifted_12 : decode cX0_shifted 12 = .ok (.lconst 0, 1) := by decide +kernel
theorem dX0_shifted_13 : decode cX0_shifted 13 = .ok (.lreturn, 1) := by decide +kernel
theorem dX0_shifted_14 : decode cX0_shifted 14 = .ok (.iload_n 2, 1) := by decide +kernel
theorem dX0_shifted_15 : decode cX0_shifted 15 = .ok (.ifCond .lt 9, 3) := by decide +kernel
theorem dX0_shifted_18 : decode cX0_shifted 18 = .ok (.lload_n 0, 1) := by decide +kernel
theorem dX0_shifted_19 : decode cX0_shifted 19 = .ok (.iload_n 2, 1) := by decide +kernel
theorem dX0_shifted_20 : decode cX0_shifted 20 = .ok (.lshl, 1) := by decide +kernel
theorem dX0_shifted_21 : decode cX0_shifted 21 = .ok (.goto 7, 3) := by decide +kernel
theorem dX0_shifted_24 : decode cX0_shifted 24 = .ok (.lload_n 0, 1) := by decide +kernel
theorem dX0_shifted_25 : decode cX0_shifted 25 = .ok (.iload_n 2, 1) := by decide +kernel
theorem dX0_shifted_26 : decode cX0_shifted 26 = .ok (.ineg, 1) := by decide +kernel
theorem dX0_shifted_27 : decode cX0_shifted 27 = .ok (.lushr, 1) := by decide +kernel
theorem dX0_shifted_28 : decode cX0_shifted 28 = .ok (.lreturn, 1) := by decide +kernel
theorem dX0_putTurned_0 : decode cX0_putTurned 0 = .ok (.bipush (-32), 2) := by decide +kernel
theorem dX0_putTurned_2 : decode cX0_putTurned 2 = .ok (.istore_n 2, 1) := by decide +kernel
theorem dX0_putTurned_3 : decode cX0_putTurned 3 = .ok (.iload_n 2, 1) := by decide +kernel
theorem dX0_putTurned_4 : decode cX0_putTurned 4 = .ok (.bipush 31, 2) := by decide +kernel
theorem dX0_putTurned_6 : decode cX0_putTurned 6 = .ok (.if_icmp .gt 55, 3) := by decide +kernel
theorem dX0_putTurned_9 : decode cX0_putTurned 9 = .ok (.lconst 0, 1) := by decide +kernel
theorem dX0_putTurned_10 : decode cX0_putTurned 10 = .ok (.lstore_n 3, 1) := by decide +kernel
theorem dX0_putTurned_11 : decode cX0_putTurned 11 = .ok (.bipush (-32), 2) := by decide +kernel
theorem dX0_putTurned_13 : decode cX0_putTurned 13 = .ok (.istore 5, 2) := by decide +kernel
theorem dX0_putTurned_15 : decode cX0_putTurned 15 = .ok (.iload 5, 2) := by decide +kernel
theorem dX0_putTurned_17 : decode cX0_putTurned 17 = .ok (.bipush 31, 2) := by decide +kernel
theorem dX0_putTurned_19 : decode cX0_putTurned 19 = .ok (.if_icmp .gt 30, 3) := by decide +kernel
theorem dX0_putTurned_22 : decode cX0_putTurned 22 = .ok (.aload_n 1, 1) := by decide +kernel
theorem dX0_putTurned_23 : decode cX0_putTurned 23 = .ok (.iload_n 2, 1) := by decide +kernel
theorem dX0_putTurned_24 : decode cX0_putTurned 24 = .ok (.iload 5, 2) := by decide +kernel
theorem dX0_putTurned_26 : decode cX0_putTurned 26 = .ok (.ineg, 1) := by decide +kernel
theorem dX0_putTurned_27 : decode cX0_putTurned 27 = .ok (.iconst 1, 1) := by decide +kernel
theorem dX0_putTurned_28 : decode cX0_putTurned 28 = .ok (.isub, 1) := by decide +kernel
theorem dX0_putTurned_29 : decode cX0_putTurned 29 = .ok (.invokevirtual 41, 3) := by decide +kernel
theorem dX0_putTurned_32 : decode cX0_putTurned 32 = .ok (.ifCond .eq 11, 3) := by decide +kernel
theorem dX0_putTurned_35 : decode cX0_putTurned 35 = .ok (.lload_n 3, 1) := by decide +kernel
theorem dX0_putTurned_36 : decode cX0_putTurned 36 = .ok (.iload 5, 2) := by decide +kernel
theorem dX0_putTurned_38 : decode cX0_putTurned 38 = .ok (.invokestatic 48, 3) := by decide +kernel
theorem dX0_putTurned_41 : decode cX0_putTurned 41 = .ok (.lor, 1) := by decide +kernel
theorem dX0_putTurned_42 : decode cX0_putTurned 42 = .ok (.lstore_n 3, 1) := by decide +kernel
theorem dX0_putTurned_43 : decode cX0_putTurned 43 = .ok (.iinc 5 1, 3) := by decide +kernel
theorem dX0_putTurned_46 : decode cX0_putTurned 46 = .ok (.goto (-31), 3) := by decide +kernel
theorem dX0_putTurned_49 : decode cX0_putTurned 49 = .ok (.aload_n 0, 1) := by decide +kernel
theorem dX0_putTurned_50 : decode cX0_putTurned 50 = .ok (.iload_n 2, 1) := by decide +kernel
theorem dX0_putTurned_51 : decode cX0_putTurned 51 = .ok (.lload_n 3, 1) := by decide +kernel
theorem dX0_putTurned_52 : decode cX0_putTurned 52 = .ok (.invokevirtual 29, 3) := by decide +kernel
theorem dX0_putTurned_55 : decode cX0_putTurned 55 = .ok (.iinc 2 1, 3) := by decide +kernel
theorem dX0_putTurned_58 : decode cX0_putTurned 58 = .ok (.goto (-55), 3) := by decide +kernel
theorem dX0_putTurned_61 : decode cX0_putTurned 61 = .ok (.return_, 1) := by decide +kernel
theorem dX0_widen_0 : decode cX0_widen 0 = .ok (.lconst 0, 1) := by decide +kernel
theorem dX0_widen_1 : decode cX0_widen 1 = .ok (.lstore_n 2, 1) := by decide +kernel
theorem dX0_widen_2 : decode cX0_widen 2 = .ok (.bipush (-32), 2) := by decide +kernel
theorem dX0_widen_4 : decode cX0_widen 4 = .ok (.istore 4, 2) := by decide +kernel
theorem dX0_widen_6 : decode cX0_widen 6 = .ok (.iload 4, 2) := by decide +kernel
theorem dX0_widen_8 : decode cX0_widen 8 = .ok (.bipush 31, 2) := by decide +kernel
theorem dX0_widen_10 : decode cX0_widen 10 = .ok (.if_icmp .gt 71, 3) := by decide +kernel
theorem dX0_widen_13 : decode cX0_widen 13 = .ok (.aload_n 0, 1) := by decide +kernel
theorem dX0_widen_14 : decode cX0_widen 14 = .ok (.iload 4, 2) := by decide +kernel
theorem dX0_widen_16 : decode cX0_widen 16 = .ok (.invokevirtual 25, 3) := by decide +kernel
theorem dX0_widen_19 : decode cX0_widen 19 = .ok (.lstore 5, 2) := by decide +kernel
theorem dX0_widen_21 : decode cX0_widen 21 = .ok (.lload_n 2, 1) := by decide +kernel
theorem dX0_widen_22 : decode cX0_widen 22 = .ok (.aload_n 0, 1) := by decide +kernel
theorem dX0_widen_23 : decode cX0_widen 23 = .ok (.iload 4, 2) := by decide +kernel
theorem dX0_widen_25 : decode cX0_widen 25 = .ok (.iconst 1, 1) := by decide +kernel
theorem dX0_widen_26 : decode cX0_widen 26 = .ok (.iadd, 1) := by decide +kernel
theorem dX0_widen_27 : decode cX0_widen 27 = .ok (.invokevirtual 25, 3) := by decide +kernel
theorem dX0_widen_30 : decode cX0_widen 30 = .ok (.lor, 1) := by decide +kernel
theorem dX0_widen_31 : decode cX0_widen 31 = .ok (.lstore 7, 2) := by decide +kernel
theorem dX0_widen_33 : decode cX0_widen 33 = .ok (.iload_n 1, 1) := by decide +kernel
theorem dX0_widen_34 : decode cX0_widen 34 = .ok (.ifCond .ne 17, 3) := by decide +kernel
theorem dX0_widen_37 : decode cX0_widen 37 = .ok (.lload 7, 2) := by decide +kernel
theorem dX0_widen_39 : decode cX0_widen 39 = .ok (.lload 7, 2) := by decide +kernel
theorem dX0_widen_41 : decode cX0_widen 41 = .ok (.iconst 1, 1) := by decide +kernel
theorem dX0_widen_42 : decode cX0_widen 42 = .ok (.lshl, 1) := by decide +kernel
theorem dX0_widen_43 : decode cX0_widen 43 = .ok (.lload 7, 2) := by decide +kernel
theorem dX0_widen_45 : decode cX0_widen 45 = .ok (.iconst 1, 1) := by decide +kernel
theorem dX0_widen_46 : decode cX0_widen 46 = .ok (.lushr, 1) := by decide +kernel
theorem dX0_widen_47 : decode cX0_widen 47 = .ok (.lor, 1) := by decide +kernel
theorem dX0_widen_48 : decode cX0_widen 48 = .ok (.lor, 1) := by decide +kernel
theorem dX0_widen_49 : decode cX0_widen 49 = .ok (.lstore 7, 2) := by decide +kernel
theorem dX0_widen_51 : decode cX0_widen 51 = .ok (.aload_n 0, 1) := by decide +kernel
theorem dX0_widen_52 : decode cX0_widen 52 = .ok (.iload 4, 2) := by decide +kernel
theorem dX0_widen_54 : decode cX0_widen 54 = .ok (.lload 5, 2) := by decide +kernel
theorem dX0_widen_56 : decode cX0_widen 56 = .ok (.lload 5, 2) := by decide +kernel
theorem dX0_widen_58 : decode cX0_widen 58 = .ok (.iconst 1, 1) := by decide +kernel
theorem dX0_widen_59 : decode cX0_widen 59 = .ok (.lshl, 1) := by decide +kernel
theorem dX0_widen_60 : decode cX0_widen 60 = .ok (.lor, 1) := by decide +kernel
theorem dX0_widen_61 : decode cX0_widen 61 = .ok (.lload 5, 2) := by decide +kernel
theorem dX0_widen_63 : decode cX0_widen 63 = .ok (.iconst 1, 1) := by decide +kernel
theorem dX0_widen_64 : decode cX0_widen 64 = .ok (.lushr, 1) := by decide +kernel
theorem dX0_widen_65 : decode cX0_widen 65 = .ok (.lor, 1) := by decide +kernel
theorem dX0_widen_66 : decode cX0_widen 66 = .ok (.lload 7, 2) := by decide +kernel
theorem dX0_widen_68 : decode cX0_widen 68 = .ok (.lor, 1) := by decide +kernel
theorem dX0_widen_69 : decode cX0_widen 69 = .ok (.invokevirtual 29, 3) := by decide +kernel
theorem dX0_widen_72 : decode cX0_widen 72 = .ok (.lload 5, 2) := by decide +kernel
theorem dX0_widen_74 : decode cX0_widen 74 = .ok (.lstore_n 2, 1) := by decide +kernel
theorem dX0_widen_75 : decode cX0_widen 75 = .ok (.iinc 4 1, 3) := by decide +kernel
theorem dX0_widen_78 : decode cX0_widen 78 = .ok (.goto (-72), 3) := by decide +kernel
theorem dX0_widen_81 : decode cX0_widen 81 = .ok (.return_, 1) := by decide +kernel
theorem dX0_narrow_0 : decode cX0_narrow 0 = .ok (.lconst 0, 1) := by decide +kernel
theorem dX0_narrow_1 : decode cX0_narrow 1 = .ok (.lstore_n 2, 1) := by decide +kernel
theorem dX0_narrow_2 : decode cX0_narrow 2 = .ok (.bipush (-32), 2) := by decide +kernel
theorem dX0_narrow_4 : decode cX0_narrow 4 = .ok (.istore 4, 2) := by decide +kernel
theorem dX0_narrow_6 : decode cX0_narrow 6 = .ok (.iload 4, 2) := by decide +kernel
theorem dX0_narrow_8 : decode cX0_narrow 8 = .ok (.bipush 31, 2) := by decide +kernel
theorem dX0_narrow_10 : decode cX0_narrow 10 = .ok (.if_icmp .gt 71, 3) := by decide +kernel
theorem dX0_narrow_13 : decode cX0_narrow 13 = .ok (.aload_n 0, 1) := by decide +kernel
theorem dX0_narrow_14 : decode cX0_narrow 14 = .ok (.iload 4, 2) := by decide +kernel
theorem dX0_narrow_16 : decode cX0_narrow 16 = .ok (.invokevirtual 25, 3) := by decide +kernel
theorem dX0_narrow_19 : decode cX0_narrow 19 = .ok (.lstore 5, 2) := by decide +kernel
theorem dX0_narrow_21 : decode cX0_narrow 21 = .ok (.lload_n 2, 1) := by decide +kernel
theorem dX0_narrow_22 : decode cX0_narrow 22 = .ok (.aload_n 0, 1) := by decide +kernel
theorem dX0_narrow_23 : decode cX0_narrow 23 = .ok (.iload 4, 2) := by decide +kernel
theorem dX0_narrow_25 : decode cX0_narrow 25 = .ok (.iconst 1, 1) := by decide +kernel
theorem dX0_narrow_26 : decode cX0_narrow 26 = .ok (.iadd, 1) := by decide +kernel
theorem dX0_narrow_27 : decode cX0_narrow 27 = .ok (.invokevirtual 25, 3) := by decide +kernel
theorem dX0_narrow_30 : decode cX0_narrow 30 = .ok (.land, 1) := by decide +kernel
theorem dX0_narrow_31 : decode cX0_narrow 31 = .ok (.lstore 7, 2) := by decide +kernel
theorem dX0_narrow_33 : decode cX0_narrow 33 = .ok (.iload_n 1, 1) := by decide +kernel
theorem dX0_narrow_34 : decode cX0_narrow 34 = .ok (.ifCond .ne 17, 3) := by decide +kernel
theorem dX0_narrow_37 : decode cX0_narrow 37 = .ok (.lload 7, 2) := by decide +kernel
theorem dX0_narrow_39 : decode cX0_narrow 39 = .ok (.lload 7, 2) := by decide +kernel
theorem dX0_narrow_41 : decode cX0_narrow 41 = .ok (.iconst 1, 1) := by decide +kernel
theorem dX0_narrow_42 : decode cX0_narrow 42 = .ok (.lshl, 1) := by decide +kernel
theorem dX0_narrow_43 : decode cX0_narrow 43 = .ok (.lload 7, 2) := by decide +kernel
theorem dX0_narrow_45 : decode cX0_narrow 45 = .ok (.iconst 1, 1) := by decide +kernel
theorem dX0_narrow_46 : decode cX0_narrow 46 = .ok (.lushr, 1) := by decide +kernel
theorem dX0_narrow_47 : decode cX0_narrow 47 = .ok (.land, 1) := by decide +kernel
theorem dX0_narrow_48 : decode cX0_narrow 48 = .ok (.land, 1) := by decide +kernel
theorem dX0_narrow_49 : decode cX0_narrow 49 = .ok (.lstore 7, 2) := by decide +kernel
theorem dX0_narrow_51 : decode cX0_narrow 51 = .ok (.aload_n 0, 1) := by decide +kernel
theorem dX0_narrow_52 : decode cX0_narrow 52 = .ok (.iload 4, 2) := by decide +kernel
theorem dX0_narrow_54 : decode cX0_narrow 54 = .ok (.lload 5, 2) := by decide +kernel
theorem dX0_narrow_56 : decode cX0_narrow 56 = .ok (.lload 5, 2) := by decide +kernel
theorem dX0_narrow_58 : decode cX0_narrow 58 = .ok (.iconst 1, 1) := by decide +kernel
theorem dX0_narrow_59 : decode cX0_narrow 59 = .ok (.lshl, 1) := by decide +kernel
theorem dX0_narrow_60 : decode cX0_narrow 60 = .ok (.land, 1) := by decide +kernel
theorem dX0_narrow_61 : decode cX0_narrow 61 = .ok (.lload 5, 2) := by decide +kernel
theorem dX0_narrow_63 : decode cX0_narrow 63 = .ok (.iconst 1, 1) := by decide +kernel
theorem dX0_narrow_64 : decode cX0_narrow 64 = .ok (.lushr, 1) := by decide +kernel
theorem dX0_narrow_65 : decode cX0_narrow 65 = .ok (.land, 1) := by decide +kernel
theorem dX0_narrow_66 : decode cX0_narrow 66 = .ok (.lload 7, 2) := by decide +kernel
theorem dX0_narrow_68 : decode cX0_narrow 68 = .ok (.land, 1) := by decide +kernel
theorem dX0_narrow_69 : decode cX0_narrow 69 = .ok (.invokevirtual 29, 3) := by decide +kernel
theorem dX0_narrow_72 : decode cX0_narrow 72 = .ok (.lload 5, 2) := by decide +kernel
theorem dX0_narrow_74 : decode cX0_narrow 74 = .ok (.lstore_n 2, 1) := by decide +kernel
theorem dX0_narrow_75 : decode cX0_narrow 75 = .ok (.iinc 4 1, 3) := by decide +kernel
theorem dX0_narrow_78 : decode cX0_narrow 78 = .ok (.goto (-72), 3) := by decide +kernel
theorem dX0_narrow_81 : decode cX0_narrow 81 = .ok (.return_, 1) := by decide +kernel
theorem dX1_init_0 : decode cX1_init 0 = .ok (.aload_n 0, 1) := by decide +kernel
theorem dX1_init_1 : decode cX1_init 1 = .ok (.invokespecial 3, 3) := by decide +kernel
theorem dX1_init_4 : decode cX1_init 4 = .ok (.aload_n 0, 1) := by decide +kernel
theorem dX1_init_5 : decode cX1_init 5 = .ok (.new 9, 3) := by decide +kernel
theorem dX1_init_8 : decode cX1_init 8 = .ok (.dup, 1) := by decide +kernel
theorem dX1_init_9 : decode cX1_init 9 = .ok (.invokespecial 11, 3) := by decide +kernel
theorem dX1_init_12 : decode cX1_init 12 = .ok (.putfield 12, 3) := by decide +kernel
theorem dX1_init_15 : decode cX1_init 15 = .ok (.aload_n 0, 1) := by decide +kernel
theorem dX1_init_16 : decode cX1_init 16 = .ok (.new 9, 3) := by decide +kernel
theorem dX1_init_19 : decode cX1_init 19 = .ok (.dup, 1) := by decide +kernel
theorem dX1_init_20 : decode cX1_init 20 = .ok (.invokespecial 11, 3) := by decide +kernel
theorem dX1_init_23 : decode cX1_init 23 = .ok (.putfield 18, 3) := by decide +kernel
theorem dX1_init_26 : decode cX1_init 26 = .ok (.return_, 1) := by decide +kernel
theorem dX1_countPieces_0 : decode cX1_countPieces 0 = .ok (.aload_n 0, 1) := by decide +kernel
theorem dX1_countPieces_1 : decode cX1_countPieces 1 = .ok (.getfield 12, 3) := by decide +kernel
theorem dX1_countPieces_4 : decode cX1_countPieces 4 = .ok (.aload_n 1, 1) := by decide +kernel
theorem dX1_countPieces_5 : decode cX1_countPieces 5 = .ok (.invokevirtual 21, 3) := by decide +kernel
theorem dX1_countPieces_8 : decode cX1_countPieces 8 = .ok (.aload_n 0, 1) := by decide +kernel
theorem dX1_countPieces_9 : decode cX1_countPieces 9 = .ok (.iconst 0, 1) := by decide +kernel
theorem dX1_countPieces_10 : decode cX1_countPieces 10 = .ok (.invokevirtual 25, 3) := by decide +kernel
theorem dX1_countPieces_13 : decode cX1_countPieces 13 = .ok (.ireturn, 1) := by decide +kernel
theorem dX1_countHoles_0 : decode cX1_countHoles 0 = .ok (.aload_n 0, 1) := by decide +kernel
theorem dX1_countHoles_1 : decode cX1_countHoles 1 = .ok (.aload_n 1, 1) := by decide +kernel
theorem dX1_countHoles_2 : decode cX1_countHoles 2 = .ok (.invokevirtual 29, 3) := by decide +kernel
theorem dX1_countHoles_5 : decode cX1_countHoles 5 = .ok (.aload_n 0, 1) := by decide +kernel
theorem dX1_countHoles_6 : decode cX1_countHoles 6 = .ok (.iconst 1, 1) := by decide +kernel
theorem dX1_countHoles_7 : decode cX1_countHoles 7 = .ok (.invokevirtual 25, 3) := by decide +kernel
theorem dX1_countHoles_10 : decode cX1_countHoles 10 = .ok (.ireturn, 1) := by decide +kernel
theorem dX1_fillHoles_0 : decode cX1_fillHoles 0 = .ok (.aload_n 0, 1) := by decide +kernel
theorem dX1_fillHoles_1 : decode cX1_fillHoles 1 = .ok (.aload_n 1, 1) := by decide +kernel
theorem dX1_fillHoles_2 : decode cX1_fillHoles 2 = .ok (.invokevirtual 29, 3) := by decide +kernel
theorem dX1_fillHoles_5 : decode cX1_fillHoles 5 = .ok (.aload_n 1, 1) := by decide +kernel
theorem dX1_fillHoles_6 : decode cX1_fillHoles 6 = .ok (.aload_n 0, 1) := by decide +kernel
theorem dX1_fillHoles_7 : decode cX1_fillHoles 7 = .ok (.getfield 12, 3) := by decide +kernel
theorem dX1_fillHoles_10 : decode cX1_fillHoles 10 = .ok (.invokevirtual 32, 3) := by decide +kernel
theorem dX1_fillHoles_13 : decode cX1_fillHoles 13 = .ok (.aload_n 0, 1) := by decide +kernel
theorem dX1_fillHoles_14 : decode cX1_fillHoles 14 = .ok (.iconst 1, 1) := by decide +kernel
theorem dX1_fillHoles_15 : decode cX1_fillHoles 15 = .ok (.invokevirtual 25, 3) := by decide +kernel
theorem dX1_fillHoles_18 : decode cX1_fillHoles 18 = .ok (.ireturn, 1) := by decide +kernel
theorem dX1_leavePiece_0 : decode cX1_leavePiece 0 = .ok (.aload_n 0, 1) := by decide +kernel
theorem dX1_leavePiece_1 : decode cX1_leavePiece 1 = .ok (.getfield 12, 3) := by decide +kernel
theorem dX1_leavePiece_4 : decode cX1_leavePiece 4 = .ok (.aload_n 1, 1) := by decide +kernel
theorem dX1_leavePiece_5 : decode cX1_leavePiece 5 = .ok (.invokevirtual 21, 3) := by decide +kernel
theorem dX1_leavePiece_8 : decode cX1_leavePiece 8 = .ok (.aload_n 0, 1) := by decide +kernel
theorem dX1_leavePiece_9 : decode cX1_leavePiece 9 = .ok (.getfield 18, 3) := by decide +kernel
theorem dX1_leavePiece_12 : decode cX1_leavePiece 12 = .ok (.invokevirtual 35, 3) := by decide +kernel
theorem dX1_leavePiece_15 : decode cX1_leavePiece 15 = .ok (.aload_n 0, 1) := by decide +kernel
theorem dX1_leavePiece_16 : decode cX1_leavePiece 16 = .ok (.getfield 12, 3) := by decide +kernel
theorem dX1_leavePiece_19 : decode cX1_leavePiece 19 = .ok (.iload_n 2, 1) := by decide +kernel
theorem dX1_leavePiece_20 : decode cX1_leavePiece 20 = .ok (.iload_n 3, 1) := by decide +kernel
theorem dX1_leavePiece_21 : decode cX1_leavePiece 21 = .ok (.invokevirtual 38, 3) := by decide +kernel
theorem dX1_leavePiece_24 : decode cX1_leavePiece 24 = .ok (.ifCond .eq 10, 3) := by decide +kernel
theorem dX1_leavePiece_27 : decode cX1_leavePiece 27 = .ok (.aload_n 0, 1) := by decide +kernel
theorem dX1_leavePiece_28 : decode cX1_leavePiece 28 = .ok (.iload_n 2, 1) := by decide +kernel
theorem dX1_leavePiece_29 : decode cX1_leavePiece 29 = .ok (.iload_n 3, 1) := by decide +kernel
theorem dX1_leavePiece_30 : decode cX1_leavePiece 30 = .ok (.iconst 0, 1) := by decide +kernel
theorem dX1_leavePiece_31 : decode cX1_leavePiece 31 = .ok (.invokevirtual 42, 3) := by decide +kernel
theorem dX1_leavePiece_34 : decode cX1_leavePiece 34 = .ok (.aload_n 1, 1) := by decide +kernel
theorem dX1_leavePiece_35 : decode cX1_leavePiece 35 = .ok (.aload_n 0, 1) := by decide +kernel
theorem dX1_leavePiece_36 : decode cX1_leavePiece 36 = .ok (.getfield 18, 3) := by decide +kernel
theorem dX1_leavePiece_39 : decode cX1_leavePiece 39 = .ok (.invokevirtual 21, 3) := by decide +kernel
theorem dX1_leavePiece_42 : decode cX1_leavePiece 42 = .ok (.return_, 1) := by decide +kernel
theorem dX1_findHoles_0 : decode cX1_findHoles 0 = .ok (.bipush (-32), 2) := by decide +kernel
theorem dX1_findHoles_2 : decode cX1_findHoles 2 = .ok (.istore_n 2, 1) := by decide +kernel
theorem dX1_findHoles_3 : decode cX1_findHoles 3 = .ok (.iload_n 2, 1) := by decide +kernel
theorem dX1_findHoles_4 : decode cX1_findHoles 4 = .ok (.bipush 31, 2) := by decide +kernel
theorem dX1_findHoles_6 : decode cX1_findHoles 6 = .ok (.if_icmp .gt 87, 3) := by decide +kernel
theorem dX1_findHoles_9 : decode cX1_findHoles 9 = .ok (.iload_n 2, 1) := by decide +kernel
theorem dX1_findHoles_10 : decode cX1_findHoles 10 = .ok (.bipush (-32), 2) := by decide +kernel
theorem dX1_findHoles_12 : decode cX1_findHoles 12 = .ok (.if_icmp .eq 9, 3) := by decide +kernel
theorem dX1_findHoles_15 : decode cX1_findHoles 15 = .ok (.iload_n 2, 1) := by decide +kernel
theorem dX1_findHoles_16 : decode cX1_findHoles 16 = .ok (.bipush 31, 2) := by decide +kernel
theorem dX1_findHoles_18 : decode cX1_findHoles 18 = .ok (.if_icmp .ne 7, 3) := by decide +kernel
theorem dX1_findHoles_21 : decode cX1_findHoles 21 = .ok (.iconst 1, 1) := by decide +kernel
theorem dX1_findHoles_22 : decode cX1_findHoles 22 = .ok (.goto 4, 3) := by decide +kernel
theorem dX1_findHoles_25 : decode cX1_findHoles 25 = .ok (.iconst 0, 1) := by decide +kernel
theorem dX1_findHoles_26 : decode cX1_findHoles 26 = .ok (.istore_n 3, 1) := by decide +kernel
theorem dX1_findHoles_27 : decode cX1_findHoles 27 = .ok (.iload_n 3, 1) := by decide +kernel
theorem dX1_findHoles_28 : decode cX1_findHoles 28 = .ok (.ifCond .eq 9, 3) := by decide +kernel
theorem dX1_findHoles_31 : decode cX1_findHoles 31 = .ok (.ldc2_w 46, 3) := by decide +kernel
theorem dX1_findHoles_34 : decode cX1_findHoles 34 = .ok (.goto 14, 3) := by decide +kernel
theorem dX1_findHoles_37 : decode cX1_findHoles 37 = .ok (.bipush (-32), 2) := by decide +kernel
theorem dX1_findHoles_39 : decode cX1_findHoles 39 = .ok (.invokestatic 48, 3) := by decide +kernel
theorem dX1_findHoles_42 : decode cX1_findHoles 42 = .ok (.bipush 31, 2) := by decide +kernel
theorem dX1_findHoles_44 : decode cX1_findHoles 44 = .ok (.invokestatic 48, 3) := by decide +kernel
theorem dX1_findHoles_47 : decode cX1_findHoles 47 = .ok (.lor, 1) := by decide +kernel
theorem dX1_findHoles_48 : decode cX1_findHoles 48 = .ok (.lstore 4, 2) := by decide +kernel
theorem dX1_findHoles_50 : decode cX1_findHoles 50 = .ok (.aload_n 0, 1) := by decide +kernel
theorem dX1_findHoles_51 : decode cX1_findHoles 51 = .ok (.getfield 12, 3) := by decide +kernel
theorem dX1_findHoles_54 : decode cX1_findHoles 54 = .ok (.iload_n 2, 1) := by decide +kernel
theorem dX1_findHoles_55 : decode cX1_findHoles 55 = .ok (.aload_n 1, 1) := by decide +kernel
theorem dX1_findHoles_56 : decode cX1_findHoles 56 = .ok (.iload_n 2, 1) := by decide +kernel
theorem dX1_findHoles_57 : decode cX1_findHoles 57 = .ok (.invokevirtual 52, 3) := by decide +kernel
theorem dX1_findHoles_60 : decode cX1_findHoles 60 = .ok (.ldc2_w 46, 3) := by decide +kernel
theorem dX1_findHoles_63 : decode cX1_findHoles 63 = .ok (.lxor, 1) := by decide +kernel
theorem dX1_findHoles_64 : decode cX1_findHoles 64 = .ok (.invokevirtual 55, 3) := by decide +kernel
theorem dX1_findHoles_67 : decode cX1_findHoles 67 = .ok (.aload_n 0, 1) := by decide +kernel
theorem dX1_findHoles_68 : decode cX1_findHoles 68 = .ok (.getfield 18, 3) := by decide +kernel
theorem dX1_findHoles_71 : decode cX1_findHoles 71 = .ok (.iload_n 2, 1) := by decide +kernel
theorem dX1_findHoles_72 : decode cX1_findHoles 72 = .ok (.aload_n 1, 1) := by decide +kernel
theorem dX1_findHoles_73 : decode cX1_findHoles 73 = .ok (.iload_n 2, 1) := by decide +kernel
theorem dX1_findHoles_74 : decode cX1_findHoles 74 = .ok (.invokevirtual 52, 3) := by decide +kernel
theorem dX1_findHoles_77 : decode cX1_findHoles 77 = .ok (.ldc2_w 46, 3) := by decide +kernel
theorem dX1_findHoles_80 : decode cX1_findHoles 80 = .ok (.lxor, 1) := by decide +kernel
theorem dX1_findHoles_81 : decode cX1_findHoles 81 = .ok (.lload 4, 2) := by decide +kernel
theorem dX1_findHoles_83 : decode cX1_findHoles 83 = .ok (.land, 1) := by decide +kernel
theorem dX1_findHoles_84 : decode cX1_findHoles 84 = .ok (.invokevirtual 55, 3) := by decide +kernel
theorem dX1_findHoles_87 : decode cX1_findHoles 87 = .ok (.iinc 2 1, 3) := by decide +kernel
theorem dX1_findHoles_90 : decode cX1_findHoles 90 = .ok (.goto (-87), 3) := by decide +kernel
theorem dX1_findHoles_93 : decode cX1_findHoles 93 = .ok (.aload_n 0, 1) := by decide +kernel
theorem dX1_findHoles_94 : decode cX1_findHoles 94 = .ok (.bipush (-32), 2) := by decide +kernel
theorem dX1_findHoles_96 : decode cX1_findHoles 96 = .ok (.putfield 59, 3) := by decide +kernel
theorem dX1_findHoles_99 : decode cX1_findHoles 99 = .ok (.aload_n 0, 1) := by decide +kernel
theorem dX1_findHoles_100 : decode cX1_findHoles 100 = .ok (.bipush 31, 2) := by decide +kernel
theorem dX1_findHoles_102 : decode cX1_findHoles 102 = .ok (.putfield 63, 3) := by decide +kernel
theorem dX1_findHoles_105 : decode cX1_findHoles 105 = .ok (.aload_n 0, 1) := by decide +kernel
theorem dX1_findHoles_106 : decode cX1_findHoles 106 = .ok (.iconst 1, 1) := by decide +kernel
theorem dX1_findHoles_107 : decode cX1_findHoles 107 = .ok (.invokevirtual 66, 3) := by decide +kernel
theorem dX1_findHoles_110 : decode cX1_findHoles 110 = .ok (.aload_n 0, 1) := by decide +kernel
theorem dX1_findHoles_111 : decode cX1_findHoles 111 = .ok (.invokevirtual 70, 3) := by decide +kernel
theorem dX1_findHoles_114 : decode cX1_findHoles 114 = .ok (.return_, 1) := by decide +kernel
theorem dX1_countParts_0 : decode cX1_countParts 0 = .ok (.iconst 0, 1) := by decide +kernel
theorem dX1_countParts_1 : decode cX1_countParts 1 = .ok (.istore_n 2, 1) := by decide +kernel
theorem dX1_countParts_2 : decode cX1_countParts 2 = .ok (.bipush (-32), 2) := by decide +kernel
theorem dX1_countParts_4 : decode cX1_countParts 4 = .ok (.istore_n 3, 1) := by decide +kernel
theorem dX1_countParts_5 : decode cX1_countParts 5 = .ok (.iload_n 3, 1) := by decide +kernel
theorem dX1_countParts_6 : decode cX1_countParts 6 = .ok (.bipush 31, 2) := by decide +kernel
theorem dX1_countParts_8 : decode cX1_countParts 8 = .ok (.if_icmp .gt 61, 3) := by decide +kernel
theorem dX1_countParts_11 : decode cX1_countParts 11 = .ok (.iconst 0, 1) := by decide +kernel
theorem dX1_countParts_12 : decode cX1_countParts 12 = .ok (.istore 4, 2) := by decide +kernel
theorem dX1_countParts_14 : decode cX1_countParts 14 = .ok (.iload 4, 2) := by decide +kernel
theorem dX1_countParts_16 : decode cX1_countParts 16 = .ok (.bipush 64, 2) := by decide +kernel
theorem dX1_countParts_18 : decode cX1_countParts 18 = .ok (.if_icmp .ge 45, 3) := by decide +kernel
theorem dX1_countParts_21 : decode cX1_countParts 21 = .ok (.aload_n 0, 1) := by decide +kernel
theorem dX1_countParts_22 : decode cX1_countParts 22 = .ok (.getfield 12, 3) := by decide +kernel
theorem dX1_countParts_25 : decode cX1_countParts 25 = .ok (.iload_n 3, 1) := by decide +kernel
theorem dX1_countParts_26 : decode cX1_countParts 26 = .ok (.invokevirtual 52, 3) := by decide +kernel
theorem dX1_countParts_29 : decode cX1_countParts 29 = .ok (.lconst 0, 1) := by decide +kernel
theorem dX1_countParts_30 : decode cX1_countParts 30 = .ok (.lcmp, 1) := by decide +kernel
theorem dX1_countParts_31 : decode cX1_countParts 31 = .ok (.ifCond .eq 32, 3) := by decide +kernel
theorem dX1_countParts_34 : decode cX1_countParts 34 = .ok (.aload_n 0, 1) := by decide +kernel
theorem dX1_countParts_35 : decode cX1_countParts 35 = .ok (.bipush (-32), 2) := by decide +kernel
theorem dX1_countParts_37 : decode cX1_countParts 37 = .ok (.aload_n 0, 1) := by decide +kernel
theorem dX1_countParts_38 : decode cX1_countParts 38 = .ok (.getfield 12, 3) := by decide +kernel
theorem dX1_countParts_41 : decode cX1_countParts 41 = .ok (.iload_n 3, 1) := by decide +kernel
theorem dX1_countParts_42 : decode cX1_countParts 42 = .ok (.invokevirtual 52, 3) := by decide +kernel
theorem dX1_countParts_45 : decode cX1_countParts 45 = .ok (.invokestatic 73, 3) := by decide +kernel
theorem dX1_countParts_48 : decode cX1_countParts 48 = .ok (.iadd, 1) := by decide +kernel
theorem dX1_countParts_49 : decode cX1_countParts 49 = .ok (.iload_n 3, 1) := by decide +kernel
theorem dX1_countParts_50 : decode cX1_countParts 50 = .ok (.iload_n 1, 1) := by decide +kernel
theorem dX1_countParts_51 : decode cX1_countParts 51 = .ok (.invokevirtual 42, 3) := by decide +kernel
theorem dX1_countParts_54 : decode cX1_countParts 54 = .ok (.iinc 2 1, 3) := by decide +kernel
theorem dX1_countParts_57 : decode cX1_countParts 57 = .ok (.iinc 4 1, 3) := by decide +kernel
theorem dX1_countParts_60 : decode cX1_countParts 60 = .ok (.goto (-46), 3) := by decide +kernel
theorem dX1_countParts_63 : decode cX1_countParts 63 = .ok (.iinc 3 1, 3) := by decide +kernel
theorem dX1_countParts_66 : decode cX1_countParts 66 = .ok (.goto (-61), 3) := by decide +kernel
theorem dX1_countParts_69 : decode cX1_countParts 69 = .ok (.iload_n 2, 1) := by decide +kernel
theorem dX1_countParts_70 : decode cX1_countParts 70 = .ok (.ireturn, 1) := by decide +kernel
theorem dX1_take_0 : decode cX1_take 0 = .ok (.aload_n 0, 1) := by decide +kernel
theorem dX1_take_1 : decode cX1_take 1 = .ok (.getfield 18, 3) := by decide +kernel
theorem dX1_take_4 : decode cX1_take 4 = .ok (.invokevirtual 35, 3) := by decide +kernel
theorem dX1_take_7 : decode cX1_take 7 = .ok (.aload_n 0, 1) := by decide +kernel
theorem dX1_take_8 : decode cX1_take 8 = .ok (.getfield 18, 3) := by decide +kernel
theorem dX1_take_11 : decode cX1_take 11 = .ok (.iload_n 1, 1) := by decide +kernel
theorem dX1_take_12 : decode cX1_take 12 = .ok (.iload_n 2, 1) := by decide +kernel
theorem dX1_take_13 : decode cX1_take 13 = .ok (.invokevirtual 77, 3) := by decide +kernel
theorem dX1_take_16 : decode cX1_take 16 = .ok (.aload_n 0, 1) := by decide +kernel
theorem dX1_take_17 : decode cX1_take 17 = .ok (.iload_n 2, 1) := by decide +kernel
theorem dX1_take_18 : decode cX1_take 18 = .ok (.putfield 59, 3) := by decide +kernel
theorem dX1_take_21 : decode cX1_take 21 = .ok (.aload_n 0, 1) := by decide +kernel
theorem dX1_take_22 : decode cX1_take 22 = .ok (.iload_n 2, 1) := by decide +kernel
theorem dX1_take_23 : decode cX1_take 23 = .ok (.putfield 63, 3) := by decide +kernel
theorem dX1_take_26 : decode cX1_take 26 = .ok (.aload_n 0, 1) := by decide +kernel
theorem dX1_take_27 : decode cX1_take 27 = .ok (.iload_n 3, 1) := by decide +kernel
theorem dX1_take_28 : decode cX1_take 28 = .ok (.invokevirtual 66, 3) := by decide +kernel
theorem dX1_take_31 : decode cX1_take 31 = .ok (.aload_n 0, 1) := by decide +kernel
theorem dX1_take_32 : decode cX1_take 32 = .ok (.invokevirtual 70, 3) := by decide +kernel
theorem dX1_take_35 : decode cX1_take 35 = .ok (.return_, 1) := by decide +kernel
theorem dX1_removeFound_0 : decode cX1_removeFound 0 = .ok (.aload_n 0, 1) := by decide +kernel
theorem dX1_removeFound_1 : decode cX1_removeFound 1 = .ok (.getfield 59, 3) := by decide +kernel
theorem dX1_removeFound_4 : decode cX1_removeFound 4 = .ok (.istore_n 1, 1) := by decide +kernel
theorem dX1_removeFound_5 : decode cX1_removeFound 5 = .ok (.iload_n 1, 1) := by decide +kernel
theorem dX1_removeFound_6 : decode cX1_removeFound 6 = .ok (.aload_n 0, 1) := by decide +kernel
theorem dX1_removeFound_7 : decode cX1_removeFound 7 = .ok (.getfield 63, 3) := by decide +kernel
theorem dX1_removeFound_10 : decode cX1_removeFound 10 = .ok (.if_icmp .gt 38, 3) := by decide +kernel
theorem dX1_removeFound_13 : decode cX1_removeFound 13 = .ok (.aload_n 0, 1) := by decide +kernel
theorem dX1_removeFound_14 : decode cX1_removeFound 14 = .ok (.getfield 12, 3) := by decide +kernel
theorem dX1_removeFound_17 : decode cX1_removeFound 17 = .ok (.iload_n 1, 1) := by decide +kernel
theorem dX1_removeFound_18 : decode cX1_removeFound 18 = .ok (.aload_n 0, 1) := by decide +kernel
theorem dX1_removeFound_19 : decode cX1_removeFound 19 = .ok (.getfield 12, 3) := by decide +kernel
theorem dX1_removeFound_22 : decode cX1_removeFound 22 = .ok (.iload_n 1, 1) := by decide +kernel
theorem dX1_removeFound_23 : decode cX1_removeFound 23 = .ok (.invokevirtual 52, 3) := by decide +kernel
theorem dX1_removeFound_26 : decode cX1_removeFound 26 = .ok (.aload_n 0, 1) := by decide +kernel
theorem dX1_removeFound_27 : decode cX1_removeFound 27 = .ok (.getfield 18, 3) := by decide +kernel
theorem dX1_removeFound_30 : decode cX1_removeFound 30 = .ok (.iload_n 1, 1) := by decide +kernel
theorem dX1_removeFound_31 : decode cX1_removeFound 31 = .ok (.invokevirtual 52, 3) := by decide +kernel
theorem dX1_removeFound_34 : decode cX1_removeFound 34 = .ok (.ldc2_w 46, 3) := by decide +kernel
theorem dX1_removeFound_37 : decode cX1_removeFound 37 = .ok (.lxor, 1) := by decide +kernel
theorem dX1_removeFound_38 : decode cX1_removeFound 38 = .ok (.land, 1) := by decide +kernel
theorem dX1_removeFound_39 : decode cX1_removeFound 39 = .ok (.invokevirtual 55, 3) := by decide +kernel
theorem dX1_removeFound_42 : decode cX1_removeFound 42 = .ok (.iinc 1 1, 3) := by decide +kernel
theorem dX1_removeFound_45 : decode cX1_removeFound 45 = .ok (.goto (-40), 3) := by decide +kernel
theorem dX1_removeFound_48 : decode cX1_removeFound 48 = .ok (.return_, 1) := by decide +kernel
theorem dX1_spread_0 : decode cX1_spread 0 = .ok (.iconst 1, 1) := by decide +kernel
theorem dX1_spread_1 : decode cX1_spread 1 = .ok (.istore_n 2, 1) := by decide +kernel
theorem dX1_spread_2 : decode cX1_spread 2 = .ok (.iconst 0, 1) := by decide +kernel
theorem dX1_spread_3 : decode cX1_spread 3 = .ok (.istore_n 3, 1) := by decide +kernel
theorem dX1_spread_4 : decode cX1_spread 4 = .ok (.iload_n 3, 1) := by decide +kernel
theorem dX1_spread_5 : decode cX1_spread 5 = .ok (.sipush 4096, 3) := by decide +kernel
theorem dX1_spread_8 : decode cX1_spread 8 = .ok (.if_icmp .gt 95, 3) := by decide +kernel
theorem dX1_spread_11 : decode cX1_spread 11 = .ok (.iload_n 2, 1) := by decide +kernel
theorem dX1_spread_12 : decode cX1_spread 12 = .ok (.ifCond .eq 91, 3) := by decide +kernel
theorem dX1_spread_15 : decode cX1_spread 15 = .ok (.iconst 0, 1) := by decide +kernel
theorem dX1_spread_16 : decode cX1_spread 16 = .ok (.istore_n 2, 1) := by decide +kernel
theorem dX1_spread_17 : decode cX1_spread 17 = .ok (.aload_n 0, 1) := by decide +kernel
theorem dX1_spread_18 : decode cX1_spread 18 = .ok (.getfield 59, 3) := by decide +kernel
theorem dX1_spread_21 : decode cX1_spread 21 = .ok (.istore 4, 2) := by decide +kernel
theorem dX1_spread_23 : decode cX1_spread 23 = .ok (.iload 4, 2) := by decide +kernel
theorem dX1_spread_25 : decode cX1_spread 25 = .ok (.bipush 31, 2) := by decide +kernel
theorem dX1_spread_27 : decode cX1_spread 27 = .ok (.if_icmp .gt 30, 3) := by decide +kernel
theorem dX1_spread_30 : decode cX1_spread 30 = .ok (.iload 4, 2) := by decide +kernel
theorem dX1_spread_32 : decode cX1_spread 32 = .ok (.aload_n 0, 1) := by decide +kernel
theorem dX1_spread_33 : decode cX1_spread 33 = .ok (.getfield 63, 3) := by decide +kernel
theorem dX1_spread_36 : decode cX1_spread 36 = .ok (.iconst 1, 1) := by decide +kernel
theorem dX1_spread_37 : decode cX1_spread 37 = .ok (.iadd, 1) := by decide +kernel
theorem dX1_spread_38 : decode cX1_spread 38 = .ok (.if_icmp .gt 19, 3) := by decide +kernel
theorem dX1_spread_41 : decode cX1_spread 41 = .ok (.iload_n 2, 1) := by decide +kernel
theorem dX1_spread_42 : decode cX1_spread 42 = .ok (.aload_n 0, 1) := by decide +kernel
theorem dX1_spread_43 : decode cX1_spread 43 = .ok (.iload 4, 2) := by decide +kernel
theorem dX1_spread_45 : decode cX1_spread 45 = .ok (.iload_n 1, 1) := by decide +kernel
theorem dX1_spread_46 : decode cX1_spread 46 = .ok (.invokevirtual 81, 3) := by decide +kernel
theorem dX1_spread_49 : decode cX1_spread 49 = .ok (.ior, 1) := by decide +kernel
theorem dX1_spread_50 : decode cX1_spread 50 = .ok (.istore_n 2, 1) := by decide +kernel
theorem dX1_spread_51 : decode cX1_spread 51 = .ok (.iinc 4 1, 3) := by decide +kernel
theorem dX1_spread_54 : decode cX1_spread 54 = .ok (.goto (-31), 3) := by decide +kernel
theorem dX1_spread_57 : decode cX1_spread 57 = .ok (.aload_n 0, 1) := by decide +kernel
theorem dX1_spread_58 : decode cX1_spread 58 = .ok (.getfield 63, 3) := by decide +kernel
theorem dX1_spread_61 : decode cX1_spread 61 = .ok (.istore 4, 2) := by decide +kernel
theorem dX1_spread_63 : decode cX1_spread 63 = .ok (.iload 4, 2) := by decide +kernel
theorem dX1_spread_65 : decode cX1_spread 65 = .ok (.bipush (-32), 2) := by decide +kernel
theorem dX1_spread_67 : decode cX1_spread 67 = .ok (.if_icmp .lt 30, 3) := by decide +kernel
theorem dX1_spread_70 : decode cX1_spread 70 = .ok (.iload 4, 2) := by decide +kernel
theorem dX1_spread_72 : decode cX1_spread 72 = .ok (.aload_n 0, 1) := by decide +kernel
theorem dX1_spread_73 : decode cX1_spread 73 = .ok (.getfield 59, 3) := by decide +kernel
theorem dX1_spread_76 : decode cX1_spread 76 = .ok (.iconst 1, 1) := by decide +kernel
theorem dX1_spread_77 : decode cX1_spread 77 = .ok (.isub, 1) := by decide +kernel
theorem dX1_spread_78 : decode cX1_spread 78 = .ok (.if_icmp .lt 19, 3) := by decide +kernel
theorem dX1_spread_81 : decode cX1_spread 81 = .ok (.iload_n 2, 1) := by decide +kernel
theorem dX1_spread_82 : decode cX1_spread 82 = .ok (.aload_n 0, 1) := by decide +kernel
theorem dX1_spread_83 : decode cX1_spread 83 = .ok (.iload 4, 2) := by decide +kernel
theorem dX1_spread_85 : decode cX1_spread 85 = .ok (.iload_n 1, 1) := by decide +kernel
theorem dX1_spread_86 : decode cX1_spread 86 = .ok (.invokevirtual 81, 3) := by decide +kernel
theorem dX1_spread_89 : decode cX1_spread 89 = .ok (.ior, 1) := by decide +kernel
theorem dX1_spread_90 : decode cX1_spread 90 = .ok (.istore_n 2, 1) := by decide +kernel
theorem dX1_spread_91 : decode cX1_spread 91 = .ok (.iinc 4 (-1), 3) := by decide +kernel
theorem dX1_spread_94 : decode cX1_spread 94 = .ok (.goto (-31), 3) := by decide +kernel
theorem dX1_spread_97 : decode cX1_spread 97 = .ok (.iinc 3 1, 3) := by decide +kernel
theorem dX1_spread_100 : decode cX1_spread 100 = .ok (.goto (-96), 3) := by decide +kernel
theorem dX1_spread_103 : decode cX1_spread 103 = .ok (.return_, 1) := by decide +kernel
theorem dX1_spreadInto_0 : decode cX1_spreadInto 0 = .ok (.aload_n 0, 1) := by decide +kernel
theorem dX1_spreadInto_1 : decode cX1_spreadInto 1 = .ok (.getfield 18, 3) := by decide +kernel
theorem dX1_spreadInto_4 : decode cX1_spreadInto 4 = .ok (.iload_n 1, 1) := by decide +kernel
theorem dX1_spreadInto_5 : decode cX1_spreadInto 5 = .ok (.iconst 1, 1) := by decide +kernel
theorem dX1_spreadInto_6 : decode cX1_spreadInto 6 = .ok (.isub, 1) := by decide +kernel
theorem dX1_spreadInto_7 : decode cX1_spreadInto 7 = .ok (.invokevirtual 52, 3) := by decide +kernel
theorem dX1_spreadInto_10 : decode cX1_spreadInto 10 = .ok (.aload_n 0, 1) := by decide +kernel
theorem dX1_spreadInto_11 : decode cX1_spreadInto 11 = .ok (.getfield 18, 3) := by decide +kernel
theorem dX1_spreadInto_14 : decode cX1_spreadInto 14 = .ok (.iload_n 1, 1) := by decide +kernel
theorem dX1_spreadInto_15 : decode cX1_spreadInto 15 = .ok (.iconst 1, 1) := by decide +kernel
theorem dX1_spreadInto_16 : decode cX1_spreadInto 16 = .ok (.iadd, 1) := by decide +kernel
theorem dX1_spreadInto_17 : decode cX1_spreadInto 17 = .ok (.invokevirtual 52, 3) := by decide +kernel
theorem dX1_spreadInto_20 : decode cX1_spreadInto 20 = .ok (.lor, 1) := by decide +kernel
theorem dX1_spreadInto_21 : decode cX1_spreadInto 21 = .ok (.lstore_n 3, 1) := by decide +kernel
theorem dX1_spreadInto_22 : decode cX1_spreadInto 22 = .ok (.iload_n 2, 1) := by decide +kernel
theorem dX1_spreadInto_23 : decode cX1_spreadInto 23 = .ok (.ifCond .eq 13, 3) := by decide +kernel
theorem dX1_spreadInto_26 : decode cX1_spreadInto 26 = .ok (.lload_n 3, 1) := by decide +kernel
theorem dX1_spreadInto_27 : decode cX1_spreadInto 27 = .ok (.lload_n 3, 1) := by decide +kernel
theorem dX1_spreadInto_28 : decode cX1_spreadInto 28 = .ok (.iconst 1, 1) := by decide +kernel
theorem dX1_spreadInto_29 : decode cX1_spreadInto 29 = .ok (.lshl, 1) := by decide +kernel
theorem dX1_spreadInto_30 : decode cX1_spreadInto 30 = .ok (.lload_n 3, 1) := by decide +kernel
theorem dX1_spreadInto_31 : decode cX1_spreadInto 31 = .ok (.iconst 1, 1) := by decide +kernel
theorem dX1_spreadInto_32 : decode cX1_spreadInto 32 = .ok (.lushr, 1) := by decide +kernel
theorem dX1_spreadInto_33 : decode cX1_spreadInto 33 = .ok (.lor, 1) := by decide +kernel
theorem dX1_spreadInto_34 : decode cX1_spreadInto 34 = .ok (.lor, 1) := by decide +kernel
theorem dX1_spreadInto_35 : decode cX1_spreadInto 35 = .ok (.lstore_n 3, 1) := by decide +kernel
theorem dX1_spreadInto_36 : decode cX1_spreadInto 36 = .ok (.aload_n 0, 1) := by decide +kernel
theorem dX1_spreadInto_37 : decode cX1_spreadInto 37 = .ok (.getfield 12, 3) := by decide +kernel
theorem dX1_spreadInto_40 : decode cX1_spreadInto 40 = .ok (.iload_n 1, 1) := by decide +kernel
theorem dX1_spreadInto_41 : decode cX1_spreadInto 41 = .ok (.invokevirtual 52, 3) := by decide +kernel
theorem dX1_spreadInto_44 : decode cX1_spreadInto 44 = .ok (.lstore 5, 2) := by decide +kernel
theorem dX1_spreadInto_46 : decode cX1_spreadInto 46 = .ok (.aload_n 0, 1) := by decide +kernel
theorem dX1_spreadInto_47 : decode cX1_spreadInto 47 = .ok (.getfield 18, 3) := by decide +kernel
theorem dX1_spreadInto_50 : decode cX1_spreadInto 50 = .ok (.iload_n 1, 1) := by decide +kernel
theorem dX1_spreadInto_51 : decode cX1_spreadInto 51 = .ok (.invokevirtual 52, 3) := by decide +kernel
theorem dX1_spreadInto_54 : decode cX1_spreadInto 54 = .ok (.lstore 7, 2) := by decide +kernel
theorem dX1_spreadInto_56 : decode cX1_spreadInto 56 = .ok (.lload 5, 2) := by decide +kernel
theorem dX1_spreadInto_58 : decode cX1_spreadInto 58 = .ok (.lload 7, 2) := by decide +kernel
theorem dX1_spreadInto_60 : decode cX1_spreadInto 60 = .ok (.lload_n 3, 1) := by decide +kernel
theorem dX1_spreadInto_61 : decode cX1_spreadInto 61 = .ok (.lor, 1) := by decide +kernel
theorem dX1_spreadInto_62 : decode cX1_spreadInto 62 = .ok (.land, 1) := by decide +kernel
theorem dX1_spreadInto_63 : decode cX1_spreadInto 63 = .ok (.lload 5, 2) := by decide +kernel
theorem dX1_spreadInto_65 : decode cX1_spreadInto 65 = .ok (.invokestatic 85, 3) := by decide +kernel
theorem dX1_spreadInto_68 : decode cX1_spreadInto 68 = .ok (.lstore 9, 2) := by decide +kernel
theorem dX1_spreadInto_70 : decode cX1_spreadInto 70 = .ok (.lload 9, 2) := by decide +kernel
theorem dX1_spreadInto_72 : decode cX1_spreadInto 72 = .ok (.lload 7, 2) := by decide +kernel
theorem dX1_spreadInto_74 : decode cX1_spreadInto 74 = .ok (.lcmp, 1) := by decide +kernel
theorem dX1_spreadInto_75 : decode cX1_spreadInto 75 = .ok (.ifCond .ne 5, 3) := by decide +kernel
theorem dX1_spreadInto_78 : decode cX1_spreadInto 78 = .ok (.iconst 0, 1) := by decide +kernel
theorem dX1_spreadInto_79 : decode cX1_spreadInto 79 = .ok (.ireturn, 1) := by decide +kernel
theorem dX1_spreadInto_80 : decode cX1_spreadInto 80 = .ok (.aload_n 0, 1) := by decide +kernel
theorem dX1_spreadInto_81 : decode cX1_spreadInto 81 = .ok (.getfield 18, 3) := by decide +kernel
theorem dX1_spreadInto_84 : decode cX1_spreadInto 84 = .ok (.iload_n 1, 1) := by decide +kernel
theorem dX1_spreadInto_85 : decode cX1_spreadInto 85 = .ok (.lload 9, 2) := by decide +kernel
theorem dX1_spreadInto_87 : decode cX1_spreadInto 87 = .ok (.invokevirtual 55, 3) := by decide +kernel
theorem dX1_spreadInto_90 : decode cX1_spreadInto 90 = .ok (.aload_n 0, 1) := by decide +kernel
theorem dX1_spreadInto_91 : decode cX1_spreadInto 91 = .ok (.aload_n 0, 1) := by decide +kernel
theorem dX1_spreadInto_92 : decode cX1_spreadInto 92 = .ok (.getfield 59, 3) := by decide +kernel
theorem dX1_spreadInto_95 : decode cX1_spreadInto 95 = .ok (.iload_n 1, 1) := by decide +kernel
theorem dX1_spreadInto_96 : decode cX1_spreadInto 96 = .ok (.invokestatic 89, 3) := by decide +kernel
theorem dX1_spreadInto_99 : decode cX1_spreadInto 99 = .ok (.putfield 59, 3) := by decide +kernel
theorem dX1_spreadInto_102 : decode cX1_spreadInto 102 = .ok (.aload_n 0, 1) := by decide +kernel
theorem dX1_spreadInto_103 : decode cX1_spreadInto 103 = .ok (.aload_n 0, 1) := by decide +kernel
theorem dX1_spreadInto_104 : decode cX1_spreadInto 104 = .ok (.getfield 63, 3) := by decide +kernel
theorem dX1_spreadInto_107 : decode cX1_spreadInto 107 = .ok (.iload_n 1, 1) := by decide +kernel
theorem dX1_spreadInto_108 : decode cX1_spreadInto 108 = .ok (.invokestatic 95, 3) := by decide +kernel
theorem dX1_spreadInto_111 : decode cX1_spreadInto 111 = .ok (.putfield 63, 3) := by decide +kernel
theorem dX1_spreadInto_114 : decode cX1_spreadInto 114 = .ok (.iconst 1, 1) := by decide +kernel
theorem dX1_spreadInto_115 : decode cX1_spreadInto 115 = .ok (.ireturn, 1) := by decide +kernel
theorem dX1_along_0 : decode cX1_along 0 = .ok (.lload_n 0, 1) := by decide +kernel
theorem dX1_along_1 : decode cX1_along 1 = .ok (.lstore 4, 2) := by decide +kernel
theorem dX1_along_3 : decode cX1_along 3 = .ok (.lload_n 2, 1) := by decide +kernel
theorem dX1_along_4 : decode cX1_along 4 = .ok (.lstore 6, 2) := by decide +kernel
theorem dX1_along_6 : decode cX1_along 6 = .ok (.lload_n 0, 1) := by decide +kernel
theorem dX1_along_7 : decode cX1_along 7 = .ok (.lstore 8, 2) := by decide +kernel
theorem dX1_along_9 : decode cX1_along 9 = .ok (.lload_n 2, 1) := by decide +kernel
theorem dX1_along_10 : decode cX1_along 10 = .ok (.lstore 10, 2) := by decide +kernel
theorem dX1_along_12 : decode cX1_along 12 = .ok (.iconst 1, 1) := by decide +kernel
theorem dX1_along_13 : decode cX1_along 13 = .ok (.istore 12, 2) := by decide +kernel
theorem dX1_along_15 : decode cX1_along 15 = .ok (.iload 12, 2) := by decide +kernel
theorem dX1_along_17 : decode cX1_along 17 = .ok (.bipush 64, 2) := by decide +kernel
theorem dX1_along_19 : decode cX1_along 19 = .ok (.if_icmp .ge 58, 3) := by decide +kernel
theorem dX1_along_22 : decode cX1_along 22 = .ok (.lload 4, 2) := by decide +kernel
theorem dX1_along_24 : decode cX1_along 24 = .ok (.lload 6, 2) := by decide +kernel
theorem dX1_along_26 : decode cX1_along 26 = .ok (.lload 4, 2) := by decide +kernel
theorem dX1_along_28 : decode cX1_along 28 = .ok (.iload 12, 2) := by decide +kernel
theorem dX1_along_30 : decode cX1_along 30 = .ok (.lshl, 1) := by decide +kernel
theorem dX1_along_31 : decode cX1_along 31 = .ok (.land, 1) := by decide +kernel
theorem dX1_along_32 : decode cX1_along 32 = .ok (.lor, 1) := by decide +kernel
theorem dX1_along_33 : decode cX1_along 33 = .ok (.lstore 4, 2) := by decide +kernel
theorem dX1_along_35 : decode cX1_along 35 = .ok (.lload 6, 2) := by decide +kernel
theorem dX1_along_37 : decode cX1_along 37 = .ok (.lload 6, 2) := by decide +kernel
theorem dX1_along_39 : decode cX1_along 39 = .ok (.iload 12, 2) := by decide +kernel
theorem dX1_along_41 : decode cX1_along 41 = .ok (.lshl, 1) := by decide +kernel
theorem dX1_along_42 : decode cX1_along 42 = .ok (.land, 1) := by decide +kernel
theorem dX1_along_43 : decode cX1_along 43 = .ok (.lstore 6, 2) := by decide +kernel
theorem dX1_along_45 : decode cX1_along 45 = .ok (.lload 8, 2) := by decide +kernel
theorem dX1_along_47 : decode cX1_along 47 = .ok (.lload 10, 2) := by decide +kernel
theorem dX1_along_49 : decode cX1_along 49 = .ok (.lload 8, 2) := by decide +kernel
theorem dX1_along_51 : decode cX1_along 51 = .ok (.iload 12, 2) := by decide +kernel
theorem dX1_along_53 : decode cX1_along 53 = .ok (.lushr, 1) := by decide +kernel
theorem dX1_along_54 : decode cX1_along 54 = .ok (.land, 1) := by decide +kernel
theorem dX1_along_55 : decode cX1_along 55 = .ok (.lor, 1) := by decide +kernel
theorem dX1_along_56 : decode cX1_along 56 = .ok (.lstore 8, 2) := by decide +kernel
theorem dX1_along_58 : decode cX1_along 58 = .ok (.lload 10, 2) := by decide +kernel
theorem dX1_along_60 : decode cX1_along 60 = .ok (.lload 10, 2) := by decide +kernel
theorem dX1_along_62 : decode cX1_along 62 = .ok (.iload 12, 2) := by decide +kernel
theorem dX1_along_64 : decode cX1_along 64 = .ok (.lushr, 1) := by decide +kernel
theorem dX1_along_65 : decode cX1_along 65 = .ok (.land, 1) := by decide +kernel
theorem dX1_along_66 : decode cX1_along 66 = .ok (.lstore 10, 2) := by decide +kernel
theorem dX1_along_68 : decode cX1_along 68 = .ok (.iload 12, 2) := by decide +kernel
theorem dX1_along_70 : decode cX1_along 70 = .ok (.iconst 2, 1) := by decide +kernel
theorem dX1_along_71 : decode cX1_along 71 = .ok (.imul, 1) := by decide +kernel
theorem dX1_along_72 : decode cX1_along 72 = .ok (.istore 12, 2) := by decide +kernel
theorem dX1_along_74 : decode cX1_along 74 = .ok (.goto (-59), 3) := by decide +kernel
theorem dX1_along_77 : decode cX1_along 77 = .ok (.lload 4, 2) := by decide +kernel
theorem dX1_along_79 : decode cX1_along 79 = .ok (.lload 8, 2) := by decide +kernel
theorem dX1_along_81 : decode cX1_along 81 = .ok (.lor, 1) := by decide +kernel
theorem dX1_along_82 : decode cX1_along 82 = .ok (.lreturn, 1) := by decide +kernel
theorem dX2_init_0 : decode cX2_init 0 = .ok (.aload_n 0, 1) := by decide +kernel
theorem dX2_init_1 : decode cX2_init 1 = .ok (.invokespecial 3, 3) := by decide +kernel
theorem dX2_init_4 : decode cX2_init 4 = .ok (.aload_n 0, 1) := by decide +kernel
theorem dX2_init_5 : decode cX2_init 5 = .ok (.bipush 12, 2) := by decide +kernel
theorem dX2_init_7 : decode cX2_init 7 = .ok (.anewarray 9, 3) := by decide +kernel
theorem dX2_init_10 : decode cX2_init 10 = .ok (.putfield 11, 3) := by decide +kernel
theorem dX2_init_13 : decode cX2_init 13 = .ok (.aload_n 0, 1) := by decide +kernel
theorem dX2_init_14 : decode cX2_init 14 = .ok (.bipush 12, 2) := by decide +kernel
theorem dX2_init_16 : decode cX2_init 16 = .ok (.newarray .int, 2) := by decide +kernel
theorem dX2_init_18 : decode cX2_init 18 = .ok (.putfield 17, 3) := by decide +kernel
theorem dX2_init_21 : decode cX2_init 21 = .ok (.iconst 0, 1) := by decide +kernel
theorem dX2_init_22 : decode cX2_init 22 = .ok (.istore_n 1, 1) := by decide +kernel
theorem dX2_init_23 : decode cX2_init 23 = .ok (.iload_n 1, 1) := by decide +kernel
theorem dX2_init_24 : decode cX2_init 24 = .ok (.aload_n 0, 1) := by decide +kernel
theorem dX2_init_25 : decode cX2_init 25 = .ok (.getfield 11, 3) := by decide +kernel
theorem dX2_init_28 : decode cX2_init 28 = .ok (.arraylength, 1) := by decide +kernel
theorem dX2_init_29 : decode cX2_init 29 = .ok (.if_icmp .ge 22, 3) := by decide +kernel
theorem dX2_init_32 : decode cX2_init 32 = .ok (.aload_n 0, 1) := by decide +kernel
theorem dX2_init_33 : decode cX2_init 33 = .ok (.getfield 11, 3) := by decide +kernel
theorem dX2_init_36 : decode cX2_init 36 = .ok (.iload_n 1, 1) := by decide +kernel
theorem dX2_init_37 : decode cX2_init 37 = .ok (.new 9, 3) := by decide +kernel
theorem dX2_init_40 : decode cX2_init 40 = .ok (.dup, 1) := by decide +kernel
theorem dX2_init_41 : decode cX2_init 41 = .ok (.invokespecial 21, 3) := by decide +kernel
theorem dX2_init_44 : decode cX2_init 44 = .ok (.aastore, 1) := by decide +kernel
theorem dX2_init_45 : decode cX2_init 45 = .ok (.iinc 1 1, 3) := by decide +kernel
theorem dX2_init_48 : decode cX2_init 48 = .ok (.goto (-25), 3) := by decide +kernel
theorem dX2_init_51 : decode cX2_init 51 = .ok (.return_, 1) := by decide +kernel
theorem dX2_count_0 : decode cX2_count 0 = .ok (.aload_n 0, 1) := by decide +kernel
theorem dX2_count_1 : decode cX2_count 1 = .ok (.getfield 22, 3) := by decide +kernel
theorem dX2_count_4 : decode cX2_count 4 = .ok (.ireturn, 1) := by decide +kernel
theorem dX2_keep_0 : decode cX2_keep 0 = .ok (.aload_n 0, 1) := by decide +kernel
theorem dX2_keep_1 : decode cX2_keep 1 = .ok (.aload_n 0, 1) := by decide +kernel
theorem dX2_keep_2 : decode cX2_keep 2 = .ok (.getfield 26, 3) := by decide +kernel
theorem dX2_keep_5 : decode cX2_keep 5 = .ok (.iconst 1, 1) := by decide +kernel
theorem dX2_keep_6 : decode cX2_keep 6 = .ok (.iadd, 1) := by decide +kernel
theorem dX2_keep_7 : decode cX2_keep 7 = .ok (.bipush 12, 2) := by decide +kernel
theorem dX2_keep_9 : decode cX2_keep 9 = .ok (.if_icmp .ge 12, 3) := by decide +kernel
theorem dX2_keep_12 : decode cX2_keep 12 = .ok (.aload_n 0, 1) := by decide +kernel
theorem dX2_keep_13 : decode cX2_keep 13 = .ok (.getfield 26, 3) := by decide +kernel
theorem dX2_keep_16 : decode cX2_keep 16 = .ok (.iconst 1, 1) := by decide +kernel
theorem dX2_keep_17 : decode cX2_keep 17 = .ok (.iadd, 1) := by decide +kernel
theorem dX2_keep_18 : decode cX2_keep 18 = .ok (.goto 4, 3) := by decide +kernel
theorem dX2_keep_21 : decode cX2_keep 21 = .ok (.iconst 0, 1) := by decide +kernel
theorem dX2_keep_22 : decode cX2_keep 22 = .ok (.putfield 26, 3) := by decide +kernel
theorem dX2_keep_25 : decode cX2_keep 25 = .ok (.aload_n 0, 1) := by decide +kernel
theorem dX2_keep_26 : decode cX2_keep 26 = .ok (.aload_n 0, 1) := by decide +kernel
theorem dX2_keep_27 : decode cX2_keep 27 = .ok (.getfield 22, 3) := by decide +kernel
theorem dX2_keep_30 : decode cX2_keep 30 = .ok (.iconst 1, 1) := by decide +kernel
theorem dX2_keep_31 : decode cX2_keep 31 = .ok (.iadd, 1) := by decide +kernel
theorem dX2_keep_32 : decode cX2_keep 32 = .ok (.bipush 12, 2) := by decide +kernel
theorem dX2_keep_34 : decode cX2_keep 34 = .ok (.invokestatic 29, 3) := by decide +kernel
theorem dX2_keep_37 : decode cX2_keep 37 = .ok (.putfield 22, 3) := by decide +kernel
theorem dX2_keep_40 : decode cX2_keep 40 = .ok (.aload_n 0, 1) := by decide +kernel
theorem dX2_keep_41 : decode cX2_keep 41 = .ok (.aload_n 0, 1) := by decide +kernel
theorem dX2_keep_42 : decode cX2_keep 42 = .ok (.getfield 26, 3) := by decide +kernel
theorem dX2_keep_45 : decode cX2_keep 45 = .ok (.invokevirtual 35, 3) := by decide +kernel
theorem dX2_keep_48 : decode cX2_keep 48 = .ok (.ifCond .eq 26, 3) := by decide +kernel
theorem dX2_keep_51 : decode cX2_keep 51 = .ok (.aload_n 0, 1) := by decide +kernel
theorem dX2_keep_52 : decode cX2_keep 52 = .ok (.getfield 11, 3) := by decide +kernel
theorem dX2_keep_55 : decode cX2_keep 55 = .ok (.aload_n 0, 1) := by decide +kernel
theorem dX2_keep_56 : decode cX2_keep 56 = .ok (.getfield 26, 3) := by decide +kernel
theorem dX2_keep_59 : decode cX2_keep 59 = .ok (.aaload, 1) := by decide +kernel
theorem dX2_keep_60 : decode cX2_keep 60 = .ok (.aload_n 2, 1) := by decide +kernel
theorem dX2_keep_61 : decode cX2_keep 61 = .ok (.invokevirtual 39, 3) := by decide +kernel
theorem dX2_keep_64 : decode cX2_keep 64 = .ok (.aload_n 0, 1) := by decide +kernel
theorem dX2_keep_65 : decode cX2_keep 65 = .ok (.getfield 17, 3) := by decide +kernel
theorem dX2_keep_68 : decode cX2_keep 68 = .ok (.aload_n 0, 1) := by decide +kernel
theorem dX2_keep_69 : decode cX2_keep 69 = .ok (.getfield 26, 3) := by decide +kernel
theorem dX2_keep_72 : decode cX2_keep 72 = .ok (.iload_n 1, 1) := by decide +kernel
theorem dX2_keep_73 : decode cX2_keep 73 = .ok (.iastore, 1) := by decide +kernel
theorem dX2_keep_74 : decode cX2_keep 74 = .ok (.return_, 1) := by decide +kernel
theorem dX2_latestRegion_0 : decode cX2_latestRegion 0 = .ok (.aload_n 0, 1) := by decide +kernel
theorem dX2_latestRegion_1 : decode cX2_latestRegion 1 = .ok (.getfield 22, 3) := by decide +kernel
theorem dX2_latestRegion_4 : decode cX2_latestRegion 4 = .ok (.ifCond .le 26, 3) := by decide +kernel
theorem dX2_latestRegion_7 : decode cX2_latestRegion 7 = .ok (.aload_n 0, 1) := by decide +kernel
theorem dX2_latestRegion_8 : decode cX2_latestRegion 8 = .ok (.aload_n 0, 1) := by decide +kernel
theorem dX2_latestRegion_9 : decode cX2_latestRegion 9 = .ok (.getfield 26, 3) := by decide +kernel
theorem dX2_latestRegion_12 : decode cX2_latestRegion 12 = .ok (.invokevirtual 35, 3) := by decide +kernel
theorem dX2_latestRegion_15 : decode cX2_latestRegion 15 = .ok (.ifCond .eq 15, 3) := by decide +kernel
theorem dX2_latestRegion_18 : decode cX2_latestRegion 18 = .ok (.aload_n 0, 1) := by decide +kernel
theorem dX2_latestRegion_19 : decode cX2_latestRegion 19 = .ok (.getfield 17, 3) := by decide +kernel
theorem dX2_latestRegion_22 : decode cX2_latestRegion 22 = .ok (.aload_n 0, 1) := by decide +kernel
theorem dX2_latestRegion_23 : decode cX2_latestRegion 23 = .ok (.getfield 26, 3) := by decide +kernel
theorem dX2_latestRegion_26 : decode cX2_latestRegion 26 = .ok (.iaload, 1) := by decide +kernel
theorem dX2_latestRegion_27 : decode cX2_latestRegion 27 = .ok (.goto 4, 3) := by decide +kernel
theorem dX2_latestRegion_30 : decode cX2_latestRegion 30 = .ok (.iconst (-1), 1) := by decide +kernel
theorem dX2_latestRegion_31 : decode cX2_latestRegion 31 = .ok (.ireturn, 1) := by decide +kernel
theorem dX2_takeBack_0 : decode cX2_takeBack 0 = .ok (.aload_n 0, 1) := by decide +kernel
theorem dX2_takeBack_1 : decode cX2_takeBack 1 = .ok (.getfield 22, 3) := by decide +kernel
theorem dX2_takeBack_4 : decode cX2_takeBack 4 = .ok (.ifCond .le 59, 3) := by decide +kernel
theorem dX2_takeBack_7 : decode cX2_takeBack 7 = .ok (.aload_n 0, 1) := by decide +kernel
theorem dX2_takeBack_8 : decode cX2_takeBack 8 = .ok (.aload_n 0, 1) := by decide +kernel
theorem dX2_takeBack_9 : decode cX2_takeBack 9 = .ok (.getfield 26, 3) := by decide +kernel
theorem dX2_takeBack_12 : decode cX2_takeBack 12 = .ok (.invokevirtual 35, 3) := by decide +kernel
theorem dX2_takeBack_15 : decode cX2_takeBack 15 = .ok (.ifCond .eq 48, 3) := by decide +kernel
theorem dX2_takeBack_18 : decode cX2_takeBack 18 = .ok (.aload_n 1, 1) := by decide +kernel
theorem dX2_takeBack_19 : decode cX2_takeBack 19 = .ok (.aload_n 0, 1) := by decide +kernel
theorem dX2_takeBack_20 : decode cX2_takeBack 20 = .ok (.getfield 11, 3) := by decide +kernel
theorem dX2_takeBack_23 : decode cX2_takeBack 23 = .ok (.aload_n 0, 1) := by decide +kernel
theorem dX2_takeBack_24 : decode cX2_takeBack 24 = .ok (.getfield 26, 3) := by decide +kernel
theorem dX2_takeBack_27 : decode cX2_takeBack 27 = .ok (.aaload, 1) := by decide +kernel
theorem dX2_takeBack_28 : decode cX2_takeBack 28 = .ok (.invokevirtual 39, 3) := by decide +kernel
theorem dX2_takeBack_31 : decode cX2_takeBack 31 = .ok (.aload_n 0, 1) := by decide +kernel
theorem dX2_takeBack_32 : decode cX2_takeBack 32 = .ok (.aload_n 0, 1) := by decide +kernel
theorem dX2_takeBack_33 : decode cX2_takeBack 33 = .ok (.getfield 26, 3) := by decide +kernel
theorem dX2_takeBack_36 : decode cX2_takeBack 36 = .ok (.ifCond .le 12, 3) := by decide +kernel
theorem dX2_takeBack_39 : decode cX2_takeBack 39 = .ok (.aload_n 0, 1) := by decide +kernel
theorem dX2_takeBack_40 : decode cX2_takeBack 40 = .ok (.getfield 26, 3) := by decide +kernel
theorem dX2_takeBack_43 : decode cX2_takeBack 43 = .ok (.iconst 1, 1) := by decide +kernel
theorem dX2_takeBack_44 : decode cX2_takeBack 44 = .ok (.isub, 1) := by decide +kernel
theorem dX2_takeBack_45 : decode cX2_takeBack 45 = .ok (.goto 5, 3) := by decide +kernel
theorem dX2_takeBack_48 : decode cX2_takeBack 48 = .ok (.bipush 11, 2) := by decide +kernel
theorem dX2_takeBack_50 : decode cX2_takeBack 50 = .ok (.putfield 26, 3) := by decide +kernel
theorem dX2_takeBack_53 : decode cX2_takeBack 53 = .ok (.aload_n 0, 1) := by decide +kernel
theorem dX2_takeBack_54 : decode cX2_takeBack 54 = .ok (.dup, 1) := by decide +kernel
theorem dX2_takeBack_55 : decode cX2_takeBack 55 = .ok (.getfield 22, 3) := by decide +kernel
theorem dX2_takeBack_58 : decode cX2_takeBack 58 = .ok (.iconst 1, 1) := by decide +kernel
theorem dX2_takeBack_59 : decode cX2_takeBack 59 = .ok (.isub, 1) := by decide +kernel
theorem dX2_takeBack_60 : decode cX2_takeBack 60 = .ok (.putfield 22, 3) := by decide +kernel
theorem dX2_takeBack_63 : decode cX2_takeBack 63 = .ok (.return_, 1) := by decide +kernel
theorem dX2_isAt_0 : decode cX2_isAt 0 = .ok (.iload_n 1, 1) := by decide +kernel
theorem dX2_isAt_1 : decode cX2_isAt 1 = .ok (.ifCond .lt 25, 3) := by decide +kernel
theorem dX2_isAt_4 : decode cX2_isAt 4 = .ok (.iload_n 1, 1) := by decide +kernel
theorem dX2_isAt_5 : decode cX2_isAt 5 = .ok (.aload_n 0, 1) := by decide +kernel
theorem dX2_isAt_6 : decode cX2_isAt 6 = .ok (.getfield 11, 3) := by decide +kernel
theorem dX2_isAt_9 : decode cX2_isAt 9 = .ok (.arraylength, 1) := by decide +kernel
theorem dX2_isAt_10 : decode cX2_isAt 10 = .ok (.if_icmp .ge 16, 3) := by decide +kernel
theorem dX2_isAt_13 : decode cX2_isAt 13 = .ok (.iload_n 1, 1) := by decide +kernel
theorem dX2_isAt_14 : decode cX2_isAt 14 = .ok (.aload_n 0, 1) := by decide +kernel
theorem dX2_isAt_15 : decode cX2_isAt 15 = .ok (.getfield 17, 3) := by decide +kernel
theorem dX2_isAt_18 : decode cX2_isAt 18 = .ok (.arraylength, 1) := by decide +kernel
theorem dX2_isAt_19 : decode cX2_isAt 19 = .ok (.if_icmp .ge 7, 3) := by decide +kernel
theorem dX2_isAt_22 : decode cX2_isAt 22 = .ok (.iconst 1, 1) := by decide +kernel
theorem dX2_isAt_23 : decode cX2_isAt 23 = .ok (.goto 4, 3) := by decide +kernel
theorem dX2_isAt_26 : decode cX2_isAt 26 = .ok (.iconst 0, 1) := by decide +kernel
theorem dX2_isAt_27 : decode cX2_isAt 27 = .ok (.ireturn, 1) := by decide +kernel
theorem dX3_init_0 : decode cX3_init 0 = .ok (.aload_n 0, 1) := by decide +kernel
theorem dX3_init_1 : decode cX3_init 1 = .ok (.invokespecial 3, 3) := by decide +kernel
theorem dX3_init_4 : decode cX3_init 4 = .ok (.aload_n 0, 1) := by decide +kernel
theorem dX3_init_5 : decode cX3_init 5 = .ok (.new 9, 3) := by decide +kernel
theorem dX3_init_8 : decode cX3_init 8 = .ok (.dup, 1) := by decide +kernel
theorem dX3_init_9 : decode cX3_init 9 = .ok (.invokespecial 11, 3) := by decide +kernel
theorem dX3_init_12 : decode cX3_init 12 = .ok (.putfield 12, 3) := by decide +kernel
theorem dX3_init_15 : decode cX3_init 15 = .ok (.aload_n 0, 1) := by decide +kernel
theorem dX3_init_16 : decode cX3_init 16 = .ok (.new 9, 3) := by decide +kernel
theorem dX3_init_19 : decode cX3_init 19 = .ok (.dup, 1) := by decide +kernel
theorem dX3_init_20 : decode cX3_init 20 = .ok (.invokespecial 11, 3) := by decide +kernel
theorem dX3_init_23 : decode cX3_init 23 = .ok (.putfield 18, 3) := by decide +kernel
theorem dX3_init_26 : decode cX3_init 26 = .ok (.aload_n 0, 1) := by decide +kernel
theorem dX3_init_27 : decode cX3_init 27 = .ok (.new 9, 3) := by decide +kernel
theorem dX3_init_30 : decode cX3_init 30 = .ok (.dup, 1) := by decide +kernel
theorem dX3_init_31 : decode cX3_init 31 = .ok (.invokespecial 11, 3) := by decide +kernel
theorem dX3_init_34 : decode cX3_init 34 = .ok (.putfield 21, 3) := by decide +kernel
theorem dX3_init_37 : decode cX3_init 37 = .ok (.return_, 1) := by decide +kernel
theorem dX3_cornerCount_0 : decode cX3_cornerCount 0 = .ok (.aload_n 0, 1) := by decide +kernel
theorem dX3_cornerCount_1 : decode cX3_cornerCount 1 = .ok (.getfield 24, 3) := by decide +kernel
theorem dX3_cornerCount_4 : decode cX3_cornerCount 4 = .ok (.ireturn, 1) := by decide +kernel
theorem dX3_areaAround_0 : decode cX3_areaAround 0 = .ok (.aload_n 0, 1) := by decide +kernel
theorem dX3_areaAround_1 : decode cX3_areaAround 1 = .ok (.getfield 28, 3) := by decide +kernel
theorem dX3_areaAround_4 : decode cX3_areaAround 4 = .ok (.ireturn, 1) := by decide +kernel
theorem dX3_wantedX_0 : decode cX3_wantedX 0 = .ok (.aload_n 0, 1) := by decide +kernel
theorem dX3_wantedX_1 : decode cX3_wantedX 1 = .ok (.getfield 31, 3) := by decide +kernel
theorem dX3_wantedX_4 : decode cX3_wantedX 4 = .ok (.ireturn, 1) := by decide +kernel
theorem dX3_wantedY_0 : decode cX3_wantedY 0 = .ok (.aload_n 0, 1) := by decide +kernel
theorem dX3_wantedY_1 : decode cX3_wantedY 1 = .ok (.getfield 34, 3) := by decide +kernel
theorem dX3_wantedY_4 : decode cX3_wantedY 4 = .ok (.ireturn, 1) := by decide +kernel
theorem dX3_countContours_0 : decode cX3_countContours 0 = .ok (.aload_n 0, 1) := by decide +kernel
theorem dX3_countContours_1 : decode cX3_countContours 1 = .ok (.aload_n 1, 1) := by decide +kernel
theorem dX3_countContours_2 : decode cX3_countContours 2 = .ok (.invokevirtual 37, 3) := by decide +kernel
theorem dX3_countContours_5 : decode cX3_countContours 5 = .ok (.iconst 0, 1) := by decide +kernel
theorem dX3_countContours_6 : decode cX3_countContours 6 = .ok (.istore_n 2, 1) := by decide +kernel
theorem dX3_countContours_7 : decode cX3_countContours 7 = .ok (.iload_n 2, 1) := by decide +kernel
theorem dX3_countContours_8 : decode cX3_countContours 8 = .ok (.sipush 16384, 3) := by decide +kernel
theorem dX3_countContours_11 : decode cX3_countContours 11 = .ok (.if_icmp .ge 17, 3) := by decide +kernel
theorem dX3_countContours_14 : decode cX3_countContours 14 = .ok (.aload_n 0, 1) := by decide +kernel
theorem dX3_countContours_15 : decode cX3_countContours 15 = .ok (.iconst 0, 1) := by decide +kernel
theorem dX3_countContours_16 : decode cX3_countContours 16 = .ok (.invokevirtual 41, 3) := by decide +kernel
theorem dX3_countContours_19 : decode cX3_countContours 19 = .ok (.ifCond .eq 9, 3) := by decide +kernel
theorem dX3_countContours_22 : decode cX3_countContours 22 = .ok (.iinc 2 1, 3) := by decide +kernel
theorem dX3_countContours_25 : decode cX3_countContours 25 = .ok (.goto (-18), 3) := by decide +kernel
theorem dX3_countContours_28 : decode cX3_countContours 28 = .ok (.iload_n 2, 1) := by decide +kernel
theorem dX3_countContours_29 : decode cX3_countContours 29 = .ok (.ireturn, 1) := by decide +kernel
theorem dX3_goTo_0 : decode cX3_goTo 0 = .ok (.aload_n 0, 1) := by decide +kernel
theorem dX3_goTo_1 : decode cX3_goTo 1 = .ok (.aload_n 1, 1) := by decide +kernel
theorem dX3_goTo_2 : decode cX3_goTo 2 = .ok (.invokevirtual 37, 3) := by decide +kernel
theorem dX3_goTo_5 : decode cX3_goTo 5 = .ok (.iload_n 2, 1) := by decide +kernel
theorem dX3_goTo_6 : decode cX3_goTo 6 = .ok (.ifCond .lt 7, 3) := by decide +kernel
theorem dX3_goTo_9 : decode cX3_goTo 9 = .ok (.iconst 1, 1) := by decide +kernel
theorem dX3_goTo_10 : decode cX3_goTo 10 = .ok (.goto 4, 3) := by decide +kernel
theorem dX3_goTo_13 : decode cX3_goTo 13 = .ok (.iconst 0, 1) := by decide +kernel
theorem dX3_goTo_14 : decode cX3_goTo 14 = .ok (.istore 4, 2) := by decide +kernel
theorem dX3_goTo_16 : decode cX3_goTo 16 = .ok (.iconst 0, 1) := by decide +kernel
theorem dX3_goTo_17 : decode cX3_goTo 17 = .ok (.istore 5, 2) := by decide +kernel
theorem dX3_goTo_19 : decode cX3_goTo 19 = .ok (.iload 5, 2) := by decide +kernel
theorem dX3_goTo_21 : decode cX3_goTo 21 = .ok (.iload_n 2, 1) := by decide +kernel
theorem dX3_goTo_22 : decode cX3_goTo 22 = .ok (.if_icmp .gt 29, 3) := by decide +kernel
theorem dX3_goTo_25 : decode cX3_goTo 25 = .ok (.iload 5, 2) := by decide +kernel
theorem dX3_goTo_27 : decode cX3_goTo 27 = .ok (.sipush 16384, 3) := by decide +kernel
theorem dX3_goTo_30 : decode cX3_goTo 30 = .ok (.if_icmp .ge 21, 3) := by decide +kernel
theorem dX3_goTo_33 : decode cX3_goTo 33 = .ok (.iload 4, 2) := by decide +kernel
theorem dX3_goTo_35 : decode cX3_goTo 35 = .ok (.ifCond .eq 16, 3) := by decide +kernel
theorem dX3_goTo_38 : decode cX3_goTo 38 = .ok (.aload_n 0, 1) := by decide +kernel
theorem dX3_goTo_39 : decode cX3_goTo 39 = .ok (.iload_n 3, 1) := by decide +kernel
theorem dX3_goTo_40 : decode cX3_goTo 40 = .ok (.invokevirtual 41, 3) := by decide +kernel
theorem dX3_goTo_43 : decode cX3_goTo 43 = .ok (.istore 4, 2) := by decide +kernel
theorem dX3_goTo_45 : decode cX3_goTo 45 = .ok (.iinc 5 1, 3) := by decide +kernel
theorem dX3_goTo_48 : decode cX3_goTo 48 = .ok (.goto (-29), 3) := by decide +kernel
theorem dX3_goTo_51 : decode cX3_goTo 51 = .ok (.iload 4, 2) := by decide +kernel
theorem dX3_goTo_53 : decode cX3_goTo 53 = .ok (.ifCond .eq 14, 3) := by decide +kernel
theorem dX3_goTo_56 : decode cX3_goTo 56 = .ok (.iload_n 2, 1) := by decide +kernel
theorem dX3_goTo_57 : decode cX3_goTo 57 = .ok (.sipush 16384, 3) := by decide +kernel
theorem dX3_goTo_60 : decode cX3_goTo 60 = .ok (.if_icmp .ge 7, 3) := by decide +kernel
theorem dX3_goTo_63 : decode cX3_goTo 63 = .ok (.iconst 1, 1) := by decide +kernel
theorem dX3_goTo_64 : decode cX3_goTo 64 = .ok (.goto 4, 3) := by decide +kernel
theorem dX3_goTo_67 : decode cX3_goTo 67 = .ok (.iconst 0, 1) := by decide +kernel
theorem dX3_goTo_68 : decode cX3_goTo 68 = .ok (.ireturn, 1) := by decide +kernel
theorem dX3_begin_0 : decode cX3_begin 0 = .ok (.aload_n 0, 1) := by decide +kernel
theorem dX3_begin_1 : decode cX3_begin 1 = .ok (.getfield 12, 3) := by decide +kernel
theorem dX3_begin_4 : decode cX3_begin 4 = .ok (.aload_n 1, 1) := by decide +kernel
theorem dX3_begin_5 : decode cX3_begin 5 = .ok (.invokevirtual 45, 3) := by decide +kernel
theorem dX3_begin_8 : decode cX3_begin 8 = .ok (.aload_n 0, 1) := by decide +kernel
theorem dX3_begin_9 : decode cX3_begin 9 = .ok (.getfield 18, 3) := by decide +kernel
theorem dX3_begin_12 : decode cX3_begin 12 = .ok (.invokevirtual 48, 3) := by decide +kernel
theorem dX3_begin_15 : decode cX3_begin 15 = .ok (.aload_n 0, 1) := by decide +kernel
theorem dX3_begin_16 : decode cX3_begin 16 = .ok (.getfield 21, 3) := by decide +kernel
theorem dX3_begin_19 : decode cX3_begin 19 = .ok (.invokevirtual 48, 3) := by decide +kernel
theorem dX3_begin_22 : decode cX3_begin 22 = .ok (.aload_n 0, 1) := by decide +kernel
theorem dX3_begin_23 : decode cX3_begin 23 = .ok (.bipush (-32), 2) := by decide +kernel
theorem dX3_begin_25 : decode cX3_begin 25 = .ok (.putfield 51, 3) := by decide +kernel
theorem dX3_begin_28 : decode cX3_begin 28 = .ok (.return_, 1) := by decide +kernel
theorem dX3_next_0 : decode cX3_next 0 = .ok (.aload_n 0, 1) := by decide +kernel
theorem dX3_next_1 : decode cX3_next 1 = .ok (.iload_n 1, 1) := by decide +kernel
theorem dX3_next_2 : decode cX3_next 2 = .ok (.putfield 54, 3) := by decide +kernel
theorem dX3_next_5 : decode cX3_next 5 = .ok (.aload_n 0, 1) := by decide +kernel
theorem dX3_next_6 : decode cX3_next 6 = .ok (.getfield 51, 3) := by decide +kernel
theorem dX3_next_9 : decode cX3_next 9 = .ok (.bipush 31, 2) := by decide +kernel
theorem dX3_next_11 : decode cX3_next 11 = .ok (.if_icmp .gt 122, 3) := by decide +kernel
theorem dX3_next_14 : decode cX3_next 14 = .ok (.aload_n 0, 1) := by decide +kernel
theorem dX3_next_15 : decode cX3_next 15 = .ok (.getfield 12, 3) := by decide +kernel
theorem dX3_next_18 : decode cX3_next 18 = .ok (.aload_n 0, 1) := by decide +kernel
theorem dX3_next_19 : decode cX3_next 19 = .ok (.getfield 51, 3) := by decide +kernel
theorem dX3_next_22 : decode cX3_next 22 = .ok (.invokevirtual 57, 3) := by decide +kernel
theorem dX3_next_25 : decode cX3_next 25 = .ok (.lstore_n 2, 1) := by decide +kernel
theorem dX3_next_26 : decode cX3_next 26 = .ok (.lload_n 2, 1) := by decide +kernel
theorem dX3_next_27 : decode cX3_next 27 = .ok (.aload_n 0, 1) := by decide +kernel
theorem dX3_next_28 : decode cX3_next 28 = .ok (.getfield 12, 3) := by decide +kernel
theorem dX3_next_31 : decode cX3_next 31 = .ok (.aload_n 0, 1) := by decide +kernel
theorem dX3_next_32 : decode cX3_next 32 = .ok (.getfield 51, 3) := by decide +kernel
theorem dX3_next_35 : decode cX3_next 35 = .ok (.iconst 1, 1) := by decide +kernel
theorem dX3_next_36 : decode cX3_next 36 = .ok (.isub, 1) := by decide +kernel
theorem dX3_next_37 : decode cX3_next 37 = .ok (.invokevirtual 57, 3) := by decide +kernel
theorem dX3_next_40 : decode cX3_next 40 = .ok (.ldc2_w 61, 3) := by decide +kernel
theorem dX3_next_43 : decode cX3_next 43 = .ok (.lxor, 1) := by decide +kernel
theorem dX3_next_44 : decode cX3_next 44 = .ok (.land, 1) := by decide +kernel
theorem dX3_next_45 : decode cX3_next 45 = .ok (.aload_n 0, 1) := by decide +kernel
theorem dX3_next_46 : decode cX3_next 46 = .ok (.getfield 18, 3) := by decide +kernel
theorem dX3_next_49 : decode cX3_next 49 = .ok (.aload_n 0, 1) := by decide +kernel
theorem dX3_next_50 : decode cX3_next 50 = .ok (.getfield 51, 3) := by decide +kernel
theorem dX3_next_53 : decode cX3_next 53 = .ok (.invokevirtual 57, 3) := by decide +kernel
theorem dX3_next_56 : decode cX3_next 56 = .ok (.ldc2_w 61, 3) := by decide +kernel
theorem dX3_next_59 : decode cX3_next 59 = .ok (.lxor, 1) := by decide +kernel
theorem dX3_next_60 : decode cX3_next 60 = .ok (.land, 1) := by decide +kernel
theorem dX3_next_61 : decode cX3_next 61 = .ok (.lstore 4, 2) := by decide +kernel
theorem dX3_next_63 : decode cX3_next 63 = .ok (.lload_n 2, 1) := by decide +kernel
theorem dX3_next_64 : decode cX3_next 64 = .ok (.lload_n 2, 1) := by decide +kernel
theorem dX3_next_65 : decode cX3_next 65 = .ok (.iconst 1, 1) := by decide +kernel
theorem dX3_next_66 : decode cX3_next 66 = .ok (.lushr, 1) := by decide +kernel
theorem dX3_next_67 : decode cX3_next 67 = .ok (.ldc2_w 61, 3) := by decide +kernel
theorem dX3_next_70 : decode cX3_next 70 = .ok (.lxor, 1) := by decide +kernel
theorem dX3_next_71 : decode cX3_next 71 = .ok (.land, 1) := by decide +kernel
theorem dX3_next_72 : decode cX3_next 72 = .ok (.aload_n 0, 1) := by decide +kernel
theorem dX3_next_73 : decode cX3_next 73 = .ok (.getfield 21, 3) := by decide +kernel
theorem dX3_next_76 : decode cX3_next 76 = .ok (.aload_n 0, 1) := by decide +kernel
theorem dX3_next_77 : decode cX3_next 77 = .ok (.getfield 51, 3) := by decide +kernel
theorem dX3_next_80 : decode cX3_next 80 = .ok (.invokevirtual 57, 3) := by decide +kernel
theorem dX3_next_83 : decode cX3_next 83 = .ok (.ldc2_w 61, 3) := by decide +kernel
theorem dX3_next_86 : decode cX3_next 86 = .ok (.lxor, 1) := by decide +kernel
theorem dX3_next_87 : decode cX3_next 87 = .ok (.land, 1) := by decide +kernel
theorem dX3_next_88 : decode cX3_next 88 = .ok (.lstore 6, 2) := by decide +kernel
theorem dX3_next_90 : decode cX3_next 90 = .ok (.lload 4, 2) := by decide +kernel
theorem dX3_next_92 : decode cX3_next 92 = .ok (.lload 6, 2) := by decide +kernel
theorem dX3_next_94 : decode cX3_next 94 = .ok (.lor, 1) := by decide +kernel
theorem dX3_next_95 : decode cX3_next 95 = .ok (.lconst 0, 1) := by decide +kernel
theorem dX3_next_96 : decode cX3_next 96 = .ok (.lcmp, 1) := by decide +kernel
theorem dX3_next_97 : decode cX3_next 97 = .ok (.ifCond .eq 23, 3) := by decide +kernel
theorem dX3_next_100 : decode cX3_next 100 = .ok (.aload_n 0, 1) := by decide +kernel
theorem dX3_next_101 : decode cX3_next 101 = .ok (.lload 4, 2) := by decide +kernel
theorem dX3_next_103 : decode cX3_next 103 = .ok (.invokestatic 63, 3) := by decide +kernel
theorem dX3_next_106 : decode cX3_next 106 = .ok (.lload 6, 2) := by decide +kernel
theorem dX3_next_108 : decode cX3_next 108 = .ok (.invokestatic 63, 3) := by decide +kernel
theorem dX3_next_111 : decode cX3_next 111 = .ok (.invokevirtual 67, 3) := by decide +kernel
theorem dX3_next_114 : decode cX3_next 114 = .ok (.aload_n 0, 1) := by decide +kernel
theorem dX3_next_115 : decode cX3_next 115 = .ok (.invokevirtual 71, 3) := by decide +kernel
theorem dX3_next_118 : decode cX3_next 118 = .ok (.iconst 1, 1) := by decide +kernel
theorem dX3_next_119 : decode cX3_next 119 = .ok (.ireturn, 1) := by decide +kernel
theorem dX3_next_120 : decode cX3_next 120 = .ok (.aload_n 0, 1) := by decide +kernel
theorem dX3_next_121 : decode cX3_next 121 = .ok (.dup, 1) := by decide +kernel
theorem dX3_next_122 : decode cX3_next 122 = .ok (.getfield 51, 3) := by decide +kernel
theorem dX3_next_125 : decode cX3_next 125 = .ok (.iconst 1, 1) := by decide +kernel
theorem dX3_next_126 : decode cX3_next 126 = .ok (.iadd, 1) := by decide +kernel
theorem dX3_next_127 : decode cX3_next 127 = .ok (.putfield 51, 3) := by decide +kernel
theorem dX3_next_130 : decode cX3_next 130 = .ok (.goto (-125), 3) := by decide +kernel
theorem dX3_next_133 : decode cX3_next 133 = .ok (.iconst 0, 1) := by decide +kernel
theorem dX3_next_134 : decode cX3_next 134 = .ok (.ireturn, 1) := by decide +kernel
theorem dX3_beginAt_0 : decode cX3_beginAt 0 = .ok (.aload_n 0, 1) := by decide +kernel
theorem dX3_beginAt_1 : decode cX3_beginAt 1 = .ok (.iload_n 1, 1) := by decide +kernel
theorem dX3_beginAt_2 : decode cX3_beginAt 2 = .ok (.iload_n 2, 1) := by decide +kernel
theorem dX3_beginAt_3 : decode cX3_beginAt 3 = .ok (.if_icmp .gt 7, 3) := by decide +kernel
theorem dX3_beginAt_6 : decode cX3_beginAt 6 = .ok (.iconst 0, 1) := by decide +kernel
theorem dX3_beginAt_7 : decode cX3_beginAt 7 = .ok (.goto 4, 3) := by decide +kernel
theorem dX3_beginAt_10 : decode cX3_beginAt 10 = .ok (.iconst 1, 1) := by decide +kernel
theorem dX3_beginAt_11 : decode cX3_beginAt 11 = .ok (.putfield 74, 3) := by decide +kernel
theorem dX3_beginAt_14 : decode cX3_beginAt 14 = .ok (.aload_n 0, 1) := by decide +kernel
theorem dX3_beginAt_15 : decode cX3_beginAt 15 = .ok (.bipush (-32), 2) := by decide +kernel
theorem dX3_beginAt_17 : decode cX3_beginAt 17 = .ok (.iload_n 1, 1) := by decide +kernel
theorem dX3_beginAt_18 : decode cX3_beginAt 18 = .ok (.iload_n 2, 1) := by decide +kernel
theorem dX3_beginAt_19 : decode cX3_beginAt 19 = .ok (.invokestatic 77, 3) := by decide +kernel
theorem dX3_beginAt_22 : decode cX3_beginAt 22 = .ok (.iadd, 1) := by decide +kernel
theorem dX3_beginAt_23 : decode cX3_beginAt 23 = .ok (.putfield 83, 3) := by decide +kernel
theorem dX3_beginAt_26 : decode cX3_beginAt 26 = .ok (.aload_n 0, 1) := by decide +kernel
theorem dX3_beginAt_27 : decode cX3_beginAt 27 = .ok (.aload_n 0, 1) := by decide +kernel
theorem dX3_beginAt_28 : decode cX3_beginAt 28 = .ok (.getfield 51, 3) := by decide +kernel
theorem dX3_beginAt_31 : decode cX3_beginAt 31 = .ok (.putfield 86, 3) := by decide +kernel
theorem dX3_beginAt_34 : decode cX3_beginAt 34 = .ok (.return_, 1) := by decide +kernel
theorem dX3_walk_0 : decode cX3_walk 0 = .ok (.aload_n 0, 1) := by decide +kernel
theorem dX3_walk_1 : decode cX3_walk 1 = .ok (.getfield 83, 3) := by decide +kernel
theorem dX3_walk_4 : decode cX3_walk 4 = .ok (.istore_n 1, 1) := by decide +kernel
theorem dX3_walk_5 : decode cX3_walk 5 = .ok (.aload_n 0, 1) := by decide +kernel
theorem dX3_walk_6 : decode cX3_walk 6 = .ok (.getfield 86, 3) := by decide +kernel
theorem dX3_walk_9 : decode cX3_walk 9 = .ok (.istore_n 2, 1) := by decide +kernel
theorem dX3_walk_10 : decode cX3_walk 10 = .ok (.aload_n 0, 1) := by decide +kernel
theorem dX3_walk_11 : decode cX3_walk 11 = .ok (.getfield 74, 3) := by decide +kernel
theorem dX3_walk_14 : decode cX3_walk 14 = .ok (.istore_n 3, 1) := by decide +kernel
theorem dX3_walk_15 : decode cX3_walk 15 = .ok (.aload_n 0, 1) := by decide +kernel
theorem dX3_walk_16 : decode cX3_walk 16 = .ok (.iconst 0, 1) := by decide +kernel
theorem dX3_walk_17 : decode cX3_walk 17 = .ok (.putfield 24, 3) := by decide +kernel
theorem dX3_walk_20 : decode cX3_walk 20 = .ok (.aload_n 0, 1) := by decide +kernel
theorem dX3_walk_21 : decode cX3_walk 21 = .ok (.iconst 0, 1) := by decide +kernel
theorem dX3_walk_22 : decode cX3_walk 22 = .ok (.putfield 28, 3) := by decide +kernel
theorem dX3_walk_25 : decode cX3_walk 25 = .ok (.aload_n 0, 1) := by decide +kernel
theorem dX3_walk_26 : decode cX3_walk 26 = .ok (.invokevirtual 89, 3) := by decide +kernel
theorem dX3_walk_29 : decode cX3_walk 29 = .ok (.iconst 0, 1) := by decide +kernel
theorem dX3_walk_30 : decode cX3_walk 30 = .ok (.istore 4, 2) := by decide +kernel
theorem dX3_walk_32 : decode cX3_walk 32 = .ok (.iload 4, 2) := by decide +kernel
theorem dX3_walk_34 : decode cX3_walk 34 = .ok (.sipush 16384, 3) := by decide +kernel
theorem dX3_walk_37 : decode cX3_walk 37 = .ok (.if_icmp .ge 61, 3) := by decide +kernel
theorem dX3_walk_40 : decode cX3_walk 40 = .ok (.aload_n 0, 1) := by decide +kernel
theorem dX3_walk_41 : decode cX3_walk 41 = .ok (.invokevirtual 92, 3) := by decide +kernel
theorem dX3_walk_44 : decode cX3_walk 44 = .ok (.aload_n 0, 1) := by decide +kernel
theorem dX3_walk_45 : decode cX3_walk 45 = .ok (.getfield 74, 3) := by decide +kernel
theorem dX3_walk_48 : decode cX3_walk 48 = .ok (.istore 5, 2) := by decide +kernel
theorem dX3_walk_50 : decode cX3_walk 50 = .ok (.aload_n 0, 1) := by decide +kernel
theorem dX3_walk_51 : decode cX3_walk 51 = .ok (.invokevirtual 95, 3) := by decide +kernel
theorem dX3_walk_54 : decode cX3_walk 54 = .ok (.aload_n 0, 1) := by decide +kernel
theorem dX3_walk_55 : decode cX3_walk 55 = .ok (.getfield 83, 3) := by decide +kernel
theorem dX3_walk_58 : decode cX3_walk 58 = .ok (.iload_n 1, 1) := by decide +kernel
theorem dX3_walk_59 : decode cX3_walk 59 = .ok (.if_icmp .ne 20, 3) := by decide +kernel
theorem dX3_walk_62 : decode cX3_walk 62 = .ok (.aload_n 0, 1) := by decide +kernel
theorem dX3_walk_63 : decode cX3_walk 63 = .ok (.getfield 86, 3) := by decide +kernel
theorem dX3_walk_66 : decode cX3_walk 66 = .ok (.iload_n 2, 1) := by decide +kernel
theorem dX3_walk_67 : decode cX3_walk 67 = .ok (.if_icmp .ne 12, 3) := by decide +kernel
theorem dX3_walk_70 : decode cX3_walk 70 = .ok (.aload_n 0, 1) := by decide +kernel
theorem dX3_walk_71 : decode cX3_walk 71 = .ok (.getfield 74, 3) := by decide +kernel
theorem dX3_walk_74 : decode cX3_walk 74 = .ok (.iload_n 3, 1) := by decide +kernel
theorem dX3_walk_75 : decode cX3_walk 75 = .ok (.if_icmp .ne 4, 3) := by decide +kernel
theorem dX3_walk_78 : decode cX3_walk 78 = .ok (.return_, 1) := by decide +kernel
theorem dX3_walk_79 : decode cX3_walk 79 = .ok (.aload_n 0, 1) := by decide +kernel
theorem dX3_walk_80 : decode cX3_walk 80 = .ok (.getfield 74, 3) := by decide +kernel
theorem dX3_walk_83 : decode cX3_walk 83 = .ok (.iload 5, 2) := by decide +kernel
theorem dX3_walk_85 : decode cX3_walk 85 = .ok (.if_icmp .eq 7, 3) := by decide +kernel
theorem dX3_walk_88 : decode cX3_walk 88 = .ok (.aload_n 0, 1) := by decide +kernel
theorem dX3_walk_89 : decode cX3_walk 89 = .ok (.invokevirtual 89, 3) := by decide +kernel
theorem dX3_walk_92 : decode cX3_walk 92 = .ok (.iinc 4 1, 3) := by decide +kernel
theorem dX3_walk_95 : decode cX3_walk 95 = .ok (.goto (-63), 3) := by decide +kernel
theorem dX3_walk_98 : decode cX3_walk 98 = .ok (.return_, 1) := by decide +kernel
theorem dX3_noteCorner_0 : decode cX3_noteCorner 0 = .ok (.aload_n 0, 1) := by decide +kernel
theorem dX3_noteCorner_1 : decode cX3_noteCorner 1 = .ok (.getfield 24, 3) := by decide +kernel
theorem dX3_noteCorner_4 : decode cX3_noteCorner 4 = .ok (.aload_n 0, 1) := by decide +kernel
theorem dX3_noteCorner_5 : decode cX3_noteCorner 5 = .ok (.getfield 54, 3) := by decide +kernel
theorem dX3_noteCorner_8 : decode cX3_noteCorner 8 = .ok (.if_icmp .ne 69, 3) := by decide +kernel
theorem dX3_noteCorner_11 : decode cX3_noteCorner 11 = .ok (.aload_n 0, 1) := by decide +kernel
theorem dX3_noteCorner_12 : decode cX3_noteCorner 12 = .ok (.aload_n 0, 1) := by decide +kernel
theorem dX3_noteCorner_13 : decode cX3_noteCorner 13 = .ok (.getfield 74, 3) := by decide +kernel
theorem dX3_noteCorner_16 : decode cX3_noteCorner 16 = .ok (.iconst 1, 1) := by decide +kernel
theorem dX3_noteCorner_17 : decode cX3_noteCorner 17 = .ok (.if_icmp .eq 11, 3) := by decide +kernel
theorem dX3_noteCorner_20 : decode cX3_noteCorner 20 = .ok (.aload_n 0, 1) := by decide +kernel
theorem dX3_noteCorner_21 : decode cX3_noteCorner 21 = .ok (.getfield 74, 3) := by decide +kernel
theorem dX3_noteCorner_24 : decode cX3_noteCorner 24 = .ok (.iconst 2, 1) := by decide +kernel
theorem dX3_noteCorner_25 : decode cX3_noteCorner 25 = .ok (.if_icmp .ne 12, 3) := by decide +kernel
theorem dX3_noteCorner_28 : decode cX3_noteCorner 28 = .ok (.aload_n 0, 1) := by decide +kernel
theorem dX3_noteCorner_29 : decode cX3_noteCorner 29 = .ok (.getfield 83, 3) := by decide +kernel
theorem dX3_noteCorner_32 : decode cX3_noteCorner 32 = .ok (.iconst 1, 1) := by decide +kernel
theorem dX3_noteCorner_33 : decode cX3_noteCorner 33 = .ok (.iadd, 1) := by decide +kernel
theorem dX3_noteCorner_34 : decode cX3_noteCorner 34 = .ok (.goto 7, 3) := by decide +kernel
theorem dX3_noteCorner_37 : decode cX3_noteCorner 37 = .ok (.aload_n 0, 1) := by decide +kernel
theorem dX3_noteCorner_38 : decode cX3_noteCorner 38 = .ok (.getfield 83, 3) := by decide +kernel
theorem dX3_noteCorner_41 : decode cX3_noteCorner 41 = .ok (.putfield 31, 3) := by decide +kernel
theorem dX3_noteCorner_44 : decode cX3_noteCorner 44 = .ok (.aload_n 0, 1) := by decide +kernel
theorem dX3_noteCorner_45 : decode cX3_noteCorner 45 = .ok (.aload_n 0, 1) := by decide +kernel
theorem dX3_noteCorner_46 : decode cX3_noteCorner 46 = .ok (.getfield 74, 3) := by decide +kernel
theorem dX3_noteCorner_49 : decode cX3_noteCorner 49 = .ok (.iconst 2, 1) := by decide +kernel
theorem dX3_noteCorner_50 : decode cX3_noteCorner 50 = .ok (.if_icmp .eq 11, 3) := by decide +kernel
theorem dX3_noteCorner_53 : decode cX3_noteCorner 53 = .ok (.aload_n 0, 1) := by decide +kernel
theorem dX3_noteCorner_54 : decode cX3_noteCorner 54 = .ok (.getfield 74, 3) := by decide +kernel
theorem dX3_noteCorner_57 : decode cX3_noteCorner 57 = .ok (.iconst 3, 1) := by decide +kernel
theorem dX3_noteCorner_58 : decode cX3_noteCorner 58 = .ok (.if_icmp .ne 12, 3) := by decide +kernel
theorem dX3_noteCorner_61 : decode cX3_noteCorner 61 = .ok (.aload_n 0, 1) := by decide +kernel
theorem dX3_noteCorner_62 : decode cX3_noteCorner 62 = .ok (.getfield 86, 3) := by decide +kernel
theorem dX3_noteCorner_65 : decode cX3_noteCorner 65 = .ok (.iconst 1, 1) := by decide +kernel
theorem dX3_noteCorner_66 : decode cX3_noteCorner 66 = .ok (.iadd, 1) := by decide +kernel
theorem dX3_noteCorner_67 : decode cX3_noteCorner 67 = .ok (.goto 7, 3) := by decide +kernel
theorem dX3_noteCorner_70 : decode cX3_noteCorner 70 = .ok (.aload_n 0, 1) := by decide +kernel
theorem dX3_noteCorner_71 : decode cX3_noteCorner 71 = .ok (.getfield 86, 3) := by decide +kernel
theorem dX3_noteCorner_74 : decode cX3_noteCorner 74 = .ok (.putfield 34, 3) := by decide +kernel
theorem dX3_noteCorner_77 : decode cX3_noteCorner 77 = .ok (.aload_n 0, 1) := by decide +kernel
theorem dX3_noteCorner_78 : decode cX3_noteCorner 78 = .ok (.dup, 1) := by decide +kernel
theorem dX3_noteCorner_79 : decode cX3_noteCorner 79 = .ok (.getfield 24, 3) := by decide +kernel
theorem dX3_noteCorner_82 : decode cX3_noteCorner 82 = .ok (.iconst 1, 1) := by decide +kernel
theorem dX3_noteCorner_83 : decode cX3_noteCorner 83 = .ok (.iadd, 1) := by decide +kernel
theorem dX3_noteCorner_84 : decode cX3_noteCorner 84 = .ok (.putfield 24, 3) := by decide +kernel
theorem dX3_noteCorner_87 : decode cX3_noteCorner 87 = .ok (.return_, 1) := by decide +kernel
theorem dX3_noteEdge_0 : decode cX3_noteEdge 0 = .ok (.aload_n 0, 1) := by decide +kernel
theorem dX3_noteEdge_1 : decode cX3_noteEdge 1 = .ok (.getfield 74, 3) := by decide +kernel
theorem dX3_noteEdge_4 : decode cX3_noteEdge 4 = .ok (.tableswitch 99 0 3 #[32, 50, 99, 83], 32) := by decide +kernel
theorem dX3_noteEdge_36 : decode cX3_noteEdge 36 = .ok (.aload_n 0, 1) := by decide +kernel
theorem dX3_noteEdge_37 : decode cX3_noteEdge 37 = .ok (.getfield 18, 3) := by decide +kernel
theorem dX3_noteEdge_40 : decode cX3_noteEdge 40 = .ok (.aload_n 0, 1) := by decide +kernel
theorem dX3_noteEdge_41 : decode cX3_noteEdge 41 = .ok (.getfield 83, 3) := by decide +kernel
theorem dX3_noteEdge_44 : decode cX3_noteEdge 44 = .ok (.aload_n 0, 1) := by decide +kernel
theorem dX3_noteEdge_45 : decode cX3_noteEdge 45 = .ok (.getfield 86, 3) := by decide +kernel
theorem dX3_noteEdge_48 : decode cX3_noteEdge 48 = .ok (.invokevirtual 98, 3) := by decide +kernel
theorem dX3_noteEdge_51 : decode cX3_noteEdge 51 = .ok (.goto 52, 3) := by decide +kernel
theorem dX3_noteEdge_54 : decode cX3_noteEdge 54 = .ok (.aload_n 0, 1) := by decide +kernel
theorem dX3_noteEdge_55 : decode cX3_noteEdge 55 = .ok (.getfield 21, 3) := by decide +kernel
theorem dX3_noteEdge_58 : decode cX3_noteEdge 58 = .ok (.aload_n 0, 1) := by decide +kernel
theorem dX3_noteEdge_59 : decode cX3_noteEdge 59 = .ok (.getfield 83, 3) := by decide +kernel
theorem dX3_noteEdge_62 : decode cX3_noteEdge 62 = .ok (.aload_n 0, 1) := by decide +kernel
theorem dX3_noteEdge_63 : decode cX3_noteEdge 63 = .ok (.getfield 86, 3) := by decide +kernel
theorem dX3_noteEdge_66 : decode cX3_noteEdge 66 = .ok (.invokevirtual 98, 3) := by decide +kernel
theorem dX3_noteEdge_69 : decode cX3_noteEdge 69 = .ok (.aload_n 0, 1) := by decide +kernel
theorem dX3_noteEdge_70 : decode cX3_noteEdge 70 = .ok (.dup, 1) := by decide +kernel
theorem dX3_noteEdge_71 : decode cX3_noteEdge 71 = .ok (.getfield 28, 3) := by decide +kernel
theorem dX3_noteEdge_74 : decode cX3_noteEdge 74 = .ok (.aload_n 0, 1) := by decide +kernel
theorem dX3_noteEdge_75 : decode cX3_noteEdge 75 = .ok (.getfield 83, 3) := by decide +kernel
theorem dX3_noteEdge_78 : decode cX3_noteEdge 78 = .ok (.iconst 1, 1) := by decide +kernel
theorem dX3_noteEdge_79 : decode cX3_noteEdge 79 = .ok (.iadd, 1) := by decide +kernel
theorem dX3_noteEdge_80 : decode cX3_noteEdge 80 = .ok (.iadd, 1) := by decide +kernel
theorem dX3_noteEdge_81 : decode cX3_noteEdge 81 = .ok (.putfield 28, 3) := by decide +kernel
theorem dX3_noteEdge_84 : decode cX3_noteEdge 84 = .ok (.goto 19, 3) := by decide +kernel
theorem dX3_noteEdge_87 : decode cX3_noteEdge 87 = .ok (.aload_n 0, 1) := by decide +kernel
theorem dX3_noteEdge_88 : decode cX3_noteEdge 88 = .ok (.dup, 1) := by decide +kernel
theorem dX3_noteEdge_89 : decode cX3_noteEdge 89 = .ok (.getfield 28, 3) := by decide +kernel
theorem dX3_noteEdge_92 : decode cX3_noteEdge 92 = .ok (.aload_n 0, 1) := by decide +kernel
theorem dX3_noteEdge_93 : decode cX3_noteEdge 93 = .ok (.getfield 83, 3) := by decide +kernel
theorem dX3_noteEdge_96 : decode cX3_noteEdge 96 = .ok (.isub, 1) := by decide +kernel
theorem dX3_noteEdge_97 : decode cX3_noteEdge 97 = .ok (.putfield 28, 3) := by decide +kernel
theorem dX3_noteEdge_100 : decode cX3_noteEdge 100 = .ok (.goto 3, 3) := by decide +kernel
theorem dX3_noteEdge_103 : decode cX3_noteEdge 103 = .ok (.return_, 1) := by decide +kernel
theorem dX3_goOn_0 : decode cX3_goOn 0 = .ok (.aload_n 0, 1) := by decide +kernel
theorem dX3_goOn_1 : decode cX3_goOn 1 = .ok (.getfield 74, 3) := by decide +kernel
theorem dX3_goOn_4 : decode cX3_goOn 4 = .ok (.ifCond .ne 7, 3) := by decide +kernel
theorem dX3_goOn_7 : decode cX3_goOn 7 = .ok (.iconst 1, 1) := by decide +kernel
theorem dX3_goOn_8 : decode cX3_goOn 8 = .ok (.goto 16, 3) := by decide +kernel
theorem dX3_goOn_11 : decode cX3_goOn 11 = .ok (.aload_n 0, 1) := by decide +kernel
theorem dX3_goOn_12 : decode cX3_goOn 12 = .ok (.getfield 74, 3) := by decide +kernel
theorem dX3_goOn_15 : decode cX3_goOn 15 = .ok (.iconst 2, 1) := by decide +kernel
theorem dX3_goOn_16 : decode cX3_goOn 16 = .ok (.if_icmp .ne 7, 3) := by decide +kernel
theorem dX3_goOn_19 : decode cX3_goOn 19 = .ok (.iconst (-1), 1) := by decide +kernel
theorem dX3_goOn_20 : decode cX3_goOn 20 = .ok (.goto 4, 3) := by decide +kernel
theorem dX3_goOn_23 : decode cX3_goOn 23 = .ok (.iconst 0, 1) := by decide +kernel
theorem dX3_goOn_24 : decode cX3_goOn 24 = .ok (.istore_n 1, 1) := by decide +kernel
theorem dX3_goOn_25 : decode cX3_goOn 25 = .ok (.aload_n 0, 1) := by decide +kernel
theorem dX3_goOn_26 : decode cX3_goOn 26 = .ok (.getfield 74, 3) := by decide +kernel
theorem dX3_goOn_29 : decode cX3_goOn 29 = .ok (.iconst 1, 1) := by decide +kernel
theorem dX3_goOn_30 : decode cX3_goOn 30 = .ok (.if_icmp .ne 7, 3) := by decide +kernel
theorem dX3_goOn_33 : decode cX3_goOn 33 = .ok (.iconst 1, 1) := by decide +kernel
theorem dX3_goOn_34 : decode cX3_goOn 34 = .ok (.goto 16, 3) := by decide +kernel
theorem dX3_goOn_37 : decode cX3_goOn 37 = .ok (.aload_n 0, 1) := by decide +kernel
theorem dX3_goOn_38 : decode cX3_goOn 38 = .ok (.getfield 74, 3) := by decide +kernel
theorem dX3_goOn_41 : decode cX3_goOn 41 = .ok (.iconst 3, 1) := by decide +kernel
theorem dX3_goOn_42 : decode cX3_goOn 42 = .ok (.if_icmp .ne 7, 3) := by decide +kernel
theorem dX3_goOn_45 : decode cX3_goOn 45 = .ok (.iconst (-1), 1) := by decide +kernel
theorem dX3_goOn_46 : decode cX3_goOn 46 = .ok (.goto 4, 3) := by decide +kernel
theorem dX3_goOn_49 : decode cX3_goOn 49 = .ok (.iconst 0, 1) := by decide +kernel
theorem dX3_goOn_50 : decode cX3_goOn 50 = .ok (.istore_n 2, 1) := by decide +kernel
theorem dX3_goOn_51 : decode cX3_goOn 51 = .ok (.aload_n 0, 1) := by decide +kernel
theorem dX3_goOn_52 : decode cX3_goOn 52 = .ok (.getfield 12, 3) := by decide +kernel
theorem dX3_goOn_55 : decode cX3_goOn 55 = .ok (.aload_n 0, 1) := by decide +kernel
theorem dX3_goOn_56 : decode cX3_goOn 56 = .ok (.getfield 83, 3) := by decide +kernel
theorem dX3_goOn_59 : decode cX3_goOn 59 = .ok (.iload_n 1, 1) := by decide +kernel
theorem dX3_goOn_60 : decode cX3_goOn 60 = .ok (.iadd, 1) := by decide +kernel
theorem dX3_goOn_61 : decode cX3_goOn 61 = .ok (.aload_n 0, 1) := by decide +kernel
theorem dX3_goOn_62 : decode cX3_goOn 62 = .ok (.getfield 86, 3) := by decide +kernel
theorem dX3_goOn_65 : decode cX3_goOn 65 = .ok (.iload_n 2, 1) := by decide +kernel
theorem dX3_goOn_66 : decode cX3_goOn 66 = .ok (.iadd, 1) := by decide +kernel
theorem dX3_goOn_67 : decode cX3_goOn 67 = .ok (.invokevirtual 101, 3) := by decide +kernel
theorem dX3_goOn_70 : decode cX3_goOn 70 = .ok (.ifCond .ne 16, 3) := by decide +kernel
theorem dX3_goOn_73 : decode cX3_goOn 73 = .ok (.aload_n 0, 1) := by decide +kernel
theorem dX3_goOn_74 : decode cX3_goOn 74 = .ok (.aload_n 0, 1) := by decide +kernel
theorem dX3_goOn_75 : decode cX3_goOn 75 = .ok (.getfield 74, 3) := by decide +kernel
theorem dX3_goOn_78 : decode cX3_goOn 78 = .ok (.iconst 1, 1) := by decide +kernel
theorem dX3_goOn_79 : decode cX3_goOn 79 = .ok (.iadd, 1) := by decide +kernel
theorem dX3_goOn_80 : decode cX3_goOn 80 = .ok (.iconst 3, 1) := by decide +kernel
theorem dX3_goOn_81 : decode cX3_goOn 81 = .ok (.iand, 1) := by decide +kernel
theorem dX3_goOn_82 : decode cX3_goOn 82 = .ok (.putfield 74, 3) := by decide +kernel
theorem dX3_goOn_85 : decode cX3_goOn 85 = .ok (.return_, 1) := by decide +kernel
theorem dX3_goOn_86 : decode cX3_goOn 86 = .ok (.aload_n 0, 1) := by decide +kernel
theorem dX3_goOn_87 : decode cX3_goOn 87 = .ok (.dup, 1) := by decide +kernel
theorem dX3_goOn_88 : decode cX3_goOn 88 = .ok (.getfield 83, 3) := by decide +kernel
theorem dX3_goOn_91 : decode cX3_goOn 91 = .ok (.iload_n 1, 1) := by decide +kernel
theorem dX3_goOn_92 : decode cX3_goOn 92 = .ok (.iadd, 1) := by decide +kernel
theorem dX3_goOn_93 : decode cX3_goOn 93 = .ok (.putfield 83, 3) := by decide +kernel
theorem dX3_goOn_96 : decode cX3_goOn 96 = .ok (.aload_n 0, 1) := by decide +kernel
theorem dX3_goOn_97 : decode cX3_goOn 97 = .ok (.dup, 1) := by decide +kernel
theorem dX3_goOn_98 : decode cX3_goOn 98 = .ok (.getfield 86, 3) := by decide +kernel
theorem dX3_goOn_101 : decode cX3_goOn 101 = .ok (.iload_n 2, 1) := by decide +kernel
theorem dX3_goOn_102 : decode cX3_goOn 102 = .ok (.iadd, 1) := by decide +kernel
theorem dX3_goOn_103 : decode cX3_goOn 103 = .ok (.putfield 86, 3) := by decide +kernel
theorem dX3_goOn_106 : decode cX3_goOn 106 = .ok (.aload_n 0, 1) := by decide +kernel
theorem dX3_goOn_107 : decode cX3_goOn 107 = .ok (.getfield 12, 3) := by decide +kernel
theorem dX3_goOn_110 : decode cX3_goOn 110 = .ok (.aload_n 0, 1) := by decide +kernel
theorem dX3_goOn_111 : decode cX3_goOn 111 = .ok (.getfield 83, 3) := by decide +kernel
theorem dX3_goOn_114 : decode cX3_goOn 114 = .ok (.iload_n 2, 1) := by decide +kernel
theorem dX3_goOn_115 : decode cX3_goOn 115 = .ok (.iadd, 1) := by decide +kernel
theorem dX3_goOn_116 : decode cX3_goOn 116 = .ok (.aload_n 0, 1) := by decide +kernel
theorem dX3_goOn_117 : decode cX3_goOn 117 = .ok (.getfield 86, 3) := by decide +kernel
theorem dX3_goOn_120 : decode cX3_goOn 120 = .ok (.iload_n 1, 1) := by decide +kernel
theorem dX3_goOn_121 : decode cX3_goOn 121 = .ok (.isub, 1) := by decide +kernel
theorem dX3_goOn_122 : decode cX3_goOn 122 = .ok (.invokevirtual 101, 3) := by decide +kernel
theorem dX3_goOn_125 : decode cX3_goOn 125 = .ok (.ifCond .eq 35, 3) := by decide +kernel
theorem dX3_goOn_128 : decode cX3_goOn 128 = .ok (.aload_n 0, 1) := by decide +kernel
theorem dX3_goOn_129 : decode cX3_goOn 129 = .ok (.dup, 1) := by decide +kernel
theorem dX3_goOn_130 : decode cX3_goOn 130 = .ok (.getfield 83, 3) := by decide +kernel
theorem dX3_goOn_133 : decode cX3_goOn 133 = .ok (.iload_n 2, 1) := by decide +kernel
theorem dX3_goOn_134 : decode cX3_goOn 134 = .ok (.iadd, 1) := by decide +kernel
theorem dX3_goOn_135 : decode cX3_goOn 135 = .ok (.putfield 83, 3) := by decide +kernel
theorem dX3_goOn_138 : decode cX3_goOn 138 = .ok (.aload_n 0, 1) := by decide +kernel
theorem dX3_goOn_139 : decode cX3_goOn 139 = .ok (.dup, 1) := by decide +kernel
theorem dX3_goOn_140 : decode cX3_goOn 140 = .ok (.getfield 86, 3) := by decide +kernel
theorem dX3_goOn_143 : decode cX3_goOn 143 = .ok (.iload_n 1, 1) := by decide +kernel
theorem dX3_goOn_144 : decode cX3_goOn 144 = .ok (.isub, 1) := by decide +kernel
theorem dX3_goOn_145 : decode cX3_goOn 145 = .ok (.putfield 86, 3) := by decide +kernel
theorem dX3_goOn_148 : decode cX3_goOn 148 = .ok (.aload_n 0, 1) := by decide +kernel
theorem dX3_goOn_149 : decode cX3_goOn 149 = .ok (.aload_n 0, 1) := by decide +kernel
theorem dX3_goOn_150 : decode cX3_goOn 150 = .ok (.getfield 74, 3) := by decide +kernel
theorem dX3_goOn_153 : decode cX3_goOn 153 = .ok (.iconst 3, 1) := by decide +kernel
theorem dX3_goOn_154 : decode cX3_goOn 154 = .ok (.iadd, 1) := by decide +kernel
theorem dX3_goOn_155 : decode cX3_goOn 155 = .ok (.iconst 3, 1) := by decide +kernel
theorem dX3_goOn_156 : decode cX3_goOn 156 = .ok (.iand, 1) := by decide +kernel
theorem dX3_goOn_157 : decode cX3_goOn 157 = .ok (.putfield 74, 3) := by decide +kernel
theorem dX3_goOn_160 : decode cX3_goOn 160 = .ok (.return_, 1) := by decide +kernel
theorem dX4_init_0 : decode cX4_init 0 = .ok (.aload_n 0, 1) := by decide +kernel
theorem dX4_init_1 : decode cX4_init 1 = .ok (.invokespecial 3, 3) := by decide +kernel
theorem dX4_init_4 : decode cX4_init 4 = .ok (.aload_n 0, 1) := by decide +kernel
theorem dX4_init_5 : decode cX4_init 5 = .ok (.bipush 60, 2) := by decide +kernel
theorem dX4_init_7 : decode cX4_init 7 = .ok (.newarray .int, 2) := by decide +kernel
theorem dX4_init_9 : decode cX4_init 9 = .ok (.putfield 9, 3) := by decide +kernel
theorem dX4_init_12 : decode cX4_init 12 = .ok (.aload_n 0, 1) := by decide +kernel
theorem dX4_init_13 : decode cX4_init 13 = .ok (.bipush 60, 2) := by decide +kernel
theorem dX4_init_15 : decode cX4_init 15 = .ok (.newarray .int, 2) := by decide +kernel
theorem dX4_init_17 : decode cX4_init 17 = .ok (.putfield 15, 3) := by decide +kernel
theorem dX4_init_20 : decode cX4_init 20 = .ok (.aload_n 0, 1) := by decide +kernel
theorem dX4_init_21 : decode cX4_init 21 = .ok (.iconst 1, 1) := by decide +kernel
theorem dX4_init_22 : decode cX4_init 22 = .ok (.putfield 18, 3) := by decide +kernel
theorem dX4_init_25 : decode cX4_init 25 = .ok (.aload_n 0, 1) := by decide +kernel
theorem dX4_init_26 : decode cX4_init 26 = .ok (.bipush 64, 2) := by decide +kernel
theorem dX4_init_28 : decode cX4_init 28 = .ok (.newarray .int, 2) := by decide +kernel
theorem dX4_init_30 : decode cX4_init 30 = .ok (.putfield 22, 3) := by decide +kernel
theorem dX4_init_33 : decode cX4_init 33 = .ok (.return_, 1) := by decide +kernel
theorem dX4_length_0 : decode cX4_length 0 = .ok (.aload_n 0, 1) := by decide +kernel
theorem dX4_length_1 : decode cX4_length 1 = .ok (.getfield 18, 3) := by decide +kernel
theorem dX4_length_4 : decode cX4_length 4 = .ok (.ireturn, 1) := by decide +kernel
theorem dX4_atX_0 : decode cX4_atX 0 = .ok (.aload_n 0, 1) := by decide +kernel
theorem dX4_atX_1 : decode cX4_atX 1 = .ok (.getfield 25, 3) := by decide +kernel
theorem dX4_atX_4 : decode cX4_atX 4 = .ok (.ireturn, 1) := by decide +kernel
theorem dX4_atY_0 : decode cX4_atY 0 = .ok (.aload_n 0, 1) := by decide +kernel
theorem dX4_atY_1 : decode cX4_atY 1 = .ok (.getfield 28, 3) := by decide +kernel
theorem dX4_atY_4 : decode cX4_atY 4 = .ok (.ireturn, 1) := by decide +kernel
theorem dX4_isFull_0 : decode cX4_isFull 0 = .ok (.aload_n 0, 1) := by decide +kernel
theorem dX4_isFull_1 : decode cX4_isFull 1 = .ok (.getfield 18, 3) := by decide +kernel
theorem dX4_isFull_4 : decode cX4_isFull 4 = .ok (.bipush 60, 2) := by decide +kernel
theorem dX4_isFull_6 : decode cX4_isFull 6 = .ok (.if_icmp .lt 7, 3) := by decide +kernel
theorem dX4_isFull_9 : decode cX4_isFull 9 = .ok (.iconst 1, 1) := by decide +kernel
theorem dX4_isFull_10 : decode cX4_isFull 10 = .ok (.goto 4, 3) := by decide +kernel
theorem dX4_isFull_13 : decode cX4_isFull 13 = .ok (.iconst 0, 1) := by decide +kernel
theorem dX4_isFull_14 : decode cX4_isFull 14 = .ok (.ireturn, 1) := by decide +kernel
theorem dX4_begin_0 : decode cX4_begin 0 = .ok (.aload_n 0, 1) := by decide +kernel
theorem dX4_begin_1 : decode cX4_begin 1 = .ok (.iconst 0, 1) := by decide +kernel
theorem dX4_begin_2 : decode cX4_begin 2 = .ok (.putfield 18, 3) := by decide +kernel
theorem dX4_begin_5 : decode cX4_begin 5 = .ok (.aload_n 0, 1) := by decide +kernel
theorem dX4_begin_6 : decode cX4_begin 6 = .ok (.iload_n 1, 1) := by decide +kernel
theorem dX4_begin_7 : decode cX4_begin 7 = .ok (.putfield 31, 3) := by decide +kernel
theorem dX4_begin_10 : decode cX4_begin 10 = .ok (.aload_n 0, 1) := by decide +kernel
theorem dX4_begin_11 : decode cX4_begin 11 = .ok (.iload_n 2, 1) := by decide +kernel
theorem dX4_begin_12 : decode cX4_begin 12 = .ok (.putfield 34, 3) := by decide +kernel
theorem dX4_begin_15 : decode cX4_begin 15 = .ok (.aload_n 0, 1) := by decide +kernel
theorem dX4_begin_16 : decode cX4_begin 16 = .ok (.iload_n 1, 1) := by decide +kernel
theorem dX4_begin_17 : decode cX4_begin 17 = .ok (.iload_n 2, 1) := by decide +kernel
theorem dX4_begin_18 : decode cX4_begin 18 = .ok (.invokevirtual 37, 3) := by decide +kernel
theorem dX4_begin_21 : decode cX4_begin 21 = .ok (.return_, 1) := by decide +kernel
theorem dX4_beginAnew_0 : decode cX4_beginAnew 0 = .ok (.aload_n 0, 1) := by decide +kernel
theorem dX4_beginAnew_1 : decode cX4_beginAnew 1 = .ok (.aload_n 0, 1) := by decide +kernel
theorem dX4_beginAnew_2 : decode cX4_beginAnew 2 = .ok (.getfield 31, 3) := by decide +kernel
theorem dX4_beginAnew_5 : decode cX4_beginAnew 5 = .ok (.aload_n 0, 1) := by decide +kernel
theorem dX4_beginAnew_6 : decode cX4_beginAnew 6 = .ok (.getfield 34, 3) := by decide +kernel
theorem dX4_beginAnew_9 : decode cX4_beginAnew 9 = .ok (.invokevirtual 41, 3) := by decide +kernel
theorem dX4_beginAnew_12 : decode cX4_beginAnew 12 = .ok (.return_, 1) := by decide +kernel
theorem dX4_add_0 : decode cX4_add 0 = .ok (.aload_n 0, 1) := by decide +kernel
theorem dX4_add_1 : decode cX4_add 1 = .ok (.getfield 18, 3) := by decide +kernel
theorem dX4_add_4 : decode cX4_add 4 = .ok (.aload_n 0, 1) := by decide +kernel
theorem dX4_add_5 : decode cX4_add 5 = .ok (.getfield 9, 3) := by decide +kernel
theorem dX4_add_8 : decode cX4_add 8 = .ok (.arraylength, 1) := by decide +kernel
theorem dX4_add_9 : decode cX4_add 9 = .ok (.if_icmp .ge 55, 3) := by decide +kernel
theorem dX4_add_12 : decode cX4_add 12 = .ok (.aload_n 0, 1) := by decide +kernel
theorem dX4_add_13 : decode cX4_add 13 = .ok (.getfield 18, 3) := by decide +kernel
theorem dX4_add_16 : decode cX4_add 16 = .ok (.aload_n 0, 1) := by decide +kernel
theorem dX4_add_17 : decode cX4_add 17 = .ok (.getfield 15, 3) := by decide +kernel
theorem dX4_add_20 : decode cX4_add 20 = .ok (.arraylength, 1) := by decide +kernel
theorem dX4_add_21 : decode cX4_add 21 = .ok (.if_icmp .ge 43, 3) := by decide +kernel
theorem dX4_add_24 : decode cX4_add 24 = .ok (.aload_n 0, 1) := by decide +kernel
theorem dX4_add_25 : decode cX4_add 25 = .ok (.getfield 9, 3) := by decide +kernel
theorem dX4_add_28 : decode cX4_add 28 = .ok (.aload_n 0, 1) := by decide +kernel
theorem dX4_add_29 : decode cX4_add 29 = .ok (.getfield 18, 3) := by decide +kernel
theorem dX4_add_32 : decode cX4_add 32 = .ok (.iload_n 1, 1) := by decide +kernel
theorem dX4_add_33 : decode cX4_add 33 = .ok (.iastore, 1) := by decide +kernel
theorem dX4_add_34 : decode cX4_add 34 = .ok (.aload_n 0, 1) := by decide +kernel
theorem dX4_add_35 : decode cX4_add 35 = .ok (.getfield 15, 3) := by decide +kernel
theorem dX4_add_38 : decode cX4_add 38 = .ok (.aload_n 0, 1) := by decide +kernel
theorem dX4_add_39 : decode cX4_add 39 = .ok (.getfield 18, 3) := by decide +kernel
theorem dX4_add_42 : decode cX4_add 42 = .ok (.iload_n 2, 1) := by decide +kernel
theorem dX4_add_43 : decode cX4_add 43 = .ok (.iastore, 1) := by decide +kernel
theorem dX4_add_44 : decode cX4_add 44 = .ok (.aload_n 0, 1) := by decide +kernel
theorem dX4_add_45 : decode cX4_add 45 = .ok (.dup, 1) := by decide +kernel
theorem dX4_add_46 : decode cX4_add 46 = .ok (.getfield 18, 3) := by decide +kernel
theorem dX4_add_49 : decode cX4_add 49 = .ok (.iconst 1, 1) := by decide +kernel
theorem dX4_add_50 : decode cX4_add 50 = .ok (.iadd, 1) := by decide +kernel
theorem dX4_add_51 : decode cX4_add 51 = .ok (.putfield 18, 3) := by decide +kernel
theorem dX4_add_54 : decode cX4_add 54 = .ok (.aload_n 0, 1) := by decide +kernel
theorem dX4_add_55 : decode cX4_add 55 = .ok (.iload_n 1, 1) := by decide +kernel
theorem dX4_add_56 : decode cX4_add 56 = .ok (.putfield 25, 3) := by decide +kernel
theorem dX4_add_59 : decode cX4_add 59 = .ok (.aload_n 0, 1) := by decide +kernel
theorem dX4_add_60 : decode cX4_add 60 = .ok (.iload_n 2, 1) := by decide +kernel
theorem dX4_add_61 : decode cX4_add 61 = .ok (.putfield 28, 3) := by decide +kernel
theorem dX4_add_64 : decode cX4_add 64 = .ok (.return_, 1) := by decide +kernel
theorem dX4_putInside_0 : decode cX4_putInside 0 = .ok (.bipush (-32), 2) := by decide +kernel
theorem dX4_putInside_2 : decode cX4_putInside 2 = .ok (.istore_n 3, 1) := by decide +kernel
theorem dX4_putInside_3 : decode cX4_putInside 3 = .ok (.iload_n 3, 1) := by decide +kernel
theorem dX4_putInside_4 : decode cX4_putInside 4 = .ok (.bipush 31, 2) := by decide +kernel
theorem dX4_putInside_6 : decode cX4_putInside 6 = .ok (.if_icmp .gt 24, 3) := by decide +kernel
theorem dX4_putInside_9 : decode cX4_putInside 9 = .ok (.aload_n 0, 1) := by decide +kernel
theorem dX4_putInside_10 : decode cX4_putInside 10 = .ok (.iload_n 3, 1) := by decide +kernel
theorem dX4_putInside_11 : decode cX4_putInside 11 = .ok (.invokevirtual 44, 3) := by decide +kernel
theorem dX4_putInside_14 : decode cX4_putInside 14 = .ok (.aload_n 1, 1) := by decide +kernel
theorem dX4_putInside_15 : decode cX4_putInside 15 = .ok (.iload_n 3, 1) := by decide +kernel
theorem dX4_putInside_16 : decode cX4_putInside 16 = .ok (.aload_n 0, 1) := by decide +kernel
theorem dX4_putInside_17 : decode cX4_putInside 17 = .ok (.iload_n 2, 1) := by decide +kernel
theorem dX4_putInside_18 : decode cX4_putInside 18 = .ok (.invokevirtual 48, 3) := by decide +kernel
theorem dX4_putInside_21 : decode cX4_putInside 21 = .ok (.invokevirtual 52, 3) := by decide +kernel
theorem dX4_putInside_24 : decode cX4_putInside 24 = .ok (.iinc 3 1, 3) := by decide +kernel
theorem dX4_putInside_27 : decode cX4_putInside 27 = .ok (.goto (-24), 3) := by decide +kernel
theorem dX4_putInside_30 : decode cX4_putInside 30 = .ok (.return_, 1) := by decide +kernel
theorem dX4_countCrossings_0 : decode cX4_countCrossings 0 = .ok (.aload_n 0, 1) := by decide +kernel
theorem dX4_countCrossings_1 : decode cX4_countCrossings 1 = .ok (.getfield 22, 3) := by decide +kernel
theorem dX4_countCrossings_4 : decode cX4_countCrossings 4 = .ok (.iconst 0, 1) := by decide +kernel
theorem dX4_countCrossings_5 : decode cX4_countCrossings 5 = .ok (.invokestatic 58, 3) := by decide +kernel
theorem dX4_countCrossings_8 : decode cX4_countCrossings 8 = .ok (.iconst 1, 1) := by decide +kernel
theorem dX4_countCrossings_9 : decode cX4_countCrossings 9 = .ok (.istore_n 2, 1) := by decide +kernel
theorem dX4_countCrossings_10 : decode cX4_countCrossings 10 = .ok (.iload_n 2, 1) := by decide +kernel
theorem dX4_countCrossings_11 : decode cX4_countCrossings 11 = .ok (.aload_n 0, 1) := by decide +kernel
theorem dX4_countCrossings_12 : decode cX4_countCrossings 12 = .ok (.getfield 18, 3) := by decide +kernel
theorem dX4_countCrossings_15 : decode cX4_countCrossings 15 = .ok (.if_icmp .ge 52, 3) := by decide +kernel
theorem dX4_countCrossings_18 : decode cX4_countCrossings 18 = .ok (.iload_n 2, 1) := by decide +kernel
theorem dX4_countCrossings_19 : decode cX4_countCrossings 19 = .ok (.aload_n 0, 1) := by decide +kernel
theorem dX4_countCrossings_20 : decode cX4_countCrossings 20 = .ok (.getfield 9, 3) := by decide +kernel
theorem dX4_countCrossings_23 : decode cX4_countCrossings 23 = .ok (.arraylength, 1) := by decide +kernel
theorem dX4_countCrossings_24 : decode cX4_countCrossings 24 = .ok (.if_icmp .ge 43, 3) := by decide +kernel
theorem dX4_countCrossings_27 : decode cX4_countCrossings 27 = .ok (.iload_n 2, 1) := by decide +kernel
theorem dX4_countCrossings_28 : decode cX4_countCrossings 28 = .ok (.aload_n 0, 1) := by decide +kernel
theorem dX4_countCrossings_29 : decode cX4_countCrossings 29 = .ok (.getfield 15, 3) := by decide +kernel
theorem dX4_countCrossings_32 : decode cX4_countCrossings 32 = .ok (.arraylength, 1) := by decide +kernel
theorem dX4_countCrossings_33 : decode cX4_countCrossings 33 = .ok (.if_icmp .ge 34, 3) := by decide +kernel
theorem dX4_countCrossings_36 : decode cX4_countCrossings 36 = .ok (.aload_n 0, 1) := by decide +kernel
theorem dX4_countCrossings_37 : decode cX4_countCrossings 37 = .ok (.iload_n 1, 1) := by decide +kernel
theorem dX4_countCrossings_38 : decode cX4_countCrossings 38 = .ok (.aload_n 0, 1) := by decide +kernel
theorem dX4_countCrossings_39 : decode cX4_countCrossings 39 = .ok (.getfield 9, 3) := by decide +kernel
theorem dX4_countCrossings_42 : decode cX4_countCrossings 42 = .ok (.iload_n 2, 1) := by decide +kernel
theorem dX4_countCrossings_43 : decode cX4_countCrossings 43 = .ok (.iaload, 1) := by decide +kernel
theorem dX4_countCrossings_44 : decode cX4_countCrossings 44 = .ok (.aload_n 0, 1) := by decide +kernel
theorem dX4_countCrossings_45 : decode cX4_countCrossings 45 = .ok (.getfield 15, 3) := by decide +kernel
theorem dX4_countCrossings_48 : decode cX4_countCrossings 48 = .ok (.iload_n 2, 1) := by decide +kernel
theorem dX4_countCrossings_49 : decode cX4_countCrossings 49 = .ok (.iconst 1, 1) := by decide +kernel
theorem dX4_countCrossings_50 : decode cX4_countCrossings 50 = .ok (.isub, 1) := by decide +kernel
theorem dX4_countCrossings_51 : decode cX4_countCrossings 51 = .ok (.iaload, 1) := by decide +kernel
theorem dX4_countCrossings_52 : decode cX4_countCrossings 52 = .ok (.aload_n 0, 1) := by decide +kernel
theorem dX4_countCrossings_53 : decode cX4_countCrossings 53 = .ok (.getfield 15, 3) := by decide +kernel
theorem dX4_countCrossings_56 : decode cX4_countCrossings 56 = .ok (.iload_n 2, 1) := by decide +kernel
theorem dX4_countCrossings_57 : decode cX4_countCrossings 57 = .ok (.iaload, 1) := by decide +kernel
theorem dX4_countCrossings_58 : decode cX4_countCrossings 58 = .ok (.invokevirtual 64, 3) := by decide +kernel
theorem dX4_countCrossings_61 : decode cX4_countCrossings 61 = .ok (.iinc 2 1, 3) := by decide +kernel
theorem dX4_countCrossings_64 : decode cX4_countCrossings 64 = .ok (.goto (-54), 3) := by decide +kernel
theorem dX4_countCrossings_67 : decode cX4_countCrossings 67 = .ok (.aload_n 0, 1) := by decide +kernel
theorem dX4_countCrossings_68 : decode cX4_countCrossings 68 = .ok (.iload_n 1, 1) := by decide +kernel
theorem dX4_countCrossings_69 : decode cX4_countCrossings 69 = .ok (.aload_n 0, 1) := by decide +kernel
theorem dX4_countCrossings_70 : decode cX4_countCrossings 70 = .ok (.getfield 31, 3) := by decide +kernel
theorem dX4_countCrossings_73 : decode cX4_countCrossings 73 = .ok (.aload_n 0, 1) := by decide +kernel
theorem dX4_countCrossings_74 : decode cX4_countCrossings 74 = .ok (.getfield 28, 3) := by decide +kernel
theorem dX4_countCrossings_77 : decode cX4_countCrossings 77 = .ok (.aload_n 0, 1) := by decide +kernel
theorem dX4_countCrossings_78 : decode cX4_countCrossings 78 = .ok (.getfield 34, 3) := by decide +kernel
theorem dX4_countCrossings_81 : decode cX4_countCrossings 81 = .ok (.invokevirtual 64, 3) := by decide +kernel
theorem dX4_countCrossings_84 : decode cX4_countCrossings 84 = .ok (.return_, 1) := by decide +kernel
theorem dX4_addCrossing_0 : decode cX4_addCrossing 0 = .ok (.iload_n 2, 1) := by decide +kernel
theorem dX4_addCrossing_1 : decode cX4_addCrossing 1 = .ok (.bipush (-32), 2) := by decide +kernel
theorem dX4_addCrossing_3 : decode cX4_addCrossing 3 = .ok (.isub, 1) := by decide +kernel
theorem dX4_addCrossing_4 : decode cX4_addCrossing 4 = .ok (.istore 5, 2) := by decide +kernel
theorem dX4_addCrossing_6 : decode cX4_addCrossing 6 = .ok (.iload 5, 2) := by decide +kernel
theorem dX4_addCrossing_8 : decode cX4_addCrossing 8 = .ok (.ifCond .lt 13, 3) := by decide +kernel
theorem dX4_addCrossing_11 : decode cX4_addCrossing 11 = .ok (.iload 5, 2) := by decide +kernel
theorem dX4_addCrossing_13 : decode cX4_addCrossing 13 = .ok (.aload_n 0, 1) := by decide +kernel
theorem dX4_addCrossing_14 : decode cX4_addCrossing 14 = .ok (.getfield 22, 3) := by decide +kernel
theorem dX4_addCrossing_17 : decode cX4_addCrossing 17 = .ok (.arraylength, 1) := by decide +kernel
theorem dX4_addCrossing_18 : decode cX4_addCrossing 18 = .ok (.if_icmp .lt 4, 3) := by decide +kernel
theorem dX4_addCrossing_21 : decode cX4_addCrossing 21 = .ok (.return_, 1) := by decide +kernel
theorem dX4_addCrossing_22 : decode cX4_addCrossing 22 = .ok (.iload_n 3, 1) := by decide +kernel
theorem dX4_addCrossing_23 : decode cX4_addCrossing 23 = .ok (.iload_n 1, 1) := by decide +kernel
theorem dX4_addCrossing_24 : decode cX4_addCrossing 24 = .ok (.if_icmp .gt 20, 3) := by decide +kernel
theorem dX4_addCrossing_27 : decode cX4_addCrossing 27 = .ok (.iload_n 1, 1) := by decide +kernel
theorem dX4_addCrossing_28 : decode cX4_addCrossing 28 = .ok (.iload 4, 2) := by decide +kernel
theorem dX4_addCrossing_30 : decode cX4_addCrossing 30 = .ok (.if_icmp .ge 14, 3) := by decide +kernel
theorem dX4_addCrossing_33 : decode cX4_addCrossing 33 = .ok (.aload_n 0, 1) := by decide +kernel
theorem dX4_addCrossing_34 : decode cX4_addCrossing 34 = .ok (.getfield 22, 3) := by decide +kernel
theorem dX4_addCrossing_37 : decode cX4_addCrossing 37 = .ok (.iload 5, 2) := by decide +kernel
theorem dX4_addCrossing_39 : decode cX4_addCrossing 39 = .ok (.dup2, 1) := by decide +kernel
theorem dX4_addCrossing_40 : decode cX4_addCrossing 40 = .ok (.iaload, 1) := by decide +kernel
theorem dX4_addCrossing_41 : decode cX4_addCrossing 41 = .ok (.iconst 1, 1) := by decide +kernel
theorem dX4_addCrossing_42 : decode cX4_addCrossing 42 = .ok (.iadd, 1) := by decide +kernel
theorem dX4_addCrossing_43 : decode cX4_addCrossing 43 = .ok (.iastore, 1) := by decide +kernel
theorem dX4_addCrossing_44 : decode cX4_addCrossing 44 = .ok (.iload 4, 2) := by decide +kernel
theorem dX4_addCrossing_46 : decode cX4_addCrossing 46 = .ok (.iload_n 1, 1) := by decide +kernel
theorem dX4_addCrossing_47 : decode cX4_addCrossing 47 = .ok (.if_icmp .gt 19, 3) := by decide +kernel
theorem dX4_addCrossing_50 : decode cX4_addCrossing 50 = .ok (.iload_n 1, 1) := by decide +kernel
theorem dX4_addCrossing_51 : decode cX4_addCrossing 51 = .ok (.iload_n 3, 1) := by decide +kernel
theorem dX4_addCrossing_52 : decode cX4_addCrossing 52 = .ok (.if_icmp .ge 14, 3) := by decide +kernel
theorem dX4_addCrossing_55 : decode cX4_addCrossing 55 = .ok (.aload_n 0, 1) := by decide +kernel
theorem dX4_addCrossing_56 : decode cX4_addCrossing 56 = .ok (.getfield 22, 3) := by decide +kernel
theorem dX4_addCrossing_59 : decode cX4_addCrossing 59 = .ok (.iload 5, 2) := by decide +kernel
theorem dX4_addCrossing_61 : decode cX4_addCrossing 61 = .ok (.dup2, 1) := by decide +kernel
theorem dX4_addCrossing_62 : decode cX4_addCrossing 62 = .ok (.iaload, 1) := by decide +kernel
theorem dX4_addCrossing_63 : decode cX4_addCrossing 63 = .ok (.iconst 1, 1) := by decide +kernel
theorem dX4_addCrossing_64 : decode cX4_addCrossing 64 = .ok (.isub, 1) := by decide +kernel
theorem dX4_addCrossing_65 : decode cX4_addCrossing 65 = .ok (.iastore, 1) := by decide +kernel
theorem dX4_addCrossing_66 : decode cX4_addCrossing 66 = .ok (.return_, 1) := by decide +kernel
theorem dX4_inside_0 : decode cX4_inside 0 = .ok (.lconst 0, 1) := by decide +kernel
theorem dX4_inside_1 : decode cX4_inside 1 = .ok (.lstore_n 2, 1) := by decide +kernel
theorem dX4_inside_2 : decode cX4_inside 2 = .ok (.iconst 0, 1) := by decide +kernel
theorem dX4_inside_3 : decode cX4_inside 3 = .ok (.istore 4, 2) := by decide +kernel
theorem dX4_inside_5 : decode cX4_inside 5 = .ok (.aload_n 0, 1) := by decide +kernel
theorem dX4_inside_6 : decode cX4_inside 6 = .ok (.getfield 22, 3) := by decide +kernel
theorem dX4_inside_9 : decode cX4_inside 9 = .ok (.arraylength, 1) := by decide +kernel
theorem dX4_inside_10 : decode cX4_inside 10 = .ok (.iconst 1, 1) := by decide +kernel
theorem dX4_inside_11 : decode cX4_inside 11 = .ok (.isub, 1) := by decide +kernel
theorem dX4_inside_12 : decode cX4_inside 12 = .ok (.istore 5, 2) := by decide +kernel
theorem dX4_inside_14 : decode cX4_inside 14 = .ok (.iload 5, 2) := by decide +kernel
theorem dX4_inside_16 : decode cX4_inside 16 = .ok (.ifCond .le 49, 3) := by decide +kernel
theorem dX4_inside_19 : decode cX4_inside 19 = .ok (.iload 4, 2) := by decide +kernel
theorem dX4_inside_21 : decode cX4_inside 21 = .ok (.aload_n 0, 1) := by decide +kernel
theorem dX4_inside_22 : decode cX4_inside 22 = .ok (.getfield 22, 3) := by decide +kernel
theorem dX4_inside_25 : decode cX4_inside 25 = .ok (.iload 5, 2) := by decide +kernel
theorem dX4_inside_27 : decode cX4_inside 27 = .ok (.iaload, 1) := by decide +kernel
theorem dX4_inside_28 : decode cX4_inside 28 = .ok (.iadd, 1) := by decide +kernel
theorem dX4_inside_29 : decode cX4_inside 29 = .ok (.istore 4, 2) := by decide +kernel
theorem dX4_inside_31 : decode cX4_inside 31 = .ok (.iload_n 1, 1) := by decide +kernel
theorem dX4_inside_32 : decode cX4_inside 32 = .ok (.ifCond .ne 13, 3) := by decide +kernel
theorem dX4_inside_35 : decode cX4_inside 35 = .ok (.iload 4, 2) := by decide +kernel
theorem dX4_inside_37 : decode cX4_inside 37 = .ok (.iconst 1, 1) := by decide +kernel
theorem dX4_inside_38 : decode cX4_inside 38 = .ok (.iand, 1) := by decide +kernel
theorem dX4_inside_39 : decode cX4_inside 39 = .ok (.ifCond .eq 20, 3) := by decide +kernel
theorem dX4_inside_42 : decode cX4_inside 42 = .ok (.goto 8, 3) := by decide +kernel
theorem dX4_inside_45 : decode cX4_inside 45 = .ok (.iload 4, 2) := by decide +kernel
theorem dX4_inside_47 : decode cX4_inside 47 = .ok (.ifCond .eq 12, 3) := by decide +kernel
theorem dX4_inside_50 : decode cX4_inside 50 = .ok (.lload_n 2, 1) := by decide +kernel
theorem dX4_inside_51 : decode cX4_inside 51 = .ok (.lconst 1, 1) := by decide +kernel
theorem dX4_inside_52 : decode cX4_inside 52 = .ok (.iload 5, 2) := by decide +kernel
theorem dX4_inside_54 : decode cX4_inside 54 = .ok (.iconst 1, 1) := by decide +kernel
theorem dX4_inside_55 : decode cX4_inside 55 = .ok (.isub, 1) := by decide +kernel
theorem dX4_inside_56 : decode cX4_inside 56 = .ok (.lshl, 1) := by decide +kernel
theorem dX4_inside_57 : decode cX4_inside 57 = .ok (.lor, 1) := by decide +kernel
theorem dX4_inside_58 : decode cX4_inside 58 = .ok (.lstore_n 2, 1) := by decide +kernel
theorem dX4_inside_59 : decode cX4_inside 59 = .ok (.iinc 5 (-1), 3) := by decide +kernel
theorem dX4_inside_62 : decode cX4_inside 62 = .ok (.goto (-48), 3) := by decide +kernel
theorem dX4_inside_65 : decode cX4_inside 65 = .ok (.lload_n 2, 1) := by decide +kernel
theorem dX4_inside_66 : decode cX4_inside 66 = .ok (.lreturn, 1) := by decide +kernel
theorem dX5_init_0 : decode cX5_init 0 = .ok (.aload_n 0, 1) := by decide +kernel
theorem dX5_init_1 : decode cX5_init 1 = .ok (.invokespecial 3, 3) := by decide +kernel
theorem dX5_init_4 : decode cX5_init 4 = .ok (.aload_n 0, 1) := by decide +kernel
theorem dX5_init_5 : decode cX5_init 5 = .ok (.new 9, 3) := by decide +kernel
theorem dX5_init_8 : decode cX5_init 8 = .ok (.dup, 1) := by decide +kernel
theorem dX5_init_9 : decode cX5_init 9 = .ok (.invokespecial 11, 3) := by decide +kernel
theorem dX5_init_12 : decode cX5_init 12 = .ok (.putfield 12, 3) := by decide +kernel
theorem dX5_init_15 : decode cX5_init 15 = .ok (.return_, 1) := by decide +kernel
theorem dX5_measure_0 : decode cX5_measure 0 = .ok (.iload_n 1, 1) := by decide +kernel
theorem dX5_measure_1 : decode cX5_measure 1 = .ok (.tableswitch 42 0 2 #[27, 32, 37], 27) := by decide +kernel
theorem dX5_measure_28 : decode cX5_measure 28 = .ok (.aload_n 0, 1) := by decide +kernel
theorem dX5_measure_29 : decode cX5_measure 29 = .ok (.getfield 18, 3) := by decide +kernel
theorem dX5_measure_32 : decode cX5_measure 32 = .ok (.ireturn, 1) := by decide +kernel
theorem dX5_measure_33 : decode cX5_measure 33 = .ok (.aload_n 0, 1) := by decide +kernel
theorem dX5_measure_34 : decode cX5_measure 34 = .ok (.getfield 22, 3) := by decide +kernel
theorem dX5_measure_37 : decode cX5_measure 37 = .ok (.ireturn, 1) := by decide +kernel
theorem dX5_measure_38 : decode cX5_measure 38 = .ok (.aload_n 0, 1) := by decide +kernel
theorem dX5_measure_39 : decode cX5_measure 39 = .ok (.getfield 25, 3) := by decide +kernel
theorem dX5_measure_42 : decode cX5_measure 42 = .ok (.ireturn, 1) := by decide +kernel
theorem dX5_measure_43 : decode cX5_measure 43 = .ok (.aload_n 0, 1) := by decide +kernel
theorem dX5_measure_44 : decode cX5_measure 44 = .ok (.getfield 28, 3) := by decide +kernel
theorem dX5_measure_47 : decode cX5_measure 47 = .ok (.ireturn, 1) := by decide +kernel
theorem dX5_countStrips_0 : decode cX5_countStrips 0 = .ok (.aload_n 0, 1) := by decide +kernel
theorem dX5_countStrips_1 : decode cX5_countStrips 1 = .ok (.aload_n 1, 1) := by decide +kernel
theorem dX5_countStrips_2 : decode cX5_countStrips 2 = .ok (.invokevirtual 31, 3) := by decide +kernel
theorem dX5_countStrips_5 : decode cX5_countStrips 5 = .ok (.iconst 0, 1) := by decide +kernel
theorem dX5_countStrips_6 : decode cX5_countStrips 6 = .ok (.istore_n 2, 1) := by decide +kernel
theorem dX5_countStrips_7 : decode cX5_countStrips 7 = .ok (.iload_n 2, 1) := by decide +kernel
theorem dX5_countStrips_8 : decode cX5_countStrips 8 = .ok (.sipush 16384, 3) := by decide +kernel
theorem dX5_countStrips_11 : decode cX5_countStrips 11 = .ok (.if_icmp .ge 16, 3) := by decide +kernel
theorem dX5_countStrips_14 : decode cX5_countStrips 14 = .ok (.aload_n 0, 1) := by decide +kernel
theorem dX5_countStrips_15 : decode cX5_countStrips 15 = .ok (.invokevirtual 35, 3) := by decide +kernel
theorem dX5_countStrips_18 : decode cX5_countStrips 18 = .ok (.ifCond .eq 9, 3) := by decide +kernel
theorem dX5_countStrips_21 : decode cX5_countStrips 21 = .ok (.iinc 2 1, 3) := by decide +kernel
theorem dX5_countStrips_24 : decode cX5_countStrips 24 = .ok (.goto (-17), 3) := by decide +kernel
theorem dX5_countStrips_27 : decode cX5_countStrips 27 = .ok (.iload_n 2, 1) := by decide +kernel
theorem dX5_countStrips_28 : decode cX5_countStrips 28 = .ok (.ireturn, 1) := by decide +kernel
theorem dX5_goTo_0 : decode cX5_goTo 0 = .ok (.aload_n 0, 1) := by decide +kernel
theorem dX5_goTo_1 : decode cX5_goTo 1 = .ok (.aload_n 1, 1) := by decide +kernel
theorem dX5_goTo_2 : decode cX5_goTo 2 = .ok (.invokevirtual 31, 3) := by decide +kernel
theorem dX5_goTo_5 : decode cX5_goTo 5 = .ok (.iload_n 2, 1) := by decide +kernel
theorem dX5_goTo_6 : decode cX5_goTo 6 = .ok (.ifCond .lt 7, 3) := by decide +kernel
theorem dX5_goTo_9 : decode cX5_goTo 9 = .ok (.iconst 1, 1) := by decide +kernel
theorem dX5_goTo_10 : decode cX5_goTo 10 = .ok (.goto 4, 3) := by decide +kernel
theorem dX5_goTo_13 : decode cX5_goTo 13 = .ok (.iconst 0, 1) := by decide +kernel
theorem dX5_goTo_14 : decode cX5_goTo 14 = .ok (.istore_n 3, 1) := by decide +kernel
theorem dX5_goTo_15 : decode cX5_goTo 15 = .ok (.iconst 0, 1) := by decide +kernel
theorem dX5_goTo_16 : decode cX5_goTo 16 = .ok (.istore 4, 2) := by decide +kernel
theorem dX5_goTo_18 : decode cX5_goTo 18 = .ok (.iload 4, 2) := by decide +kernel
theorem dX5_goTo_20 : decode cX5_goTo 20 = .ok (.iload_n 2, 1) := by decide +kernel
theorem dX5_goTo_21 : decode cX5_goTo 21 = .ok (.if_icmp .gt 26, 3) := by decide +kernel
theorem dX5_goTo_24 : decode cX5_goTo 24 = .ok (.iload 4, 2) := by decide +kernel
theorem dX5_goTo_26 : decode cX5_goTo 26 = .ok (.sipush 16384, 3) := by decide +kernel
theorem dX5_goTo_29 : decode cX5_goTo 29 = .ok (.if_icmp .ge 18, 3) := by decide +kernel
theorem dX5_goTo_32 : decode cX5_goTo 32 = .ok (.iload_n 3, 1) := by decide +kernel
theorem dX5_goTo_33 : decode cX5_goTo 33 = .ok (.ifCond .eq 14, 3) := by decide +kernel
theorem dX5_goTo_36 : decode cX5_goTo 36 = .ok (.aload_n 0, 1) := by decide +kernel
theorem dX5_goTo_37 : decode cX5_goTo 37 = .ok (.invokevirtual 35, 3) := by decide +kernel
theorem dX5_goTo_40 : decode cX5_goTo 40 = .ok (.istore_n 3, 1) := by decide +kernel
theorem dX5_goTo_41 : decode cX5_goTo 41 = .ok (.iinc 4 1, 3) := by decide +kernel
theorem dX5_goTo_44 : decode cX5_goTo 44 = .ok (.goto (-26), 3) := by decide +kernel
theorem dX5_goTo_47 : decode cX5_goTo 47 = .ok (.iload_n 3, 1) := by decide +kernel
theorem dX5_goTo_48 : decode cX5_goTo 48 = .ok (.ifCond .eq 14, 3) := by decide +kernel
theorem dX5_goTo_51 : decode cX5_goTo 51 = .ok (.iload_n 2, 1) := by decide +kernel
theorem dX5_goTo_52 : decode cX5_goTo 52 = .ok (.sipush 16384, 3) := by decide +kernel
theorem dX5_goTo_55 : decode cX5_goTo 55 = .ok (.if_icmp .ge 7, 3) := by decide +kernel
theorem dX5_goTo_58 : decode cX5_goTo 58 = .ok (.iconst 1, 1) := by decide +kernel
theorem dX5_goTo_59 : decode cX5_goTo 59 = .ok (.goto 4, 3) := by decide +kernel
theorem dX5_goTo_62 : decode cX5_goTo 62 = .ok (.iconst 0, 1) := by decide +kernel
theorem dX5_goTo_63 : decode cX5_goTo 63 = .ok (.ireturn, 1) := by decide +kernel
theorem dX5_begin_0 : decode cX5_begin 0 = .ok (.aload_n 0, 1) := by decide +kernel
theorem dX5_begin_1 : decode cX5_begin 1 = .ok (.getfield 12, 3) := by decide +kernel
theorem dX5_begin_4 : decode cX5_begin 4 = .ok (.aload_n 1, 1) := by decide +kernel
theorem dX5_begin_5 : decode cX5_begin 5 = .ok (.invokevirtual 39, 3) := by decide +kernel
theorem dX5_begin_8 : decode cX5_begin 8 = .ok (.aload_n 0, 1) := by decide +kernel
theorem dX5_begin_9 : decode cX5_begin 9 = .ok (.bipush (-32), 2) := by decide +kernel
theorem dX5_begin_11 : decode cX5_begin 11 = .ok (.putfield 42, 3) := by decide +kernel
theorem dX5_begin_14 : decode cX5_begin 14 = .ok (.aload_n 0, 1) := by decide +kernel
theorem dX5_begin_15 : decode cX5_begin 15 = .ok (.aload_n 0, 1) := by decide +kernel
theorem dX5_begin_16 : decode cX5_begin 16 = .ok (.getfield 12, 3) := by decide +kernel
theorem dX5_begin_19 : decode cX5_begin 19 = .ok (.aload_n 0, 1) := by decide +kernel
theorem dX5_begin_20 : decode cX5_begin 20 = .ok (.getfield 42, 3) := by decide +kernel
theorem dX5_begin_23 : decode cX5_begin 23 = .ok (.invokevirtual 45, 3) := by decide +kernel
theorem dX5_begin_26 : decode cX5_begin 26 = .ok (.putfield 49, 3) := by decide +kernel
theorem dX5_begin_29 : decode cX5_begin 29 = .ok (.return_, 1) := by decide +kernel
theorem dX5_next_0 : decode cX5_next 0 = .ok (.aload_n 0, 1) := by decide +kernel
theorem dX5_next_1 : decode cX5_next 1 = .ok (.getfield 42, 3) := by decide +kernel
theorem dX5_next_4 : decode cX5_next 4 = .ok (.bipush 31, 2) := by decide +kernel
theorem dX5_next_6 : decode cX5_next 6 = .ok (.if_icmp .gt 97, 3) := by decide +kernel
theorem dX5_next_9 : decode cX5_next 9 = .ok (.iconst 0, 1) := by decide +kernel
theorem dX5_next_10 : decode cX5_next 10 = .ok (.istore_n 1, 1) := by decide +kernel
theorem dX5_next_11 : decode cX5_next 11 = .ok (.iload_n 1, 1) := by decide +kernel
theorem dX5_next_12 : decode cX5_next 12 = .ok (.bipush 64, 2) := by decide +kernel
theorem dX5_next_14 : decode cX5_next 14 = .ok (.if_icmp .ge 61, 3) := by decide +kernel
theorem dX5_next_17 : decode cX5_next 17 = .ok (.aload_n 0, 1) := by decide +kernel
theorem dX5_next_18 : decode cX5_next 18 = .ok (.getfield 49, 3) := by decide +kernel
theorem dX5_next_21 : decode cX5_next 21 = .ok (.lconst 0, 1) := by decide +kernel
theorem dX5_next_22 : decode cX5_next 22 = .ok (.lcmp, 1) := by decide +kernel
theorem dX5_next_23 : decode cX5_next 23 = .ok (.ifCond .eq 52, 3) := by decide +kernel
theorem dX5_next_26 : decode cX5_next 26 = .ok (.aload_n 0, 1) := by decide +kernel
theorem dX5_next_27 : decode cX5_next 27 = .ok (.getfield 49, 3) := by decide +kernel
theorem dX5_next_30 : decode cX5_next 30 = .ok (.invokestatic 53, 3) := by decide +kernel
theorem dX5_next_33 : decode cX5_next 33 = .ok (.lstore_n 2, 1) := by decide +kernel
theorem dX5_next_34 : decode cX5_next 34 = .ok (.aload_n 0, 1) := by decide +kernel
theorem dX5_next_35 : decode cX5_next 35 = .ok (.dup, 1) := by decide +kernel
theorem dX5_next_36 : decode cX5_next 36 = .ok (.getfield 49, 3) := by decide +kernel
theorem dX5_next_39 : decode cX5_next 39 = .ok (.lload_n 2, 1) := by decide +kernel
theorem dX5_next_40 : decode cX5_next 40 = .ok (.ldc2_w 57, 3) := by decide +kernel
theorem dX5_next_43 : decode cX5_next 43 = .ok (.lxor, 1) := by decide +kernel
theorem dX5_next_44 : decode cX5_next 44 = .ok (.land, 1) := by decide +kernel
theorem dX5_next_45 : decode cX5_next 45 = .ok (.putfield 49, 3) := by decide +kernel
theorem dX5_next_48 : decode cX5_next 48 = .ok (.aload_n 0, 1) := by decide +kernel
theorem dX5_next_49 : decode cX5_next 49 = .ok (.aload_n 0, 1) := by decide +kernel
theorem dX5_next_50 : decode cX5_next 50 = .ok (.getfield 42, 3) := by decide +kernel
theorem dX5_next_53 : decode cX5_next 53 = .ok (.iconst 1, 1) := by decide +kernel
theorem dX5_next_54 : decode cX5_next 54 = .ok (.isub, 1) := by decide +kernel
theorem dX5_next_55 : decode cX5_next 55 = .ok (.lload_n 2, 1) := by decide +kernel
theorem dX5_next_56 : decode cX5_next 56 = .ok (.invokevirtual 59, 3) := by decide +kernel
theorem dX5_next_59 : decode cX5_next 59 = .ok (.ifCond .ne 10, 3) := by decide +kernel
theorem dX5_next_62 : decode cX5_next 62 = .ok (.aload_n 0, 1) := by decide +kernel
theorem dX5_next_63 : decode cX5_next 63 = .ok (.lload_n 2, 1) := by decide +kernel
theorem dX5_next_64 : decode cX5_next 64 = .ok (.invokevirtual 63, 3) := by decide +kernel
theorem dX5_next_67 : decode cX5_next 67 = .ok (.iconst 1, 1) := by decide +kernel
theorem dX5_next_68 : decode cX5_next 68 = .ok (.ireturn, 1) := by decide +kernel
theorem dX5_next_69 : decode cX5_next 69 = .ok (.iinc 1 1, 3) := by decide +kernel
theorem dX5_next_72 : decode cX5_next 72 = .ok (.goto (-61), 3) := by decide +kernel
theorem dX5_next_75 : decode cX5_next 75 = .ok (.aload_n 0, 1) := by decide +kernel
theorem dX5_next_76 : decode cX5_next 76 = .ok (.dup, 1) := by decide +kernel
theorem dX5_next_77 : decode cX5_next 77 = .ok (.getfield 42, 3) := by decide +kernel
theorem dX5_next_80 : decode cX5_next 80 = .ok (.iconst 1, 1) := by decide +kernel
theorem dX5_next_81 : decode cX5_next 81 = .ok (.iadd, 1) := by decide +kernel
theorem dX5_next_82 : decode cX5_next 82 = .ok (.putfield 42, 3) := by decide +kernel
theorem dX5_next_85 : decode cX5_next 85 = .ok (.aload_n 0, 1) := by decide +kernel
theorem dX5_next_86 : decode cX5_next 86 = .ok (.aload_n 0, 1) := by decide +kernel
theorem dX5_next_87 : decode cX5_next 87 = .ok (.getfield 12, 3) := by decide +kernel
theorem dX5_next_90 : decode cX5_next 90 = .ok (.aload_n 0, 1) := by decide +kernel
theorem dX5_next_91 : decode cX5_next 91 = .ok (.getfield 42, 3) := by decide +kernel
theorem dX5_next_94 : decode cX5_next 94 = .ok (.invokevirtual 45, 3) := by decide +kernel
theorem dX5_next_97 : decode cX5_next 97 = .ok (.putfield 49, 3) := by decide +kernel
theorem dX5_next_100 : decode cX5_next 100 = .ok (.goto (-100), 3) := by decide +kernel
theorem dX5_next_103 : decode cX5_next 103 = .ok (.iconst 0, 1) := by decide +kernel
theorem dX5_next_104 : decode cX5_next 104 = .ok (.ireturn, 1) := by decide +kernel
theorem dX5_take_0 : decode cX5_take 0 = .ok (.aload_n 0, 1) := by decide +kernel
theorem dX5_take_1 : decode cX5_take 1 = .ok (.bipush (-32), 2) := by decide +kernel
theorem dX5_take_3 : decode cX5_take 3 = .ok (.lload_n 1, 1) := by decide +kernel
theorem dX5_take_4 : decode cX5_take 4 = .ok (.invokestatic 67, 3) := by decide +kernel
theorem dX5_take_7 : decode cX5_take 7 = .ok (.iadd, 1) := by decide +kernel
theorem dX5_take_8 : decode cX5_take 8 = .ok (.putfield 18, 3) := by decide +kernel
theorem dX5_take_11 : decode cX5_take 11 = .ok (.aload_n 0, 1) := by decide +kernel
theorem dX5_take_12 : decode cX5_take 12 = .ok (.aload_n 0, 1) := by decide +kernel
theorem dX5_take_13 : decode cX5_take 13 = .ok (.getfield 42, 3) := by decide +kernel
theorem dX5_take_16 : decode cX5_take 16 = .ok (.putfield 22, 3) := by decide +kernel
theorem dX5_take_19 : decode cX5_take 19 = .ok (.aload_n 0, 1) := by decide +kernel
theorem dX5_take_20 : decode cX5_take 20 = .ok (.lload_n 1, 1) := by decide +kernel
theorem dX5_take_21 : decode cX5_take 21 = .ok (.invokestatic 71, 3) := by decide +kernel
theorem dX5_take_24 : decode cX5_take 24 = .ok (.putfield 25, 3) := by decide +kernel
theorem dX5_take_27 : decode cX5_take 27 = .ok (.aload_n 0, 1) := by decide +kernel
theorem dX5_take_28 : decode cX5_take 28 = .ok (.iconst 1, 1) := by decide +kernel
theorem dX5_take_29 : decode cX5_take 29 = .ok (.putfield 28, 3) := by decide +kernel
theorem dX5_take_32 : decode cX5_take 32 = .ok (.aload_n 0, 1) := by decide +kernel
theorem dX5_take_33 : decode cX5_take 33 = .ok (.getfield 28, 3) := by decide +kernel
theorem dX5_take_36 : decode cX5_take 36 = .ok (.bipush 64, 2) := by decide +kernel
theorem dX5_take_38 : decode cX5_take 38 = .ok (.if_icmp .ge 33, 3) := by decide +kernel
theorem dX5_take_41 : decode cX5_take 41 = .ok (.aload_n 0, 1) := by decide +kernel
theorem dX5_take_42 : decode cX5_take 42 = .ok (.aload_n 0, 1) := by decide +kernel
theorem dX5_take_43 : decode cX5_take 43 = .ok (.getfield 42, 3) := by decide +kernel
theorem dX5_take_46 : decode cX5_take 46 = .ok (.aload_n 0, 1) := by decide +kernel
theorem dX5_take_47 : decode cX5_take 47 = .ok (.getfield 28, 3) := by decide +kernel
theorem dX5_take_50 : decode cX5_take 50 = .ok (.iadd, 1) := by decide +kernel
theorem dX5_take_51 : decode cX5_take 51 = .ok (.lload_n 1, 1) := by decide +kernel
theorem dX5_take_52 : decode cX5_take 52 = .ok (.invokevirtual 59, 3) := by decide +kernel
theorem dX5_take_55 : decode cX5_take 55 = .ok (.ifCond .eq 16, 3) := by decide +kernel
theorem dX5_take_58 : decode cX5_take 58 = .ok (.aload_n 0, 1) := by decide +kernel
theorem dX5_take_59 : decode cX5_take 59 = .ok (.dup, 1) := by decide +kernel
theorem dX5_take_60 : decode cX5_take 60 = .ok (.getfield 28, 3) := by decide +kernel
theorem dX5_take_63 : decode cX5_take 63 = .ok (.iconst 1, 1) := by decide +kernel
theorem dX5_take_64 : decode cX5_take 64 = .ok (.iadd, 1) := by decide +kernel
theorem dX5_take_65 : decode cX5_take 65 = .ok (.putfield 28, 3) := by decide +kernel
theorem dX5_take_68 : decode cX5_take 68 = .ok (.goto (-36), 3) := by decide +kernel
theorem dX5_take_71 : decode cX5_take 71 = .ok (.return_, 1) := by decide +kernel
theorem dX5_isRunAt_0 : decode cX5_isRunAt 0 = .ok (.aload_n 0, 1) := by decide +kernel
theorem dX5_isRunAt_1 : decode cX5_isRunAt 1 = .ok (.getfield 12, 3) := by decide +kernel
theorem dX5_isRunAt_4 : decode cX5_isRunAt 4 = .ok (.iload_n 1, 1) := by decide +kernel
theorem dX5_isRunAt_5 : decode cX5_isRunAt 5 = .ok (.invokevirtual 45, 3) := by decide +kernel
theorem dX5_isRunAt_8 : decode cX5_isRunAt 8 = .ok (.lload_n 2, 1) := by decide +kernel
theorem dX5_isRunAt_9 : decode cX5_isRunAt 9 = .ok (.lload_n 2, 1) := by decide +kernel
theorem dX5_isRunAt_10 : decode cX5_isRunAt 10 = .ok (.iconst 1, 1) := by decide +kernel
theorem dX5_isRunAt_11 : decode cX5_isRunAt 11 = .ok (.lshl, 1) := by decide +kernel
theorem dX5_isRunAt_12 : decode cX5_isRunAt 12 = .ok (.lor, 1) := by decide +kernel
theorem dX5_isRunAt_13 : decode cX5_isRunAt 13 = .ok (.lload_n 2, 1) := by decide +kernel
theorem dX5_isRunAt_14 : decode cX5_isRunAt 14 = .ok (.iconst 1, 1) := by decide +kernel
theorem dX5_isRunAt_15 : decode cX5_isRunAt 15 = .ok (.lushr, 1) := by decide +kernel
theorem dX5_isRunAt_16 : decode cX5_isRunAt 16 = .ok (.lor, 1) := by decide +kernel
theorem dX5_isRunAt_17 : decode cX5_isRunAt 17 = .ok (.land, 1) := by decide +kernel
theorem dX5_isRunAt_18 : decode cX5_isRunAt 18 = .ok (.lload_n 2, 1) := by decide +kernel
theorem dX5_isRunAt_19 : decode cX5_isRunAt 19 = .ok (.lcmp, 1) := by decide +kernel
theorem dX5_isRunAt_20 : decode cX5_isRunAt 20 = .ok (.ifCond .ne 7, 3) := by decide +kernel
theorem dX5_isRunAt_23 : decode cX5_isRunAt 23 = .ok (.iconst 1, 1) := by decide +kernel
theorem dX5_isRunAt_24 : decode cX5_isRunAt 24 = .ok (.goto 4, 3) := by decide +kernel
theorem dX5_isRunAt_27 : decode cX5_isRunAt 27 = .ok (.iconst 0, 1) := by decide +kernel
theorem dX5_isRunAt_28 : decode cX5_isRunAt 28 = .ok (.ireturn, 1) := by decide +kernel
theorem dX5_firstRun_0 : decode cX5_firstRun 0 = .ok (.lload_n 0, 1) := by decide +kernel
theorem dX5_firstRun_1 : decode cX5_firstRun 1 = .ok (.lload_n 0, 1) := by decide +kernel
theorem dX5_firstRun_2 : decode cX5_firstRun 2 = .ok (.lload_n 0, 1) := by decide +kernel
theorem dX5_firstRun_3 : decode cX5_firstRun 3 = .ok (.lload_n 0, 1) := by decide +kernel
theorem dX5_firstRun_4 : decode cX5_firstRun 4 = .ok (.lneg, 1) := by decide +kernel
theorem dX5_firstRun_5 : decode cX5_firstRun 5 = .ok (.land, 1) := by decide +kernel
theorem dX5_firstRun_6 : decode cX5_firstRun 6 = .ok (.ladd, 1) := by decide +kernel
theorem dX5_firstRun_7 : decode cX5_firstRun 7 = .ok (.ldc2_w 57, 3) := by decide +kernel
theorem dX5_firstRun_10 : decode cX5_firstRun 10 = .ok (.lxor, 1) := by decide +kernel
theorem dX5_firstRun_11 : decode cX5_firstRun 11 = .ok (.land, 1) := by decide +kernel
theorem dX5_firstRun_12 : decode cX5_firstRun 12 = .ok (.lreturn, 1) := by decide +kernel
theorem dX6_init_0 : decode cX6_init 0 = .ok (.aload_n 0, 1) := by decide +kernel
theorem dX6_init_1 : decode cX6_init 1 = .ok (.invokespecial 3, 3) := by decide +kernel
theorem dX6_init_4 : decode cX6_init 4 = .ok (.aload_n 0, 1) := by decide +kernel
theorem dX6_init_5 : decode cX6_init 5 = .ok (.bipush 8, 2) := by decide +kernel
theorem dX6_init_7 : decode cX6_init 7 = .ok (.anewarray 9, 3) := by decide +kernel
theorem dX6_init_10 : decode cX6_init 10 = .ok (.putfield 11, 3) := by decide +kernel
theorem dX6_init_13 : decode cX6_init 13 = .ok (.aload_n 0, 1) := by decide +kernel
theorem dX6_init_14 : decode cX6_init 14 = .ok (.new 9, 3) := by decide +kernel
theorem dX6_init_17 : decode cX6_init 17 = .ok (.dup, 1) := by decide +kernel
theorem dX6_init_18 : decode cX6_init 18 = .ok (.invokespecial 15, 3) := by decide +kernel
theorem dX6_init_21 : decode cX6_init 21 = .ok (.putfield 16, 3) := by decide +kernel
theorem dX6_init_24 : decode cX6_init 24 = .ok (.aload_n 0, 1) := by decide +kernel
theorem dX6_init_25 : decode cX6_init 25 = .ok (.new 20, 3) := by decide +kernel
theorem dX6_init_28 : decode cX6_init 28 = .ok (.dup, 1) := by decide +kernel
theorem dX6_init_29 : decode cX6_init 29 = .ok (.invokespecial 22, 3) := by decide +kernel
theorem dX6_init_32 : decode cX6_init 32 = .ok (.putfield 23, 3) := by decide +kernel
theorem dX6_init_35 : decode cX6_init 35 = .ok (.aload_n 0, 1) := by decide +kernel
theorem dX6_init_36 : decode cX6_init 36 = .ok (.new 27, 3) := by decide +kernel
theorem dX6_init_39 : decode cX6_init 39 = .ok (.dup, 1) := by decide +kernel
theorem dX6_init_40 : decode cX6_init 40 = .ok (.invokespecial 29, 3) := by decide +kernel
theorem dX6_init_43 : decode cX6_init 43 = .ok (.putfield 30, 3) := by decide +kernel
theorem dX6_init_46 : decode cX6_init 46 = .ok (.aload_n 0, 1) := by decide +kernel
theorem dX6_init_47 : decode cX6_init 47 = .ok (.new 34, 3) := by decide +kernel
theorem dX6_init_50 : decode cX6_init 50 = .ok (.dup, 1) := by decide +kernel
theorem dX6_init_51 : decode cX6_init 51 = .ok (.invokespecial 36, 3) := by decide +kernel
theorem dX6_init_54 : decode cX6_init 54 = .ok (.putfield 37, 3) := by decide +kernel
theorem dX6_init_57 : decode cX6_init 57 = .ok (.aload_n 0, 1) := by decide +kernel
theorem dX6_init_58 : decode cX6_init 58 = .ok (.new 41, 3) := by decide +kernel
theorem dX6_init_61 : decode cX6_init 61 = .ok (.dup, 1) := by decide +kernel
theorem dX6_init_62 : decode cX6_init 62 = .ok (.invokespecial 43, 3) := by decide +kernel
theorem dX6_init_65 : decode cX6_init 65 = .ok (.putfield 44, 3) := by decide +kernel
theorem dX6_init_68 : decode cX6_init 68 = .ok (.aload_n 0, 1) := by decide +kernel
theorem dX6_init_69 : decode cX6_init 69 = .ok (.new 48, 3) := by decide +kernel
theorem dX6_init_72 : decode cX6_init 72 = .ok (.dup, 1) := by decide +kernel
theorem dX6_init_73 : decode cX6_init 73 = .ok (.invokespecial 50, 3) := by decide +kernel
theorem dX6_init_76 : decode cX6_init 76 = .ok (.putfield 51, 3) := by decide +kernel
theorem dX6_init_79 : decode cX6_init 79 = .ok (.iconst 0, 1) := by decide +kernel
theorem dX6_init_80 : decode cX6_init 80 = .ok (.istore_n 1, 1) := by decide +kernel
theorem dX6_init_81 : decode cX6_init 81 = .ok (.iload_n 1, 1) := by decide +kernel
theorem dX6_init_82 : decode cX6_init 82 = .ok (.aload_n 0, 1) := by decide +kernel
theorem dX6_init_83 : decode cX6_init 83 = .ok (.getfield 11, 3) := by decide +kernel
theorem dX6_init_86 : decode cX6_init 86 = .ok (.arraylength, 1) := by decide +kernel
theorem dX6_init_87 : decode cX6_init 87 = .ok (.if_icmp .ge 22, 3) := by decide +kernel
theorem dX6_init_90 : decode cX6_init 90 = .ok (.aload_n 0, 1) := by decide +kernel
theorem dX6_init_91 : decode cX6_init 91 = .ok (.getfield 11, 3) := by decide +kernel
theorem dX6_init_94 : decode cX6_init 94 = .ok (.iload_n 1, 1) := by decide +kernel
theorem dX6_init_95 : decode cX6_init 95 = .ok (.new 9, 3) := by decide +kernel
theorem dX6_init_98 : decode cX6_init 98 = .ok (.dup, 1) := by decide +kernel
theorem dX6_init_99 : decode cX6_init 99 = .ok (.invokespecial 15, 3) := by decide +kernel
theorem dX6_init_102 : decode cX6_init 102 = .ok (.aastore, 1) := by decide +kernel
theorem dX6_init_103 : decode cX6_init 103 = .ok (.iinc 1 1, 3) := by decide +kernel
theorem dX6_init_106 : decode cX6_init 106 = .ok (.goto (-25), 3) := by decide +kernel
theorem dX6_init_109 : decode cX6_init 109 = .ok (.return_, 1) := by decide +kernel
theorem dX6_moveTo_0 : decode cX6_moveTo 0 = .ok (.iload_n 1, 1) := by decide +kernel
theorem dX6_moveTo_1 : decode cX6_moveTo 1 = .ok (.i2l, 1) := by decide +kernel
theorem dX6_moveTo_2 : decode cX6_moveTo 2 = .ok (.invokestatic 55, 3) := by decide +kernel
theorem dX6_moveTo_5 : decode cX6_moveTo 5 = .ok (.ifCond .eq 11, 3) := by decide +kernel
theorem dX6_moveTo_8 : decode cX6_moveTo 8 = .ok (.iload_n 2, 1) := by decide +kernel
theorem dX6_moveTo_9 : decode cX6_moveTo 9 = .ok (.i2l, 1) := by decide +kernel
theorem dX6_moveTo_10 : decode cX6_moveTo 10 = .ok (.invokestatic 55, 3) := by decide +kernel
theorem dX6_moveTo_13 : decode cX6_moveTo 13 = .ok (.ifCond .ne 13, 3) := by decide +kernel
theorem dX6_moveTo_16 : decode cX6_moveTo 16 = .ok (.new 59, 3) := by decide +kernel
theorem dX6_moveTo_19 : decode cX6_moveTo 19 = .ok (.dup, 1) := by decide +kernel
theorem dX6_moveTo_20 : decode cX6_moveTo 20 = .ok (.ldc 61, 2) := by decide +kernel
theorem dX6_moveTo_22 : decode cX6_moveTo 22 = .ok (.invokespecial 63, 3) := by decide +kernel
theorem dX6_moveTo_25 : decode cX6_moveTo 25 = .ok (.athrow, 1) := by decide +kernel
theorem dX6_moveTo_26 : decode cX6_moveTo 26 = .ok (.aload_n 0, 1) := by decide +kernel
theorem dX6_moveTo_27 : decode cX6_moveTo 27 = .ok (.getfield 23, 3) := by decide +kernel
theorem dX6_moveTo_30 : decode cX6_moveTo 30 = .ok (.invokevirtual 66, 3) := by decide +kernel
theorem dX6_moveTo_33 : decode cX6_moveTo 33 = .ok (.istore_n 3, 1) := by decide +kernel
theorem dX6_moveTo_34 : decode cX6_moveTo 34 = .ok (.aload_n 0, 1) := by decide +kernel
theorem dX6_moveTo_35 : decode cX6_moveTo 35 = .ok (.getfield 23, 3) := by decide +kernel
theorem dX6_moveTo_38 : decode cX6_moveTo 38 = .ok (.iload_n 1, 1) := by decide +kernel
theorem dX6_moveTo_39 : decode cX6_moveTo 39 = .ok (.iload_n 2, 1) := by decide +kernel
theorem dX6_moveTo_40 : decode cX6_moveTo 40 = .ok (.invokevirtual 70, 3) := by decide +kernel
theorem dX6_moveTo_43 : decode cX6_moveTo 43 = .ok (.iload_n 3, 1) := by decide +kernel
theorem dX6_moveTo_44 : decode cX6_moveTo 44 = .ok (.ireturn, 1) := by decide +kernel
theorem dX6_lineX_0 : decode cX6_lineX 0 = .ok (.aload_n 0, 1) := by decide +kernel
theorem dX6_lineX_1 : decode cX6_lineX 1 = .ok (.getfield 23, 3) := by decide +kernel
theorem dX6_lineX_4 : decode cX6_lineX 4 = .ok (.invokevirtual 74, 3) := by decide +kernel
theorem dX6_lineX_7 : decode cX6_lineX 7 = .ok (.i2l, 1) := by decide +kernel
theorem dX6_lineX_8 : decode cX6_lineX 8 = .ok (.iload_n 1, 1) := by decide +kernel
theorem dX6_lineX_9 : decode cX6_lineX 9 = .ok (.i2l, 1) := by decide +kernel
theorem dX6_lineX_10 : decode cX6_lineX 10 = .ok (.ladd, 1) := by decide +kernel
theorem dX6_lineX_11 : decode cX6_lineX 11 = .ok (.lstore_n 2, 1) := by decide +kernel
theorem dX6_lineX_12 : decode cX6_lineX 12 = .ok (.aload_n 0, 1) := by decide +kernel
theorem dX6_lineX_13 : decode cX6_lineX 13 = .ok (.iload_n 1, 1) := by decide +kernel
theorem dX6_lineX_14 : decode cX6_lineX 14 = .ok (.lload_n 2, 1) := by decide +kernel
theorem dX6_lineX_15 : decode cX6_lineX 15 = .ok (.invokevirtual 77, 3) := by decide +kernel
theorem dX6_lineX_18 : decode cX6_lineX 18 = .ok (.iload_n 1, 1) := by decide +kernel
theorem dX6_lineX_19 : decode cX6_lineX 19 = .ok (.ifCond .eq 19, 3) := by decide +kernel
theorem dX6_lineX_22 : decode cX6_lineX 22 = .ok (.aload_n 0, 1) := by decide +kernel
theorem dX6_lineX_23 : decode cX6_lineX 23 = .ok (.getfield 23, 3) := by decide +kernel
theorem dX6_lineX_26 : decode cX6_lineX 26 = .ok (.lload_n 2, 1) := by decide +kernel
theorem dX6_lineX_27 : decode cX6_lineX 27 = .ok (.l2i, 1) := by decide +kernel
theorem dX6_lineX_28 : decode cX6_lineX 28 = .ok (.aload_n 0, 1) := by decide +kernel
theorem dX6_lineX_29 : decode cX6_lineX 29 = .ok (.getfield 23, 3) := by decide +kernel
theorem dX6_lineX_32 : decode cX6_lineX 32 = .ok (.invokevirtual 81, 3) := by decide +kernel
theorem dX6_lineX_35 : decode cX6_lineX 35 = .ok (.invokevirtual 84, 3) := by decide +kernel
theorem dX6_lineX_38 : decode cX6_lineX 38 = .ok (.aload_n 0, 1) := by decide +kernel
theorem dX6_lineX_39 : decode cX6_lineX 39 = .ok (.getfield 23, 3) := by decide +kernel
theorem dX6_lineX_42 : decode cX6_lineX 42 = .ok (.invokevirtual 74, 3) := by decide +kernel
theorem dX6_lineX_45 : decode cX6_lineX 45 = .ok (.ireturn, 1) := by decide +kernel
theorem dX6_lineY_0 : decode cX6_lineY 0 = .ok (.aload_n 0, 1) := by decide +kernel
theorem dX6_lineY_1 : decode cX6_lineY 1 = .ok (.getfield 23, 3) := by decide +kernel
theorem dX6_lineY_4 : decode cX6_lineY 4 = .ok (.invokevirtual 81, 3) := by decide +kernel
theorem dX6_lineY_7 : decode cX6_lineY 7 = .ok (.i2l, 1) := by decide +kernel
theorem dX6_lineY_8 : decode cX6_lineY 8 = .ok (.iload_n 1, 1) := by decide +kernel
theorem dX6_lineY_9 : decode cX6_lineY 9 = .ok (.i2l, 1) := by decide +kernel
theorem dX6_lineY_10 : decode cX6_lineY 10 = .ok (.ladd, 1) := by decide +kernel
theorem dX6_lineY_11 : decode cX6_lineY 11 = .ok (.lstore_n 2, 1) := by decide +kernel
theorem dX6_lineY_12 : decode cX6_lineY 12 = .ok (.aload_n 0, 1) := by decide +kernel
theorem dX6_lineY_13 : decode cX6_lineY 13 = .ok (.iload_n 1, 1) := by decide +kernel
theorem dX6_lineY_14 : decode cX6_lineY 14 = .ok (.lload_n 2, 1) := by decide +kernel
theorem dX6_lineY_15 : decode cX6_lineY 15 = .ok (.invokevirtual 77, 3) := by decide +kernel
theorem dX6_lineY_18 : decode cX6_lineY 18 = .ok (.iload_n 1, 1) := by decide +kernel
theorem dX6_lineY_19 : decode cX6_lineY 19 = .ok (.ifCond .eq 19, 3) := by decide +kernel
theorem dX6_lineY_22 : decode cX6_lineY 22 = .ok (.aload_n 0, 1) := by decide +kernel
theorem dX6_lineY_23 : decode cX6_lineY 23 = .ok (.getfield 23, 3) := by decide +kernel
theorem dX6_lineY_26 : decode cX6_lineY 26 = .ok (.aload_n 0, 1) := by decide +kernel
theorem dX6_lineY_27 : decode cX6_lineY 27 = .ok (.getfield 23, 3) := by decide +kernel
theorem dX6_lineY_30 : decode cX6_lineY 30 = .ok (.invokevirtual 74, 3) := by decide +kernel
theorem dX6_lineY_33 : decode cX6_lineY 33 = .ok (.lload_n 2, 1) := by decide +kernel
theorem dX6_lineY_34 : decode cX6_lineY 34 = .ok (.l2i, 1) := by decide +kernel
theorem dX6_lineY_35 : decode cX6_lineY 35 = .ok (.invokevirtual 84, 3) := by decide +kernel
theorem dX6_lineY_38 : decode cX6_lineY 38 = .ok (.aload_n 0, 1) := by decide +kernel
theorem dX6_lineY_39 : decode cX6_lineY 39 = .ok (.getfield 23, 3) := by decide +kernel
theorem dX6_lineY_42 : decode cX6_lineY 42 = .ok (.invokevirtual 81, 3) := by decide +kernel
theorem dX6_lineY_45 : decode cX6_lineY 45 = .ok (.ireturn, 1) := by decide +kernel
theorem dX6_close_0 : decode cX6_close 0 = .ok (.aload_n 0, 1) := by decide +kernel
theorem dX6_close_1 : decode cX6_close 1 = .ok (.iload_n 1, 1) := by decide +kernel
theorem dX6_close_2 : decode cX6_close 2 = .ok (.invokevirtual 87, 3) := by decide +kernel
theorem dX6_close_5 : decode cX6_close 5 = .ok (.astore_n 3, 1) := by decide +kernel
theorem dX6_close_6 : decode cX6_close 6 = .ok (.iconst 0, 1) := by decide +kernel
theorem dX6_close_7 : decode cX6_close 7 = .ok (.iload_n 2, 1) := by decide +kernel
theorem dX6_close_8 : decode cX6_close 8 = .ok (.iconst 1, 1) := by decide +kernel
theorem dX6_close_9 : decode cX6_close 9 = .ok (.invokestatic 91, 3) := by decide +kernel
theorem dX6_close_12 : decode cX6_close 12 = .ok (.ifCond .ne 13, 3) := by decide +kernel
theorem dX6_close_15 : decode cX6_close 15 = .ok (.new 59, 3) := by decide +kernel
theorem dX6_close_18 : decode cX6_close 18 = .ok (.dup, 1) := by decide +kernel
theorem dX6_close_19 : decode cX6_close 19 = .ok (.ldc 95, 2) := by decide +kernel
theorem dX6_close_21 : decode cX6_close 21 = .ok (.invokespecial 63, 3) := by decide +kernel
theorem dX6_close_24 : decode cX6_close 24 = .ok (.athrow, 1) := by decide +kernel
theorem dX6_close_25 : decode cX6_close 25 = .ok (.aload_n 0, 1) := by decide +kernel
theorem dX6_close_26 : decode cX6_close 26 = .ok (.getfield 30, 3) := by decide +kernel
theorem dX6_close_29 : decode cX6_close 29 = .ok (.iload_n 1, 1) := by decide +kernel
theorem dX6_close_30 : decode cX6_close 30 = .ok (.aload_n 3, 1) := by decide +kernel
theorem dX6_close_31 : decode cX6_close 31 = .ok (.invokevirtual 97, 3) := by decide +kernel
theorem dX6_close_34 : decode cX6_close 34 = .ok (.aload_n 0, 1) := by decide +kernel
theorem dX6_close_35 : decode cX6_close 35 = .ok (.getfield 23, 3) := by decide +kernel
theorem dX6_close_38 : decode cX6_close 38 = .ok (.aload_n 3, 1) := by decide +kernel
theorem dX6_close_39 : decode cX6_close 39 = .ok (.iload_n 2, 1) := by decide +kernel
theorem dX6_close_40 : decode cX6_close 40 = .ok (.invokevirtual 101, 3) := by decide +kernel
theorem dX6_close_43 : decode cX6_close 43 = .ok (.aload_n 0, 1) := by decide +kernel
theorem dX6_close_44 : decode cX6_close 44 = .ok (.getfield 23, 3) := by decide +kernel
theorem dX6_close_47 : decode cX6_close 47 = .ok (.invokevirtual 105, 3) := by decide +kernel
theorem dX6_close_50 : decode cX6_close 50 = .ok (.aload_n 3, 1) := by decide +kernel
theorem dX6_close_51 : decode cX6_close 51 = .ok (.invokevirtual 108, 3) := by decide +kernel
theorem dX6_close_54 : decode cX6_close 54 = .ok (.ireturn, 1) := by decide +kernel
theorem dX6_points_0 : decode cX6_points 0 = .ok (.aload_n 0, 1) := by decide +kernel
theorem dX6_points_1 : decode cX6_points 1 = .ok (.getfield 23, 3) := by decide +kernel
theorem dX6_points_4 : decode cX6_points 4 = .ok (.invokevirtual 66, 3) := by decide +kernel
theorem dX6_points_7 : decode cX6_points 7 = .ok (.ireturn, 1) := by decide +kernel
theorem dX6_addRectangle_0 : decode cX6_addRectangle 0 = .ok (.aload_n 0, 1) := by decide +kernel
theorem dX6_addRectangle_1 : decode cX6_addRectangle 1 = .ok (.iload_n 1, 1) := by decide +kernel
theorem dX6_addRectangle_2 : decode cX6_addRectangle 2 = .ok (.invokevirtual 87, 3) := by decide +kernel
theorem dX6_addRectangle_5 : decode cX6_addRectangle 5 = .ok (.astore 6, 2) := by decide +kernel
theorem dX6_addRectangle_7 : decode cX6_addRectangle 7 = .ok (.iconst 1, 1) := by decide +kernel
theorem dX6_addRectangle_8 : decode cX6_addRectangle 8 = .ok (.iload 4, 2) := by decide +kernel
theorem dX6_addRectangle_10 : decode cX6_addRectangle 10 = .ok (.bipush 64, 2) := by decide +kernel
theorem dX6_addRectangle_12 : decode cX6_addRectangle 12 = .ok (.invokestatic 91, 3) := by decide +kernel
theorem dX6_addRectangle_15 : decode cX6_addRectangle 15 = .ok (.ifCond .eq 14, 3) := by decide +kernel
theorem dX6_addRectangle_18 : decode cX6_addRectangle 18 = .ok (.iconst 1, 1) := by decide +kernel
theorem dX6_addRectangle_19 : decode cX6_addRectangle 19 = .ok (.iload 5, 2) := by decide +kernel
theorem dX6_addRectangle_21 : decode cX6_addRectangle 21 = .ok (.bipush 64, 2) := by decide +kernel
theorem dX6_addRectangle_23 : decode cX6_addRectangle 23 = .ok (.invokestatic 91, 3) := by decide +kernel
theorem dX6_addRectangle_26 : decode cX6_addRectangle 26 = .ok (.ifCond .ne 13, 3) := by decide +kernel
theorem dX6_addRectangle_29 : decode cX6_addRectangle 29 = .ok (.new 59, 3) := by decide +kernel
theorem dX6_addRectangle_32 : decode cX6_addRectangle 32 = .ok (.dup, 1) := by decide +kernel
theorem dX6_addRectangle_33 : decode cX6_addRectangle 33 = .ok (.ldc 111, 2) := by decide +kernel
theorem dX6_addRectangle_35 : decode cX6_addRectangle 35 = .ok (.invokespecial 63, 3) := by decide +kernel
theorem dX6_addRectangle_38 : decode cX6_addRectangle 38 = .ok (.athrow, 1) := by decide +kernel
theorem dX6_addRectangle_39 : decode cX6_addRectangle 39 = .ok (.iload_n 2, 1) := by decide +kernel
theorem dX6_addRectangle_40 : decode cX6_addRectangle 40 = .ok (.i2l, 1) := by decide +kernel
theorem dX6_addRectangle_41 : decode cX6_addRectangle 41 = .ok (.iload_n 2, 1) := by decide +kernel
theorem dX6_addRectangle_42 : decode cX6_addRectangle 42 = .ok (.i2l, 1) := by decide +kernel
theorem dX6_addRectangle_43 : decode cX6_addRectangle 43 = .ok (.iload 4, 2) := by decide +kernel
theorem dX6_addRectangle_45 : decode cX6_addRectangle 45 = .ok (.i2l, 1) := by decide +kernel
theorem dX6_addRectangle_46 : decode cX6_addRectangle 46 = .ok (.ladd, 1) := by decide +kernel
theorem dX6_addRectangle_47 : decode cX6_addRectangle 47 = .ok (.lconst 1, 1) := by decide +kernel
theorem dX6_addRectangle_48 : decode cX6_addRectangle 48 = .ok (.lsub, 1) := by decide +kernel
theorem dX6_addRectangle_49 : decode cX6_addRectangle 49 = .ok (.invokestatic 113, 3) := by decide +kernel
theorem dX6_addRectangle_52 : decode cX6_addRectangle 52 = .ok (.iload_n 3, 1) := by decide +kernel
theorem dX6_addRectangle_53 : decode cX6_addRectangle 53 = .ok (.i2l, 1) := by decide +kernel
theorem dX6_addRectangle_54 : decode cX6_addRectangle 54 = .ok (.iload_n 3, 1) := by decide +kernel
theorem dX6_addRectangle_55 : decode cX6_addRectangle 55 = .ok (.i2l, 1) := by decide +kernel
theorem dX6_addRectangle_56 : decode cX6_addRectangle 56 = .ok (.iload 5, 2) := by decide +kernel
theorem dX6_addRectangle_58 : decode cX6_addRectangle 58 = .ok (.i2l, 1) := by decide +kernel
theorem dX6_addRectangle_59 : decode cX6_addRectangle 59 = .ok (.ladd, 1) := by decide +kernel
theorem dX6_addRectangle_60 : decode cX6_addRectangle 60 = .ok (.lconst 1, 1) := by decide +kernel
theorem dX6_addRectangle_61 : decode cX6_addRectangle 61 = .ok (.lsub, 1) := by decide +kernel
theorem dX6_addRectangle_62 : decode cX6_addRectangle 62 = .ok (.invokestatic 113, 3) := by decide +kernel
theorem dX6_addRectangle_65 : decode cX6_addRectangle 65 = .ok (.aload_n 0, 1) := by decide +kernel
theorem dX6_addRectangle_66 : decode cX6_addRectangle 66 = .ok (.getfield 30, 3) := by decide +kernel
theorem dX6_addRectangle_69 : decode cX6_addRectangle 69 = .ok (.iload_n 1, 1) := by decide +kernel
theorem dX6_addRectangle_70 : decode cX6_addRectangle 70 = .ok (.aload 6, 2) := by decide +kernel
theorem dX6_addRectangle_72 : decode cX6_addRectangle 72 = .ok (.invokevirtual 97, 3) := by decide +kernel
theorem dX6_addRectangle_75 : decode cX6_addRectangle 75 = .ok (.ldc2_w 117, 3) := by decide +kernel
theorem dX6_addRectangle_78 : decode cX6_addRectangle 78 = .ok (.bipush 64, 2) := by decide +kernel
theorem dX6_addRectangle_80 : decode cX6_addRectangle 80 = .ok (.iload 4, 2) := by decide +kernel
theorem dX6_addRectangle_82 : decode cX6_addRectangle 82 = .ok (.isub, 1) := by decide +kernel
theorem dX6_addRectangle_83 : decode cX6_addRectangle 83 = .ok (.lushr, 1) := by decide +kernel
theorem dX6_addRectangle_84 : decode cX6_addRectangle 84 = .ok (.iload_n 2, 1) := by decide +kernel
theorem dX6_addRectangle_85 : decode cX6_addRectangle 85 = .ok (.bipush (-32), 2) := by decide +kernel
theorem dX6_addRectangle_87 : decode cX6_addRectangle 87 = .ok (.isub, 1) := by decide +kernel
theorem dX6_addRectangle_88 : decode cX6_addRectangle 88 = .ok (.lshl, 1) := by decide +kernel
theorem dX6_addRectangle_89 : decode cX6_addRectangle 89 = .ok (.lstore 7, 2) := by decide +kernel
theorem dX6_addRectangle_91 : decode cX6_addRectangle 91 = .ok (.iconst 0, 1) := by decide +kernel
theorem dX6_addRectangle_92 : decode cX6_addRectangle 92 = .ok (.istore 9, 2) := by decide +kernel
theorem dX6_addRectangle_94 : decode cX6_addRectangle 94 = .ok (.iload 9, 2) := by decide +kernel
theorem dX6_addRectangle_96 : decode cX6_addRectangle 96 = .ok (.iload 5, 2) := by decide +kernel
theorem dX6_addRectangle_98 : decode cX6_addRectangle 98 = .ok (.if_icmp .ge 30, 3) := by decide +kernel
theorem dX6_addRectangle_101 : decode cX6_addRectangle 101 = .ok (.aload 6, 2) := by decide +kernel
theorem dX6_addRectangle_103 : decode cX6_addRectangle 103 = .ok (.iload_n 3, 1) := by decide +kernel
theorem dX6_addRectangle_104 : decode cX6_addRectangle 104 = .ok (.iload 9, 2) := by decide +kernel
theorem dX6_addRectangle_106 : decode cX6_addRectangle 106 = .ok (.iadd, 1) := by decide +kernel
theorem dX6_addRectangle_107 : decode cX6_addRectangle 107 = .ok (.aload 6, 2) := by decide +kernel
theorem dX6_addRectangle_109 : decode cX6_addRectangle 109 = .ok (.iload_n 3, 1) := by decide +kernel
theorem dX6_addRectangle_110 : decode cX6_addRectangle 110 = .ok (.iload 9, 2) := by decide +kernel
theorem dX6_addRectangle_112 : decode cX6_addRectangle 112 = .ok (.iadd, 1) := by decide +kernel
theorem dX6_addRectangle_113 : decode cX6_addRectangle 113 = .ok (.invokevirtual 119, 3) := by decide +kernel
theorem dX6_addRectangle_116 : decode cX6_addRectangle 116 = .ok (.lload 7, 2) := by decide +kernel
theorem dX6_addRectangle_118 : decode cX6_addRectangle 118 = .ok (.lor, 1) := by decide +kernel
theorem dX6_addRectangle_119 : decode cX6_addRectangle 119 = .ok (.invokevirtual 123, 3) := by decide +kernel
theorem dX6_addRectangle_122 : decode cX6_addRectangle 122 = .ok (.iinc 9 1, 3) := by decide +kernel
theorem dX6_addRectangle_125 : decode cX6_addRectangle 125 = .ok (.goto (-31), 3) := by decide +kernel
theorem dX6_addRectangle_128 : decode cX6_addRectangle 128 = .ok (.aload 6, 2) := by decide +kernel
theorem dX6_addRectangle_130 : decode cX6_addRectangle 130 = .ok (.invokevirtual 108, 3) := by decide +kernel
theorem dX6_addRectangle_133 : decode cX6_addRectangle 133 = .ok (.ireturn, 1) := by decide +kernel
theorem dX6_combine_0 : decode cX6_combine 0 = .ok (.aload_n 0, 1) := by decide +kernel
theorem dX6_combine_1 : decode cX6_combine 1 = .ok (.iload_n 1, 1) := by decide +kernel
theorem dX6_combine_2 : decode cX6_combine 2 = .ok (.invokevirtual 87, 3) := by decide +kernel
theorem dX6_combine_5 : decode cX6_combine 5 = .ok (.astore 5, 2) := by decide +kernel
theorem dX6_combine_7 : decode cX6_combine 7 = .ok (.aload_n 0, 1) := by decide +kernel
theorem dX6_combine_8 : decode cX6_combine 8 = .ok (.iload_n 2, 1) := by decide +kernel
theorem dX6_combine_9 : decode cX6_combine 9 = .ok (.invokevirtual 87, 3) := by decide +kernel
theorem dX6_combine_12 : decode cX6_combine 12 = .ok (.astore 6, 2) := by decide +kernel
theorem dX6_combine_14 : decode cX6_combine 14 = .ok (.aload_n 0, 1) := by decide +kernel
theorem dX6_combine_15 : decode cX6_combine 15 = .ok (.iload_n 3, 1) := by decide +kernel
theorem dX6_combine_16 : decode cX6_combine 16 = .ok (.invokevirtual 87, 3) := by decide +kernel
theorem dX6_combine_19 : decode cX6_combine 19 = .ok (.astore 7, 2) := by decide +kernel
theorem dX6_combine_21 : decode cX6_combine 21 = .ok (.iconst 0, 1) := by decide +kernel
theorem dX6_combine_22 : decode cX6_combine 22 = .ok (.iload 4, 2) := by decide +kernel
theorem dX6_combine_24 : decode cX6_combine 24 = .ok (.iconst 3, 1) := by decide +kernel
theorem dX6_combine_25 : decode cX6_combine 25 = .ok (.invokestatic 91, 3) := by decide +kernel
theorem dX6_combine_28 : decode cX6_combine 28 = .ok (.ifCond .ne 13, 3) := by decide +kernel
theorem dX6_combine_31 : decode cX6_combine 31 = .ok (.new 59, 3) := by decide +kernel
theorem dX6_combine_34 : decode cX6_combine 34 = .ok (.dup, 1) := by decide +kernel
theorem dX6_combine_35 : decode cX6_combine 35 = .ok (.ldc 126, 2) := by decide +kernel
theorem dX6_combine_37 : decode cX6_combine 37 = .ok (.invokespecial 63, 3) := by decide +kernel
theorem dX6_combine_40 : decode cX6_combine 40 = .ok (.athrow, 1) := by decide +kernel
theorem dX6_combine_41 : decode cX6_combine 41 = .ok (.aload_n 0, 1) := by decide +kernel
theorem dX6_combine_42 : decode cX6_combine 42 = .ok (.getfield 30, 3) := by decide +kernel
theorem dX6_combine_45 : decode cX6_combine 45 = .ok (.iload_n 1, 1) := by decide +kernel
theorem dX6_combine_46 : decode cX6_combine 46 = .ok (.aload 5, 2) := by decide +kernel
theorem dX6_combine_48 : decode cX6_combine 48 = .ok (.invokevirtual 97, 3) := by decide +kernel
theorem dX6_combine_51 : decode cX6_combine 51 = .ok (.bipush (-32), 2) := by decide +kernel
theorem dX6_combine_53 : decode cX6_combine 53 = .ok (.istore 8, 2) := by decide +kernel
