theorem dX4_remove_25 : decode cX4_remove 25 = .ok (.iload_n 2, 1) := by decide +kernel
theorem dX4_remove_26 : decode cX4_remove 26 = .ok (.aload_n 0, 1) := by decide +kernel
theorem dX4_remove_27 : decode cX4_remove 27 = .ok (.getfield 15, 3) := by decide +kernel
theorem dX4_remove_30 : decode cX4_remove 30 = .ok (.if_icmp .ge 27, 3) := by decide +kernel
theorem dX4_remove_33 : decode cX4_remove 33 = .ok (.aload_n 0, 1) := by decide +kernel
theorem dX4_remove_34 : decode cX4_remove 34 = .ok (.getfield 9, 3) := by decide +kernel
theorem dX4_remove_37 : decode cX4_remove 37 = .ok (.iload_n 2, 1) := by decide +kernel
theorem dX4_remove_38 : decode cX4_remove 38 = .ok (.aload_n 0, 1) := by decide +kernel
theorem dX4_remove_39 : decode cX4_remove 39 = .ok (.getfield 9, 3) := by decide +kernel
theorem dX4_remove_42 : decode cX4_remove 42 = .ok (.iload_n 2, 1) := by decide +kernel
theorem dX4_remove_43 : decode cX4_remove 43 = .ok (.iconst 1, 1) := by decide +kernel
theorem dX4_remove_44 : decode cX4_remove 44 = .ok (.iadd, 1) := by decide +kernel
theorem dX4_remove_45 : decode cX4_remove 45 = .ok (.invokestatic 19, 3) := by decide +kernel
theorem dX4_remove_48 : decode cX4_remove 48 = .ok (.invokestatic 27, 3) := by decide +kernel
theorem dX4_remove_51 : decode cX4_remove 51 = .ok (.iinc 2 1, 3) := by decide +kernel
theorem dX4_remove_54 : decode cX4_remove 54 = .ok (.goto (-29), 3) := by decide +kernel
theorem dX4_remove_57 : decode cX4_remove 57 = .ok (.return_, 1) := by decide +kernel
theorem dX5_init_0 : decode cX5_init 0 = .ok (.aload_n 0, 1) := by decide +kernel
theorem dX5_init_1 : decode cX5_init 1 = .ok (.invokespecial 3, 3) := by decide +kernel
theorem dX5_init_4 : decode cX5_init 4 = .ok (.aload_n 0, 1) := by decide +kernel
theorem dX5_init_5 : decode cX5_init 5 = .ok (.new 9, 3) := by decide +kernel
theorem dX5_init_8 : decode cX5_init 8 = .ok (.dup, 1) := by decide +kernel
theorem dX5_init_9 : decode cX5_init 9 = .ok (.invokespecial 11, 3) := by decide +kernel
theorem dX5_init_12 : decode cX5_init 12 = .ok (.putfield 12, 3) := by decide +kernel
theorem dX5_init_15 : decode cX5_init 15 = .ok (.aload_n 0, 1) := by decide +kernel
theorem dX5_init_16 : decode cX5_init 16 = .ok (.new 9, 3) := by decide +kernel
theorem dX5_init_19 : decode cX5_init 19 = .ok (.dup, 1) := by decide +kernel
theorem dX5_init_20 : decode cX5_init 20 = .ok (.invokespecial 11, 3) := by decide +kernel
theorem dX5_init_23 : decode cX5_init 23 = .ok (.putfield 18, 3) := by decide +kernel
theorem dX5_init_26 : decode cX5_init 26 = .ok (.aload_n 0, 1) := by decide +kernel
theorem dX5_init_27 : decode cX5_init 27 = .ok (.new 9, 3) := by decide +kernel
theorem dX5_init_30 : decode cX5_init 30 = .ok (.dup, 1) := by decide +kernel
theorem dX5_init_31 : decode cX5_init 31 = .ok (.invokespecial 11, 3) := by decide +kernel
theorem dX5_init_34 : decode cX5_init 34 = .ok (.putfield 21, 3) := by decide +kernel
theorem dX5_init_37 : decode cX5_init 37 = .ok (.return_, 1) := by decide +kernel
theorem dX5_in_0 : decode cX5_in 0 = .ok (.iload_n 1, 1) := by decide +kernel
theorem dX5_in_1 : decode cX5_in 1 = .ok (.iconst 1, 1) := by decide +kernel
theorem dX5_in_2 : decode cX5_in 2 = .ok (.if_icmp .ne 8, 3) := by decide +kernel
theorem dX5_in_5 : decode cX5_in 5 = .ok (.aload_n 0, 1) := by decide +kernel
theorem dX5_in_6 : decode cX5_in 6 = .ok (.getfield 18, 3) := by decide +kernel
theorem dX5_in_9 : decode cX5_in 9 = .ok (.areturn, 1) := by decide +kernel
theorem dX5_in_10 : decode cX5_in 10 = .ok (.iload_n 1, 1) := by decide +kernel
theorem dX5_in_11 : decode cX5_in 11 = .ok (.iconst 2, 1) := by decide +kernel
theorem dX5_in_12 : decode cX5_in 12 = .ok (.if_icmp .ne 10, 3) := by decide +kernel
theorem dX5_in_15 : decode cX5_in 15 = .ok (.aload_n 0, 1) := by decide +kernel
theorem dX5_in_16 : decode cX5_in 16 = .ok (.getfield 21, 3) := by decide +kernel
theorem dX5_in_19 : decode cX5_in 19 = .ok (.goto 7, 3) := by decide +kernel
theorem dX5_in_22 : decode cX5_in 22 = .ok (.aload_n 0, 1) := by decide +kernel
theorem dX5_in_23 : decode cX5_in 23 = .ok (.getfield 12, 3) := by decide +kernel
theorem dX5_in_26 : decode cX5_in 26 = .ok (.areturn, 1) := by decide +kernel
theorem dX5_size_0 : decode cX5_size 0 = .ok (.aload_n 0, 1) := by decide +kernel
theorem dX5_size_1 : decode cX5_size 1 = .ok (.getfield 12, 3) := by decide +kernel
theorem dX5_size_4 : decode cX5_size 4 = .ok (.invokevirtual 24, 3) := by decide +kernel
theorem dX5_size_7 : decode cX5_size 7 = .ok (.ireturn, 1) := by decide +kernel
theorem dX5_all_0 : decode cX5_all 0 = .ok (.aload_n 0, 1) := by decide +kernel
theorem dX5_all_1 : decode cX5_all 1 = .ok (.getfield 12, 3) := by decide +kernel
theorem dX5_all_4 : decode cX5_all 4 = .ok (.areturn, 1) := by decide +kernel
theorem dX5_holds_0 : decode cX5_holds 0 = .ok (.aload_n 0, 1) := by decide +kernel
theorem dX5_holds_1 : decode cX5_holds 1 = .ok (.getfield 12, 3) := by decide +kernel
theorem dX5_holds_4 : decode cX5_holds 4 = .ok (.iload_n 1, 1) := by decide +kernel
theorem dX5_holds_5 : decode cX5_holds 5 = .ok (.invokevirtual 28, 3) := by decide +kernel
theorem dX5_holds_8 : decode cX5_holds 8 = .ok (.ireturn, 1) := by decide +kernel
theorem dX5_insert_0 : decode cX5_insert 0 = .ok (.iconst 0, 1) := by decide +kernel
theorem dX5_insert_1 : decode cX5_insert 1 = .ok (.istore_n 2, 1) := by decide +kernel
theorem dX5_insert_2 : decode cX5_insert 2 = .ok (.iload_n 2, 1) := by decide +kernel
theorem dX5_insert_3 : decode cX5_insert 3 = .ok (.iconst 3, 1) := by decide +kernel
theorem dX5_insert_4 : decode cX5_insert 4 = .ok (.if_icmp .ge 22, 3) := by decide +kernel
theorem dX5_insert_7 : decode cX5_insert 7 = .ok (.aload_n 0, 1) := by decide +kernel
theorem dX5_insert_8 : decode cX5_insert 8 = .ok (.iload_n 2, 1) := by decide +kernel
theorem dX5_insert_9 : decode cX5_insert 9 = .ok (.invokevirtual 32, 3) := by decide +kernel
theorem dX5_insert_12 : decode cX5_insert 12 = .ok (.iload_n 1, 1) := by decide +kernel
theorem dX5_insert_13 : decode cX5_insert 13 = .ok (.iload_n 2, 1) := by decide +kernel
theorem dX5_insert_14 : decode cX5_insert 14 = .ok (.invokestatic 36, 3) := by decide +kernel
theorem dX5_insert_17 : decode cX5_insert 17 = .ok (.invokevirtual 40, 3) := by decide +kernel
theorem dX5_insert_20 : decode cX5_insert 20 = .ok (.iinc 2 1, 3) := by decide +kernel
theorem dX5_insert_23 : decode cX5_insert 23 = .ok (.goto (-21), 3) := by decide +kernel
theorem dX5_insert_26 : decode cX5_insert 26 = .ok (.return_, 1) := by decide +kernel
theorem dX5_remove_0 : decode cX5_remove 0 = .ok (.iconst 0, 1) := by decide +kernel
theorem dX5_remove_1 : decode cX5_remove 1 = .ok (.istore_n 2, 1) := by decide +kernel
theorem dX5_remove_2 : decode cX5_remove 2 = .ok (.iload_n 2, 1) := by decide +kernel
theorem dX5_remove_3 : decode cX5_remove 3 = .ok (.iconst 3, 1) := by decide +kernel
theorem dX5_remove_4 : decode cX5_remove 4 = .ok (.if_icmp .ge 22, 3) := by decide +kernel
theorem dX5_remove_7 : decode cX5_remove 7 = .ok (.aload_n 0, 1) := by decide +kernel
theorem dX5_remove_8 : decode cX5_remove 8 = .ok (.iload_n 2, 1) := by decide +kernel
theorem dX5_remove_9 : decode cX5_remove 9 = .ok (.invokevirtual 32, 3) := by decide +kernel
theorem dX5_remove_12 : decode cX5_remove 12 = .ok (.iload_n 1, 1) := by decide +kernel
theorem dX5_remove_13 : decode cX5_remove 13 = .ok (.iload_n 2, 1) := by decide +kernel
theorem dX5_remove_14 : decode cX5_remove 14 = .ok (.invokestatic 36, 3) := by decide +kernel
theorem dX5_remove_17 : decode cX5_remove 17 = .ok (.invokevirtual 44, 3) := by decide +kernel
theorem dX5_remove_20 : decode cX5_remove 20 = .ok (.iinc 2 1, 3) := by decide +kernel
theorem dX5_remove_23 : decode cX5_remove 23 = .ok (.goto (-21), 3) := by decide +kernel
theorem dX5_remove_26 : decode cX5_remove 26 = .ok (.return_, 1) := by decide +kernel
theorem dX5_triple_0 : decode cX5_triple 0 = .ok (.aload_n 0, 1) := by decide +kernel
theorem dX5_triple_1 : decode cX5_triple 1 = .ok (.iload_n 1, 1) := by decide +kernel
theorem dX5_triple_2 : decode cX5_triple 2 = .ok (.invokevirtual 32, 3) := by decide +kernel
theorem dX5_triple_5 : decode cX5_triple 5 = .ok (.iload_n 2, 1) := by decide +kernel
theorem dX5_triple_6 : decode cX5_triple 6 = .ok (.invokevirtual 47, 3) := by decide +kernel
theorem dX5_triple_9 : decode cX5_triple 9 = .ok (.iload_n 1, 1) := by decide +kernel
theorem dX5_triple_10 : decode cX5_triple 10 = .ok (.invokestatic 51, 3) := by decide +kernel
theorem dX5_triple_13 : decode cX5_triple 13 = .ok (.ireturn, 1) := by decide +kernel
theorem dX5_begin_0 : decode cX5_begin 0 = .ok (.aload_n 0, 1) := by decide +kernel
theorem dX5_begin_1 : decode cX5_begin 1 = .ok (.iload_n 1, 1) := by decide +kernel
theorem dX5_begin_2 : decode cX5_begin 2 = .ok (.invokevirtual 32, 3) := by decide +kernel
theorem dX5_begin_5 : decode cX5_begin 5 = .ok (.iload_n 2, 1) := by decide +kernel
theorem dX5_begin_6 : decode cX5_begin 6 = .ok (.iload_n 1, 1) := by decide +kernel
theorem dX5_begin_7 : decode cX5_begin 7 = .ok (.invokestatic 36, 3) := by decide +kernel
theorem dX5_begin_10 : decode cX5_begin 10 = .ok (.invokevirtual 54, 3) := by decide +kernel
theorem dX5_begin_13 : decode cX5_begin 13 = .ok (.ireturn, 1) := by decide +kernel
theorem dX5_end_0 : decode cX5_end 0 = .ok (.aload_n 0, 1) := by decide +kernel
theorem dX5_end_1 : decode cX5_end 1 = .ok (.iload_n 1, 1) := by decide +kernel
theorem dX5_end_2 : decode cX5_end 2 = .ok (.invokevirtual 32, 3) := by decide +kernel
theorem dX5_end_5 : decode cX5_end 5 = .ok (.iload_n 3, 1) := by decide +kernel
theorem dX5_end_6 : decode cX5_end 6 = .ok (.ldc 57, 2) := by decide +kernel
theorem dX5_end_8 : decode cX5_end 8 = .ok (.iload_n 2, 1) := by decide +kernel
theorem dX5_end_9 : decode cX5_end 9 = .ok (.iconst (-1), 1) := by decide +kernel
theorem dX5_end_10 : decode cX5_end 10 = .ok (.ixor, 1) := by decide +kernel
theorem dX5_end_11 : decode cX5_end 11 = .ok (.iand, 1) := by decide +kernel
theorem dX5_end_12 : decode cX5_end 12 = .ok (.ior, 1) := by decide +kernel
theorem dX5_end_13 : decode cX5_end 13 = .ok (.iload_n 1, 1) := by decide +kernel
theorem dX5_end_14 : decode cX5_end 14 = .ok (.invokestatic 36, 3) := by decide +kernel
theorem dX5_end_17 : decode cX5_end 17 = .ok (.iconst 1, 1) := by decide +kernel
theorem dX5_end_18 : decode cX5_end 18 = .ok (.iadd, 1) := by decide +kernel
theorem dX5_end_19 : decode cX5_end 19 = .ok (.invokevirtual 54, 3) := by decide +kernel
theorem dX5_end_22 : decode cX5_end 22 = .ok (.ireturn, 1) := by decide +kernel
theorem dX6_init_0 : decode cX6_init 0 = .ok (.aload_n 0, 1) := by decide +kernel
theorem dX6_init_1 : decode cX6_init 1 = .ok (.invokespecial 3, 3) := by decide +kernel
theorem dX6_init_4 : decode cX6_init 4 = .ok (.aload_n 0, 1) := by decide +kernel
theorem dX6_init_5 : decode cX6_init 5 = .ok (.bipush 64, 2) := by decide +kernel
theorem dX6_init_7 : decode cX6_init 7 = .ok (.newarray .int, 2) := by decide +kernel
theorem dX6_init_9 : decode cX6_init 9 = .ok (.putfield 9, 3) := by decide +kernel
theorem dX6_init_12 : decode cX6_init 12 = .ok (.aload_n 0, 1) := by decide +kernel
theorem dX6_init_13 : decode cX6_init 13 = .ok (.iconst 0, 1) := by decide +kernel
theorem dX6_init_14 : decode cX6_init 14 = .ok (.putfield 15, 3) := by decide +kernel
theorem dX6_init_17 : decode cX6_init 17 = .ok (.aload_n 0, 1) := by decide +kernel
theorem dX6_init_18 : decode cX6_init 18 = .ok (.iconst 0, 1) := by decide +kernel
theorem dX6_init_19 : decode cX6_init 19 = .ok (.putfield 19, 3) := by decide +kernel
theorem dX6_init_22 : decode cX6_init 22 = .ok (.aload_n 0, 1) := by decide +kernel
theorem dX6_init_23 : decode cX6_init 23 = .ok (.iconst 0, 1) := by decide +kernel
theorem dX6_init_24 : decode cX6_init 24 = .ok (.putfield 22, 3) := by decide +kernel
theorem dX6_init_27 : decode cX6_init 27 = .ok (.iload_n 1, 1) := by decide +kernel
theorem dX6_init_28 : decode cX6_init 28 = .ok (.iconst 0, 1) := by decide +kernel
theorem dX6_init_29 : decode cX6_init 29 = .ok (.invokestatic 26, 3) := by decide +kernel
theorem dX6_init_32 : decode cX6_init 32 = .ok (.istore_n 2, 1) := by decide +kernel
theorem dX6_init_33 : decode cX6_init 33 = .ok (.aload_n 0, 1) := by decide +kernel
theorem dX6_init_34 : decode cX6_init 34 = .ok (.iload_n 2, 1) := by decide +kernel
theorem dX6_init_35 : decode cX6_init 35 = .ok (.newarray .int, 2) := by decide +kernel
theorem dX6_init_37 : decode cX6_init 37 = .ok (.putfield 32, 3) := by decide +kernel
theorem dX6_init_40 : decode cX6_init 40 = .ok (.aload_n 0, 1) := by decide +kernel
theorem dX6_init_41 : decode cX6_init 41 = .ok (.iload_n 2, 1) := by decide +kernel
theorem dX6_init_42 : decode cX6_init 42 = .ok (.newarray .int, 2) := by decide +kernel
theorem dX6_init_44 : decode cX6_init 44 = .ok (.putfield 35, 3) := by decide +kernel
theorem dX6_init_47 : decode cX6_init 47 = .ok (.return_, 1) := by decide +kernel
theorem dX6_size_0 : decode cX6_size 0 = .ok (.aload_n 0, 1) := by decide +kernel
theorem dX6_size_1 : decode cX6_size 1 = .ok (.getfield 15, 3) := by decide +kernel
theorem dX6_size_4 : decode cX6_size 4 = .ok (.ireturn, 1) := by decide +kernel
theorem dX6_row_0 : decode cX6_row 0 = .ok (.aload_n 0, 1) := by decide +kernel
theorem dX6_row_1 : decode cX6_row 1 = .ok (.getfield 32, 3) := by decide +kernel
theorem dX6_row_4 : decode cX6_row 4 = .ok (.iload_n 1, 1) := by decide +kernel
theorem dX6_row_5 : decode cX6_row 5 = .ok (.invokestatic 38, 3) := by decide +kernel
theorem dX6_row_8 : decode cX6_row 8 = .ok (.ireturn, 1) := by decide +kernel
theorem dX6_isOver_0 : decode cX6_isOver 0 = .ok (.aload_n 0, 1) := by decide +kernel
theorem dX6_isOver_1 : decode cX6_isOver 1 = .ok (.getfield 22, 3) := by decide +kernel
theorem dX6_isOver_4 : decode cX6_isOver 4 = .ok (.ireturn, 1) := by decide +kernel
theorem dX6_beginEmpty_0 : decode cX6_beginEmpty 0 = .ok (.aload_n 0, 1) := by decide +kernel
theorem dX6_beginEmpty_1 : decode cX6_beginEmpty 1 = .ok (.iconst 0, 1) := by decide +kernel
theorem dX6_beginEmpty_2 : decode cX6_beginEmpty 2 = .ok (.putfield 15, 3) := by decide +kernel
theorem dX6_beginEmpty_5 : decode cX6_beginEmpty 5 = .ok (.aload_n 0, 1) := by decide +kernel
theorem dX6_beginEmpty_6 : decode cX6_beginEmpty 6 = .ok (.iconst 0, 1) := by decide +kernel
theorem dX6_beginEmpty_7 : decode cX6_beginEmpty 7 = .ok (.putfield 19, 3) := by decide +kernel
theorem dX6_beginEmpty_10 : decode cX6_beginEmpty 10 = .ok (.aload_n 0, 1) := by decide +kernel
theorem dX6_beginEmpty_11 : decode cX6_beginEmpty 11 = .ok (.iconst 0, 1) := by decide +kernel
theorem dX6_beginEmpty_12 : decode cX6_beginEmpty 12 = .ok (.putfield 22, 3) := by decide +kernel
theorem dX6_beginEmpty_15 : decode cX6_beginEmpty 15 = .ok (.return_, 1) := by decide +kernel
theorem dX6_beginWithNothingBound_0 : decode cX6_beginWithNothingBound 0 = .ok (.aload_n 0, 1) := by decide +kernel
theorem dX6_beginWithNothingBound_1 : decode cX6_beginWithNothingBound 1 = .ok (.invokevirtual 42, 3) := by decide +kernel
theorem dX6_beginWithNothingBound_4 : decode cX6_beginWithNothingBound 4 = .ok (.aload_n 0, 1) := by decide +kernel
theorem dX6_beginWithNothingBound_5 : decode cX6_beginWithNothingBound 5 = .ok (.iconst 0, 1) := by decide +kernel
theorem dX6_beginWithNothingBound_6 : decode cX6_beginWithNothingBound 6 = .ok (.invokevirtual 45, 3) := by decide +kernel
theorem dX6_beginWithNothingBound_9 : decode cX6_beginWithNothingBound 9 = .ok (.aload_n 0, 1) := by decide +kernel
theorem dX6_beginWithNothingBound_10 : decode cX6_beginWithNothingBound 10 = .ok (.invokevirtual 49, 3) := by decide +kernel
theorem dX6_beginWithNothingBound_13 : decode cX6_beginWithNothingBound 13 = .ok (.return_, 1) := by decide +kernel
theorem dX6_add_0 : decode cX6_add 0 = .ok (.aload_n 0, 1) := by decide +kernel
theorem dX6_add_1 : decode cX6_add 1 = .ok (.getfield 19, 3) := by decide +kernel
theorem dX6_add_4 : decode cX6_add 4 = .ok (.aload_n 0, 1) := by decide +kernel
theorem dX6_add_5 : decode cX6_add 5 = .ok (.getfield 35, 3) := by decide +kernel
theorem dX6_add_8 : decode cX6_add 8 = .ok (.arraylength, 1) := by decide +kernel
theorem dX6_add_9 : decode cX6_add 9 = .ok (.if_icmp .ge 28, 3) := by decide +kernel
theorem dX6_add_12 : decode cX6_add 12 = .ok (.aload_n 0, 1) := by decide +kernel
theorem dX6_add_13 : decode cX6_add 13 = .ok (.getfield 35, 3) := by decide +kernel
theorem dX6_add_16 : decode cX6_add 16 = .ok (.aload_n 0, 1) := by decide +kernel
theorem dX6_add_17 : decode cX6_add 17 = .ok (.getfield 19, 3) := by decide +kernel
theorem dX6_add_20 : decode cX6_add 20 = .ok (.iload_n 1, 1) := by decide +kernel
theorem dX6_add_21 : decode cX6_add 21 = .ok (.invokestatic 52, 3) := by decide +kernel
theorem dX6_add_24 : decode cX6_add 24 = .ok (.aload_n 0, 1) := by decide +kernel
theorem dX6_add_25 : decode cX6_add 25 = .ok (.dup, 1) := by decide +kernel
theorem dX6_add_26 : decode cX6_add 26 = .ok (.getfield 19, 3) := by decide +kernel
theorem dX6_add_29 : decode cX6_add 29 = .ok (.iconst 1, 1) := by decide +kernel
theorem dX6_add_30 : decode cX6_add 30 = .ok (.iadd, 1) := by decide +kernel
theorem dX6_add_31 : decode cX6_add 31 = .ok (.putfield 19, 3) := by decide +kernel
theorem dX6_add_34 : decode cX6_add 34 = .ok (.goto 8, 3) := by decide +kernel
theorem dX6_add_37 : decode cX6_add 37 = .ok (.aload_n 0, 1) := by decide +kernel
theorem dX6_add_38 : decode cX6_add 38 = .ok (.iconst 1, 1) := by decide +kernel
theorem dX6_add_39 : decode cX6_add 39 = .ok (.putfield 22, 3) := by decide +kernel
theorem dX6_add_42 : decode cX6_add 42 = .ok (.return_, 1) := by decide +kernel
theorem dX6_turn_0 : decode cX6_turn 0 = .ok (.aload_n 0, 1) := by decide +kernel
theorem dX6_turn_1 : decode cX6_turn 1 = .ok (.getfield 32, 3) := by decide +kernel
theorem dX6_turn_4 : decode cX6_turn 4 = .ok (.astore_n 1, 1) := by decide +kernel
theorem dX6_turn_5 : decode cX6_turn 5 = .ok (.aload_n 0, 1) := by decide +kernel
theorem dX6_turn_6 : decode cX6_turn 6 = .ok (.aload_n 0, 1) := by decide +kernel
theorem dX6_turn_7 : decode cX6_turn 7 = .ok (.getfield 35, 3) := by decide +kernel
theorem dX6_turn_10 : decode cX6_turn 10 = .ok (.putfield 32, 3) := by decide +kernel
theorem dX6_turn_13 : decode cX6_turn 13 = .ok (.aload_n 0, 1) := by decide +kernel
theorem dX6_turn_14 : decode cX6_turn 14 = .ok (.aload_n 1, 1) := by decide +kernel
theorem dX6_turn_15 : decode cX6_turn 15 = .ok (.putfield 35, 3) := by decide +kernel
theorem dX6_turn_18 : decode cX6_turn 18 = .ok (.aload_n 0, 1) := by decide +kernel
theorem dX6_turn_19 : decode cX6_turn 19 = .ok (.aload_n 0, 1) := by decide +kernel
theorem dX6_turn_20 : decode cX6_turn 20 = .ok (.getfield 19, 3) := by decide +kernel
theorem dX6_turn_23 : decode cX6_turn 23 = .ok (.putfield 15, 3) := by decide +kernel
theorem dX6_turn_26 : decode cX6_turn 26 = .ok (.aload_n 0, 1) := by decide +kernel
theorem dX6_turn_27 : decode cX6_turn 27 = .ok (.iconst 0, 1) := by decide +kernel
theorem dX6_turn_28 : decode cX6_turn 28 = .ok (.putfield 19, 3) := by decide +kernel
theorem dX6_turn_31 : decode cX6_turn 31 = .ok (.return_, 1) := by decide +kernel
theorem dX6_sort_0 : decode cX6_sort 0 = .ok (.iconst 3, 1) := by decide +kernel
theorem dX6_sort_1 : decode cX6_sort 1 = .ok (.istore_n 2, 1) := by decide +kernel
theorem dX6_sort_2 : decode cX6_sort 2 = .ok (.iload_n 2, 1) := by decide +kernel
theorem dX6_sort_3 : decode cX6_sort 3 = .ok (.ifCond .lt 22, 3) := by decide +kernel
theorem dX6_sort_6 : decode cX6_sort 6 = .ok (.iload_n 1, 1) := by decide +kernel
theorem dX6_sort_7 : decode cX6_sort 7 = .ok (.iload_n 2, 1) := by decide +kernel
theorem dX6_sort_8 : decode cX6_sort 8 = .ok (.invokestatic 56, 3) := by decide +kernel
theorem dX6_sort_11 : decode cX6_sort 11 = .ok (.ifCond .eq 8, 3) := by decide +kernel
theorem dX6_sort_14 : decode cX6_sort 14 = .ok (.aload_n 0, 1) := by decide +kernel
theorem dX6_sort_15 : decode cX6_sort 15 = .ok (.iload_n 2, 1) := by decide +kernel
theorem dX6_sort_16 : decode cX6_sort 16 = .ok (.invokevirtual 60, 3) := by decide +kernel
theorem dX6_sort_19 : decode cX6_sort 19 = .ok (.iinc 2 (-1), 3) := by decide +kernel
theorem dX6_sort_22 : decode cX6_sort 22 = .ok (.goto (-20), 3) := by decide +kernel
theorem dX6_sort_25 : decode cX6_sort 25 = .ok (.return_, 1) := by decide +kernel
theorem dX6_sortByOne_0 : decode cX6_sortByOne 0 = .ok (.iconst 0, 1) := by decide +kernel
theorem dX6_sortByOne_1 : decode cX6_sortByOne 1 = .ok (.istore_n 2, 1) := by decide +kernel
theorem dX6_sortByOne_2 : decode cX6_sortByOne 2 = .ok (.iload_n 2, 1) := by decide +kernel
theorem dX6_sortByOne_3 : decode cX6_sortByOne 3 = .ok (.bipush 63, 2) := by decide +kernel
theorem dX6_sortByOne_5 : decode cX6_sortByOne 5 = .ok (.if_icmp .gt 18, 3) := by decide +kernel
theorem dX6_sortByOne_8 : decode cX6_sortByOne 8 = .ok (.aload_n 0, 1) := by decide +kernel
theorem dX6_sortByOne_9 : decode cX6_sortByOne 9 = .ok (.getfield 9, 3) := by decide +kernel
theorem dX6_sortByOne_12 : decode cX6_sortByOne 12 = .ok (.iload_n 2, 1) := by decide +kernel
theorem dX6_sortByOne_13 : decode cX6_sortByOne 13 = .ok (.iconst 0, 1) := by decide +kernel
theorem dX6_sortByOne_14 : decode cX6_sortByOne 14 = .ok (.invokestatic 52, 3) := by decide +kernel
theorem dX6_sortByOne_17 : decode cX6_sortByOne 17 = .ok (.iinc 2 1, 3) := by decide +kernel
theorem dX6_sortByOne_20 : decode cX6_sortByOne 20 = .ok (.goto (-18), 3) := by decide +kernel
theorem dX6_sortByOne_23 : decode cX6_sortByOne 23 = .ok (.iconst 0, 1) := by decide +kernel
theorem dX6_sortByOne_24 : decode cX6_sortByOne 24 = .ok (.istore_n 2, 1) := by decide +kernel
theorem dX6_sortByOne_25 : decode cX6_sortByOne 25 = .ok (.iload_n 2, 1) := by decide +kernel
theorem dX6_sortByOne_26 : decode cX6_sortByOne 26 = .ok (.aload_n 0, 1) := by decide +kernel
theorem dX6_sortByOne_27 : decode cX6_sortByOne 27 = .ok (.getfield 15, 3) := by decide +kernel
theorem dX6_sortByOne_30 : decode cX6_sortByOne 30 = .ok (.if_icmp .ge 40, 3) := by decide +kernel
theorem dX6_sortByOne_33 : decode cX6_sortByOne 33 = .ok (.aload_n 0, 1) := by decide +kernel
theorem dX6_sortByOne_34 : decode cX6_sortByOne 34 = .ok (.getfield 32, 3) := by decide +kernel
theorem dX6_sortByOne_37 : decode cX6_sortByOne 37 = .ok (.iload_n 2, 1) := by decide +kernel
theorem dX6_sortByOne_38 : decode cX6_sortByOne 38 = .ok (.invokestatic 38, 3) := by decide +kernel
theorem dX6_sortByOne_41 : decode cX6_sortByOne 41 = .ok (.iload_n 1, 1) := by decide +kernel
theorem dX6_sortByOne_42 : decode cX6_sortByOne 42 = .ok (.invokestatic 63, 3) := by decide +kernel
theorem dX6_sortByOne_45 : decode cX6_sortByOne 45 = .ok (.istore_n 3, 1) := by decide +kernel
theorem dX6_sortByOne_46 : decode cX6_sortByOne 46 = .ok (.aload_n 0, 1) := by decide +kernel
theorem dX6_sortByOne_47 : decode cX6_sortByOne 47 = .ok (.getfield 9, 3) := by decide +kernel
theorem dX6_sortByOne_50 : decode cX6_sortByOne 50 = .ok (.iload_n 3, 1) := by decide +kernel
theorem dX6_sortByOne_51 : decode cX6_sortByOne 51 = .ok (.aload_n 0, 1) := by decide +kernel
theorem dX6_sortByOne_52 : decode cX6_sortByOne 52 = .ok (.getfield 9, 3) := by decide +kernel
theorem dX6_sortByOne_55 : decode cX6_sortByOne 55 = .ok (.iload_n 3, 1) := by decide +kernel
theorem dX6_sortByOne_56 : decode cX6_sortByOne 56 = .ok (.invokestatic 38, 3) := by decide +kernel
theorem dX6_sortByOne_59 : decode cX6_sortByOne 59 = .ok (.iconst 1, 1) := by decide +kernel
theorem dX6_sortByOne_60 : decode cX6_sortByOne 60 = .ok (.iadd, 1) := by decide +kernel
theorem dX6_sortByOne_61 : decode cX6_sortByOne 61 = .ok (.invokestatic 52, 3) := by decide +kernel
theorem dX6_sortByOne_64 : decode cX6_sortByOne 64 = .ok (.iinc 2 1, 3) := by decide +kernel
theorem dX6_sortByOne_67 : decode cX6_sortByOne 67 = .ok (.goto (-42), 3) := by decide +kernel
theorem dX6_sortByOne_70 : decode cX6_sortByOne 70 = .ok (.iconst 0, 1) := by decide +kernel
theorem dX6_sortByOne_71 : decode cX6_sortByOne 71 = .ok (.istore_n 2, 1) := by decide +kernel
theorem dX6_sortByOne_72 : decode cX6_sortByOne 72 = .ok (.iconst 0, 1) := by decide +kernel
theorem dX6_sortByOne_73 : decode cX6_sortByOne 73 = .ok (.istore_n 3, 1) := by decide +kernel
theorem dX6_sortByOne_74 : decode cX6_sortByOne 74 = .ok (.iload_n 3, 1) := by decide +kernel
theorem dX6_sortByOne_75 : decode cX6_sortByOne 75 = .ok (.bipush 63, 2) := by decide +kernel
theorem dX6_sortByOne_77 : decode cX6_sortByOne 77 = .ok (.if_icmp .gt 33, 3) := by decide +kernel
theorem dX6_sortByOne_80 : decode cX6_sortByOne 80 = .ok (.aload_n 0, 1) := by decide +kernel
theorem dX6_sortByOne_81 : decode cX6_sortByOne 81 = .ok (.getfield 9, 3) := by decide +kernel
theorem dX6_sortByOne_84 : decode cX6_sortByOne 84 = .ok (.iload_n 3, 1) := by decide +kernel
theorem dX6_sortByOne_85 : decode cX6_sortByOne 85 = .ok (.invokestatic 38, 3) := by decide +kernel
theorem dX6_sortByOne_88 : decode cX6_sortByOne 88 = .ok (.istore 4, 2) := by decide +kernel
theorem dX6_sortByOne_90 : decode cX6_sortByOne 90 = .ok (.aload_n 0, 1) := by decide +kernel
theorem dX6_sortByOne_91 : decode cX6_sortByOne 91 = .ok (.getfield 9, 3) := by decide +kernel
theorem dX6_sortByOne_94 : decode cX6_sortByOne 94 = .ok (.iload_n 3, 1) := by decide +kernel
theorem dX6_sortByOne_95 : decode cX6_sortByOne 95 = .ok (.iload_n 2, 1) := by decide +kernel
theorem dX6_sortByOne_96 : decode cX6_sortByOne 96 = .ok (.invokestatic 52, 3) := by decide +kernel
theorem dX6_sortByOne_99 : decode cX6_sortByOne 99 = .ok (.iload_n 2, 1) := by decide +kernel
theorem dX6_sortByOne_100 : decode cX6_sortByOne 100 = .ok (.iload 4, 2) := by decide +kernel
theorem dX6_sortByOne_102 : decode cX6_sortByOne 102 = .ok (.iadd, 1) := by decide +kernel
theorem dX6_sortByOne_103 : decode cX6_sortByOne 103 = .ok (.istore_n 2, 1) := by decide +kernel
theorem dX6_sortByOne_104 : decode cX6_sortByOne 104 = .ok (.iinc 3 1, 3) := by decide +kernel
theorem dX6_sortByOne_107 : decode cX6_sortByOne 107 = .ok (.goto (-33), 3) := by decide +kernel
theorem dX6_sortByOne_110 : decode cX6_sortByOne 110 = .ok (.iconst 0, 1) := by decide +kernel
theorem dX6_sortByOne_111 : decode cX6_sortByOne 111 = .ok (.istore_n 3, 1) := by decide +kernel
theorem dX6_sortByOne_112 : decode cX6_sortByOne 112 = .ok (.iload_n 3, 1) := by decide +kernel
theorem dX6_sortByOne_113 : decode cX6_sortByOne 113 = .ok (.aload_n 0, 1) := by decide +kernel
theorem dX6_sortByOne_114 : decode cX6_sortByOne 114 = .ok (.getfield 15, 3) := by decide +kernel
theorem dX6_sortByOne_117 : decode cX6_sortByOne 117 = .ok (.if_icmp .ge 67, 3) := by decide +kernel
theorem dX6_sortByOne_120 : decode cX6_sortByOne 120 = .ok (.aload_n 0, 1) := by decide +kernel
theorem dX6_sortByOne_121 : decode cX6_sortByOne 121 = .ok (.getfield 32, 3) := by decide +kernel
theorem dX6_sortByOne_124 : decode cX6_sortByOne 124 = .ok (.iload_n 3, 1) := by decide +kernel
theorem dX6_sortByOne_125 : decode cX6_sortByOne 125 = .ok (.invokestatic 38, 3) := by decide +kernel
theorem dX6_sortByOne_128 : decode cX6_sortByOne 128 = .ok (.iload_n 1, 1) := by decide +kernel
theorem dX6_sortByOne_129 : decode cX6_sortByOne 129 = .ok (.invokestatic 63, 3) := by decide +kernel
theorem dX6_sortByOne_132 : decode cX6_sortByOne 132 = .ok (.istore 4, 2) := by decide +kernel
theorem dX6_sortByOne_134 : decode cX6_sortByOne 134 = .ok (.aload_n 0, 1) := by decide +kernel
theorem dX6_sortByOne_135 : decode cX6_sortByOne 135 = .ok (.getfield 35, 3) := by decide +kernel
theorem dX6_sortByOne_138 : decode cX6_sortByOne 138 = .ok (.aload_n 0, 1) := by decide +kernel
theorem dX6_sortByOne_139 : decode cX6_sortByOne 139 = .ok (.getfield 9, 3) := by decide +kernel
theorem dX6_sortByOne_142 : decode cX6_sortByOne 142 = .ok (.iload 4, 2) := by decide +kernel
theorem dX6_sortByOne_144 : decode cX6_sortByOne 144 = .ok (.invokestatic 38, 3) := by decide +kernel
theorem dX6_sortByOne_147 : decode cX6_sortByOne 147 = .ok (.aload_n 0, 1) := by decide +kernel
theorem dX6_sortByOne_148 : decode cX6_sortByOne 148 = .ok (.getfield 32, 3) := by decide +kernel
theorem dX6_sortByOne_151 : decode cX6_sortByOne 151 = .ok (.iload_n 3, 1) := by decide +kernel
theorem dX6_sortByOne_152 : decode cX6_sortByOne 152 = .ok (.invokestatic 38, 3) := by decide +kernel
theorem dX6_sortByOne_155 : decode cX6_sortByOne 155 = .ok (.invokestatic 52, 3) := by decide +kernel
theorem dX6_sortByOne_158 : decode cX6_sortByOne 158 = .ok (.aload_n 0, 1) := by decide +kernel
theorem dX6_sortByOne_159 : decode cX6_sortByOne 159 = .ok (.getfield 9, 3) := by decide +kernel
theorem dX6_sortByOne_162 : decode cX6_sortByOne 162 = .ok (.iload 4, 2) := by decide +kernel
theorem dX6_sortByOne_164 : decode cX6_sortByOne 164 = .ok (.aload_n 0, 1) := by decide +kernel
theorem dX6_sortByOne_165 : decode cX6_sortByOne 165 = .ok (.getfield 9, 3) := by decide +kernel
theorem dX6_sortByOne_168 : decode cX6_sortByOne 168 = .ok (.iload 4, 2) := by decide +kernel
theorem dX6_sortByOne_170 : decode cX6_sortByOne 170 = .ok (.invokestatic 38, 3) := by decide +kernel
theorem dX6_sortByOne_173 : decode cX6_sortByOne 173 = .ok (.iconst 1, 1) := by decide +kernel
theorem dX6_sortByOne_174 : decode cX6_sortByOne 174 = .ok (.iadd, 1) := by decide +kernel
theorem dX6_sortByOne_175 : decode cX6_sortByOne 175 = .ok (.invokestatic 52, 3) := by decide +kernel
theorem dX6_sortByOne_178 : decode cX6_sortByOne 178 = .ok (.iinc 3 1, 3) := by decide +kernel
theorem dX6_sortByOne_181 : decode cX6_sortByOne 181 = .ok (.goto (-69), 3) := by decide +kernel
theorem dX6_sortByOne_184 : decode cX6_sortByOne 184 = .ok (.aload_n 0, 1) := by decide +kernel
theorem dX6_sortByOne_185 : decode cX6_sortByOne 185 = .ok (.aload_n 0, 1) := by decide +kernel
theorem dX6_sortByOne_186 : decode cX6_sortByOne 186 = .ok (.getfield 15, 3) := by decide +kernel
theorem dX6_sortByOne_189 : decode cX6_sortByOne 189 = .ok (.putfield 19, 3) := by decide +kernel
theorem dX6_sortByOne_192 : decode cX6_sortByOne 192 = .ok (.aload_n 0, 1) := by decide +kernel
theorem dX6_sortByOne_193 : decode cX6_sortByOne 193 = .ok (.invokevirtual 49, 3) := by decide +kernel
theorem dX6_sortByOne_196 : decode cX6_sortByOne 196 = .ok (.return_, 1) := by decide +kernel
theorem dX7_init_0 : decode cX7_init 0 = .ok (.aload_n 0, 1) := by decide +kernel
theorem dX7_init_1 : decode cX7_init 1 = .ok (.invokespecial 1, 3) := by decide +kernel
theorem dX7_init_4 : decode cX7_init 4 = .ok (.aload_n 0, 1) := by decide +kernel
theorem dX7_init_5 : decode cX7_init 5 = .ok (.new 7, 3) := by decide +kernel
theorem dX7_init_8 : decode cX7_init 8 = .ok (.dup, 1) := by decide +kernel
theorem dX7_init_9 : decode cX7_init 9 = .ok (.invokespecial 9, 3) := by decide +kernel
theorem dX7_init_12 : decode cX7_init 12 = .ok (.putfield 10, 3) := by decide +kernel
theorem dX7_init_15 : decode cX7_init 15 = .ok (.aload_n 0, 1) := by decide +kernel
theorem dX7_init_16 : decode cX7_init 16 = .ok (.new 16, 3) := by decide +kernel
theorem dX7_init_19 : decode cX7_init 19 = .ok (.dup, 1) := by decide +kernel
theorem dX7_init_20 : decode cX7_init 20 = .ok (.invokespecial 18, 3) := by decide +kernel
theorem dX7_init_23 : decode cX7_init 23 = .ok (.putfield 19, 3) := by decide +kernel
theorem dX7_init_26 : decode cX7_init 26 = .ok (.aload_n 0, 1) := by decide +kernel
theorem dX7_init_27 : decode cX7_init 27 = .ok (.new 23, 3) := by decide +kernel
theorem dX7_init_30 : decode cX7_init 30 = .ok (.dup, 1) := by decide +kernel
theorem dX7_init_31 : decode cX7_init 31 = .ok (.invokespecial 25, 3) := by decide +kernel
theorem dX7_init_34 : decode cX7_init 34 = .ok (.putfield 26, 3) := by decide +kernel
theorem dX7_init_37 : decode cX7_init 37 = .ok (.aload_n 0, 1) := by decide +kernel
theorem dX7_init_38 : decode cX7_init 38 = .ok (.new 30, 3) := by decide +kernel
theorem dX7_init_41 : decode cX7_init 41 = .ok (.dup, 1) := by decide +kernel
theorem dX7_init_42 : decode cX7_init 42 = .ok (.invokespecial 32, 3) := by decide +kernel
theorem dX7_init_45 : decode cX7_init 45 = .ok (.putfield 33, 3) := by decide +kernel
theorem dX7_init_48 : decode cX7_init 48 = .ok (.aload_n 0, 1) := by decide +kernel
theorem dX7_init_49 : decode cX7_init 49 = .ok (.sipush 2000, 3) := by decide +kernel
theorem dX7_init_52 : decode cX7_init 52 = .ok (.newarray .int, 2) := by decide +kernel
theorem dX7_init_54 : decode cX7_init 54 = .ok (.putfield 37, 3) := by decide +kernel
theorem dX7_init_57 : decode cX7_init 57 = .ok (.aload_n 0, 1) := by decide +kernel
theorem dX7_init_58 : decode cX7_init 58 = .ok (.iconst 0, 1) := by decide +kernel
theorem dX7_init_59 : decode cX7_init 59 = .ok (.putfield 41, 3) := by decide +kernel
theorem dX7_init_62 : decode cX7_init 62 = .ok (.aload_n 0, 1) := by decide +kernel
theorem dX7_init_63 : decode cX7_init 63 = .ok (.iconst 0, 1) := by decide +kernel
theorem dX7_init_64 : decode cX7_init 64 = .ok (.putfield 45, 3) := by decide +kernel
theorem dX7_init_67 : decode cX7_init 67 = .ok (.return_, 1) := by decide +kernel
theorem dX7_state_0 : decode cX7_state 0 = .ok (.iload_n 1, 1) := by decide +kernel
theorem dX7_state_1 : decode cX7_state 1 = .ok (.invokestatic 48, 3) := by decide +kernel
theorem dX7_state_4 : decode cX7_state 4 = .ok (.ifCond .eq 17, 3) := by decide +kernel
theorem dX7_state_7 : decode cX7_state 7 = .ok (.iload_n 2, 1) := by decide +kernel
theorem dX7_state_8 : decode cX7_state 8 = .ok (.invokestatic 48, 3) := by decide +kernel
theorem dX7_state_11 : decode cX7_state 11 = .ok (.ifCond .eq 10, 3) := by decide +kernel
theorem dX7_state_14 : decode cX7_state 14 = .ok (.iload_n 3, 1) := by decide +kernel
theorem dX7_state_15 : decode cX7_state 15 = .ok (.invokestatic 48, 3) := by decide +kernel
theorem dX7_state_18 : decode cX7_state 18 = .ok (.ifCond .ne 13, 3) := by decide +kernel
theorem dX7_state_21 : decode cX7_state 21 = .ok (.new 52, 3) := by decide +kernel
theorem dX7_state_24 : decode cX7_state 24 = .ok (.dup, 1) := by decide +kernel
theorem dX7_state_25 : decode cX7_state 25 = .ok (.ldc 54, 2) := by decide +kernel
theorem dX7_state_27 : decode cX7_state 27 = .ok (.invokespecial 56, 3) := by decide +kernel
theorem dX7_state_30 : decode cX7_state 30 = .ok (.athrow, 1) := by decide +kernel
theorem dX7_state_31 : decode cX7_state 31 = .ok (.aload_n 0, 1) := by decide +kernel
theorem dX7_state_32 : decode cX7_state 32 = .ok (.getfield 19, 3) := by decide +kernel
theorem dX7_state_35 : decode cX7_state 35 = .ok (.aload_n 0, 1) := by decide +kernel
theorem dX7_state_36 : decode cX7_state 36 = .ok (.getfield 10, 3) := by decide +kernel
theorem dX7_state_39 : decode cX7_state 39 = .ok (.iload_n 1, 1) := by decide +kernel
theorem dX7_state_40 : decode cX7_state 40 = .ok (.iload_n 2, 1) := by decide +kernel
theorem dX7_state_41 : decode cX7_state 41 = .ok (.iload_n 3, 1) := by decide +kernel
theorem dX7_state_42 : decode cX7_state 42 = .ok (.invokevirtual 59, 3) := by decide +kernel
theorem dX7_state_45 : decode cX7_state 45 = .ok (.invokevirtual 63, 3) := by decide +kernel
theorem dX7_state_48 : decode cX7_state 48 = .ok (.ifCond .eq 5, 3) := by decide +kernel
theorem dX7_state_51 : decode cX7_state 51 = .ok (.iconst 0, 1) := by decide +kernel
theorem dX7_state_52 : decode cX7_state 52 = .ok (.ireturn, 1) := by decide +kernel
theorem dX7_state_53 : decode cX7_state 53 = .ok (.aload_n 0, 1) := by decide +kernel
theorem dX7_state_54 : decode cX7_state 54 = .ok (.getfield 19, 3) := by decide +kernel
theorem dX7_state_57 : decode cX7_state 57 = .ok (.invokevirtual 66, 3) := by decide +kernel
theorem dX7_state_60 : decode cX7_state 60 = .ok (.bipush 60, 2) := by decide +kernel
theorem dX7_state_62 : decode cX7_state 62 = .ok (.if_icmp .lt 13, 3) := by decide +kernel
theorem dX7_state_65 : decode cX7_state 65 = .ok (.new 70, 3) := by decide +kernel
theorem dX7_state_68 : decode cX7_state 68 = .ok (.dup, 1) := by decide +kernel
theorem dX7_state_69 : decode cX7_state 69 = .ok (.ldc 72, 2) := by decide +kernel
theorem dX7_state_71 : decode cX7_state 71 = .ok (.invokespecial 74, 3) := by decide +kernel
theorem dX7_state_74 : decode cX7_state 74 = .ok (.athrow, 1) := by decide +kernel
theorem dX7_state_75 : decode cX7_state 75 = .ok (.aload_n 0, 1) := by decide +kernel
theorem dX7_state_76 : decode cX7_state 76 = .ok (.getfield 10, 3) := by decide +kernel
theorem dX7_state_79 : decode cX7_state 79 = .ok (.iload_n 1, 1) := by decide +kernel
theorem dX7_state_80 : decode cX7_state 80 = .ok (.iload_n 2, 1) := by decide +kernel
theorem dX7_state_81 : decode cX7_state 81 = .ok (.iload_n 3, 1) := by decide +kernel
theorem dX7_state_82 : decode cX7_state 82 = .ok (.invokevirtual 75, 3) := by decide +kernel
theorem dX7_state_85 : decode cX7_state 85 = .ok (.bipush 40, 2) := by decide +kernel
theorem dX7_state_87 : decode cX7_state 87 = .ok (.if_icmp .le 13, 3) := by decide +kernel
theorem dX7_state_90 : decode cX7_state 90 = .ok (.new 70, 3) := by decide +kernel
theorem dX7_state_93 : decode cX7_state 93 = .ok (.dup, 1) := by decide +kernel
theorem dX7_state_94 : decode cX7_state 94 = .ok (.ldc 78, 2) := by decide +kernel
theorem dX7_state_96 : decode cX7_state 96 = .ok (.invokespecial 74, 3) := by decide +kernel
theorem dX7_state_99 : decode cX7_state 99 = .ok (.athrow, 1) := by decide +kernel
theorem dX7_state_100 : decode cX7_state 100 = .ok (.aload_n 0, 1) := by decide +kernel
theorem dX7_state_101 : decode cX7_state 101 = .ok (.getfield 10, 3) := by decide +kernel
theorem dX7_state_104 : decode cX7_state 104 = .ok (.iload_n 1, 1) := by decide +kernel
theorem dX7_state_105 : decode cX7_state 105 = .ok (.invokevirtual 80, 3) := by decide +kernel
theorem dX7_state_108 : decode cX7_state 108 = .ok (.aload_n 0, 1) := by decide +kernel
theorem dX7_state_109 : decode cX7_state 109 = .ok (.getfield 10, 3) := by decide +kernel
theorem dX7_state_112 : decode cX7_state 112 = .ok (.iload_n 2, 1) := by decide +kernel
theorem dX7_state_113 : decode cX7_state 113 = .ok (.invokevirtual 80, 3) := by decide +kernel
theorem dX7_state_116 : decode cX7_state 116 = .ok (.aload_n 0, 1) := by decide +kernel
theorem dX7_state_117 : decode cX7_state 117 = .ok (.getfield 10, 3) := by decide +kernel
theorem dX7_state_120 : decode cX7_state 120 = .ok (.iload_n 3, 1) := by decide +kernel
theorem dX7_state_121 : decode cX7_state 121 = .ok (.invokevirtual 80, 3) := by decide +kernel
theorem dX7_state_124 : decode cX7_state 124 = .ok (.aload_n 0, 1) := by decide +kernel
theorem dX7_state_125 : decode cX7_state 125 = .ok (.getfield 19, 3) := by decide +kernel
theorem dX7_state_128 : decode cX7_state 128 = .ok (.aload_n 0, 1) := by decide +kernel
theorem dX7_state_129 : decode cX7_state 129 = .ok (.getfield 10, 3) := by decide +kernel
theorem dX7_state_132 : decode cX7_state 132 = .ok (.iload_n 1, 1) := by decide +kernel
theorem dX7_state_133 : decode cX7_state 133 = .ok (.iload_n 2, 1) := by decide +kernel
theorem dX7_state_134 : decode cX7_state 134 = .ok (.iload_n 3, 1) := by decide +kernel
theorem dX7_state_135 : decode cX7_state 135 = .ok (.invokevirtual 59, 3) := by decide +kernel
theorem dX7_state_138 : decode cX7_state 138 = .ok (.invokevirtual 84, 3) := by decide +kernel
theorem dX7_state_141 : decode cX7_state 141 = .ok (.iconst 1, 1) := by decide +kernel
theorem dX7_state_142 : decode cX7_state 142 = .ok (.ireturn, 1) := by decide +kernel
theorem dX7_takeBack_0 : decode cX7_takeBack 0 = .ok (.iload_n 1, 1) := by decide +kernel
theorem dX7_takeBack_1 : decode cX7_takeBack 1 = .ok (.invokestatic 48, 3) := by decide +kernel
theorem dX7_takeBack_4 : decode cX7_takeBack 4 = .ok (.ifCond .eq 17, 3) := by decide +kernel
theorem dX7_takeBack_7 : decode cX7_takeBack 7 = .ok (.iload_n 2, 1) := by decide +kernel
theorem dX7_takeBack_8 : decode cX7_takeBack 8 = .ok (.invokestatic 48, 3) := by decide +kernel
theorem dX7_takeBack_11 : decode cX7_takeBack 11 = .ok (.ifCond .eq 10, 3) := by decide +kernel
theorem dX7_takeBack_14 : decode cX7_takeBack 14 = .ok (.iload_n 3, 1) := by decide +kernel
theorem dX7_takeBack_15 : decode cX7_takeBack 15 = .ok (.invokestatic 48, 3) := by decide +kernel
theorem dX7_takeBack_18 : decode cX7_takeBack 18 = .ok (.ifCond .ne 13, 3) := by decide +kernel
theorem dX7_takeBack_21 : decode cX7_takeBack 21 = .ok (.new 52, 3) := by decide +kernel
theorem dX7_takeBack_24 : decode cX7_takeBack 24 = .ok (.dup, 1) := by decide +kernel
theorem dX7_takeBack_25 : decode cX7_takeBack 25 = .ok (.ldc 54, 2) := by decide +kernel
theorem dX7_takeBack_27 : decode cX7_takeBack 27 = .ok (.invokespecial 56, 3) := by decide +kernel
theorem dX7_takeBack_30 : decode cX7_takeBack 30 = .ok (.athrow, 1) := by decide +kernel
theorem dX7_takeBack_31 : decode cX7_takeBack 31 = .ok (.aload_n 0, 1) := by decide +kernel
theorem dX7_takeBack_32 : decode cX7_takeBack 32 = .ok (.getfield 10, 3) := by decide +kernel
theorem dX7_takeBack_35 : decode cX7_takeBack 35 = .ok (.iload_n 1, 1) := by decide +kernel
theorem dX7_takeBack_36 : decode cX7_takeBack 36 = .ok (.iload_n 2, 1) := by decide +kernel
theorem dX7_takeBack_37 : decode cX7_takeBack 37 = .ok (.iload_n 3, 1) := by decide +kernel
theorem dX7_takeBack_38 : decode cX7_takeBack 38 = .ok (.invokevirtual 59, 3) := by decide +kernel
theorem dX7_takeBack_41 : decode cX7_takeBack 41 = .ok (.istore 4, 2) := by decide +kernel
theorem dX7_takeBack_43 : decode cX7_takeBack 43 = .ok (.aload_n 0, 1) := by decide +kernel
theorem dX7_takeBack_44 : decode cX7_takeBack 44 = .ok (.getfield 19, 3) := by decide +kernel
theorem dX7_takeBack_47 : decode cX7_takeBack 47 = .ok (.iload 4, 2) := by decide +kernel
theorem dX7_takeBack_49 : decode cX7_takeBack 49 = .ok (.invokevirtual 63, 3) := by decide +kernel
theorem dX7_takeBack_52 : decode cX7_takeBack 52 = .ok (.ifCond .ne 5, 3) := by decide +kernel
theorem dX7_takeBack_55 : decode cX7_takeBack 55 = .ok (.iconst 0, 1) := by decide +kernel
theorem dX7_takeBack_56 : decode cX7_takeBack 56 = .ok (.ireturn, 1) := by decide +kernel
theorem dX7_takeBack_57 : decode cX7_takeBack 57 = .ok (.aload_n 0, 1) := by decide +kernel
theorem dX7_takeBack_58 : decode cX7_takeBack 58 = .ok (.getfield 19, 3) := by decide +kernel
theorem dX7_takeBack_61 : decode cX7_takeBack 61 = .ok (.iload 4, 2) := by decide +kernel
theorem dX7_takeBack_63 : decode cX7_takeBack 63 = .ok (.invokevirtual 87, 3) := by decide +kernel
theorem dX7_takeBack_66 : decode cX7_takeBack 66 = .ok (.iconst 1, 1) := by decide +kernel
theorem dX7_takeBack_67 : decode cX7_takeBack 67 = .ok (.ireturn, 1) := by decide +kernel
theorem dX7_triples_0 : decode cX7_triples 0 = .ok (.aload_n 0, 1) := by decide +kernel
theorem dX7_triples_1 : decode cX7_triples 1 = .ok (.getfield 19, 3) := by decide +kernel
theorem dX7_triples_4 : decode cX7_triples 4 = .ok (.invokevirtual 66, 3) := by decide +kernel
theorem dX7_triples_7 : decode cX7_triples 7 = .ok (.ireturn, 1) := by decide +kernel
theorem dX7_termAt_0 : decode cX7_termAt 0 = .ok (.iload_n 1, 1) := by decide +kernel
theorem dX7_termAt_1 : decode cX7_termAt 1 = .ok (.invokestatic 90, 3) := by decide +kernel
theorem dX7_termAt_4 : decode cX7_termAt 4 = .ok (.ifCond .ne 13, 3) := by decide +kernel
theorem dX7_termAt_7 : decode cX7_termAt 7 = .ok (.new 52, 3) := by decide +kernel
theorem dX7_termAt_10 : decode cX7_termAt 10 = .ok (.dup, 1) := by decide +kernel
theorem dX7_termAt_11 : decode cX7_termAt 11 = .ok (.ldc 93, 2) := by decide +kernel
theorem dX7_termAt_13 : decode cX7_termAt 13 = .ok (.invokespecial 56, 3) := by decide +kernel
theorem dX7_termAt_16 : decode cX7_termAt 16 = .ok (.athrow, 1) := by decide +kernel
theorem dX7_termAt_17 : decode cX7_termAt 17 = .ok (.iload_n 3, 1) := by decide +kernel
theorem dX7_termAt_18 : decode cX7_termAt 18 = .ok (.ifCond .lt 8, 3) := by decide +kernel
theorem dX7_termAt_21 : decode cX7_termAt 21 = .ok (.iload_n 3, 1) := by decide +kernel
theorem dX7_termAt_22 : decode cX7_termAt 22 = .ok (.iconst 3, 1) := by decide +kernel
theorem dX7_termAt_23 : decode cX7_termAt 23 = .ok (.if_icmp .lt 13, 3) := by decide +kernel
theorem dX7_termAt_26 : decode cX7_termAt 26 = .ok (.new 52, 3) := by decide +kernel
theorem dX7_termAt_29 : decode cX7_termAt 29 = .ok (.dup, 1) := by decide +kernel
theorem dX7_termAt_30 : decode cX7_termAt 30 = .ok (.ldc 95, 2) := by decide +kernel
theorem dX7_termAt_32 : decode cX7_termAt 32 = .ok (.invokespecial 56, 3) := by decide +kernel
theorem dX7_termAt_35 : decode cX7_termAt 35 = .ok (.athrow, 1) := by decide +kernel
theorem dX7_termAt_36 : decode cX7_termAt 36 = .ok (.iload_n 2, 1) := by decide +kernel
theorem dX7_termAt_37 : decode cX7_termAt 37 = .ok (.ifCond .lt 14, 3) := by decide +kernel
theorem dX7_termAt_40 : decode cX7_termAt 40 = .ok (.iload_n 2, 1) := by decide +kernel
theorem dX7_termAt_41 : decode cX7_termAt 41 = .ok (.aload_n 0, 1) := by decide +kernel
theorem dX7_termAt_42 : decode cX7_termAt 42 = .ok (.getfield 19, 3) := by decide +kernel
theorem dX7_termAt_45 : decode cX7_termAt 45 = .ok (.invokevirtual 66, 3) := by decide +kernel
theorem dX7_termAt_48 : decode cX7_termAt 48 = .ok (.if_icmp .lt 13, 3) := by decide +kernel
theorem dX7_termAt_51 : decode cX7_termAt 51 = .ok (.new 97, 3) := by decide +kernel
theorem dX7_termAt_54 : decode cX7_termAt 54 = .ok (.dup, 1) := by decide +kernel
theorem dX7_termAt_55 : decode cX7_termAt 55 = .ok (.ldc 99, 2) := by decide +kernel
theorem dX7_termAt_57 : decode cX7_termAt 57 = .ok (.invokespecial 101, 3) := by decide +kernel
theorem dX7_termAt_60 : decode cX7_termAt 60 = .ok (.athrow, 1) := by decide +kernel
theorem dX7_termAt_61 : decode cX7_termAt 61 = .ok (.aload_n 0, 1) := by decide +kernel
theorem dX7_termAt_62 : decode cX7_termAt 62 = .ok (.getfield 10, 3) := by decide +kernel
theorem dX7_termAt_65 : decode cX7_termAt 65 = .ok (.aload_n 0, 1) := by decide +kernel
theorem dX7_termAt_66 : decode cX7_termAt 66 = .ok (.getfield 19, 3) := by decide +kernel
theorem dX7_termAt_69 : decode cX7_termAt 69 = .ok (.iload_n 1, 1) := by decide +kernel
theorem dX7_termAt_70 : decode cX7_termAt 70 = .ok (.iload_n 2, 1) := by decide +kernel
theorem dX7_termAt_71 : decode cX7_termAt 71 = .ok (.invokevirtual 102, 3) := by decide +kernel
theorem dX7_termAt_74 : decode cX7_termAt 74 = .ok (.iload_n 3, 1) := by decide +kernel
theorem dX7_termAt_75 : decode cX7_termAt 75 = .ok (.invokestatic 106, 3) := by decide +kernel
theorem dX7_termAt_78 : decode cX7_termAt 78 = .ok (.invokevirtual 109, 3) := by decide +kernel
theorem dX7_termAt_81 : decode cX7_termAt 81 = .ok (.ireturn, 1) := by decide +kernel
theorem dX7_terms_0 : decode cX7_terms 0 = .ok (.aload_n 0, 1) := by decide +kernel
theorem dX7_terms_1 : decode cX7_terms 1 = .ok (.getfield 10, 3) := by decide +kernel
theorem dX7_terms_4 : decode cX7_terms 4 = .ok (.invokevirtual 113, 3) := by decide +kernel
theorem dX7_terms_7 : decode cX7_terms 7 = .ok (.ireturn, 1) := by decide +kernel
theorem dX7_numberOf_0 : decode cX7_numberOf 0 = .ok (.iload_n 1, 1) := by decide +kernel
theorem dX7_numberOf_1 : decode cX7_numberOf 1 = .ok (.invokestatic 48, 3) := by decide +kernel
theorem dX7_numberOf_4 : decode cX7_numberOf 4 = .ok (.ifCond .ne 13, 3) := by decide +kernel
theorem dX7_numberOf_7 : decode cX7_numberOf 7 = .ok (.new 52, 3) := by decide +kernel
theorem dX7_numberOf_10 : decode cX7_numberOf 10 = .ok (.dup, 1) := by decide +kernel
theorem dX7_numberOf_11 : decode cX7_numberOf 11 = .ok (.ldc 54, 2) := by decide +kernel
theorem dX7_numberOf_13 : decode cX7_numberOf 13 = .ok (.invokespecial 56, 3) := by decide +kernel
theorem dX7_numberOf_16 : decode cX7_numberOf 16 = .ok (.athrow, 1) := by decide +kernel
theorem dX7_numberOf_17 : decode cX7_numberOf 17 = .ok (.aload_n 0, 1) := by decide +kernel
theorem dX7_numberOf_18 : decode cX7_numberOf 18 = .ok (.getfield 10, 3) := by decide +kernel
theorem dX7_numberOf_21 : decode cX7_numberOf 21 = .ok (.iload_n 1, 1) := by decide +kernel
theorem dX7_numberOf_22 : decode cX7_numberOf 22 = .ok (.invokevirtual 114, 3) := by decide +kernel
theorem dX7_numberOf_25 : decode cX7_numberOf 25 = .ok (.ifCond .eq 14, 3) := by decide +kernel
theorem dX7_numberOf_28 : decode cX7_numberOf 28 = .ok (.aload_n 0, 1) := by decide +kernel
theorem dX7_numberOf_29 : decode cX7_numberOf 29 = .ok (.getfield 10, 3) := by decide +kernel
theorem dX7_numberOf_32 : decode cX7_numberOf 32 = .ok (.iload_n 1, 1) := by decide +kernel
theorem dX7_numberOf_33 : decode cX7_numberOf 33 = .ok (.invokevirtual 117, 3) := by decide +kernel
theorem dX7_numberOf_36 : decode cX7_numberOf 36 = .ok (.goto 4, 3) := by decide +kernel
theorem dX7_numberOf_39 : decode cX7_numberOf 39 = .ok (.iconst (-1), 1) := by decide +kernel
theorem dX7_numberOf_40 : decode cX7_numberOf 40 = .ok (.ireturn, 1) := by decide +kernel
theorem dX7_termOf_0 : decode cX7_termOf 0 = .ok (.iload_n 1, 1) := by decide +kernel
theorem dX7_termOf_1 : decode cX7_termOf 1 = .ok (.ifCond .lt 14, 3) := by decide +kernel
theorem dX7_termOf_4 : decode cX7_termOf 4 = .ok (.iload_n 1, 1) := by decide +kernel
theorem dX7_termOf_5 : decode cX7_termOf 5 = .ok (.aload_n 0, 1) := by decide +kernel
theorem dX7_termOf_6 : decode cX7_termOf 6 = .ok (.getfield 10, 3) := by decide +kernel
theorem dX7_termOf_9 : decode cX7_termOf 9 = .ok (.invokevirtual 113, 3) := by decide +kernel
theorem dX7_termOf_12 : decode cX7_termOf 12 = .ok (.if_icmp .lt 13, 3) := by decide +kernel
theorem dX7_termOf_15 : decode cX7_termOf 15 = .ok (.new 97, 3) := by decide +kernel
theorem dX7_termOf_18 : decode cX7_termOf 18 = .ok (.dup, 1) := by decide +kernel
theorem dX7_termOf_19 : decode cX7_termOf 19 = .ok (.ldc 120, 2) := by decide +kernel
theorem dX7_termOf_21 : decode cX7_termOf 21 = .ok (.invokespecial 101, 3) := by decide +kernel
theorem dX7_termOf_24 : decode cX7_termOf 24 = .ok (.athrow, 1) := by decide +kernel
theorem dX7_termOf_25 : decode cX7_termOf 25 = .ok (.aload_n 0, 1) := by decide +kernel
theorem dX7_termOf_26 : decode cX7_termOf 26 = .ok (.getfield 10, 3) := by decide +kernel
theorem dX7_termOf_29 : decode cX7_termOf 29 = .ok (.iload_n 1, 1) := by decide +kernel
theorem dX7_termOf_30 : decode cX7_termOf 30 = .ok (.invokevirtual 109, 3) := by decide +kernel
theorem dX7_termOf_33 : decode cX7_termOf 33 = .ok (.ireturn, 1) := by decide +kernel
theorem dX7_count_0 : decode cX7_count 0 = .ok (.iload_n 1, 1) := by decide +kernel
theorem dX7_count_1 : decode cX7_count 1 = .ok (.invokestatic 122, 3) := by decide +kernel
theorem dX7_count_4 : decode cX7_count 4 = .ok (.ifCond .eq 17, 3) := by decide +kernel
theorem dX7_count_7 : decode cX7_count 7 = .ok (.iload_n 2, 1) := by decide +kernel
theorem dX7_count_8 : decode cX7_count 8 = .ok (.invokestatic 122, 3) := by decide +kernel
theorem dX7_count_11 : decode cX7_count 11 = .ok (.ifCond .eq 10, 3) := by decide +kernel
theorem dX7_count_14 : decode cX7_count 14 = .ok (.iload_n 3, 1) := by decide +kernel
theorem dX7_count_15 : decode cX7_count 15 = .ok (.invokestatic 122, 3) := by decide +kernel
theorem dX7_count_18 : decode cX7_count 18 = .ok (.ifCond .ne 13, 3) := by decide +kernel
theorem dX7_count_21 : decode cX7_count 21 = .ok (.new 52, 3) := by decide +kernel
theorem dX7_count_24 : decode cX7_count 24 = .ok (.dup, 1) := by decide +kernel
theorem dX7_count_25 : decode cX7_count 25 = .ok (.ldc 125, 2) := by decide +kernel
theorem dX7_count_27 : decode cX7_count 27 = .ok (.invokespecial 56, 3) := by decide +kernel
theorem dX7_count_30 : decode cX7_count 30 = .ok (.athrow, 1) := by decide +kernel
theorem dX7_count_31 : decode cX7_count 31 = .ok (.iload_n 1, 1) := by decide +kernel
theorem dX7_count_32 : decode cX7_count 32 = .ok (.ifCond .lt 7, 3) := by decide +kernel
theorem dX7_count_35 : decode cX7_count 35 = .ok (.iconst 1, 1) := by decide +kernel
theorem dX7_count_36 : decode cX7_count 36 = .ok (.goto 4, 3) := by decide +kernel
theorem dX7_count_39 : decode cX7_count 39 = .ok (.iconst 0, 1) := by decide +kernel
theorem dX7_count_40 : decode cX7_count 40 = .ok (.iload_n 2, 1) := by decide +kernel
theorem dX7_count_41 : decode cX7_count 41 = .ok (.ifCond .lt 7, 3) := by decide +kernel
theorem dX7_count_44 : decode cX7_count 44 = .ok (.iconst 1, 1) := by decide +kernel
theorem dX7_count_45 : decode cX7_count 45 = .ok (.goto 4, 3) := by decide +kernel
theorem dX7_count_48 : decode cX7_count 48 = .ok (.iconst 0, 1) := by decide +kernel
theorem dX7_count_49 : decode cX7_count 49 = .ok (.iload_n 3, 1) := by decide +kernel
theorem dX7_count_50 : decode cX7_count 50 = .ok (.ifCond .lt 7, 3) := by decide +kernel
theorem dX7_count_53 : decode cX7_count 53 = .ok (.iconst 1, 1) := by decide +kernel
theorem dX7_count_54 : decode cX7_count 54 = .ok (.goto 4, 3) := by decide +kernel
theorem dX7_count_57 : decode cX7_count 57 = .ok (.iconst 0, 1) := by decide +kernel
theorem dX7_count_58 : decode cX7_count 58 = .ok (.invokestatic 127, 3) := by decide +kernel
theorem dX7_count_61 : decode cX7_count 61 = .ok (.istore 4, 2) := by decide +kernel
theorem dX7_count_63 : decode cX7_count 63 = .ok (.aload_n 0, 1) := by decide +kernel
theorem dX7_count_64 : decode cX7_count 64 = .ok (.getfield 10, 3) := by decide +kernel
theorem dX7_count_67 : decode cX7_count 67 = .ok (.iload_n 1, 1) := by decide +kernel
theorem dX7_count_68 : decode cX7_count 68 = .ok (.iload_n 2, 1) := by decide +kernel
theorem dX7_count_69 : decode cX7_count 69 = .ok (.iload_n 3, 1) := by decide +kernel
theorem dX7_count_70 : decode cX7_count 70 = .ok (.invokevirtual 59, 3) := by decide +kernel
theorem dX7_count_73 : decode cX7_count 73 = .ok (.iload 4, 2) := by decide +kernel
theorem dX7_count_75 : decode cX7_count 75 = .ok (.iand, 1) := by decide +kernel
theorem dX7_count_76 : decode cX7_count 76 = .ok (.istore 5, 2) := by decide +kernel
theorem dX7_count_78 : decode cX7_count 78 = .ok (.iload 4, 2) := by decide +kernel
theorem dX7_count_80 : decode cX7_count 80 = .ok (.invokestatic 131, 3) := by decide +kernel
theorem dX7_count_83 : decode cX7_count 83 = .ok (.istore 6, 2) := by decide +kernel
theorem dX7_count_85 : decode cX7_count 85 = .ok (.aload_n 0, 1) := by decide +kernel
theorem dX7_count_86 : decode cX7_count 86 = .ok (.getfield 19, 3) := by decide +kernel
theorem dX7_count_89 : decode cX7_count 89 = .ok (.iload 6, 2) := by decide +kernel
theorem dX7_count_91 : decode cX7_count 91 = .ok (.iload 4, 2) := by decide +kernel
theorem dX7_count_93 : decode cX7_count 93 = .ok (.iload 5, 2) := by decide +kernel
theorem dX7_count_95 : decode cX7_count 95 = .ok (.invokevirtual 134, 3) := by decide +kernel
theorem dX7_count_98 : decode cX7_count 98 = .ok (.aload_n 0, 1) := by decide +kernel
theorem dX7_count_99 : decode cX7_count 99 = .ok (.getfield 19, 3) := by decide +kernel
theorem dX7_count_102 : decode cX7_count 102 = .ok (.iload 6, 2) := by decide +kernel
theorem dX7_count_104 : decode cX7_count 104 = .ok (.iload 5, 2) := by decide +kernel
theorem dX7_count_106 : decode cX7_count 106 = .ok (.invokevirtual 137, 3) := by decide +kernel
theorem dX7_count_109 : decode cX7_count 109 = .ok (.isub, 1) := by decide +kernel
theorem dX7_count_110 : decode cX7_count 110 = .ok (.ireturn, 1) := by decide +kernel
theorem dX7_orderFor_0 : decode cX7_orderFor 0 = .ok (.iload_n 1, 1) := by decide +kernel
theorem dX7_orderFor_1 : decode cX7_orderFor 1 = .ok (.iload_n 2, 1) := by decide +kernel
theorem dX7_orderFor_2 : decode cX7_orderFor 2 = .ok (.iload_n 3, 1) := by decide +kernel
theorem dX7_orderFor_3 : decode cX7_orderFor 3 = .ok (.invokestatic 127, 3) := by decide +kernel
theorem dX7_orderFor_6 : decode cX7_orderFor 6 = .ok (.invokestatic 131, 3) := by decide +kernel
theorem dX7_orderFor_9 : decode cX7_orderFor 9 = .ok (.ireturn, 1) := by decide +kernel
theorem dX7_seek_0 : decode cX7_seek 0 = .ok (.iload_n 1, 1) := by decide +kernel
theorem dX7_seek_1 : decode cX7_seek 1 = .ok (.invokestatic 90, 3) := by decide +kernel
theorem dX7_seek_4 : decode cX7_seek 4 = .ok (.ifCond .ne 13, 3) := by decide +kernel
theorem dX7_seek_7 : decode cX7_seek 7 = .ok (.new 52, 3) := by decide +kernel
theorem dX7_seek_10 : decode cX7_seek 10 = .ok (.dup, 1) := by decide +kernel
theorem dX7_seek_11 : decode cX7_seek 11 = .ok (.ldc 93, 2) := by decide +kernel
theorem dX7_seek_13 : decode cX7_seek 13 = .ok (.invokespecial 56, 3) := by decide +kernel
theorem dX7_seek_16 : decode cX7_seek 16 = .ok (.athrow, 1) := by decide +kernel
theorem dX7_seek_17 : decode cX7_seek 17 = .ok (.iload_n 2, 1) := by decide +kernel
theorem dX7_seek_18 : decode cX7_seek 18 = .ok (.invokestatic 48, 3) := by decide +kernel
theorem dX7_seek_21 : decode cX7_seek 21 = .ok (.ifCond .ne 13, 3) := by decide +kernel
theorem dX7_seek_24 : decode cX7_seek 24 = .ok (.new 52, 3) := by decide +kernel
theorem dX7_seek_27 : decode cX7_seek 27 = .ok (.dup, 1) := by decide +kernel
theorem dX7_seek_28 : decode cX7_seek 28 = .ok (.ldc 54, 2) := by decide +kernel
theorem dX7_seek_30 : decode cX7_seek 30 = .ok (.invokespecial 56, 3) := by decide +kernel
theorem dX7_seek_33 : decode cX7_seek 33 = .ok (.athrow, 1) := by decide +kernel
theorem dX7_seek_34 : decode cX7_seek 34 = .ok (.aload_n 0, 1) := by decide +kernel
theorem dX7_seek_35 : decode cX7_seek 35 = .ok (.getfield 10, 3) := by decide +kernel
theorem dX7_seek_38 : decode cX7_seek 38 = .ok (.iload_n 2, 1) := by decide +kernel
theorem dX7_seek_39 : decode cX7_seek 39 = .ok (.invokevirtual 114, 3) := by decide +kernel
theorem dX7_seek_42 : decode cX7_seek 42 = .ok (.ifCond .ne 13, 3) := by decide +kernel
theorem dX7_seek_45 : decode cX7_seek 45 = .ok (.new 70, 3) := by decide +kernel
theorem dX7_seek_48 : decode cX7_seek 48 = .ok (.dup, 1) := by decide +kernel
theorem dX7_seek_49 : decode cX7_seek 49 = .ok (.ldc 140, 2) := by decide +kernel
theorem dX7_seek_51 : decode cX7_seek 51 = .ok (.invokespecial 74, 3) := by decide +kernel
theorem dX7_seek_54 : decode cX7_seek 54 = .ok (.athrow, 1) := by decide +kernel
theorem dX7_seek_55 : decode cX7_seek 55 = .ok (.aload_n 0, 1) := by decide +kernel
theorem dX7_seek_56 : decode cX7_seek 56 = .ok (.getfield 19, 3) := by decide +kernel
theorem dX7_seek_59 : decode cX7_seek 59 = .ok (.iload_n 1, 1) := by decide +kernel
theorem dX7_seek_60 : decode cX7_seek 60 = .ok (.aload_n 0, 1) := by decide +kernel
theorem dX7_seek_61 : decode cX7_seek 61 = .ok (.getfield 10, 3) := by decide +kernel
theorem dX7_seek_64 : decode cX7_seek 64 = .ok (.iload_n 2, 1) := by decide +kernel
theorem dX7_seek_65 : decode cX7_seek 65 = .ok (.invokevirtual 117, 3) := by decide +kernel
theorem dX7_seek_68 : decode cX7_seek 68 = .ok (.iload_n 1, 1) := by decide +kernel
theorem dX7_seek_69 : decode cX7_seek 69 = .ok (.invokestatic 142, 3) := by decide +kernel
theorem dX7_seek_72 : decode cX7_seek 72 = .ok (.ishl, 1) := by decide +kernel
theorem dX7_seek_73 : decode cX7_seek 73 = .ok (.invokevirtual 137, 3) := by decide +kernel
theorem dX7_seek_76 : decode cX7_seek 76 = .ok (.ireturn, 1) := by decide +kernel
theorem dX7_forget_0 : decode cX7_forget 0 = .ok (.aload_n 0, 1) := by decide +kernel
theorem dX7_forget_1 : decode cX7_forget 1 = .ok (.getfield 26, 3) := by decide +kernel
theorem dX7_forget_4 : decode cX7_forget 4 = .ok (.invokevirtual 145, 3) := by decide +kernel
theorem dX7_forget_7 : decode cX7_forget 7 = .ok (.ireturn, 1) := by decide +kernel
theorem dX7_addPattern_0 : decode cX7_addPattern 0 = .ok (.iload_n 1, 1) := by decide +kernel
theorem dX7_addPattern_1 : decode cX7_addPattern 1 = .ok (.invokestatic 148, 3) := by decide +kernel
theorem dX7_addPattern_4 : decode cX7_addPattern 4 = .ok (.ifCond .eq 17, 3) := by decide +kernel
theorem dX7_addPattern_7 : decode cX7_addPattern 7 = .ok (.iload_n 2, 1) := by decide +kernel
theorem dX7_addPattern_8 : decode cX7_addPattern 8 = .ok (.invokestatic 148, 3) := by decide +kernel
theorem dX7_addPattern_11 : decode cX7_addPattern 11 = .ok (.ifCond .eq 10, 3) := by decide +kernel
theorem dX7_addPattern_14 : decode cX7_addPattern 14 = .ok (.iload_n 3, 1) := by decide +kernel
theorem dX7_addPattern_15 : decode cX7_addPattern 15 = .ok (.invokestatic 148, 3) := by decide +kernel
theorem dX7_addPattern_18 : decode cX7_addPattern 18 = .ok (.ifCond .ne 13, 3) := by decide +kernel
theorem dX7_addPattern_21 : decode cX7_addPattern 21 = .ok (.new 52, 3) := by decide +kernel
theorem dX7_addPattern_24 : decode cX7_addPattern 24 = .ok (.dup, 1) := by decide +kernel
theorem dX7_addPattern_25 : decode cX7_addPattern 25 = .ok (.ldc 151, 2) := by decide +kernel
theorem dX7_addPattern_27 : decode cX7_addPattern 27 = .ok (.invokespecial 56, 3) := by decide +kernel
theorem dX7_addPattern_30 : decode cX7_addPattern 30 = .ok (.athrow, 1) := by decide +kernel
theorem dX7_addPattern_31 : decode cX7_addPattern 31 = .ok (.aload_n 0, 1) := by decide +kernel
theorem dX7_addPattern_32 : decode cX7_addPattern 32 = .ok (.getfield 26, 3) := by decide +kernel
theorem dX7_addPattern_35 : decode cX7_addPattern 35 = .ok (.invokevirtual 153, 3) := by decide +kernel
theorem dX7_addPattern_38 : decode cX7_addPattern 38 = .ok (.iconst 3, 1) := by decide +kernel
theorem dX7_addPattern_39 : decode cX7_addPattern 39 = .ok (.if_icmp .lt 13, 3) := by decide +kernel
theorem dX7_addPattern_42 : decode cX7_addPattern 42 = .ok (.new 70, 3) := by decide +kernel
theorem dX7_addPattern_45 : decode cX7_addPattern 45 = .ok (.dup, 1) := by decide +kernel
theorem dX7_addPattern_46 : decode cX7_addPattern 46 = .ok (.ldc 154, 2) := by decide +kernel
theorem dX7_addPattern_48 : decode cX7_addPattern 48 = .ok (.invokespecial 74, 3) := by decide +kernel
theorem dX7_addPattern_51 : decode cX7_addPattern 51 = .ok (.athrow, 1) := by decide +kernel
theorem dX7_addPattern_52 : decode cX7_addPattern 52 = .ok (.aload_n 0, 1) := by decide +kernel
theorem dX7_addPattern_53 : decode cX7_addPattern 53 = .ok (.getfield 26, 3) := by decide +kernel
theorem dX7_addPattern_56 : decode cX7_addPattern 56 = .ok (.iload_n 1, 1) := by decide +kernel
theorem dX7_addPattern_57 : decode cX7_addPattern 57 = .ok (.iload_n 2, 1) := by decide +kernel
theorem dX7_addPattern_58 : decode cX7_addPattern 58 = .ok (.iload_n 3, 1) := by decide +kernel
theorem dX7_addPattern_59 : decode cX7_addPattern 59 = .ok (.invokevirtual 156, 3) := by decide +kernel
theorem dX7_addPattern_62 : decode cX7_addPattern 62 = .ok (.ireturn, 1) := by decide +kernel
theorem dX7_patterns_0 : decode cX7_patterns 0 = .ok (.aload_n 0, 1) := by decide +kernel
theorem dX7_patterns_1 : decode cX7_patterns 1 = .ok (.getfield 26, 3) := by decide +kernel
theorem dX7_patterns_4 : decode cX7_patterns 4 = .ok (.invokevirtual 153, 3) := by decide +kernel
theorem dX7_patterns_7 : decode cX7_patterns 7 = .ok (.ireturn, 1) := by decide +kernel
theorem dX7_matches_0 : decode cX7_matches 0 = .ok (.iload_n 1, 1) := by decide +kernel
theorem dX7_matches_1 : decode cX7_matches 1 = .ok (.ifCond .lt 14, 3) := by decide +kernel
theorem dX7_matches_4 : decode cX7_matches 4 = .ok (.iload_n 1, 1) := by decide +kernel
theorem dX7_matches_5 : decode cX7_matches 5 = .ok (.aload_n 0, 1) := by decide +kernel
theorem dX7_matches_6 : decode cX7_matches 6 = .ok (.getfield 26, 3) := by decide +kernel
theorem dX7_matches_9 : decode cX7_matches 9 = .ok (.invokevirtual 153, 3) := by decide +kernel
theorem dX7_matches_12 : decode cX7_matches 12 = .ok (.if_icmp .lt 13, 3) := by decide +kernel
theorem dX7_matches_15 : decode cX7_matches 15 = .ok (.new 97, 3) := by decide +kernel
theorem dX7_matches_18 : decode cX7_matches 18 = .ok (.dup, 1) := by decide +kernel
theorem dX7_matches_19 : decode cX7_matches 19 = .ok (.ldc 159, 2) := by decide +kernel
theorem dX7_matches_21 : decode cX7_matches 21 = .ok (.invokespecial 101, 3) := by decide +kernel
theorem dX7_matches_24 : decode cX7_matches 24 = .ok (.athrow, 1) := by decide +kernel
theorem dX7_matches_25 : decode cX7_matches 25 = .ok (.aload_n 0, 1) := by decide +kernel
theorem dX7_matches_26 : decode cX7_matches 26 = .ok (.getfield 26, 3) := by decide +kernel
theorem dX7_matches_29 : decode cX7_matches 29 = .ok (.aload_n 0, 1) := by decide +kernel
theorem dX7_matches_30 : decode cX7_matches 30 = .ok (.getfield 10, 3) := by decide +kernel
theorem dX7_matches_33 : decode cX7_matches 33 = .ok (.aload_n 0, 1) := by decide +kernel
theorem dX7_matches_34 : decode cX7_matches 34 = .ok (.getfield 19, 3) := by decide +kernel
theorem dX7_matches_37 : decode cX7_matches 37 = .ok (.invokevirtual 161, 3) := by decide +kernel
theorem dX7_matches_40 : decode cX7_matches 40 = .ok (.aload_n 0, 1) := by decide +kernel
theorem dX7_matches_41 : decode cX7_matches 41 = .ok (.getfield 26, 3) := by decide +kernel
theorem dX7_matches_44 : decode cX7_matches 44 = .ok (.iload_n 1, 1) := by decide +kernel
theorem dX7_matches_45 : decode cX7_matches 45 = .ok (.invokevirtual 165, 3) := by decide +kernel
theorem dX7_matches_48 : decode cX7_matches 48 = .ok (.invokevirtual 169, 3) := by decide +kernel
theorem dX7_matches_51 : decode cX7_matches 51 = .ok (.ireturn, 1) := by decide +kernel
theorem dX7_variables_0 : decode cX7_variables 0 = .ok (.aload_n 0, 1) := by decide +kernel
theorem dX7_variables_1 : decode cX7_variables 1 = .ok (.getfield 26, 3) := by decide +kernel
theorem dX7_variables_4 : decode cX7_variables 4 = .ok (.invokevirtual 174, 3) := by decide +kernel
theorem dX7_variables_7 : decode cX7_variables 7 = .ok (.ireturn, 1) := by decide +kernel
theorem dX7_shape_0 : decode cX7_shape 0 = .ok (.aload_n 0, 1) := by decide +kernel
theorem dX7_shape_1 : decode cX7_shape 1 = .ok (.getfield 26, 3) := by decide +kernel
theorem dX7_shape_4 : decode cX7_shape 4 = .ok (.invokevirtual 177, 3) := by decide +kernel
theorem dX7_shape_7 : decode cX7_shape 7 = .ok (.ifCond .eq 7, 3) := by decide +kernel
theorem dX7_shape_10 : decode cX7_shape 10 = .ok (.iconst 1, 1) := by decide +kernel
theorem dX7_shape_11 : decode cX7_shape 11 = .ok (.goto 4, 3) := by decide +kernel
theorem dX7_shape_14 : decode cX7_shape 14 = .ok (.iconst 0, 1) := by decide +kernel
theorem dX7_shape_15 : decode cX7_shape 15 = .ok (.aload_n 0, 1) := by decide +kernel
theorem dX7_shape_16 : decode cX7_shape 16 = .ok (.getfield 26, 3) := by decide +kernel
theorem dX7_shape_19 : decode cX7_shape 19 = .ok (.invokevirtual 181, 3) := by decide +kernel
theorem dX7_shape_22 : decode cX7_shape 22 = .ok (.ifCond .eq 7, 3) := by decide +kernel
theorem dX7_shape_25 : decode cX7_shape 25 = .ok (.iconst 2, 1) := by decide +kernel
theorem dX7_shape_26 : decode cX7_shape 26 = .ok (.goto 4, 3) := by decide +kernel
theorem dX7_shape_29 : decode cX7_shape 29 = .ok (.iconst 0, 1) := by decide +kernel
theorem dX7_shape_30 : decode cX7_shape 30 = .ok (.iadd, 1) := by decide +kernel
theorem dX7_shape_31 : decode cX7_shape 31 = .ok (.ireturn, 1) := by decide +kernel
theorem dX7_joined_0 : decode cX7_joined 0 = .ok (.iload_n 1, 1) := by decide +kernel
theorem dX7_joined_1 : decode cX7_joined 1 = .ok (.ifCond .lt 14, 3) := by decide +kernel
theorem dX7_joined_4 : decode cX7_joined 4 = .ok (.iload_n 1, 1) := by decide +kernel
theorem dX7_joined_5 : decode cX7_joined 5 = .ok (.aload_n 0, 1) := by decide +kernel
theorem dX7_joined_6 : decode cX7_joined 6 = .ok (.getfield 26, 3) := by decide +kernel
theorem dX7_joined_9 : decode cX7_joined 9 = .ok (.invokevirtual 153, 3) := by decide +kernel
theorem dX7_joined_12 : decode cX7_joined 12 = .ok (.if_icmp .lt 13, 3) := by decide +kernel
theorem dX7_joined_15 : decode cX7_joined 15 = .ok (.new 97, 3) := by decide +kernel
theorem dX7_joined_18 : decode cX7_joined 18 = .ok (.dup, 1) := by decide +kernel
theorem dX7_joined_19 : decode cX7_joined 19 = .ok (.ldc 184, 2) := by decide +kernel
theorem dX7_joined_21 : decode cX7_joined 21 = .ok (.invokespecial 101, 3) := by decide +kernel
theorem dX7_joined_24 : decode cX7_joined 24 = .ok (.athrow, 1) := by decide +kernel
theorem dX7_joined_25 : decode cX7_joined 25 = .ok (.aload_n 0, 1) := by decide +kernel
theorem dX7_joined_26 : decode cX7_joined 26 = .ok (.getfield 26, 3) := by decide +kernel
theorem dX7_joined_29 : decode cX7_joined 29 = .ok (.aload_n 0, 1) := by decide +kernel
theorem dX7_joined_30 : decode cX7_joined 30 = .ok (.getfield 10, 3) := by decide +kernel
theorem dX7_joined_33 : decode cX7_joined 33 = .ok (.aload_n 0, 1) := by decide +kernel
theorem dX7_joined_34 : decode cX7_joined 34 = .ok (.getfield 19, 3) := by decide +kernel
theorem dX7_joined_37 : decode cX7_joined 37 = .ok (.invokevirtual 161, 3) := by decide +kernel
theorem dX7_joined_40 : decode cX7_joined 40 = .ok (.aload_n 0, 1) := by decide +kernel
theorem dX7_joined_41 : decode cX7_joined 41 = .ok (.getfield 26, 3) := by decide +kernel
theorem dX7_joined_44 : decode cX7_joined 44 = .ok (.iload_n 1, 1) := by decide +kernel
theorem dX7_joined_45 : decode cX7_joined 45 = .ok (.invokevirtual 186, 3) := by decide +kernel
theorem dX7_joined_48 : decode cX7_joined 48 = .ok (.ireturn, 1) := by decide +kernel
theorem dX7_answerByMerging_0 : decode cX7_answerByMerging 0 = .ok (.aload_n 0, 1) := by decide +kernel
theorem dX7_answerByMerging_1 : decode cX7_answerByMerging 1 = .ok (.invokevirtual 189, 3) := by decide +kernel
theorem dX7_answerByMerging_4 : decode cX7_answerByMerging 4 = .ok (.aload_n 0, 1) := by decide +kernel
theorem dX7_answerByMerging_5 : decode cX7_answerByMerging 5 = .ok (.getfield 33, 3) := by decide +kernel
theorem dX7_answerByMerging_8 : decode cX7_answerByMerging 8 = .ok (.aload_n 0, 1) := by decide +kernel
theorem dX7_answerByMerging_9 : decode cX7_answerByMerging 9 = .ok (.getfield 26, 3) := by decide +kernel
theorem dX7_answerByMerging_12 : decode cX7_answerByMerging 12 = .ok (.aload_n 0, 1) := by decide +kernel
theorem dX7_answerByMerging_13 : decode cX7_answerByMerging 13 = .ok (.getfield 19, 3) := by decide +kernel
theorem dX7_answerByMerging_16 : decode cX7_answerByMerging 16 = .ok (.invokevirtual 192, 3) := by decide +kernel
theorem dX7_answerByMerging_19 : decode cX7_answerByMerging 19 = .ok (.aload_n 0, 1) := by decide +kernel
theorem dX7_answerByMerging_20 : decode cX7_answerByMerging 20 = .ok (.invokevirtual 196, 3) := by decide +kernel
theorem dX7_answerByMerging_23 : decode cX7_answerByMerging 23 = .ok (.ireturn, 1) := by decide +kernel
theorem dX7_answerByVariables_0 : decode cX7_answerByVariables 0 = .ok (.aload_n 0, 1) := by decide +kernel
theorem dX7_answerByVariables_1 : decode cX7_answerByVariables 1 = .ok (.invokevirtual 189, 3) := by decide +kernel
theorem dX7_answerByVariables_4 : decode cX7_answerByVariables 4 = .ok (.aload_n 0, 1) := by decide +kernel
theorem dX7_answerByVariables_5 : decode cX7_answerByVariables 5 = .ok (.getfield 33, 3) := by decide +kernel
theorem dX7_answerByVariables_8 : decode cX7_answerByVariables 8 = .ok (.aload_n 0, 1) := by decide +kernel
theorem dX7_answerByVariables_9 : decode cX7_answerByVariables 9 = .ok (.getfield 26, 3) := by decide +kernel
theorem dX7_answerByVariables_12 : decode cX7_answerByVariables 12 = .ok (.aload_n 0, 1) := by decide +kernel
theorem dX7_answerByVariables_13 : decode cX7_answerByVariables 13 = .ok (.getfield 19, 3) := by decide +kernel
theorem dX7_answerByVariables_16 : decode cX7_answerByVariables 16 = .ok (.invokevirtual 199, 3) := by decide +kernel
theorem dX7_answerByVariables_19 : decode cX7_answerByVariables 19 = .ok (.aload_n 0, 1) := by decide +kernel
theorem dX7_answerByVariables_20 : decode cX7_answerByVariables 20 = .ok (.invokevirtual 196, 3) := by decide +kernel
theorem dX7_answerByVariables_23 : decode cX7_answerByVariables 23 = .ok (.ireturn, 1) := by decide +kernel
theorem dX7_answerByLoops_0 : decode cX7_answerByLoops 0 = .ok (.aload_n 0, 1) := by decide +kernel
theorem dX7_answerByLoops_1 : decode cX7_answerByLoops 1 = .ok (.invokevirtual 189, 3) := by decide +kernel
theorem dX7_answerByLoops_4 : decode cX7_answerByLoops 4 = .ok (.aload_n 0, 1) := by decide +kernel
theorem dX7_answerByLoops_5 : decode cX7_answerByLoops 5 = .ok (.getfield 33, 3) := by decide +kernel
theorem dX7_answerByLoops_8 : decode cX7_answerByLoops 8 = .ok (.aload_n 0, 1) := by decide +kernel
theorem dX7_answerByLoops_9 : decode cX7_answerByLoops 9 = .ok (.getfield 26, 3) := by decide +kernel
theorem dX7_answerByLoops_12 : decode cX7_answerByLoops 12 = .ok (.aload_n 0, 1) := by decide +kernel
theorem dX7_answerByLoops_13 : decode cX7_answerByLoops 13 = .ok (.getfield 19, 3) := by decide +kernel
theorem dX7_answerByLoops_16 : decode cX7_answerByLoops 16 = .ok (.invokevirtual 202, 3) := by decide +kernel
theorem dX7_answerByLoops_19 : decode cX7_answerByLoops 19 = .ok (.aload_n 0, 1) := by decide +kernel
theorem dX7_answerByLoops_20 : decode cX7_answerByLoops 20 = .ok (.invokevirtual 196, 3) := by decide +kernel
theorem dX7_answerByLoops_23 : decode cX7_answerByLoops 23 = .ok (.ireturn, 1) := by decide +kernel
theorem dX7_answers_0 : decode cX7_answers 0 = .ok (.aload_n 0, 1) := by decide +kernel
theorem dX7_answers_1 : decode cX7_answers 1 = .ok (.getfield 41, 3) := by decide +kernel
theorem dX7_answers_4 : decode cX7_answers 4 = .ok (.ireturn, 1) := by decide +kernel
theorem dX7_answer_0 : decode cX7_answer 0 = .ok (.iload_n 1, 1) := by decide +kernel
theorem dX7_answer_1 : decode cX7_answer 1 = .ok (.ifCond .lt 11, 3) := by decide +kernel
theorem dX7_answer_4 : decode cX7_answer 4 = .ok (.iload_n 1, 1) := by decide +kernel
theorem dX7_answer_5 : decode cX7_answer 5 = .ok (.aload_n 0, 1) := by decide +kernel
theorem dX7_answer_6 : decode cX7_answer 6 = .ok (.getfield 41, 3) := by decide +kernel
theorem dX7_answer_9 : decode cX7_answer 9 = .ok (.if_icmp .lt 13, 3) := by decide +kernel
theorem dX7_answer_12 : decode cX7_answer 12 = .ok (.new 97, 3) := by decide +kernel
theorem dX7_answer_15 : decode cX7_answer 15 = .ok (.dup, 1) := by decide +kernel
theorem dX7_answer_16 : decode cX7_answer 16 = .ok (.ldc 205, 2) := by decide +kernel
theorem dX7_answer_18 : decode cX7_answer 18 = .ok (.invokespecial 101, 3) := by decide +kernel
theorem dX7_answer_21 : decode cX7_answer 21 = .ok (.athrow, 1) := by decide +kernel
theorem dX7_answer_22 : decode cX7_answer 22 = .ok (.iload_n 2, 1) := by decide +kernel
theorem dX7_answer_23 : decode cX7_answer 23 = .ok (.invokestatic 207, 3) := by decide +kernel
theorem dX7_answer_26 : decode cX7_answer 26 = .ok (.ifCond .ne 13, 3) := by decide +kernel
theorem dX7_answer_29 : decode cX7_answer 29 = .ok (.new 52, 3) := by decide +kernel
theorem dX7_answer_32 : decode cX7_answer 32 = .ok (.dup, 1) := by decide +kernel
theorem dX7_answer_33 : decode cX7_answer 33 = .ok (.ldc 210, 2) := by decide +kernel
theorem dX7_answer_35 : decode cX7_answer 35 = .ok (.invokespecial 56, 3) := by decide +kernel
theorem dX7_answer_38 : decode cX7_answer 38 = .ok (.athrow, 1) := by decide +kernel
theorem dX7_answer_39 : decode cX7_answer 39 = .ok (.aload_n 0, 1) := by decide +kernel
theorem dX7_answer_40 : decode cX7_answer 40 = .ok (.getfield 45, 3) := by decide +kernel
theorem dX7_answer_43 : decode cX7_answer 43 = .ok (.iload_n 2, 1) := by decide +kernel
theorem dX7_answer_44 : decode cX7_answer 44 = .ok (.invokestatic 212, 3) := by decide +kernel
theorem dX7_answer_47 : decode cX7_answer 47 = .ok (.ifCond .ne 13, 3) := by decide +kernel
theorem dX7_answer_50 : decode cX7_answer 50 = .ok (.new 52, 3) := by decide +kernel
theorem dX7_answer_53 : decode cX7_answer 53 = .ok (.dup, 1) := by decide +kernel
theorem dX7_answer_54 : decode cX7_answer 54 = .ok (.ldc 216, 2) := by decide +kernel
theorem dX7_answer_56 : decode cX7_answer 56 = .ok (.invokespecial 56, 3) := by decide +kernel
theorem dX7_answer_59 : decode cX7_answer 59 = .ok (.athrow, 1) := by decide +kernel
theorem dX7_answer_60 : decode cX7_answer 60 = .ok (.aload_n 0, 1) := by decide +kernel
theorem dX7_answer_61 : decode cX7_answer 61 = .ok (.getfield 10, 3) := by decide +kernel
theorem dX7_answer_64 : decode cX7_answer 64 = .ok (.aload_n 0, 1) := by decide +kernel
theorem dX7_answer_65 : decode cX7_answer 65 = .ok (.getfield 37, 3) := by decide +kernel
theorem dX7_answer_68 : decode cX7_answer 68 = .ok (.iload_n 1, 1) := by decide +kernel
theorem dX7_answer_69 : decode cX7_answer 69 = .ok (.invokestatic 218, 3) := by decide +kernel
theorem dX7_answer_72 : decode cX7_answer 72 = .ok (.iload_n 2, 1) := by decide +kernel
theorem dX7_answer_73 : decode cX7_answer 73 = .ok (.invokestatic 222, 3) := by decide +kernel
theorem dX7_answer_76 : decode cX7_answer 76 = .ok (.invokevirtual 109, 3) := by decide +kernel
theorem dX7_answer_79 : decode cX7_answer 79 = .ok (.ireturn, 1) := by decide +kernel
theorem dX7_termsFor_0 : decode cX7_termsFor 0 = .ok (.iload_n 1, 1) := by decide +kernel
theorem dX7_termsFor_1 : decode cX7_termsFor 1 = .ok (.invokestatic 207, 3) := by decide +kernel
theorem dX7_termsFor_4 : decode cX7_termsFor 4 = .ok (.ifCond .ne 13, 3) := by decide +kernel
theorem dX7_termsFor_7 : decode cX7_termsFor 7 = .ok (.new 52, 3) := by decide +kernel
theorem dX7_termsFor_10 : decode cX7_termsFor 10 = .ok (.dup, 1) := by decide +kernel
theorem dX7_termsFor_11 : decode cX7_termsFor 11 = .ok (.ldc 210, 2) := by decide +kernel
theorem dX7_termsFor_13 : decode cX7_termsFor 13 = .ok (.invokespecial 56, 3) := by decide +kernel
theorem dX7_termsFor_16 : decode cX7_termsFor 16 = .ok (.athrow, 1) := by decide +kernel
theorem dX7_termsFor_17 : decode cX7_termsFor 17 = .ok (.aload_n 0, 1) := by decide +kernel
theorem dX7_termsFor_18 : decode cX7_termsFor 18 = .ok (.getfield 45, 3) := by decide +kernel
theorem dX7_termsFor_21 : decode cX7_termsFor 21 = .ok (.iload_n 1, 1) := by decide +kernel
theorem dX7_termsFor_22 : decode cX7_termsFor 22 = .ok (.invokestatic 212, 3) := by decide +kernel
theorem dX7_termsFor_25 : decode cX7_termsFor 25 = .ok (.ifCond .ne 5, 3) := by decide +kernel
theorem dX7_termsFor_28 : decode cX7_termsFor 28 = .ok (.iconst 0, 1) := by decide +kernel
theorem dX7_termsFor_29 : decode cX7_termsFor 29 = .ok (.ireturn, 1) := by decide +kernel
theorem dX7_termsFor_30 : decode cX7_termsFor 30 = .ok (.lconst 0, 1) := by decide +kernel
theorem dX7_termsFor_31 : decode cX7_termsFor 31 = .ok (.lstore_n 2, 1) := by decide +kernel
theorem dX7_termsFor_32 : decode cX7_termsFor 32 = .ok (.iconst 0, 1) := by decide +kernel
theorem dX7_termsFor_33 : decode cX7_termsFor 33 = .ok (.istore 4, 2) := by decide +kernel
theorem dX7_termsFor_35 : decode cX7_termsFor 35 = .ok (.iload 4, 2) := by decide +kernel
theorem dX7_termsFor_37 : decode cX7_termsFor 37 = .ok (.aload_n 0, 1) := by decide +kernel
theorem dX7_termsFor_38 : decode cX7_termsFor 38 = .ok (.getfield 41, 3) := by decide +kernel
theorem dX7_termsFor_41 : decode cX7_termsFor 41 = .ok (.if_icmp .ge 27, 3) := by decide +kernel
theorem dX7_termsFor_44 : decode cX7_termsFor 44 = .ok (.lload_n 2, 1) := by decide +kernel
theorem dX7_termsFor_45 : decode cX7_termsFor 45 = .ok (.lconst 1, 1) := by decide +kernel
theorem dX7_termsFor_46 : decode cX7_termsFor 46 = .ok (.aload_n 0, 1) := by decide +kernel
theorem dX7_termsFor_47 : decode cX7_termsFor 47 = .ok (.getfield 37, 3) := by decide +kernel
theorem dX7_termsFor_50 : decode cX7_termsFor 50 = .ok (.iload 4, 2) := by decide +kernel
theorem dX7_termsFor_52 : decode cX7_termsFor 52 = .ok (.invokestatic 218, 3) := by decide +kernel
theorem dX7_termsFor_55 : decode cX7_termsFor 55 = .ok (.iload_n 1, 1) := by decide +kernel
theorem dX7_termsFor_56 : decode cX7_termsFor 56 = .ok (.invokestatic 222, 3) := by decide +kernel
theorem dX7_termsFor_59 : decode cX7_termsFor 59 = .ok (.lshl, 1) := by decide +kernel
theorem dX7_termsFor_60 : decode cX7_termsFor 60 = .ok (.lor, 1) := by decide +kernel
theorem dX7_termsFor_61 : decode cX7_termsFor 61 = .ok (.lstore_n 2, 1) := by decide +kernel
theorem dX7_termsFor_62 : decode cX7_termsFor 62 = .ok (.iinc 4 1, 3) := by decide +kernel
theorem dX7_termsFor_65 : decode cX7_termsFor 65 = .ok (.goto (-30), 3) := by decide +kernel
theorem dX7_termsFor_68 : decode cX7_termsFor 68 = .ok (.lload_n 2, 1) := by decide +kernel
theorem dX7_termsFor_69 : decode cX7_termsFor 69 = .ok (.invokestatic 225, 3) := by decide +kernel
theorem dX7_termsFor_72 : decode cX7_termsFor 72 = .ok (.ireturn, 1) := by decide +kernel
theorem dX7_beginAnswering_0 : decode cX7_beginAnswering 0 = .ok (.aload_n 0, 1) := by decide +kernel
theorem dX7_beginAnswering_1 : decode cX7_beginAnswering 1 = .ok (.getfield 26, 3) := by decide +kernel
theorem dX7_beginAnswering_4 : decode cX7_beginAnswering 4 = .ok (.invokevirtual 153, 3) := by decide +kernel
theorem dX7_beginAnswering_7 : decode cX7_beginAnswering 7 = .ok (.ifCond .ne 13, 3) := by decide +kernel
theorem dX7_beginAnswering_10 : decode cX7_beginAnswering 10 = .ok (.new 70, 3) := by decide +kernel
theorem dX7_beginAnswering_13 : decode cX7_beginAnswering 13 = .ok (.dup, 1) := by decide +kernel
theorem dX7_beginAnswering_14 : decode cX7_beginAnswering 14 = .ok (.ldc 231, 2) := by decide +kernel
theorem dX7_beginAnswering_16 : decode cX7_beginAnswering 16 = .ok (.invokespecial 74, 3) := by decide +kernel
theorem dX7_beginAnswering_19 : decode cX7_beginAnswering 19 = .ok (.athrow, 1) := by decide +kernel
theorem dX7_beginAnswering_20 : decode cX7_beginAnswering 20 = .ok (.aload_n 0, 1) := by decide +kernel
theorem dX7_beginAnswering_21 : decode cX7_beginAnswering 21 = .ok (.getfield 26, 3) := by decide +kernel
theorem dX7_beginAnswering_24 : decode cX7_beginAnswering 24 = .ok (.aload_n 0, 1) := by decide +kernel
theorem dX7_beginAnswering_25 : decode cX7_beginAnswering 25 = .ok (.getfield 10, 3) := by decide +kernel
theorem dX7_beginAnswering_28 : decode cX7_beginAnswering 28 = .ok (.aload_n 0, 1) := by decide +kernel
theorem dX7_beginAnswering_29 : decode cX7_beginAnswering 29 = .ok (.getfield 19, 3) := by decide +kernel
theorem dX7_beginAnswering_32 : decode cX7_beginAnswering 32 = .ok (.invokevirtual 161, 3) := by decide +kernel
theorem dX7_beginAnswering_35 : decode cX7_beginAnswering 35 = .ok (.return_, 1) := by decide +kernel
theorem dX7_keepAnswers_0 : decode cX7_keepAnswers 0 = .ok (.aload_n 0, 1) := by decide +kernel
theorem dX7_keepAnswers_1 : decode cX7_keepAnswers 1 = .ok (.getfield 33, 3) := by decide +kernel
theorem dX7_keepAnswers_4 : decode cX7_keepAnswers 4 = .ok (.invokevirtual 233, 3) := by decide +kernel
theorem dX7_keepAnswers_7 : decode cX7_keepAnswers 7 = .ok (.astore_n 1, 1) := by decide +kernel
theorem dX7_keepAnswers_8 : decode cX7_keepAnswers 8 = .ok (.aload_n 1, 1) := by decide +kernel
theorem dX7_keepAnswers_9 : decode cX7_keepAnswers 9 = .ok (.invokevirtual 237, 3) := by decide +kernel
theorem dX7_keepAnswers_12 : decode cX7_keepAnswers 12 = .ok (.ifCond .ne 13, 3) := by decide +kernel
theorem dX7_keepAnswers_15 : decode cX7_keepAnswers 15 = .ok (.aload_n 1, 1) := by decide +kernel
theorem dX7_keepAnswers_16 : decode cX7_keepAnswers 16 = .ok (.invokevirtual 242, 3) := by decide +kernel
theorem dX7_keepAnswers_19 : decode cX7_keepAnswers 19 = .ok (.sipush 2000, 3) := by decide +kernel
theorem dX7_keepAnswers_22 : decode cX7_keepAnswers 22 = .ok (.if_icmp .le 13, 3) := by decide +kernel
theorem dX7_keepAnswers_25 : decode cX7_keepAnswers 25 = .ok (.new 70, 3) := by decide +kernel
theorem dX7_keepAnswers_28 : decode cX7_keepAnswers 28 = .ok (.dup, 1) := by decide +kernel
theorem dX7_keepAnswers_29 : decode cX7_keepAnswers 29 = .ok (.ldc 243, 2) := by decide +kernel
theorem dX7_keepAnswers_31 : decode cX7_keepAnswers 31 = .ok (.invokespecial 74, 3) := by decide +kernel
theorem dX7_keepAnswers_34 : decode cX7_keepAnswers 34 = .ok (.athrow, 1) := by decide +kernel
theorem dX7_keepAnswers_35 : decode cX7_keepAnswers 35 = .ok (.aload_n 0, 1) := by decide +kernel
theorem dX7_keepAnswers_36 : decode cX7_keepAnswers 36 = .ok (.aload_n 0, 1) := by decide +kernel
theorem dX7_keepAnswers_37 : decode cX7_keepAnswers 37 = .ok (.getfield 26, 3) := by decide +kernel
theorem dX7_keepAnswers_40 : decode cX7_keepAnswers 40 = .ok (.invokevirtual 174, 3) := by decide +kernel
theorem dX7_keepAnswers_43 : decode cX7_keepAnswers 43 = .ok (.putfield 45, 3) := by decide +kernel
theorem dX7_keepAnswers_46 : decode cX7_keepAnswers 46 = .ok (.aload_n 0, 1) := by decide +kernel
theorem dX7_keepAnswers_47 : decode cX7_keepAnswers 47 = .ok (.aload_n 1, 1) := by decide +kernel
theorem dX7_keepAnswers_48 : decode cX7_keepAnswers 48 = .ok (.invokevirtual 242, 3) := by decide +kernel
theorem dX7_keepAnswers_51 : decode cX7_keepAnswers 51 = .ok (.putfield 41, 3) := by decide +kernel
theorem dX7_keepAnswers_54 : decode cX7_keepAnswers 54 = .ok (.aload_n 1, 1) := by decide +kernel
theorem dX7_keepAnswers_55 : decode cX7_keepAnswers 55 = .ok (.aload_n 0, 1) := by decide +kernel
theorem dX7_keepAnswers_56 : decode cX7_keepAnswers 56 = .ok (.getfield 45, 3) := by decide +kernel
theorem dX7_keepAnswers_59 : decode cX7_keepAnswers 59 = .ok (.invokevirtual 245, 3) := by decide +kernel
theorem dX7_keepAnswers_62 : decode cX7_keepAnswers 62 = .ok (.iconst 0, 1) := by decide +kernel
theorem dX7_keepAnswers_63 : decode cX7_keepAnswers 63 = .ok (.istore_n 2, 1) := by decide +kernel
theorem dX7_keepAnswers_64 : decode cX7_keepAnswers 64 = .ok (.iload_n 2, 1) := by decide +kernel
theorem dX7_keepAnswers_65 : decode cX7_keepAnswers 65 = .ok (.aload_n 0, 1) := by decide +kernel
theorem dX7_keepAnswers_66 : decode cX7_keepAnswers 66 = .ok (.getfield 41, 3) := by decide +kernel
theorem dX7_keepAnswers_69 : decode cX7_keepAnswers 69 = .ok (.if_icmp .ge 22, 3) := by decide +kernel
theorem dX7_keepAnswers_72 : decode cX7_keepAnswers 72 = .ok (.aload_n 0, 1) := by decide +kernel
theorem dX7_keepAnswers_73 : decode cX7_keepAnswers 73 = .ok (.getfield 37, 3) := by decide +kernel
theorem dX7_keepAnswers_76 : decode cX7_keepAnswers 76 = .ok (.iload_n 2, 1) := by decide +kernel
theorem dX7_keepAnswers_77 : decode cX7_keepAnswers 77 = .ok (.aload_n 1, 1) := by decide +kernel
theorem dX7_keepAnswers_78 : decode cX7_keepAnswers 78 = .ok (.iload_n 2, 1) := by decide +kernel
theorem dX7_keepAnswers_79 : decode cX7_keepAnswers 79 = .ok (.invokevirtual 248, 3) := by decide +kernel
theorem dX7_keepAnswers_82 : decode cX7_keepAnswers 82 = .ok (.invokestatic 251, 3) := by decide +kernel
theorem dX7_keepAnswers_85 : decode cX7_keepAnswers 85 = .ok (.iinc 2 1, 3) := by decide +kernel
theorem dX7_keepAnswers_88 : decode cX7_keepAnswers 88 = .ok (.goto (-24), 3) := by decide +kernel
theorem dX7_keepAnswers_91 : decode cX7_keepAnswers 91 = .ok (.aload_n 0, 1) := by decide +kernel
theorem dX7_keepAnswers_92 : decode cX7_keepAnswers 92 = .ok (.getfield 41, 3) := by decide +kernel
theorem dX7_keepAnswers_95 : decode cX7_keepAnswers 95 = .ok (.ireturn, 1) := by decide +kernel
theorem dX7_isTerm_0 : decode cX7_isTerm 0 = .ok (.iload_n 0, 1) := by decide +kernel
theorem dX7_isTerm_1 : decode cX7_isTerm 1 = .ok (.ifCond .lt 13, 3) := by decide +kernel
theorem dX7_isTerm_4 : decode cX7_isTerm 4 = .ok (.iload_n 0, 1) := by decide +kernel
theorem dX7_isTerm_5 : decode cX7_isTerm 5 = .ok (.bipush 100, 2) := by decide +kernel
theorem dX7_isTerm_7 : decode cX7_isTerm 7 = .ok (.if_icmp .ge 7, 3) := by decide +kernel
theorem dX7_isTerm_10 : decode cX7_isTerm 10 = .ok (.iconst 1, 1) := by decide +kernel
theorem dX7_isTerm_11 : decode cX7_isTerm 11 = .ok (.goto 4, 3) := by decide +kernel
theorem dX7_isTerm_14 : decode cX7_isTerm 14 = .ok (.iconst 0, 1) := by decide +kernel
theorem dX7_isTerm_15 : decode cX7_isTerm 15 = .ok (.ireturn, 1) := by decide +kernel
theorem dX7_isTermOrAny_0 : decode cX7_isTermOrAny 0 = .ok (.iload_n 0, 1) := by decide +kernel
theorem dX7_isTermOrAny_1 : decode cX7_isTermOrAny 1 = .ok (.iconst (-1), 1) := by decide +kernel
theorem dX7_isTermOrAny_2 : decode cX7_isTermOrAny 2 = .ok (.if_icmp .lt 13, 3) := by decide +kernel
theorem dX7_isTermOrAny_5 : decode cX7_isTermOrAny 5 = .ok (.iload_n 0, 1) := by decide +kernel
theorem dX7_isTermOrAny_6 : decode cX7_isTermOrAny 6 = .ok (.bipush 100, 2) := by decide +kernel
theorem dX7_isTermOrAny_8 : decode cX7_isTermOrAny 8 = .ok (.if_icmp .ge 7, 3) := by decide +kernel
theorem dX7_isTermOrAny_11 : decode cX7_isTermOrAny 11 = .ok (.iconst 1, 1) := by decide +kernel
theorem dX7_isTermOrAny_12 : decode cX7_isTermOrAny 12 = .ok (.goto 4, 3) := by decide +kernel
theorem dX7_isTermOrAny_15 : decode cX7_isTermOrAny 15 = .ok (.iconst 0, 1) := by decide +kernel
theorem dX7_isTermOrAny_16 : decode cX7_isTermOrAny 16 = .ok (.ireturn, 1) := by decide +kernel
theorem dX7_isTermOrVariable_0 : decode cX7_isTermOrVariable 0 = .ok (.iload_n 0, 1) := by decide +kernel
theorem dX7_isTermOrVariable_1 : decode cX7_isTermOrVariable 1 = .ok (.bipush (-4), 2) := by decide +kernel
theorem dX7_isTermOrVariable_3 : decode cX7_isTermOrVariable 3 = .ok (.if_icmp .lt 13, 3) := by decide +kernel
theorem dX7_isTermOrVariable_6 : decode cX7_isTermOrVariable 6 = .ok (.iload_n 0, 1) := by decide +kernel
theorem dX7_isTermOrVariable_7 : decode cX7_isTermOrVariable 7 = .ok (.bipush 100, 2) := by decide +kernel
theorem dX7_isTermOrVariable_9 : decode cX7_isTermOrVariable 9 = .ok (.if_icmp .ge 7, 3) := by decide +kernel
theorem dX7_isTermOrVariable_12 : decode cX7_isTermOrVariable 12 = .ok (.iconst 1, 1) := by decide +kernel
theorem dX7_isTermOrVariable_13 : decode cX7_isTermOrVariable 13 = .ok (.goto 4, 3) := by decide +kernel
theorem dX7_isTermOrVariable_16 : decode cX7_isTermOrVariable 16 = .ok (.iconst 0, 1) := by decide +kernel
theorem dX7_isTermOrVariable_17 : decode cX7_isTermOrVariable 17 = .ok (.ireturn, 1) := by decide +kernel
theorem dX7_isVariable_0 : decode cX7_isVariable 0 = .ok (.iload_n 0, 1) := by decide +kernel
theorem dX7_isVariable_1 : decode cX7_isVariable 1 = .ok (.ifCond .lt 12, 3) := by decide +kernel
theorem dX7_isVariable_4 : decode cX7_isVariable 4 = .ok (.iload_n 0, 1) := by decide +kernel
theorem dX7_isVariable_5 : decode cX7_isVariable 5 = .ok (.iconst 4, 1) := by decide +kernel
theorem dX7_isVariable_6 : decode cX7_isVariable 6 = .ok (.if_icmp .ge 7, 3) := by decide +kernel
theorem dX7_isVariable_9 : decode cX7_isVariable 9 = .ok (.iconst 1, 1) := by decide +kernel
theorem dX7_isVariable_10 : decode cX7_isVariable 10 = .ok (.goto 4, 3) := by decide +kernel
theorem dX7_isVariable_13 : decode cX7_isVariable 13 = .ok (.iconst 0, 1) := by decide +kernel
theorem dX7_isVariable_14 : decode cX7_isVariable 14 = .ok (.ireturn, 1) := by decide +kernel
theorem dX7_isOrder_0 : decode cX7_isOrder 0 = .ok (.iload_n 0, 1) := by decide +kernel
theorem dX7_isOrder_1 : decode cX7_isOrder 1 = .ok (.ifCond .lt 12, 3) := by decide +kernel
theorem dX7_isOrder_4 : decode cX7_isOrder 4 = .ok (.iload_n 0, 1) := by decide +kernel
theorem dX7_isOrder_5 : decode cX7_isOrder 5 = .ok (.iconst 3, 1) := by decide +kernel
theorem dX7_isOrder_6 : decode cX7_isOrder 6 = .ok (.if_icmp .ge 7, 3) := by decide +kernel
theorem dX7_isOrder_9 : decode cX7_isOrder 9 = .ok (.iconst 1, 1) := by decide +kernel
theorem dX7_isOrder_10 : decode cX7_isOrder 10 = .ok (.goto 4, 3) := by decide +kernel
theorem dX7_isOrder_13 : decode cX7_isOrder 13 = .ok (.iconst 0, 1) := by decide +kernel
theorem dX7_isOrder_14 : decode cX7_isOrder 14 = .ok (.ireturn, 1) := by decide +kernel
theorem dX7_at_0 : decode cX7_at 0 = .ok (.aload_n 0, 1) := by decide +kernel
theorem dX7_at_1 : decode cX7_at 1 = .ok (.ifnull 19, 3) := by decide +kernel
theorem dX7_at_4 : decode cX7_at 4 = .ok (.iload_n 1, 1) := by decide +kernel
theorem dX7_at_5 : decode cX7_at 5 = .ok (.ifCond .lt 15, 3) := by decide +kernel
theorem dX7_at_8 : decode cX7_at 8 = .ok (.iload_n 1, 1) := by decide +kernel
theorem dX7_at_9 : decode cX7_at 9 = .ok (.aload_n 0, 1) := by decide +kernel
theorem dX7_at_10 : decode cX7_at 10 = .ok (.arraylength, 1) := by decide +kernel
theorem dX7_at_11 : decode cX7_at 11 = .ok (.if_icmp .ge 9, 3) := by decide +kernel
theorem dX7_at_14 : decode cX7_at 14 = .ok (.aload_n 0, 1) := by decide +kernel
theorem dX7_at_15 : decode cX7_at 15 = .ok (.iload_n 1, 1) := by decide +kernel
theorem dX7_at_16 : decode cX7_at 16 = .ok (.iaload, 1) := by decide +kernel
theorem dX7_at_17 : decode cX7_at 17 = .ok (.goto 4, 3) := by decide +kernel
theorem dX7_at_20 : decode cX7_at 20 = .ok (.iconst 0, 1) := by decide +kernel
theorem dX7_at_21 : decode cX7_at 21 = .ok (.ireturn, 1) := by decide +kernel
theorem dX7_put_0 : decode cX7_put 0 = .ok (.aload_n 0, 1) := by decide +kernel
theorem dX7_put_1 : decode cX7_put 1 = .ok (.ifnull 17, 3) := by decide +kernel
theorem dX7_put_4 : decode cX7_put 4 = .ok (.iload_n 1, 1) := by decide +kernel
theorem dX7_put_5 : decode cX7_put 5 = .ok (.ifCond .lt 13, 3) := by decide +kernel
theorem dX7_put_8 : decode cX7_put 8 = .ok (.iload_n 1, 1) := by decide +kernel
theorem dX7_put_9 : decode cX7_put 9 = .ok (.aload_n 0, 1) := by decide +kernel
theorem dX7_put_10 : decode cX7_put 10 = .ok (.arraylength, 1) := by decide +kernel
theorem dX7_put_11 : decode cX7_put 11 = .ok (.if_icmp .ge 7, 3) := by decide +kernel
theorem dX7_put_14 : decode cX7_put 14 = .ok (.aload_n 0, 1) := by decide +kernel
theorem dX7_put_15 : decode cX7_put 15 = .ok (.iload_n 1, 1) := by decide +kernel
theorem dX7_put_16 : decode cX7_put 16 = .ok (.iload_n 2, 1) := by decide +kernel
theorem dX7_put_17 : decode cX7_put 17 = .ok (.iastore, 1) := by decide +kernel
theorem dX7_put_18 : decode cX7_put 18 = .ok (.return_, 1) := by decide +kernel
theorem dX7_hasBit_0 : decode cX7_hasBit 0 = .ok (.iload_n 0, 1) := by decide +kernel
theorem dX7_hasBit_1 : decode cX7_hasBit 1 = .ok (.iload_n 1, 1) := by decide +kernel
theorem dX7_hasBit_2 : decode cX7_hasBit 2 = .ok (.ishr, 1) := by decide +kernel
theorem dX7_hasBit_3 : decode cX7_hasBit 3 = .ok (.iconst 1, 1) := by decide +kernel
theorem dX7_hasBit_4 : decode cX7_hasBit 4 = .ok (.iand, 1) := by decide +kernel
theorem dX7_hasBit_5 : decode cX7_hasBit 5 = .ok (.ifCond .eq 7, 3) := by decide +kernel
theorem dX7_hasBit_8 : decode cX7_hasBit 8 = .ok (.iconst 1, 1) := by decide +kernel
theorem dX7_hasBit_9 : decode cX7_hasBit 9 = .ok (.goto 4, 3) := by decide +kernel
theorem dX7_hasBit_12 : decode cX7_hasBit 12 = .ok (.iconst 0, 1) := by decide +kernel
theorem dX7_hasBit_13 : decode cX7_hasBit 13 = .ok (.ireturn, 1) := by decide +kernel
theorem dX7_partShift_0 : decode cX7_partShift 0 = .ok (.bipush 6, 2) := by decide +kernel
theorem dX7_partShift_2 : decode cX7_partShift 2 = .ok (.iconst 2, 1) := by decide +kernel
theorem dX7_partShift_3 : decode cX7_partShift 3 = .ok (.iload_n 0, 1) := by decide +kernel
theorem dX7_partShift_4 : decode cX7_partShift 4 = .ok (.isub, 1) := by decide +kernel
theorem dX7_partShift_5 : decode cX7_partShift 5 = .ok (.imul, 1) := by decide +kernel
theorem dX7_partShift_6 : decode cX7_partShift 6 = .ok (.ireturn, 1) := by decide +kernel
theorem dX7_partOf_0 : decode cX7_partOf 0 = .ok (.iload_n 0, 1) := by decide +kernel
theorem dX7_partOf_1 : decode cX7_partOf 1 = .ok (.iload_n 1, 1) := by decide +kernel
theorem dX7_partOf_2 : decode cX7_partOf 2 = .ok (.invokestatic 142, 3) := by decide +kernel
theorem dX7_partOf_5 : decode cX7_partOf 5 = .ok (.ishr, 1) := by decide +kernel
theorem dX7_partOf_6 : decode cX7_partOf 6 = .ok (.bipush 63, 2) := by decide +kernel
theorem dX7_partOf_8 : decode cX7_partOf 8 = .ok (.iand, 1) := by decide +kernel
theorem dX7_partOf_9 : decode cX7_partOf 9 = .ok (.ireturn, 1) := by decide +kernel
theorem dX7_cellShift_0 : decode cX7_cellShift 0 = .ok (.bipush 6, 2) := by decide +kernel
theorem dX7_cellShift_2 : decode cX7_cellShift 2 = .ok (.iconst 3, 1) := by decide +kernel
theorem dX7_cellShift_3 : decode cX7_cellShift 3 = .ok (.iload_n 0, 1) := by decide +kernel
theorem dX7_cellShift_4 : decode cX7_cellShift 4 = .ok (.isub, 1) := by decide +kernel
theorem dX7_cellShift_5 : decode cX7_cellShift 5 = .ok (.imul, 1) := by decide +kernel
theorem dX7_cellShift_6 : decode cX7_cellShift 6 = .ok (.ireturn, 1) := by decide +kernel
theorem dX7_cellOf_0 : decode cX7_cellOf 0 = .ok (.iload_n 0, 1) := by decide +kernel
theorem dX7_cellOf_1 : decode cX7_cellOf 1 = .ok (.iload_n 1, 1) := by decide +kernel
theorem dX7_cellOf_2 : decode cX7_cellOf 2 = .ok (.invokestatic 255, 3) := by decide +kernel
theorem dX7_cellOf_5 : decode cX7_cellOf 5 = .ok (.ishr, 1) := by decide +kernel
theorem dX7_cellOf_6 : decode cX7_cellOf 6 = .ok (.bipush 63, 2) := by decide +kernel
theorem dX7_cellOf_8 : decode cX7_cellOf 8 = .ok (.iand, 1) := by decide +kernel
theorem dX7_cellOf_9 : decode cX7_cellOf 9 = .ok (.ireturn, 1) := by decide +kernel
theorem dX7_rowMask_0 : decode cX7_rowMask 0 = .ok (.iconst 0, 1) := by decide +kernel
theorem dX7_rowMask_1 : decode cX7_rowMask 1 = .ok (.istore_n 1, 1) := by decide +kernel
theorem dX7_rowMask_2 : decode cX7_rowMask 2 = .ok (.iconst 0, 1) := by decide +kernel
theorem dX7_rowMask_3 : decode cX7_rowMask 3 = .ok (.istore_n 2, 1) := by decide +kernel
theorem dX7_rowMask_4 : decode cX7_rowMask 4 = .ok (.iload_n 2, 1) := by decide +kernel
theorem dX7_rowMask_5 : decode cX7_rowMask 5 = .ok (.iconst 4, 1) := by decide +kernel
theorem dX7_rowMask_6 : decode cX7_rowMask 6 = .ok (.if_icmp .ge 27, 3) := by decide +kernel
theorem dX7_rowMask_9 : decode cX7_rowMask 9 = .ok (.iload_n 0, 1) := by decide +kernel
theorem dX7_rowMask_10 : decode cX7_rowMask 10 = .ok (.iload_n 2, 1) := by decide +kernel
theorem dX7_rowMask_11 : decode cX7_rowMask 11 = .ok (.invokestatic 212, 3) := by decide +kernel
theorem dX7_rowMask_14 : decode cX7_rowMask 14 = .ok (.ifCond .eq 13, 3) := by decide +kernel
theorem dX7_rowMask_17 : decode cX7_rowMask 17 = .ok (.iload_n 1, 1) := by decide +kernel
theorem dX7_rowMask_18 : decode cX7_rowMask 18 = .ok (.bipush 63, 2) := by decide +kernel
theorem dX7_rowMask_20 : decode cX7_rowMask 20 = .ok (.iload_n 2, 1) := by decide +kernel
theorem dX7_rowMask_21 : decode cX7_rowMask 21 = .ok (.invokestatic 255, 3) := by decide +kernel
theorem dX7_rowMask_24 : decode cX7_rowMask 24 = .ok (.ishl, 1) := by decide +kernel
theorem dX7_rowMask_25 : decode cX7_rowMask 25 = .ok (.ior, 1) := by decide +kernel
theorem dX7_rowMask_26 : decode cX7_rowMask 26 = .ok (.istore_n 1, 1) := by decide +kernel
theorem dX7_rowMask_27 : decode cX7_rowMask 27 = .ok (.iinc 2 1, 3) := by decide +kernel
theorem dX7_rowMask_30 : decode cX7_rowMask 30 = .ok (.goto (-26), 3) := by decide +kernel
theorem dX7_rowMask_33 : decode cX7_rowMask 33 = .ok (.iload_n 1, 1) := by decide +kernel
theorem dX7_rowMask_34 : decode cX7_rowMask 34 = .ok (.ireturn, 1) := by decide +kernel
theorem dX7_maskFor_0 : decode cX7_maskFor 0 = .ok (.iload_n 0, 1) := by decide +kernel
theorem dX7_maskFor_1 : decode cX7_maskFor 1 = .ok (.ifCond .eq 13, 3) := by decide +kernel
theorem dX7_maskFor_4 : decode cX7_maskFor 4 = .ok (.bipush 63, 2) := by decide +kernel
theorem dX7_maskFor_6 : decode cX7_maskFor 6 = .ok (.iconst 0, 1) := by decide +kernel
theorem dX7_maskFor_7 : decode cX7_maskFor 7 = .ok (.invokestatic 142, 3) := by decide +kernel
theorem dX7_maskFor_10 : decode cX7_maskFor 10 = .ok (.ishl, 1) := by decide +kernel
theorem dX7_maskFor_11 : decode cX7_maskFor 11 = .ok (.goto 4, 3) := by decide +kernel
theorem dX7_maskFor_14 : decode cX7_maskFor 14 = .ok (.iconst 0, 1) := by decide +kernel
theorem dX7_maskFor_15 : decode cX7_maskFor 15 = .ok (.iload_n 1, 1) := by decide +kernel
theorem dX7_maskFor_16 : decode cX7_maskFor 16 = .ok (.ifCond .eq 13, 3) := by decide +kernel
theorem dX7_maskFor_19 : decode cX7_maskFor 19 = .ok (.bipush 63, 2) := by decide +kernel
theorem dX7_maskFor_21 : decode cX7_maskFor 21 = .ok (.iconst 1, 1) := by decide +kernel
theorem dX7_maskFor_22 : decode cX7_maskFor 22 = .ok (.invokestatic 142, 3) := by decide +kernel
theorem dX7_maskFor_25 : decode cX7_maskFor 25 = .ok (.ishl, 1) := by decide +kernel
theorem dX7_maskFor_26 : decode cX7_maskFor 26 = .ok (.goto 4, 3) := by decide +kernel
theorem dX7_maskFor_29 : decode cX7_maskFor 29 = .ok (.iconst 0, 1) := by decide +kernel
theorem dX7_maskFor_30 : decode cX7_maskFor 30 = .ok (.ior, 1) := by decide +kernel
theorem dX7_maskFor_31 : decode cX7_maskFor 31 = .ok (.iload_n 2, 1) := by decide +kernel
theorem dX7_maskFor_32 : decode cX7_maskFor 32 = .ok (.ifCond .eq 13, 3) := by decide +kernel
theorem dX7_maskFor_35 : decode cX7_maskFor 35 = .ok (.bipush 63, 2) := by decide +kernel
theorem dX7_maskFor_37 : decode cX7_maskFor 37 = .ok (.iconst 2, 1) := by decide +kernel
theorem dX7_maskFor_38 : decode cX7_maskFor 38 = .ok (.invokestatic 142, 3) := by decide +kernel
theorem dX7_maskFor_41 : decode cX7_maskFor 41 = .ok (.ishl, 1) := by decide +kernel
theorem dX7_maskFor_42 : decode cX7_maskFor 42 = .ok (.goto 4, 3) := by decide +kernel
theorem dX7_maskFor_45 : decode cX7_maskFor 45 = .ok (.iconst 0, 1) := by decide +kernel
theorem dX7_maskFor_46 : decode cX7_maskFor 46 = .ok (.ior, 1) := by decide +kernel
theorem dX7_maskFor_47 : decode cX7_maskFor 47 = .ok (.ireturn, 1) := by decide +kernel
theorem dX7_orderOf_0 : decode cX7_orderOf 0 = .ok (.iload_n 0, 1) := by decide +kernel
theorem dX7_orderOf_1 : decode cX7_orderOf 1 = .ok (.iconst 0, 1) := by decide +kernel
theorem dX7_orderOf_2 : decode cX7_orderOf 2 = .ok (.invokestatic 106, 3) := by decide +kernel
theorem dX7_orderOf_5 : decode cX7_orderOf 5 = .ok (.ifCond .eq 7, 3) := by decide +kernel
theorem dX7_orderOf_8 : decode cX7_orderOf 8 = .ok (.iconst 1, 1) := by decide +kernel
theorem dX7_orderOf_9 : decode cX7_orderOf 9 = .ok (.goto 4, 3) := by decide +kernel
theorem dX7_orderOf_12 : decode cX7_orderOf 12 = .ok (.iconst 0, 1) := by decide +kernel
theorem dX7_orderOf_13 : decode cX7_orderOf 13 = .ok (.istore_n 1, 1) := by decide +kernel
theorem dX7_orderOf_14 : decode cX7_orderOf 14 = .ok (.iload_n 0, 1) := by decide +kernel
theorem dX7_orderOf_15 : decode cX7_orderOf 15 = .ok (.iconst 1, 1) := by decide +kernel
theorem dX7_orderOf_16 : decode cX7_orderOf 16 = .ok (.invokestatic 106, 3) := by decide +kernel
theorem dX7_orderOf_19 : decode cX7_orderOf 19 = .ok (.ifCond .eq 7, 3) := by decide +kernel
theorem dX7_orderOf_22 : decode cX7_orderOf 22 = .ok (.iconst 1, 1) := by decide +kernel
theorem dX7_orderOf_23 : decode cX7_orderOf 23 = .ok (.goto 4, 3) := by decide +kernel
theorem dX7_orderOf_26 : decode cX7_orderOf 26 = .ok (.iconst 0, 1) := by decide +kernel
theorem dX7_orderOf_27 : decode cX7_orderOf 27 = .ok (.istore_n 2, 1) := by decide +kernel
theorem dX7_orderOf_28 : decode cX7_orderOf 28 = .ok (.iload_n 0, 1) := by decide +kernel
theorem dX7_orderOf_29 : decode cX7_orderOf 29 = .ok (.iconst 2, 1) := by decide +kernel
theorem dX7_orderOf_30 : decode cX7_orderOf 30 = .ok (.invokestatic 106, 3) := by decide +kernel
theorem dX7_orderOf_33 : decode cX7_orderOf 33 = .ok (.ifCond .eq 7, 3) := by decide +kernel
theorem dX7_orderOf_36 : decode cX7_orderOf 36 = .ok (.iconst 1, 1) := by decide +kernel
theorem dX7_orderOf_37 : decode cX7_orderOf 37 = .ok (.goto 4, 3) := by decide +kernel
theorem dX7_orderOf_40 : decode cX7_orderOf 40 = .ok (.iconst 0, 1) := by decide +kernel
theorem dX7_orderOf_41 : decode cX7_orderOf 41 = .ok (.istore_n 3, 1) := by decide +kernel
theorem dX7_orderOf_42 : decode cX7_orderOf 42 = .ok (.iload_n 3, 1) := by decide +kernel
theorem dX7_orderOf_43 : decode cX7_orderOf 43 = .ok (.ifCond .eq 9, 3) := by decide +kernel
theorem dX7_orderOf_46 : decode cX7_orderOf 46 = .ok (.iload_n 2, 1) := by decide +kernel
theorem dX7_orderOf_47 : decode cX7_orderOf 47 = .ok (.ifCond .ne 5, 3) := by decide +kernel
theorem dX7_orderOf_50 : decode cX7_orderOf 50 = .ok (.iconst 2, 1) := by decide +kernel
theorem dX7_orderOf_51 : decode cX7_orderOf 51 = .ok (.ireturn, 1) := by decide +kernel
theorem dX7_orderOf_52 : decode cX7_orderOf 52 = .ok (.iload_n 2, 1) := by decide +kernel
theorem dX7_orderOf_53 : decode cX7_orderOf 53 = .ok (.ifCond .eq 11, 3) := by decide +kernel
theorem dX7_orderOf_56 : decode cX7_orderOf 56 = .ok (.iload_n 1, 1) := by decide +kernel
theorem dX7_orderOf_57 : decode cX7_orderOf 57 = .ok (.ifCond .ne 7, 3) := by decide +kernel
theorem dX7_orderOf_60 : decode cX7_orderOf 60 = .ok (.iconst 1, 1) := by decide +kernel
theorem dX7_orderOf_61 : decode cX7_orderOf 61 = .ok (.goto 4, 3) := by decide +kernel
theorem dX7_orderOf_64 : decode cX7_orderOf 64 = .ok (.iconst 0, 1) := by decide +kernel
theorem dX7_orderOf_65 : decode cX7_orderOf 65 = .ok (.ireturn, 1) := by decide +kernel
theorem dX7_rolled_0 : decode cX7_rolled 0 = .ok (.bipush 6, 2) := by decide +kernel
theorem dX7_rolled_2 : decode cX7_rolled 2 = .ok (.iload_n 1, 1) := by decide +kernel
theorem dX7_rolled_3 : decode cX7_rolled 3 = .ok (.imul, 1) := by decide +kernel
theorem dX7_rolled_4 : decode cX7_rolled 4 = .ok (.istore_n 2, 1) := by decide +kernel
theorem dX7_rolled_5 : decode cX7_rolled 5 = .ok (.iload_n 0, 1) := by decide +kernel
theorem dX7_rolled_6 : decode cX7_rolled 6 = .ok (.iload_n 2, 1) := by decide +kernel
theorem dX7_rolled_7 : decode cX7_rolled 7 = .ok (.ishl, 1) := by decide +kernel
theorem dX7_rolled_8 : decode cX7_rolled 8 = .ok (.iload_n 0, 1) := by decide +kernel
theorem dX7_rolled_9 : decode cX7_rolled 9 = .ok (.bipush 18, 2) := by decide +kernel
theorem dX7_rolled_11 : decode cX7_rolled 11 = .ok (.iload_n 2, 1) := by decide +kernel
theorem dX7_rolled_12 : decode cX7_rolled 12 = .ok (.isub, 1) := by decide +kernel
theorem dX7_rolled_13 : decode cX7_rolled 13 = .ok (.ishr, 1) := by decide +kernel
theorem dX7_rolled_14 : decode cX7_rolled 14 = .ok (.ior, 1) := by decide +kernel
theorem dX7_rolled_15 : decode cX7_rolled 15 = .ok (.ldc_w 258, 3) := by decide +kernel
theorem dX7_rolled_18 : decode cX7_rolled 18 = .ok (.iand, 1) := by decide +kernel
theorem dX7_rolled_19 : decode cX7_rolled 19 = .ok (.ireturn, 1) := by decide +kernel
theorem dX7_rolledBack_0 : decode cX7_rolledBack 0 = .ok (.bipush 6, 2) := by decide +kernel
theorem dX7_rolledBack_2 : decode cX7_rolledBack 2 = .ok (.iload_n 1, 1) := by decide +kernel
theorem dX7_rolledBack_3 : decode cX7_rolledBack 3 = .ok (.imul, 1) := by decide +kernel
theorem dX7_rolledBack_4 : decode cX7_rolledBack 4 = .ok (.istore_n 2, 1) := by decide +kernel
theorem dX7_rolledBack_5 : decode cX7_rolledBack 5 = .ok (.iload_n 0, 1) := by decide +kernel
theorem dX7_rolledBack_6 : decode cX7_rolledBack 6 = .ok (.iload_n 2, 1) := by decide +kernel
theorem dX7_rolledBack_7 : decode cX7_rolledBack 7 = .ok (.ishr, 1) := by decide +kernel
theorem dX7_rolledBack_8 : decode cX7_rolledBack 8 = .ok (.iload_n 0, 1) := by decide +kernel
theorem dX7_rolledBack_9 : decode cX7_rolledBack 9 = .ok (.bipush 18, 2) := by decide +kernel
theorem dX7_rolledBack_11 : decode cX7_rolledBack 11 = .ok (.iload_n 2, 1) := by decide +kernel
theorem dX7_rolledBack_12 : decode cX7_rolledBack 12 = .ok (.isub, 1) := by decide +kernel
theorem dX7_rolledBack_13 : decode cX7_rolledBack 13 = .ok (.ishl, 1) := by decide +kernel
theorem dX7_rolledBack_14 : decode cX7_rolledBack 14 = .ok (.ior, 1) := by decide +kernel
theorem dX7_rolledBack_15 : decode cX7_rolledBack 15 = .ok (.ldc_w 258, 3) := by decide +kernel
theorem dX7_rolledBack_18 : decode cX7_rolledBack 18 = .ok (.iand, 1) := by decide +kernel
theorem dX7_rolledBack_19 : decode cX7_rolledBack 19 = .ok (.ireturn, 1) := by decide +kernel
theorem dJ13_bitCount_95d88_0 : decode cJ13_bitCount_95d88 0 = .ok (.lload_n 0, 1) := by decide +kernel
theorem dJ13_bitCount_95d88_1 : decode cJ13_bitCount_95d88 1 = .ok (.lload_n 0, 1) := by decide +kernel
theorem dJ13_bitCount_95d88_2 : decode cJ13_bitCount_95d88 2 = .ok (.iconst 1, 1) := by decide +kernel
theorem dJ13_bitCount_95d88_3 : decode cJ13_bitCount_95d88 3 = .ok (.lushr, 1) := by decide +kernel
theorem dJ13_bitCount_95d88_4 : decode cJ13_bitCount_95d88 4 = .ok (.ldc2_w 314, 3) := by decide +kernel
theorem dJ13_bitCount_95d88_7 : decode cJ13_bitCount_95d88 7 = .ok (.land, 1) := by decide +kernel
theorem dJ13_bitCount_95d88_8 : decode cJ13_bitCount_95d88 8 = .ok (.lsub, 1) := by decide +kernel
theorem dJ13_bitCount_95d88_9 : decode cJ13_bitCount_95d88 9 = .ok (.lstore_n 0, 1) := by decide +kernel
theorem dJ13_bitCount_95d88_10 : decode cJ13_bitCount_95d88 10 = .ok (.lload_n 0, 1) := by decide +kernel
theorem dJ13_bitCount_95d88_11 : decode cJ13_bitCount_95d88 11 = .ok (.ldc2_w 316, 3) := by decide +kernel
theorem dJ13_bitCount_95d88_14 : decode cJ13_bitCount_95d88 14 = .ok (.land, 1) := by decide +kernel
theorem dJ13_bitCount_95d88_15 : decode cJ13_bitCount_95d88 15 = .ok (.lload_n 0, 1) := by decide +kernel
theorem dJ13_bitCount_95d88_16 : decode cJ13_bitCount_95d88 16 = .ok (.iconst 2, 1) := by decide +kernel
theorem dJ13_bitCount_95d88_17 : decode cJ13_bitCount_95d88 17 = .ok (.lushr, 1) := by decide +kernel
theorem dJ13_bitCount_95d88_18 : decode cJ13_bitCount_95d88 18 = .ok (.ldc2_w 316, 3) := by decide +kernel
theorem dJ13_bitCount_95d88_21 : decode cJ13_bitCount_95d88 21 = .ok (.land, 1) := by decide +kernel
theorem dJ13_bitCount_95d88_22 : decode cJ13_bitCount_95d88 22 = .ok (.ladd, 1) := by decide +kernel
theorem dJ13_bitCount_95d88_23 : decode cJ13_bitCount_95d88 23 = .ok (.lstore_n 0, 1) := by decide +kernel
theorem dJ13_bitCount_95d88_24 : decode cJ13_bitCount_95d88 24 = .ok (.lload_n 0, 1) := by decide +kernel
theorem dJ13_bitCount_95d88_25 : decode cJ13_bitCount_95d88 25 = .ok (.lload_n 0, 1) := by decide +kernel
theorem dJ13_bitCount_95d88_26 : decode cJ13_bitCount_95d88 26 = .ok (.iconst 4, 1) := by decide +kernel
theorem dJ13_bitCount_95d88_27 : decode cJ13_bitCount_95d88 27 = .ok (.lushr, 1) := by decide +kernel
theorem dJ13_bitCount_95d88_28 : decode cJ13_bitCount_95d88 28 = .ok (.ladd, 1) := by decide +kernel
theorem dJ13_bitCount_95d88_29 : decode cJ13_bitCount_95d88 29 = .ok (.ldc2_w 318, 3) := by decide +kernel
theorem dJ13_bitCount_95d88_32 : decode cJ13_bitCount_95d88 32 = .ok (.land, 1) := by decide +kernel
theorem dJ13_bitCount_95d88_33 : decode cJ13_bitCount_95d88 33 = .ok (.lstore_n 0, 1) := by decide +kernel
theorem dJ13_bitCount_95d88_34 : decode cJ13_bitCount_95d88 34 = .ok (.lload_n 0, 1) := by decide +kernel
theorem dJ13_bitCount_95d88_35 : decode cJ13_bitCount_95d88 35 = .ok (.lload_n 0, 1) := by decide +kernel
theorem dJ13_bitCount_95d88_36 : decode cJ13_bitCount_95d88 36 = .ok (.bipush 8, 2) := by decide +kernel
theorem dJ13_bitCount_95d88_38 : decode cJ13_bitCount_95d88 38 = .ok (.lushr, 1) := by decide +kernel
theorem dJ13_bitCount_95d88_39 : decode cJ13_bitCount_95d88 39 = .ok (.ladd, 1) := by decide +kernel
theorem dJ13_bitCount_95d88_40 : decode cJ13_bitCount_95d88 40 = .ok (.lstore_n 0, 1) := by decide +kernel
theorem dJ13_bitCount_95d88_41 : decode cJ13_bitCount_95d88 41 = .ok (.lload_n 0, 1) := by decide +kernel
theorem dJ13_bitCount_95d88_42 : decode cJ13_bitCount_95d88 42 = .ok (.lload_n 0, 1) := by decide +kernel
theorem dJ13_bitCount_95d88_43 : decode cJ13_bitCount_95d88 43 = .ok (.bipush 16, 2) := by decide +kernel
theorem dJ13_bitCount_95d88_45 : decode cJ13_bitCount_95d88 45 = .ok (.lushr, 1) := by decide +kernel
theorem dJ13_bitCount_95d88_46 : decode cJ13_bitCount_95d88 46 = .ok (.ladd, 1) := by decide +kernel
theorem dJ13_bitCount_95d88_47 : decode cJ13_bitCount_95d88 47 = .ok (.lstore_n 0, 1) := by decide +kernel
theorem dJ13_bitCount_95d88_48 : decode cJ13_bitCount_95d88 48 = .ok (.lload_n 0, 1) := by decide +kernel
theorem dJ13_bitCount_95d88_49 : decode cJ13_bitCount_95d88 49 = .ok (.lload_n 0, 1) := by decide +kernel
theorem dJ13_bitCount_95d88_50 : decode cJ13_bitCount_95d88 50 = .ok (.bipush 32, 2) := by decide +kernel
theorem dJ13_bitCount_95d88_52 : decode cJ13_bitCount_95d88 52 = .ok (.lushr, 1) := by decide +kernel
theorem dJ13_bitCount_95d88_53 : decode cJ13_bitCount_95d88 53 = .ok (.ladd, 1) := by decide +kernel
theorem dJ13_bitCount_95d88_54 : decode cJ13_bitCount_95d88 54 = .ok (.lstore_n 0, 1) := by decide +kernel
theorem dJ13_bitCount_95d88_55 : decode cJ13_bitCount_95d88 55 = .ok (.lload_n 0, 1) := by decide +kernel
theorem dJ13_bitCount_95d88_56 : decode cJ13_bitCount_95d88 56 = .ok (.l2i, 1) := by decide +kernel
theorem dJ13_bitCount_95d88_57 : decode cJ13_bitCount_95d88 57 = .ok (.bipush 127, 2) := by decide +kernel
theorem dJ13_bitCount_95d88_59 : decode cJ13_bitCount_95d88 59 = .ok (.iand, 1) := by decide +kernel
theorem dJ13_bitCount_95d88_60 : decode cJ13_bitCount_95d88 60 = .ok (.ireturn, 1) := by decide +kernel
theorem dJ9_max_7cf53_0 : decode cJ9_max_7cf53 0 = .ok (.iload_n 0, 1) := by decide +kernel
theorem dJ9_max_7cf53_1 : decode cJ9_max_7cf53 1 = .ok (.iload_n 1, 1) := by decide +kernel
theorem dJ9_max_7cf53_2 : decode cJ9_max_7cf53 2 = .ok (.if_icmp .lt 7, 3) := by decide +kernel
theorem dJ9_max_7cf53_5 : decode cJ9_max_7cf53 5 = .ok (.iload_n 0, 1) := by decide +kernel
theorem dJ9_max_7cf53_6 : decode cJ9_max_7cf53 6 = .ok (.goto 4, 3) := by decide +kernel
theorem dJ9_max_7cf53_9 : decode cJ9_max_7cf53 9 = .ok (.iload_n 1, 1) := by decide +kernel
theorem dJ9_max_7cf53_10 : decode cJ9_max_7cf53 10 = .ok (.ireturn, 1) := by decide +kernel
theorem dL_act_0 : decode cL_act 0 = .ok (.iload_n 1, 1) := by decide +kernel
theorem dL_act_1 : decode cL_act 1 = .ok (.ifCond .ne 22, 3) := by decide +kernel
theorem dL_act_4 : decode cL_act 4 = .ok (.aload_n 0, 1) := by decide +kernel
theorem dL_act_5 : decode cL_act 5 = .ok (.iload_n 2, 1) := by decide +kernel
theorem dL_act_6 : decode cL_act 6 = .ok (.iload_n 3, 1) := by decide +kernel
theorem dL_act_7 : decode cL_act 7 = .ok (.iload 4, 2) := by decide +kernel
theorem dL_act_9 : decode cL_act 9 = .ok (.invokevirtual 7, 3) := by decide +kernel
theorem dL_act_12 : decode cL_act 12 = .ok (.ifCond .eq 7, 3) := by decide +kernel
theorem dL_act_15 : decode cL_act 15 = .ok (.iconst 1, 1) := by decide +kernel
theorem dL_act_16 : decode cL_act 16 = .ok (.goto 208, 3) := by decide +kernel
theorem dL_act_19 : decode cL_act 19 = .ok (.iconst 0, 1) := by decide +kernel
theorem dL_act_20 : decode cL_act 20 = .ok (.goto 204, 3) := by decide +kernel
