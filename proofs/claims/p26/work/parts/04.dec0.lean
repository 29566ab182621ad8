theorem dX0_init_0 : decode cX0_init 0 = .ok (.aload_n 0, 1) := by decide +kernel
theorem dX0_init_1 : decode cX0_init 1 = .ok (.invokespecial 3, 3) := by decide +kernel
theorem dX0_init_4 : decode cX0_init 4 = .ok (.aload_n 0, 1) := by decide +kernel
theorem dX0_init_5 : decode cX0_init 5 = .ok (.bipush 40, 2) := by decide +kernel
theorem dX0_init_7 : decode cX0_init 7 = .ok (.newarray .int, 2) := by decide +kernel
theorem dX0_init_9 : decode cX0_init 9 = .ok (.putfield 9, 3) := by decide +kernel
theorem dX0_init_12 : decode cX0_init 12 = .ok (.aload_n 0, 1) := by decide +kernel
theorem dX0_init_13 : decode cX0_init 13 = .ok (.bipush 100, 2) := by decide +kernel
theorem dX0_init_15 : decode cX0_init 15 = .ok (.newarray .int, 2) := by decide +kernel
theorem dX0_init_17 : decode cX0_init 17 = .ok (.putfield 15, 3) := by decide +kernel
theorem dX0_init_20 : decode cX0_init 20 = .ok (.aload_n 0, 1) := by decide +kernel
theorem dX0_init_21 : decode cX0_init 21 = .ok (.iconst 0, 1) := by decide +kernel
theorem dX0_init_22 : decode cX0_init 22 = .ok (.putfield 18, 3) := by decide +kernel
theorem dX0_init_25 : decode cX0_init 25 = .ok (.return_, 1) := by decide +kernel
theorem dX0_size_0 : decode cX0_size 0 = .ok (.aload_n 0, 1) := by decide +kernel
theorem dX0_size_1 : decode cX0_size 1 = .ok (.getfield 18, 3) := by decide +kernel
theorem dX0_size_4 : decode cX0_size 4 = .ok (.ireturn, 1) := by decide +kernel
theorem dX0_knows_0 : decode cX0_knows 0 = .ok (.aload_n 0, 1) := by decide +kernel
theorem dX0_knows_1 : decode cX0_knows 1 = .ok (.getfield 15, 3) := by decide +kernel
theorem dX0_knows_4 : decode cX0_knows 4 = .ok (.iload_n 1, 1) := by decide +kernel
theorem dX0_knows_5 : decode cX0_knows 5 = .ok (.invokestatic 22, 3) := by decide +kernel
theorem dX0_knows_8 : decode cX0_knows 8 = .ok (.ifCond .le 7, 3) := by decide +kernel
theorem dX0_knows_11 : decode cX0_knows 11 = .ok (.iconst 1, 1) := by decide +kernel
theorem dX0_knows_12 : decode cX0_knows 12 = .ok (.goto 4, 3) := by decide +kernel
theorem dX0_knows_15 : decode cX0_knows 15 = .ok (.iconst 0, 1) := by decide +kernel
theorem dX0_knows_16 : decode cX0_knows 16 = .ok (.ireturn, 1) := by decide +kernel
theorem dX0_number_0 : decode cX0_number 0 = .ok (.aload_n 0, 1) := by decide +kernel
theorem dX0_number_1 : decode cX0_number 1 = .ok (.iload_n 1, 1) := by decide +kernel
theorem dX0_number_2 : decode cX0_number 2 = .ok (.invokevirtual 26, 3) := by decide +kernel
theorem dX0_number_5 : decode cX0_number 5 = .ok (.ifCond .eq 16, 3) := by decide +kernel
theorem dX0_number_8 : decode cX0_number 8 = .ok (.aload_n 0, 1) := by decide +kernel
theorem dX0_number_9 : decode cX0_number 9 = .ok (.getfield 15, 3) := by decide +kernel
theorem dX0_number_12 : decode cX0_number 12 = .ok (.iload_n 1, 1) := by decide +kernel
theorem dX0_number_13 : decode cX0_number 13 = .ok (.invokestatic 22, 3) := by decide +kernel
theorem dX0_number_16 : decode cX0_number 16 = .ok (.iconst 1, 1) := by decide +kernel
theorem dX0_number_17 : decode cX0_number 17 = .ok (.isub, 1) := by decide +kernel
theorem dX0_number_18 : decode cX0_number 18 = .ok (.goto 5, 3) := by decide +kernel
theorem dX0_number_21 : decode cX0_number 21 = .ok (.bipush 63, 2) := by decide +kernel
theorem dX0_number_23 : decode cX0_number 23 = .ok (.ireturn, 1) := by decide +kernel
theorem dX0_term_0 : decode cX0_term 0 = .ok (.aload_n 0, 1) := by decide +kernel
theorem dX0_term_1 : decode cX0_term 1 = .ok (.getfield 9, 3) := by decide +kernel
theorem dX0_term_4 : decode cX0_term 4 = .ok (.iload_n 1, 1) := by decide +kernel
theorem dX0_term_5 : decode cX0_term 5 = .ok (.invokestatic 22, 3) := by decide +kernel
theorem dX0_term_8 : decode cX0_term 8 = .ok (.ireturn, 1) := by decide +kernel
theorem dX0_pack_0 : decode cX0_pack 0 = .ok (.aload_n 0, 1) := by decide +kernel
theorem dX0_pack_1 : decode cX0_pack 1 = .ok (.iload_n 1, 1) := by decide +kernel
theorem dX0_pack_2 : decode cX0_pack 2 = .ok (.invokevirtual 30, 3) := by decide +kernel
theorem dX0_pack_5 : decode cX0_pack 5 = .ok (.iconst 0, 1) := by decide +kernel
theorem dX0_pack_6 : decode cX0_pack 6 = .ok (.invokestatic 34, 3) := by decide +kernel
theorem dX0_pack_9 : decode cX0_pack 9 = .ok (.ishl, 1) := by decide +kernel
theorem dX0_pack_10 : decode cX0_pack 10 = .ok (.aload_n 0, 1) := by decide +kernel
theorem dX0_pack_11 : decode cX0_pack 11 = .ok (.iload_n 2, 1) := by decide +kernel
theorem dX0_pack_12 : decode cX0_pack 12 = .ok (.invokevirtual 30, 3) := by decide +kernel
theorem dX0_pack_15 : decode cX0_pack 15 = .ok (.iconst 1, 1) := by decide +kernel
theorem dX0_pack_16 : decode cX0_pack 16 = .ok (.invokestatic 34, 3) := by decide +kernel
theorem dX0_pack_19 : decode cX0_pack 19 = .ok (.ishl, 1) := by decide +kernel
theorem dX0_pack_20 : decode cX0_pack 20 = .ok (.ior, 1) := by decide +kernel
theorem dX0_pack_21 : decode cX0_pack 21 = .ok (.aload_n 0, 1) := by decide +kernel
theorem dX0_pack_22 : decode cX0_pack 22 = .ok (.iload_n 3, 1) := by decide +kernel
theorem dX0_pack_23 : decode cX0_pack 23 = .ok (.invokevirtual 30, 3) := by decide +kernel
theorem dX0_pack_26 : decode cX0_pack 26 = .ok (.iconst 2, 1) := by decide +kernel
theorem dX0_pack_27 : decode cX0_pack 27 = .ok (.invokestatic 34, 3) := by decide +kernel
theorem dX0_pack_30 : decode cX0_pack 30 = .ok (.ishl, 1) := by decide +kernel
theorem dX0_pack_31 : decode cX0_pack 31 = .ok (.ior, 1) := by decide +kernel
theorem dX0_pack_32 : decode cX0_pack 32 = .ok (.ireturn, 1) := by decide +kernel
theorem dX0_sizeWith_0 : decode cX0_sizeWith 0 = .ok (.aload_n 0, 1) := by decide +kernel
theorem dX0_sizeWith_1 : decode cX0_sizeWith 1 = .ok (.getfield 18, 3) := by decide +kernel
theorem dX0_sizeWith_4 : decode cX0_sizeWith 4 = .ok (.istore 4, 2) := by decide +kernel
theorem dX0_sizeWith_6 : decode cX0_sizeWith 6 = .ok (.aload_n 0, 1) := by decide +kernel
theorem dX0_sizeWith_7 : decode cX0_sizeWith 7 = .ok (.iload_n 1, 1) := by decide +kernel
theorem dX0_sizeWith_8 : decode cX0_sizeWith 8 = .ok (.invokevirtual 26, 3) := by decide +kernel
theorem dX0_sizeWith_11 : decode cX0_sizeWith 11 = .ok (.ifCond .ne 6, 3) := by decide +kernel
theorem dX0_sizeWith_14 : decode cX0_sizeWith 14 = .ok (.iinc 4 1, 3) := by decide +kernel
theorem dX0_sizeWith_17 : decode cX0_sizeWith 17 = .ok (.aload_n 0, 1) := by decide +kernel
theorem dX0_sizeWith_18 : decode cX0_sizeWith 18 = .ok (.iload_n 2, 1) := by decide +kernel
theorem dX0_sizeWith_19 : decode cX0_sizeWith 19 = .ok (.invokevirtual 26, 3) := by decide +kernel
theorem dX0_sizeWith_22 : decode cX0_sizeWith 22 = .ok (.ifCond .ne 11, 3) := by decide +kernel
theorem dX0_sizeWith_25 : decode cX0_sizeWith 25 = .ok (.iload_n 2, 1) := by decide +kernel
theorem dX0_sizeWith_26 : decode cX0_sizeWith 26 = .ok (.iload_n 1, 1) := by decide +kernel
theorem dX0_sizeWith_27 : decode cX0_sizeWith 27 = .ok (.if_icmp .eq 6, 3) := by decide +kernel
theorem dX0_sizeWith_30 : decode cX0_sizeWith 30 = .ok (.iinc 4 1, 3) := by decide +kernel
theorem dX0_sizeWith_33 : decode cX0_sizeWith 33 = .ok (.aload_n 0, 1) := by decide +kernel
theorem dX0_sizeWith_34 : decode cX0_sizeWith 34 = .ok (.iload_n 3, 1) := by decide +kernel
theorem dX0_sizeWith_35 : decode cX0_sizeWith 35 = .ok (.invokevirtual 26, 3) := by decide +kernel
theorem dX0_sizeWith_38 : decode cX0_sizeWith 38 = .ok (.ifCond .ne 16, 3) := by decide +kernel
theorem dX0_sizeWith_41 : decode cX0_sizeWith 41 = .ok (.iload_n 3, 1) := by decide +kernel
theorem dX0_sizeWith_42 : decode cX0_sizeWith 42 = .ok (.iload_n 1, 1) := by decide +kernel
theorem dX0_sizeWith_43 : decode cX0_sizeWith 43 = .ok (.if_icmp .eq 11, 3) := by decide +kernel
theorem dX0_sizeWith_46 : decode cX0_sizeWith 46 = .ok (.iload_n 3, 1) := by decide +kernel
theorem dX0_sizeWith_47 : decode cX0_sizeWith 47 = .ok (.iload_n 2, 1) := by decide +kernel
theorem dX0_sizeWith_48 : decode cX0_sizeWith 48 = .ok (.if_icmp .eq 6, 3) := by decide +kernel
theorem dX0_sizeWith_51 : decode cX0_sizeWith 51 = .ok (.iinc 4 1, 3) := by decide +kernel
theorem dX0_sizeWith_54 : decode cX0_sizeWith 54 = .ok (.iload 4, 2) := by decide +kernel
theorem dX0_sizeWith_56 : decode cX0_sizeWith 56 = .ok (.ireturn, 1) := by decide +kernel
theorem dX0_learn_0 : decode cX0_learn 0 = .ok (.aload_n 0, 1) := by decide +kernel
theorem dX0_learn_1 : decode cX0_learn 1 = .ok (.iload_n 1, 1) := by decide +kernel
theorem dX0_learn_2 : decode cX0_learn 2 = .ok (.invokevirtual 26, 3) := by decide +kernel
theorem dX0_learn_5 : decode cX0_learn 5 = .ok (.ifCond .ne 46, 3) := by decide +kernel
theorem dX0_learn_8 : decode cX0_learn 8 = .ok (.aload_n 0, 1) := by decide +kernel
theorem dX0_learn_9 : decode cX0_learn 9 = .ok (.getfield 18, 3) := by decide +kernel
theorem dX0_learn_12 : decode cX0_learn 12 = .ok (.bipush 40, 2) := by decide +kernel
theorem dX0_learn_14 : decode cX0_learn 14 = .ok (.if_icmp .ge 37, 3) := by decide +kernel
theorem dX0_learn_17 : decode cX0_learn 17 = .ok (.aload_n 0, 1) := by decide +kernel
theorem dX0_learn_18 : decode cX0_learn 18 = .ok (.getfield 9, 3) := by decide +kernel
theorem dX0_learn_21 : decode cX0_learn 21 = .ok (.aload_n 0, 1) := by decide +kernel
theorem dX0_learn_22 : decode cX0_learn 22 = .ok (.getfield 18, 3) := by decide +kernel
theorem dX0_learn_25 : decode cX0_learn 25 = .ok (.iload_n 1, 1) := by decide +kernel
theorem dX0_learn_26 : decode cX0_learn 26 = .ok (.invokestatic 37, 3) := by decide +kernel
theorem dX0_learn_29 : decode cX0_learn 29 = .ok (.aload_n 0, 1) := by decide +kernel
theorem dX0_learn_30 : decode cX0_learn 30 = .ok (.dup, 1) := by decide +kernel
theorem dX0_learn_31 : decode cX0_learn 31 = .ok (.getfield 18, 3) := by decide +kernel
theorem dX0_learn_34 : decode cX0_learn 34 = .ok (.iconst 1, 1) := by decide +kernel
theorem dX0_learn_35 : decode cX0_learn 35 = .ok (.iadd, 1) := by decide +kernel
theorem dX0_learn_36 : decode cX0_learn 36 = .ok (.putfield 18, 3) := by decide +kernel
theorem dX0_learn_39 : decode cX0_learn 39 = .ok (.aload_n 0, 1) := by decide +kernel
theorem dX0_learn_40 : decode cX0_learn 40 = .ok (.getfield 15, 3) := by decide +kernel
theorem dX0_learn_43 : decode cX0_learn 43 = .ok (.iload_n 1, 1) := by decide +kernel
theorem dX0_learn_44 : decode cX0_learn 44 = .ok (.aload_n 0, 1) := by decide +kernel
theorem dX0_learn_45 : decode cX0_learn 45 = .ok (.getfield 18, 3) := by decide +kernel
theorem dX0_learn_48 : decode cX0_learn 48 = .ok (.invokestatic 37, 3) := by decide +kernel
theorem dX0_learn_51 : decode cX0_learn 51 = .ok (.return_, 1) := by decide +kernel
theorem dX1_init_0 : decode cX1_init 0 = .ok (.aload_n 0, 1) := by decide +kernel
theorem dX1_init_1 : decode cX1_init 1 = .ok (.invokespecial 3, 3) := by decide +kernel
theorem dX1_init_4 : decode cX1_init 4 = .ok (.aload_n 0, 1) := by decide +kernel
theorem dX1_init_5 : decode cX1_init 5 = .ok (.new 9, 3) := by decide +kernel
theorem dX1_init_8 : decode cX1_init 8 = .ok (.dup, 1) := by decide +kernel
theorem dX1_init_9 : decode cX1_init 9 = .ok (.sipush 3600, 3) := by decide +kernel
theorem dX1_init_12 : decode cX1_init 12 = .ok (.invokespecial 11, 3) := by decide +kernel
theorem dX1_init_15 : decode cX1_init 15 = .ok (.putfield 14, 3) := by decide +kernel
theorem dX1_init_18 : decode cX1_init 18 = .ok (.aload_n 0, 1) := by decide +kernel
theorem dX1_init_19 : decode cX1_init 19 = .ok (.new 9, 3) := by decide +kernel
theorem dX1_init_22 : decode cX1_init 22 = .ok (.dup, 1) := by decide +kernel
theorem dX1_init_23 : decode cX1_init 23 = .ok (.bipush 60, 2) := by decide +kernel
theorem dX1_init_25 : decode cX1_init 25 = .ok (.invokespecial 11, 3) := by decide +kernel
theorem dX1_init_28 : decode cX1_init 28 = .ok (.putfield 20, 3) := by decide +kernel
theorem dX1_init_31 : decode cX1_init 31 = .ok (.return_, 1) := by decide +kernel
theorem dX1_made_0 : decode cX1_made 0 = .ok (.aload_n 0, 1) := by decide +kernel
theorem dX1_made_1 : decode cX1_made 1 = .ok (.getfield 14, 3) := by decide +kernel
theorem dX1_made_4 : decode cX1_made 4 = .ok (.areturn, 1) := by decide +kernel
theorem dX1_merge_0 : decode cX1_merge 0 = .ok (.aload_n 0, 1) := by decide +kernel
theorem dX1_merge_1 : decode cX1_merge 1 = .ok (.getfield 14, 3) := by decide +kernel
theorem dX1_merge_4 : decode cX1_merge 4 = .ok (.invokevirtual 23, 3) := by decide +kernel
theorem dX1_merge_7 : decode cX1_merge 7 = .ok (.iconst 0, 1) := by decide +kernel
theorem dX1_merge_8 : decode cX1_merge 8 = .ok (.istore_n 3, 1) := by decide +kernel
theorem dX1_merge_9 : decode cX1_merge 9 = .ok (.iconst 0, 1) := by decide +kernel
theorem dX1_merge_10 : decode cX1_merge 10 = .ok (.istore 4, 2) := by decide +kernel
theorem dX1_merge_12 : decode cX1_merge 12 = .ok (.iload 4, 2) := by decide +kernel
theorem dX1_merge_14 : decode cX1_merge 14 = .ok (.aload_n 1, 1) := by decide +kernel
theorem dX1_merge_15 : decode cX1_merge 15 = .ok (.invokevirtual 26, 3) := by decide +kernel
theorem dX1_merge_18 : decode cX1_merge 18 = .ok (.if_icmp .ge 74, 3) := by decide +kernel
theorem dX1_merge_21 : decode cX1_merge 21 = .ok (.aload_n 1, 1) := by decide +kernel
theorem dX1_merge_22 : decode cX1_merge 22 = .ok (.aload_n 1, 1) := by decide +kernel
theorem dX1_merge_23 : decode cX1_merge 23 = .ok (.iload 4, 2) := by decide +kernel
theorem dX1_merge_25 : decode cX1_merge 25 = .ok (.invokevirtual 32, 3) := by decide +kernel
theorem dX1_merge_28 : decode cX1_merge 28 = .ok (.invokevirtual 36, 3) := by decide +kernel
theorem dX1_merge_31 : decode cX1_merge 31 = .ok (.astore 5, 2) := by decide +kernel
theorem dX1_merge_33 : decode cX1_merge 33 = .ok (.iload_n 3, 1) := by decide +kernel
theorem dX1_merge_34 : decode cX1_merge 34 = .ok (.aload 5, 2) := by decide +kernel
theorem dX1_merge_36 : decode cX1_merge 36 = .ok (.invokevirtual 40, 3) := by decide +kernel
theorem dX1_merge_39 : decode cX1_merge 39 = .ok (.iand, 1) := by decide +kernel
theorem dX1_merge_40 : decode cX1_merge 40 = .ok (.istore 6, 2) := by decide +kernel
theorem dX1_merge_42 : decode cX1_merge 42 = .ok (.aload_n 0, 1) := by decide +kernel
theorem dX1_merge_43 : decode cX1_merge 43 = .ok (.aload 5, 2) := by decide +kernel
theorem dX1_merge_45 : decode cX1_merge 45 = .ok (.aload_n 2, 1) := by decide +kernel
theorem dX1_merge_46 : decode cX1_merge 46 = .ok (.iconst 0, 1) := by decide +kernel
theorem dX1_merge_47 : decode cX1_merge 47 = .ok (.iconst 0, 1) := by decide +kernel
theorem dX1_merge_48 : decode cX1_merge 48 = .ok (.invokevirtual 45, 3) := by decide +kernel
theorem dX1_merge_51 : decode cX1_merge 51 = .ok (.aload_n 0, 1) := by decide +kernel
theorem dX1_merge_52 : decode cX1_merge 52 = .ok (.getfield 20, 3) := by decide +kernel
theorem dX1_merge_55 : decode cX1_merge 55 = .ok (.iload 6, 2) := by decide +kernel
theorem dX1_merge_57 : decode cX1_merge 57 = .ok (.invokevirtual 49, 3) := by decide +kernel
theorem dX1_merge_60 : decode cX1_merge 60 = .ok (.aload_n 0, 1) := by decide +kernel
theorem dX1_merge_61 : decode cX1_merge 61 = .ok (.getfield 14, 3) := by decide +kernel
theorem dX1_merge_64 : decode cX1_merge 64 = .ok (.iload 6, 2) := by decide +kernel
theorem dX1_merge_66 : decode cX1_merge 66 = .ok (.invokevirtual 49, 3) := by decide +kernel
theorem dX1_merge_69 : decode cX1_merge 69 = .ok (.aload_n 0, 1) := by decide +kernel
theorem dX1_merge_70 : decode cX1_merge 70 = .ok (.iload 6, 2) := by decide +kernel
theorem dX1_merge_72 : decode cX1_merge 72 = .ok (.invokestatic 52, 3) := by decide +kernel
theorem dX1_merge_75 : decode cX1_merge 75 = .ok (.invokevirtual 55, 3) := by decide +kernel
theorem dX1_merge_78 : decode cX1_merge 78 = .ok (.iload_n 3, 1) := by decide +kernel
theorem dX1_merge_79 : decode cX1_merge 79 = .ok (.aload 5, 2) := by decide +kernel
theorem dX1_merge_81 : decode cX1_merge 81 = .ok (.invokevirtual 40, 3) := by decide +kernel
theorem dX1_merge_84 : decode cX1_merge 84 = .ok (.ior, 1) := by decide +kernel
theorem dX1_merge_85 : decode cX1_merge 85 = .ok (.istore_n 3, 1) := by decide +kernel
theorem dX1_merge_86 : decode cX1_merge 86 = .ok (.iinc 4 1, 3) := by decide +kernel
theorem dX1_merge_89 : decode cX1_merge 89 = .ok (.goto (-77), 3) := by decide +kernel
theorem dX1_merge_92 : decode cX1_merge 92 = .ok (.return_, 1) := by decide +kernel
theorem dX1_mergeSide_0 : decode cX1_mergeSide 0 = .ok (.iconst 0, 1) := by decide +kernel
theorem dX1_mergeSide_1 : decode cX1_mergeSide 1 = .ok (.istore_n 2, 1) := by decide +kernel
theorem dX1_mergeSide_2 : decode cX1_mergeSide 2 = .ok (.iconst 0, 1) := by decide +kernel
theorem dX1_mergeSide_3 : decode cX1_mergeSide 3 = .ok (.istore_n 3, 1) := by decide +kernel
theorem dX1_mergeSide_4 : decode cX1_mergeSide 4 = .ok (.iload_n 3, 1) := by decide +kernel
theorem dX1_mergeSide_5 : decode cX1_mergeSide 5 = .ok (.aload_n 0, 1) := by decide +kernel
theorem dX1_mergeSide_6 : decode cX1_mergeSide 6 = .ok (.getfield 14, 3) := by decide +kernel
theorem dX1_mergeSide_9 : decode cX1_mergeSide 9 = .ok (.invokevirtual 58, 3) := by decide +kernel
theorem dX1_mergeSide_12 : decode cX1_mergeSide 12 = .ok (.if_icmp .ge 123, 3) := by decide +kernel
theorem dX1_mergeSide_15 : decode cX1_mergeSide 15 = .ok (.aload_n 0, 1) := by decide +kernel
theorem dX1_mergeSide_16 : decode cX1_mergeSide 16 = .ok (.getfield 14, 3) := by decide +kernel
theorem dX1_mergeSide_19 : decode cX1_mergeSide 19 = .ok (.invokevirtual 59, 3) := by decide +kernel
theorem dX1_mergeSide_22 : decode cX1_mergeSide 22 = .ok (.ifCond .ne 113, 3) := by decide +kernel
theorem dX1_mergeSide_25 : decode cX1_mergeSide 25 = .ok (.aload_n 0, 1) := by decide +kernel
theorem dX1_mergeSide_26 : decode cX1_mergeSide 26 = .ok (.getfield 14, 3) := by decide +kernel
theorem dX1_mergeSide_29 : decode cX1_mergeSide 29 = .ok (.iload_n 3, 1) := by decide +kernel
theorem dX1_mergeSide_30 : decode cX1_mergeSide 30 = .ok (.invokevirtual 63, 3) := by decide +kernel
theorem dX1_mergeSide_33 : decode cX1_mergeSide 33 = .ok (.istore 4, 2) := by decide +kernel
theorem dX1_mergeSide_35 : decode cX1_mergeSide 35 = .ok (.iload 4, 2) := by decide +kernel
theorem dX1_mergeSide_37 : decode cX1_mergeSide 37 = .ok (.iload_n 1, 1) := by decide +kernel
theorem dX1_mergeSide_38 : decode cX1_mergeSide 38 = .ok (.iand, 1) := by decide +kernel
theorem dX1_mergeSide_39 : decode cX1_mergeSide 39 = .ok (.istore 5, 2) := by decide +kernel
theorem dX1_mergeSide_41 : decode cX1_mergeSide 41 = .ok (.iload_n 2, 1) := by decide +kernel
theorem dX1_mergeSide_42 : decode cX1_mergeSide 42 = .ok (.aload_n 0, 1) := by decide +kernel
theorem dX1_mergeSide_43 : decode cX1_mergeSide 43 = .ok (.getfield 20, 3) := by decide +kernel
theorem dX1_mergeSide_46 : decode cX1_mergeSide 46 = .ok (.invokevirtual 58, 3) := by decide +kernel
theorem dX1_mergeSide_49 : decode cX1_mergeSide 49 = .ok (.if_icmp .ge 24, 3) := by decide +kernel
theorem dX1_mergeSide_52 : decode cX1_mergeSide 52 = .ok (.aload_n 0, 1) := by decide +kernel
theorem dX1_mergeSide_53 : decode cX1_mergeSide 53 = .ok (.getfield 20, 3) := by decide +kernel
theorem dX1_mergeSide_56 : decode cX1_mergeSide 56 = .ok (.iload_n 2, 1) := by decide +kernel
theorem dX1_mergeSide_57 : decode cX1_mergeSide 57 = .ok (.invokevirtual 63, 3) := by decide +kernel
theorem dX1_mergeSide_60 : decode cX1_mergeSide 60 = .ok (.iload_n 1, 1) := by decide +kernel
theorem dX1_mergeSide_61 : decode cX1_mergeSide 61 = .ok (.iand, 1) := by decide +kernel
theorem dX1_mergeSide_62 : decode cX1_mergeSide 62 = .ok (.iload 5, 2) := by decide +kernel
theorem dX1_mergeSide_64 : decode cX1_mergeSide 64 = .ok (.if_icmp .ge 9, 3) := by decide +kernel
theorem dX1_mergeSide_67 : decode cX1_mergeSide 67 = .ok (.iinc 2 1, 3) := by decide +kernel
theorem dX1_mergeSide_70 : decode cX1_mergeSide 70 = .ok (.goto (-29), 3) := by decide +kernel
theorem dX1_mergeSide_73 : decode cX1_mergeSide 73 = .ok (.iload_n 2, 1) := by decide +kernel
theorem dX1_mergeSide_74 : decode cX1_mergeSide 74 = .ok (.istore 6, 2) := by decide +kernel
theorem dX1_mergeSide_76 : decode cX1_mergeSide 76 = .ok (.iload 6, 2) := by decide +kernel
theorem dX1_mergeSide_78 : decode cX1_mergeSide 78 = .ok (.aload_n 0, 1) := by decide +kernel
theorem dX1_mergeSide_79 : decode cX1_mergeSide 79 = .ok (.getfield 20, 3) := by decide +kernel
theorem dX1_mergeSide_82 : decode cX1_mergeSide 82 = .ok (.invokevirtual 58, 3) := by decide +kernel
theorem dX1_mergeSide_85 : decode cX1_mergeSide 85 = .ok (.if_icmp .ge 44, 3) := by decide +kernel
theorem dX1_mergeSide_88 : decode cX1_mergeSide 88 = .ok (.aload_n 0, 1) := by decide +kernel
theorem dX1_mergeSide_89 : decode cX1_mergeSide 89 = .ok (.getfield 20, 3) := by decide +kernel
theorem dX1_mergeSide_92 : decode cX1_mergeSide 92 = .ok (.iload 6, 2) := by decide +kernel
theorem dX1_mergeSide_94 : decode cX1_mergeSide 94 = .ok (.invokevirtual 63, 3) := by decide +kernel
theorem dX1_mergeSide_97 : decode cX1_mergeSide 97 = .ok (.iload_n 1, 1) := by decide +kernel
theorem dX1_mergeSide_98 : decode cX1_mergeSide 98 = .ok (.iand, 1) := by decide +kernel
theorem dX1_mergeSide_99 : decode cX1_mergeSide 99 = .ok (.iload 5, 2) := by decide +kernel
theorem dX1_mergeSide_101 : decode cX1_mergeSide 101 = .ok (.if_icmp .ne 28, 3) := by decide +kernel
theorem dX1_mergeSide_104 : decode cX1_mergeSide 104 = .ok (.aload_n 0, 1) := by decide +kernel
theorem dX1_mergeSide_105 : decode cX1_mergeSide 105 = .ok (.getfield 14, 3) := by decide +kernel
theorem dX1_mergeSide_108 : decode cX1_mergeSide 108 = .ok (.iload 4, 2) := by decide +kernel
theorem dX1_mergeSide_110 : decode cX1_mergeSide 110 = .ok (.aload_n 0, 1) := by decide +kernel
theorem dX1_mergeSide_111 : decode cX1_mergeSide 111 = .ok (.getfield 20, 3) := by decide +kernel
theorem dX1_mergeSide_114 : decode cX1_mergeSide 114 = .ok (.iload 6, 2) := by decide +kernel
theorem dX1_mergeSide_116 : decode cX1_mergeSide 116 = .ok (.invokevirtual 63, 3) := by decide +kernel
theorem dX1_mergeSide_119 : decode cX1_mergeSide 119 = .ok (.ior, 1) := by decide +kernel
theorem dX1_mergeSide_120 : decode cX1_mergeSide 120 = .ok (.invokevirtual 66, 3) := by decide +kernel
theorem dX1_mergeSide_123 : decode cX1_mergeSide 123 = .ok (.iinc 6 1, 3) := by decide +kernel
theorem dX1_mergeSide_126 : decode cX1_mergeSide 126 = .ok (.goto (-50), 3) := by decide +kernel
theorem dX1_mergeSide_129 : decode cX1_mergeSide 129 = .ok (.iinc 3 1, 3) := by decide +kernel
theorem dX1_mergeSide_132 : decode cX1_mergeSide 132 = .ok (.goto (-128), 3) := by decide +kernel
theorem dX1_mergeSide_135 : decode cX1_mergeSide 135 = .ok (.aload_n 0, 1) := by decide +kernel
theorem dX1_mergeSide_136 : decode cX1_mergeSide 136 = .ok (.getfield 14, 3) := by decide +kernel
theorem dX1_mergeSide_139 : decode cX1_mergeSide 139 = .ok (.invokevirtual 69, 3) := by decide +kernel
theorem dX1_mergeSide_142 : decode cX1_mergeSide 142 = .ok (.return_, 1) := by decide +kernel
theorem dX1_gather_0 : decode cX1_gather 0 = .ok (.aload_n 1, 1) := by decide +kernel
theorem dX1_gather_1 : decode cX1_gather 1 = .ok (.iload_n 3, 1) := by decide +kernel
theorem dX1_gather_2 : decode cX1_gather 2 = .ok (.invokevirtual 72, 3) := by decide +kernel
theorem dX1_gather_5 : decode cX1_gather 5 = .ok (.istore 5, 2) := by decide +kernel
theorem dX1_gather_7 : decode cX1_gather 7 = .ok (.aload_n 1, 1) := by decide +kernel
theorem dX1_gather_8 : decode cX1_gather 8 = .ok (.iload_n 3, 1) := by decide +kernel
theorem dX1_gather_9 : decode cX1_gather 9 = .ok (.iload 4, 2) := by decide +kernel
theorem dX1_gather_11 : decode cX1_gather 11 = .ok (.invokevirtual 75, 3) := by decide +kernel
theorem dX1_gather_14 : decode cX1_gather 14 = .ok (.istore 6, 2) := by decide +kernel
theorem dX1_gather_16 : decode cX1_gather 16 = .ok (.iload 5, 2) := by decide +kernel
theorem dX1_gather_18 : decode cX1_gather 18 = .ok (.invokestatic 79, 3) := by decide +kernel
theorem dX1_gather_21 : decode cX1_gather 21 = .ok (.istore 7, 2) := by decide +kernel
theorem dX1_gather_23 : decode cX1_gather 23 = .ok (.aload_n 2, 1) := by decide +kernel
theorem dX1_gather_24 : decode cX1_gather 24 = .ok (.iload 7, 2) := by decide +kernel
theorem dX1_gather_26 : decode cX1_gather 26 = .ok (.iload 5, 2) := by decide +kernel
theorem dX1_gather_28 : decode cX1_gather 28 = .ok (.iload 6, 2) := by decide +kernel
theorem dX1_gather_30 : decode cX1_gather 30 = .ok (.invokevirtual 82, 3) := by decide +kernel
theorem dX1_gather_33 : decode cX1_gather 33 = .ok (.istore 8, 2) := by decide +kernel
theorem dX1_gather_35 : decode cX1_gather 35 = .ok (.aload_n 0, 1) := by decide +kernel
theorem dX1_gather_36 : decode cX1_gather 36 = .ok (.getfield 20, 3) := by decide +kernel
theorem dX1_gather_39 : decode cX1_gather 39 = .ok (.invokevirtual 88, 3) := by decide +kernel
theorem dX1_gather_42 : decode cX1_gather 42 = .ok (.aload_n 2, 1) := by decide +kernel
theorem dX1_gather_43 : decode cX1_gather 43 = .ok (.iload 7, 2) := by decide +kernel
theorem dX1_gather_45 : decode cX1_gather 45 = .ok (.iload 6, 2) := by decide +kernel
theorem dX1_gather_47 : decode cX1_gather 47 = .ok (.invokevirtual 91, 3) := by decide +kernel
theorem dX1_gather_50 : decode cX1_gather 50 = .ok (.istore 9, 2) := by decide +kernel
theorem dX1_gather_52 : decode cX1_gather 52 = .ok (.iload 9, 2) := by decide +kernel
theorem dX1_gather_54 : decode cX1_gather 54 = .ok (.iload 8, 2) := by decide +kernel
theorem dX1_gather_56 : decode cX1_gather 56 = .ok (.if_icmp .ge 41, 3) := by decide +kernel
theorem dX1_gather_59 : decode cX1_gather 59 = .ok (.aload_n 1, 1) := by decide +kernel
theorem dX1_gather_60 : decode cX1_gather 60 = .ok (.iload_n 3, 1) := by decide +kernel
theorem dX1_gather_61 : decode cX1_gather 61 = .ok (.iload 4, 2) := by decide +kernel
theorem dX1_gather_63 : decode cX1_gather 63 = .ok (.aload_n 2, 1) := by decide +kernel
theorem dX1_gather_64 : decode cX1_gather 64 = .ok (.iload 7, 2) := by decide +kernel
theorem dX1_gather_66 : decode cX1_gather 66 = .ok (.iload 9, 2) := by decide +kernel
theorem dX1_gather_68 : decode cX1_gather 68 = .ok (.invokevirtual 94, 3) := by decide +kernel
theorem dX1_gather_71 : decode cX1_gather 71 = .ok (.invokevirtual 97, 3) := by decide +kernel
theorem dX1_gather_74 : decode cX1_gather 74 = .ok (.istore 10, 2) := by decide +kernel
theorem dX1_gather_76 : decode cX1_gather 76 = .ok (.iload 10, 2) := by decide +kernel
theorem dX1_gather_78 : decode cX1_gather 78 = .ok (.iconst (-1), 1) := by decide +kernel
theorem dX1_gather_79 : decode cX1_gather 79 = .ok (.if_icmp .eq 12, 3) := by decide +kernel
theorem dX1_gather_82 : decode cX1_gather 82 = .ok (.aload_n 0, 1) := by decide +kernel
theorem dX1_gather_83 : decode cX1_gather 83 = .ok (.getfield 20, 3) := by decide +kernel
theorem dX1_gather_86 : decode cX1_gather 86 = .ok (.iload 10, 2) := by decide +kernel
theorem dX1_gather_88 : decode cX1_gather 88 = .ok (.invokevirtual 66, 3) := by decide +kernel
theorem dX1_gather_91 : decode cX1_gather 91 = .ok (.iinc 9 1, 3) := by decide +kernel
theorem dX1_gather_94 : decode cX1_gather 94 = .ok (.goto (-42), 3) := by decide +kernel
theorem dX1_gather_97 : decode cX1_gather 97 = .ok (.aload_n 0, 1) := by decide +kernel
theorem dX1_gather_98 : decode cX1_gather 98 = .ok (.getfield 20, 3) := by decide +kernel
theorem dX1_gather_101 : decode cX1_gather 101 = .ok (.invokevirtual 69, 3) := by decide +kernel
theorem dX1_gather_104 : decode cX1_gather 104 = .ok (.return_, 1) := by decide +kernel
theorem dX1_goByVariables_0 : decode cX1_goByVariables 0 = .ok (.aload_n 0, 1) := by decide +kernel
theorem dX1_goByVariables_1 : decode cX1_goByVariables 1 = .ok (.getfield 14, 3) := by decide +kernel
theorem dX1_goByVariables_4 : decode cX1_goByVariables 4 = .ok (.invokevirtual 23, 3) := by decide +kernel
theorem dX1_goByVariables_7 : decode cX1_goByVariables 7 = .ok (.aload_n 1, 1) := by decide +kernel
theorem dX1_goByVariables_8 : decode cX1_goByVariables 8 = .ok (.invokevirtual 100, 3) := by decide +kernel
theorem dX1_goByVariables_11 : decode cX1_goByVariables 11 = .ok (.ifCond .eq 10, 3) := by decide +kernel
theorem dX1_goByVariables_14 : decode cX1_goByVariables 14 = .ok (.aload_n 0, 1) := by decide +kernel
theorem dX1_goByVariables_15 : decode cX1_goByVariables 15 = .ok (.getfield 14, 3) := by decide +kernel
theorem dX1_goByVariables_18 : decode cX1_goByVariables 18 = .ok (.invokevirtual 88, 3) := by decide +kernel
theorem dX1_goByVariables_21 : decode cX1_goByVariables 21 = .ok (.iconst 0, 1) := by decide +kernel
theorem dX1_goByVariables_22 : decode cX1_goByVariables 22 = .ok (.istore_n 3, 1) := by decide +kernel
theorem dX1_goByVariables_23 : decode cX1_goByVariables 23 = .ok (.iconst 0, 1) := by decide +kernel
theorem dX1_goByVariables_24 : decode cX1_goByVariables 24 = .ok (.istore 4, 2) := by decide +kernel
theorem dX1_goByVariables_26 : decode cX1_goByVariables 26 = .ok (.iload 4, 2) := by decide +kernel
theorem dX1_goByVariables_28 : decode cX1_goByVariables 28 = .ok (.aload_n 1, 1) := by decide +kernel
theorem dX1_goByVariables_29 : decode cX1_goByVariables 29 = .ok (.invokevirtual 26, 3) := by decide +kernel
theorem dX1_goByVariables_32 : decode cX1_goByVariables 32 = .ok (.if_icmp .ge 69, 3) := by decide +kernel
theorem dX1_goByVariables_35 : decode cX1_goByVariables 35 = .ok (.aload_n 1, 1) := by decide +kernel
theorem dX1_goByVariables_36 : decode cX1_goByVariables 36 = .ok (.aload_n 1, 1) := by decide +kernel
theorem dX1_goByVariables_37 : decode cX1_goByVariables 37 = .ok (.iload 4, 2) := by decide +kernel
theorem dX1_goByVariables_39 : decode cX1_goByVariables 39 = .ok (.invokevirtual 32, 3) := by decide +kernel
theorem dX1_goByVariables_42 : decode cX1_goByVariables 42 = .ok (.invokevirtual 36, 3) := by decide +kernel
theorem dX1_goByVariables_45 : decode cX1_goByVariables 45 = .ok (.invokevirtual 40, 3) := by decide +kernel
theorem dX1_goByVariables_48 : decode cX1_goByVariables 48 = .ok (.istore 5, 2) := by decide +kernel
theorem dX1_goByVariables_50 : decode cX1_goByVariables 50 = .ok (.iconst 0, 1) := by decide +kernel
theorem dX1_goByVariables_51 : decode cX1_goByVariables 51 = .ok (.istore 6, 2) := by decide +kernel
theorem dX1_goByVariables_53 : decode cX1_goByVariables 53 = .ok (.iload 6, 2) := by decide +kernel
theorem dX1_goByVariables_55 : decode cX1_goByVariables 55 = .ok (.iconst 4, 1) := by decide +kernel
theorem dX1_goByVariables_56 : decode cX1_goByVariables 56 = .ok (.if_icmp .ge 39, 3) := by decide +kernel
theorem dX1_goByVariables_59 : decode cX1_goByVariables 59 = .ok (.iload 5, 2) := by decide +kernel
theorem dX1_goByVariables_61 : decode cX1_goByVariables 61 = .ok (.iload_n 3, 1) := by decide +kernel
theorem dX1_goByVariables_62 : decode cX1_goByVariables 62 = .ok (.iconst (-1), 1) := by decide +kernel
theorem dX1_goByVariables_63 : decode cX1_goByVariables 63 = .ok (.ixor, 1) := by decide +kernel
theorem dX1_goByVariables_64 : decode cX1_goByVariables 64 = .ok (.iand, 1) := by decide +kernel
theorem dX1_goByVariables_65 : decode cX1_goByVariables 65 = .ok (.iload 6, 2) := by decide +kernel
theorem dX1_goByVariables_67 : decode cX1_goByVariables 67 = .ok (.invokestatic 103, 3) := by decide +kernel
theorem dX1_goByVariables_70 : decode cX1_goByVariables 70 = .ok (.ifCond .eq 19, 3) := by decide +kernel
theorem dX1_goByVariables_73 : decode cX1_goByVariables 73 = .ok (.aload_n 0, 1) := by decide +kernel
theorem dX1_goByVariables_74 : decode cX1_goByVariables 74 = .ok (.aload_n 1, 1) := by decide +kernel
theorem dX1_goByVariables_75 : decode cX1_goByVariables 75 = .ok (.aload_n 2, 1) := by decide +kernel
theorem dX1_goByVariables_76 : decode cX1_goByVariables 76 = .ok (.iload_n 3, 1) := by decide +kernel
theorem dX1_goByVariables_77 : decode cX1_goByVariables 77 = .ok (.iload 6, 2) := by decide +kernel
theorem dX1_goByVariables_79 : decode cX1_goByVariables 79 = .ok (.invokevirtual 107, 3) := by decide +kernel
theorem dX1_goByVariables_82 : decode cX1_goByVariables 82 = .ok (.iload_n 3, 1) := by decide +kernel
theorem dX1_goByVariables_83 : decode cX1_goByVariables 83 = .ok (.iconst 1, 1) := by decide +kernel
theorem dX1_goByVariables_84 : decode cX1_goByVariables 84 = .ok (.iload 6, 2) := by decide +kernel
theorem dX1_goByVariables_86 : decode cX1_goByVariables 86 = .ok (.ishl, 1) := by decide +kernel
theorem dX1_goByVariables_87 : decode cX1_goByVariables 87 = .ok (.ior, 1) := by decide +kernel
theorem dX1_goByVariables_88 : decode cX1_goByVariables 88 = .ok (.istore_n 3, 1) := by decide +kernel
theorem dX1_goByVariables_89 : decode cX1_goByVariables 89 = .ok (.iinc 6 1, 3) := by decide +kernel
theorem dX1_goByVariables_92 : decode cX1_goByVariables 92 = .ok (.goto (-39), 3) := by decide +kernel
theorem dX1_goByVariables_95 : decode cX1_goByVariables 95 = .ok (.iinc 4 1, 3) := by decide +kernel
theorem dX1_goByVariables_98 : decode cX1_goByVariables 98 = .ok (.goto (-72), 3) := by decide +kernel
theorem dX1_goByVariables_101 : decode cX1_goByVariables 101 = .ok (.return_, 1) := by decide +kernel
theorem dX1_takeVariable_0 : decode cX1_takeVariable 0 = .ok (.iconst 0, 1) := by decide +kernel
theorem dX1_takeVariable_1 : decode cX1_takeVariable 1 = .ok (.istore 5, 2) := by decide +kernel
theorem dX1_takeVariable_3 : decode cX1_takeVariable 3 = .ok (.iload 5, 2) := by decide +kernel
theorem dX1_takeVariable_5 : decode cX1_takeVariable 5 = .ok (.aload_n 0, 1) := by decide +kernel
theorem dX1_takeVariable_6 : decode cX1_takeVariable 6 = .ok (.getfield 14, 3) := by decide +kernel
theorem dX1_takeVariable_9 : decode cX1_takeVariable 9 = .ok (.invokevirtual 58, 3) := by decide +kernel
theorem dX1_takeVariable_12 : decode cX1_takeVariable 12 = .ok (.if_icmp .ge 105, 3) := by decide +kernel
theorem dX1_takeVariable_15 : decode cX1_takeVariable 15 = .ok (.aload_n 0, 1) := by decide +kernel
theorem dX1_takeVariable_16 : decode cX1_takeVariable 16 = .ok (.getfield 14, 3) := by decide +kernel
theorem dX1_takeVariable_19 : decode cX1_takeVariable 19 = .ok (.invokevirtual 59, 3) := by decide +kernel
theorem dX1_takeVariable_22 : decode cX1_takeVariable 22 = .ok (.ifCond .ne 95, 3) := by decide +kernel
theorem dX1_takeVariable_25 : decode cX1_takeVariable 25 = .ok (.aload_n 0, 1) := by decide +kernel
theorem dX1_takeVariable_26 : decode cX1_takeVariable 26 = .ok (.getfield 14, 3) := by decide +kernel
theorem dX1_takeVariable_29 : decode cX1_takeVariable 29 = .ok (.iload 5, 2) := by decide +kernel
theorem dX1_takeVariable_31 : decode cX1_takeVariable 31 = .ok (.invokevirtual 63, 3) := by decide +kernel
theorem dX1_takeVariable_34 : decode cX1_takeVariable 34 = .ok (.istore 6, 2) := by decide +kernel
theorem dX1_takeVariable_36 : decode cX1_takeVariable 36 = .ok (.ldc2_w 111, 3) := by decide +kernel
theorem dX1_takeVariable_39 : decode cX1_takeVariable 39 = .ok (.lstore 7, 2) := by decide +kernel
theorem dX1_takeVariable_41 : decode cX1_takeVariable 41 = .ok (.iconst 0, 1) := by decide +kernel
theorem dX1_takeVariable_42 : decode cX1_takeVariable 42 = .ok (.istore 9, 2) := by decide +kernel
theorem dX1_takeVariable_44 : decode cX1_takeVariable 44 = .ok (.iload 9, 2) := by decide +kernel
theorem dX1_takeVariable_46 : decode cX1_takeVariable 46 = .ok (.aload_n 1, 1) := by decide +kernel
theorem dX1_takeVariable_47 : decode cX1_takeVariable 47 = .ok (.invokevirtual 26, 3) := by decide +kernel
theorem dX1_takeVariable_50 : decode cX1_takeVariable 50 = .ok (.if_icmp .ge 51, 3) := by decide +kernel
theorem dX1_takeVariable_53 : decode cX1_takeVariable 53 = .ok (.aload_n 1, 1) := by decide +kernel
theorem dX1_takeVariable_54 : decode cX1_takeVariable 54 = .ok (.iload 9, 2) := by decide +kernel
theorem dX1_takeVariable_56 : decode cX1_takeVariable 56 = .ok (.invokevirtual 36, 3) := by decide +kernel
theorem dX1_takeVariable_59 : decode cX1_takeVariable 59 = .ok (.astore 10, 2) := by decide +kernel
theorem dX1_takeVariable_61 : decode cX1_takeVariable 61 = .ok (.aload 10, 2) := by decide +kernel
theorem dX1_takeVariable_63 : decode cX1_takeVariable 63 = .ok (.invokevirtual 40, 3) := by decide +kernel
theorem dX1_takeVariable_66 : decode cX1_takeVariable 66 = .ok (.iload 4, 2) := by decide +kernel
theorem dX1_takeVariable_68 : decode cX1_takeVariable 68 = .ok (.invokestatic 103, 3) := by decide +kernel
theorem dX1_takeVariable_71 : decode cX1_takeVariable 71 = .ok (.ifCond .eq 24, 3) := by decide +kernel
theorem dX1_takeVariable_74 : decode cX1_takeVariable 74 = .ok (.aload_n 0, 1) := by decide +kernel
theorem dX1_takeVariable_75 : decode cX1_takeVariable 75 = .ok (.aload 10, 2) := by decide +kernel
theorem dX1_takeVariable_77 : decode cX1_takeVariable 77 = .ok (.aload_n 2, 1) := by decide +kernel
theorem dX1_takeVariable_78 : decode cX1_takeVariable 78 = .ok (.iload_n 3, 1) := by decide +kernel
theorem dX1_takeVariable_79 : decode cX1_takeVariable 79 = .ok (.iload 6, 2) := by decide +kernel
theorem dX1_takeVariable_81 : decode cX1_takeVariable 81 = .ok (.invokevirtual 45, 3) := by decide +kernel
theorem dX1_takeVariable_84 : decode cX1_takeVariable 84 = .ok (.lload 7, 2) := by decide +kernel
theorem dX1_takeVariable_86 : decode cX1_takeVariable 86 = .ok (.aload_n 0, 1) := by decide +kernel
theorem dX1_takeVariable_87 : decode cX1_takeVariable 87 = .ok (.iload 4, 2) := by decide +kernel
theorem dX1_takeVariable_89 : decode cX1_takeVariable 89 = .ok (.invokevirtual 113, 3) := by decide +kernel
theorem dX1_takeVariable_92 : decode cX1_takeVariable 92 = .ok (.land, 1) := by decide +kernel
theorem dX1_takeVariable_93 : decode cX1_takeVariable 93 = .ok (.lstore 7, 2) := by decide +kernel
theorem dX1_takeVariable_95 : decode cX1_takeVariable 95 = .ok (.iinc 9 1, 3) := by decide +kernel
theorem dX1_takeVariable_98 : decode cX1_takeVariable 98 = .ok (.goto (-54), 3) := by decide +kernel
theorem dX1_takeVariable_101 : decode cX1_takeVariable 101 = .ok (.aload_n 0, 1) := by decide +kernel
theorem dX1_takeVariable_102 : decode cX1_takeVariable 102 = .ok (.iload 6, 2) := by decide +kernel
theorem dX1_takeVariable_104 : decode cX1_takeVariable 104 = .ok (.iload 4, 2) := by decide +kernel
theorem dX1_takeVariable_106 : decode cX1_takeVariable 106 = .ok (.lload 7, 2) := by decide +kernel
theorem dX1_takeVariable_108 : decode cX1_takeVariable 108 = .ok (.invokevirtual 117, 3) := by decide +kernel
theorem dX1_takeVariable_111 : decode cX1_takeVariable 111 = .ok (.iinc 5 1, 3) := by decide +kernel
theorem dX1_takeVariable_114 : decode cX1_takeVariable 114 = .ok (.goto (-111), 3) := by decide +kernel
theorem dX1_takeVariable_117 : decode cX1_takeVariable 117 = .ok (.aload_n 0, 1) := by decide +kernel
theorem dX1_takeVariable_118 : decode cX1_takeVariable 118 = .ok (.getfield 14, 3) := by decide +kernel
theorem dX1_takeVariable_121 : decode cX1_takeVariable 121 = .ok (.invokevirtual 69, 3) := by decide +kernel
theorem dX1_takeVariable_124 : decode cX1_takeVariable 124 = .ok (.return_, 1) := by decide +kernel
theorem dX1_addEach_0 : decode cX1_addEach 0 = .ok (.iconst 0, 1) := by decide +kernel
theorem dX1_addEach_1 : decode cX1_addEach 1 = .ok (.istore 5, 2) := by decide +kernel
theorem dX1_addEach_3 : decode cX1_addEach 3 = .ok (.iload 5, 2) := by decide +kernel
theorem dX1_addEach_5 : decode cX1_addEach 5 = .ok (.bipush 40, 2) := by decide +kernel
theorem dX1_addEach_7 : decode cX1_addEach 7 = .ok (.if_icmp .ge 36, 3) := by decide +kernel
theorem dX1_addEach_10 : decode cX1_addEach 10 = .ok (.lload_n 3, 1) := by decide +kernel
theorem dX1_addEach_11 : decode cX1_addEach 11 = .ok (.iload 5, 2) := by decide +kernel
theorem dX1_addEach_13 : decode cX1_addEach 13 = .ok (.lshr, 1) := by decide +kernel
theorem dX1_addEach_14 : decode cX1_addEach 14 = .ok (.lconst 1, 1) := by decide +kernel
theorem dX1_addEach_15 : decode cX1_addEach 15 = .ok (.land, 1) := by decide +kernel
theorem dX1_addEach_16 : decode cX1_addEach 16 = .ok (.lconst 0, 1) := by decide +kernel
theorem dX1_addEach_17 : decode cX1_addEach 17 = .ok (.lcmp, 1) := by decide +kernel
theorem dX1_addEach_18 : decode cX1_addEach 18 = .ok (.ifCond .eq 19, 3) := by decide +kernel
theorem dX1_addEach_21 : decode cX1_addEach 21 = .ok (.aload_n 0, 1) := by decide +kernel
theorem dX1_addEach_22 : decode cX1_addEach 22 = .ok (.getfield 14, 3) := by decide +kernel
theorem dX1_addEach_25 : decode cX1_addEach 25 = .ok (.iload_n 1, 1) := by decide +kernel
theorem dX1_addEach_26 : decode cX1_addEach 26 = .ok (.iload 5, 2) := by decide +kernel
theorem dX1_addEach_28 : decode cX1_addEach 28 = .ok (.iload_n 2, 1) := by decide +kernel
theorem dX1_addEach_29 : decode cX1_addEach 29 = .ok (.invokestatic 121, 3) := by decide +kernel
theorem dX1_addEach_32 : decode cX1_addEach 32 = .ok (.ishl, 1) := by decide +kernel
theorem dX1_addEach_33 : decode cX1_addEach 33 = .ok (.ior, 1) := by decide +kernel
theorem dX1_addEach_34 : decode cX1_addEach 34 = .ok (.invokevirtual 66, 3) := by decide +kernel
theorem dX1_addEach_37 : decode cX1_addEach 37 = .ok (.iinc 5 1, 3) := by decide +kernel
theorem dX1_addEach_40 : decode cX1_addEach 40 = .ok (.goto (-37), 3) := by decide +kernel
theorem dX1_addEach_43 : decode cX1_addEach 43 = .ok (.return_, 1) := by decide +kernel
theorem dX1_numbersAside_0 : decode cX1_numbersAside 0 = .ok (.lconst 0, 1) := by decide +kernel
theorem dX1_numbersAside_1 : decode cX1_numbersAside 1 = .ok (.lstore_n 2, 1) := by decide +kernel
theorem dX1_numbersAside_2 : decode cX1_numbersAside 2 = .ok (.iconst 0, 1) := by decide +kernel
theorem dX1_numbersAside_3 : decode cX1_numbersAside 3 = .ok (.istore 4, 2) := by decide +kernel
theorem dX1_numbersAside_5 : decode cX1_numbersAside 5 = .ok (.iload 4, 2) := by decide +kernel
theorem dX1_numbersAside_7 : decode cX1_numbersAside 7 = .ok (.aload_n 0, 1) := by decide +kernel
theorem dX1_numbersAside_8 : decode cX1_numbersAside 8 = .ok (.getfield 20, 3) := by decide +kernel
theorem dX1_numbersAside_11 : decode cX1_numbersAside 11 = .ok (.invokevirtual 58, 3) := by decide +kernel
theorem dX1_numbersAside_14 : decode cX1_numbersAside 14 = .ok (.if_icmp .ge 27, 3) := by decide +kernel
theorem dX1_numbersAside_17 : decode cX1_numbersAside 17 = .ok (.lload_n 2, 1) := by decide +kernel
theorem dX1_numbersAside_18 : decode cX1_numbersAside 18 = .ok (.lconst 1, 1) := by decide +kernel
theorem dX1_numbersAside_19 : decode cX1_numbersAside 19 = .ok (.aload_n 0, 1) := by decide +kernel
theorem dX1_numbersAside_20 : decode cX1_numbersAside 20 = .ok (.getfield 20, 3) := by decide +kernel
theorem dX1_numbersAside_23 : decode cX1_numbersAside 23 = .ok (.iload 4, 2) := by decide +kernel
theorem dX1_numbersAside_25 : decode cX1_numbersAside 25 = .ok (.invokevirtual 63, 3) := by decide +kernel
theorem dX1_numbersAside_28 : decode cX1_numbersAside 28 = .ok (.iload_n 1, 1) := by decide +kernel
theorem dX1_numbersAside_29 : decode cX1_numbersAside 29 = .ok (.invokestatic 124, 3) := by decide +kernel
theorem dX1_numbersAside_32 : decode cX1_numbersAside 32 = .ok (.lshl, 1) := by decide +kernel
theorem dX1_numbersAside_33 : decode cX1_numbersAside 33 = .ok (.lor, 1) := by decide +kernel
theorem dX1_numbersAside_34 : decode cX1_numbersAside 34 = .ok (.lstore_n 2, 1) := by decide +kernel
theorem dX1_numbersAside_35 : decode cX1_numbersAside 35 = .ok (.iinc 4 1, 3) := by decide +kernel
theorem dX1_numbersAside_38 : decode cX1_numbersAside 38 = .ok (.goto (-33), 3) := by decide +kernel
theorem dX1_numbersAside_41 : decode cX1_numbersAside 41 = .ok (.lload_n 2, 1) := by decide +kernel
theorem dX1_numbersAside_42 : decode cX1_numbersAside 42 = .ok (.lreturn, 1) := by decide +kernel
theorem dX1_loop_0 : decode cX1_loop 0 = .ok (.aload_n 0, 1) := by decide +kernel
theorem dX1_loop_1 : decode cX1_loop 1 = .ok (.getfield 14, 3) := by decide +kernel
theorem dX1_loop_4 : decode cX1_loop 4 = .ok (.invokevirtual 23, 3) := by decide +kernel
theorem dX1_loop_7 : decode cX1_loop 7 = .ok (.iconst 0, 1) := by decide +kernel
theorem dX1_loop_8 : decode cX1_loop 8 = .ok (.istore_n 3, 1) := by decide +kernel
theorem dX1_loop_9 : decode cX1_loop 9 = .ok (.iconst 0, 1) := by decide +kernel
theorem dX1_loop_10 : decode cX1_loop 10 = .ok (.istore 4, 2) := by decide +kernel
theorem dX1_loop_12 : decode cX1_loop 12 = .ok (.iload 4, 2) := by decide +kernel
theorem dX1_loop_14 : decode cX1_loop 14 = .ok (.aload_n 1, 1) := by decide +kernel
theorem dX1_loop_15 : decode cX1_loop 15 = .ok (.invokevirtual 26, 3) := by decide +kernel
theorem dX1_loop_18 : decode cX1_loop 18 = .ok (.if_icmp .ge 80, 3) := by decide +kernel
theorem dX1_loop_21 : decode cX1_loop 21 = .ok (.aload_n 1, 1) := by decide +kernel
theorem dX1_loop_22 : decode cX1_loop 22 = .ok (.iload 4, 2) := by decide +kernel
theorem dX1_loop_24 : decode cX1_loop 24 = .ok (.invokevirtual 36, 3) := by decide +kernel
theorem dX1_loop_27 : decode cX1_loop 27 = .ok (.astore 5, 2) := by decide +kernel
theorem dX1_loop_29 : decode cX1_loop 29 = .ok (.iconst 0, 1) := by decide +kernel
theorem dX1_loop_30 : decode cX1_loop 30 = .ok (.istore 6, 2) := by decide +kernel
theorem dX1_loop_32 : decode cX1_loop 32 = .ok (.iload 6, 2) := by decide +kernel
theorem dX1_loop_34 : decode cX1_loop 34 = .ok (.aload_n 0, 1) := by decide +kernel
theorem dX1_loop_35 : decode cX1_loop 35 = .ok (.getfield 14, 3) := by decide +kernel
theorem dX1_loop_38 : decode cX1_loop 38 = .ok (.invokevirtual 58, 3) := by decide +kernel
theorem dX1_loop_41 : decode cX1_loop 41 = .ok (.if_icmp .ge 36, 3) := by decide +kernel
theorem dX1_loop_44 : decode cX1_loop 44 = .ok (.aload_n 0, 1) := by decide +kernel
theorem dX1_loop_45 : decode cX1_loop 45 = .ok (.getfield 14, 3) := by decide +kernel
theorem dX1_loop_48 : decode cX1_loop 48 = .ok (.invokevirtual 59, 3) := by decide +kernel
theorem dX1_loop_51 : decode cX1_loop 51 = .ok (.ifCond .ne 26, 3) := by decide +kernel
theorem dX1_loop_54 : decode cX1_loop 54 = .ok (.aload_n 0, 1) := by decide +kernel
theorem dX1_loop_55 : decode cX1_loop 55 = .ok (.aload 5, 2) := by decide +kernel
theorem dX1_loop_57 : decode cX1_loop 57 = .ok (.aload_n 2, 1) := by decide +kernel
theorem dX1_loop_58 : decode cX1_loop 58 = .ok (.iload_n 3, 1) := by decide +kernel
theorem dX1_loop_59 : decode cX1_loop 59 = .ok (.aload_n 0, 1) := by decide +kernel
theorem dX1_loop_60 : decode cX1_loop 60 = .ok (.getfield 14, 3) := by decide +kernel
theorem dX1_loop_63 : decode cX1_loop 63 = .ok (.iload 6, 2) := by decide +kernel
theorem dX1_loop_65 : decode cX1_loop 65 = .ok (.invokevirtual 63, 3) := by decide +kernel
theorem dX1_loop_68 : decode cX1_loop 68 = .ok (.invokevirtual 127, 3) := by decide +kernel
theorem dX1_loop_71 : decode cX1_loop 71 = .ok (.iinc 6 1, 3) := by decide +kernel
theorem dX1_loop_74 : decode cX1_loop 74 = .ok (.goto (-42), 3) := by decide +kernel
theorem dX1_loop_77 : decode cX1_loop 77 = .ok (.aload_n 0, 1) := by decide +kernel
theorem dX1_loop_78 : decode cX1_loop 78 = .ok (.getfield 14, 3) := by decide +kernel
theorem dX1_loop_81 : decode cX1_loop 81 = .ok (.invokevirtual 69, 3) := by decide +kernel
theorem dX1_loop_84 : decode cX1_loop 84 = .ok (.iload_n 3, 1) := by decide +kernel
theorem dX1_loop_85 : decode cX1_loop 85 = .ok (.aload 5, 2) := by decide +kernel
theorem dX1_loop_87 : decode cX1_loop 87 = .ok (.invokevirtual 40, 3) := by decide +kernel
theorem dX1_loop_90 : decode cX1_loop 90 = .ok (.ior, 1) := by decide +kernel
theorem dX1_loop_91 : decode cX1_loop 91 = .ok (.istore_n 3, 1) := by decide +kernel
theorem dX1_loop_92 : decode cX1_loop 92 = .ok (.iinc 4 1, 3) := by decide +kernel
theorem dX1_loop_95 : decode cX1_loop 95 = .ok (.goto (-83), 3) := by decide +kernel
theorem dX1_loop_98 : decode cX1_loop 98 = .ok (.return_, 1) := by decide +kernel
theorem dX1_tryAllTriples_0 : decode cX1_tryAllTriples 0 = .ok (.aload_n 1, 1) := by decide +kernel
theorem dX1_tryAllTriples_1 : decode cX1_tryAllTriples 1 = .ok (.iload_n 3, 1) := by decide +kernel
theorem dX1_tryAllTriples_2 : decode cX1_tryAllTriples 2 = .ok (.invokevirtual 72, 3) := by decide +kernel
theorem dX1_tryAllTriples_5 : decode cX1_tryAllTriples 5 = .ok (.istore 5, 2) := by decide +kernel
theorem dX1_tryAllTriples_7 : decode cX1_tryAllTriples 7 = .ok (.aload_n 1, 1) := by decide +kernel
theorem dX1_tryAllTriples_8 : decode cX1_tryAllTriples 8 = .ok (.iload_n 3, 1) := by decide +kernel
theorem dX1_tryAllTriples_9 : decode cX1_tryAllTriples 9 = .ok (.iload 4, 2) := by decide +kernel
theorem dX1_tryAllTriples_11 : decode cX1_tryAllTriples 11 = .ok (.invokevirtual 75, 3) := by decide +kernel
theorem dX1_tryAllTriples_14 : decode cX1_tryAllTriples 14 = .ok (.istore 6, 2) := by decide +kernel
theorem dX1_tryAllTriples_16 : decode cX1_tryAllTriples 16 = .ok (.aload_n 2, 1) := by decide +kernel
theorem dX1_tryAllTriples_17 : decode cX1_tryAllTriples 17 = .ok (.invokevirtual 130, 3) := by decide +kernel
theorem dX1_tryAllTriples_20 : decode cX1_tryAllTriples 20 = .ok (.astore 7, 2) := by decide +kernel
theorem dX1_tryAllTriples_22 : decode cX1_tryAllTriples 22 = .ok (.aload 7, 2) := by decide +kernel
theorem dX1_tryAllTriples_24 : decode cX1_tryAllTriples 24 = .ok (.invokevirtual 134, 3) := by decide +kernel
theorem dX1_tryAllTriples_27 : decode cX1_tryAllTriples 27 = .ok (.istore 8, 2) := by decide +kernel
theorem dX1_tryAllTriples_29 : decode cX1_tryAllTriples 29 = .ok (.iconst 0, 1) := by decide +kernel
theorem dX1_tryAllTriples_30 : decode cX1_tryAllTriples 30 = .ok (.istore 9, 2) := by decide +kernel
theorem dX1_tryAllTriples_32 : decode cX1_tryAllTriples 32 = .ok (.iload 9, 2) := by decide +kernel
theorem dX1_tryAllTriples_34 : decode cX1_tryAllTriples 34 = .ok (.iload 8, 2) := by decide +kernel
theorem dX1_tryAllTriples_36 : decode cX1_tryAllTriples 36 = .ok (.if_icmp .ge 54, 3) := by decide +kernel
theorem dX1_tryAllTriples_39 : decode cX1_tryAllTriples 39 = .ok (.aload 7, 2) := by decide +kernel
theorem dX1_tryAllTriples_41 : decode cX1_tryAllTriples 41 = .ok (.iload 9, 2) := by decide +kernel
theorem dX1_tryAllTriples_43 : decode cX1_tryAllTriples 43 = .ok (.invokevirtual 137, 3) := by decide +kernel
theorem dX1_tryAllTriples_46 : decode cX1_tryAllTriples 46 = .ok (.istore 10, 2) := by decide +kernel
theorem dX1_tryAllTriples_48 : decode cX1_tryAllTriples 48 = .ok (.iload 10, 2) := by decide +kernel
theorem dX1_tryAllTriples_50 : decode cX1_tryAllTriples 50 = .ok (.iload 5, 2) := by decide +kernel
theorem dX1_tryAllTriples_52 : decode cX1_tryAllTriples 52 = .ok (.iand, 1) := by decide +kernel
theorem dX1_tryAllTriples_53 : decode cX1_tryAllTriples 53 = .ok (.iload 6, 2) := by decide +kernel
theorem dX1_tryAllTriples_55 : decode cX1_tryAllTriples 55 = .ok (.if_icmp .ne 29, 3) := by decide +kernel
theorem dX1_tryAllTriples_58 : decode cX1_tryAllTriples 58 = .ok (.aload_n 1, 1) := by decide +kernel
theorem dX1_tryAllTriples_59 : decode cX1_tryAllTriples 59 = .ok (.iload_n 3, 1) := by decide +kernel
theorem dX1_tryAllTriples_60 : decode cX1_tryAllTriples 60 = .ok (.iload 4, 2) := by decide +kernel
theorem dX1_tryAllTriples_62 : decode cX1_tryAllTriples 62 = .ok (.iload 10, 2) := by decide +kernel
theorem dX1_tryAllTriples_64 : decode cX1_tryAllTriples 64 = .ok (.invokevirtual 97, 3) := by decide +kernel
theorem dX1_tryAllTriples_67 : decode cX1_tryAllTriples 67 = .ok (.istore 11, 2) := by decide +kernel
theorem dX1_tryAllTriples_69 : decode cX1_tryAllTriples 69 = .ok (.iload 11, 2) := by decide +kernel
theorem dX1_tryAllTriples_71 : decode cX1_tryAllTriples 71 = .ok (.iconst (-1), 1) := by decide +kernel
theorem dX1_tryAllTriples_72 : decode cX1_tryAllTriples 72 = .ok (.if_icmp .eq 12, 3) := by decide +kernel
theorem dX1_tryAllTriples_75 : decode cX1_tryAllTriples 75 = .ok (.aload_n 0, 1) := by decide +kernel
theorem dX1_tryAllTriples_76 : decode cX1_tryAllTriples 76 = .ok (.getfield 14, 3) := by decide +kernel
theorem dX1_tryAllTriples_79 : decode cX1_tryAllTriples 79 = .ok (.iload 11, 2) := by decide +kernel
theorem dX1_tryAllTriples_81 : decode cX1_tryAllTriples 81 = .ok (.invokevirtual 66, 3) := by decide +kernel
theorem dX1_tryAllTriples_84 : decode cX1_tryAllTriples 84 = .ok (.iinc 9 1, 3) := by decide +kernel
theorem dX1_tryAllTriples_87 : decode cX1_tryAllTriples 87 = .ok (.goto (-55), 3) := by decide +kernel
theorem dX1_tryAllTriples_90 : decode cX1_tryAllTriples 90 = .ok (.return_, 1) := by decide +kernel
theorem dX2_init_0 : decode cX2_init 0 = .ok (.aload_n 0, 1) := by decide +kernel
theorem dX2_init_1 : decode cX2_init 1 = .ok (.invokespecial 3, 3) := by decide +kernel
theorem dX2_init_4 : decode cX2_init 4 = .ok (.aload_n 0, 1) := by decide +kernel
theorem dX2_init_5 : decode cX2_init 5 = .ok (.iconst 3, 1) := by decide +kernel
theorem dX2_init_6 : decode cX2_init 6 = .ok (.newarray .int, 2) := by decide +kernel
theorem dX2_init_8 : decode cX2_init 8 = .ok (.putfield 9, 3) := by decide +kernel
theorem dX2_init_11 : decode cX2_init 11 = .ok (.aload_n 0, 1) := by decide +kernel
theorem dX2_init_12 : decode cX2_init 12 = .ok (.iconst 3, 1) := by decide +kernel
theorem dX2_init_13 : decode cX2_init 13 = .ok (.newarray .int, 2) := by decide +kernel
theorem dX2_init_15 : decode cX2_init 15 = .ok (.putfield 15, 3) := by decide +kernel
theorem dX2_init_18 : decode cX2_init 18 = .ok (.aload_n 0, 1) := by decide +kernel
theorem dX2_init_19 : decode cX2_init 19 = .ok (.iconst 0, 1) := by decide +kernel
theorem dX2_init_20 : decode cX2_init 20 = .ok (.putfield 18, 3) := by decide +kernel
theorem dX2_init_23 : decode cX2_init 23 = .ok (.aload_n 0, 1) := by decide +kernel
theorem dX2_init_24 : decode cX2_init 24 = .ok (.iconst 0, 1) := by decide +kernel
theorem dX2_init_25 : decode cX2_init 25 = .ok (.putfield 22, 3) := by decide +kernel
theorem dX2_init_28 : decode cX2_init 28 = .ok (.return_, 1) := by decide +kernel
theorem dX2_tell_0 : decode cX2_tell 0 = .ok (.aload_n 0, 1) := by decide +kernel
theorem dX2_tell_1 : decode cX2_tell 1 = .ok (.getfield 9, 3) := by decide +kernel
theorem dX2_tell_4 : decode cX2_tell 4 = .ok (.iconst 0, 1) := by decide +kernel
theorem dX2_tell_5 : decode cX2_tell 5 = .ok (.iload_n 1, 1) := by decide +kernel
theorem dX2_tell_6 : decode cX2_tell 6 = .ok (.invokestatic 25, 3) := by decide +kernel
theorem dX2_tell_9 : decode cX2_tell 9 = .ok (.aload_n 0, 1) := by decide +kernel
theorem dX2_tell_10 : decode cX2_tell 10 = .ok (.getfield 9, 3) := by decide +kernel
theorem dX2_tell_13 : decode cX2_tell 13 = .ok (.iconst 1, 1) := by decide +kernel
theorem dX2_tell_14 : decode cX2_tell 14 = .ok (.iload_n 2, 1) := by decide +kernel
theorem dX2_tell_15 : decode cX2_tell 15 = .ok (.invokestatic 25, 3) := by decide +kernel
theorem dX2_tell_18 : decode cX2_tell 18 = .ok (.aload_n 0, 1) := by decide +kernel
theorem dX2_tell_19 : decode cX2_tell 19 = .ok (.getfield 9, 3) := by decide +kernel
theorem dX2_tell_22 : decode cX2_tell 22 = .ok (.iconst 2, 1) := by decide +kernel
theorem dX2_tell_23 : decode cX2_tell 23 = .ok (.iload_n 3, 1) := by decide +kernel
theorem dX2_tell_24 : decode cX2_tell 24 = .ok (.invokestatic 25, 3) := by decide +kernel
theorem dX2_tell_27 : decode cX2_tell 27 = .ok (.aload_n 0, 1) := by decide +kernel
theorem dX2_tell_28 : decode cX2_tell 28 = .ok (.aload_n 0, 1) := by decide +kernel
theorem dX2_tell_29 : decode cX2_tell 29 = .ok (.iload_n 1, 1) := by decide +kernel
theorem dX2_tell_30 : decode cX2_tell 30 = .ok (.invokevirtual 29, 3) := by decide +kernel
theorem dX2_tell_33 : decode cX2_tell 33 = .ok (.aload_n 0, 1) := by decide +kernel
theorem dX2_tell_34 : decode cX2_tell 34 = .ok (.iload_n 2, 1) := by decide +kernel
theorem dX2_tell_35 : decode cX2_tell 35 = .ok (.invokevirtual 29, 3) := by decide +kernel
theorem dX2_tell_38 : decode cX2_tell 38 = .ok (.ior, 1) := by decide +kernel
theorem dX2_tell_39 : decode cX2_tell 39 = .ok (.aload_n 0, 1) := by decide +kernel
theorem dX2_tell_40 : decode cX2_tell 40 = .ok (.iload_n 3, 1) := by decide +kernel
theorem dX2_tell_41 : decode cX2_tell 41 = .ok (.invokevirtual 29, 3) := by decide +kernel
theorem dX2_tell_44 : decode cX2_tell 44 = .ok (.ior, 1) := by decide +kernel
theorem dX2_tell_45 : decode cX2_tell 45 = .ok (.putfield 18, 3) := by decide +kernel
theorem dX2_tell_48 : decode cX2_tell 48 = .ok (.return_, 1) := by decide +kernel
theorem dX2_bitOf_0 : decode cX2_bitOf 0 = .ok (.iload_n 1, 1) := by decide +kernel
theorem dX2_bitOf_1 : decode cX2_bitOf 1 = .ok (.ifCond .ge 11, 3) := by decide +kernel
theorem dX2_bitOf_4 : decode cX2_bitOf 4 = .ok (.iconst 1, 1) := by decide +kernel
theorem dX2_bitOf_5 : decode cX2_bitOf 5 = .ok (.iconst (-1), 1) := by decide +kernel
theorem dX2_bitOf_6 : decode cX2_bitOf 6 = .ok (.iload_n 1, 1) := by decide +kernel
theorem dX2_bitOf_7 : decode cX2_bitOf 7 = .ok (.isub, 1) := by decide +kernel
theorem dX2_bitOf_8 : decode cX2_bitOf 8 = .ok (.ishl, 1) := by decide +kernel
theorem dX2_bitOf_9 : decode cX2_bitOf 9 = .ok (.goto 4, 3) := by decide +kernel
theorem dX2_bitOf_12 : decode cX2_bitOf 12 = .ok (.iconst 0, 1) := by decide +kernel
theorem dX2_bitOf_13 : decode cX2_bitOf 13 = .ok (.ireturn, 1) := by decide +kernel
theorem dX2_part_0 : decode cX2_part 0 = .ok (.aload_n 0, 1) := by decide +kernel
theorem dX2_part_1 : decode cX2_part 1 = .ok (.getfield 9, 3) := by decide +kernel
theorem dX2_part_4 : decode cX2_part 4 = .ok (.iload_n 1, 1) := by decide +kernel
theorem dX2_part_5 : decode cX2_part 5 = .ok (.invokestatic 33, 3) := by decide +kernel
theorem dX2_part_8 : decode cX2_part 8 = .ok (.ireturn, 1) := by decide +kernel
theorem dX2_variableBits_0 : decode cX2_variableBits 0 = .ok (.aload_n 0, 1) := by decide +kernel
theorem dX2_variableBits_1 : decode cX2_variableBits 1 = .ok (.getfield 18, 3) := by decide +kernel
theorem dX2_variableBits_4 : decode cX2_variableBits 4 = .ok (.ireturn, 1) := by decide +kernel
theorem dX2_found_0 : decode cX2_found 0 = .ok (.aload_n 0, 1) := by decide +kernel
theorem dX2_found_1 : decode cX2_found 1 = .ok (.getfield 22, 3) := by decide +kernel
theorem dX2_found_4 : decode cX2_found 4 = .ok (.ireturn, 1) := by decide +kernel
theorem dX2_look_0 : decode cX2_look 0 = .ok (.iconst 0, 1) := by decide +kernel
theorem dX2_look_1 : decode cX2_look 1 = .ok (.istore_n 3, 1) := by decide +kernel
theorem dX2_look_2 : decode cX2_look 2 = .ok (.iload_n 3, 1) := by decide +kernel
theorem dX2_look_3 : decode cX2_look 3 = .ok (.iconst 3, 1) := by decide +kernel
theorem dX2_look_4 : decode cX2_look 4 = .ok (.if_icmp .ge 44, 3) := by decide +kernel
theorem dX2_look_7 : decode cX2_look 7 = .ok (.aload_n 0, 1) := by decide +kernel
theorem dX2_look_8 : decode cX2_look 8 = .ok (.getfield 15, 3) := by decide +kernel
theorem dX2_look_11 : decode cX2_look 11 = .ok (.iload_n 3, 1) := by decide +kernel
theorem dX2_look_12 : decode cX2_look 12 = .ok (.aload_n 0, 1) := by decide +kernel
theorem dX2_look_13 : decode cX2_look 13 = .ok (.getfield 9, 3) := by decide +kernel
theorem dX2_look_16 : decode cX2_look 16 = .ok (.iload_n 3, 1) := by decide +kernel
theorem dX2_look_17 : decode cX2_look 17 = .ok (.invokestatic 33, 3) := by decide +kernel
theorem dX2_look_20 : decode cX2_look 20 = .ok (.ifCond .ge 7, 3) := by decide +kernel
theorem dX2_look_23 : decode cX2_look 23 = .ok (.iconst 0, 1) := by decide +kernel
theorem dX2_look_24 : decode cX2_look 24 = .ok (.goto 15, 3) := by decide +kernel
theorem dX2_look_27 : decode cX2_look 27 = .ok (.aload_n 1, 1) := by decide +kernel
theorem dX2_look_28 : decode cX2_look 28 = .ok (.aload_n 0, 1) := by decide +kernel
theorem dX2_look_29 : decode cX2_look 29 = .ok (.getfield 9, 3) := by decide +kernel
theorem dX2_look_32 : decode cX2_look 32 = .ok (.iload_n 3, 1) := by decide +kernel
theorem dX2_look_33 : decode cX2_look 33 = .ok (.invokestatic 33, 3) := by decide +kernel
theorem dX2_look_36 : decode cX2_look 36 = .ok (.invokevirtual 37, 3) := by decide +kernel
theorem dX2_look_39 : decode cX2_look 39 = .ok (.invokestatic 25, 3) := by decide +kernel
theorem dX2_look_42 : decode cX2_look 42 = .ok (.iinc 3 1, 3) := by decide +kernel
theorem dX2_look_45 : decode cX2_look 45 = .ok (.goto (-43), 3) := by decide +kernel
theorem dX2_look_48 : decode cX2_look 48 = .ok (.aload_n 0, 1) := by decide +kernel
theorem dX2_look_49 : decode cX2_look 49 = .ok (.iconst 0, 1) := by decide +kernel
theorem dX2_look_50 : decode cX2_look 50 = .ok (.invokevirtual 42, 3) := by decide +kernel
theorem dX2_look_53 : decode cX2_look 53 = .ok (.istore_n 3, 1) := by decide +kernel
theorem dX2_look_54 : decode cX2_look 54 = .ok (.aload_n 0, 1) := by decide +kernel
theorem dX2_look_55 : decode cX2_look 55 = .ok (.iconst 0, 1) := by decide +kernel
theorem dX2_look_56 : decode cX2_look 56 = .ok (.iconst 0, 1) := by decide +kernel
theorem dX2_look_57 : decode cX2_look 57 = .ok (.invokevirtual 45, 3) := by decide +kernel
theorem dX2_look_60 : decode cX2_look 60 = .ok (.istore 4, 2) := by decide +kernel
theorem dX2_look_62 : decode cX2_look 62 = .ok (.iload_n 3, 1) := by decide +kernel
theorem dX2_look_63 : decode cX2_look 63 = .ok (.invokestatic 49, 3) := by decide +kernel
theorem dX2_look_66 : decode cX2_look 66 = .ok (.istore 5, 2) := by decide +kernel
theorem dX2_look_68 : decode cX2_look 68 = .ok (.aload_n 2, 1) := by decide +kernel
theorem dX2_look_69 : decode cX2_look 69 = .ok (.iload 5, 2) := by decide +kernel
theorem dX2_look_71 : decode cX2_look 71 = .ok (.iload_n 3, 1) := by decide +kernel
theorem dX2_look_72 : decode cX2_look 72 = .ok (.iload 4, 2) := by decide +kernel
theorem dX2_look_74 : decode cX2_look 74 = .ok (.invokevirtual 52, 3) := by decide +kernel
theorem dX2_look_77 : decode cX2_look 77 = .ok (.istore 6, 2) := by decide +kernel
theorem dX2_look_79 : decode cX2_look 79 = .ok (.aload_n 0, 1) := by decide +kernel
theorem dX2_look_80 : decode cX2_look 80 = .ok (.iconst 0, 1) := by decide +kernel
theorem dX2_look_81 : decode cX2_look 81 = .ok (.putfield 22, 3) := by decide +kernel
theorem dX2_look_84 : decode cX2_look 84 = .ok (.aload_n 2, 1) := by decide +kernel
theorem dX2_look_85 : decode cX2_look 85 = .ok (.iload 5, 2) := by decide +kernel
theorem dX2_look_87 : decode cX2_look 87 = .ok (.iload 4, 2) := by decide +kernel
theorem dX2_look_89 : decode cX2_look 89 = .ok (.invokevirtual 58, 3) := by decide +kernel
theorem dX2_look_92 : decode cX2_look 92 = .ok (.istore 7, 2) := by decide +kernel
theorem dX2_look_94 : decode cX2_look 94 = .ok (.iload 7, 2) := by decide +kernel
theorem dX2_look_96 : decode cX2_look 96 = .ok (.iload 6, 2) := by decide +kernel
theorem dX2_look_98 : decode cX2_look 98 = .ok (.if_icmp .ge 37, 3) := by decide +kernel
theorem dX2_look_101 : decode cX2_look 101 = .ok (.aload_n 0, 1) := by decide +kernel
theorem dX2_look_102 : decode cX2_look 102 = .ok (.iconst 0, 1) := by decide +kernel
theorem dX2_look_103 : decode cX2_look 103 = .ok (.iconst 0, 1) := by decide +kernel
theorem dX2_look_104 : decode cX2_look 104 = .ok (.aload_n 2, 1) := by decide +kernel
theorem dX2_look_105 : decode cX2_look 105 = .ok (.iload 5, 2) := by decide +kernel
theorem dX2_look_107 : decode cX2_look 107 = .ok (.iload 7, 2) := by decide +kernel
theorem dX2_look_109 : decode cX2_look 109 = .ok (.invokevirtual 61, 3) := by decide +kernel
theorem dX2_look_112 : decode cX2_look 112 = .ok (.invokevirtual 64, 3) := by decide +kernel
theorem dX2_look_115 : decode cX2_look 115 = .ok (.iconst (-1), 1) := by decide +kernel
theorem dX2_look_116 : decode cX2_look 116 = .ok (.if_icmp .eq 13, 3) := by decide +kernel
theorem dX2_look_119 : decode cX2_look 119 = .ok (.aload_n 0, 1) := by decide +kernel
theorem dX2_look_120 : decode cX2_look 120 = .ok (.dup, 1) := by decide +kernel
theorem dX2_look_121 : decode cX2_look 121 = .ok (.getfield 22, 3) := by decide +kernel
theorem dX2_look_124 : decode cX2_look 124 = .ok (.iconst 1, 1) := by decide +kernel
theorem dX2_look_125 : decode cX2_look 125 = .ok (.iadd, 1) := by decide +kernel
theorem dX2_look_126 : decode cX2_look 126 = .ok (.putfield 22, 3) := by decide +kernel
theorem dX2_look_129 : decode cX2_look 129 = .ok (.iinc 7 1, 3) := by decide +kernel
theorem dX2_look_132 : decode cX2_look 132 = .ok (.goto (-38), 3) := by decide +kernel
theorem dX2_look_135 : decode cX2_look 135 = .ok (.return_, 1) := by decide +kernel
theorem dX2_maskWith_0 : decode cX2_maskWith 0 = .ok (.iconst 0, 1) := by decide +kernel
theorem dX2_maskWith_1 : decode cX2_maskWith 1 = .ok (.istore_n 2, 1) := by decide +kernel
theorem dX2_maskWith_2 : decode cX2_maskWith 2 = .ok (.iconst 0, 1) := by decide +kernel
theorem dX2_maskWith_3 : decode cX2_maskWith 3 = .ok (.istore_n 3, 1) := by decide +kernel
theorem dX2_maskWith_4 : decode cX2_maskWith 4 = .ok (.iload_n 3, 1) := by decide +kernel
theorem dX2_maskWith_5 : decode cX2_maskWith 5 = .ok (.iconst 3, 1) := by decide +kernel
theorem dX2_maskWith_6 : decode cX2_maskWith 6 = .ok (.if_icmp .ge 45, 3) := by decide +kernel
theorem dX2_maskWith_9 : decode cX2_maskWith 9 = .ok (.aload_n 0, 1) := by decide +kernel
theorem dX2_maskWith_10 : decode cX2_maskWith 10 = .ok (.getfield 9, 3) := by decide +kernel
theorem dX2_maskWith_13 : decode cX2_maskWith 13 = .ok (.iload_n 3, 1) := by decide +kernel
theorem dX2_maskWith_14 : decode cX2_maskWith 14 = .ok (.invokestatic 33, 3) := by decide +kernel
theorem dX2_maskWith_17 : decode cX2_maskWith 17 = .ok (.istore 4, 2) := by decide +kernel
theorem dX2_maskWith_19 : decode cX2_maskWith 19 = .ok (.iload 4, 2) := by decide +kernel
theorem dX2_maskWith_21 : decode cX2_maskWith 21 = .ok (.ifCond .ge 14, 3) := by decide +kernel
theorem dX2_maskWith_24 : decode cX2_maskWith 24 = .ok (.iload_n 1, 1) := by decide +kernel
theorem dX2_maskWith_25 : decode cX2_maskWith 25 = .ok (.iconst (-1), 1) := by decide +kernel
theorem dX2_maskWith_26 : decode cX2_maskWith 26 = .ok (.iload 4, 2) := by decide +kernel
theorem dX2_maskWith_28 : decode cX2_maskWith 28 = .ok (.isub, 1) := by decide +kernel
theorem dX2_maskWith_29 : decode cX2_maskWith 29 = .ok (.invokestatic 67, 3) := by decide +kernel
theorem dX2_maskWith_32 : decode cX2_maskWith 32 = .ok (.ifCond .eq 13, 3) := by decide +kernel
theorem dX2_maskWith_35 : decode cX2_maskWith 35 = .ok (.iload_n 2, 1) := by decide +kernel
theorem dX2_maskWith_36 : decode cX2_maskWith 36 = .ok (.bipush 63, 2) := by decide +kernel
theorem dX2_maskWith_38 : decode cX2_maskWith 38 = .ok (.iload_n 3, 1) := by decide +kernel
theorem dX2_maskWith_39 : decode cX2_maskWith 39 = .ok (.invokestatic 71, 3) := by decide +kernel
theorem dX2_maskWith_42 : decode cX2_maskWith 42 = .ok (.ishl, 1) := by decide +kernel
theorem dX2_maskWith_43 : decode cX2_maskWith 43 = .ok (.ior, 1) := by decide +kernel
theorem dX2_maskWith_44 : decode cX2_maskWith 44 = .ok (.istore_n 2, 1) := by decide +kernel
theorem dX2_maskWith_45 : decode cX2_maskWith 45 = .ok (.iinc 3 1, 3) := by decide +kernel
theorem dX2_maskWith_48 : decode cX2_maskWith 48 = .ok (.goto (-44), 3) := by decide +kernel
theorem dX2_maskWith_51 : decode cX2_maskWith 51 = .ok (.iload_n 2, 1) := by decide +kernel
theorem dX2_maskWith_52 : decode cX2_maskWith 52 = .ok (.ireturn, 1) := by decide +kernel
theorem dX2_valueWith_0 : decode cX2_valueWith 0 = .ok (.iconst 0, 1) := by decide +kernel
theorem dX2_valueWith_1 : decode cX2_valueWith 1 = .ok (.istore_n 3, 1) := by decide +kernel
theorem dX2_valueWith_2 : decode cX2_valueWith 2 = .ok (.iconst 0, 1) := by decide +kernel
theorem dX2_valueWith_3 : decode cX2_valueWith 3 = .ok (.istore 4, 2) := by decide +kernel
theorem dX2_valueWith_5 : decode cX2_valueWith 5 = .ok (.iload 4, 2) := by decide +kernel
theorem dX2_valueWith_7 : decode cX2_valueWith 7 = .ok (.iconst 3, 1) := by decide +kernel
theorem dX2_valueWith_8 : decode cX2_valueWith 8 = .ok (.if_icmp .ge 74, 3) := by decide +kernel
theorem dX2_valueWith_11 : decode cX2_valueWith 11 = .ok (.aload_n 0, 1) := by decide +kernel
theorem dX2_valueWith_12 : decode cX2_valueWith 12 = .ok (.getfield 9, 3) := by decide +kernel
theorem dX2_valueWith_15 : decode cX2_valueWith 15 = .ok (.iload 4, 2) := by decide +kernel
theorem dX2_valueWith_17 : decode cX2_valueWith 17 = .ok (.invokestatic 33, 3) := by decide +kernel
theorem dX2_valueWith_20 : decode cX2_valueWith 20 = .ok (.istore 5, 2) := by decide +kernel
theorem dX2_valueWith_22 : decode cX2_valueWith 22 = .ok (.iload 5, 2) := by decide +kernel
theorem dX2_valueWith_24 : decode cX2_valueWith 24 = .ok (.ifCond .lt 24, 3) := by decide +kernel
theorem dX2_valueWith_27 : decode cX2_valueWith 27 = .ok (.iload_n 3, 1) := by decide +kernel
theorem dX2_valueWith_28 : decode cX2_valueWith 28 = .ok (.aload_n 0, 1) := by decide +kernel
theorem dX2_valueWith_29 : decode cX2_valueWith 29 = .ok (.getfield 15, 3) := by decide +kernel
theorem dX2_valueWith_32 : decode cX2_valueWith 32 = .ok (.iload 4, 2) := by decide +kernel
theorem dX2_valueWith_34 : decode cX2_valueWith 34 = .ok (.invokestatic 33, 3) := by decide +kernel
theorem dX2_valueWith_37 : decode cX2_valueWith 37 = .ok (.iload 4, 2) := by decide +kernel
theorem dX2_valueWith_39 : decode cX2_valueWith 39 = .ok (.invokestatic 71, 3) := by decide +kernel
theorem dX2_valueWith_42 : decode cX2_valueWith 42 = .ok (.ishl, 1) := by decide +kernel
theorem dX2_valueWith_43 : decode cX2_valueWith 43 = .ok (.ior, 1) := by decide +kernel
theorem dX2_valueWith_44 : decode cX2_valueWith 44 = .ok (.istore_n 3, 1) := by decide +kernel
theorem dX2_valueWith_45 : decode cX2_valueWith 45 = .ok (.goto 31, 3) := by decide +kernel
theorem dX2_valueWith_48 : decode cX2_valueWith 48 = .ok (.iload_n 1, 1) := by decide +kernel
theorem dX2_valueWith_49 : decode cX2_valueWith 49 = .ok (.iconst (-1), 1) := by decide +kernel
theorem dX2_valueWith_50 : decode cX2_valueWith 50 = .ok (.iload 5, 2) := by decide +kernel
theorem dX2_valueWith_52 : decode cX2_valueWith 52 = .ok (.isub, 1) := by decide +kernel
theorem dX2_valueWith_53 : decode cX2_valueWith 53 = .ok (.invokestatic 67, 3) := by decide +kernel
theorem dX2_valueWith_56 : decode cX2_valueWith 56 = .ok (.ifCond .eq 20, 3) := by decide +kernel
theorem dX2_valueWith_59 : decode cX2_valueWith 59 = .ok (.iload_n 3, 1) := by decide +kernel
theorem dX2_valueWith_60 : decode cX2_valueWith 60 = .ok (.iload_n 2, 1) := by decide +kernel
theorem dX2_valueWith_61 : decode cX2_valueWith 61 = .ok (.iconst (-1), 1) := by decide +kernel
theorem dX2_valueWith_62 : decode cX2_valueWith 62 = .ok (.iload 5, 2) := by decide +kernel
theorem dX2_valueWith_64 : decode cX2_valueWith 64 = .ok (.isub, 1) := by decide +kernel
theorem dX2_valueWith_65 : decode cX2_valueWith 65 = .ok (.invokestatic 74, 3) := by decide +kernel
theorem dX2_valueWith_68 : decode cX2_valueWith 68 = .ok (.iload 4, 2) := by decide +kernel
theorem dX2_valueWith_70 : decode cX2_valueWith 70 = .ok (.invokestatic 71, 3) := by decide +kernel
theorem dX2_valueWith_73 : decode cX2_valueWith 73 = .ok (.ishl, 1) := by decide +kernel
theorem dX2_valueWith_74 : decode cX2_valueWith 74 = .ok (.ior, 1) := by decide +kernel
theorem dX2_valueWith_75 : decode cX2_valueWith 75 = .ok (.istore_n 3, 1) := by decide +kernel
theorem dX2_valueWith_76 : decode cX2_valueWith 76 = .ok (.iinc 4 1, 3) := by decide +kernel
theorem dX2_valueWith_79 : decode cX2_valueWith 79 = .ok (.goto (-74), 3) := by decide +kernel
theorem dX2_valueWith_82 : decode cX2_valueWith 82 = .ok (.iload_n 3, 1) := by decide +kernel
theorem dX2_valueWith_83 : decode cX2_valueWith 83 = .ok (.ireturn, 1) := by decide +kernel
theorem dX2_widen_0 : decode cX2_widen 0 = .ok (.iload_n 2, 1) := by decide +kernel
theorem dX2_widen_1 : decode cX2_widen 1 = .ok (.istore 4, 2) := by decide +kernel
theorem dX2_widen_3 : decode cX2_widen 3 = .ok (.iload_n 1, 1) := by decide +kernel
theorem dX2_widen_4 : decode cX2_widen 4 = .ok (.istore 5, 2) := by decide +kernel
theorem dX2_widen_6 : decode cX2_widen 6 = .ok (.iconst 0, 1) := by decide +kernel
theorem dX2_widen_7 : decode cX2_widen 7 = .ok (.istore 6, 2) := by decide +kernel
theorem dX2_widen_9 : decode cX2_widen 9 = .ok (.iload 6, 2) := by decide +kernel
theorem dX2_widen_11 : decode cX2_widen 11 = .ok (.iconst 3, 1) := by decide +kernel
theorem dX2_widen_12 : decode cX2_widen 12 = .ok (.if_icmp .ge 84, 3) := by decide +kernel
theorem dX2_widen_15 : decode cX2_widen 15 = .ok (.iconst (-1), 1) := by decide +kernel
theorem dX2_widen_16 : decode cX2_widen 16 = .ok (.aload_n 0, 1) := by decide +kernel
theorem dX2_widen_17 : decode cX2_widen 17 = .ok (.getfield 9, 3) := by decide +kernel
theorem dX2_widen_20 : decode cX2_widen 20 = .ok (.iload 6, 2) := by decide +kernel
theorem dX2_widen_22 : decode cX2_widen 22 = .ok (.invokestatic 33, 3) := by decide +kernel
theorem dX2_widen_25 : decode cX2_widen 25 = .ok (.isub, 1) := by decide +kernel
theorem dX2_widen_26 : decode cX2_widen 26 = .ok (.istore 7, 2) := by decide +kernel
theorem dX2_widen_28 : decode cX2_widen 28 = .ok (.iload 7, 2) := by decide +kernel
theorem dX2_widen_30 : decode cX2_widen 30 = .ok (.ifCond .lt 60, 3) := by decide +kernel
theorem dX2_widen_33 : decode cX2_widen 33 = .ok (.iload_n 3, 1) := by decide +kernel
theorem dX2_widen_34 : decode cX2_widen 34 = .ok (.iload 6, 2) := by decide +kernel
theorem dX2_widen_36 : decode cX2_widen 36 = .ok (.invokestatic 77, 3) := by decide +kernel
theorem dX2_widen_39 : decode cX2_widen 39 = .ok (.istore 8, 2) := by decide +kernel
theorem dX2_widen_41 : decode cX2_widen 41 = .ok (.iload 5, 2) := by decide +kernel
theorem dX2_widen_43 : decode cX2_widen 43 = .ok (.iload 7, 2) := by decide +kernel
theorem dX2_widen_45 : decode cX2_widen 45 = .ok (.invokestatic 67, 3) := by decide +kernel
theorem dX2_widen_48 : decode cX2_widen 48 = .ok (.ifCond .ne 28, 3) := by decide +kernel
theorem dX2_widen_51 : decode cX2_widen 51 = .ok (.iload 4, 2) := by decide +kernel
theorem dX2_widen_53 : decode cX2_widen 53 = .ok (.iload 8, 2) := by decide +kernel
theorem dX2_widen_55 : decode cX2_widen 55 = .ok (.iload 7, 2) := by decide +kernel
theorem dX2_widen_57 : decode cX2_widen 57 = .ok (.invokestatic 80, 3) := by decide +kernel
theorem dX2_widen_60 : decode cX2_widen 60 = .ok (.ishl, 1) := by decide +kernel
theorem dX2_widen_61 : decode cX2_widen 61 = .ok (.ior, 1) := by decide +kernel
theorem dX2_widen_62 : decode cX2_widen 62 = .ok (.istore 4, 2) := by decide +kernel
theorem dX2_widen_64 : decode cX2_widen 64 = .ok (.iload 5, 2) := by decide +kernel
theorem dX2_widen_66 : decode cX2_widen 66 = .ok (.iconst 1, 1) := by decide +kernel
theorem dX2_widen_67 : decode cX2_widen 67 = .ok (.iload 7, 2) := by decide +kernel
theorem dX2_widen_69 : decode cX2_widen 69 = .ok (.ishl, 1) := by decide +kernel
theorem dX2_widen_70 : decode cX2_widen 70 = .ok (.ior, 1) := by decide +kernel
theorem dX2_widen_71 : decode cX2_widen 71 = .ok (.istore 5, 2) := by decide +kernel
theorem dX2_widen_73 : decode cX2_widen 73 = .ok (.goto 17, 3) := by decide +kernel
theorem dX2_widen_76 : decode cX2_widen 76 = .ok (.iload 4, 2) := by decide +kernel
theorem dX2_widen_78 : decode cX2_widen 78 = .ok (.iload 7, 2) := by decide +kernel
theorem dX2_widen_80 : decode cX2_widen 80 = .ok (.invokestatic 74, 3) := by decide +kernel
theorem dX2_widen_83 : decode cX2_widen 83 = .ok (.iload 8, 2) := by decide +kernel
theorem dX2_widen_85 : decode cX2_widen 85 = .ok (.if_icmp .eq 5, 3) := by decide +kernel
theorem dX2_widen_88 : decode cX2_widen 88 = .ok (.iconst (-1), 1) := by decide +kernel
theorem dX2_widen_89 : decode cX2_widen 89 = .ok (.ireturn, 1) := by decide +kernel
theorem dX2_widen_90 : decode cX2_widen 90 = .ok (.iinc 6 1, 3) := by decide +kernel
theorem dX2_widen_93 : decode cX2_widen 93 = .ok (.goto (-84), 3) := by decide +kernel
theorem dX2_widen_96 : decode cX2_widen 96 = .ok (.iload 4, 2) := by decide +kernel
theorem dX2_widen_98 : decode cX2_widen 98 = .ok (.ireturn, 1) := by decide +kernel
theorem dX3_init_0 : decode cX3_init 0 = .ok (.aload_n 0, 1) := by decide +kernel
theorem dX3_init_1 : decode cX3_init 1 = .ok (.invokespecial 1, 3) := by decide +kernel
theorem dX3_init_4 : decode cX3_init 4 = .ok (.aload_n 0, 1) := by decide +kernel
theorem dX3_init_5 : decode cX3_init 5 = .ok (.new 7, 3) := by decide +kernel
theorem dX3_init_8 : decode cX3_init 8 = .ok (.dup, 1) := by decide +kernel
theorem dX3_init_9 : decode cX3_init 9 = .ok (.invokespecial 9, 3) := by decide +kernel
theorem dX3_init_12 : decode cX3_init 12 = .ok (.putfield 10, 3) := by decide +kernel
theorem dX3_init_15 : decode cX3_init 15 = .ok (.aload_n 0, 1) := by decide +kernel
theorem dX3_init_16 : decode cX3_init 16 = .ok (.new 7, 3) := by decide +kernel
theorem dX3_init_19 : decode cX3_init 19 = .ok (.dup, 1) := by decide +kernel
theorem dX3_init_20 : decode cX3_init 20 = .ok (.invokespecial 9, 3) := by decide +kernel
theorem dX3_init_23 : decode cX3_init 23 = .ok (.putfield 16, 3) := by decide +kernel
theorem dX3_init_26 : decode cX3_init 26 = .ok (.aload_n 0, 1) := by decide +kernel
theorem dX3_init_27 : decode cX3_init 27 = .ok (.new 7, 3) := by decide +kernel
theorem dX3_init_30 : decode cX3_init 30 = .ok (.dup, 1) := by decide +kernel
theorem dX3_init_31 : decode cX3_init 31 = .ok (.invokespecial 9, 3) := by decide +kernel
theorem dX3_init_34 : decode cX3_init 34 = .ok (.putfield 19, 3) := by decide +kernel
theorem dX3_init_37 : decode cX3_init 37 = .ok (.aload_n 0, 1) := by decide +kernel
theorem dX3_init_38 : decode cX3_init 38 = .ok (.iconst 0, 1) := by decide +kernel
theorem dX3_init_39 : decode cX3_init 39 = .ok (.putfield 22, 3) := by decide +kernel
theorem dX3_init_42 : decode cX3_init 42 = .ok (.return_, 1) := by decide +kernel
theorem dX3_size_0 : decode cX3_size 0 = .ok (.aload_n 0, 1) := by decide +kernel
theorem dX3_size_1 : decode cX3_size 1 = .ok (.getfield 22, 3) := by decide +kernel
theorem dX3_size_4 : decode cX3_size 4 = .ok (.ireturn, 1) := by decide +kernel
theorem dX3_pattern_0 : decode cX3_pattern 0 = .ok (.iload_n 1, 1) := by decide +kernel
theorem dX3_pattern_1 : decode cX3_pattern 1 = .ok (.iconst 1, 1) := by decide +kernel
theorem dX3_pattern_2 : decode cX3_pattern 2 = .ok (.if_icmp .ne 8, 3) := by decide +kernel
theorem dX3_pattern_5 : decode cX3_pattern 5 = .ok (.aload_n 0, 1) := by decide +kernel
theorem dX3_pattern_6 : decode cX3_pattern 6 = .ok (.getfield 16, 3) := by decide +kernel
theorem dX3_pattern_9 : decode cX3_pattern 9 = .ok (.areturn, 1) := by decide +kernel
theorem dX3_pattern_10 : decode cX3_pattern 10 = .ok (.iload_n 1, 1) := by decide +kernel
theorem dX3_pattern_11 : decode cX3_pattern 11 = .ok (.iconst 2, 1) := by decide +kernel
theorem dX3_pattern_12 : decode cX3_pattern 12 = .ok (.if_icmp .ne 10, 3) := by decide +kernel
theorem dX3_pattern_15 : decode cX3_pattern 15 = .ok (.aload_n 0, 1) := by decide +kernel
theorem dX3_pattern_16 : decode cX3_pattern 16 = .ok (.getfield 19, 3) := by decide +kernel
theorem dX3_pattern_19 : decode cX3_pattern 19 = .ok (.goto 7, 3) := by decide +kernel
theorem dX3_pattern_22 : decode cX3_pattern 22 = .ok (.aload_n 0, 1) := by decide +kernel
theorem dX3_pattern_23 : decode cX3_pattern 23 = .ok (.getfield 10, 3) := by decide +kernel
theorem dX3_pattern_26 : decode cX3_pattern 26 = .ok (.areturn, 1) := by decide +kernel
theorem dX3_clear_0 : decode cX3_clear 0 = .ok (.aload_n 0, 1) := by decide +kernel
theorem dX3_clear_1 : decode cX3_clear 1 = .ok (.getfield 22, 3) := by decide +kernel
theorem dX3_clear_4 : decode cX3_clear 4 = .ok (.istore_n 1, 1) := by decide +kernel
theorem dX3_clear_5 : decode cX3_clear 5 = .ok (.aload_n 0, 1) := by decide +kernel
theorem dX3_clear_6 : decode cX3_clear 6 = .ok (.iconst 0, 1) := by decide +kernel
theorem dX3_clear_7 : decode cX3_clear 7 = .ok (.putfield 22, 3) := by decide +kernel
theorem dX3_clear_10 : decode cX3_clear 10 = .ok (.iload_n 1, 1) := by decide +kernel
theorem dX3_clear_11 : decode cX3_clear 11 = .ok (.ireturn, 1) := by decide +kernel
theorem dX3_add_0 : decode cX3_add 0 = .ok (.aload_n 0, 1) := by decide +kernel
theorem dX3_add_1 : decode cX3_add 1 = .ok (.getfield 22, 3) := by decide +kernel
theorem dX3_add_4 : decode cX3_add 4 = .ok (.istore 4, 2) := by decide +kernel
theorem dX3_add_6 : decode cX3_add 6 = .ok (.aload_n 0, 1) := by decide +kernel
theorem dX3_add_7 : decode cX3_add 7 = .ok (.iload 4, 2) := by decide +kernel
theorem dX3_add_9 : decode cX3_add 9 = .ok (.invokevirtual 26, 3) := by decide +kernel
theorem dX3_add_12 : decode cX3_add 12 = .ok (.iload_n 1, 1) := by decide +kernel
theorem dX3_add_13 : decode cX3_add 13 = .ok (.iload_n 2, 1) := by decide +kernel
theorem dX3_add_14 : decode cX3_add 14 = .ok (.iload_n 3, 1) := by decide +kernel
theorem dX3_add_15 : decode cX3_add 15 = .ok (.invokevirtual 30, 3) := by decide +kernel
theorem dX3_add_18 : decode cX3_add 18 = .ok (.aload_n 0, 1) := by decide +kernel
theorem dX3_add_19 : decode cX3_add 19 = .ok (.dup, 1) := by decide +kernel
theorem dX3_add_20 : decode cX3_add 20 = .ok (.getfield 22, 3) := by decide +kernel
theorem dX3_add_23 : decode cX3_add 23 = .ok (.iconst 1, 1) := by decide +kernel
theorem dX3_add_24 : decode cX3_add 24 = .ok (.iadd, 1) := by decide +kernel
theorem dX3_add_25 : decode cX3_add 25 = .ok (.putfield 22, 3) := by decide +kernel
theorem dX3_add_28 : decode cX3_add 28 = .ok (.iload 4, 2) := by decide +kernel
theorem dX3_add_30 : decode cX3_add 30 = .ok (.ireturn, 1) := by decide +kernel
theorem dX3_look_0 : decode cX3_look 0 = .ok (.iconst 0, 1) := by decide +kernel
theorem dX3_look_1 : decode cX3_look 1 = .ok (.istore_n 3, 1) := by decide +kernel
theorem dX3_look_2 : decode cX3_look 2 = .ok (.iload_n 3, 1) := by decide +kernel
theorem dX3_look_3 : decode cX3_look 3 = .ok (.aload_n 0, 1) := by decide +kernel
theorem dX3_look_4 : decode cX3_look 4 = .ok (.getfield 22, 3) := by decide +kernel
theorem dX3_look_7 : decode cX3_look 7 = .ok (.if_icmp .ge 19, 3) := by decide +kernel
theorem dX3_look_10 : decode cX3_look 10 = .ok (.aload_n 0, 1) := by decide +kernel
theorem dX3_look_11 : decode cX3_look 11 = .ok (.iload_n 3, 1) := by decide +kernel
theorem dX3_look_12 : decode cX3_look 12 = .ok (.invokevirtual 26, 3) := by decide +kernel
theorem dX3_look_15 : decode cX3_look 15 = .ok (.aload_n 1, 1) := by decide +kernel
theorem dX3_look_16 : decode cX3_look 16 = .ok (.aload_n 2, 1) := by decide +kernel
theorem dX3_look_17 : decode cX3_look 17 = .ok (.invokevirtual 34, 3) := by decide +kernel
theorem dX3_look_20 : decode cX3_look 20 = .ok (.iinc 3 1, 3) := by decide +kernel
theorem dX3_look_23 : decode cX3_look 23 = .ok (.goto (-21), 3) := by decide +kernel
theorem dX3_look_26 : decode cX3_look 26 = .ok (.return_, 1) := by decide +kernel
theorem dX3_variableBits_0 : decode cX3_variableBits 0 = .ok (.iconst 0, 1) := by decide +kernel
theorem dX3_variableBits_1 : decode cX3_variableBits 1 = .ok (.istore_n 1, 1) := by decide +kernel
theorem dX3_variableBits_2 : decode cX3_variableBits 2 = .ok (.iconst 0, 1) := by decide +kernel
theorem dX3_variableBits_3 : decode cX3_variableBits 3 = .ok (.istore_n 2, 1) := by decide +kernel
theorem dX3_variableBits_4 : decode cX3_variableBits 4 = .ok (.iload_n 2, 1) := by decide +kernel
theorem dX3_variableBits_5 : decode cX3_variableBits 5 = .ok (.aload_n 0, 1) := by decide +kernel
theorem dX3_variableBits_6 : decode cX3_variableBits 6 = .ok (.getfield 22, 3) := by decide +kernel
theorem dX3_variableBits_9 : decode cX3_variableBits 9 = .ok (.if_icmp .ge 20, 3) := by decide +kernel
theorem dX3_variableBits_12 : decode cX3_variableBits 12 = .ok (.iload_n 1, 1) := by decide +kernel
theorem dX3_variableBits_13 : decode cX3_variableBits 13 = .ok (.aload_n 0, 1) := by decide +kernel
theorem dX3_variableBits_14 : decode cX3_variableBits 14 = .ok (.iload_n 2, 1) := by decide +kernel
theorem dX3_variableBits_15 : decode cX3_variableBits 15 = .ok (.invokevirtual 26, 3) := by decide +kernel
theorem dX3_variableBits_18 : decode cX3_variableBits 18 = .ok (.invokevirtual 38, 3) := by decide +kernel
theorem dX3_variableBits_21 : decode cX3_variableBits 21 = .ok (.ior, 1) := by decide +kernel
theorem dX3_variableBits_22 : decode cX3_variableBits 22 = .ok (.istore_n 1, 1) := by decide +kernel
theorem dX3_variableBits_23 : decode cX3_variableBits 23 = .ok (.iinc 2 1, 3) := by decide +kernel
theorem dX3_variableBits_26 : decode cX3_variableBits 26 = .ok (.goto (-22), 3) := by decide +kernel
theorem dX3_variableBits_29 : decode cX3_variableBits 29 = .ok (.iload_n 1, 1) := by decide +kernel
theorem dX3_variableBits_30 : decode cX3_variableBits 30 = .ok (.ireturn, 1) := by decide +kernel
theorem dX3_isStar_0 : decode cX3_isStar 0 = .ok (.aload_n 0, 1) := by decide +kernel
theorem dX3_isStar_1 : decode cX3_isStar 1 = .ok (.getfield 22, 3) := by decide +kernel
theorem dX3_isStar_4 : decode cX3_isStar 4 = .ok (.iconst 2, 1) := by decide +kernel
theorem dX3_isStar_5 : decode cX3_isStar 5 = .ok (.if_icmp .lt 18, 3) := by decide +kernel
theorem dX3_isStar_8 : decode cX3_isStar 8 = .ok (.aload_n 0, 1) := by decide +kernel
theorem dX3_isStar_9 : decode cX3_isStar 9 = .ok (.getfield 10, 3) := by decide +kernel
theorem dX3_isStar_12 : decode cX3_isStar 12 = .ok (.iconst 0, 1) := by decide +kernel
theorem dX3_isStar_13 : decode cX3_isStar 13 = .ok (.invokevirtual 42, 3) := by decide +kernel
theorem dX3_isStar_16 : decode cX3_isStar 16 = .ok (.ifCond .ge 7, 3) := by decide +kernel
theorem dX3_isStar_19 : decode cX3_isStar 19 = .ok (.iconst 1, 1) := by decide +kernel
theorem dX3_isStar_20 : decode cX3_isStar 20 = .ok (.goto 4, 3) := by decide +kernel
theorem dX3_isStar_23 : decode cX3_isStar 23 = .ok (.iconst 0, 1) := by decide +kernel
theorem dX3_isStar_24 : decode cX3_isStar 24 = .ok (.istore_n 1, 1) := by decide +kernel
theorem dX3_isStar_25 : decode cX3_isStar 25 = .ok (.iconst 1, 1) := by decide +kernel
theorem dX3_isStar_26 : decode cX3_isStar 26 = .ok (.istore_n 2, 1) := by decide +kernel
theorem dX3_isStar_27 : decode cX3_isStar 27 = .ok (.iload_n 2, 1) := by decide +kernel
theorem dX3_isStar_28 : decode cX3_isStar 28 = .ok (.aload_n 0, 1) := by decide +kernel
theorem dX3_isStar_29 : decode cX3_isStar 29 = .ok (.getfield 22, 3) := by decide +kernel
theorem dX3_isStar_32 : decode cX3_isStar 32 = .ok (.if_icmp .ge 39, 3) := by decide +kernel
theorem dX3_isStar_35 : decode cX3_isStar 35 = .ok (.iload_n 1, 1) := by decide +kernel
theorem dX3_isStar_36 : decode cX3_isStar 36 = .ok (.ifCond .eq 27, 3) := by decide +kernel
theorem dX3_isStar_39 : decode cX3_isStar 39 = .ok (.aload_n 0, 1) := by decide +kernel
theorem dX3_isStar_40 : decode cX3_isStar 40 = .ok (.iload_n 2, 1) := by decide +kernel
theorem dX3_isStar_41 : decode cX3_isStar 41 = .ok (.invokevirtual 26, 3) := by decide +kernel
theorem dX3_isStar_44 : decode cX3_isStar 44 = .ok (.iconst 0, 1) := by decide +kernel
theorem dX3_isStar_45 : decode cX3_isStar 45 = .ok (.invokevirtual 42, 3) := by decide +kernel
theorem dX3_isStar_48 : decode cX3_isStar 48 = .ok (.aload_n 0, 1) := by decide +kernel
theorem dX3_isStar_49 : decode cX3_isStar 49 = .ok (.getfield 10, 3) := by decide +kernel
theorem dX3_isStar_52 : decode cX3_isStar 52 = .ok (.iconst 0, 1) := by decide +kernel
theorem dX3_isStar_53 : decode cX3_isStar 53 = .ok (.invokevirtual 42, 3) := by decide +kernel
theorem dX3_isStar_56 : decode cX3_isStar 56 = .ok (.if_icmp .ne 7, 3) := by decide +kernel
theorem dX3_isStar_59 : decode cX3_isStar 59 = .ok (.iconst 1, 1) := by decide +kernel
theorem dX3_isStar_60 : decode cX3_isStar 60 = .ok (.goto 4, 3) := by decide +kernel
theorem dX3_isStar_63 : decode cX3_isStar 63 = .ok (.iconst 0, 1) := by decide +kernel
theorem dX3_isStar_64 : decode cX3_isStar 64 = .ok (.istore_n 1, 1) := by decide +kernel
theorem dX3_isStar_65 : decode cX3_isStar 65 = .ok (.iinc 2 1, 3) := by decide +kernel
theorem dX3_isStar_68 : decode cX3_isStar 68 = .ok (.goto (-41), 3) := by decide +kernel
theorem dX3_isStar_71 : decode cX3_isStar 71 = .ok (.iload_n 1, 1) := by decide +kernel
theorem dX3_isStar_72 : decode cX3_isStar 72 = .ok (.ireturn, 1) := by decide +kernel
theorem dX3_isChain_0 : decode cX3_isChain 0 = .ok (.aload_n 0, 1) := by decide +kernel
theorem dX3_isChain_1 : decode cX3_isChain 1 = .ok (.getfield 22, 3) := by decide +kernel
theorem dX3_isChain_4 : decode cX3_isChain 4 = .ok (.iconst 2, 1) := by decide +kernel
theorem dX3_isChain_5 : decode cX3_isChain 5 = .ok (.if_icmp .lt 7, 3) := by decide +kernel
theorem dX3_isChain_8 : decode cX3_isChain 8 = .ok (.iconst 1, 1) := by decide +kernel
theorem dX3_isChain_9 : decode cX3_isChain 9 = .ok (.goto 4, 3) := by decide +kernel
theorem dX3_isChain_12 : decode cX3_isChain 12 = .ok (.iconst 0, 1) := by decide +kernel
theorem dX3_isChain_13 : decode cX3_isChain 13 = .ok (.istore_n 1, 1) := by decide +kernel
theorem dX3_isChain_14 : decode cX3_isChain 14 = .ok (.iconst 1, 1) := by decide +kernel
theorem dX3_isChain_15 : decode cX3_isChain 15 = .ok (.istore_n 2, 1) := by decide +kernel
theorem dX3_isChain_16 : decode cX3_isChain 16 = .ok (.iload_n 2, 1) := by decide +kernel
theorem dX3_isChain_17 : decode cX3_isChain 17 = .ok (.aload_n 0, 1) := by decide +kernel
theorem dX3_isChain_18 : decode cX3_isChain 18 = .ok (.getfield 22, 3) := by decide +kernel
theorem dX3_isChain_21 : decode cX3_isChain 21 = .ok (.if_icmp .ge 48, 3) := by decide +kernel
theorem dX3_isChain_24 : decode cX3_isChain 24 = .ok (.aload_n 0, 1) := by decide +kernel
theorem dX3_isChain_25 : decode cX3_isChain 25 = .ok (.iload_n 2, 1) := by decide +kernel
theorem dX3_isChain_26 : decode cX3_isChain 26 = .ok (.iconst 1, 1) := by decide +kernel
theorem dX3_isChain_27 : decode cX3_isChain 27 = .ok (.isub, 1) := by decide +kernel
theorem dX3_isChain_28 : decode cX3_isChain 28 = .ok (.invokevirtual 26, 3) := by decide +kernel
theorem dX3_isChain_31 : decode cX3_isChain 31 = .ok (.iconst 2, 1) := by decide +kernel
theorem dX3_isChain_32 : decode cX3_isChain 32 = .ok (.invokevirtual 42, 3) := by decide +kernel
theorem dX3_isChain_35 : decode cX3_isChain 35 = .ok (.istore_n 3, 1) := by decide +kernel
theorem dX3_isChain_36 : decode cX3_isChain 36 = .ok (.iload_n 1, 1) := by decide +kernel
theorem dX3_isChain_37 : decode cX3_isChain 37 = .ok (.ifCond .eq 24, 3) := by decide +kernel
theorem dX3_isChain_40 : decode cX3_isChain 40 = .ok (.iload_n 3, 1) := by decide +kernel
theorem dX3_isChain_41 : decode cX3_isChain 41 = .ok (.ifCond .ge 20, 3) := by decide +kernel
theorem dX3_isChain_44 : decode cX3_isChain 44 = .ok (.iload_n 3, 1) := by decide +kernel
theorem dX3_isChain_45 : decode cX3_isChain 45 = .ok (.aload_n 0, 1) := by decide +kernel
theorem dX3_isChain_46 : decode cX3_isChain 46 = .ok (.iload_n 2, 1) := by decide +kernel
theorem dX3_isChain_47 : decode cX3_isChain 47 = .ok (.invokevirtual 26, 3) := by decide +kernel
theorem dX3_isChain_50 : decode cX3_isChain 50 = .ok (.iconst 0, 1) := by decide +kernel
theorem dX3_isChain_51 : decode cX3_isChain 51 = .ok (.invokevirtual 42, 3) := by decide +kernel
theorem dX3_isChain_54 : decode cX3_isChain 54 = .ok (.if_icmp .ne 7, 3) := by decide +kernel
theorem dX3_isChain_57 : decode cX3_isChain 57 = .ok (.iconst 1, 1) := by decide +kernel
theorem dX3_isChain_58 : decode cX3_isChain 58 = .ok (.goto 4, 3) := by decide +kernel
theorem dX3_isChain_61 : decode cX3_isChain 61 = .ok (.iconst 0, 1) := by decide +kernel
theorem dX3_isChain_62 : decode cX3_isChain 62 = .ok (.istore_n 1, 1) := by decide +kernel
theorem dX3_isChain_63 : decode cX3_isChain 63 = .ok (.iinc 2 1, 3) := by decide +kernel
theorem dX3_isChain_66 : decode cX3_isChain 66 = .ok (.goto (-50), 3) := by decide +kernel
theorem dX3_isChain_69 : decode cX3_isChain 69 = .ok (.iload_n 1, 1) := by decide +kernel
theorem dX3_isChain_70 : decode cX3_isChain 70 = .ok (.ireturn, 1) := by decide +kernel
theorem dX3_hasPatternWithoutMatch_0 : decode cX3_hasPatternWithoutMatch 0 = .ok (.iconst 0, 1) := by decide +kernel
theorem dX3_hasPatternWithoutMatch_1 : decode cX3_hasPatternWithoutMatch 1 = .ok (.istore_n 1, 1) := by decide +kernel
theorem dX3_hasPatternWithoutMatch_2 : decode cX3_hasPatternWithoutMatch 2 = .ok (.iload_n 1, 1) := by decide +kernel
theorem dX3_hasPatternWithoutMatch_3 : decode cX3_hasPatternWithoutMatch 3 = .ok (.aload_n 0, 1) := by decide +kernel
theorem dX3_hasPatternWithoutMatch_4 : decode cX3_hasPatternWithoutMatch 4 = .ok (.getfield 22, 3) := by decide +kernel
theorem dX3_hasPatternWithoutMatch_7 : decode cX3_hasPatternWithoutMatch 7 = .ok (.if_icmp .ge 22, 3) := by decide +kernel
theorem dX3_hasPatternWithoutMatch_10 : decode cX3_hasPatternWithoutMatch 10 = .ok (.aload_n 0, 1) := by decide +kernel
theorem dX3_hasPatternWithoutMatch_11 : decode cX3_hasPatternWithoutMatch 11 = .ok (.iload_n 1, 1) := by decide +kernel
theorem dX3_hasPatternWithoutMatch_12 : decode cX3_hasPatternWithoutMatch 12 = .ok (.invokevirtual 26, 3) := by decide +kernel
theorem dX3_hasPatternWithoutMatch_15 : decode cX3_hasPatternWithoutMatch 15 = .ok (.invokevirtual 46, 3) := by decide +kernel
theorem dX3_hasPatternWithoutMatch_18 : decode cX3_hasPatternWithoutMatch 18 = .ok (.ifCond .ne 5, 3) := by decide +kernel
theorem dX3_hasPatternWithoutMatch_21 : decode cX3_hasPatternWithoutMatch 21 = .ok (.iconst 1, 1) := by decide +kernel
theorem dX3_hasPatternWithoutMatch_22 : decode cX3_hasPatternWithoutMatch 22 = .ok (.ireturn, 1) := by decide +kernel
theorem dX3_hasPatternWithoutMatch_23 : decode cX3_hasPatternWithoutMatch 23 = .ok (.iinc 1 1, 3) := by decide +kernel
theorem dX3_hasPatternWithoutMatch_26 : decode cX3_hasPatternWithoutMatch 26 = .ok (.goto (-24), 3) := by decide +kernel
theorem dX3_hasPatternWithoutMatch_29 : decode cX3_hasPatternWithoutMatch 29 = .ok (.iconst 0, 1) := by decide +kernel
theorem dX3_hasPatternWithoutMatch_30 : decode cX3_hasPatternWithoutMatch 30 = .ok (.ireturn, 1) := by decide +kernel
theorem dX3_inJoinOrder_0 : decode cX3_inJoinOrder 0 = .ok (.iconst 0, 1) := by decide +kernel
theorem dX3_inJoinOrder_1 : decode cX3_inJoinOrder 1 = .ok (.istore_n 2, 1) := by decide +kernel
theorem dX3_inJoinOrder_2 : decode cX3_inJoinOrder 2 = .ok (.iconst 0, 1) := by decide +kernel
theorem dX3_inJoinOrder_3 : decode cX3_inJoinOrder 3 = .ok (.istore_n 3, 1) := by decide +kernel
theorem dX3_inJoinOrder_4 : decode cX3_inJoinOrder 4 = .ok (.iconst 0, 1) := by decide +kernel
theorem dX3_inJoinOrder_5 : decode cX3_inJoinOrder 5 = .ok (.istore 4, 2) := by decide +kernel
theorem dX3_inJoinOrder_7 : decode cX3_inJoinOrder 7 = .ok (.iconst 0, 1) := by decide +kernel
theorem dX3_inJoinOrder_8 : decode cX3_inJoinOrder 8 = .ok (.istore 5, 2) := by decide +kernel
theorem dX3_inJoinOrder_10 : decode cX3_inJoinOrder 10 = .ok (.iload 5, 2) := by decide +kernel
theorem dX3_inJoinOrder_12 : decode cX3_inJoinOrder 12 = .ok (.iload_n 1, 1) := by decide +kernel
theorem dX3_inJoinOrder_13 : decode cX3_inJoinOrder 13 = .ok (.if_icmp .gt 45, 3) := by decide +kernel
theorem dX3_inJoinOrder_16 : decode cX3_inJoinOrder 16 = .ok (.iload 5, 2) := by decide +kernel
theorem dX3_inJoinOrder_18 : decode cX3_inJoinOrder 18 = .ok (.aload_n 0, 1) := by decide +kernel
theorem dX3_inJoinOrder_19 : decode cX3_inJoinOrder 19 = .ok (.getfield 22, 3) := by decide +kernel
theorem dX3_inJoinOrder_22 : decode cX3_inJoinOrder 22 = .ok (.if_icmp .ge 36, 3) := by decide +kernel
theorem dX3_inJoinOrder_25 : decode cX3_inJoinOrder 25 = .ok (.aload_n 0, 1) := by decide +kernel
theorem dX3_inJoinOrder_26 : decode cX3_inJoinOrder 26 = .ok (.iload_n 2, 1) := by decide +kernel
theorem dX3_inJoinOrder_27 : decode cX3_inJoinOrder 27 = .ok (.iload_n 3, 1) := by decide +kernel
theorem dX3_inJoinOrder_28 : decode cX3_inJoinOrder 28 = .ok (.invokevirtual 49, 3) := by decide +kernel
theorem dX3_inJoinOrder_31 : decode cX3_inJoinOrder 31 = .ok (.istore 4, 2) := by decide +kernel
theorem dX3_inJoinOrder_33 : decode cX3_inJoinOrder 33 = .ok (.iload_n 2, 1) := by decide +kernel
theorem dX3_inJoinOrder_34 : decode cX3_inJoinOrder 34 = .ok (.iconst 1, 1) := by decide +kernel
theorem dX3_inJoinOrder_35 : decode cX3_inJoinOrder 35 = .ok (.iload 4, 2) := by decide +kernel
theorem dX3_inJoinOrder_37 : decode cX3_inJoinOrder 37 = .ok (.ishl, 1) := by decide +kernel
theorem dX3_inJoinOrder_38 : decode cX3_inJoinOrder 38 = .ok (.ior, 1) := by decide +kernel
theorem dX3_inJoinOrder_39 : decode cX3_inJoinOrder 39 = .ok (.istore_n 2, 1) := by decide +kernel
theorem dX3_inJoinOrder_40 : decode cX3_inJoinOrder 40 = .ok (.iload_n 3, 1) := by decide +kernel
theorem dX3_inJoinOrder_41 : decode cX3_inJoinOrder 41 = .ok (.aload_n 0, 1) := by decide +kernel
theorem dX3_inJoinOrder_42 : decode cX3_inJoinOrder 42 = .ok (.iload 4, 2) := by decide +kernel
theorem dX3_inJoinOrder_44 : decode cX3_inJoinOrder 44 = .ok (.invokevirtual 26, 3) := by decide +kernel
theorem dX3_inJoinOrder_47 : decode cX3_inJoinOrder 47 = .ok (.invokevirtual 38, 3) := by decide +kernel
theorem dX3_inJoinOrder_50 : decode cX3_inJoinOrder 50 = .ok (.ior, 1) := by decide +kernel
theorem dX3_inJoinOrder_51 : decode cX3_inJoinOrder 51 = .ok (.istore_n 3, 1) := by decide +kernel
theorem dX3_inJoinOrder_52 : decode cX3_inJoinOrder 52 = .ok (.iinc 5 1, 3) := by decide +kernel
theorem dX3_inJoinOrder_55 : decode cX3_inJoinOrder 55 = .ok (.goto (-45), 3) := by decide +kernel
theorem dX3_inJoinOrder_58 : decode cX3_inJoinOrder 58 = .ok (.iload 4, 2) := by decide +kernel
theorem dX3_inJoinOrder_60 : decode cX3_inJoinOrder 60 = .ok (.ireturn, 1) := by decide +kernel
theorem dX3_bestLeft_0 : decode cX3_bestLeft 0 = .ok (.iconst (-1), 1) := by decide +kernel
theorem dX3_bestLeft_1 : decode cX3_bestLeft 1 = .ok (.istore_n 3, 1) := by decide +kernel
theorem dX3_bestLeft_2 : decode cX3_bestLeft 2 = .ok (.iconst 0, 1) := by decide +kernel
theorem dX3_bestLeft_3 : decode cX3_bestLeft 3 = .ok (.istore 4, 2) := by decide +kernel
theorem dX3_bestLeft_5 : decode cX3_bestLeft 5 = .ok (.iload 4, 2) := by decide +kernel
theorem dX3_bestLeft_7 : decode cX3_bestLeft 7 = .ok (.aload_n 0, 1) := by decide +kernel
theorem dX3_bestLeft_8 : decode cX3_bestLeft 8 = .ok (.getfield 22, 3) := by decide +kernel
theorem dX3_bestLeft_11 : decode cX3_bestLeft 11 = .ok (.if_icmp .ge 36, 3) := by decide +kernel
theorem dX3_bestLeft_14 : decode cX3_bestLeft 14 = .ok (.iload_n 1, 1) := by decide +kernel
theorem dX3_bestLeft_15 : decode cX3_bestLeft 15 = .ok (.iload 4, 2) := by decide +kernel
theorem dX3_bestLeft_17 : decode cX3_bestLeft 17 = .ok (.invokestatic 53, 3) := by decide +kernel
theorem dX3_bestLeft_20 : decode cX3_bestLeft 20 = .ok (.ifCond .ne 21, 3) := by decide +kernel
theorem dX3_bestLeft_23 : decode cX3_bestLeft 23 = .ok (.iload_n 3, 1) := by decide +kernel
theorem dX3_bestLeft_24 : decode cX3_bestLeft 24 = .ok (.ifCond .lt 14, 3) := by decide +kernel
theorem dX3_bestLeft_27 : decode cX3_bestLeft 27 = .ok (.aload_n 0, 1) := by decide +kernel
theorem dX3_bestLeft_28 : decode cX3_bestLeft 28 = .ok (.iload 4, 2) := by decide +kernel
theorem dX3_bestLeft_30 : decode cX3_bestLeft 30 = .ok (.iload_n 3, 1) := by decide +kernel
theorem dX3_bestLeft_31 : decode cX3_bestLeft 31 = .ok (.iload_n 2, 1) := by decide +kernel
theorem dX3_bestLeft_32 : decode cX3_bestLeft 32 = .ok (.invokevirtual 59, 3) := by decide +kernel
theorem dX3_bestLeft_35 : decode cX3_bestLeft 35 = .ok (.ifCond .eq 6, 3) := by decide +kernel
theorem dX3_bestLeft_38 : decode cX3_bestLeft 38 = .ok (.iload 4, 2) := by decide +kernel
theorem dX3_bestLeft_40 : decode cX3_bestLeft 40 = .ok (.istore_n 3, 1) := by decide +kernel
theorem dX3_bestLeft_41 : decode cX3_bestLeft 41 = .ok (.iinc 4 1, 3) := by decide +kernel
theorem dX3_bestLeft_44 : decode cX3_bestLeft 44 = .ok (.goto (-39), 3) := by decide +kernel
theorem dX3_bestLeft_47 : decode cX3_bestLeft 47 = .ok (.iload_n 3, 1) := by decide +kernel
theorem dX3_bestLeft_48 : decode cX3_bestLeft 48 = .ok (.iconst 0, 1) := by decide +kernel
theorem dX3_bestLeft_49 : decode cX3_bestLeft 49 = .ok (.invokestatic 63, 3) := by decide +kernel
theorem dX3_bestLeft_52 : decode cX3_bestLeft 52 = .ok (.ireturn, 1) := by decide +kernel
theorem dX3_goesAhead_0 : decode cX3_goesAhead 0 = .ok (.aload_n 0, 1) := by decide +kernel
theorem dX3_goesAhead_1 : decode cX3_goesAhead 1 = .ok (.iload_n 1, 1) := by decide +kernel
theorem dX3_goesAhead_2 : decode cX3_goesAhead 2 = .ok (.invokevirtual 26, 3) := by decide +kernel
theorem dX3_goesAhead_5 : decode cX3_goesAhead 5 = .ok (.invokevirtual 38, 3) := by decide +kernel
theorem dX3_goesAhead_8 : decode cX3_goesAhead 8 = .ok (.iload_n 3, 1) := by decide +kernel
theorem dX3_goesAhead_9 : decode cX3_goesAhead 9 = .ok (.iand, 1) := by decide +kernel
theorem dX3_goesAhead_10 : decode cX3_goesAhead 10 = .ok (.ifCond .eq 7, 3) := by decide +kernel
theorem dX3_goesAhead_13 : decode cX3_goesAhead 13 = .ok (.iconst 1, 1) := by decide +kernel
theorem dX3_goesAhead_14 : decode cX3_goesAhead 14 = .ok (.goto 4, 3) := by decide +kernel
theorem dX3_goesAhead_17 : decode cX3_goesAhead 17 = .ok (.iconst 0, 1) := by decide +kernel
theorem dX3_goesAhead_18 : decode cX3_goesAhead 18 = .ok (.istore 4, 2) := by decide +kernel
theorem dX3_goesAhead_20 : decode cX3_goesAhead 20 = .ok (.aload_n 0, 1) := by decide +kernel
theorem dX3_goesAhead_21 : decode cX3_goesAhead 21 = .ok (.iload_n 2, 1) := by decide +kernel
theorem dX3_goesAhead_22 : decode cX3_goesAhead 22 = .ok (.invokevirtual 26, 3) := by decide +kernel
theorem dX3_goesAhead_25 : decode cX3_goesAhead 25 = .ok (.invokevirtual 38, 3) := by decide +kernel
theorem dX3_goesAhead_28 : decode cX3_goesAhead 28 = .ok (.iload_n 3, 1) := by decide +kernel
theorem dX3_goesAhead_29 : decode cX3_goesAhead 29 = .ok (.iand, 1) := by decide +kernel
theorem dX3_goesAhead_30 : decode cX3_goesAhead 30 = .ok (.ifCond .eq 7, 3) := by decide +kernel
theorem dX3_goesAhead_33 : decode cX3_goesAhead 33 = .ok (.iconst 1, 1) := by decide +kernel
theorem dX3_goesAhead_34 : decode cX3_goesAhead 34 = .ok (.goto 4, 3) := by decide +kernel
theorem dX3_goesAhead_37 : decode cX3_goesAhead 37 = .ok (.iconst 0, 1) := by decide +kernel
theorem dX3_goesAhead_38 : decode cX3_goesAhead 38 = .ok (.istore 5, 2) := by decide +kernel
theorem dX3_goesAhead_40 : decode cX3_goesAhead 40 = .ok (.iload 4, 2) := by decide +kernel
theorem dX3_goesAhead_42 : decode cX3_goesAhead 42 = .ok (.iload 5, 2) := by decide +kernel
theorem dX3_goesAhead_44 : decode cX3_goesAhead 44 = .ok (.if_icmp .ne 30, 3) := by decide +kernel
theorem dX3_goesAhead_47 : decode cX3_goesAhead 47 = .ok (.aload_n 0, 1) := by decide +kernel
theorem dX3_goesAhead_48 : decode cX3_goesAhead 48 = .ok (.iload_n 1, 1) := by decide +kernel
theorem dX3_goesAhead_49 : decode cX3_goesAhead 49 = .ok (.invokevirtual 26, 3) := by decide +kernel
theorem dX3_goesAhead_52 : decode cX3_goesAhead 52 = .ok (.invokevirtual 46, 3) := by decide +kernel
theorem dX3_goesAhead_55 : decode cX3_goesAhead 55 = .ok (.aload_n 0, 1) := by decide +kernel
theorem dX3_goesAhead_56 : decode cX3_goesAhead 56 = .ok (.iload_n 2, 1) := by decide +kernel
theorem dX3_goesAhead_57 : decode cX3_goesAhead 57 = .ok (.invokevirtual 26, 3) := by decide +kernel
theorem dX3_goesAhead_60 : decode cX3_goesAhead 60 = .ok (.invokevirtual 46, 3) := by decide +kernel
theorem dX3_goesAhead_63 : decode cX3_goesAhead 63 = .ok (.if_icmp .ge 7, 3) := by decide +kernel
theorem dX3_goesAhead_66 : decode cX3_goesAhead 66 = .ok (.iconst 1, 1) := by decide +kernel
theorem dX3_goesAhead_67 : decode cX3_goesAhead 67 = .ok (.goto 9, 3) := by decide +kernel
theorem dX3_goesAhead_70 : decode cX3_goesAhead 70 = .ok (.iconst 0, 1) := by decide +kernel
theorem dX3_goesAhead_71 : decode cX3_goesAhead 71 = .ok (.goto 5, 3) := by decide +kernel
theorem dX3_goesAhead_74 : decode cX3_goesAhead 74 = .ok (.iload 4, 2) := by decide +kernel
theorem dX3_goesAhead_76 : decode cX3_goesAhead 76 = .ok (.ireturn, 1) := by decide +kernel
theorem dX4_init_0 : decode cX4_init 0 = .ok (.aload_n 0, 1) := by decide +kernel
theorem dX4_init_1 : decode cX4_init 1 = .ok (.invokespecial 3, 3) := by decide +kernel
theorem dX4_init_4 : decode cX4_init 4 = .ok (.aload_n 0, 1) := by decide +kernel
theorem dX4_init_5 : decode cX4_init 5 = .ok (.bipush 60, 2) := by decide +kernel
theorem dX4_init_7 : decode cX4_init 7 = .ok (.newarray .int, 2) := by decide +kernel
theorem dX4_init_9 : decode cX4_init 9 = .ok (.putfield 9, 3) := by decide +kernel
theorem dX4_init_12 : decode cX4_init 12 = .ok (.aload_n 0, 1) := by decide +kernel
theorem dX4_init_13 : decode cX4_init 13 = .ok (.iconst 0, 1) := by decide +kernel
theorem dX4_init_14 : decode cX4_init 14 = .ok (.putfield 15, 3) := by decide +kernel
theorem dX4_init_17 : decode cX4_init 17 = .ok (.return_, 1) := by decide +kernel
theorem dX4_size_0 : decode cX4_size 0 = .ok (.aload_n 0, 1) := by decide +kernel
theorem dX4_size_1 : decode cX4_size 1 = .ok (.getfield 15, 3) := by decide +kernel
theorem dX4_size_4 : decode cX4_size 4 = .ok (.ireturn, 1) := by decide +kernel
theorem dX4_key_0 : decode cX4_key 0 = .ok (.aload_n 0, 1) := by decide +kernel
theorem dX4_key_1 : decode cX4_key 1 = .ok (.getfield 9, 3) := by decide +kernel
theorem dX4_key_4 : decode cX4_key 4 = .ok (.iload_n 1, 1) := by decide +kernel
theorem dX4_key_5 : decode cX4_key 5 = .ok (.invokestatic 19, 3) := by decide +kernel
theorem dX4_key_8 : decode cX4_key 8 = .ok (.ireturn, 1) := by decide +kernel
theorem dX4_placeOf_0 : decode cX4_placeOf 0 = .ok (.iconst 0, 1) := by decide +kernel
theorem dX4_placeOf_1 : decode cX4_placeOf 1 = .ok (.istore_n 2, 1) := by decide +kernel
theorem dX4_placeOf_2 : decode cX4_placeOf 2 = .ok (.bipush 32, 2) := by decide +kernel
theorem dX4_placeOf_4 : decode cX4_placeOf 4 = .ok (.istore_n 3, 1) := by decide +kernel
theorem dX4_placeOf_5 : decode cX4_placeOf 5 = .ok (.iload_n 3, 1) := by decide +kernel
theorem dX4_placeOf_6 : decode cX4_placeOf 6 = .ok (.ifCond .le 42, 3) := by decide +kernel
theorem dX4_placeOf_9 : decode cX4_placeOf 9 = .ok (.iload_n 2, 1) := by decide +kernel
theorem dX4_placeOf_10 : decode cX4_placeOf 10 = .ok (.iload_n 3, 1) := by decide +kernel
theorem dX4_placeOf_11 : decode cX4_placeOf 11 = .ok (.iadd, 1) := by decide +kernel
theorem dX4_placeOf_12 : decode cX4_placeOf 12 = .ok (.istore 4, 2) := by decide +kernel
theorem dX4_placeOf_14 : decode cX4_placeOf 14 = .ok (.iload 4, 2) := by decide +kernel
theorem dX4_placeOf_16 : decode cX4_placeOf 16 = .ok (.aload_n 0, 1) := by decide +kernel
theorem dX4_placeOf_17 : decode cX4_placeOf 17 = .ok (.getfield 15, 3) := by decide +kernel
theorem dX4_placeOf_20 : decode cX4_placeOf 20 = .ok (.if_icmp .gt 21, 3) := by decide +kernel
theorem dX4_placeOf_23 : decode cX4_placeOf 23 = .ok (.aload_n 0, 1) := by decide +kernel
theorem dX4_placeOf_24 : decode cX4_placeOf 24 = .ok (.getfield 9, 3) := by decide +kernel
theorem dX4_placeOf_27 : decode cX4_placeOf 27 = .ok (.iload 4, 2) := by decide +kernel
theorem dX4_placeOf_29 : decode cX4_placeOf 29 = .ok (.iconst 1, 1) := by decide +kernel
theorem dX4_placeOf_30 : decode cX4_placeOf 30 = .ok (.isub, 1) := by decide +kernel
theorem dX4_placeOf_31 : decode cX4_placeOf 31 = .ok (.invokestatic 19, 3) := by decide +kernel
theorem dX4_placeOf_34 : decode cX4_placeOf 34 = .ok (.iload_n 1, 1) := by decide +kernel
theorem dX4_placeOf_35 : decode cX4_placeOf 35 = .ok (.if_icmp .ge 6, 3) := by decide +kernel
theorem dX4_placeOf_38 : decode cX4_placeOf 38 = .ok (.iload 4, 2) := by decide +kernel
theorem dX4_placeOf_40 : decode cX4_placeOf 40 = .ok (.istore_n 2, 1) := by decide +kernel
theorem dX4_placeOf_41 : decode cX4_placeOf 41 = .ok (.iload_n 3, 1) := by decide +kernel
theorem dX4_placeOf_42 : decode cX4_placeOf 42 = .ok (.iconst 1, 1) := by decide +kernel
theorem dX4_placeOf_43 : decode cX4_placeOf 43 = .ok (.ishr, 1) := by decide +kernel
theorem dX4_placeOf_44 : decode cX4_placeOf 44 = .ok (.istore_n 3, 1) := by decide +kernel
theorem dX4_placeOf_45 : decode cX4_placeOf 45 = .ok (.goto (-40), 3) := by decide +kernel
theorem dX4_placeOf_48 : decode cX4_placeOf 48 = .ok (.iload_n 2, 1) := by decide +kernel
theorem dX4_placeOf_49 : decode cX4_placeOf 49 = .ok (.ireturn, 1) := by decide +kernel
theorem dX4_holds_0 : decode cX4_holds 0 = .ok (.aload_n 0, 1) := by decide +kernel
theorem dX4_holds_1 : decode cX4_holds 1 = .ok (.iload_n 1, 1) := by decide +kernel
theorem dX4_holds_2 : decode cX4_holds 2 = .ok (.invokevirtual 23, 3) := by decide +kernel
theorem dX4_holds_5 : decode cX4_holds 5 = .ok (.istore_n 2, 1) := by decide +kernel
theorem dX4_holds_6 : decode cX4_holds 6 = .ok (.iload_n 2, 1) := by decide +kernel
theorem dX4_holds_7 : decode cX4_holds 7 = .ok (.aload_n 0, 1) := by decide +kernel
theorem dX4_holds_8 : decode cX4_holds 8 = .ok (.getfield 15, 3) := by decide +kernel
theorem dX4_holds_11 : decode cX4_holds 11 = .ok (.if_icmp .ge 19, 3) := by decide +kernel
theorem dX4_holds_14 : decode cX4_holds 14 = .ok (.aload_n 0, 1) := by decide +kernel
theorem dX4_holds_15 : decode cX4_holds 15 = .ok (.getfield 9, 3) := by decide +kernel
theorem dX4_holds_18 : decode cX4_holds 18 = .ok (.iload_n 2, 1) := by decide +kernel
theorem dX4_holds_19 : decode cX4_holds 19 = .ok (.invokestatic 19, 3) := by decide +kernel
theorem dX4_holds_22 : decode cX4_holds 22 = .ok (.iload_n 1, 1) := by decide +kernel
theorem dX4_holds_23 : decode cX4_holds 23 = .ok (.if_icmp .ne 7, 3) := by decide +kernel
theorem dX4_holds_26 : decode cX4_holds 26 = .ok (.iconst 1, 1) := by decide +kernel
theorem dX4_holds_27 : decode cX4_holds 27 = .ok (.goto 4, 3) := by decide +kernel
theorem dX4_holds_30 : decode cX4_holds 30 = .ok (.iconst 0, 1) := by decide +kernel
theorem dX4_holds_31 : decode cX4_holds 31 = .ok (.ireturn, 1) := by decide +kernel
theorem dX4_insert_0 : decode cX4_insert 0 = .ok (.aload_n 0, 1) := by decide +kernel
theorem dX4_insert_1 : decode cX4_insert 1 = .ok (.getfield 15, 3) := by decide +kernel
theorem dX4_insert_4 : decode cX4_insert 4 = .ok (.bipush 60, 2) := by decide +kernel
theorem dX4_insert_6 : decode cX4_insert 6 = .ok (.if_icmp .lt 4, 3) := by decide +kernel
theorem dX4_insert_9 : decode cX4_insert 9 = .ok (.return_, 1) := by decide +kernel
theorem dX4_insert_10 : decode cX4_insert 10 = .ok (.aload_n 0, 1) := by decide +kernel
theorem dX4_insert_11 : decode cX4_insert 11 = .ok (.iload_n 1, 1) := by decide +kernel
theorem dX4_insert_12 : decode cX4_insert 12 = .ok (.invokevirtual 23, 3) := by decide +kernel
theorem dX4_insert_15 : decode cX4_insert 15 = .ok (.istore_n 2, 1) := by decide +kernel
theorem dX4_insert_16 : decode cX4_insert 16 = .ok (.aload_n 0, 1) := by decide +kernel
theorem dX4_insert_17 : decode cX4_insert 17 = .ok (.getfield 15, 3) := by decide +kernel
theorem dX4_insert_20 : decode cX4_insert 20 = .ok (.istore_n 3, 1) := by decide +kernel
theorem dX4_insert_21 : decode cX4_insert 21 = .ok (.iload_n 3, 1) := by decide +kernel
theorem dX4_insert_22 : decode cX4_insert 22 = .ok (.iload_n 2, 1) := by decide +kernel
theorem dX4_insert_23 : decode cX4_insert 23 = .ok (.if_icmp .le 27, 3) := by decide +kernel
theorem dX4_insert_26 : decode cX4_insert 26 = .ok (.aload_n 0, 1) := by decide +kernel
theorem dX4_insert_27 : decode cX4_insert 27 = .ok (.getfield 9, 3) := by decide +kernel
theorem dX4_insert_30 : decode cX4_insert 30 = .ok (.iload_n 3, 1) := by decide +kernel
theorem dX4_insert_31 : decode cX4_insert 31 = .ok (.aload_n 0, 1) := by decide +kernel
theorem dX4_insert_32 : decode cX4_insert 32 = .ok (.getfield 9, 3) := by decide +kernel
theorem dX4_insert_35 : decode cX4_insert 35 = .ok (.iload_n 3, 1) := by decide +kernel
theorem dX4_insert_36 : decode cX4_insert 36 = .ok (.iconst 1, 1) := by decide +kernel
theorem dX4_insert_37 : decode cX4_insert 37 = .ok (.isub, 1) := by decide +kernel
theorem dX4_insert_38 : decode cX4_insert 38 = .ok (.invokestatic 19, 3) := by decide +kernel
theorem dX4_insert_41 : decode cX4_insert 41 = .ok (.invokestatic 27, 3) := by decide +kernel
theorem dX4_insert_44 : decode cX4_insert 44 = .ok (.iinc 3 (-1), 3) := by decide +kernel
theorem dX4_insert_47 : decode cX4_insert 47 = .ok (.goto (-26), 3) := by decide +kernel
theorem dX4_insert_50 : decode cX4_insert 50 = .ok (.aload_n 0, 1) := by decide +kernel
theorem dX4_insert_51 : decode cX4_insert 51 = .ok (.getfield 9, 3) := by decide +kernel
theorem dX4_insert_54 : decode cX4_insert 54 = .ok (.iload_n 2, 1) := by decide +kernel
theorem dX4_insert_55 : decode cX4_insert 55 = .ok (.iload_n 1, 1) := by decide +kernel
theorem dX4_insert_56 : decode cX4_insert 56 = .ok (.invokestatic 27, 3) := by decide +kernel
theorem dX4_insert_59 : decode cX4_insert 59 = .ok (.aload_n 0, 1) := by decide +kernel
theorem dX4_insert_60 : decode cX4_insert 60 = .ok (.dup, 1) := by decide +kernel
theorem dX4_insert_61 : decode cX4_insert 61 = .ok (.getfield 15, 3) := by decide +kernel
theorem dX4_insert_64 : decode cX4_insert 64 = .ok (.iconst 1, 1) := by decide +kernel
theorem dX4_insert_65 : decode cX4_insert 65 = .ok (.iadd, 1) := by decide +kernel
theorem dX4_insert_66 : decode cX4_insert 66 = .ok (.putfield 15, 3) := by decide +kernel
theorem dX4_insert_69 : decode cX4_insert 69 = .ok (.return_, 1) := by decide +kernel
theorem dX4_remove_0 : decode cX4_remove 0 = .ok (.aload_n 0, 1) := by decide +kernel
theorem dX4_remove_1 : decode cX4_remove 1 = .ok (.iload_n 1, 1) := by decide +kernel
theorem dX4_remove_2 : decode cX4_remove 2 = .ok (.invokevirtual 31, 3) := by decide +kernel
theorem dX4_remove_5 : decode cX4_remove 5 = .ok (.ifCond .ne 4, 3) := by decide +kernel
theorem dX4_remove_8 : decode cX4_remove 8 = .ok (.return_, 1) := by decide +kernel
theorem dX4_remove_9 : decode cX4_remove 9 = .ok (.aload_n 0, 1) := by decide +kernel
theorem dX4_remove_10 : decode cX4_remove 10 = .ok (.dup, 1) := by decide +kernel
theorem dX4_remove_11 : decode cX4_remove 11 = .ok (.getfield 15, 3) := by decide +kernel
theorem dX4_remove_14 : decode cX4_remove 14 = .ok (.iconst 1, 1) := by decide +kernel
theorem dX4_remove_15 : decode cX4_remove 15 = .ok (.isub, 1) := by decide +kernel
theorem dX4_remove_16 : decode cX4_remove 16 = .ok (.putfield 15, 3) := by decide +kernel
theorem dX4_remove_19 : decode cX4_remove 19 = .ok (.aload_n 0, 1) := by decide +kernel
theorem dX4_remove_20 : decode cX4_remove 20 = .ok (.iload_n 1, 1) := by decide +kernel
theorem dX4_remove_21 : decode cX4_remove 21 = .ok (.invokevirtual 23, 3) := by decide +kernel
theorem dX4_remove_24 : decode cX4_remove 24 = .ok (.istore_n 2, 1) := by decide +kernel
