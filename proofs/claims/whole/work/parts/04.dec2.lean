theorem dX8_areTerms_22 : decode cX8_areTerms 22 = .ok (.bipush 99, 2) := by decide +kernel
theorem dX8_areTerms_24 : decode cX8_areTerms 24 = .ok (.invokestatic 35, 3) := by decide +kernel
theorem dX8_areTerms_27 : decode cX8_areTerms 27 = .ok (.ifCond .eq 7, 3) := by decide +kernel
theorem dX8_areTerms_30 : decode cX8_areTerms 30 = .ok (.iconst 1, 1) := by decide +kernel
theorem dX8_areTerms_31 : decode cX8_areTerms 31 = .ok (.goto 4, 3) := by decide +kernel
theorem dX8_areTerms_34 : decode cX8_areTerms 34 = .ok (.iconst 0, 1) := by decide +kernel
theorem dX8_areTerms_35 : decode cX8_areTerms 35 = .ok (.ireturn, 1) := by decide +kernel
theorem dX8_find_0 : decode cX8_find 0 = .ok (.iconst (-1), 1) := by decide +kernel
theorem dX8_find_1 : decode cX8_find 1 = .ok (.istore 4, 2) := by decide +kernel
theorem dX8_find_3 : decode cX8_find 3 = .ok (.iconst 0, 1) := by decide +kernel
theorem dX8_find_4 : decode cX8_find 4 = .ok (.istore 5, 2) := by decide +kernel
theorem dX8_find_6 : decode cX8_find 6 = .ok (.iload 5, 2) := by decide +kernel
theorem dX8_find_8 : decode cX8_find 8 = .ok (.aload_n 0, 1) := by decide +kernel
theorem dX8_find_9 : decode cX8_find 9 = .ok (.getfield 39, 3) := by decide +kernel
theorem dX8_find_12 : decode cX8_find 12 = .ok (.if_icmp .ge 76, 3) := by decide +kernel
theorem dX8_find_15 : decode cX8_find 15 = .ok (.aload_n 0, 1) := by decide +kernel
theorem dX8_find_16 : decode cX8_find 16 = .ok (.getfield 13, 3) := by decide +kernel
theorem dX8_find_19 : decode cX8_find 19 = .ok (.aload_n 0, 1) := by decide +kernel
theorem dX8_find_20 : decode cX8_find 20 = .ok (.getfield 16, 3) := by decide +kernel
theorem dX8_find_23 : decode cX8_find 23 = .ok (.iconst 3, 1) := by decide +kernel
theorem dX8_find_24 : decode cX8_find 24 = .ok (.iload 5, 2) := by decide +kernel
theorem dX8_find_26 : decode cX8_find 26 = .ok (.imul, 1) := by decide +kernel
theorem dX8_find_27 : decode cX8_find 27 = .ok (.iaload, 1) := by decide +kernel
theorem dX8_find_28 : decode cX8_find 28 = .ok (.iaload, 1) := by decide +kernel
theorem dX8_find_29 : decode cX8_find 29 = .ok (.iload_n 1, 1) := by decide +kernel
theorem dX8_find_30 : decode cX8_find 30 = .ok (.if_icmp .ne 48, 3) := by decide +kernel
theorem dX8_find_33 : decode cX8_find 33 = .ok (.aload_n 0, 1) := by decide +kernel
theorem dX8_find_34 : decode cX8_find 34 = .ok (.getfield 13, 3) := by decide +kernel
theorem dX8_find_37 : decode cX8_find 37 = .ok (.aload_n 0, 1) := by decide +kernel
theorem dX8_find_38 : decode cX8_find 38 = .ok (.getfield 16, 3) := by decide +kernel
theorem dX8_find_41 : decode cX8_find 41 = .ok (.iconst 3, 1) := by decide +kernel
theorem dX8_find_42 : decode cX8_find 42 = .ok (.iload 5, 2) := by decide +kernel
theorem dX8_find_44 : decode cX8_find 44 = .ok (.imul, 1) := by decide +kernel
theorem dX8_find_45 : decode cX8_find 45 = .ok (.iconst 1, 1) := by decide +kernel
theorem dX8_find_46 : decode cX8_find 46 = .ok (.iadd, 1) := by decide +kernel
theorem dX8_find_47 : decode cX8_find 47 = .ok (.iaload, 1) := by decide +kernel
theorem dX8_find_48 : decode cX8_find 48 = .ok (.iaload, 1) := by decide +kernel
theorem dX8_find_49 : decode cX8_find 49 = .ok (.iload_n 2, 1) := by decide +kernel
theorem dX8_find_50 : decode cX8_find 50 = .ok (.if_icmp .ne 28, 3) := by decide +kernel
theorem dX8_find_53 : decode cX8_find 53 = .ok (.aload_n 0, 1) := by decide +kernel
theorem dX8_find_54 : decode cX8_find 54 = .ok (.getfield 13, 3) := by decide +kernel
theorem dX8_find_57 : decode cX8_find 57 = .ok (.aload_n 0, 1) := by decide +kernel
theorem dX8_find_58 : decode cX8_find 58 = .ok (.getfield 16, 3) := by decide +kernel
theorem dX8_find_61 : decode cX8_find 61 = .ok (.iconst 3, 1) := by decide +kernel
theorem dX8_find_62 : decode cX8_find 62 = .ok (.iload 5, 2) := by decide +kernel
theorem dX8_find_64 : decode cX8_find 64 = .ok (.imul, 1) := by decide +kernel
theorem dX8_find_65 : decode cX8_find 65 = .ok (.iconst 2, 1) := by decide +kernel
theorem dX8_find_66 : decode cX8_find 66 = .ok (.iadd, 1) := by decide +kernel
theorem dX8_find_67 : decode cX8_find 67 = .ok (.iaload, 1) := by decide +kernel
theorem dX8_find_68 : decode cX8_find 68 = .ok (.iaload, 1) := by decide +kernel
theorem dX8_find_69 : decode cX8_find 69 = .ok (.iload_n 3, 1) := by decide +kernel
theorem dX8_find_70 : decode cX8_find 70 = .ok (.if_icmp .ne 8, 3) := by decide +kernel
theorem dX8_find_73 : decode cX8_find 73 = .ok (.iload 5, 2) := by decide +kernel
theorem dX8_find_75 : decode cX8_find 75 = .ok (.goto 5, 3) := by decide +kernel
theorem dX8_find_78 : decode cX8_find 78 = .ok (.iload 4, 2) := by decide +kernel
theorem dX8_find_80 : decode cX8_find 80 = .ok (.istore 4, 2) := by decide +kernel
theorem dX8_find_82 : decode cX8_find 82 = .ok (.iinc 5 1, 3) := by decide +kernel
theorem dX8_find_85 : decode cX8_find 85 = .ok (.goto (-79), 3) := by decide +kernel
theorem dX8_find_88 : decode cX8_find 88 = .ok (.iload 4, 2) := by decide +kernel
theorem dX8_find_90 : decode cX8_find 90 = .ok (.ireturn, 1) := by decide +kernel
theorem dX8_numbered_0 : decode cX8_numbered 0 = .ok (.aload_n 0, 1) := by decide +kernel
theorem dX8_numbered_1 : decode cX8_numbered 1 = .ok (.getfield 7, 3) := by decide +kernel
theorem dX8_numbered_4 : decode cX8_numbered 4 = .ok (.iload_n 1, 1) := by decide +kernel
theorem dX8_numbered_5 : decode cX8_numbered 5 = .ok (.iaload, 1) := by decide +kernel
theorem dX8_numbered_6 : decode cX8_numbered 6 = .ok (.ifCond .ge 33, 3) := by decide +kernel
theorem dX8_numbered_9 : decode cX8_numbered 9 = .ok (.aload_n 0, 1) := by decide +kernel
theorem dX8_numbered_10 : decode cX8_numbered 10 = .ok (.getfield 7, 3) := by decide +kernel
theorem dX8_numbered_13 : decode cX8_numbered 13 = .ok (.iload_n 1, 1) := by decide +kernel
theorem dX8_numbered_14 : decode cX8_numbered 14 = .ok (.aload_n 0, 1) := by decide +kernel
theorem dX8_numbered_15 : decode cX8_numbered 15 = .ok (.getfield 42, 3) := by decide +kernel
theorem dX8_numbered_18 : decode cX8_numbered 18 = .ok (.iastore, 1) := by decide +kernel
theorem dX8_numbered_19 : decode cX8_numbered 19 = .ok (.aload_n 0, 1) := by decide +kernel
theorem dX8_numbered_20 : decode cX8_numbered 20 = .ok (.getfield 13, 3) := by decide +kernel
theorem dX8_numbered_23 : decode cX8_numbered 23 = .ok (.aload_n 0, 1) := by decide +kernel
theorem dX8_numbered_24 : decode cX8_numbered 24 = .ok (.getfield 42, 3) := by decide +kernel
theorem dX8_numbered_27 : decode cX8_numbered 27 = .ok (.iload_n 1, 1) := by decide +kernel
theorem dX8_numbered_28 : decode cX8_numbered 28 = .ok (.iastore, 1) := by decide +kernel
theorem dX8_numbered_29 : decode cX8_numbered 29 = .ok (.aload_n 0, 1) := by decide +kernel
theorem dX8_numbered_30 : decode cX8_numbered 30 = .ok (.dup, 1) := by decide +kernel
theorem dX8_numbered_31 : decode cX8_numbered 31 = .ok (.getfield 42, 3) := by decide +kernel
theorem dX8_numbered_34 : decode cX8_numbered 34 = .ok (.iconst 1, 1) := by decide +kernel
theorem dX8_numbered_35 : decode cX8_numbered 35 = .ok (.iadd, 1) := by decide +kernel
theorem dX8_numbered_36 : decode cX8_numbered 36 = .ok (.putfield 42, 3) := by decide +kernel
theorem dX8_numbered_39 : decode cX8_numbered 39 = .ok (.aload_n 0, 1) := by decide +kernel
theorem dX8_numbered_40 : decode cX8_numbered 40 = .ok (.getfield 7, 3) := by decide +kernel
theorem dX8_numbered_43 : decode cX8_numbered 43 = .ok (.iload_n 1, 1) := by decide +kernel
theorem dX8_numbered_44 : decode cX8_numbered 44 = .ok (.iaload, 1) := by decide +kernel
theorem dX8_numbered_45 : decode cX8_numbered 45 = .ok (.ireturn, 1) := by decide +kernel
theorem dX8_unknown_0 : decode cX8_unknown 0 = .ok (.aload_n 0, 1) := by decide +kernel
theorem dX8_unknown_1 : decode cX8_unknown 1 = .ok (.getfield 7, 3) := by decide +kernel
theorem dX8_unknown_4 : decode cX8_unknown 4 = .ok (.iload_n 1, 1) := by decide +kernel
theorem dX8_unknown_5 : decode cX8_unknown 5 = .ok (.iaload, 1) := by decide +kernel
theorem dX8_unknown_6 : decode cX8_unknown 6 = .ok (.ifCond .ge 7, 3) := by decide +kernel
theorem dX8_unknown_9 : decode cX8_unknown 9 = .ok (.iconst 1, 1) := by decide +kernel
theorem dX8_unknown_10 : decode cX8_unknown 10 = .ok (.goto 4, 3) := by decide +kernel
theorem dX8_unknown_13 : decode cX8_unknown 13 = .ok (.iconst 0, 1) := by decide +kernel
theorem dX8_unknown_14 : decode cX8_unknown 14 = .ok (.istore 4, 2) := by decide +kernel
theorem dX8_unknown_16 : decode cX8_unknown 16 = .ok (.iload 4, 2) := by decide +kernel
theorem dX8_unknown_18 : decode cX8_unknown 18 = .ok (.aload_n 0, 1) := by decide +kernel
theorem dX8_unknown_19 : decode cX8_unknown 19 = .ok (.getfield 7, 3) := by decide +kernel
theorem dX8_unknown_22 : decode cX8_unknown 22 = .ok (.iload_n 2, 1) := by decide +kernel
theorem dX8_unknown_23 : decode cX8_unknown 23 = .ok (.iaload, 1) := by decide +kernel
theorem dX8_unknown_24 : decode cX8_unknown 24 = .ok (.ifCond .ge 12, 3) := by decide +kernel
theorem dX8_unknown_27 : decode cX8_unknown 27 = .ok (.iload_n 2, 1) := by decide +kernel
theorem dX8_unknown_28 : decode cX8_unknown 28 = .ok (.iload_n 1, 1) := by decide +kernel
theorem dX8_unknown_29 : decode cX8_unknown 29 = .ok (.if_icmp .eq 7, 3) := by decide +kernel
theorem dX8_unknown_32 : decode cX8_unknown 32 = .ok (.iconst 1, 1) := by decide +kernel
theorem dX8_unknown_33 : decode cX8_unknown 33 = .ok (.goto 4, 3) := by decide +kernel
theorem dX8_unknown_36 : decode cX8_unknown 36 = .ok (.iconst 0, 1) := by decide +kernel
theorem dX8_unknown_37 : decode cX8_unknown 37 = .ok (.iadd, 1) := by decide +kernel
theorem dX8_unknown_38 : decode cX8_unknown 38 = .ok (.istore 4, 2) := by decide +kernel
theorem dX8_unknown_40 : decode cX8_unknown 40 = .ok (.iload 4, 2) := by decide +kernel
theorem dX8_unknown_42 : decode cX8_unknown 42 = .ok (.aload_n 0, 1) := by decide +kernel
theorem dX8_unknown_43 : decode cX8_unknown 43 = .ok (.getfield 7, 3) := by decide +kernel
theorem dX8_unknown_46 : decode cX8_unknown 46 = .ok (.iload_n 3, 1) := by decide +kernel
theorem dX8_unknown_47 : decode cX8_unknown 47 = .ok (.iaload, 1) := by decide +kernel
theorem dX8_unknown_48 : decode cX8_unknown 48 = .ok (.ifCond .ge 17, 3) := by decide +kernel
theorem dX8_unknown_51 : decode cX8_unknown 51 = .ok (.iload_n 3, 1) := by decide +kernel
theorem dX8_unknown_52 : decode cX8_unknown 52 = .ok (.iload_n 1, 1) := by decide +kernel
theorem dX8_unknown_53 : decode cX8_unknown 53 = .ok (.if_icmp .eq 12, 3) := by decide +kernel
theorem dX8_unknown_56 : decode cX8_unknown 56 = .ok (.iload_n 3, 1) := by decide +kernel
theorem dX8_unknown_57 : decode cX8_unknown 57 = .ok (.iload_n 2, 1) := by decide +kernel
theorem dX8_unknown_58 : decode cX8_unknown 58 = .ok (.if_icmp .eq 7, 3) := by decide +kernel
theorem dX8_unknown_61 : decode cX8_unknown 61 = .ok (.iconst 1, 1) := by decide +kernel
theorem dX8_unknown_62 : decode cX8_unknown 62 = .ok (.goto 4, 3) := by decide +kernel
theorem dX8_unknown_65 : decode cX8_unknown 65 = .ok (.iconst 0, 1) := by decide +kernel
theorem dX8_unknown_66 : decode cX8_unknown 66 = .ok (.iadd, 1) := by decide +kernel
theorem dX8_unknown_67 : decode cX8_unknown 67 = .ok (.istore 4, 2) := by decide +kernel
theorem dX8_unknown_69 : decode cX8_unknown 69 = .ok (.iload 4, 2) := by decide +kernel
theorem dX8_unknown_71 : decode cX8_unknown 71 = .ok (.ireturn, 1) := by decide +kernel
theorem dX8_state_0 : decode cX8_state 0 = .ok (.aload_n 0, 1) := by decide +kernel
theorem dX8_state_1 : decode cX8_state 1 = .ok (.iload_n 1, 1) := by decide +kernel
theorem dX8_state_2 : decode cX8_state 2 = .ok (.iload_n 2, 1) := by decide +kernel
theorem dX8_state_3 : decode cX8_state 3 = .ok (.iload_n 3, 1) := by decide +kernel
theorem dX8_state_4 : decode cX8_state 4 = .ok (.iconst 0, 1) := by decide +kernel
theorem dX8_state_5 : decode cX8_state 5 = .ok (.invokestatic 45, 3) := by decide +kernel
theorem dX8_state_8 : decode cX8_state 8 = .ok (.ifCond .eq 7, 3) := by decide +kernel
theorem dX8_state_11 : decode cX8_state 11 = .ok (.iconst 0, 1) := by decide +kernel
theorem dX8_state_12 : decode cX8_state 12 = .ok (.goto 4, 3) := by decide +kernel
theorem dX8_state_15 : decode cX8_state 15 = .ok (.iconst 1, 1) := by decide +kernel
theorem dX8_state_16 : decode cX8_state 16 = .ok (.putfield 31, 3) := by decide +kernel
theorem dX8_state_19 : decode cX8_state 19 = .ok (.aload_n 0, 1) := by decide +kernel
theorem dX8_state_20 : decode cX8_state 20 = .ok (.getfield 31, 3) := by decide +kernel
theorem dX8_state_23 : decode cX8_state 23 = .ok (.ifCond .gt 13, 3) := by decide +kernel
theorem dX8_state_26 : decode cX8_state 26 = .ok (.aload_n 0, 1) := by decide +kernel
theorem dX8_state_27 : decode cX8_state 27 = .ok (.iload_n 1, 1) := by decide +kernel
theorem dX8_state_28 : decode cX8_state 28 = .ok (.iload_n 2, 1) := by decide +kernel
theorem dX8_state_29 : decode cX8_state 29 = .ok (.iload_n 3, 1) := by decide +kernel
theorem dX8_state_30 : decode cX8_state 30 = .ok (.invokevirtual 49, 3) := by decide +kernel
theorem dX8_state_33 : decode cX8_state 33 = .ok (.ifCond .lt 5, 3) := by decide +kernel
theorem dX8_state_36 : decode cX8_state 36 = .ok (.iconst 0, 1) := by decide +kernel
theorem dX8_state_37 : decode cX8_state 37 = .ok (.ireturn, 1) := by decide +kernel
theorem dX8_state_38 : decode cX8_state 38 = .ok (.aload_n 0, 1) := by decide +kernel
theorem dX8_state_39 : decode cX8_state 39 = .ok (.aload_n 0, 1) := by decide +kernel
theorem dX8_state_40 : decode cX8_state 40 = .ok (.getfield 39, 3) := by decide +kernel
theorem dX8_state_43 : decode cX8_state 43 = .ok (.bipush 60, 2) := by decide +kernel
theorem dX8_state_45 : decode cX8_state 45 = .ok (.if_icmp .eq 20, 3) := by decide +kernel
theorem dX8_state_48 : decode cX8_state 48 = .ok (.aload_n 0, 1) := by decide +kernel
theorem dX8_state_49 : decode cX8_state 49 = .ok (.getfield 42, 3) := by decide +kernel
theorem dX8_state_52 : decode cX8_state 52 = .ok (.aload_n 0, 1) := by decide +kernel
theorem dX8_state_53 : decode cX8_state 53 = .ok (.iload_n 1, 1) := by decide +kernel
theorem dX8_state_54 : decode cX8_state 54 = .ok (.iload_n 2, 1) := by decide +kernel
theorem dX8_state_55 : decode cX8_state 55 = .ok (.iload_n 3, 1) := by decide +kernel
theorem dX8_state_56 : decode cX8_state 56 = .ok (.invokevirtual 53, 3) := by decide +kernel
theorem dX8_state_59 : decode cX8_state 59 = .ok (.iadd, 1) := by decide +kernel
theorem dX8_state_60 : decode cX8_state 60 = .ok (.bipush 40, 2) := by decide +kernel
theorem dX8_state_62 : decode cX8_state 62 = .ok (.if_icmp .le 7, 3) := by decide +kernel
theorem dX8_state_65 : decode cX8_state 65 = .ok (.iconst 2, 1) := by decide +kernel
theorem dX8_state_66 : decode cX8_state 66 = .ok (.goto 4, 3) := by decide +kernel
theorem dX8_state_69 : decode cX8_state 69 = .ok (.iconst 0, 1) := by decide +kernel
theorem dX8_state_70 : decode cX8_state 70 = .ok (.putfield 31, 3) := by decide +kernel
theorem dX8_state_73 : decode cX8_state 73 = .ok (.aload_n 0, 1) := by decide +kernel
theorem dX8_state_74 : decode cX8_state 74 = .ok (.getfield 31, 3) := by decide +kernel
theorem dX8_state_77 : decode cX8_state 77 = .ok (.ifCond .le 5, 3) := by decide +kernel
theorem dX8_state_80 : decode cX8_state 80 = .ok (.iconst 0, 1) := by decide +kernel
theorem dX8_state_81 : decode cX8_state 81 = .ok (.ireturn, 1) := by decide +kernel
theorem dX8_state_82 : decode cX8_state 82 = .ok (.aload_n 0, 1) := by decide +kernel
theorem dX8_state_83 : decode cX8_state 83 = .ok (.getfield 16, 3) := by decide +kernel
theorem dX8_state_86 : decode cX8_state 86 = .ok (.iconst 3, 1) := by decide +kernel
theorem dX8_state_87 : decode cX8_state 87 = .ok (.aload_n 0, 1) := by decide +kernel
theorem dX8_state_88 : decode cX8_state 88 = .ok (.getfield 39, 3) := by decide +kernel
theorem dX8_state_91 : decode cX8_state 91 = .ok (.imul, 1) := by decide +kernel
theorem dX8_state_92 : decode cX8_state 92 = .ok (.aload_n 0, 1) := by decide +kernel
theorem dX8_state_93 : decode cX8_state 93 = .ok (.iload_n 1, 1) := by decide +kernel
theorem dX8_state_94 : decode cX8_state 94 = .ok (.invokevirtual 56, 3) := by decide +kernel
theorem dX8_state_97 : decode cX8_state 97 = .ok (.iastore, 1) := by decide +kernel
theorem dX8_state_98 : decode cX8_state 98 = .ok (.aload_n 0, 1) := by decide +kernel
theorem dX8_state_99 : decode cX8_state 99 = .ok (.getfield 16, 3) := by decide +kernel
theorem dX8_state_102 : decode cX8_state 102 = .ok (.iconst 3, 1) := by decide +kernel
theorem dX8_state_103 : decode cX8_state 103 = .ok (.aload_n 0, 1) := by decide +kernel
theorem dX8_state_104 : decode cX8_state 104 = .ok (.getfield 39, 3) := by decide +kernel
theorem dX8_state_107 : decode cX8_state 107 = .ok (.imul, 1) := by decide +kernel
theorem dX8_state_108 : decode cX8_state 108 = .ok (.iconst 1, 1) := by decide +kernel
theorem dX8_state_109 : decode cX8_state 109 = .ok (.iadd, 1) := by decide +kernel
theorem dX8_state_110 : decode cX8_state 110 = .ok (.aload_n 0, 1) := by decide +kernel
theorem dX8_state_111 : decode cX8_state 111 = .ok (.iload_n 2, 1) := by decide +kernel
theorem dX8_state_112 : decode cX8_state 112 = .ok (.invokevirtual 56, 3) := by decide +kernel
theorem dX8_state_115 : decode cX8_state 115 = .ok (.iastore, 1) := by decide +kernel
theorem dX8_state_116 : decode cX8_state 116 = .ok (.aload_n 0, 1) := by decide +kernel
theorem dX8_state_117 : decode cX8_state 117 = .ok (.getfield 16, 3) := by decide +kernel
theorem dX8_state_120 : decode cX8_state 120 = .ok (.iconst 3, 1) := by decide +kernel
theorem dX8_state_121 : decode cX8_state 121 = .ok (.aload_n 0, 1) := by decide +kernel
theorem dX8_state_122 : decode cX8_state 122 = .ok (.getfield 39, 3) := by decide +kernel
theorem dX8_state_125 : decode cX8_state 125 = .ok (.imul, 1) := by decide +kernel
theorem dX8_state_126 : decode cX8_state 126 = .ok (.iconst 2, 1) := by decide +kernel
theorem dX8_state_127 : decode cX8_state 127 = .ok (.iadd, 1) := by decide +kernel
theorem dX8_state_128 : decode cX8_state 128 = .ok (.aload_n 0, 1) := by decide +kernel
theorem dX8_state_129 : decode cX8_state 129 = .ok (.iload_n 3, 1) := by decide +kernel
theorem dX8_state_130 : decode cX8_state 130 = .ok (.invokevirtual 56, 3) := by decide +kernel
theorem dX8_state_133 : decode cX8_state 133 = .ok (.iastore, 1) := by decide +kernel
theorem dX8_state_134 : decode cX8_state 134 = .ok (.aload_n 0, 1) := by decide +kernel
theorem dX8_state_135 : decode cX8_state 135 = .ok (.dup, 1) := by decide +kernel
theorem dX8_state_136 : decode cX8_state 136 = .ok (.getfield 39, 3) := by decide +kernel
theorem dX8_state_139 : decode cX8_state 139 = .ok (.iconst 1, 1) := by decide +kernel
theorem dX8_state_140 : decode cX8_state 140 = .ok (.iadd, 1) := by decide +kernel
theorem dX8_state_141 : decode cX8_state 141 = .ok (.putfield 39, 3) := by decide +kernel
theorem dX8_state_144 : decode cX8_state 144 = .ok (.iconst 1, 1) := by decide +kernel
theorem dX8_state_145 : decode cX8_state 145 = .ok (.ireturn, 1) := by decide +kernel
theorem dX8_takeBack_0 : decode cX8_takeBack 0 = .ok (.aload_n 0, 1) := by decide +kernel
theorem dX8_takeBack_1 : decode cX8_takeBack 1 = .ok (.iload_n 1, 1) := by decide +kernel
theorem dX8_takeBack_2 : decode cX8_takeBack 2 = .ok (.iload_n 2, 1) := by decide +kernel
theorem dX8_takeBack_3 : decode cX8_takeBack 3 = .ok (.iload_n 3, 1) := by decide +kernel
theorem dX8_takeBack_4 : decode cX8_takeBack 4 = .ok (.iconst 0, 1) := by decide +kernel
theorem dX8_takeBack_5 : decode cX8_takeBack 5 = .ok (.invokestatic 45, 3) := by decide +kernel
theorem dX8_takeBack_8 : decode cX8_takeBack 8 = .ok (.ifCond .eq 7, 3) := by decide +kernel
theorem dX8_takeBack_11 : decode cX8_takeBack 11 = .ok (.iconst 0, 1) := by decide +kernel
theorem dX8_takeBack_12 : decode cX8_takeBack 12 = .ok (.goto 4, 3) := by decide +kernel
theorem dX8_takeBack_15 : decode cX8_takeBack 15 = .ok (.iconst 1, 1) := by decide +kernel
theorem dX8_takeBack_16 : decode cX8_takeBack 16 = .ok (.putfield 31, 3) := by decide +kernel
theorem dX8_takeBack_19 : decode cX8_takeBack 19 = .ok (.aload_n 0, 1) := by decide +kernel
theorem dX8_takeBack_20 : decode cX8_takeBack 20 = .ok (.getfield 31, 3) := by decide +kernel
theorem dX8_takeBack_23 : decode cX8_takeBack 23 = .ok (.ifCond .le 7, 3) := by decide +kernel
theorem dX8_takeBack_26 : decode cX8_takeBack 26 = .ok (.iconst (-1), 1) := by decide +kernel
theorem dX8_takeBack_27 : decode cX8_takeBack 27 = .ok (.goto 10, 3) := by decide +kernel
theorem dX8_takeBack_30 : decode cX8_takeBack 30 = .ok (.aload_n 0, 1) := by decide +kernel
theorem dX8_takeBack_31 : decode cX8_takeBack 31 = .ok (.iload_n 1, 1) := by decide +kernel
theorem dX8_takeBack_32 : decode cX8_takeBack 32 = .ok (.iload_n 2, 1) := by decide +kernel
theorem dX8_takeBack_33 : decode cX8_takeBack 33 = .ok (.iload_n 3, 1) := by decide +kernel
theorem dX8_takeBack_34 : decode cX8_takeBack 34 = .ok (.invokevirtual 49, 3) := by decide +kernel
theorem dX8_takeBack_37 : decode cX8_takeBack 37 = .ok (.istore 4, 2) := by decide +kernel
theorem dX8_takeBack_39 : decode cX8_takeBack 39 = .ok (.iload 4, 2) := by decide +kernel
theorem dX8_takeBack_41 : decode cX8_takeBack 41 = .ok (.ifCond .ge 5, 3) := by decide +kernel
theorem dX8_takeBack_44 : decode cX8_takeBack 44 = .ok (.iconst 0, 1) := by decide +kernel
theorem dX8_takeBack_45 : decode cX8_takeBack 45 = .ok (.ireturn, 1) := by decide +kernel
theorem dX8_takeBack_46 : decode cX8_takeBack 46 = .ok (.aload_n 0, 1) := by decide +kernel
theorem dX8_takeBack_47 : decode cX8_takeBack 47 = .ok (.dup, 1) := by decide +kernel
theorem dX8_takeBack_48 : decode cX8_takeBack 48 = .ok (.getfield 39, 3) := by decide +kernel
theorem dX8_takeBack_51 : decode cX8_takeBack 51 = .ok (.iconst 1, 1) := by decide +kernel
theorem dX8_takeBack_52 : decode cX8_takeBack 52 = .ok (.isub, 1) := by decide +kernel
theorem dX8_takeBack_53 : decode cX8_takeBack 53 = .ok (.putfield 39, 3) := by decide +kernel
theorem dX8_takeBack_56 : decode cX8_takeBack 56 = .ok (.iconst 0, 1) := by decide +kernel
theorem dX8_takeBack_57 : decode cX8_takeBack 57 = .ok (.istore 5, 2) := by decide +kernel
theorem dX8_takeBack_59 : decode cX8_takeBack 59 = .ok (.iload 5, 2) := by decide +kernel
theorem dX8_takeBack_61 : decode cX8_takeBack 61 = .ok (.iconst 3, 1) := by decide +kernel
theorem dX8_takeBack_62 : decode cX8_takeBack 62 = .ok (.if_icmp .ge 35, 3) := by decide +kernel
theorem dX8_takeBack_65 : decode cX8_takeBack 65 = .ok (.aload_n 0, 1) := by decide +kernel
theorem dX8_takeBack_66 : decode cX8_takeBack 66 = .ok (.getfield 16, 3) := by decide +kernel
theorem dX8_takeBack_69 : decode cX8_takeBack 69 = .ok (.iconst 3, 1) := by decide +kernel
theorem dX8_takeBack_70 : decode cX8_takeBack 70 = .ok (.iload 4, 2) := by decide +kernel
theorem dX8_takeBack_72 : decode cX8_takeBack 72 = .ok (.imul, 1) := by decide +kernel
theorem dX8_takeBack_73 : decode cX8_takeBack 73 = .ok (.iload 5, 2) := by decide +kernel
theorem dX8_takeBack_75 : decode cX8_takeBack 75 = .ok (.iadd, 1) := by decide +kernel
theorem dX8_takeBack_76 : decode cX8_takeBack 76 = .ok (.aload_n 0, 1) := by decide +kernel
theorem dX8_takeBack_77 : decode cX8_takeBack 77 = .ok (.getfield 16, 3) := by decide +kernel
theorem dX8_takeBack_80 : decode cX8_takeBack 80 = .ok (.iconst 3, 1) := by decide +kernel
theorem dX8_takeBack_81 : decode cX8_takeBack 81 = .ok (.aload_n 0, 1) := by decide +kernel
theorem dX8_takeBack_82 : decode cX8_takeBack 82 = .ok (.getfield 39, 3) := by decide +kernel
theorem dX8_takeBack_85 : decode cX8_takeBack 85 = .ok (.imul, 1) := by decide +kernel
theorem dX8_takeBack_86 : decode cX8_takeBack 86 = .ok (.iload 5, 2) := by decide +kernel
theorem dX8_takeBack_88 : decode cX8_takeBack 88 = .ok (.iadd, 1) := by decide +kernel
theorem dX8_takeBack_89 : decode cX8_takeBack 89 = .ok (.iaload, 1) := by decide +kernel
theorem dX8_takeBack_90 : decode cX8_takeBack 90 = .ok (.iastore, 1) := by decide +kernel
theorem dX8_takeBack_91 : decode cX8_takeBack 91 = .ok (.iinc 5 1, 3) := by decide +kernel
theorem dX8_takeBack_94 : decode cX8_takeBack 94 = .ok (.goto (-35), 3) := by decide +kernel
theorem dX8_takeBack_97 : decode cX8_takeBack 97 = .ok (.iconst 1, 1) := by decide +kernel
theorem dX8_takeBack_98 : decode cX8_takeBack 98 = .ok (.ireturn, 1) := by decide +kernel
theorem dX8_triples_0 : decode cX8_triples 0 = .ok (.aload_n 0, 1) := by decide +kernel
theorem dX8_triples_1 : decode cX8_triples 1 = .ok (.iconst 0, 1) := by decide +kernel
theorem dX8_triples_2 : decode cX8_triples 2 = .ok (.putfield 31, 3) := by decide +kernel
theorem dX8_triples_5 : decode cX8_triples 5 = .ok (.aload_n 0, 1) := by decide +kernel
theorem dX8_triples_6 : decode cX8_triples 6 = .ok (.getfield 39, 3) := by decide +kernel
theorem dX8_triples_9 : decode cX8_triples 9 = .ok (.ireturn, 1) := by decide +kernel
theorem dX8_rank_0 : decode cX8_rank 0 = .ok (.iconst 3, 1) := by decide +kernel
theorem dX8_rank_1 : decode cX8_rank 1 = .ok (.iload_n 2, 1) := by decide +kernel
theorem dX8_rank_2 : decode cX8_rank 2 = .ok (.imul, 1) := by decide +kernel
theorem dX8_rank_3 : decode cX8_rank 3 = .ok (.istore_n 3, 1) := by decide +kernel
theorem dX8_rank_4 : decode cX8_rank 4 = .ok (.aload_n 0, 1) := by decide +kernel
theorem dX8_rank_5 : decode cX8_rank 5 = .ok (.getfield 16, 3) := by decide +kernel
theorem dX8_rank_8 : decode cX8_rank 8 = .ok (.iload_n 3, 1) := by decide +kernel
theorem dX8_rank_9 : decode cX8_rank 9 = .ok (.iload_n 1, 1) := by decide +kernel
theorem dX8_rank_10 : decode cX8_rank 10 = .ok (.iadd, 1) := by decide +kernel
theorem dX8_rank_11 : decode cX8_rank 11 = .ok (.iaload, 1) := by decide +kernel
theorem dX8_rank_12 : decode cX8_rank 12 = .ok (.bipush 40, 2) := by decide +kernel
theorem dX8_rank_14 : decode cX8_rank 14 = .ok (.imul, 1) := by decide +kernel
theorem dX8_rank_15 : decode cX8_rank 15 = .ok (.aload_n 0, 1) := by decide +kernel
theorem dX8_rank_16 : decode cX8_rank 16 = .ok (.getfield 16, 3) := by decide +kernel
theorem dX8_rank_19 : decode cX8_rank 19 = .ok (.iload_n 3, 1) := by decide +kernel
theorem dX8_rank_20 : decode cX8_rank 20 = .ok (.iload_n 1, 1) := by decide +kernel
theorem dX8_rank_21 : decode cX8_rank 21 = .ok (.iconst 1, 1) := by decide +kernel
theorem dX8_rank_22 : decode cX8_rank 22 = .ok (.iadd, 1) := by decide +kernel
theorem dX8_rank_23 : decode cX8_rank 23 = .ok (.iconst 3, 1) := by decide +kernel
theorem dX8_rank_24 : decode cX8_rank 24 = .ok (.irem, 1) := by decide +kernel
theorem dX8_rank_25 : decode cX8_rank 25 = .ok (.iadd, 1) := by decide +kernel
theorem dX8_rank_26 : decode cX8_rank 26 = .ok (.iaload, 1) := by decide +kernel
theorem dX8_rank_27 : decode cX8_rank 27 = .ok (.iadd, 1) := by decide +kernel
theorem dX8_rank_28 : decode cX8_rank 28 = .ok (.bipush 40, 2) := by decide +kernel
theorem dX8_rank_30 : decode cX8_rank 30 = .ok (.imul, 1) := by decide +kernel
theorem dX8_rank_31 : decode cX8_rank 31 = .ok (.aload_n 0, 1) := by decide +kernel
theorem dX8_rank_32 : decode cX8_rank 32 = .ok (.getfield 16, 3) := by decide +kernel
theorem dX8_rank_35 : decode cX8_rank 35 = .ok (.iload_n 3, 1) := by decide +kernel
theorem dX8_rank_36 : decode cX8_rank 36 = .ok (.iload_n 1, 1) := by decide +kernel
theorem dX8_rank_37 : decode cX8_rank 37 = .ok (.iconst 2, 1) := by decide +kernel
theorem dX8_rank_38 : decode cX8_rank 38 = .ok (.iadd, 1) := by decide +kernel
theorem dX8_rank_39 : decode cX8_rank 39 = .ok (.iconst 3, 1) := by decide +kernel
theorem dX8_rank_40 : decode cX8_rank 40 = .ok (.irem, 1) := by decide +kernel
theorem dX8_rank_41 : decode cX8_rank 41 = .ok (.iadd, 1) := by decide +kernel
theorem dX8_rank_42 : decode cX8_rank 42 = .ok (.iaload, 1) := by decide +kernel
theorem dX8_rank_43 : decode cX8_rank 43 = .ok (.iadd, 1) := by decide +kernel
theorem dX8_rank_44 : decode cX8_rank 44 = .ok (.ireturn, 1) := by decide +kernel
theorem dX8_inOrder_0 : decode cX8_inOrder 0 = .ok (.iconst (-1), 1) := by decide +kernel
theorem dX8_inOrder_1 : decode cX8_inOrder 1 = .ok (.istore_n 3, 1) := by decide +kernel
theorem dX8_inOrder_2 : decode cX8_inOrder 2 = .ok (.iconst 0, 1) := by decide +kernel
theorem dX8_inOrder_3 : decode cX8_inOrder 3 = .ok (.istore 4, 2) := by decide +kernel
theorem dX8_inOrder_5 : decode cX8_inOrder 5 = .ok (.iload 4, 2) := by decide +kernel
theorem dX8_inOrder_7 : decode cX8_inOrder 7 = .ok (.aload_n 0, 1) := by decide +kernel
theorem dX8_inOrder_8 : decode cX8_inOrder 8 = .ok (.getfield 39, 3) := by decide +kernel
theorem dX8_inOrder_11 : decode cX8_inOrder 11 = .ok (.if_icmp .ge 70, 3) := by decide +kernel
theorem dX8_inOrder_14 : decode cX8_inOrder 14 = .ok (.iconst 0, 1) := by decide +kernel
theorem dX8_inOrder_15 : decode cX8_inOrder 15 = .ok (.istore 5, 2) := by decide +kernel
theorem dX8_inOrder_17 : decode cX8_inOrder 17 = .ok (.iconst 0, 1) := by decide +kernel
theorem dX8_inOrder_18 : decode cX8_inOrder 18 = .ok (.istore 6, 2) := by decide +kernel
theorem dX8_inOrder_20 : decode cX8_inOrder 20 = .ok (.iload 6, 2) := by decide +kernel
theorem dX8_inOrder_22 : decode cX8_inOrder 22 = .ok (.aload_n 0, 1) := by decide +kernel
theorem dX8_inOrder_23 : decode cX8_inOrder 23 = .ok (.getfield 39, 3) := by decide +kernel
theorem dX8_inOrder_26 : decode cX8_inOrder 26 = .ok (.if_icmp .ge 36, 3) := by decide +kernel
theorem dX8_inOrder_29 : decode cX8_inOrder 29 = .ok (.iload 5, 2) := by decide +kernel
theorem dX8_inOrder_31 : decode cX8_inOrder 31 = .ok (.aload_n 0, 1) := by decide +kernel
theorem dX8_inOrder_32 : decode cX8_inOrder 32 = .ok (.iload_n 1, 1) := by decide +kernel
theorem dX8_inOrder_33 : decode cX8_inOrder 33 = .ok (.iload 6, 2) := by decide +kernel
theorem dX8_inOrder_35 : decode cX8_inOrder 35 = .ok (.invokevirtual 60, 3) := by decide +kernel
theorem dX8_inOrder_38 : decode cX8_inOrder 38 = .ok (.aload_n 0, 1) := by decide +kernel
theorem dX8_inOrder_39 : decode cX8_inOrder 39 = .ok (.iload_n 1, 1) := by decide +kernel
theorem dX8_inOrder_40 : decode cX8_inOrder 40 = .ok (.iload 4, 2) := by decide +kernel
theorem dX8_inOrder_42 : decode cX8_inOrder 42 = .ok (.invokevirtual 60, 3) := by decide +kernel
theorem dX8_inOrder_45 : decode cX8_inOrder 45 = .ok (.if_icmp .ge 7, 3) := by decide +kernel
theorem dX8_inOrder_48 : decode cX8_inOrder 48 = .ok (.iconst 1, 1) := by decide +kernel
theorem dX8_inOrder_49 : decode cX8_inOrder 49 = .ok (.goto 4, 3) := by decide +kernel
theorem dX8_inOrder_52 : decode cX8_inOrder 52 = .ok (.iconst 0, 1) := by decide +kernel
theorem dX8_inOrder_53 : decode cX8_inOrder 53 = .ok (.iadd, 1) := by decide +kernel
theorem dX8_inOrder_54 : decode cX8_inOrder 54 = .ok (.istore 5, 2) := by decide +kernel
theorem dX8_inOrder_56 : decode cX8_inOrder 56 = .ok (.iinc 6 1, 3) := by decide +kernel
theorem dX8_inOrder_59 : decode cX8_inOrder 59 = .ok (.goto (-39), 3) := by decide +kernel
theorem dX8_inOrder_62 : decode cX8_inOrder 62 = .ok (.iload 5, 2) := by decide +kernel
theorem dX8_inOrder_64 : decode cX8_inOrder 64 = .ok (.iload_n 2, 1) := by decide +kernel
theorem dX8_inOrder_65 : decode cX8_inOrder 65 = .ok (.if_icmp .ne 8, 3) := by decide +kernel
theorem dX8_inOrder_68 : decode cX8_inOrder 68 = .ok (.iload 4, 2) := by decide +kernel
theorem dX8_inOrder_70 : decode cX8_inOrder 70 = .ok (.goto 4, 3) := by decide +kernel
theorem dX8_inOrder_73 : decode cX8_inOrder 73 = .ok (.iload_n 3, 1) := by decide +kernel
theorem dX8_inOrder_74 : decode cX8_inOrder 74 = .ok (.istore_n 3, 1) := by decide +kernel
theorem dX8_inOrder_75 : decode cX8_inOrder 75 = .ok (.iinc 4 1, 3) := by decide +kernel
theorem dX8_inOrder_78 : decode cX8_inOrder 78 = .ok (.goto (-73), 3) := by decide +kernel
theorem dX8_inOrder_81 : decode cX8_inOrder 81 = .ok (.iload_n 3, 1) := by decide +kernel
theorem dX8_inOrder_82 : decode cX8_inOrder 82 = .ok (.ireturn, 1) := by decide +kernel
theorem dX8_termAt_0 : decode cX8_termAt 0 = .ok (.aload_n 0, 1) := by decide +kernel
theorem dX8_termAt_1 : decode cX8_termAt 1 = .ok (.iload_n 1, 1) := by decide +kernel
theorem dX8_termAt_2 : decode cX8_termAt 2 = .ok (.iconst 0, 1) := by decide +kernel
theorem dX8_termAt_3 : decode cX8_termAt 3 = .ok (.iconst 2, 1) := by decide +kernel
theorem dX8_termAt_4 : decode cX8_termAt 4 = .ok (.invokestatic 35, 3) := by decide +kernel
theorem dX8_termAt_7 : decode cX8_termAt 7 = .ok (.ifCond .eq 12, 3) := by decide +kernel
theorem dX8_termAt_10 : decode cX8_termAt 10 = .ok (.iload_n 3, 1) := by decide +kernel
theorem dX8_termAt_11 : decode cX8_termAt 11 = .ok (.iconst 0, 1) := by decide +kernel
theorem dX8_termAt_12 : decode cX8_termAt 12 = .ok (.iconst 2, 1) := by decide +kernel
theorem dX8_termAt_13 : decode cX8_termAt 13 = .ok (.invokestatic 35, 3) := by decide +kernel
theorem dX8_termAt_16 : decode cX8_termAt 16 = .ok (.ifCond .ne 7, 3) := by decide +kernel
theorem dX8_termAt_19 : decode cX8_termAt 19 = .ok (.iconst 1, 1) := by decide +kernel
theorem dX8_termAt_20 : decode cX8_termAt 20 = .ok (.goto 22, 3) := by decide +kernel
theorem dX8_termAt_23 : decode cX8_termAt 23 = .ok (.iload_n 2, 1) := by decide +kernel
theorem dX8_termAt_24 : decode cX8_termAt 24 = .ok (.iconst 0, 1) := by decide +kernel
theorem dX8_termAt_25 : decode cX8_termAt 25 = .ok (.aload_n 0, 1) := by decide +kernel
theorem dX8_termAt_26 : decode cX8_termAt 26 = .ok (.getfield 39, 3) := by decide +kernel
theorem dX8_termAt_29 : decode cX8_termAt 29 = .ok (.iconst 1, 1) := by decide +kernel
theorem dX8_termAt_30 : decode cX8_termAt 30 = .ok (.isub, 1) := by decide +kernel
theorem dX8_termAt_31 : decode cX8_termAt 31 = .ok (.invokestatic 35, 3) := by decide +kernel
theorem dX8_termAt_34 : decode cX8_termAt 34 = .ok (.ifCond .eq 7, 3) := by decide +kernel
theorem dX8_termAt_37 : decode cX8_termAt 37 = .ok (.iconst 0, 1) := by decide +kernel
theorem dX8_termAt_38 : decode cX8_termAt 38 = .ok (.goto 4, 3) := by decide +kernel
theorem dX8_termAt_41 : decode cX8_termAt 41 = .ok (.iconst 2, 1) := by decide +kernel
theorem dX8_termAt_42 : decode cX8_termAt 42 = .ok (.putfield 31, 3) := by decide +kernel
theorem dX8_termAt_45 : decode cX8_termAt 45 = .ok (.aload_n 0, 1) := by decide +kernel
theorem dX8_termAt_46 : decode cX8_termAt 46 = .ok (.getfield 31, 3) := by decide +kernel
theorem dX8_termAt_49 : decode cX8_termAt 49 = .ok (.ifCond .le 7, 3) := by decide +kernel
theorem dX8_termAt_52 : decode cX8_termAt 52 = .ok (.iconst 0, 1) := by decide +kernel
theorem dX8_termAt_53 : decode cX8_termAt 53 = .ok (.goto 23, 3) := by decide +kernel
theorem dX8_termAt_56 : decode cX8_termAt 56 = .ok (.aload_n 0, 1) := by decide +kernel
theorem dX8_termAt_57 : decode cX8_termAt 57 = .ok (.getfield 13, 3) := by decide +kernel
theorem dX8_termAt_60 : decode cX8_termAt 60 = .ok (.aload_n 0, 1) := by decide +kernel
theorem dX8_termAt_61 : decode cX8_termAt 61 = .ok (.getfield 16, 3) := by decide +kernel
theorem dX8_termAt_64 : decode cX8_termAt 64 = .ok (.iconst 3, 1) := by decide +kernel
theorem dX8_termAt_65 : decode cX8_termAt 65 = .ok (.aload_n 0, 1) := by decide +kernel
theorem dX8_termAt_66 : decode cX8_termAt 66 = .ok (.iload_n 1, 1) := by decide +kernel
theorem dX8_termAt_67 : decode cX8_termAt 67 = .ok (.iload_n 2, 1) := by decide +kernel
theorem dX8_termAt_68 : decode cX8_termAt 68 = .ok (.invokevirtual 64, 3) := by decide +kernel
theorem dX8_termAt_71 : decode cX8_termAt 71 = .ok (.imul, 1) := by decide +kernel
theorem dX8_termAt_72 : decode cX8_termAt 72 = .ok (.iload_n 3, 1) := by decide +kernel
theorem dX8_termAt_73 : decode cX8_termAt 73 = .ok (.iadd, 1) := by decide +kernel
theorem dX8_termAt_74 : decode cX8_termAt 74 = .ok (.iaload, 1) := by decide +kernel
theorem dX8_termAt_75 : decode cX8_termAt 75 = .ok (.iaload, 1) := by decide +kernel
theorem dX8_termAt_76 : decode cX8_termAt 76 = .ok (.ireturn, 1) := by decide +kernel
theorem dX8_terms_0 : decode cX8_terms 0 = .ok (.aload_n 0, 1) := by decide +kernel
theorem dX8_terms_1 : decode cX8_terms 1 = .ok (.iconst 0, 1) := by decide +kernel
theorem dX8_terms_2 : decode cX8_terms 2 = .ok (.putfield 31, 3) := by decide +kernel
theorem dX8_terms_5 : decode cX8_terms 5 = .ok (.aload_n 0, 1) := by decide +kernel
theorem dX8_terms_6 : decode cX8_terms 6 = .ok (.getfield 42, 3) := by decide +kernel
theorem dX8_terms_9 : decode cX8_terms 9 = .ok (.ireturn, 1) := by decide +kernel
theorem dX8_numberOf_0 : decode cX8_numberOf 0 = .ok (.aload_n 0, 1) := by decide +kernel
theorem dX8_numberOf_1 : decode cX8_numberOf 1 = .ok (.iload_n 1, 1) := by decide +kernel
theorem dX8_numberOf_2 : decode cX8_numberOf 2 = .ok (.iconst 0, 1) := by decide +kernel
theorem dX8_numberOf_3 : decode cX8_numberOf 3 = .ok (.bipush 99, 2) := by decide +kernel
theorem dX8_numberOf_5 : decode cX8_numberOf 5 = .ok (.invokestatic 35, 3) := by decide +kernel
theorem dX8_numberOf_8 : decode cX8_numberOf 8 = .ok (.ifCond .eq 7, 3) := by decide +kernel
theorem dX8_numberOf_11 : decode cX8_numberOf 11 = .ok (.iconst 0, 1) := by decide +kernel
theorem dX8_numberOf_12 : decode cX8_numberOf 12 = .ok (.goto 4, 3) := by decide +kernel
theorem dX8_numberOf_15 : decode cX8_numberOf 15 = .ok (.iconst 1, 1) := by decide +kernel
theorem dX8_numberOf_16 : decode cX8_numberOf 16 = .ok (.putfield 31, 3) := by decide +kernel
theorem dX8_numberOf_19 : decode cX8_numberOf 19 = .ok (.aload_n 0, 1) := by decide +kernel
theorem dX8_numberOf_20 : decode cX8_numberOf 20 = .ok (.getfield 31, 3) := by decide +kernel
theorem dX8_numberOf_23 : decode cX8_numberOf 23 = .ok (.ifCond .le 7, 3) := by decide +kernel
theorem dX8_numberOf_26 : decode cX8_numberOf 26 = .ok (.iconst 0, 1) := by decide +kernel
theorem dX8_numberOf_27 : decode cX8_numberOf 27 = .ok (.goto 9, 3) := by decide +kernel
theorem dX8_numberOf_30 : decode cX8_numberOf 30 = .ok (.aload_n 0, 1) := by decide +kernel
theorem dX8_numberOf_31 : decode cX8_numberOf 31 = .ok (.getfield 7, 3) := by decide +kernel
theorem dX8_numberOf_34 : decode cX8_numberOf 34 = .ok (.iload_n 1, 1) := by decide +kernel
theorem dX8_numberOf_35 : decode cX8_numberOf 35 = .ok (.iaload, 1) := by decide +kernel
theorem dX8_numberOf_36 : decode cX8_numberOf 36 = .ok (.ireturn, 1) := by decide +kernel
theorem dX8_termOf_0 : decode cX8_termOf 0 = .ok (.aload_n 0, 1) := by decide +kernel
theorem dX8_termOf_1 : decode cX8_termOf 1 = .ok (.iload_n 1, 1) := by decide +kernel
theorem dX8_termOf_2 : decode cX8_termOf 2 = .ok (.iconst 0, 1) := by decide +kernel
theorem dX8_termOf_3 : decode cX8_termOf 3 = .ok (.aload_n 0, 1) := by decide +kernel
theorem dX8_termOf_4 : decode cX8_termOf 4 = .ok (.getfield 42, 3) := by decide +kernel
theorem dX8_termOf_7 : decode cX8_termOf 7 = .ok (.iconst 1, 1) := by decide +kernel
theorem dX8_termOf_8 : decode cX8_termOf 8 = .ok (.isub, 1) := by decide +kernel
theorem dX8_termOf_9 : decode cX8_termOf 9 = .ok (.invokestatic 35, 3) := by decide +kernel
theorem dX8_termOf_12 : decode cX8_termOf 12 = .ok (.ifCond .eq 7, 3) := by decide +kernel
theorem dX8_termOf_15 : decode cX8_termOf 15 = .ok (.iconst 0, 1) := by decide +kernel
theorem dX8_termOf_16 : decode cX8_termOf 16 = .ok (.goto 4, 3) := by decide +kernel
theorem dX8_termOf_19 : decode cX8_termOf 19 = .ok (.iconst 1, 1) := by decide +kernel
theorem dX8_termOf_20 : decode cX8_termOf 20 = .ok (.putfield 31, 3) := by decide +kernel
theorem dX8_termOf_23 : decode cX8_termOf 23 = .ok (.aload_n 0, 1) := by decide +kernel
theorem dX8_termOf_24 : decode cX8_termOf 24 = .ok (.getfield 31, 3) := by decide +kernel
theorem dX8_termOf_27 : decode cX8_termOf 27 = .ok (.ifCond .le 7, 3) := by decide +kernel
theorem dX8_termOf_30 : decode cX8_termOf 30 = .ok (.iconst 0, 1) := by decide +kernel
theorem dX8_termOf_31 : decode cX8_termOf 31 = .ok (.goto 9, 3) := by decide +kernel
theorem dX8_termOf_34 : decode cX8_termOf 34 = .ok (.aload_n 0, 1) := by decide +kernel
theorem dX8_termOf_35 : decode cX8_termOf 35 = .ok (.getfield 13, 3) := by decide +kernel
theorem dX8_termOf_38 : decode cX8_termOf 38 = .ok (.iload_n 1, 1) := by decide +kernel
theorem dX8_termOf_39 : decode cX8_termOf 39 = .ok (.iaload, 1) := by decide +kernel
theorem dX8_termOf_40 : decode cX8_termOf 40 = .ok (.ireturn, 1) := by decide +kernel
theorem dX8_count_0 : decode cX8_count 0 = .ok (.aload_n 0, 1) := by decide +kernel
theorem dX8_count_1 : decode cX8_count 1 = .ok (.iload_n 1, 1) := by decide +kernel
theorem dX8_count_2 : decode cX8_count 2 = .ok (.iload_n 2, 1) := by decide +kernel
theorem dX8_count_3 : decode cX8_count 3 = .ok (.iload_n 3, 1) := by decide +kernel
theorem dX8_count_4 : decode cX8_count 4 = .ok (.iconst (-1), 1) := by decide +kernel
theorem dX8_count_5 : decode cX8_count 5 = .ok (.invokestatic 45, 3) := by decide +kernel
theorem dX8_count_8 : decode cX8_count 8 = .ok (.ifCond .eq 7, 3) := by decide +kernel
theorem dX8_count_11 : decode cX8_count 11 = .ok (.iconst 0, 1) := by decide +kernel
theorem dX8_count_12 : decode cX8_count 12 = .ok (.goto 4, 3) := by decide +kernel
theorem dX8_count_15 : decode cX8_count 15 = .ok (.iconst 1, 1) := by decide +kernel
theorem dX8_count_16 : decode cX8_count 16 = .ok (.putfield 31, 3) := by decide +kernel
theorem dX8_count_19 : decode cX8_count 19 = .ok (.iconst 0, 1) := by decide +kernel
theorem dX8_count_20 : decode cX8_count 20 = .ok (.istore 4, 2) := by decide +kernel
theorem dX8_count_22 : decode cX8_count 22 = .ok (.iconst 0, 1) := by decide +kernel
theorem dX8_count_23 : decode cX8_count 23 = .ok (.istore 5, 2) := by decide +kernel
theorem dX8_count_25 : decode cX8_count 25 = .ok (.iload 5, 2) := by decide +kernel
theorem dX8_count_27 : decode cX8_count 27 = .ok (.aload_n 0, 1) := by decide +kernel
theorem dX8_count_28 : decode cX8_count 28 = .ok (.getfield 39, 3) := by decide +kernel
theorem dX8_count_31 : decode cX8_count 31 = .ok (.if_icmp .ge 128, 3) := by decide +kernel
theorem dX8_count_34 : decode cX8_count 34 = .ok (.aload_n 0, 1) := by decide +kernel
theorem dX8_count_35 : decode cX8_count 35 = .ok (.getfield 31, 3) := by decide +kernel
theorem dX8_count_38 : decode cX8_count 38 = .ok (.ifCond .ne 121, 3) := by decide +kernel
theorem dX8_count_41 : decode cX8_count 41 = .ok (.iload_n 1, 1) := by decide +kernel
theorem dX8_count_42 : decode cX8_count 42 = .ok (.ifCond .lt 21, 3) := by decide +kernel
theorem dX8_count_45 : decode cX8_count 45 = .ok (.aload_n 0, 1) := by decide +kernel
theorem dX8_count_46 : decode cX8_count 46 = .ok (.getfield 13, 3) := by decide +kernel
theorem dX8_count_49 : decode cX8_count 49 = .ok (.aload_n 0, 1) := by decide +kernel
theorem dX8_count_50 : decode cX8_count 50 = .ok (.getfield 16, 3) := by decide +kernel
theorem dX8_count_53 : decode cX8_count 53 = .ok (.iconst 3, 1) := by decide +kernel
theorem dX8_count_54 : decode cX8_count 54 = .ok (.iload 5, 2) := by decide +kernel
theorem dX8_count_56 : decode cX8_count 56 = .ok (.imul, 1) := by decide +kernel
theorem dX8_count_57 : decode cX8_count 57 = .ok (.iaload, 1) := by decide +kernel
theorem dX8_count_58 : decode cX8_count 58 = .ok (.iaload, 1) := by decide +kernel
theorem dX8_count_59 : decode cX8_count 59 = .ok (.iload_n 1, 1) := by decide +kernel
theorem dX8_count_60 : decode cX8_count 60 = .ok (.if_icmp .ne 7, 3) := by decide +kernel
theorem dX8_count_63 : decode cX8_count 63 = .ok (.iconst 1, 1) := by decide +kernel
theorem dX8_count_64 : decode cX8_count 64 = .ok (.goto 4, 3) := by decide +kernel
theorem dX8_count_67 : decode cX8_count 67 = .ok (.iconst 0, 1) := by decide +kernel
theorem dX8_count_68 : decode cX8_count 68 = .ok (.istore 6, 2) := by decide +kernel
theorem dX8_count_70 : decode cX8_count 70 = .ok (.iload 6, 2) := by decide +kernel
theorem dX8_count_72 : decode cX8_count 72 = .ok (.iload_n 2, 1) := by decide +kernel
theorem dX8_count_73 : decode cX8_count 73 = .ok (.ifCond .lt 23, 3) := by decide +kernel
theorem dX8_count_76 : decode cX8_count 76 = .ok (.aload_n 0, 1) := by decide +kernel
theorem dX8_count_77 : decode cX8_count 77 = .ok (.getfield 13, 3) := by decide +kernel
theorem dX8_count_80 : decode cX8_count 80 = .ok (.aload_n 0, 1) := by decide +kernel
theorem dX8_count_81 : decode cX8_count 81 = .ok (.getfield 16, 3) := by decide +kernel
theorem dX8_count_84 : decode cX8_count 84 = .ok (.iconst 3, 1) := by decide +kernel
theorem dX8_count_85 : decode cX8_count 85 = .ok (.iload 5, 2) := by decide +kernel
theorem dX8_count_87 : decode cX8_count 87 = .ok (.imul, 1) := by decide +kernel
theorem dX8_count_88 : decode cX8_count 88 = .ok (.iconst 1, 1) := by decide +kernel
theorem dX8_count_89 : decode cX8_count 89 = .ok (.iadd, 1) := by decide +kernel
theorem dX8_count_90 : decode cX8_count 90 = .ok (.iaload, 1) := by decide +kernel
theorem dX8_count_91 : decode cX8_count 91 = .ok (.iaload, 1) := by decide +kernel
theorem dX8_count_92 : decode cX8_count 92 = .ok (.iload_n 2, 1) := by decide +kernel
theorem dX8_count_93 : decode cX8_count 93 = .ok (.if_icmp .ne 7, 3) := by decide +kernel
theorem dX8_count_96 : decode cX8_count 96 = .ok (.iconst 1, 1) := by decide +kernel
theorem dX8_count_97 : decode cX8_count 97 = .ok (.goto 4, 3) := by decide +kernel
theorem dX8_count_100 : decode cX8_count 100 = .ok (.iconst 0, 1) := by decide +kernel
theorem dX8_count_101 : decode cX8_count 101 = .ok (.iand, 1) := by decide +kernel
theorem dX8_count_102 : decode cX8_count 102 = .ok (.istore 6, 2) := by decide +kernel
theorem dX8_count_104 : decode cX8_count 104 = .ok (.iload 6, 2) := by decide +kernel
theorem dX8_count_106 : decode cX8_count 106 = .ok (.iload_n 3, 1) := by decide +kernel
theorem dX8_count_107 : decode cX8_count 107 = .ok (.ifCond .lt 23, 3) := by decide +kernel
theorem dX8_count_110 : decode cX8_count 110 = .ok (.aload_n 0, 1) := by decide +kernel
theorem dX8_count_111 : decode cX8_count 111 = .ok (.getfield 13, 3) := by decide +kernel
theorem dX8_count_114 : decode cX8_count 114 = .ok (.aload_n 0, 1) := by decide +kernel
theorem dX8_count_115 : decode cX8_count 115 = .ok (.getfield 16, 3) := by decide +kernel
theorem dX8_count_118 : decode cX8_count 118 = .ok (.iconst 3, 1) := by decide +kernel
theorem dX8_count_119 : decode cX8_count 119 = .ok (.iload 5, 2) := by decide +kernel
theorem dX8_count_121 : decode cX8_count 121 = .ok (.imul, 1) := by decide +kernel
theorem dX8_count_122 : decode cX8_count 122 = .ok (.iconst 2, 1) := by decide +kernel
theorem dX8_count_123 : decode cX8_count 123 = .ok (.iadd, 1) := by decide +kernel
theorem dX8_count_124 : decode cX8_count 124 = .ok (.iaload, 1) := by decide +kernel
theorem dX8_count_125 : decode cX8_count 125 = .ok (.iaload, 1) := by decide +kernel
theorem dX8_count_126 : decode cX8_count 126 = .ok (.iload_n 3, 1) := by decide +kernel
theorem dX8_count_127 : decode cX8_count 127 = .ok (.if_icmp .ne 7, 3) := by decide +kernel
theorem dX8_count_130 : decode cX8_count 130 = .ok (.iconst 1, 1) := by decide +kernel
theorem dX8_count_131 : decode cX8_count 131 = .ok (.goto 4, 3) := by decide +kernel
theorem dX8_count_134 : decode cX8_count 134 = .ok (.iconst 0, 1) := by decide +kernel
theorem dX8_count_135 : decode cX8_count 135 = .ok (.iand, 1) := by decide +kernel
theorem dX8_count_136 : decode cX8_count 136 = .ok (.istore 6, 2) := by decide +kernel
theorem dX8_count_138 : decode cX8_count 138 = .ok (.iload 4, 2) := by decide +kernel
theorem dX8_count_140 : decode cX8_count 140 = .ok (.iload 6, 2) := by decide +kernel
theorem dX8_count_142 : decode cX8_count 142 = .ok (.ifCond .eq 7, 3) := by decide +kernel
theorem dX8_count_145 : decode cX8_count 145 = .ok (.iconst 1, 1) := by decide +kernel
theorem dX8_count_146 : decode cX8_count 146 = .ok (.goto 4, 3) := by decide +kernel
theorem dX8_count_149 : decode cX8_count 149 = .ok (.iconst 0, 1) := by decide +kernel
theorem dX8_count_150 : decode cX8_count 150 = .ok (.iadd, 1) := by decide +kernel
theorem dX8_count_151 : decode cX8_count 151 = .ok (.istore 4, 2) := by decide +kernel
theorem dX8_count_153 : decode cX8_count 153 = .ok (.iinc 5 1, 3) := by decide +kernel
theorem dX8_count_156 : decode cX8_count 156 = .ok (.goto (-131), 3) := by decide +kernel
theorem dX8_count_159 : decode cX8_count 159 = .ok (.iload 4, 2) := by decide +kernel
theorem dX8_count_161 : decode cX8_count 161 = .ok (.ireturn, 1) := by decide +kernel
theorem dX8_orderFor_0 : decode cX8_orderFor 0 = .ok (.aload_n 0, 1) := by decide +kernel
theorem dX8_orderFor_1 : decode cX8_orderFor 1 = .ok (.iconst 0, 1) := by decide +kernel
theorem dX8_orderFor_2 : decode cX8_orderFor 2 = .ok (.putfield 31, 3) := by decide +kernel
theorem dX8_orderFor_5 : decode cX8_orderFor 5 = .ok (.iload_n 1, 1) := by decide +kernel
theorem dX8_orderFor_6 : decode cX8_orderFor 6 = .ok (.ifCond .eq 17, 3) := by decide +kernel
theorem dX8_orderFor_9 : decode cX8_orderFor 9 = .ok (.iload_n 3, 1) := by decide +kernel
theorem dX8_orderFor_10 : decode cX8_orderFor 10 = .ok (.ifCond .eq 11, 3) := by decide +kernel
theorem dX8_orderFor_13 : decode cX8_orderFor 13 = .ok (.iload_n 2, 1) := by decide +kernel
theorem dX8_orderFor_14 : decode cX8_orderFor 14 = .ok (.ifCond .ne 7, 3) := by decide +kernel
theorem dX8_orderFor_17 : decode cX8_orderFor 17 = .ok (.iconst 2, 1) := by decide +kernel
theorem dX8_orderFor_18 : decode cX8_orderFor 18 = .ok (.goto 4, 3) := by decide +kernel
theorem dX8_orderFor_21 : decode cX8_orderFor 21 = .ok (.iconst 0, 1) := by decide +kernel
theorem dX8_orderFor_22 : decode cX8_orderFor 22 = .ok (.ireturn, 1) := by decide +kernel
theorem dX8_orderFor_23 : decode cX8_orderFor 23 = .ok (.iload_n 2, 1) := by decide +kernel
theorem dX8_orderFor_24 : decode cX8_orderFor 24 = .ok (.ifCond .eq 7, 3) := by decide +kernel
theorem dX8_orderFor_27 : decode cX8_orderFor 27 = .ok (.iconst 1, 1) := by decide +kernel
theorem dX8_orderFor_28 : decode cX8_orderFor 28 = .ok (.goto 12, 3) := by decide +kernel
theorem dX8_orderFor_31 : decode cX8_orderFor 31 = .ok (.iload_n 3, 1) := by decide +kernel
theorem dX8_orderFor_32 : decode cX8_orderFor 32 = .ok (.ifCond .eq 7, 3) := by decide +kernel
theorem dX8_orderFor_35 : decode cX8_orderFor 35 = .ok (.iconst 2, 1) := by decide +kernel
theorem dX8_orderFor_36 : decode cX8_orderFor 36 = .ok (.goto 4, 3) := by decide +kernel
theorem dX8_orderFor_39 : decode cX8_orderFor 39 = .ok (.iconst 0, 1) := by decide +kernel
theorem dX8_orderFor_40 : decode cX8_orderFor 40 = .ok (.ireturn, 1) := by decide +kernel
theorem dX8_seek_0 : decode cX8_seek 0 = .ok (.aload_n 0, 1) := by decide +kernel
theorem dX8_seek_1 : decode cX8_seek 1 = .ok (.iload_n 1, 1) := by decide +kernel
theorem dX8_seek_2 : decode cX8_seek 2 = .ok (.iconst 0, 1) := by decide +kernel
theorem dX8_seek_3 : decode cX8_seek 3 = .ok (.iconst 2, 1) := by decide +kernel
theorem dX8_seek_4 : decode cX8_seek 4 = .ok (.invokestatic 35, 3) := by decide +kernel
theorem dX8_seek_7 : decode cX8_seek 7 = .ok (.ifCond .eq 17, 3) := by decide +kernel
theorem dX8_seek_10 : decode cX8_seek 10 = .ok (.iload_n 2, 1) := by decide +kernel
theorem dX8_seek_11 : decode cX8_seek 11 = .ok (.iconst 0, 1) := by decide +kernel
theorem dX8_seek_12 : decode cX8_seek 12 = .ok (.bipush 99, 2) := by decide +kernel
theorem dX8_seek_14 : decode cX8_seek 14 = .ok (.invokestatic 35, 3) := by decide +kernel
theorem dX8_seek_17 : decode cX8_seek 17 = .ok (.ifCond .eq 7, 3) := by decide +kernel
theorem dX8_seek_20 : decode cX8_seek 20 = .ok (.iconst 0, 1) := by decide +kernel
theorem dX8_seek_21 : decode cX8_seek 21 = .ok (.goto 4, 3) := by decide +kernel
theorem dX8_seek_24 : decode cX8_seek 24 = .ok (.iconst 1, 1) := by decide +kernel
theorem dX8_seek_25 : decode cX8_seek 25 = .ok (.putfield 31, 3) := by decide +kernel
theorem dX8_seek_28 : decode cX8_seek 28 = .ok (.aload_n 0, 1) := by decide +kernel
theorem dX8_seek_29 : decode cX8_seek 29 = .ok (.getfield 31, 3) := by decide +kernel
theorem dX8_seek_32 : decode cX8_seek 32 = .ok (.ifCond .le 5, 3) := by decide +kernel
theorem dX8_seek_35 : decode cX8_seek 35 = .ok (.iconst 0, 1) := by decide +kernel
theorem dX8_seek_36 : decode cX8_seek 36 = .ok (.ireturn, 1) := by decide +kernel
theorem dX8_seek_37 : decode cX8_seek 37 = .ok (.aload_n 0, 1) := by decide +kernel
theorem dX8_seek_38 : decode cX8_seek 38 = .ok (.aload_n 0, 1) := by decide +kernel
theorem dX8_seek_39 : decode cX8_seek 39 = .ok (.getfield 7, 3) := by decide +kernel
theorem dX8_seek_42 : decode cX8_seek 42 = .ok (.iload_n 2, 1) := by decide +kernel
theorem dX8_seek_43 : decode cX8_seek 43 = .ok (.iaload, 1) := by decide +kernel
theorem dX8_seek_44 : decode cX8_seek 44 = .ok (.ifCond .ge 7, 3) := by decide +kernel
theorem dX8_seek_47 : decode cX8_seek 47 = .ok (.iconst 2, 1) := by decide +kernel
theorem dX8_seek_48 : decode cX8_seek 48 = .ok (.goto 4, 3) := by decide +kernel
theorem dX8_seek_51 : decode cX8_seek 51 = .ok (.iconst 0, 1) := by decide +kernel
theorem dX8_seek_52 : decode cX8_seek 52 = .ok (.putfield 31, 3) := by decide +kernel
theorem dX8_seek_55 : decode cX8_seek 55 = .ok (.iconst 0, 1) := by decide +kernel
theorem dX8_seek_56 : decode cX8_seek 56 = .ok (.istore_n 3, 1) := by decide +kernel
theorem dX8_seek_57 : decode cX8_seek 57 = .ok (.iconst 0, 1) := by decide +kernel
theorem dX8_seek_58 : decode cX8_seek 58 = .ok (.istore 4, 2) := by decide +kernel
theorem dX8_seek_60 : decode cX8_seek 60 = .ok (.iload 4, 2) := by decide +kernel
theorem dX8_seek_62 : decode cX8_seek 62 = .ok (.aload_n 0, 1) := by decide +kernel
theorem dX8_seek_63 : decode cX8_seek 63 = .ok (.getfield 39, 3) := by decide +kernel
theorem dX8_seek_66 : decode cX8_seek 66 = .ok (.if_icmp .ge 44, 3) := by decide +kernel
theorem dX8_seek_69 : decode cX8_seek 69 = .ok (.aload_n 0, 1) := by decide +kernel
theorem dX8_seek_70 : decode cX8_seek 70 = .ok (.getfield 31, 3) := by decide +kernel
theorem dX8_seek_73 : decode cX8_seek 73 = .ok (.ifCond .ne 37, 3) := by decide +kernel
theorem dX8_seek_76 : decode cX8_seek 76 = .ok (.iload_n 3, 1) := by decide +kernel
theorem dX8_seek_77 : decode cX8_seek 77 = .ok (.aload_n 0, 1) := by decide +kernel
theorem dX8_seek_78 : decode cX8_seek 78 = .ok (.getfield 16, 3) := by decide +kernel
theorem dX8_seek_81 : decode cX8_seek 81 = .ok (.iconst 3, 1) := by decide +kernel
theorem dX8_seek_82 : decode cX8_seek 82 = .ok (.iload 4, 2) := by decide +kernel
theorem dX8_seek_84 : decode cX8_seek 84 = .ok (.imul, 1) := by decide +kernel
theorem dX8_seek_85 : decode cX8_seek 85 = .ok (.iload_n 1, 1) := by decide +kernel
theorem dX8_seek_86 : decode cX8_seek 86 = .ok (.iadd, 1) := by decide +kernel
theorem dX8_seek_87 : decode cX8_seek 87 = .ok (.iaload, 1) := by decide +kernel
theorem dX8_seek_88 : decode cX8_seek 88 = .ok (.aload_n 0, 1) := by decide +kernel
theorem dX8_seek_89 : decode cX8_seek 89 = .ok (.getfield 7, 3) := by decide +kernel
theorem dX8_seek_92 : decode cX8_seek 92 = .ok (.iload_n 2, 1) := by decide +kernel
theorem dX8_seek_93 : decode cX8_seek 93 = .ok (.iaload, 1) := by decide +kernel
theorem dX8_seek_94 : decode cX8_seek 94 = .ok (.if_icmp .ge 7, 3) := by decide +kernel
theorem dX8_seek_97 : decode cX8_seek 97 = .ok (.iconst 1, 1) := by decide +kernel
theorem dX8_seek_98 : decode cX8_seek 98 = .ok (.goto 4, 3) := by decide +kernel
theorem dX8_seek_101 : decode cX8_seek 101 = .ok (.iconst 0, 1) := by decide +kernel
theorem dX8_seek_102 : decode cX8_seek 102 = .ok (.iadd, 1) := by decide +kernel
theorem dX8_seek_103 : decode cX8_seek 103 = .ok (.istore_n 3, 1) := by decide +kernel
theorem dX8_seek_104 : decode cX8_seek 104 = .ok (.iinc 4 1, 3) := by decide +kernel
theorem dX8_seek_107 : decode cX8_seek 107 = .ok (.goto (-47), 3) := by decide +kernel
theorem dX8_seek_110 : decode cX8_seek 110 = .ok (.iload_n 3, 1) := by decide +kernel
theorem dX8_seek_111 : decode cX8_seek 111 = .ok (.ireturn, 1) := by decide +kernel
theorem dX8_forget_0 : decode cX8_forget 0 = .ok (.aload_n 0, 1) := by decide +kernel
theorem dX8_forget_1 : decode cX8_forget 1 = .ok (.iconst 0, 1) := by decide +kernel
theorem dX8_forget_2 : decode cX8_forget 2 = .ok (.putfield 31, 3) := by decide +kernel
theorem dX8_forget_5 : decode cX8_forget 5 = .ok (.aload_n 0, 1) := by decide +kernel
theorem dX8_forget_6 : decode cX8_forget 6 = .ok (.getfield 67, 3) := by decide +kernel
theorem dX8_forget_9 : decode cX8_forget 9 = .ok (.istore_n 1, 1) := by decide +kernel
theorem dX8_forget_10 : decode cX8_forget 10 = .ok (.aload_n 0, 1) := by decide +kernel
theorem dX8_forget_11 : decode cX8_forget 11 = .ok (.iconst 0, 1) := by decide +kernel
theorem dX8_forget_12 : decode cX8_forget 12 = .ok (.putfield 67, 3) := by decide +kernel
theorem dX8_forget_15 : decode cX8_forget 15 = .ok (.iload_n 1, 1) := by decide +kernel
theorem dX8_forget_16 : decode cX8_forget 16 = .ok (.ireturn, 1) := by decide +kernel
theorem dX8_addPattern_0 : decode cX8_addPattern 0 = .ok (.aload_n 0, 1) := by decide +kernel
theorem dX8_addPattern_1 : decode cX8_addPattern 1 = .ok (.iload_n 1, 1) := by decide +kernel
theorem dX8_addPattern_2 : decode cX8_addPattern 2 = .ok (.iload_n 2, 1) := by decide +kernel
theorem dX8_addPattern_3 : decode cX8_addPattern 3 = .ok (.iload_n 3, 1) := by decide +kernel
theorem dX8_addPattern_4 : decode cX8_addPattern 4 = .ok (.bipush (-4), 2) := by decide +kernel
theorem dX8_addPattern_6 : decode cX8_addPattern 6 = .ok (.invokestatic 45, 3) := by decide +kernel
theorem dX8_addPattern_9 : decode cX8_addPattern 9 = .ok (.ifCond .ne 7, 3) := by decide +kernel
theorem dX8_addPattern_12 : decode cX8_addPattern 12 = .ok (.iconst 1, 1) := by decide +kernel
theorem dX8_addPattern_13 : decode cX8_addPattern 13 = .ok (.goto 16, 3) := by decide +kernel
theorem dX8_addPattern_16 : decode cX8_addPattern 16 = .ok (.aload_n 0, 1) := by decide +kernel
theorem dX8_addPattern_17 : decode cX8_addPattern 17 = .ok (.getfield 67, 3) := by decide +kernel
theorem dX8_addPattern_20 : decode cX8_addPattern 20 = .ok (.iconst 3, 1) := by decide +kernel
theorem dX8_addPattern_21 : decode cX8_addPattern 21 = .ok (.if_icmp .ne 7, 3) := by decide +kernel
theorem dX8_addPattern_24 : decode cX8_addPattern 24 = .ok (.iconst 2, 1) := by decide +kernel
theorem dX8_addPattern_25 : decode cX8_addPattern 25 = .ok (.goto 4, 3) := by decide +kernel
theorem dX8_addPattern_28 : decode cX8_addPattern 28 = .ok (.iconst 0, 1) := by decide +kernel
theorem dX8_addPattern_29 : decode cX8_addPattern 29 = .ok (.putfield 31, 3) := by decide +kernel
theorem dX8_addPattern_32 : decode cX8_addPattern 32 = .ok (.aload_n 0, 1) := by decide +kernel
theorem dX8_addPattern_33 : decode cX8_addPattern 33 = .ok (.getfield 31, 3) := by decide +kernel
theorem dX8_addPattern_36 : decode cX8_addPattern 36 = .ok (.ifCond .le 5, 3) := by decide +kernel
theorem dX8_addPattern_39 : decode cX8_addPattern 39 = .ok (.iconst 0, 1) := by decide +kernel
theorem dX8_addPattern_40 : decode cX8_addPattern 40 = .ok (.ireturn, 1) := by decide +kernel
theorem dX8_addPattern_41 : decode cX8_addPattern 41 = .ok (.aload_n 0, 1) := by decide +kernel
theorem dX8_addPattern_42 : decode cX8_addPattern 42 = .ok (.getfield 19, 3) := by decide +kernel
theorem dX8_addPattern_45 : decode cX8_addPattern 45 = .ok (.iconst 3, 1) := by decide +kernel
theorem dX8_addPattern_46 : decode cX8_addPattern 46 = .ok (.aload_n 0, 1) := by decide +kernel
theorem dX8_addPattern_47 : decode cX8_addPattern 47 = .ok (.getfield 67, 3) := by decide +kernel
theorem dX8_addPattern_50 : decode cX8_addPattern 50 = .ok (.imul, 1) := by decide +kernel
theorem dX8_addPattern_51 : decode cX8_addPattern 51 = .ok (.iload_n 1, 1) := by decide +kernel
theorem dX8_addPattern_52 : decode cX8_addPattern 52 = .ok (.iastore, 1) := by decide +kernel
theorem dX8_addPattern_53 : decode cX8_addPattern 53 = .ok (.aload_n 0, 1) := by decide +kernel
theorem dX8_addPattern_54 : decode cX8_addPattern 54 = .ok (.getfield 19, 3) := by decide +kernel
theorem dX8_addPattern_57 : decode cX8_addPattern 57 = .ok (.iconst 3, 1) := by decide +kernel
theorem dX8_addPattern_58 : decode cX8_addPattern 58 = .ok (.aload_n 0, 1) := by decide +kernel
theorem dX8_addPattern_59 : decode cX8_addPattern 59 = .ok (.getfield 67, 3) := by decide +kernel
theorem dX8_addPattern_62 : decode cX8_addPattern 62 = .ok (.imul, 1) := by decide +kernel
theorem dX8_addPattern_63 : decode cX8_addPattern 63 = .ok (.iconst 1, 1) := by decide +kernel
theorem dX8_addPattern_64 : decode cX8_addPattern 64 = .ok (.iadd, 1) := by decide +kernel
theorem dX8_addPattern_65 : decode cX8_addPattern 65 = .ok (.iload_n 2, 1) := by decide +kernel
theorem dX8_addPattern_66 : decode cX8_addPattern 66 = .ok (.iastore, 1) := by decide +kernel
theorem dX8_addPattern_67 : decode cX8_addPattern 67 = .ok (.aload_n 0, 1) := by decide +kernel
theorem dX8_addPattern_68 : decode cX8_addPattern 68 = .ok (.getfield 19, 3) := by decide +kernel
theorem dX8_addPattern_71 : decode cX8_addPattern 71 = .ok (.iconst 3, 1) := by decide +kernel
theorem dX8_addPattern_72 : decode cX8_addPattern 72 = .ok (.aload_n 0, 1) := by decide +kernel
theorem dX8_addPattern_73 : decode cX8_addPattern 73 = .ok (.getfield 67, 3) := by decide +kernel
theorem dX8_addPattern_76 : decode cX8_addPattern 76 = .ok (.imul, 1) := by decide +kernel
theorem dX8_addPattern_77 : decode cX8_addPattern 77 = .ok (.iconst 2, 1) := by decide +kernel
theorem dX8_addPattern_78 : decode cX8_addPattern 78 = .ok (.iadd, 1) := by decide +kernel
theorem dX8_addPattern_79 : decode cX8_addPattern 79 = .ok (.iload_n 3, 1) := by decide +kernel
theorem dX8_addPattern_80 : decode cX8_addPattern 80 = .ok (.iastore, 1) := by decide +kernel
theorem dX8_addPattern_81 : decode cX8_addPattern 81 = .ok (.aload_n 0, 1) := by decide +kernel
theorem dX8_addPattern_82 : decode cX8_addPattern 82 = .ok (.dup, 1) := by decide +kernel
theorem dX8_addPattern_83 : decode cX8_addPattern 83 = .ok (.getfield 67, 3) := by decide +kernel
theorem dX8_addPattern_86 : decode cX8_addPattern 86 = .ok (.iconst 1, 1) := by decide +kernel
theorem dX8_addPattern_87 : decode cX8_addPattern 87 = .ok (.iadd, 1) := by decide +kernel
theorem dX8_addPattern_88 : decode cX8_addPattern 88 = .ok (.putfield 67, 3) := by decide +kernel
theorem dX8_addPattern_91 : decode cX8_addPattern 91 = .ok (.aload_n 0, 1) := by decide +kernel
theorem dX8_addPattern_92 : decode cX8_addPattern 92 = .ok (.getfield 67, 3) := by decide +kernel
theorem dX8_addPattern_95 : decode cX8_addPattern 95 = .ok (.iconst 1, 1) := by decide +kernel
theorem dX8_addPattern_96 : decode cX8_addPattern 96 = .ok (.isub, 1) := by decide +kernel
theorem dX8_addPattern_97 : decode cX8_addPattern 97 = .ok (.ireturn, 1) := by decide +kernel
theorem dX8_patterns_0 : decode cX8_patterns 0 = .ok (.aload_n 0, 1) := by decide +kernel
theorem dX8_patterns_1 : decode cX8_patterns 1 = .ok (.iconst 0, 1) := by decide +kernel
theorem dX8_patterns_2 : decode cX8_patterns 2 = .ok (.putfield 31, 3) := by decide +kernel
theorem dX8_patterns_5 : decode cX8_patterns 5 = .ok (.aload_n 0, 1) := by decide +kernel
theorem dX8_patterns_6 : decode cX8_patterns 6 = .ok (.getfield 67, 3) := by decide +kernel
theorem dX8_patterns_9 : decode cX8_patterns 9 = .ok (.ireturn, 1) := by decide +kernel
theorem dX8_tries_0 : decode cX8_tries 0 = .ok (.iconst 0, 1) := by decide +kernel
theorem dX8_tries_1 : decode cX8_tries 1 = .ok (.istore 4, 2) := by decide +kernel
theorem dX8_tries_3 : decode cX8_tries 3 = .ok (.iload 4, 2) := by decide +kernel
theorem dX8_tries_5 : decode cX8_tries 5 = .ok (.iconst 4, 1) := by decide +kernel
theorem dX8_tries_6 : decode cX8_tries 6 = .ok (.if_icmp .ge 33, 3) := by decide +kernel
theorem dX8_tries_9 : decode cX8_tries 9 = .ok (.aload_n 0, 1) := by decide +kernel
theorem dX8_tries_10 : decode cX8_tries 10 = .ok (.getfield 22, 3) := by decide +kernel
theorem dX8_tries_13 : decode cX8_tries 13 = .ok (.iconst 4, 1) := by decide +kernel
theorem dX8_tries_14 : decode cX8_tries 14 = .ok (.iload_n 1, 1) := by decide +kernel
theorem dX8_tries_15 : decode cX8_tries 15 = .ok (.imul, 1) := by decide +kernel
theorem dX8_tries_16 : decode cX8_tries 16 = .ok (.iconst 4, 1) := by decide +kernel
theorem dX8_tries_17 : decode cX8_tries 17 = .ok (.iadd, 1) := by decide +kernel
theorem dX8_tries_18 : decode cX8_tries 18 = .ok (.iload 4, 2) := by decide +kernel
theorem dX8_tries_20 : decode cX8_tries 20 = .ok (.iadd, 1) := by decide +kernel
theorem dX8_tries_21 : decode cX8_tries 21 = .ok (.aload_n 0, 1) := by decide +kernel
theorem dX8_tries_22 : decode cX8_tries 22 = .ok (.getfield 22, 3) := by decide +kernel
theorem dX8_tries_25 : decode cX8_tries 25 = .ok (.iconst 4, 1) := by decide +kernel
theorem dX8_tries_26 : decode cX8_tries 26 = .ok (.iload_n 1, 1) := by decide +kernel
theorem dX8_tries_27 : decode cX8_tries 27 = .ok (.imul, 1) := by decide +kernel
theorem dX8_tries_28 : decode cX8_tries 28 = .ok (.iload 4, 2) := by decide +kernel
theorem dX8_tries_30 : decode cX8_tries 30 = .ok (.iadd, 1) := by decide +kernel
theorem dX8_tries_31 : decode cX8_tries 31 = .ok (.iaload, 1) := by decide +kernel
theorem dX8_tries_32 : decode cX8_tries 32 = .ok (.iastore, 1) := by decide +kernel
theorem dX8_tries_33 : decode cX8_tries 33 = .ok (.iinc 4 1, 3) := by decide +kernel
theorem dX8_tries_36 : decode cX8_tries 36 = .ok (.goto (-33), 3) := by decide +kernel
theorem dX8_tries_39 : decode cX8_tries 39 = .ok (.iconst 1, 1) := by decide +kernel
theorem dX8_tries_40 : decode cX8_tries 40 = .ok (.istore 4, 2) := by decide +kernel
theorem dX8_tries_42 : decode cX8_tries 42 = .ok (.iconst 0, 1) := by decide +kernel
theorem dX8_tries_43 : decode cX8_tries 43 = .ok (.istore 5, 2) := by decide +kernel
theorem dX8_tries_45 : decode cX8_tries 45 = .ok (.iload 5, 2) := by decide +kernel
theorem dX8_tries_47 : decode cX8_tries 47 = .ok (.iconst 3, 1) := by decide +kernel
theorem dX8_tries_48 : decode cX8_tries 48 = .ok (.if_icmp .ge 118, 3) := by decide +kernel
theorem dX8_tries_51 : decode cX8_tries 51 = .ok (.aload_n 0, 1) := by decide +kernel
theorem dX8_tries_52 : decode cX8_tries 52 = .ok (.getfield 19, 3) := by decide +kernel
theorem dX8_tries_55 : decode cX8_tries 55 = .ok (.iconst 3, 1) := by decide +kernel
theorem dX8_tries_56 : decode cX8_tries 56 = .ok (.iload_n 2, 1) := by decide +kernel
theorem dX8_tries_57 : decode cX8_tries 57 = .ok (.imul, 1) := by decide +kernel
theorem dX8_tries_58 : decode cX8_tries 58 = .ok (.iload 5, 2) := by decide +kernel
theorem dX8_tries_60 : decode cX8_tries 60 = .ok (.iadd, 1) := by decide +kernel
theorem dX8_tries_61 : decode cX8_tries 61 = .ok (.iaload, 1) := by decide +kernel
theorem dX8_tries_62 : decode cX8_tries 62 = .ok (.istore 6, 2) := by decide +kernel
theorem dX8_tries_64 : decode cX8_tries 64 = .ok (.aload_n 0, 1) := by decide +kernel
theorem dX8_tries_65 : decode cX8_tries 65 = .ok (.getfield 16, 3) := by decide +kernel
theorem dX8_tries_68 : decode cX8_tries 68 = .ok (.iconst 3, 1) := by decide +kernel
theorem dX8_tries_69 : decode cX8_tries 69 = .ok (.iload_n 3, 1) := by decide +kernel
theorem dX8_tries_70 : decode cX8_tries 70 = .ok (.imul, 1) := by decide +kernel
theorem dX8_tries_71 : decode cX8_tries 71 = .ok (.iload 5, 2) := by decide +kernel
theorem dX8_tries_73 : decode cX8_tries 73 = .ok (.iadd, 1) := by decide +kernel
theorem dX8_tries_74 : decode cX8_tries 74 = .ok (.iaload, 1) := by decide +kernel
theorem dX8_tries_75 : decode cX8_tries 75 = .ok (.istore 7, 2) := by decide +kernel
theorem dX8_tries_77 : decode cX8_tries 77 = .ok (.iload 6, 2) := by decide +kernel
theorem dX8_tries_79 : decode cX8_tries 79 = .ok (.ifCond .lt 28, 3) := by decide +kernel
theorem dX8_tries_82 : decode cX8_tries 82 = .ok (.iload 4, 2) := by decide +kernel
theorem dX8_tries_84 : decode cX8_tries 84 = .ok (.aload_n 0, 1) := by decide +kernel
theorem dX8_tries_85 : decode cX8_tries 85 = .ok (.getfield 13, 3) := by decide +kernel
theorem dX8_tries_88 : decode cX8_tries 88 = .ok (.iload 7, 2) := by decide +kernel
theorem dX8_tries_90 : decode cX8_tries 90 = .ok (.iaload, 1) := by decide +kernel
theorem dX8_tries_91 : decode cX8_tries 91 = .ok (.iload 6, 2) := by decide +kernel
theorem dX8_tries_93 : decode cX8_tries 93 = .ok (.if_icmp .ne 7, 3) := by decide +kernel
theorem dX8_tries_96 : decode cX8_tries 96 = .ok (.iconst 1, 1) := by decide +kernel
theorem dX8_tries_97 : decode cX8_tries 97 = .ok (.goto 4, 3) := by decide +kernel
theorem dX8_tries_100 : decode cX8_tries 100 = .ok (.iconst 0, 1) := by decide +kernel
theorem dX8_tries_101 : decode cX8_tries 101 = .ok (.iand, 1) := by decide +kernel
theorem dX8_tries_102 : decode cX8_tries 102 = .ok (.istore 4, 2) := by decide +kernel
theorem dX8_tries_104 : decode cX8_tries 104 = .ok (.goto 56, 3) := by decide +kernel
theorem dX8_tries_107 : decode cX8_tries 107 = .ok (.iconst 4, 1) := by decide +kernel
theorem dX8_tries_108 : decode cX8_tries 108 = .ok (.iload_n 1, 1) := by decide +kernel
theorem dX8_tries_109 : decode cX8_tries 109 = .ok (.imul, 1) := by decide +kernel
theorem dX8_tries_110 : decode cX8_tries 110 = .ok (.iconst 4, 1) := by decide +kernel
theorem dX8_tries_111 : decode cX8_tries 111 = .ok (.iadd, 1) := by decide +kernel
theorem dX8_tries_112 : decode cX8_tries 112 = .ok (.iconst 1, 1) := by decide +kernel
theorem dX8_tries_113 : decode cX8_tries 113 = .ok (.isub, 1) := by decide +kernel
theorem dX8_tries_114 : decode cX8_tries 114 = .ok (.iload 6, 2) := by decide +kernel
theorem dX8_tries_116 : decode cX8_tries 116 = .ok (.isub, 1) := by decide +kernel
theorem dX8_tries_117 : decode cX8_tries 117 = .ok (.istore 8, 2) := by decide +kernel
theorem dX8_tries_119 : decode cX8_tries 119 = .ok (.iload 4, 2) := by decide +kernel
theorem dX8_tries_121 : decode cX8_tries 121 = .ok (.aload_n 0, 1) := by decide +kernel
theorem dX8_tries_122 : decode cX8_tries 122 = .ok (.getfield 22, 3) := by decide +kernel
theorem dX8_tries_125 : decode cX8_tries 125 = .ok (.iload 8, 2) := by decide +kernel
theorem dX8_tries_127 : decode cX8_tries 127 = .ok (.iaload, 1) := by decide +kernel
theorem dX8_tries_128 : decode cX8_tries 128 = .ok (.ifCond .lt 15, 3) := by decide +kernel
theorem dX8_tries_131 : decode cX8_tries 131 = .ok (.aload_n 0, 1) := by decide +kernel
theorem dX8_tries_132 : decode cX8_tries 132 = .ok (.getfield 22, 3) := by decide +kernel
theorem dX8_tries_135 : decode cX8_tries 135 = .ok (.iload 8, 2) := by decide +kernel
theorem dX8_tries_137 : decode cX8_tries 137 = .ok (.iaload, 1) := by decide +kernel
theorem dX8_tries_138 : decode cX8_tries 138 = .ok (.iload 7, 2) := by decide +kernel
theorem dX8_tries_140 : decode cX8_tries 140 = .ok (.if_icmp .ne 7, 3) := by decide +kernel
theorem dX8_tries_143 : decode cX8_tries 143 = .ok (.iconst 1, 1) := by decide +kernel
theorem dX8_tries_144 : decode cX8_tries 144 = .ok (.goto 4, 3) := by decide +kernel
theorem dX8_tries_147 : decode cX8_tries 147 = .ok (.iconst 0, 1) := by decide +kernel
theorem dX8_tries_148 : decode cX8_tries 148 = .ok (.iand, 1) := by decide +kernel
theorem dX8_tries_149 : decode cX8_tries 149 = .ok (.istore 4, 2) := by decide +kernel
theorem dX8_tries_151 : decode cX8_tries 151 = .ok (.aload_n 0, 1) := by decide +kernel
theorem dX8_tries_152 : decode cX8_tries 152 = .ok (.getfield 22, 3) := by decide +kernel
theorem dX8_tries_155 : decode cX8_tries 155 = .ok (.iload 8, 2) := by decide +kernel
theorem dX8_tries_157 : decode cX8_tries 157 = .ok (.iload 7, 2) := by decide +kernel
theorem dX8_tries_159 : decode cX8_tries 159 = .ok (.iastore, 1) := by decide +kernel
theorem dX8_tries_160 : decode cX8_tries 160 = .ok (.iinc 5 1, 3) := by decide +kernel
theorem dX8_tries_163 : decode cX8_tries 163 = .ok (.goto (-118), 3) := by decide +kernel
theorem dX8_tries_166 : decode cX8_tries 166 = .ok (.iload 4, 2) := by decide +kernel
theorem dX8_tries_168 : decode cX8_tries 168 = .ok (.ireturn, 1) := by decide +kernel
theorem dX8_frees_0 : decode cX8_frees 0 = .ok (.iconst 0, 1) := by decide +kernel
theorem dX8_frees_1 : decode cX8_frees 1 = .ok (.istore_n 1, 1) := by decide +kernel
theorem dX8_frees_2 : decode cX8_frees 2 = .ok (.iload_n 1, 1) := by decide +kernel
theorem dX8_frees_3 : decode cX8_frees 3 = .ok (.iconst 4, 1) := by decide +kernel
theorem dX8_frees_4 : decode cX8_frees 4 = .ok (.if_icmp .ge 16, 3) := by decide +kernel
theorem dX8_frees_7 : decode cX8_frees 7 = .ok (.aload_n 0, 1) := by decide +kernel
theorem dX8_frees_8 : decode cX8_frees 8 = .ok (.getfield 22, 3) := by decide +kernel
theorem dX8_frees_11 : decode cX8_frees 11 = .ok (.iload_n 1, 1) := by decide +kernel
theorem dX8_frees_12 : decode cX8_frees 12 = .ok (.iconst (-1), 1) := by decide +kernel
theorem dX8_frees_13 : decode cX8_frees 13 = .ok (.iastore, 1) := by decide +kernel
theorem dX8_frees_14 : decode cX8_frees 14 = .ok (.iinc 1 1, 3) := by decide +kernel
theorem dX8_frees_17 : decode cX8_frees 17 = .ok (.goto (-15), 3) := by decide +kernel
theorem dX8_frees_20 : decode cX8_frees 20 = .ok (.return_, 1) := by decide +kernel
theorem dX8_matching_0 : decode cX8_matching 0 = .ok (.aload_n 0, 1) := by decide +kernel
theorem dX8_matching_1 : decode cX8_matching 1 = .ok (.invokevirtual 70, 3) := by decide +kernel
theorem dX8_matching_4 : decode cX8_matching 4 = .ok (.iconst 0, 1) := by decide +kernel
theorem dX8_matching_5 : decode cX8_matching 5 = .ok (.istore_n 2, 1) := by decide +kernel
theorem dX8_matching_6 : decode cX8_matching 6 = .ok (.iconst 0, 1) := by decide +kernel
theorem dX8_matching_7 : decode cX8_matching 7 = .ok (.istore_n 3, 1) := by decide +kernel
theorem dX8_matching_8 : decode cX8_matching 8 = .ok (.iload_n 3, 1) := by decide +kernel
theorem dX8_matching_9 : decode cX8_matching 9 = .ok (.aload_n 0, 1) := by decide +kernel
theorem dX8_matching_10 : decode cX8_matching 10 = .ok (.getfield 39, 3) := by decide +kernel
theorem dX8_matching_13 : decode cX8_matching 13 = .ok (.if_icmp .ge 27, 3) := by decide +kernel
theorem dX8_matching_16 : decode cX8_matching 16 = .ok (.iload_n 2, 1) := by decide +kernel
theorem dX8_matching_17 : decode cX8_matching 17 = .ok (.aload_n 0, 1) := by decide +kernel
theorem dX8_matching_18 : decode cX8_matching 18 = .ok (.iconst 0, 1) := by decide +kernel
theorem dX8_matching_19 : decode cX8_matching 19 = .ok (.iload_n 1, 1) := by decide +kernel
theorem dX8_matching_20 : decode cX8_matching 20 = .ok (.iload_n 3, 1) := by decide +kernel
theorem dX8_matching_21 : decode cX8_matching 21 = .ok (.invokevirtual 73, 3) := by decide +kernel
theorem dX8_matching_24 : decode cX8_matching 24 = .ok (.ifCond .eq 7, 3) := by decide +kernel
theorem dX8_matching_27 : decode cX8_matching 27 = .ok (.iconst 1, 1) := by decide +kernel
theorem dX8_matching_28 : decode cX8_matching 28 = .ok (.goto 4, 3) := by decide +kernel
theorem dX8_matching_31 : decode cX8_matching 31 = .ok (.iconst 0, 1) := by decide +kernel
theorem dX8_matching_32 : decode cX8_matching 32 = .ok (.iadd, 1) := by decide +kernel
theorem dX8_matching_33 : decode cX8_matching 33 = .ok (.istore_n 2, 1) := by decide +kernel
theorem dX8_matching_34 : decode cX8_matching 34 = .ok (.iinc 3 1, 3) := by decide +kernel
theorem dX8_matching_37 : decode cX8_matching 37 = .ok (.goto (-29), 3) := by decide +kernel
theorem dX8_matching_40 : decode cX8_matching 40 = .ok (.iload_n 2, 1) := by decide +kernel
theorem dX8_matching_41 : decode cX8_matching 41 = .ok (.ireturn, 1) := by decide +kernel
theorem dX8_matches_0 : decode cX8_matches 0 = .ok (.aload_n 0, 1) := by decide +kernel
theorem dX8_matches_1 : decode cX8_matches 1 = .ok (.iload_n 1, 1) := by decide +kernel
theorem dX8_matches_2 : decode cX8_matches 2 = .ok (.iconst 0, 1) := by decide +kernel
theorem dX8_matches_3 : decode cX8_matches 3 = .ok (.aload_n 0, 1) := by decide +kernel
theorem dX8_matches_4 : decode cX8_matches 4 = .ok (.getfield 67, 3) := by decide +kernel
theorem dX8_matches_7 : decode cX8_matches 7 = .ok (.iconst 1, 1) := by decide +kernel
theorem dX8_matches_8 : decode cX8_matches 8 = .ok (.isub, 1) := by decide +kernel
theorem dX8_matches_9 : decode cX8_matches 9 = .ok (.invokestatic 35, 3) := by decide +kernel
theorem dX8_matches_12 : decode cX8_matches 12 = .ok (.ifCond .eq 7, 3) := by decide +kernel
theorem dX8_matches_15 : decode cX8_matches 15 = .ok (.iconst 0, 1) := by decide +kernel
theorem dX8_matches_16 : decode cX8_matches 16 = .ok (.goto 4, 3) := by decide +kernel
theorem dX8_matches_19 : decode cX8_matches 19 = .ok (.iconst 1, 1) := by decide +kernel
theorem dX8_matches_20 : decode cX8_matches 20 = .ok (.putfield 31, 3) := by decide +kernel
theorem dX8_matches_23 : decode cX8_matches 23 = .ok (.aload_n 0, 1) := by decide +kernel
theorem dX8_matches_24 : decode cX8_matches 24 = .ok (.getfield 31, 3) := by decide +kernel
theorem dX8_matches_27 : decode cX8_matches 27 = .ok (.ifCond .le 7, 3) := by decide +kernel
theorem dX8_matches_30 : decode cX8_matches 30 = .ok (.iconst 0, 1) := by decide +kernel
theorem dX8_matches_31 : decode cX8_matches 31 = .ok (.goto 8, 3) := by decide +kernel
theorem dX8_matches_34 : decode cX8_matches 34 = .ok (.aload_n 0, 1) := by decide +kernel
theorem dX8_matches_35 : decode cX8_matches 35 = .ok (.iload_n 1, 1) := by decide +kernel
theorem dX8_matches_36 : decode cX8_matches 36 = .ok (.invokevirtual 76, 3) := by decide +kernel
theorem dX8_matches_39 : decode cX8_matches 39 = .ok (.ireturn, 1) := by decide +kernel
theorem dX8_variablesOf_0 : decode cX8_variablesOf 0 = .ok (.iconst 0, 1) := by decide +kernel
theorem dX8_variablesOf_1 : decode cX8_variablesOf 1 = .ok (.istore_n 2, 1) := by decide +kernel
theorem dX8_variablesOf_2 : decode cX8_variablesOf 2 = .ok (.iconst 3, 1) := by decide +kernel
theorem dX8_variablesOf_3 : decode cX8_variablesOf 3 = .ok (.iload_n 1, 1) := by decide +kernel
theorem dX8_variablesOf_4 : decode cX8_variablesOf 4 = .ok (.imul, 1) := by decide +kernel
theorem dX8_variablesOf_5 : decode cX8_variablesOf 5 = .ok (.istore_n 3, 1) := by decide +kernel
theorem dX8_variablesOf_6 : decode cX8_variablesOf 6 = .ok (.iload_n 3, 1) := by decide +kernel
theorem dX8_variablesOf_7 : decode cX8_variablesOf 7 = .ok (.iconst 3, 1) := by decide +kernel
theorem dX8_variablesOf_8 : decode cX8_variablesOf 8 = .ok (.iload_n 1, 1) := by decide +kernel
theorem dX8_variablesOf_9 : decode cX8_variablesOf 9 = .ok (.imul, 1) := by decide +kernel
theorem dX8_variablesOf_10 : decode cX8_variablesOf 10 = .ok (.iconst 3, 1) := by decide +kernel
theorem dX8_variablesOf_11 : decode cX8_variablesOf 11 = .ok (.iadd, 1) := by decide +kernel
theorem dX8_variablesOf_12 : decode cX8_variablesOf 12 = .ok (.if_icmp .ge 35, 3) := by decide +kernel
theorem dX8_variablesOf_15 : decode cX8_variablesOf 15 = .ok (.iload_n 2, 1) := by decide +kernel
theorem dX8_variablesOf_16 : decode cX8_variablesOf 16 = .ok (.aload_n 0, 1) := by decide +kernel
theorem dX8_variablesOf_17 : decode cX8_variablesOf 17 = .ok (.getfield 19, 3) := by decide +kernel
theorem dX8_variablesOf_20 : decode cX8_variablesOf 20 = .ok (.iload_n 3, 1) := by decide +kernel
theorem dX8_variablesOf_21 : decode cX8_variablesOf 21 = .ok (.iaload, 1) := by decide +kernel
theorem dX8_variablesOf_22 : decode cX8_variablesOf 22 = .ok (.ifCond .ge 16, 3) := by decide +kernel
theorem dX8_variablesOf_25 : decode cX8_variablesOf 25 = .ok (.iconst 1, 1) := by decide +kernel
theorem dX8_variablesOf_26 : decode cX8_variablesOf 26 = .ok (.iconst (-1), 1) := by decide +kernel
theorem dX8_variablesOf_27 : decode cX8_variablesOf 27 = .ok (.aload_n 0, 1) := by decide +kernel
theorem dX8_variablesOf_28 : decode cX8_variablesOf 28 = .ok (.getfield 19, 3) := by decide +kernel
theorem dX8_variablesOf_31 : decode cX8_variablesOf 31 = .ok (.iload_n 3, 1) := by decide +kernel
theorem dX8_variablesOf_32 : decode cX8_variablesOf 32 = .ok (.iaload, 1) := by decide +kernel
theorem dX8_variablesOf_33 : decode cX8_variablesOf 33 = .ok (.isub, 1) := by decide +kernel
theorem dX8_variablesOf_34 : decode cX8_variablesOf 34 = .ok (.ishl, 1) := by decide +kernel
theorem dX8_variablesOf_35 : decode cX8_variablesOf 35 = .ok (.goto 4, 3) := by decide +kernel
theorem dX8_variablesOf_38 : decode cX8_variablesOf 38 = .ok (.iconst 0, 1) := by decide +kernel
theorem dX8_variablesOf_39 : decode cX8_variablesOf 39 = .ok (.ior, 1) := by decide +kernel
theorem dX8_variablesOf_40 : decode cX8_variablesOf 40 = .ok (.istore_n 2, 1) := by decide +kernel
theorem dX8_variablesOf_41 : decode cX8_variablesOf 41 = .ok (.iinc 3 1, 3) := by decide +kernel
theorem dX8_variablesOf_44 : decode cX8_variablesOf 44 = .ok (.goto (-38), 3) := by decide +kernel
theorem dX8_variablesOf_47 : decode cX8_variablesOf 47 = .ok (.iload_n 2, 1) := by decide +kernel
theorem dX8_variablesOf_48 : decode cX8_variablesOf 48 = .ok (.ireturn, 1) := by decide +kernel
theorem dX8_allVariables_0 : decode cX8_allVariables 0 = .ok (.iconst 0, 1) := by decide +kernel
theorem dX8_allVariables_1 : decode cX8_allVariables 1 = .ok (.istore_n 1, 1) := by decide +kernel
theorem dX8_allVariables_2 : decode cX8_allVariables 2 = .ok (.iconst 0, 1) := by decide +kernel
theorem dX8_allVariables_3 : decode cX8_allVariables 3 = .ok (.istore_n 2, 1) := by decide +kernel
theorem dX8_allVariables_4 : decode cX8_allVariables 4 = .ok (.iload_n 2, 1) := by decide +kernel
theorem dX8_allVariables_5 : decode cX8_allVariables 5 = .ok (.aload_n 0, 1) := by decide +kernel
theorem dX8_allVariables_6 : decode cX8_allVariables 6 = .ok (.getfield 67, 3) := by decide +kernel
theorem dX8_allVariables_9 : decode cX8_allVariables 9 = .ok (.if_icmp .ge 17, 3) := by decide +kernel
theorem dX8_allVariables_12 : decode cX8_allVariables 12 = .ok (.iload_n 1, 1) := by decide +kernel
theorem dX8_allVariables_13 : decode cX8_allVariables 13 = .ok (.aload_n 0, 1) := by decide +kernel
theorem dX8_allVariables_14 : decode cX8_allVariables 14 = .ok (.iload_n 2, 1) := by decide +kernel
theorem dX8_allVariables_15 : decode cX8_allVariables 15 = .ok (.invokevirtual 79, 3) := by decide +kernel
theorem dX8_allVariables_18 : decode cX8_allVariables 18 = .ok (.ior, 1) := by decide +kernel
theorem dX8_allVariables_19 : decode cX8_allVariables 19 = .ok (.istore_n 1, 1) := by decide +kernel
theorem dX8_allVariables_20 : decode cX8_allVariables 20 = .ok (.iinc 2 1, 3) := by decide +kernel
theorem dX8_allVariables_23 : decode cX8_allVariables 23 = .ok (.goto (-19), 3) := by decide +kernel
theorem dX8_allVariables_26 : decode cX8_allVariables 26 = .ok (.iload_n 1, 1) := by decide +kernel
theorem dX8_allVariables_27 : decode cX8_allVariables 27 = .ok (.ireturn, 1) := by decide +kernel
theorem dX8_variables_0 : decode cX8_variables 0 = .ok (.aload_n 0, 1) := by decide +kernel
theorem dX8_variables_1 : decode cX8_variables 1 = .ok (.iconst 0, 1) := by decide +kernel
theorem dX8_variables_2 : decode cX8_variables 2 = .ok (.putfield 31, 3) := by decide +kernel
theorem dX8_variables_5 : decode cX8_variables 5 = .ok (.aload_n 0, 1) := by decide +kernel
theorem dX8_variables_6 : decode cX8_variables 6 = .ok (.invokevirtual 82, 3) := by decide +kernel
theorem dX8_variables_9 : decode cX8_variables 9 = .ok (.ireturn, 1) := by decide +kernel
theorem dX8_shape_0 : decode cX8_shape 0 = .ok (.aload_n 0, 1) := by decide +kernel
theorem dX8_shape_1 : decode cX8_shape 1 = .ok (.iconst 0, 1) := by decide +kernel
theorem dX8_shape_2 : decode cX8_shape 2 = .ok (.putfield 31, 3) := by decide +kernel
theorem dX8_shape_5 : decode cX8_shape 5 = .ok (.aload_n 0, 1) := by decide +kernel
theorem dX8_shape_6 : decode cX8_shape 6 = .ok (.getfield 67, 3) := by decide +kernel
theorem dX8_shape_9 : decode cX8_shape 9 = .ok (.iconst 1, 1) := by decide +kernel
theorem dX8_shape_10 : decode cX8_shape 10 = .ok (.if_icmp .le 7, 3) := by decide +kernel
theorem dX8_shape_13 : decode cX8_shape 13 = .ok (.iconst 1, 1) := by decide +kernel
theorem dX8_shape_14 : decode cX8_shape 14 = .ok (.goto 4, 3) := by decide +kernel
theorem dX8_shape_17 : decode cX8_shape 17 = .ok (.iconst 0, 1) := by decide +kernel
theorem dX8_shape_18 : decode cX8_shape 18 = .ok (.istore_n 1, 1) := by decide +kernel
theorem dX8_shape_19 : decode cX8_shape 19 = .ok (.aload_n 0, 1) := by decide +kernel
theorem dX8_shape_20 : decode cX8_shape 20 = .ok (.getfield 67, 3) := by decide +kernel
theorem dX8_shape_23 : decode cX8_shape 23 = .ok (.iconst 1, 1) := by decide +kernel
theorem dX8_shape_24 : decode cX8_shape 24 = .ok (.if_icmp .le 7, 3) := by decide +kernel
theorem dX8_shape_27 : decode cX8_shape 27 = .ok (.iconst 1, 1) := by decide +kernel
theorem dX8_shape_28 : decode cX8_shape 28 = .ok (.goto 4, 3) := by decide +kernel
theorem dX8_shape_31 : decode cX8_shape 31 = .ok (.iconst 0, 1) := by decide +kernel
theorem dX8_shape_32 : decode cX8_shape 32 = .ok (.istore_n 2, 1) := by decide +kernel
theorem dX8_shape_33 : decode cX8_shape 33 = .ok (.iconst 1, 1) := by decide +kernel
theorem dX8_shape_34 : decode cX8_shape 34 = .ok (.istore_n 3, 1) := by decide +kernel
theorem dX8_shape_35 : decode cX8_shape 35 = .ok (.iload_n 3, 1) := by decide +kernel
theorem dX8_shape_36 : decode cX8_shape 36 = .ok (.aload_n 0, 1) := by decide +kernel
theorem dX8_shape_37 : decode cX8_shape 37 = .ok (.getfield 67, 3) := by decide +kernel
theorem dX8_shape_40 : decode cX8_shape 40 = .ok (.if_icmp .ge 85, 3) := by decide +kernel
theorem dX8_shape_43 : decode cX8_shape 43 = .ok (.iload_n 1, 1) := by decide +kernel
theorem dX8_shape_44 : decode cX8_shape 44 = .ok (.aload_n 0, 1) := by decide +kernel
theorem dX8_shape_45 : decode cX8_shape 45 = .ok (.getfield 19, 3) := by decide +kernel
theorem dX8_shape_48 : decode cX8_shape 48 = .ok (.iconst 0, 1) := by decide +kernel
theorem dX8_shape_49 : decode cX8_shape 49 = .ok (.iaload, 1) := by decide +kernel
theorem dX8_shape_50 : decode cX8_shape 50 = .ok (.ifCond .ge 24, 3) := by decide +kernel
theorem dX8_shape_53 : decode cX8_shape 53 = .ok (.aload_n 0, 1) := by decide +kernel
theorem dX8_shape_54 : decode cX8_shape 54 = .ok (.getfield 19, 3) := by decide +kernel
theorem dX8_shape_57 : decode cX8_shape 57 = .ok (.iconst 3, 1) := by decide +kernel
theorem dX8_shape_58 : decode cX8_shape 58 = .ok (.iload_n 3, 1) := by decide +kernel
theorem dX8_shape_59 : decode cX8_shape 59 = .ok (.imul, 1) := by decide +kernel
theorem dX8_shape_60 : decode cX8_shape 60 = .ok (.iaload, 1) := by decide +kernel
theorem dX8_shape_61 : decode cX8_shape 61 = .ok (.aload_n 0, 1) := by decide +kernel
theorem dX8_shape_62 : decode cX8_shape 62 = .ok (.getfield 19, 3) := by decide +kernel
theorem dX8_shape_65 : decode cX8_shape 65 = .ok (.iconst 0, 1) := by decide +kernel
theorem dX8_shape_66 : decode cX8_shape 66 = .ok (.iaload, 1) := by decide +kernel
theorem dX8_shape_67 : decode cX8_shape 67 = .ok (.if_icmp .ne 7, 3) := by decide +kernel
theorem dX8_shape_70 : decode cX8_shape 70 = .ok (.iconst 1, 1) := by decide +kernel
theorem dX8_shape_71 : decode cX8_shape 71 = .ok (.goto 4, 3) := by decide +kernel
theorem dX8_shape_74 : decode cX8_shape 74 = .ok (.iconst 0, 1) := by decide +kernel
theorem dX8_shape_75 : decode cX8_shape 75 = .ok (.iand, 1) := by decide +kernel
theorem dX8_shape_76 : decode cX8_shape 76 = .ok (.istore_n 1, 1) := by decide +kernel
theorem dX8_shape_77 : decode cX8_shape 77 = .ok (.iload_n 2, 1) := by decide +kernel
theorem dX8_shape_78 : decode cX8_shape 78 = .ok (.aload_n 0, 1) := by decide +kernel
theorem dX8_shape_79 : decode cX8_shape 79 = .ok (.getfield 19, 3) := by decide +kernel
theorem dX8_shape_82 : decode cX8_shape 82 = .ok (.iconst 3, 1) := by decide +kernel
theorem dX8_shape_83 : decode cX8_shape 83 = .ok (.iload_n 3, 1) := by decide +kernel
theorem dX8_shape_84 : decode cX8_shape 84 = .ok (.imul, 1) := by decide +kernel
theorem dX8_shape_85 : decode cX8_shape 85 = .ok (.iconst 1, 1) := by decide +kernel
theorem dX8_shape_86 : decode cX8_shape 86 = .ok (.isub, 1) := by decide +kernel
theorem dX8_shape_87 : decode cX8_shape 87 = .ok (.iaload, 1) := by decide +kernel
theorem dX8_shape_88 : decode cX8_shape 88 = .ok (.ifCond .ge 28, 3) := by decide +kernel
theorem dX8_shape_91 : decode cX8_shape 91 = .ok (.aload_n 0, 1) := by decide +kernel
theorem dX8_shape_92 : decode cX8_shape 92 = .ok (.getfield 19, 3) := by decide +kernel
theorem dX8_shape_95 : decode cX8_shape 95 = .ok (.iconst 3, 1) := by decide +kernel
theorem dX8_shape_96 : decode cX8_shape 96 = .ok (.iload_n 3, 1) := by decide +kernel
theorem dX8_shape_97 : decode cX8_shape 97 = .ok (.imul, 1) := by decide +kernel
theorem dX8_shape_98 : decode cX8_shape 98 = .ok (.iconst 1, 1) := by decide +kernel
theorem dX8_shape_99 : decode cX8_shape 99 = .ok (.isub, 1) := by decide +kernel
theorem dX8_shape_100 : decode cX8_shape 100 = .ok (.iaload, 1) := by decide +kernel
theorem dX8_shape_101 : decode cX8_shape 101 = .ok (.aload_n 0, 1) := by decide +kernel
theorem dX8_shape_102 : decode cX8_shape 102 = .ok (.getfield 19, 3) := by decide +kernel
theorem dX8_shape_105 : decode cX8_shape 105 = .ok (.iconst 3, 1) := by decide +kernel
theorem dX8_shape_106 : decode cX8_shape 106 = .ok (.iload_n 3, 1) := by decide +kernel
theorem dX8_shape_107 : decode cX8_shape 107 = .ok (.imul, 1) := by decide +kernel
theorem dX8_shape_108 : decode cX8_shape 108 = .ok (.iaload, 1) := by decide +kernel
theorem dX8_shape_109 : decode cX8_shape 109 = .ok (.if_icmp .ne 7, 3) := by decide +kernel
theorem dX8_shape_112 : decode cX8_shape 112 = .ok (.iconst 1, 1) := by decide +kernel
theorem dX8_shape_113 : decode cX8_shape 113 = .ok (.goto 4, 3) := by decide +kernel
theorem dX8_shape_116 : decode cX8_shape 116 = .ok (.iconst 0, 1) := by decide +kernel
theorem dX8_shape_117 : decode cX8_shape 117 = .ok (.iand, 1) := by decide +kernel
theorem dX8_shape_118 : decode cX8_shape 118 = .ok (.istore_n 2, 1) := by decide +kernel
theorem dX8_shape_119 : decode cX8_shape 119 = .ok (.iinc 3 1, 3) := by decide +kernel
theorem dX8_shape_122 : decode cX8_shape 122 = .ok (.goto (-87), 3) := by decide +kernel
theorem dX8_shape_125 : decode cX8_shape 125 = .ok (.iload_n 1, 1) := by decide +kernel
theorem dX8_shape_126 : decode cX8_shape 126 = .ok (.ifCond .eq 7, 3) := by decide +kernel
theorem dX8_shape_129 : decode cX8_shape 129 = .ok (.iconst 1, 1) := by decide +kernel
theorem dX8_shape_130 : decode cX8_shape 130 = .ok (.goto 4, 3) := by decide +kernel
theorem dX8_shape_133 : decode cX8_shape 133 = .ok (.iconst 0, 1) := by decide +kernel
theorem dX8_shape_134 : decode cX8_shape 134 = .ok (.iload_n 2, 1) := by decide +kernel
theorem dX8_shape_135 : decode cX8_shape 135 = .ok (.ifCond .eq 7, 3) := by decide +kernel
theorem dX8_shape_138 : decode cX8_shape 138 = .ok (.iconst 2, 1) := by decide +kernel
theorem dX8_shape_139 : decode cX8_shape 139 = .ok (.goto 4, 3) := by decide +kernel
theorem dX8_shape_142 : decode cX8_shape 142 = .ok (.iconst 0, 1) := by decide +kernel
theorem dX8_shape_143 : decode cX8_shape 143 = .ok (.iadd, 1) := by decide +kernel
theorem dX8_shape_144 : decode cX8_shape 144 = .ok (.ireturn, 1) := by decide +kernel
theorem dX8_joined_0 : decode cX8_joined 0 = .ok (.aload_n 0, 1) := by decide +kernel
theorem dX8_joined_1 : decode cX8_joined 1 = .ok (.iload_n 1, 1) := by decide +kernel
theorem dX8_joined_2 : decode cX8_joined 2 = .ok (.iconst 0, 1) := by decide +kernel
theorem dX8_joined_3 : decode cX8_joined 3 = .ok (.aload_n 0, 1) := by decide +kernel
theorem dX8_joined_4 : decode cX8_joined 4 = .ok (.getfield 67, 3) := by decide +kernel
theorem dX8_joined_7 : decode cX8_joined 7 = .ok (.iconst 1, 1) := by decide +kernel
theorem dX8_joined_8 : decode cX8_joined 8 = .ok (.isub, 1) := by decide +kernel
theorem dX8_joined_9 : decode cX8_joined 9 = .ok (.invokestatic 35, 3) := by decide +kernel
theorem dX8_joined_12 : decode cX8_joined 12 = .ok (.ifCond .eq 7, 3) := by decide +kernel
theorem dX8_joined_15 : decode cX8_joined 15 = .ok (.iconst 0, 1) := by decide +kernel
theorem dX8_joined_16 : decode cX8_joined 16 = .ok (.goto 4, 3) := by decide +kernel
theorem dX8_joined_19 : decode cX8_joined 19 = .ok (.iconst 1, 1) := by decide +kernel
theorem dX8_joined_20 : decode cX8_joined 20 = .ok (.putfield 31, 3) := by decide +kernel
theorem dX8_joined_23 : decode cX8_joined 23 = .ok (.iconst 0, 1) := by decide +kernel
theorem dX8_joined_24 : decode cX8_joined 24 = .ok (.istore_n 2, 1) := by decide +kernel
theorem dX8_joined_25 : decode cX8_joined 25 = .ok (.iconst 0, 1) := by decide +kernel
theorem dX8_joined_26 : decode cX8_joined 26 = .ok (.istore_n 3, 1) := by decide +kernel
theorem dX8_joined_27 : decode cX8_joined 27 = .ok (.iconst 0, 1) := by decide +kernel
theorem dX8_joined_28 : decode cX8_joined 28 = .ok (.istore 4, 2) := by decide +kernel
theorem dX8_joined_30 : decode cX8_joined 30 = .ok (.iconst 0, 1) := by decide +kernel
theorem dX8_joined_31 : decode cX8_joined 31 = .ok (.istore 5, 2) := by decide +kernel
theorem dX8_joined_33 : decode cX8_joined 33 = .ok (.iload 5, 2) := by decide +kernel
theorem dX8_joined_35 : decode cX8_joined 35 = .ok (.iload_n 1, 1) := by decide +kernel
theorem dX8_joined_36 : decode cX8_joined 36 = .ok (.if_icmp .gt 170, 3) := by decide +kernel
theorem dX8_joined_39 : decode cX8_joined 39 = .ok (.aload_n 0, 1) := by decide +kernel
theorem dX8_joined_40 : decode cX8_joined 40 = .ok (.getfield 31, 3) := by decide +kernel
theorem dX8_joined_43 : decode cX8_joined 43 = .ok (.ifCond .ne 163, 3) := by decide +kernel
theorem dX8_joined_46 : decode cX8_joined 46 = .ok (.iconst 0, 1) := by decide +kernel
theorem dX8_joined_47 : decode cX8_joined 47 = .ok (.istore 6, 2) := by decide +kernel
theorem dX8_joined_49 : decode cX8_joined 49 = .ok (.iconst 0, 1) := by decide +kernel
theorem dX8_joined_50 : decode cX8_joined 50 = .ok (.istore 7, 2) := by decide +kernel
theorem dX8_joined_52 : decode cX8_joined 52 = .ok (.iload 7, 2) := by decide +kernel
theorem dX8_joined_54 : decode cX8_joined 54 = .ok (.aload_n 0, 1) := by decide +kernel
theorem dX8_joined_55 : decode cX8_joined 55 = .ok (.getfield 67, 3) := by decide +kernel
theorem dX8_joined_58 : decode cX8_joined 58 = .ok (.if_icmp .ge 39, 3) := by decide +kernel
theorem dX8_joined_61 : decode cX8_joined 61 = .ok (.iload 6, 2) := by decide +kernel
theorem dX8_joined_63 : decode cX8_joined 63 = .ok (.iload_n 2, 1) := by decide +kernel
theorem dX8_joined_64 : decode cX8_joined 64 = .ok (.iload 7, 2) := by decide +kernel
theorem dX8_joined_66 : decode cX8_joined 66 = .ok (.ishr, 1) := by decide +kernel
theorem dX8_joined_67 : decode cX8_joined 67 = .ok (.iconst 1, 1) := by decide +kernel
theorem dX8_joined_68 : decode cX8_joined 68 = .ok (.iand, 1) := by decide +kernel
theorem dX8_joined_69 : decode cX8_joined 69 = .ok (.ifCond .ne 18, 3) := by decide +kernel
theorem dX8_joined_72 : decode cX8_joined 72 = .ok (.aload_n 0, 1) := by decide +kernel
theorem dX8_joined_73 : decode cX8_joined 73 = .ok (.iload 7, 2) := by decide +kernel
theorem dX8_joined_75 : decode cX8_joined 75 = .ok (.invokevirtual 79, 3) := by decide +kernel
theorem dX8_joined_78 : decode cX8_joined 78 = .ok (.iload_n 3, 1) := by decide +kernel
theorem dX8_joined_79 : decode cX8_joined 79 = .ok (.iand, 1) := by decide +kernel
theorem dX8_joined_80 : decode cX8_joined 80 = .ok (.ifCond .eq 7, 3) := by decide +kernel
theorem dX8_joined_83 : decode cX8_joined 83 = .ok (.iconst 1, 1) := by decide +kernel
theorem dX8_joined_84 : decode cX8_joined 84 = .ok (.goto 4, 3) := by decide +kernel
theorem dX8_joined_87 : decode cX8_joined 87 = .ok (.iconst 0, 1) := by decide +kernel
theorem dX8_joined_88 : decode cX8_joined 88 = .ok (.ior, 1) := by decide +kernel
theorem dX8_joined_89 : decode cX8_joined 89 = .ok (.istore 6, 2) := by decide +kernel
theorem dX8_joined_91 : decode cX8_joined 91 = .ok (.iinc 7 1, 3) := by decide +kernel
theorem dX8_joined_94 : decode cX8_joined 94 = .ok (.goto (-42), 3) := by decide +kernel
theorem dX8_joined_97 : decode cX8_joined 97 = .ok (.iconst (-1), 1) := by decide +kernel
theorem dX8_joined_98 : decode cX8_joined 98 = .ok (.istore 4, 2) := by decide +kernel
theorem dX8_joined_100 : decode cX8_joined 100 = .ok (.iconst 0, 1) := by decide +kernel
theorem dX8_joined_101 : decode cX8_joined 101 = .ok (.istore 7, 2) := by decide +kernel
theorem dX8_joined_103 : decode cX8_joined 103 = .ok (.iload 7, 2) := by decide +kernel
theorem dX8_joined_105 : decode cX8_joined 105 = .ok (.aload_n 0, 1) := by decide +kernel
theorem dX8_joined_106 : decode cX8_joined 106 = .ok (.getfield 67, 3) := by decide +kernel
theorem dX8_joined_109 : decode cX8_joined 109 = .ok (.if_icmp .ge 75, 3) := by decide +kernel
theorem dX8_joined_112 : decode cX8_joined 112 = .ok (.iload_n 2, 1) := by decide +kernel
theorem dX8_joined_113 : decode cX8_joined 113 = .ok (.iload 7, 2) := by decide +kernel
theorem dX8_joined_115 : decode cX8_joined 115 = .ok (.ishr, 1) := by decide +kernel
theorem dX8_joined_116 : decode cX8_joined 116 = .ok (.iconst 1, 1) := by decide +kernel
theorem dX8_joined_117 : decode cX8_joined 117 = .ok (.iand, 1) := by decide +kernel
theorem dX8_joined_118 : decode cX8_joined 118 = .ok (.ifCond .ne 23, 3) := by decide +kernel
theorem dX8_joined_121 : decode cX8_joined 121 = .ok (.iload 6, 2) := by decide +kernel
theorem dX8_joined_123 : decode cX8_joined 123 = .ok (.ifCond .eq 14, 3) := by decide +kernel
theorem dX8_joined_126 : decode cX8_joined 126 = .ok (.aload_n 0, 1) := by decide +kernel
theorem dX8_joined_127 : decode cX8_joined 127 = .ok (.iload 7, 2) := by decide +kernel
theorem dX8_joined_129 : decode cX8_joined 129 = .ok (.invokevirtual 79, 3) := by decide +kernel
theorem dX8_joined_132 : decode cX8_joined 132 = .ok (.iload_n 3, 1) := by decide +kernel
theorem dX8_joined_133 : decode cX8_joined 133 = .ok (.iand, 1) := by decide +kernel
theorem dX8_joined_134 : decode cX8_joined 134 = .ok (.ifCond .eq 7, 3) := by decide +kernel
theorem dX8_joined_137 : decode cX8_joined 137 = .ok (.iconst 1, 1) := by decide +kernel
theorem dX8_joined_138 : decode cX8_joined 138 = .ok (.goto 4, 3) := by decide +kernel
theorem dX8_joined_141 : decode cX8_joined 141 = .ok (.iconst 0, 1) := by decide +kernel
theorem dX8_joined_142 : decode cX8_joined 142 = .ok (.istore 8, 2) := by decide +kernel
theorem dX8_joined_144 : decode cX8_joined 144 = .ok (.iload 8, 2) := by decide +kernel
theorem dX8_joined_146 : decode cX8_joined 146 = .ok (.ifCond .eq 28, 3) := by decide +kernel
theorem dX8_joined_149 : decode cX8_joined 149 = .ok (.iload 4, 2) := by decide +kernel
theorem dX8_joined_151 : decode cX8_joined 151 = .ok (.ifCond .lt 18, 3) := by decide +kernel
theorem dX8_joined_154 : decode cX8_joined 154 = .ok (.aload_n 0, 1) := by decide +kernel
theorem dX8_joined_155 : decode cX8_joined 155 = .ok (.iload 7, 2) := by decide +kernel
theorem dX8_joined_157 : decode cX8_joined 157 = .ok (.invokevirtual 76, 3) := by decide +kernel
theorem dX8_joined_160 : decode cX8_joined 160 = .ok (.aload_n 0, 1) := by decide +kernel
theorem dX8_joined_161 : decode cX8_joined 161 = .ok (.iload 4, 2) := by decide +kernel
theorem dX8_joined_163 : decode cX8_joined 163 = .ok (.invokevirtual 76, 3) := by decide +kernel
theorem dX8_joined_166 : decode cX8_joined 166 = .ok (.if_icmp .ge 8, 3) := by decide +kernel
theorem dX8_joined_169 : decode cX8_joined 169 = .ok (.iload 7, 2) := by decide +kernel
theorem dX8_joined_171 : decode cX8_joined 171 = .ok (.goto 5, 3) := by decide +kernel
theorem dX8_joined_174 : decode cX8_joined 174 = .ok (.iload 4, 2) := by decide +kernel
theorem dX8_joined_176 : decode cX8_joined 176 = .ok (.istore 4, 2) := by decide +kernel
theorem dX8_joined_178 : decode cX8_joined 178 = .ok (.iinc 7 1, 3) := by decide +kernel
theorem dX8_joined_181 : decode cX8_joined 181 = .ok (.goto (-78), 3) := by decide +kernel
theorem dX8_joined_184 : decode cX8_joined 184 = .ok (.iload_n 2, 1) := by decide +kernel
theorem dX8_joined_185 : decode cX8_joined 185 = .ok (.iconst 1, 1) := by decide +kernel
theorem dX8_joined_186 : decode cX8_joined 186 = .ok (.iload 4, 2) := by decide +kernel
theorem dX8_joined_188 : decode cX8_joined 188 = .ok (.ishl, 1) := by decide +kernel
theorem dX8_joined_189 : decode cX8_joined 189 = .ok (.ior, 1) := by decide +kernel
theorem dX8_joined_190 : decode cX8_joined 190 = .ok (.istore_n 2, 1) := by decide +kernel
theorem dX8_joined_191 : decode cX8_joined 191 = .ok (.iload_n 3, 1) := by decide +kernel
theorem dX8_joined_192 : decode cX8_joined 192 = .ok (.aload_n 0, 1) := by decide +kernel
theorem dX8_joined_193 : decode cX8_joined 193 = .ok (.iload 4, 2) := by decide +kernel
theorem dX8_joined_195 : decode cX8_joined 195 = .ok (.invokevirtual 79, 3) := by decide +kernel
theorem dX8_joined_198 : decode cX8_joined 198 = .ok (.ior, 1) := by decide +kernel
theorem dX8_joined_199 : decode cX8_joined 199 = .ok (.istore_n 3, 1) := by decide +kernel
theorem dX8_joined_200 : decode cX8_joined 200 = .ok (.iinc 5 1, 3) := by decide +kernel
theorem dX8_joined_203 : decode cX8_joined 203 = .ok (.goto (-170), 3) := by decide +kernel
theorem dX8_joined_206 : decode cX8_joined 206 = .ok (.aload_n 0, 1) := by decide +kernel
theorem dX8_joined_207 : decode cX8_joined 207 = .ok (.getfield 31, 3) := by decide +kernel
theorem dX8_joined_210 : decode cX8_joined 210 = .ok (.ifCond .le 7, 3) := by decide +kernel
theorem dX8_joined_213 : decode cX8_joined 213 = .ok (.iconst 0, 1) := by decide +kernel
theorem dX8_joined_214 : decode cX8_joined 214 = .ok (.goto 5, 3) := by decide +kernel
theorem dX8_joined_217 : decode cX8_joined 217 = .ok (.iload 4, 2) := by decide +kernel
theorem dX8_joined_219 : decode cX8_joined 219 = .ok (.ireturn, 1) := by decide +kernel
theorem dX8_finds_0 : decode cX8_finds 0 = .ok (.iconst 0, 1) := by decide +kernel
theorem dX8_finds_1 : decode cX8_finds 1 = .ok (.istore_n 2, 1) := by decide +kernel
theorem dX8_finds_2 : decode cX8_finds 2 = .ok (.iconst 0, 1) := by decide +kernel
theorem dX8_finds_3 : decode cX8_finds 3 = .ok (.istore_n 3, 1) := by decide +kernel
theorem dX8_finds_4 : decode cX8_finds 4 = .ok (.iload_n 3, 1) := by decide +kernel
theorem dX8_finds_5 : decode cX8_finds 5 = .ok (.iconst 4, 1) := by decide +kernel
theorem dX8_finds_6 : decode cX8_finds 6 = .ok (.if_icmp .ge 27, 3) := by decide +kernel
theorem dX8_finds_9 : decode cX8_finds 9 = .ok (.bipush 41, 2) := by decide +kernel
theorem dX8_finds_11 : decode cX8_finds 11 = .ok (.iload_n 2, 1) := by decide +kernel
theorem dX8_finds_12 : decode cX8_finds 12 = .ok (.imul, 1) := by decide +kernel
theorem dX8_finds_13 : decode cX8_finds 13 = .ok (.aload_n 0, 1) := by decide +kernel
theorem dX8_finds_14 : decode cX8_finds 14 = .ok (.getfield 22, 3) := by decide +kernel
theorem dX8_finds_17 : decode cX8_finds 17 = .ok (.iconst 4, 1) := by decide +kernel
theorem dX8_finds_18 : decode cX8_finds 18 = .ok (.iload_n 1, 1) := by decide +kernel
theorem dX8_finds_19 : decode cX8_finds 19 = .ok (.imul, 1) := by decide +kernel
theorem dX8_finds_20 : decode cX8_finds 20 = .ok (.iload_n 3, 1) := by decide +kernel
theorem dX8_finds_21 : decode cX8_finds 21 = .ok (.iadd, 1) := by decide +kernel
theorem dX8_finds_22 : decode cX8_finds 22 = .ok (.iaload, 1) := by decide +kernel
theorem dX8_finds_23 : decode cX8_finds 23 = .ok (.iadd, 1) := by decide +kernel
theorem dX8_finds_24 : decode cX8_finds 24 = .ok (.iconst 1, 1) := by decide +kernel
theorem dX8_finds_25 : decode cX8_finds 25 = .ok (.iadd, 1) := by decide +kernel
theorem dX8_finds_26 : decode cX8_finds 26 = .ok (.istore_n 2, 1) := by decide +kernel
theorem dX8_finds_27 : decode cX8_finds 27 = .ok (.iinc 3 1, 3) := by decide +kernel
theorem dX8_finds_30 : decode cX8_finds 30 = .ok (.goto (-26), 3) := by decide +kernel
theorem dX8_finds_33 : decode cX8_finds 33 = .ok (.aload_n 0, 1) := by decide +kernel
theorem dX8_finds_34 : decode cX8_finds 34 = .ok (.getfield 86, 3) := by decide +kernel
theorem dX8_finds_37 : decode cX8_finds 37 = .ok (.sipush 2000, 3) := by decide +kernel
theorem dX8_finds_40 : decode cX8_finds 40 = .ok (.if_icmp .ge 13, 3) := by decide +kernel
theorem dX8_finds_43 : decode cX8_finds 43 = .ok (.aload_n 0, 1) := by decide +kernel
theorem dX8_finds_44 : decode cX8_finds 44 = .ok (.getfield 25, 3) := by decide +kernel
theorem dX8_finds_47 : decode cX8_finds 47 = .ok (.aload_n 0, 1) := by decide +kernel
theorem dX8_finds_48 : decode cX8_finds 48 = .ok (.getfield 86, 3) := by decide +kernel
theorem dX8_finds_51 : decode cX8_finds 51 = .ok (.iload_n 2, 1) := by decide +kernel
theorem dX8_finds_52 : decode cX8_finds 52 = .ok (.iastore, 1) := by decide +kernel
theorem dX8_finds_53 : decode cX8_finds 53 = .ok (.aload_n 0, 1) := by decide +kernel
theorem dX8_finds_54 : decode cX8_finds 54 = .ok (.dup, 1) := by decide +kernel
theorem dX8_finds_55 : decode cX8_finds 55 = .ok (.getfield 86, 3) := by decide +kernel
theorem dX8_finds_58 : decode cX8_finds 58 = .ok (.iconst 1, 1) := by decide +kernel
theorem dX8_finds_59 : decode cX8_finds 59 = .ok (.iadd, 1) := by decide +kernel
theorem dX8_finds_60 : decode cX8_finds 60 = .ok (.putfield 86, 3) := by decide +kernel
theorem dX8_finds_63 : decode cX8_finds 63 = .ok (.return_, 1) := by decide +kernel
theorem dX8_goesThrough_0 : decode cX8_goesThrough 0 = .ok (.aload_n 0, 1) := by decide +kernel
theorem dX8_goesThrough_1 : decode cX8_goesThrough 1 = .ok (.iconst 0, 1) := by decide +kernel
theorem dX8_goesThrough_2 : decode cX8_goesThrough 2 = .ok (.putfield 86, 3) := by decide +kernel
theorem dX8_goesThrough_5 : decode cX8_goesThrough 5 = .ok (.aload_n 0, 1) := by decide +kernel
theorem dX8_goesThrough_6 : decode cX8_goesThrough 6 = .ok (.invokevirtual 70, 3) := by decide +kernel
theorem dX8_goesThrough_9 : decode cX8_goesThrough 9 = .ok (.iconst 0, 1) := by decide +kernel
theorem dX8_goesThrough_10 : decode cX8_goesThrough 10 = .ok (.istore_n 1, 1) := by decide +kernel
theorem dX8_goesThrough_11 : decode cX8_goesThrough 11 = .ok (.iload_n 1, 1) := by decide +kernel
theorem dX8_goesThrough_12 : decode cX8_goesThrough 12 = .ok (.aload_n 0, 1) := by decide +kernel
theorem dX8_goesThrough_13 : decode cX8_goesThrough 13 = .ok (.getfield 39, 3) := by decide +kernel
theorem dX8_goesThrough_16 : decode cX8_goesThrough 16 = .ok (.if_icmp .ge 118, 3) := by decide +kernel
theorem dX8_goesThrough_19 : decode cX8_goesThrough 19 = .ok (.aload_n 0, 1) := by decide +kernel
theorem dX8_goesThrough_20 : decode cX8_goesThrough 20 = .ok (.iconst 0, 1) := by decide +kernel
theorem dX8_goesThrough_21 : decode cX8_goesThrough 21 = .ok (.iconst 0, 1) := by decide +kernel
theorem dX8_goesThrough_22 : decode cX8_goesThrough 22 = .ok (.iload_n 1, 1) := by decide +kernel
theorem dX8_goesThrough_23 : decode cX8_goesThrough 23 = .ok (.invokevirtual 73, 3) := by decide +kernel
theorem dX8_goesThrough_26 : decode cX8_goesThrough 26 = .ok (.ifCond .eq 102, 3) := by decide +kernel
theorem dX8_goesThrough_29 : decode cX8_goesThrough 29 = .ok (.aload_n 0, 1) := by decide +kernel
theorem dX8_goesThrough_30 : decode cX8_goesThrough 30 = .ok (.getfield 67, 3) := by decide +kernel
theorem dX8_goesThrough_33 : decode cX8_goesThrough 33 = .ok (.iconst 1, 1) := by decide +kernel
theorem dX8_goesThrough_34 : decode cX8_goesThrough 34 = .ok (.if_icmp .ne 8, 3) := by decide +kernel
theorem dX8_goesThrough_37 : decode cX8_goesThrough 37 = .ok (.aload_n 0, 1) := by decide +kernel
theorem dX8_goesThrough_38 : decode cX8_goesThrough 38 = .ok (.iconst 1, 1) := by decide +kernel
theorem dX8_goesThrough_39 : decode cX8_goesThrough 39 = .ok (.invokevirtual 89, 3) := by decide +kernel
theorem dX8_goesThrough_42 : decode cX8_goesThrough 42 = .ok (.iconst 0, 1) := by decide +kernel
theorem dX8_goesThrough_43 : decode cX8_goesThrough 43 = .ok (.istore_n 2, 1) := by decide +kernel
theorem dX8_goesThrough_44 : decode cX8_goesThrough 44 = .ok (.iload_n 2, 1) := by decide +kernel
theorem dX8_goesThrough_45 : decode cX8_goesThrough 45 = .ok (.aload_n 0, 1) := by decide +kernel
theorem dX8_goesThrough_46 : decode cX8_goesThrough 46 = .ok (.getfield 39, 3) := by decide +kernel
theorem dX8_goesThrough_49 : decode cX8_goesThrough 49 = .ok (.if_icmp .ge 79, 3) := by decide +kernel
theorem dX8_goesThrough_52 : decode cX8_goesThrough 52 = .ok (.aload_n 0, 1) := by decide +kernel
theorem dX8_goesThrough_53 : decode cX8_goesThrough 53 = .ok (.getfield 67, 3) := by decide +kernel
theorem dX8_goesThrough_56 : decode cX8_goesThrough 56 = .ok (.iconst 1, 1) := by decide +kernel
theorem dX8_goesThrough_57 : decode cX8_goesThrough 57 = .ok (.if_icmp .le 71, 3) := by decide +kernel
theorem dX8_goesThrough_60 : decode cX8_goesThrough 60 = .ok (.aload_n 0, 1) := by decide +kernel
theorem dX8_goesThrough_61 : decode cX8_goesThrough 61 = .ok (.iconst 1, 1) := by decide +kernel
theorem dX8_goesThrough_62 : decode cX8_goesThrough 62 = .ok (.iconst 1, 1) := by decide +kernel
theorem dX8_goesThrough_63 : decode cX8_goesThrough 63 = .ok (.iload_n 2, 1) := by decide +kernel
theorem dX8_goesThrough_64 : decode cX8_goesThrough 64 = .ok (.invokevirtual 73, 3) := by decide +kernel
theorem dX8_goesThrough_67 : decode cX8_goesThrough 67 = .ok (.ifCond .eq 55, 3) := by decide +kernel
theorem dX8_goesThrough_70 : decode cX8_goesThrough 70 = .ok (.aload_n 0, 1) := by decide +kernel
theorem dX8_goesThrough_71 : decode cX8_goesThrough 71 = .ok (.getfield 67, 3) := by decide +kernel
theorem dX8_goesThrough_74 : decode cX8_goesThrough 74 = .ok (.iconst 2, 1) := by decide +kernel
theorem dX8_goesThrough_75 : decode cX8_goesThrough 75 = .ok (.if_icmp .ne 8, 3) := by decide +kernel
theorem dX8_goesThrough_78 : decode cX8_goesThrough 78 = .ok (.aload_n 0, 1) := by decide +kernel
theorem dX8_goesThrough_79 : decode cX8_goesThrough 79 = .ok (.iconst 2, 1) := by decide +kernel
theorem dX8_goesThrough_80 : decode cX8_goesThrough 80 = .ok (.invokevirtual 89, 3) := by decide +kernel
theorem dX8_goesThrough_83 : decode cX8_goesThrough 83 = .ok (.iconst 0, 1) := by decide +kernel
theorem dX8_goesThrough_84 : decode cX8_goesThrough 84 = .ok (.istore_n 3, 1) := by decide +kernel
theorem dX8_goesThrough_85 : decode cX8_goesThrough 85 = .ok (.iload_n 3, 1) := by decide +kernel
theorem dX8_goesThrough_86 : decode cX8_goesThrough 86 = .ok (.aload_n 0, 1) := by decide +kernel
theorem dX8_goesThrough_87 : decode cX8_goesThrough 87 = .ok (.getfield 39, 3) := by decide +kernel
theorem dX8_goesThrough_90 : decode cX8_goesThrough 90 = .ok (.if_icmp .ge 32, 3) := by decide +kernel
theorem dX8_goesThrough_93 : decode cX8_goesThrough 93 = .ok (.aload_n 0, 1) := by decide +kernel
theorem dX8_goesThrough_94 : decode cX8_goesThrough 94 = .ok (.getfield 67, 3) := by decide +kernel
theorem dX8_goesThrough_97 : decode cX8_goesThrough 97 = .ok (.iconst 2, 1) := by decide +kernel
theorem dX8_goesThrough_98 : decode cX8_goesThrough 98 = .ok (.if_icmp .le 24, 3) := by decide +kernel
theorem dX8_goesThrough_101 : decode cX8_goesThrough 101 = .ok (.aload_n 0, 1) := by decide +kernel
theorem dX8_goesThrough_102 : decode cX8_goesThrough 102 = .ok (.iconst 2, 1) := by decide +kernel
theorem dX8_goesThrough_103 : decode cX8_goesThrough 103 = .ok (.iconst 2, 1) := by decide +kernel
theorem dX8_goesThrough_104 : decode cX8_goesThrough 104 = .ok (.iload_n 3, 1) := by decide +kernel
theorem dX8_goesThrough_105 : decode cX8_goesThrough 105 = .ok (.invokevirtual 73, 3) := by decide +kernel
theorem dX8_goesThrough_108 : decode cX8_goesThrough 108 = .ok (.ifCond .eq 8, 3) := by decide +kernel
