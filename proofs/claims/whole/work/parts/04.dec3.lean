theorem dX8_goesThrough_111 : decode cX8_goesThrough 111 = .ok (.aload_n 0, 1) := by decide +kernel
theorem dX8_goesThrough_112 : decode cX8_goesThrough 112 = .ok (.iconst 3, 1) := by decide +kernel
theorem dX8_goesThrough_113 : decode cX8_goesThrough 113 = .ok (.invokevirtual 89, 3) := by decide +kernel
theorem dX8_goesThrough_116 : decode cX8_goesThrough 116 = .ok (.iinc 3 1, 3) := by decide +kernel
theorem dX8_goesThrough_119 : decode cX8_goesThrough 119 = .ok (.goto (-34), 3) := by decide +kernel
theorem dX8_goesThrough_122 : decode cX8_goesThrough 122 = .ok (.iinc 2 1, 3) := by decide +kernel
theorem dX8_goesThrough_125 : decode cX8_goesThrough 125 = .ok (.goto (-81), 3) := by decide +kernel
theorem dX8_goesThrough_128 : decode cX8_goesThrough 128 = .ok (.iinc 1 1, 3) := by decide +kernel
theorem dX8_goesThrough_131 : decode cX8_goesThrough 131 = .ok (.goto (-120), 3) := by decide +kernel
theorem dX8_goesThrough_134 : decode cX8_goesThrough 134 = .ok (.return_, 1) := by decide +kernel
theorem dX8_answersAll_0 : decode cX8_answersAll 0 = .ok (.aload_n 0, 1) := by decide +kernel
theorem dX8_answersAll_1 : decode cX8_answersAll 1 = .ok (.iconst 0, 1) := by decide +kernel
theorem dX8_answersAll_2 : decode cX8_answersAll 2 = .ok (.putfield 31, 3) := by decide +kernel
theorem dX8_answersAll_5 : decode cX8_answersAll 5 = .ok (.aload_n 0, 1) := by decide +kernel
theorem dX8_answersAll_6 : decode cX8_answersAll 6 = .ok (.getfield 67, 3) := by decide +kernel
theorem dX8_answersAll_9 : decode cX8_answersAll 9 = .ok (.ifCond .le 7, 3) := by decide +kernel
theorem dX8_answersAll_12 : decode cX8_answersAll 12 = .ok (.aload_n 0, 1) := by decide +kernel
theorem dX8_answersAll_13 : decode cX8_answersAll 13 = .ok (.invokevirtual 93, 3) := by decide +kernel
theorem dX8_answersAll_16 : decode cX8_answersAll 16 = .ok (.aload_n 0, 1) := by decide +kernel
theorem dX8_answersAll_17 : decode cX8_answersAll 17 = .ok (.aload_n 0, 1) := by decide +kernel
theorem dX8_answersAll_18 : decode cX8_answersAll 18 = .ok (.getfield 67, 3) := by decide +kernel
theorem dX8_answersAll_21 : decode cX8_answersAll 21 = .ok (.ifCond .eq 13, 3) := by decide +kernel
theorem dX8_answersAll_24 : decode cX8_answersAll 24 = .ok (.aload_n 0, 1) := by decide +kernel
theorem dX8_answersAll_25 : decode cX8_answersAll 25 = .ok (.getfield 86, 3) := by decide +kernel
theorem dX8_answersAll_28 : decode cX8_answersAll 28 = .ok (.sipush 2000, 3) := by decide +kernel
theorem dX8_answersAll_31 : decode cX8_answersAll 31 = .ok (.if_icmp .le 7, 3) := by decide +kernel
theorem dX8_answersAll_34 : decode cX8_answersAll 34 = .ok (.iconst 1, 1) := by decide +kernel
theorem dX8_answersAll_35 : decode cX8_answersAll 35 = .ok (.goto 4, 3) := by decide +kernel
theorem dX8_answersAll_38 : decode cX8_answersAll 38 = .ok (.iconst 0, 1) := by decide +kernel
theorem dX8_answersAll_39 : decode cX8_answersAll 39 = .ok (.putfield 31, 3) := by decide +kernel
theorem dX8_answersAll_42 : decode cX8_answersAll 42 = .ok (.aload_n 0, 1) := by decide +kernel
theorem dX8_answersAll_43 : decode cX8_answersAll 43 = .ok (.getfield 31, 3) := by decide +kernel
theorem dX8_answersAll_46 : decode cX8_answersAll 46 = .ok (.ifCond .le 5, 3) := by decide +kernel
theorem dX8_answersAll_49 : decode cX8_answersAll 49 = .ok (.iconst 0, 1) := by decide +kernel
theorem dX8_answersAll_50 : decode cX8_answersAll 50 = .ok (.ireturn, 1) := by decide +kernel
theorem dX8_answersAll_51 : decode cX8_answersAll 51 = .ok (.aload_n 0, 1) := by decide +kernel
theorem dX8_answersAll_52 : decode cX8_answersAll 52 = .ok (.aload_n 0, 1) := by decide +kernel
theorem dX8_answersAll_53 : decode cX8_answersAll 53 = .ok (.getfield 86, 3) := by decide +kernel
theorem dX8_answersAll_56 : decode cX8_answersAll 56 = .ok (.putfield 96, 3) := by decide +kernel
theorem dX8_answersAll_59 : decode cX8_answersAll 59 = .ok (.aload_n 0, 1) := by decide +kernel
theorem dX8_answersAll_60 : decode cX8_answersAll 60 = .ok (.aload_n 0, 1) := by decide +kernel
theorem dX8_answersAll_61 : decode cX8_answersAll 61 = .ok (.invokevirtual 82, 3) := by decide +kernel
theorem dX8_answersAll_64 : decode cX8_answersAll 64 = .ok (.putfield 99, 3) := by decide +kernel
theorem dX8_answersAll_67 : decode cX8_answersAll 67 = .ok (.iconst 0, 1) := by decide +kernel
theorem dX8_answersAll_68 : decode cX8_answersAll 68 = .ok (.istore_n 1, 1) := by decide +kernel
theorem dX8_answersAll_69 : decode cX8_answersAll 69 = .ok (.iload_n 1, 1) := by decide +kernel
theorem dX8_answersAll_70 : decode cX8_answersAll 70 = .ok (.aload_n 0, 1) := by decide +kernel
theorem dX8_answersAll_71 : decode cX8_answersAll 71 = .ok (.getfield 96, 3) := by decide +kernel
theorem dX8_answersAll_74 : decode cX8_answersAll 74 = .ok (.if_icmp .ge 64, 3) := by decide +kernel
theorem dX8_answersAll_77 : decode cX8_answersAll 77 = .ok (.iload_n 1, 1) := by decide +kernel
theorem dX8_answersAll_78 : decode cX8_answersAll 78 = .ok (.istore_n 2, 1) := by decide +kernel
theorem dX8_answersAll_79 : decode cX8_answersAll 79 = .ok (.iload_n 2, 1) := by decide +kernel
theorem dX8_answersAll_80 : decode cX8_answersAll 80 = .ok (.ifCond .le 40, 3) := by decide +kernel
theorem dX8_answersAll_83 : decode cX8_answersAll 83 = .ok (.aload_n 0, 1) := by decide +kernel
theorem dX8_answersAll_84 : decode cX8_answersAll 84 = .ok (.getfield 28, 3) := by decide +kernel
theorem dX8_answersAll_87 : decode cX8_answersAll 87 = .ok (.iload_n 2, 1) := by decide +kernel
theorem dX8_answersAll_88 : decode cX8_answersAll 88 = .ok (.iconst 1, 1) := by decide +kernel
theorem dX8_answersAll_89 : decode cX8_answersAll 89 = .ok (.isub, 1) := by decide +kernel
theorem dX8_answersAll_90 : decode cX8_answersAll 90 = .ok (.iaload, 1) := by decide +kernel
theorem dX8_answersAll_91 : decode cX8_answersAll 91 = .ok (.aload_n 0, 1) := by decide +kernel
theorem dX8_answersAll_92 : decode cX8_answersAll 92 = .ok (.getfield 25, 3) := by decide +kernel
theorem dX8_answersAll_95 : decode cX8_answersAll 95 = .ok (.iload_n 1, 1) := by decide +kernel
theorem dX8_answersAll_96 : decode cX8_answersAll 96 = .ok (.iaload, 1) := by decide +kernel
theorem dX8_answersAll_97 : decode cX8_answersAll 97 = .ok (.if_icmp .le 23, 3) := by decide +kernel
theorem dX8_answersAll_100 : decode cX8_answersAll 100 = .ok (.aload_n 0, 1) := by decide +kernel
theorem dX8_answersAll_101 : decode cX8_answersAll 101 = .ok (.getfield 28, 3) := by decide +kernel
theorem dX8_answersAll_104 : decode cX8_answersAll 104 = .ok (.iload_n 2, 1) := by decide +kernel
theorem dX8_answersAll_105 : decode cX8_answersAll 105 = .ok (.aload_n 0, 1) := by decide +kernel
theorem dX8_answersAll_106 : decode cX8_answersAll 106 = .ok (.getfield 28, 3) := by decide +kernel
theorem dX8_answersAll_109 : decode cX8_answersAll 109 = .ok (.iload_n 2, 1) := by decide +kernel
theorem dX8_answersAll_110 : decode cX8_answersAll 110 = .ok (.iconst 1, 1) := by decide +kernel
theorem dX8_answersAll_111 : decode cX8_answersAll 111 = .ok (.isub, 1) := by decide +kernel
theorem dX8_answersAll_112 : decode cX8_answersAll 112 = .ok (.iaload, 1) := by decide +kernel
theorem dX8_answersAll_113 : decode cX8_answersAll 113 = .ok (.iastore, 1) := by decide +kernel
theorem dX8_answersAll_114 : decode cX8_answersAll 114 = .ok (.iinc 2 (-1), 3) := by decide +kernel
theorem dX8_answersAll_117 : decode cX8_answersAll 117 = .ok (.goto (-38), 3) := by decide +kernel
theorem dX8_answersAll_120 : decode cX8_answersAll 120 = .ok (.aload_n 0, 1) := by decide +kernel
theorem dX8_answersAll_121 : decode cX8_answersAll 121 = .ok (.getfield 28, 3) := by decide +kernel
theorem dX8_answersAll_124 : decode cX8_answersAll 124 = .ok (.iload_n 2, 1) := by decide +kernel
theorem dX8_answersAll_125 : decode cX8_answersAll 125 = .ok (.aload_n 0, 1) := by decide +kernel
theorem dX8_answersAll_126 : decode cX8_answersAll 126 = .ok (.getfield 25, 3) := by decide +kernel
theorem dX8_answersAll_129 : decode cX8_answersAll 129 = .ok (.iload_n 1, 1) := by decide +kernel
theorem dX8_answersAll_130 : decode cX8_answersAll 130 = .ok (.iaload, 1) := by decide +kernel
theorem dX8_answersAll_131 : decode cX8_answersAll 131 = .ok (.iastore, 1) := by decide +kernel
theorem dX8_answersAll_132 : decode cX8_answersAll 132 = .ok (.iinc 1 1, 3) := by decide +kernel
theorem dX8_answersAll_135 : decode cX8_answersAll 135 = .ok (.goto (-66), 3) := by decide +kernel
theorem dX8_answersAll_138 : decode cX8_answersAll 138 = .ok (.aload_n 0, 1) := by decide +kernel
theorem dX8_answersAll_139 : decode cX8_answersAll 139 = .ok (.getfield 96, 3) := by decide +kernel
theorem dX8_answersAll_142 : decode cX8_answersAll 142 = .ok (.ireturn, 1) := by decide +kernel
theorem dX8_answerByMerging_0 : decode cX8_answerByMerging 0 = .ok (.aload_n 0, 1) := by decide +kernel
theorem dX8_answerByMerging_1 : decode cX8_answerByMerging 1 = .ok (.invokevirtual 102, 3) := by decide +kernel
theorem dX8_answerByMerging_4 : decode cX8_answerByMerging 4 = .ok (.ireturn, 1) := by decide +kernel
theorem dX8_answerByVariables_0 : decode cX8_answerByVariables 0 = .ok (.aload_n 0, 1) := by decide +kernel
theorem dX8_answerByVariables_1 : decode cX8_answerByVariables 1 = .ok (.invokevirtual 102, 3) := by decide +kernel
theorem dX8_answerByVariables_4 : decode cX8_answerByVariables 4 = .ok (.ireturn, 1) := by decide +kernel
theorem dX8_answerByLoops_0 : decode cX8_answerByLoops 0 = .ok (.aload_n 0, 1) := by decide +kernel
theorem dX8_answerByLoops_1 : decode cX8_answerByLoops 1 = .ok (.invokevirtual 102, 3) := by decide +kernel
theorem dX8_answerByLoops_4 : decode cX8_answerByLoops 4 = .ok (.ireturn, 1) := by decide +kernel
theorem dX8_answers_0 : decode cX8_answers 0 = .ok (.aload_n 0, 1) := by decide +kernel
theorem dX8_answers_1 : decode cX8_answers 1 = .ok (.iconst 0, 1) := by decide +kernel
theorem dX8_answers_2 : decode cX8_answers 2 = .ok (.putfield 31, 3) := by decide +kernel
theorem dX8_answers_5 : decode cX8_answers 5 = .ok (.aload_n 0, 1) := by decide +kernel
theorem dX8_answers_6 : decode cX8_answers 6 = .ok (.getfield 96, 3) := by decide +kernel
theorem dX8_answers_9 : decode cX8_answers 9 = .ok (.ireturn, 1) := by decide +kernel
theorem dX8_bindingOf_0 : decode cX8_bindingOf 0 = .ok (.iload_n 1, 1) := by decide +kernel
theorem dX8_bindingOf_1 : decode cX8_bindingOf 1 = .ok (.istore_n 3, 1) := by decide +kernel
theorem dX8_bindingOf_2 : decode cX8_bindingOf 2 = .ok (.iconst 3, 1) := by decide +kernel
theorem dX8_bindingOf_3 : decode cX8_bindingOf 3 = .ok (.istore 4, 2) := by decide +kernel
theorem dX8_bindingOf_5 : decode cX8_bindingOf 5 = .ok (.iload 4, 2) := by decide +kernel
theorem dX8_bindingOf_7 : decode cX8_bindingOf 7 = .ok (.iload_n 2, 1) := by decide +kernel
theorem dX8_bindingOf_8 : decode cX8_bindingOf 8 = .ok (.if_icmp .le 14, 3) := by decide +kernel
theorem dX8_bindingOf_11 : decode cX8_bindingOf 11 = .ok (.iload_n 3, 1) := by decide +kernel
theorem dX8_bindingOf_12 : decode cX8_bindingOf 12 = .ok (.bipush 41, 2) := by decide +kernel
theorem dX8_bindingOf_14 : decode cX8_bindingOf 14 = .ok (.idiv, 1) := by decide +kernel
theorem dX8_bindingOf_15 : decode cX8_bindingOf 15 = .ok (.istore_n 3, 1) := by decide +kernel
theorem dX8_bindingOf_16 : decode cX8_bindingOf 16 = .ok (.iinc 4 (-1), 3) := by decide +kernel
theorem dX8_bindingOf_19 : decode cX8_bindingOf 19 = .ok (.goto (-14), 3) := by decide +kernel
theorem dX8_bindingOf_22 : decode cX8_bindingOf 22 = .ok (.iload_n 3, 1) := by decide +kernel
theorem dX8_bindingOf_23 : decode cX8_bindingOf 23 = .ok (.bipush 41, 2) := by decide +kernel
theorem dX8_bindingOf_25 : decode cX8_bindingOf 25 = .ok (.irem, 1) := by decide +kernel
theorem dX8_bindingOf_26 : decode cX8_bindingOf 26 = .ok (.iconst 1, 1) := by decide +kernel
theorem dX8_bindingOf_27 : decode cX8_bindingOf 27 = .ok (.isub, 1) := by decide +kernel
theorem dX8_bindingOf_28 : decode cX8_bindingOf 28 = .ok (.ireturn, 1) := by decide +kernel
theorem dX8_answer_0 : decode cX8_answer 0 = .ok (.iload_n 2, 1) := by decide +kernel
theorem dX8_answer_1 : decode cX8_answer 1 = .ok (.iconst 0, 1) := by decide +kernel
theorem dX8_answer_2 : decode cX8_answer 2 = .ok (.iconst 3, 1) := by decide +kernel
theorem dX8_answer_3 : decode cX8_answer 3 = .ok (.invokestatic 35, 3) := by decide +kernel
theorem dX8_answer_6 : decode cX8_answer 6 = .ok (.ifCond .eq 19, 3) := by decide +kernel
theorem dX8_answer_9 : decode cX8_answer 9 = .ok (.aload_n 0, 1) := by decide +kernel
theorem dX8_answer_10 : decode cX8_answer 10 = .ok (.getfield 99, 3) := by decide +kernel
theorem dX8_answer_13 : decode cX8_answer 13 = .ok (.iload_n 2, 1) := by decide +kernel
theorem dX8_answer_14 : decode cX8_answer 14 = .ok (.ishr, 1) := by decide +kernel
theorem dX8_answer_15 : decode cX8_answer 15 = .ok (.iconst 1, 1) := by decide +kernel
theorem dX8_answer_16 : decode cX8_answer 16 = .ok (.iand, 1) := by decide +kernel
theorem dX8_answer_17 : decode cX8_answer 17 = .ok (.iconst 1, 1) := by decide +kernel
theorem dX8_answer_18 : decode cX8_answer 18 = .ok (.if_icmp .ne 7, 3) := by decide +kernel
theorem dX8_answer_21 : decode cX8_answer 21 = .ok (.iconst 1, 1) := by decide +kernel
theorem dX8_answer_22 : decode cX8_answer 22 = .ok (.goto 4, 3) := by decide +kernel
theorem dX8_answer_25 : decode cX8_answer 25 = .ok (.iconst 0, 1) := by decide +kernel
theorem dX8_answer_26 : decode cX8_answer 26 = .ok (.istore_n 3, 1) := by decide +kernel
theorem dX8_answer_27 : decode cX8_answer 27 = .ok (.aload_n 0, 1) := by decide +kernel
theorem dX8_answer_28 : decode cX8_answer 28 = .ok (.iload_n 1, 1) := by decide +kernel
theorem dX8_answer_29 : decode cX8_answer 29 = .ok (.iconst 0, 1) := by decide +kernel
theorem dX8_answer_30 : decode cX8_answer 30 = .ok (.aload_n 0, 1) := by decide +kernel
theorem dX8_answer_31 : decode cX8_answer 31 = .ok (.getfield 96, 3) := by decide +kernel
theorem dX8_answer_34 : decode cX8_answer 34 = .ok (.iconst 1, 1) := by decide +kernel
theorem dX8_answer_35 : decode cX8_answer 35 = .ok (.isub, 1) := by decide +kernel
theorem dX8_answer_36 : decode cX8_answer 36 = .ok (.invokestatic 35, 3) := by decide +kernel
theorem dX8_answer_39 : decode cX8_answer 39 = .ok (.ifCond .ne 7, 3) := by decide +kernel
theorem dX8_answer_42 : decode cX8_answer 42 = .ok (.iconst 1, 1) := by decide +kernel
theorem dX8_answer_43 : decode cX8_answer 43 = .ok (.goto 12, 3) := by decide +kernel
theorem dX8_answer_46 : decode cX8_answer 46 = .ok (.iload_n 3, 1) := by decide +kernel
theorem dX8_answer_47 : decode cX8_answer 47 = .ok (.ifCond .eq 7, 3) := by decide +kernel
theorem dX8_answer_50 : decode cX8_answer 50 = .ok (.iconst 0, 1) := by decide +kernel
theorem dX8_answer_51 : decode cX8_answer 51 = .ok (.goto 4, 3) := by decide +kernel
theorem dX8_answer_54 : decode cX8_answer 54 = .ok (.iconst 2, 1) := by decide +kernel
theorem dX8_answer_55 : decode cX8_answer 55 = .ok (.putfield 31, 3) := by decide +kernel
theorem dX8_answer_58 : decode cX8_answer 58 = .ok (.aload_n 0, 1) := by decide +kernel
theorem dX8_answer_59 : decode cX8_answer 59 = .ok (.getfield 31, 3) := by decide +kernel
theorem dX8_answer_62 : decode cX8_answer 62 = .ok (.ifCond .le 7, 3) := by decide +kernel
theorem dX8_answer_65 : decode cX8_answer 65 = .ok (.iconst 0, 1) := by decide +kernel
theorem dX8_answer_66 : decode cX8_answer 66 = .ok (.goto 19, 3) := by decide +kernel
theorem dX8_answer_69 : decode cX8_answer 69 = .ok (.aload_n 0, 1) := by decide +kernel
theorem dX8_answer_70 : decode cX8_answer 70 = .ok (.getfield 13, 3) := by decide +kernel
theorem dX8_answer_73 : decode cX8_answer 73 = .ok (.aload_n 0, 1) := by decide +kernel
theorem dX8_answer_74 : decode cX8_answer 74 = .ok (.aload_n 0, 1) := by decide +kernel
theorem dX8_answer_75 : decode cX8_answer 75 = .ok (.getfield 28, 3) := by decide +kernel
theorem dX8_answer_78 : decode cX8_answer 78 = .ok (.iload_n 1, 1) := by decide +kernel
theorem dX8_answer_79 : decode cX8_answer 79 = .ok (.iaload, 1) := by decide +kernel
theorem dX8_answer_80 : decode cX8_answer 80 = .ok (.iload_n 2, 1) := by decide +kernel
theorem dX8_answer_81 : decode cX8_answer 81 = .ok (.invokevirtual 105, 3) := by decide +kernel
theorem dX8_answer_84 : decode cX8_answer 84 = .ok (.iaload, 1) := by decide +kernel
theorem dX8_answer_85 : decode cX8_answer 85 = .ok (.ireturn, 1) := by decide +kernel
theorem dX8_termsFor_0 : decode cX8_termsFor 0 = .ok (.aload_n 0, 1) := by decide +kernel
theorem dX8_termsFor_1 : decode cX8_termsFor 1 = .ok (.iload_n 1, 1) := by decide +kernel
theorem dX8_termsFor_2 : decode cX8_termsFor 2 = .ok (.iconst 0, 1) := by decide +kernel
theorem dX8_termsFor_3 : decode cX8_termsFor 3 = .ok (.iconst 3, 1) := by decide +kernel
theorem dX8_termsFor_4 : decode cX8_termsFor 4 = .ok (.invokestatic 35, 3) := by decide +kernel
theorem dX8_termsFor_7 : decode cX8_termsFor 7 = .ok (.ifCond .eq 7, 3) := by decide +kernel
theorem dX8_termsFor_10 : decode cX8_termsFor 10 = .ok (.iconst 0, 1) := by decide +kernel
theorem dX8_termsFor_11 : decode cX8_termsFor 11 = .ok (.goto 4, 3) := by decide +kernel
theorem dX8_termsFor_14 : decode cX8_termsFor 14 = .ok (.iconst 1, 1) := by decide +kernel
theorem dX8_termsFor_15 : decode cX8_termsFor 15 = .ok (.putfield 31, 3) := by decide +kernel
theorem dX8_termsFor_18 : decode cX8_termsFor 18 = .ok (.iconst 0, 1) := by decide +kernel
theorem dX8_termsFor_19 : decode cX8_termsFor 19 = .ok (.istore_n 2, 1) := by decide +kernel
theorem dX8_termsFor_20 : decode cX8_termsFor 20 = .ok (.iconst 0, 1) := by decide +kernel
theorem dX8_termsFor_21 : decode cX8_termsFor 21 = .ok (.istore_n 3, 1) := by decide +kernel
theorem dX8_termsFor_22 : decode cX8_termsFor 22 = .ok (.iload_n 3, 1) := by decide +kernel
theorem dX8_termsFor_23 : decode cX8_termsFor 23 = .ok (.aload_n 0, 1) := by decide +kernel
theorem dX8_termsFor_24 : decode cX8_termsFor 24 = .ok (.getfield 42, 3) := by decide +kernel
theorem dX8_termsFor_27 : decode cX8_termsFor 27 = .ok (.if_icmp .ge 76, 3) := by decide +kernel
theorem dX8_termsFor_30 : decode cX8_termsFor 30 = .ok (.aload_n 0, 1) := by decide +kernel
theorem dX8_termsFor_31 : decode cX8_termsFor 31 = .ok (.getfield 31, 3) := by decide +kernel
theorem dX8_termsFor_34 : decode cX8_termsFor 34 = .ok (.ifCond .ne 69, 3) := by decide +kernel
theorem dX8_termsFor_37 : decode cX8_termsFor 37 = .ok (.iconst 0, 1) := by decide +kernel
theorem dX8_termsFor_38 : decode cX8_termsFor 38 = .ok (.istore 4, 2) := by decide +kernel
theorem dX8_termsFor_40 : decode cX8_termsFor 40 = .ok (.iconst 0, 1) := by decide +kernel
theorem dX8_termsFor_41 : decode cX8_termsFor 41 = .ok (.istore 5, 2) := by decide +kernel
theorem dX8_termsFor_43 : decode cX8_termsFor 43 = .ok (.iload 5, 2) := by decide +kernel
theorem dX8_termsFor_45 : decode cX8_termsFor 45 = .ok (.aload_n 0, 1) := by decide +kernel
theorem dX8_termsFor_46 : decode cX8_termsFor 46 = .ok (.getfield 96, 3) := by decide +kernel
theorem dX8_termsFor_49 : decode cX8_termsFor 49 = .ok (.if_icmp .ge 35, 3) := by decide +kernel
theorem dX8_termsFor_52 : decode cX8_termsFor 52 = .ok (.iload 4, 2) := by decide +kernel
theorem dX8_termsFor_54 : decode cX8_termsFor 54 = .ok (.aload_n 0, 1) := by decide +kernel
theorem dX8_termsFor_55 : decode cX8_termsFor 55 = .ok (.aload_n 0, 1) := by decide +kernel
theorem dX8_termsFor_56 : decode cX8_termsFor 56 = .ok (.getfield 28, 3) := by decide +kernel
theorem dX8_termsFor_59 : decode cX8_termsFor 59 = .ok (.iload 5, 2) := by decide +kernel
theorem dX8_termsFor_61 : decode cX8_termsFor 61 = .ok (.iaload, 1) := by decide +kernel
theorem dX8_termsFor_62 : decode cX8_termsFor 62 = .ok (.iload_n 1, 1) := by decide +kernel
theorem dX8_termsFor_63 : decode cX8_termsFor 63 = .ok (.invokevirtual 105, 3) := by decide +kernel
theorem dX8_termsFor_66 : decode cX8_termsFor 66 = .ok (.iload_n 3, 1) := by decide +kernel
theorem dX8_termsFor_67 : decode cX8_termsFor 67 = .ok (.if_icmp .ne 7, 3) := by decide +kernel
theorem dX8_termsFor_70 : decode cX8_termsFor 70 = .ok (.iconst 1, 1) := by decide +kernel
theorem dX8_termsFor_71 : decode cX8_termsFor 71 = .ok (.goto 4, 3) := by decide +kernel
theorem dX8_termsFor_74 : decode cX8_termsFor 74 = .ok (.iconst 0, 1) := by decide +kernel
theorem dX8_termsFor_75 : decode cX8_termsFor 75 = .ok (.ior, 1) := by decide +kernel
theorem dX8_termsFor_76 : decode cX8_termsFor 76 = .ok (.istore 4, 2) := by decide +kernel
theorem dX8_termsFor_78 : decode cX8_termsFor 78 = .ok (.iinc 5 1, 3) := by decide +kernel
theorem dX8_termsFor_81 : decode cX8_termsFor 81 = .ok (.goto (-38), 3) := by decide +kernel
theorem dX8_termsFor_84 : decode cX8_termsFor 84 = .ok (.iload_n 2, 1) := by decide +kernel
theorem dX8_termsFor_85 : decode cX8_termsFor 85 = .ok (.iload 4, 2) := by decide +kernel
theorem dX8_termsFor_87 : decode cX8_termsFor 87 = .ok (.ifCond .eq 7, 3) := by decide +kernel
theorem dX8_termsFor_90 : decode cX8_termsFor 90 = .ok (.iconst 1, 1) := by decide +kernel
theorem dX8_termsFor_91 : decode cX8_termsFor 91 = .ok (.goto 4, 3) := by decide +kernel
theorem dX8_termsFor_94 : decode cX8_termsFor 94 = .ok (.iconst 0, 1) := by decide +kernel
theorem dX8_termsFor_95 : decode cX8_termsFor 95 = .ok (.iadd, 1) := by decide +kernel
theorem dX8_termsFor_96 : decode cX8_termsFor 96 = .ok (.istore_n 2, 1) := by decide +kernel
theorem dX8_termsFor_97 : decode cX8_termsFor 97 = .ok (.iinc 3 1, 3) := by decide +kernel
theorem dX8_termsFor_100 : decode cX8_termsFor 100 = .ok (.goto (-78), 3) := by decide +kernel
theorem dX8_termsFor_103 : decode cX8_termsFor 103 = .ok (.iload_n 2, 1) := by decide +kernel
theorem dX8_termsFor_104 : decode cX8_termsFor 104 = .ok (.ireturn, 1) := by decide +kernel
theorem dJ13_bitCount_95d88_0 : decode cJ13_bitCount_95d88 0 = .ok (.lload_n 0, 1) := by decide +kernel
theorem dJ13_bitCount_95d88_1 : decode cJ13_bitCount_95d88 1 = .ok (.lload_n 0, 1) := by decide +kernel
theorem dJ13_bitCount_95d88_2 : decode cJ13_bitCount_95d88 2 = .ok (.iconst 1, 1) := by decide +kernel
theorem dJ13_bitCount_95d88_3 : decode cJ13_bitCount_95d88 3 = .ok (.lushr, 1) := by decide +kernel
theorem dJ13_bitCount_95d88_4 : decode cJ13_bitCount_95d88 4 = .ok (.ldc2_w 314, 3) := by decide +kernel
theorem dJ13_bitCount_95d88_7 : decode cJ13_bitCount_95d88 7 = .ok (.land, 1) := by decide +kernel
theorem dJ13_bitCount_95d88_8 : decode cJ13_bitCount_95d88 8 = .ok (.lsub, 1) := by decide +kernel
theorem dJ13_bitCount_95d88_9 : decode cJ13_bitCount_95d88 9 = .ok (.lstore_n 0, 1) := by decide +kernel
theorem dJ13_bitCount_95d88_10 : decode cJ13_bitCount_95d88 10 = .ok (.lload_n 0, 1) := by decide +kernel
theorem dJ13_bitCount_95d88_11 : decode cJ13_bitCount_95d88 11 = .ok (.ldc2_w 316, 3) := by decide +kernel
theorem dJ13_bitCount_95d88_14 : decode cJ13_bitCount_95d88 14 = .ok (.land, 1) := by decide +kernel
theorem dJ13_bitCount_95d88_15 : decode cJ13_bitCount_95d88 15 = .ok (.lload_n 0, 1) := by decide +kernel
theorem dJ13_bitCount_95d88_16 : decode cJ13_bitCount_95d88 16 = .ok (.iconst 2, 1) := by decide +kernel
theorem dJ13_bitCount_95d88_17 : decode cJ13_bitCount_95d88 17 = .ok (.lushr, 1) := by decide +kernel
theorem dJ13_bitCount_95d88_18 : decode cJ13_bitCount_95d88 18 = .ok (.ldc2_w 316, 3) := by decide +kernel
theorem dJ13_bitCount_95d88_21 : decode cJ13_bitCount_95d88 21 = .ok (.land, 1) := by decide +kernel
theorem dJ13_bitCount_95d88_22 : decode cJ13_bitCount_95d88 22 = .ok (.ladd, 1) := by decide +kernel
theorem dJ13_bitCount_95d88_23 : decode cJ13_bitCount_95d88 23 = .ok (.lstore_n 0, 1) := by decide +kernel
theorem dJ13_bitCount_95d88_24 : decode cJ13_bitCount_95d88 24 = .ok (.lload_n 0, 1) := by decide +kernel
theorem dJ13_bitCount_95d88_25 : decode cJ13_bitCount_95d88 25 = .ok (.lload_n 0, 1) := by decide +kernel
theorem dJ13_bitCount_95d88_26 : decode cJ13_bitCount_95d88 26 = .ok (.iconst 4, 1) := by decide +kernel
theorem dJ13_bitCount_95d88_27 : decode cJ13_bitCount_95d88 27 = .ok (.lushr, 1) := by decide +kernel
theorem dJ13_bitCount_95d88_28 : decode cJ13_bitCount_95d88 28 = .ok (.ladd, 1) := by decide +kernel
theorem dJ13_bitCount_95d88_29 : decode cJ13_bitCount_95d88 29 = .ok (.ldc2_w 318, 3) := by decide +kernel
theorem dJ13_bitCount_95d88_32 : decode cJ13_bitCount_95d88 32 = .ok (.land, 1) := by decide +kernel
theorem dJ13_bitCount_95d88_33 : decode cJ13_bitCount_95d88 33 = .ok (.lstore_n 0, 1) := by decide +kernel
theorem dJ13_bitCount_95d88_34 : decode cJ13_bitCount_95d88 34 = .ok (.lload_n 0, 1) := by decide +kernel
theorem dJ13_bitCount_95d88_35 : decode cJ13_bitCount_95d88 35 = .ok (.lload_n 0, 1) := by decide +kernel
theorem dJ13_bitCount_95d88_36 : decode cJ13_bitCount_95d88 36 = .ok (.bipush 8, 2) := by decide +kernel
theorem dJ13_bitCount_95d88_38 : decode cJ13_bitCount_95d88 38 = .ok (.lushr, 1) := by decide +kernel
theorem dJ13_bitCount_95d88_39 : decode cJ13_bitCount_95d88 39 = .ok (.ladd, 1) := by decide +kernel
theorem dJ13_bitCount_95d88_40 : decode cJ13_bitCount_95d88 40 = .ok (.lstore_n 0, 1) := by decide +kernel
theorem dJ13_bitCount_95d88_41 : decode cJ13_bitCount_95d88 41 = .ok (.lload_n 0, 1) := by decide +kernel
theorem dJ13_bitCount_95d88_42 : decode cJ13_bitCount_95d88 42 = .ok (.lload_n 0, 1) := by decide +kernel
theorem dJ13_bitCount_95d88_43 : decode cJ13_bitCount_95d88 43 = .ok (.bipush 16, 2) := by decide +kernel
theorem dJ13_bitCount_95d88_45 : decode cJ13_bitCount_95d88 45 = .ok (.lushr, 1) := by decide +kernel
theorem dJ13_bitCount_95d88_46 : decode cJ13_bitCount_95d88 46 = .ok (.ladd, 1) := by decide +kernel
theorem dJ13_bitCount_95d88_47 : decode cJ13_bitCount_95d88 47 = .ok (.lstore_n 0, 1) := by decide +kernel
theorem dJ13_bitCount_95d88_48 : decode cJ13_bitCount_95d88 48 = .ok (.lload_n 0, 1) := by decide +kernel
theorem dJ13_bitCount_95d88_49 : decode cJ13_bitCount_95d88 49 = .ok (.lload_n 0, 1) := by decide +kernel
theorem dJ13_bitCount_95d88_50 : decode cJ13_bitCount_95d88 50 = .ok (.bipush 32, 2) := by decide +kernel
theorem dJ13_bitCount_95d88_52 : decode cJ13_bitCount_95d88 52 = .ok (.lushr, 1) := by decide +kernel
theorem dJ13_bitCount_95d88_53 : decode cJ13_bitCount_95d88 53 = .ok (.ladd, 1) := by decide +kernel
theorem dJ13_bitCount_95d88_54 : decode cJ13_bitCount_95d88 54 = .ok (.lstore_n 0, 1) := by decide +kernel
theorem dJ13_bitCount_95d88_55 : decode cJ13_bitCount_95d88 55 = .ok (.lload_n 0, 1) := by decide +kernel
theorem dJ13_bitCount_95d88_56 : decode cJ13_bitCount_95d88 56 = .ok (.l2i, 1) := by decide +kernel
theorem dJ13_bitCount_95d88_57 : decode cJ13_bitCount_95d88 57 = .ok (.bipush 127, 2) := by decide +kernel
theorem dJ13_bitCount_95d88_59 : decode cJ13_bitCount_95d88 59 = .ok (.iand, 1) := by decide +kernel
theorem dJ13_bitCount_95d88_60 : decode cJ13_bitCount_95d88 60 = .ok (.ireturn, 1) := by decide +kernel
theorem dJ9_max_7cf53_0 : decode cJ9_max_7cf53 0 = .ok (.iload_n 0, 1) := by decide +kernel
theorem dJ9_max_7cf53_1 : decode cJ9_max_7cf53 1 = .ok (.iload_n 1, 1) := by decide +kernel
theorem dJ9_max_7cf53_2 : decode cJ9_max_7cf53 2 = .ok (.if_icmp .lt 7, 3) := by decide +kernel
theorem dJ9_max_7cf53_5 : decode cJ9_max_7cf53 5 = .ok (.iload_n 0, 1) := by decide +kernel
theorem dJ9_max_7cf53_6 : decode cJ9_max_7cf53 6 = .ok (.goto 4, 3) := by decide +kernel
theorem dJ9_max_7cf53_9 : decode cJ9_max_7cf53 9 = .ok (.iload_n 1, 1) := by decide +kernel
theorem dJ9_max_7cf53_10 : decode cJ9_max_7cf53 10 = .ok (.ireturn, 1) := by decide +kernel
theorem dL_state_0 : decode cL_state 0 = .ok (.aload 4, 2) := by decide +kernel
theorem dL_state_2 : decode cL_state 2 = .ok (.iconst 0, 1) := by decide +kernel
theorem dL_state_3 : decode cL_state 3 = .ok (.aload_n 0, 1) := by decide +kernel
theorem dL_state_4 : decode cL_state 4 = .ok (.iload_n 1, 1) := by decide +kernel
theorem dL_state_5 : decode cL_state 5 = .ok (.iload_n 2, 1) := by decide +kernel
theorem dL_state_6 : decode cL_state 6 = .ok (.iload_n 3, 1) := by decide +kernel
theorem dL_state_7 : decode cL_state 7 = .ok (.invokevirtual 7, 3) := by decide +kernel
theorem dL_state_10 : decode cL_state 10 = .ok (.ifCond .eq 7, 3) := by decide +kernel
theorem dL_state_13 : decode cL_state 13 = .ok (.lconst 1, 1) := by decide +kernel
theorem dL_state_14 : decode cL_state 14 = .ok (.goto 4, 3) := by decide +kernel
theorem dL_state_17 : decode cL_state 17 = .ok (.lconst 0, 1) := by decide +kernel
theorem dL_state_18 : decode cL_state 18 = .ok (.lastore, 1) := by decide +kernel
theorem dL_state_19 : decode cL_state 19 = .ok (.goto 11, 3) := by decide +kernel
theorem dL_state_22 : decode cL_state 22 = .ok (.astore 5, 2) := by decide +kernel
theorem dL_state_24 : decode cL_state 24 = .ok (.iconst 1, 1) := by decide +kernel
theorem dL_state_25 : decode cL_state 25 = .ok (.ireturn, 1) := by decide +kernel
theorem dL_state_26 : decode cL_state 26 = .ok (.astore 5, 2) := by decide +kernel
theorem dL_state_28 : decode cL_state 28 = .ok (.iconst 2, 1) := by decide +kernel
theorem dL_state_29 : decode cL_state 29 = .ok (.ireturn, 1) := by decide +kernel
theorem dL_state_30 : decode cL_state 30 = .ok (.iconst 0, 1) := by decide +kernel
theorem dL_state_31 : decode cL_state 31 = .ok (.ireturn, 1) := by decide +kernel
theorem dL_takeBack_0 : decode cL_takeBack 0 = .ok (.aload 4, 2) := by decide +kernel
theorem dL_takeBack_2 : decode cL_takeBack 2 = .ok (.iconst 0, 1) := by decide +kernel
theorem dL_takeBack_3 : decode cL_takeBack 3 = .ok (.aload_n 0, 1) := by decide +kernel
theorem dL_takeBack_4 : decode cL_takeBack 4 = .ok (.iload_n 1, 1) := by decide +kernel
theorem dL_takeBack_5 : decode cL_takeBack 5 = .ok (.iload_n 2, 1) := by decide +kernel
theorem dL_takeBack_6 : decode cL_takeBack 6 = .ok (.iload_n 3, 1) := by decide +kernel
theorem dL_takeBack_7 : decode cL_takeBack 7 = .ok (.invokevirtual 17, 3) := by decide +kernel
theorem dL_takeBack_10 : decode cL_takeBack 10 = .ok (.ifCond .eq 7, 3) := by decide +kernel
theorem dL_takeBack_13 : decode cL_takeBack 13 = .ok (.lconst 1, 1) := by decide +kernel
theorem dL_takeBack_14 : decode cL_takeBack 14 = .ok (.goto 4, 3) := by decide +kernel
theorem dL_takeBack_17 : decode cL_takeBack 17 = .ok (.lconst 0, 1) := by decide +kernel
theorem dL_takeBack_18 : decode cL_takeBack 18 = .ok (.lastore, 1) := by decide +kernel
theorem dL_takeBack_19 : decode cL_takeBack 19 = .ok (.goto 7, 3) := by decide +kernel
theorem dL_takeBack_22 : decode cL_takeBack 22 = .ok (.astore 5, 2) := by decide +kernel
theorem dL_takeBack_24 : decode cL_takeBack 24 = .ok (.iconst 1, 1) := by decide +kernel
theorem dL_takeBack_25 : decode cL_takeBack 25 = .ok (.ireturn, 1) := by decide +kernel
theorem dL_takeBack_26 : decode cL_takeBack 26 = .ok (.iconst 0, 1) := by decide +kernel
theorem dL_takeBack_27 : decode cL_takeBack 27 = .ok (.ireturn, 1) := by decide +kernel
theorem dL_termAt_0 : decode cL_termAt 0 = .ok (.aload 4, 2) := by decide +kernel
theorem dL_termAt_2 : decode cL_termAt 2 = .ok (.iconst 0, 1) := by decide +kernel
theorem dL_termAt_3 : decode cL_termAt 3 = .ok (.aload_n 0, 1) := by decide +kernel
theorem dL_termAt_4 : decode cL_termAt 4 = .ok (.iload_n 1, 1) := by decide +kernel
theorem dL_termAt_5 : decode cL_termAt 5 = .ok (.iload_n 2, 1) := by decide +kernel
theorem dL_termAt_6 : decode cL_termAt 6 = .ok (.iload_n 3, 1) := by decide +kernel
theorem dL_termAt_7 : decode cL_termAt 7 = .ok (.invokevirtual 20, 3) := by decide +kernel
theorem dL_termAt_10 : decode cL_termAt 10 = .ok (.i2l, 1) := by decide +kernel
theorem dL_termAt_11 : decode cL_termAt 11 = .ok (.lastore, 1) := by decide +kernel
theorem dL_termAt_12 : decode cL_termAt 12 = .ok (.goto 11, 3) := by decide +kernel
theorem dL_termAt_15 : decode cL_termAt 15 = .ok (.astore 5, 2) := by decide +kernel
theorem dL_termAt_17 : decode cL_termAt 17 = .ok (.iconst 1, 1) := by decide +kernel
theorem dL_termAt_18 : decode cL_termAt 18 = .ok (.ireturn, 1) := by decide +kernel
theorem dL_termAt_19 : decode cL_termAt 19 = .ok (.astore 5, 2) := by decide +kernel
theorem dL_termAt_21 : decode cL_termAt 21 = .ok (.iconst 2, 1) := by decide +kernel
theorem dL_termAt_22 : decode cL_termAt 22 = .ok (.ireturn, 1) := by decide +kernel
theorem dL_termAt_23 : decode cL_termAt 23 = .ok (.iconst 0, 1) := by decide +kernel
theorem dL_termAt_24 : decode cL_termAt 24 = .ok (.ireturn, 1) := by decide +kernel
theorem dL_numberOf_0 : decode cL_numberOf 0 = .ok (.aload_n 2, 1) := by decide +kernel
theorem dL_numberOf_1 : decode cL_numberOf 1 = .ok (.iconst 0, 1) := by decide +kernel
theorem dL_numberOf_2 : decode cL_numberOf 2 = .ok (.aload_n 0, 1) := by decide +kernel
theorem dL_numberOf_3 : decode cL_numberOf 3 = .ok (.iload_n 1, 1) := by decide +kernel
theorem dL_numberOf_4 : decode cL_numberOf 4 = .ok (.invokevirtual 26, 3) := by decide +kernel
theorem dL_numberOf_7 : decode cL_numberOf 7 = .ok (.i2l, 1) := by decide +kernel
theorem dL_numberOf_8 : decode cL_numberOf 8 = .ok (.lastore, 1) := by decide +kernel
theorem dL_numberOf_9 : decode cL_numberOf 9 = .ok (.goto 6, 3) := by decide +kernel
theorem dL_numberOf_12 : decode cL_numberOf 12 = .ok (.astore_n 3, 1) := by decide +kernel
theorem dL_numberOf_13 : decode cL_numberOf 13 = .ok (.iconst 1, 1) := by decide +kernel
theorem dL_numberOf_14 : decode cL_numberOf 14 = .ok (.ireturn, 1) := by decide +kernel
theorem dL_numberOf_15 : decode cL_numberOf 15 = .ok (.iconst 0, 1) := by decide +kernel
theorem dL_numberOf_16 : decode cL_numberOf 16 = .ok (.ireturn, 1) := by decide +kernel
theorem dL_termOf_0 : decode cL_termOf 0 = .ok (.aload_n 2, 1) := by decide +kernel
theorem dL_termOf_1 : decode cL_termOf 1 = .ok (.iconst 0, 1) := by decide +kernel
theorem dL_termOf_2 : decode cL_termOf 2 = .ok (.aload_n 0, 1) := by decide +kernel
theorem dL_termOf_3 : decode cL_termOf 3 = .ok (.iload_n 1, 1) := by decide +kernel
theorem dL_termOf_4 : decode cL_termOf 4 = .ok (.invokevirtual 30, 3) := by decide +kernel
theorem dL_termOf_7 : decode cL_termOf 7 = .ok (.i2l, 1) := by decide +kernel
theorem dL_termOf_8 : decode cL_termOf 8 = .ok (.lastore, 1) := by decide +kernel
theorem dL_termOf_9 : decode cL_termOf 9 = .ok (.goto 6, 3) := by decide +kernel
theorem dL_termOf_12 : decode cL_termOf 12 = .ok (.astore_n 3, 1) := by decide +kernel
theorem dL_termOf_13 : decode cL_termOf 13 = .ok (.iconst 1, 1) := by decide +kernel
theorem dL_termOf_14 : decode cL_termOf 14 = .ok (.ireturn, 1) := by decide +kernel
theorem dL_termOf_15 : decode cL_termOf 15 = .ok (.iconst 0, 1) := by decide +kernel
theorem dL_termOf_16 : decode cL_termOf 16 = .ok (.ireturn, 1) := by decide +kernel
theorem dL_count_0 : decode cL_count 0 = .ok (.aload 4, 2) := by decide +kernel
theorem dL_count_2 : decode cL_count 2 = .ok (.iconst 0, 1) := by decide +kernel
theorem dL_count_3 : decode cL_count 3 = .ok (.aload_n 0, 1) := by decide +kernel
theorem dL_count_4 : decode cL_count 4 = .ok (.iload_n 1, 1) := by decide +kernel
theorem dL_count_5 : decode cL_count 5 = .ok (.iload_n 2, 1) := by decide +kernel
theorem dL_count_6 : decode cL_count 6 = .ok (.iload_n 3, 1) := by decide +kernel
theorem dL_count_7 : decode cL_count 7 = .ok (.invokevirtual 33, 3) := by decide +kernel
theorem dL_count_10 : decode cL_count 10 = .ok (.i2l, 1) := by decide +kernel
theorem dL_count_11 : decode cL_count 11 = .ok (.lastore, 1) := by decide +kernel
theorem dL_count_12 : decode cL_count 12 = .ok (.goto 7, 3) := by decide +kernel
theorem dL_count_15 : decode cL_count 15 = .ok (.astore 5, 2) := by decide +kernel
theorem dL_count_17 : decode cL_count 17 = .ok (.iconst 1, 1) := by decide +kernel
theorem dL_count_18 : decode cL_count 18 = .ok (.ireturn, 1) := by decide +kernel
theorem dL_count_19 : decode cL_count 19 = .ok (.iconst 0, 1) := by decide +kernel
theorem dL_count_20 : decode cL_count 20 = .ok (.ireturn, 1) := by decide +kernel
theorem dL_seek_0 : decode cL_seek 0 = .ok (.aload_n 3, 1) := by decide +kernel
theorem dL_seek_1 : decode cL_seek 1 = .ok (.iconst 0, 1) := by decide +kernel
theorem dL_seek_2 : decode cL_seek 2 = .ok (.aload_n 0, 1) := by decide +kernel
theorem dL_seek_3 : decode cL_seek 3 = .ok (.iload_n 1, 1) := by decide +kernel
theorem dL_seek_4 : decode cL_seek 4 = .ok (.iload_n 2, 1) := by decide +kernel
theorem dL_seek_5 : decode cL_seek 5 = .ok (.invokevirtual 36, 3) := by decide +kernel
theorem dL_seek_8 : decode cL_seek 8 = .ok (.i2l, 1) := by decide +kernel
theorem dL_seek_9 : decode cL_seek 9 = .ok (.lastore, 1) := by decide +kernel
theorem dL_seek_10 : decode cL_seek 10 = .ok (.goto 11, 3) := by decide +kernel
theorem dL_seek_13 : decode cL_seek 13 = .ok (.astore 4, 2) := by decide +kernel
theorem dL_seek_15 : decode cL_seek 15 = .ok (.iconst 1, 1) := by decide +kernel
theorem dL_seek_16 : decode cL_seek 16 = .ok (.ireturn, 1) := by decide +kernel
theorem dL_seek_17 : decode cL_seek 17 = .ok (.astore 4, 2) := by decide +kernel
theorem dL_seek_19 : decode cL_seek 19 = .ok (.iconst 2, 1) := by decide +kernel
theorem dL_seek_20 : decode cL_seek 20 = .ok (.ireturn, 1) := by decide +kernel
theorem dL_seek_21 : decode cL_seek 21 = .ok (.iconst 0, 1) := by decide +kernel
theorem dL_seek_22 : decode cL_seek 22 = .ok (.ireturn, 1) := by decide +kernel
theorem dL_addPattern_0 : decode cL_addPattern 0 = .ok (.aload 4, 2) := by decide +kernel
theorem dL_addPattern_2 : decode cL_addPattern 2 = .ok (.iconst 0, 1) := by decide +kernel
theorem dL_addPattern_3 : decode cL_addPattern 3 = .ok (.aload_n 0, 1) := by decide +kernel
theorem dL_addPattern_4 : decode cL_addPattern 4 = .ok (.iload_n 1, 1) := by decide +kernel
theorem dL_addPattern_5 : decode cL_addPattern 5 = .ok (.iload_n 2, 1) := by decide +kernel
theorem dL_addPattern_6 : decode cL_addPattern 6 = .ok (.iload_n 3, 1) := by decide +kernel
theorem dL_addPattern_7 : decode cL_addPattern 7 = .ok (.invokevirtual 40, 3) := by decide +kernel
theorem dL_addPattern_10 : decode cL_addPattern 10 = .ok (.i2l, 1) := by decide +kernel
theorem dL_addPattern_11 : decode cL_addPattern 11 = .ok (.lastore, 1) := by decide +kernel
theorem dL_addPattern_12 : decode cL_addPattern 12 = .ok (.goto 11, 3) := by decide +kernel
theorem dL_addPattern_15 : decode cL_addPattern 15 = .ok (.astore 5, 2) := by decide +kernel
theorem dL_addPattern_17 : decode cL_addPattern 17 = .ok (.iconst 1, 1) := by decide +kernel
theorem dL_addPattern_18 : decode cL_addPattern 18 = .ok (.ireturn, 1) := by decide +kernel
theorem dL_addPattern_19 : decode cL_addPattern 19 = .ok (.astore 5, 2) := by decide +kernel
theorem dL_addPattern_21 : decode cL_addPattern 21 = .ok (.iconst 2, 1) := by decide +kernel
theorem dL_addPattern_22 : decode cL_addPattern 22 = .ok (.ireturn, 1) := by decide +kernel
theorem dL_addPattern_23 : decode cL_addPattern 23 = .ok (.iconst 0, 1) := by decide +kernel
theorem dL_addPattern_24 : decode cL_addPattern 24 = .ok (.ireturn, 1) := by decide +kernel
theorem dL_matches_0 : decode cL_matches 0 = .ok (.aload_n 2, 1) := by decide +kernel
theorem dL_matches_1 : decode cL_matches 1 = .ok (.iconst 0, 1) := by decide +kernel
theorem dL_matches_2 : decode cL_matches 2 = .ok (.aload_n 0, 1) := by decide +kernel
theorem dL_matches_3 : decode cL_matches 3 = .ok (.iload_n 1, 1) := by decide +kernel
theorem dL_matches_4 : decode cL_matches 4 = .ok (.invokevirtual 43, 3) := by decide +kernel
theorem dL_matches_7 : decode cL_matches 7 = .ok (.i2l, 1) := by decide +kernel
theorem dL_matches_8 : decode cL_matches 8 = .ok (.lastore, 1) := by decide +kernel
theorem dL_matches_9 : decode cL_matches 9 = .ok (.goto 6, 3) := by decide +kernel
theorem dL_matches_12 : decode cL_matches 12 = .ok (.astore_n 3, 1) := by decide +kernel
theorem dL_matches_13 : decode cL_matches 13 = .ok (.iconst 1, 1) := by decide +kernel
theorem dL_matches_14 : decode cL_matches 14 = .ok (.ireturn, 1) := by decide +kernel
theorem dL_matches_15 : decode cL_matches 15 = .ok (.iconst 0, 1) := by decide +kernel
theorem dL_matches_16 : decode cL_matches 16 = .ok (.ireturn, 1) := by decide +kernel
theorem dL_joined_0 : decode cL_joined 0 = .ok (.aload_n 2, 1) := by decide +kernel
theorem dL_joined_1 : decode cL_joined 1 = .ok (.iconst 0, 1) := by decide +kernel
theorem dL_joined_2 : decode cL_joined 2 = .ok (.aload_n 0, 1) := by decide +kernel
theorem dL_joined_3 : decode cL_joined 3 = .ok (.iload_n 1, 1) := by decide +kernel
theorem dL_joined_4 : decode cL_joined 4 = .ok (.invokevirtual 46, 3) := by decide +kernel
theorem dL_joined_7 : decode cL_joined 7 = .ok (.i2l, 1) := by decide +kernel
theorem dL_joined_8 : decode cL_joined 8 = .ok (.lastore, 1) := by decide +kernel
theorem dL_joined_9 : decode cL_joined 9 = .ok (.goto 6, 3) := by decide +kernel
theorem dL_joined_12 : decode cL_joined 12 = .ok (.astore_n 3, 1) := by decide +kernel
theorem dL_joined_13 : decode cL_joined 13 = .ok (.iconst 1, 1) := by decide +kernel
theorem dL_joined_14 : decode cL_joined 14 = .ok (.ireturn, 1) := by decide +kernel
theorem dL_joined_15 : decode cL_joined 15 = .ok (.iconst 0, 1) := by decide +kernel
theorem dL_joined_16 : decode cL_joined 16 = .ok (.ireturn, 1) := by decide +kernel
theorem dL_answerByMerging_0 : decode cL_answerByMerging 0 = .ok (.aload_n 1, 1) := by decide +kernel
theorem dL_answerByMerging_1 : decode cL_answerByMerging 1 = .ok (.iconst 0, 1) := by decide +kernel
theorem dL_answerByMerging_2 : decode cL_answerByMerging 2 = .ok (.aload_n 0, 1) := by decide +kernel
theorem dL_answerByMerging_3 : decode cL_answerByMerging 3 = .ok (.invokevirtual 49, 3) := by decide +kernel
theorem dL_answerByMerging_6 : decode cL_answerByMerging 6 = .ok (.i2l, 1) := by decide +kernel
theorem dL_answerByMerging_7 : decode cL_answerByMerging 7 = .ok (.lastore, 1) := by decide +kernel
theorem dL_answerByMerging_8 : decode cL_answerByMerging 8 = .ok (.goto 6, 3) := by decide +kernel
theorem dL_answerByMerging_11 : decode cL_answerByMerging 11 = .ok (.astore_n 2, 1) := by decide +kernel
theorem dL_answerByMerging_12 : decode cL_answerByMerging 12 = .ok (.iconst 1, 1) := by decide +kernel
theorem dL_answerByMerging_13 : decode cL_answerByMerging 13 = .ok (.ireturn, 1) := by decide +kernel
theorem dL_answerByMerging_14 : decode cL_answerByMerging 14 = .ok (.iconst 0, 1) := by decide +kernel
theorem dL_answerByMerging_15 : decode cL_answerByMerging 15 = .ok (.ireturn, 1) := by decide +kernel
theorem dL_answerByVariables_0 : decode cL_answerByVariables 0 = .ok (.aload_n 1, 1) := by decide +kernel
theorem dL_answerByVariables_1 : decode cL_answerByVariables 1 = .ok (.iconst 0, 1) := by decide +kernel
theorem dL_answerByVariables_2 : decode cL_answerByVariables 2 = .ok (.aload_n 0, 1) := by decide +kernel
theorem dL_answerByVariables_3 : decode cL_answerByVariables 3 = .ok (.invokevirtual 53, 3) := by decide +kernel
theorem dL_answerByVariables_6 : decode cL_answerByVariables 6 = .ok (.i2l, 1) := by decide +kernel
theorem dL_answerByVariables_7 : decode cL_answerByVariables 7 = .ok (.lastore, 1) := by decide +kernel
theorem dL_answerByVariables_8 : decode cL_answerByVariables 8 = .ok (.goto 6, 3) := by decide +kernel
theorem dL_answerByVariables_11 : decode cL_answerByVariables 11 = .ok (.astore_n 2, 1) := by decide +kernel
theorem dL_answerByVariables_12 : decode cL_answerByVariables 12 = .ok (.iconst 1, 1) := by decide +kernel
theorem dL_answerByVariables_13 : decode cL_answerByVariables 13 = .ok (.ireturn, 1) := by decide +kernel
theorem dL_answerByVariables_14 : decode cL_answerByVariables 14 = .ok (.iconst 0, 1) := by decide +kernel
theorem dL_answerByVariables_15 : decode cL_answerByVariables 15 = .ok (.ireturn, 1) := by decide +kernel
theorem dL_answerByLoops_0 : decode cL_answerByLoops 0 = .ok (.aload_n 1, 1) := by decide +kernel
theorem dL_answerByLoops_1 : decode cL_answerByLoops 1 = .ok (.iconst 0, 1) := by decide +kernel
theorem dL_answerByLoops_2 : decode cL_answerByLoops 2 = .ok (.aload_n 0, 1) := by decide +kernel
theorem dL_answerByLoops_3 : decode cL_answerByLoops 3 = .ok (.invokevirtual 56, 3) := by decide +kernel
theorem dL_answerByLoops_6 : decode cL_answerByLoops 6 = .ok (.i2l, 1) := by decide +kernel
theorem dL_answerByLoops_7 : decode cL_answerByLoops 7 = .ok (.lastore, 1) := by decide +kernel
theorem dL_answerByLoops_8 : decode cL_answerByLoops 8 = .ok (.goto 6, 3) := by decide +kernel
theorem dL_answerByLoops_11 : decode cL_answerByLoops 11 = .ok (.astore_n 2, 1) := by decide +kernel
theorem dL_answerByLoops_12 : decode cL_answerByLoops 12 = .ok (.iconst 1, 1) := by decide +kernel
theorem dL_answerByLoops_13 : decode cL_answerByLoops 13 = .ok (.ireturn, 1) := by decide +kernel
theorem dL_answerByLoops_14 : decode cL_answerByLoops 14 = .ok (.iconst 0, 1) := by decide +kernel
theorem dL_answerByLoops_15 : decode cL_answerByLoops 15 = .ok (.ireturn, 1) := by decide +kernel
theorem dL_answer_0 : decode cL_answer 0 = .ok (.aload_n 3, 1) := by decide +kernel
theorem dL_answer_1 : decode cL_answer 1 = .ok (.iconst 0, 1) := by decide +kernel
theorem dL_answer_2 : decode cL_answer 2 = .ok (.aload_n 0, 1) := by decide +kernel
theorem dL_answer_3 : decode cL_answer 3 = .ok (.iload_n 1, 1) := by decide +kernel
theorem dL_answer_4 : decode cL_answer 4 = .ok (.iload_n 2, 1) := by decide +kernel
theorem dL_answer_5 : decode cL_answer 5 = .ok (.invokevirtual 59, 3) := by decide +kernel
theorem dL_answer_8 : decode cL_answer 8 = .ok (.i2l, 1) := by decide +kernel
theorem dL_answer_9 : decode cL_answer 9 = .ok (.lastore, 1) := by decide +kernel
theorem dL_answer_10 : decode cL_answer 10 = .ok (.goto 11, 3) := by decide +kernel
theorem dL_answer_13 : decode cL_answer 13 = .ok (.astore 4, 2) := by decide +kernel
theorem dL_answer_15 : decode cL_answer 15 = .ok (.iconst 1, 1) := by decide +kernel
theorem dL_answer_16 : decode cL_answer 16 = .ok (.ireturn, 1) := by decide +kernel
theorem dL_answer_17 : decode cL_answer 17 = .ok (.astore 4, 2) := by decide +kernel
theorem dL_answer_19 : decode cL_answer 19 = .ok (.iconst 2, 1) := by decide +kernel
theorem dL_answer_20 : decode cL_answer 20 = .ok (.ireturn, 1) := by decide +kernel
theorem dL_answer_21 : decode cL_answer 21 = .ok (.iconst 0, 1) := by decide +kernel
theorem dL_answer_22 : decode cL_answer 22 = .ok (.ireturn, 1) := by decide +kernel
theorem dL_termsFor_0 : decode cL_termsFor 0 = .ok (.aload_n 2, 1) := by decide +kernel
theorem dL_termsFor_1 : decode cL_termsFor 1 = .ok (.iconst 0, 1) := by decide +kernel
theorem dL_termsFor_2 : decode cL_termsFor 2 = .ok (.aload_n 0, 1) := by decide +kernel
theorem dL_termsFor_3 : decode cL_termsFor 3 = .ok (.iload_n 1, 1) := by decide +kernel
theorem dL_termsFor_4 : decode cL_termsFor 4 = .ok (.invokevirtual 62, 3) := by decide +kernel
theorem dL_termsFor_7 : decode cL_termsFor 7 = .ok (.i2l, 1) := by decide +kernel
theorem dL_termsFor_8 : decode cL_termsFor 8 = .ok (.lastore, 1) := by decide +kernel
theorem dL_termsFor_9 : decode cL_termsFor 9 = .ok (.goto 6, 3) := by decide +kernel
theorem dL_termsFor_12 : decode cL_termsFor 12 = .ok (.astore_n 3, 1) := by decide +kernel
theorem dL_termsFor_13 : decode cL_termsFor 13 = .ok (.iconst 1, 1) := by decide +kernel
theorem dL_termsFor_14 : decode cL_termsFor 14 = .ok (.ireturn, 1) := by decide +kernel
theorem dL_termsFor_15 : decode cL_termsFor 15 = .ok (.iconst 0, 1) := by decide +kernel
theorem dL_termsFor_16 : decode cL_termsFor 16 = .ok (.ireturn, 1) := by decide +kernel
theorem dL_law_0 : decode cL_law 0 = .ok (.new 8, 3) := by decide +kernel
theorem dL_law_3 : decode cL_law 3 = .ok (.dup, 1) := by decide +kernel
theorem dL_law_4 : decode cL_law 4 = .ok (.invokespecial 65, 3) := by decide +kernel
theorem dL_law_7 : decode cL_law 7 = .ok (.astore_n 1, 1) := by decide +kernel
theorem dL_law_8 : decode cL_law 8 = .ok (.new 66, 3) := by decide +kernel
theorem dL_law_11 : decode cL_law 11 = .ok (.dup, 1) := by decide +kernel
theorem dL_law_12 : decode cL_law 12 = .ok (.invokespecial 68, 3) := by decide +kernel
theorem dL_law_15 : decode cL_law 15 = .ok (.astore_n 2, 1) := by decide +kernel
theorem dL_law_16 : decode cL_law 16 = .ok (.iconst 1, 1) := by decide +kernel
theorem dL_law_17 : decode cL_law 17 = .ok (.newarray .long, 2) := by decide +kernel
theorem dL_law_19 : decode cL_law 19 = .ok (.astore_n 3, 1) := by decide +kernel
theorem dL_law_20 : decode cL_law 20 = .ok (.iconst 0, 1) := by decide +kernel
theorem dL_law_21 : decode cL_law 21 = .ok (.istore 4, 2) := by decide +kernel
theorem dL_law_23 : decode cL_law 23 = .ok (.iload 4, 2) := by decide +kernel
theorem dL_law_25 : decode cL_law 25 = .ok (.aload_n 0, 1) := by decide +kernel
theorem dL_law_26 : decode cL_law 26 = .ok (.arraylength, 1) := by decide +kernel
theorem dL_law_27 : decode cL_law 27 = .ok (.iconst 4, 1) := by decide +kernel
theorem dL_law_28 : decode cL_law 28 = .ok (.isub, 1) := by decide +kernel
theorem dL_law_29 : decode cL_law 29 = .ok (.if_icmp .gt 1271, 3) := by decide +kernel
theorem dL_law_32 : decode cL_law 32 = .ok (.aload_n 0, 1) := by decide +kernel
theorem dL_law_33 : decode cL_law 33 = .ok (.iload 4, 2) := by decide +kernel
theorem dL_law_35 : decode cL_law 35 = .ok (.iaload, 1) := by decide +kernel
theorem dL_law_36 : decode cL_law 36 = .ok (.bipush 31, 2) := by decide +kernel
theorem dL_law_38 : decode cL_law 38 = .ok (.iand, 1) := by decide +kernel
theorem dL_law_39 : decode cL_law 39 = .ok (.tableswitch 1255 0 22 #[105, 192, 279, 292, 372, 385, 441, 497, 577, 674, 742, 755, 835, 848, 904, 917, 930, 986, 1030, 1074, 1118, 1131, 1199], 105) := by decide +kernel
theorem dL_law_144 : decode cL_law 144 = .ok (.aload_n 1, 1) := by decide +kernel
theorem dL_law_145 : decode cL_law 145 = .ok (.aload_n 0, 1) := by decide +kernel
theorem dL_law_146 : decode cL_law 146 = .ok (.iload 4, 2) := by decide +kernel
theorem dL_law_148 : decode cL_law 148 = .ok (.iconst 1, 1) := by decide +kernel
theorem dL_law_149 : decode cL_law 149 = .ok (.iadd, 1) := by decide +kernel
theorem dL_law_150 : decode cL_law 150 = .ok (.iaload, 1) := by decide +kernel
theorem dL_law_151 : decode cL_law 151 = .ok (.aload_n 0, 1) := by decide +kernel
theorem dL_law_152 : decode cL_law 152 = .ok (.iload 4, 2) := by decide +kernel
theorem dL_law_154 : decode cL_law 154 = .ok (.iconst 2, 1) := by decide +kernel
theorem dL_law_155 : decode cL_law 155 = .ok (.iadd, 1) := by decide +kernel
theorem dL_law_156 : decode cL_law 156 = .ok (.iaload, 1) := by decide +kernel
theorem dL_law_157 : decode cL_law 157 = .ok (.aload_n 0, 1) := by decide +kernel
theorem dL_law_158 : decode cL_law 158 = .ok (.iload 4, 2) := by decide +kernel
theorem dL_law_160 : decode cL_law 160 = .ok (.iconst 3, 1) := by decide +kernel
theorem dL_law_161 : decode cL_law 161 = .ok (.iadd, 1) := by decide +kernel
theorem dL_law_162 : decode cL_law 162 = .ok (.iaload, 1) := by decide +kernel
theorem dL_law_163 : decode cL_law 163 = .ok (.aload_n 3, 1) := by decide +kernel
theorem dL_law_164 : decode cL_law 164 = .ok (.invokestatic 69, 3) := by decide +kernel
theorem dL_law_167 : decode cL_law 167 = .ok (.istore 5, 2) := by decide +kernel
theorem dL_law_169 : decode cL_law 169 = .ok (.aload_n 2, 1) := by decide +kernel
theorem dL_law_170 : decode cL_law 170 = .ok (.aload_n 0, 1) := by decide +kernel
theorem dL_law_171 : decode cL_law 171 = .ok (.iload 4, 2) := by decide +kernel
theorem dL_law_173 : decode cL_law 173 = .ok (.iconst 1, 1) := by decide +kernel
theorem dL_law_174 : decode cL_law 174 = .ok (.iadd, 1) := by decide +kernel
theorem dL_law_175 : decode cL_law 175 = .ok (.iaload, 1) := by decide +kernel
theorem dL_law_176 : decode cL_law 176 = .ok (.aload_n 0, 1) := by decide +kernel
theorem dL_law_177 : decode cL_law 177 = .ok (.iload 4, 2) := by decide +kernel
theorem dL_law_179 : decode cL_law 179 = .ok (.iconst 2, 1) := by decide +kernel
theorem dL_law_180 : decode cL_law 180 = .ok (.iadd, 1) := by decide +kernel
theorem dL_law_181 : decode cL_law 181 = .ok (.iaload, 1) := by decide +kernel
theorem dL_law_182 : decode cL_law 182 = .ok (.aload_n 0, 1) := by decide +kernel
theorem dL_law_183 : decode cL_law 183 = .ok (.iload 4, 2) := by decide +kernel
theorem dL_law_185 : decode cL_law 185 = .ok (.iconst 3, 1) := by decide +kernel
theorem dL_law_186 : decode cL_law 186 = .ok (.iadd, 1) := by decide +kernel
theorem dL_law_187 : decode cL_law 187 = .ok (.iaload, 1) := by decide +kernel
theorem dL_law_188 : decode cL_law 188 = .ok (.invokevirtual 74, 3) := by decide +kernel
theorem dL_law_191 : decode cL_law 191 = .ok (.istore 6, 2) := by decide +kernel
theorem dL_law_193 : decode cL_law 193 = .ok (.aload_n 2, 1) := by decide +kernel
theorem dL_law_194 : decode cL_law 194 = .ok (.invokevirtual 75, 3) := by decide +kernel
theorem dL_law_197 : decode cL_law 197 = .ok (.iload 5, 2) := by decide +kernel
theorem dL_law_199 : decode cL_law 199 = .ok (.if_icmp .eq 5, 3) := by decide +kernel
theorem dL_law_202 : decode cL_law 202 = .ok (.iconst 0, 1) := by decide +kernel
theorem dL_law_203 : decode cL_law 203 = .ok (.ireturn, 1) := by decide +kernel
theorem dL_law_204 : decode cL_law 204 = .ok (.iload 5, 2) := by decide +kernel
theorem dL_law_206 : decode cL_law 206 = .ok (.ifCond .ne 22, 3) := by decide +kernel
theorem dL_law_209 : decode cL_law 209 = .ok (.aload_n 3, 1) := by decide +kernel
theorem dL_law_210 : decode cL_law 210 = .ok (.iconst 0, 1) := by decide +kernel
theorem dL_law_211 : decode cL_law 211 = .ok (.laload, 1) := by decide +kernel
theorem dL_law_212 : decode cL_law 212 = .ok (.iload 6, 2) := by decide +kernel
theorem dL_law_214 : decode cL_law 214 = .ok (.ifCond .eq 7, 3) := by decide +kernel
theorem dL_law_217 : decode cL_law 217 = .ok (.lconst 1, 1) := by decide +kernel
theorem dL_law_218 : decode cL_law 218 = .ok (.goto 4, 3) := by decide +kernel
theorem dL_law_221 : decode cL_law 221 = .ok (.lconst 0, 1) := by decide +kernel
theorem dL_law_222 : decode cL_law 222 = .ok (.lcmp, 1) := by decide +kernel
theorem dL_law_223 : decode cL_law 223 = .ok (.ifCond .eq 5, 3) := by decide +kernel
theorem dL_law_226 : decode cL_law 226 = .ok (.iconst 0, 1) := by decide +kernel
theorem dL_law_227 : decode cL_law 227 = .ok (.ireturn, 1) := by decide +kernel
theorem dL_law_228 : decode cL_law 228 = .ok (.goto 1066, 3) := by decide +kernel
theorem dL_law_231 : decode cL_law 231 = .ok (.aload_n 1, 1) := by decide +kernel
theorem dL_law_232 : decode cL_law 232 = .ok (.aload_n 0, 1) := by decide +kernel
theorem dL_law_233 : decode cL_law 233 = .ok (.iload 4, 2) := by decide +kernel
theorem dL_law_235 : decode cL_law 235 = .ok (.iconst 1, 1) := by decide +kernel
theorem dL_law_236 : decode cL_law 236 = .ok (.iadd, 1) := by decide +kernel
theorem dL_law_237 : decode cL_law 237 = .ok (.iaload, 1) := by decide +kernel
theorem dL_law_238 : decode cL_law 238 = .ok (.aload_n 0, 1) := by decide +kernel
theorem dL_law_239 : decode cL_law 239 = .ok (.iload 4, 2) := by decide +kernel
theorem dL_law_241 : decode cL_law 241 = .ok (.iconst 2, 1) := by decide +kernel
theorem dL_law_242 : decode cL_law 242 = .ok (.iadd, 1) := by decide +kernel
theorem dL_law_243 : decode cL_law 243 = .ok (.iaload, 1) := by decide +kernel
theorem dL_law_244 : decode cL_law 244 = .ok (.aload_n 0, 1) := by decide +kernel
theorem dL_law_245 : decode cL_law 245 = .ok (.iload 4, 2) := by decide +kernel
theorem dL_law_247 : decode cL_law 247 = .ok (.iconst 3, 1) := by decide +kernel
theorem dL_law_248 : decode cL_law 248 = .ok (.iadd, 1) := by decide +kernel
theorem dL_law_249 : decode cL_law 249 = .ok (.iaload, 1) := by decide +kernel
theorem dL_law_250 : decode cL_law 250 = .ok (.aload_n 3, 1) := by decide +kernel
theorem dL_law_251 : decode cL_law 251 = .ok (.invokestatic 78, 3) := by decide +kernel
theorem dL_law_254 : decode cL_law 254 = .ok (.istore 5, 2) := by decide +kernel
theorem dL_law_256 : decode cL_law 256 = .ok (.aload_n 2, 1) := by decide +kernel
theorem dL_law_257 : decode cL_law 257 = .ok (.aload_n 0, 1) := by decide +kernel
theorem dL_law_258 : decode cL_law 258 = .ok (.iload 4, 2) := by decide +kernel
theorem dL_law_260 : decode cL_law 260 = .ok (.iconst 1, 1) := by decide +kernel
theorem dL_law_261 : decode cL_law 261 = .ok (.iadd, 1) := by decide +kernel
theorem dL_law_262 : decode cL_law 262 = .ok (.iaload, 1) := by decide +kernel
theorem dL_law_263 : decode cL_law 263 = .ok (.aload_n 0, 1) := by decide +kernel
theorem dL_law_264 : decode cL_law 264 = .ok (.iload 4, 2) := by decide +kernel
theorem dL_law_266 : decode cL_law 266 = .ok (.iconst 2, 1) := by decide +kernel
theorem dL_law_267 : decode cL_law 267 = .ok (.iadd, 1) := by decide +kernel
theorem dL_law_268 : decode cL_law 268 = .ok (.iaload, 1) := by decide +kernel
theorem dL_law_269 : decode cL_law 269 = .ok (.aload_n 0, 1) := by decide +kernel
theorem dL_law_270 : decode cL_law 270 = .ok (.iload 4, 2) := by decide +kernel
theorem dL_law_272 : decode cL_law 272 = .ok (.iconst 3, 1) := by decide +kernel
theorem dL_law_273 : decode cL_law 273 = .ok (.iadd, 1) := by decide +kernel
theorem dL_law_274 : decode cL_law 274 = .ok (.iaload, 1) := by decide +kernel
theorem dL_law_275 : decode cL_law 275 = .ok (.invokevirtual 80, 3) := by decide +kernel
theorem dL_law_278 : decode cL_law 278 = .ok (.istore 6, 2) := by decide +kernel
theorem dL_law_280 : decode cL_law 280 = .ok (.aload_n 2, 1) := by decide +kernel
theorem dL_law_281 : decode cL_law 281 = .ok (.invokevirtual 75, 3) := by decide +kernel
theorem dL_law_284 : decode cL_law 284 = .ok (.iload 5, 2) := by decide +kernel
theorem dL_law_286 : decode cL_law 286 = .ok (.if_icmp .eq 5, 3) := by decide +kernel
theorem dL_law_289 : decode cL_law 289 = .ok (.iconst 0, 1) := by decide +kernel
theorem dL_law_290 : decode cL_law 290 = .ok (.ireturn, 1) := by decide +kernel
theorem dL_law_291 : decode cL_law 291 = .ok (.iload 5, 2) := by decide +kernel
theorem dL_law_293 : decode cL_law 293 = .ok (.ifCond .ne 22, 3) := by decide +kernel
theorem dL_law_296 : decode cL_law 296 = .ok (.aload_n 3, 1) := by decide +kernel
theorem dL_law_297 : decode cL_law 297 = .ok (.iconst 0, 1) := by decide +kernel
theorem dL_law_298 : decode cL_law 298 = .ok (.laload, 1) := by decide +kernel
theorem dL_law_299 : decode cL_law 299 = .ok (.iload 6, 2) := by decide +kernel
theorem dL_law_301 : decode cL_law 301 = .ok (.ifCond .eq 7, 3) := by decide +kernel
theorem dL_law_304 : decode cL_law 304 = .ok (.lconst 1, 1) := by decide +kernel
theorem dL_law_305 : decode cL_law 305 = .ok (.goto 4, 3) := by decide +kernel
theorem dL_law_308 : decode cL_law 308 = .ok (.lconst 0, 1) := by decide +kernel
theorem dL_law_309 : decode cL_law 309 = .ok (.lcmp, 1) := by decide +kernel
theorem dL_law_310 : decode cL_law 310 = .ok (.ifCond .eq 5, 3) := by decide +kernel
theorem dL_law_313 : decode cL_law 313 = .ok (.iconst 0, 1) := by decide +kernel
theorem dL_law_314 : decode cL_law 314 = .ok (.ireturn, 1) := by decide +kernel
theorem dL_law_315 : decode cL_law 315 = .ok (.goto 979, 3) := by decide +kernel
theorem dL_law_318 : decode cL_law 318 = .ok (.aload_n 1, 1) := by decide +kernel
theorem dL_law_319 : decode cL_law 319 = .ok (.invokevirtual 81, 3) := by decide +kernel
theorem dL_law_322 : decode cL_law 322 = .ok (.aload_n 2, 1) := by decide +kernel
theorem dL_law_323 : decode cL_law 323 = .ok (.invokevirtual 84, 3) := by decide +kernel
theorem dL_law_326 : decode cL_law 326 = .ok (.if_icmp .eq 968, 3) := by decide +kernel
theorem dL_law_329 : decode cL_law 329 = .ok (.iconst 0, 1) := by decide +kernel
theorem dL_law_330 : decode cL_law 330 = .ok (.ireturn, 1) := by decide +kernel
theorem dL_law_331 : decode cL_law 331 = .ok (.aload_n 1, 1) := by decide +kernel
theorem dL_law_332 : decode cL_law 332 = .ok (.aload_n 0, 1) := by decide +kernel
theorem dL_law_333 : decode cL_law 333 = .ok (.iload 4, 2) := by decide +kernel
theorem dL_law_335 : decode cL_law 335 = .ok (.iconst 1, 1) := by decide +kernel
theorem dL_law_336 : decode cL_law 336 = .ok (.iadd, 1) := by decide +kernel
theorem dL_law_337 : decode cL_law 337 = .ok (.iaload, 1) := by decide +kernel
theorem dL_law_338 : decode cL_law 338 = .ok (.aload_n 0, 1) := by decide +kernel
theorem dL_law_339 : decode cL_law 339 = .ok (.iload 4, 2) := by decide +kernel
theorem dL_law_341 : decode cL_law 341 = .ok (.iconst 2, 1) := by decide +kernel
theorem dL_law_342 : decode cL_law 342 = .ok (.iadd, 1) := by decide +kernel
theorem dL_law_343 : decode cL_law 343 = .ok (.iaload, 1) := by decide +kernel
theorem dL_law_344 : decode cL_law 344 = .ok (.aload_n 0, 1) := by decide +kernel
theorem dL_law_345 : decode cL_law 345 = .ok (.iload 4, 2) := by decide +kernel
theorem dL_law_347 : decode cL_law 347 = .ok (.iconst 3, 1) := by decide +kernel
theorem dL_law_348 : decode cL_law 348 = .ok (.iadd, 1) := by decide +kernel
theorem dL_law_349 : decode cL_law 349 = .ok (.iaload, 1) := by decide +kernel
theorem dL_law_350 : decode cL_law 350 = .ok (.aload_n 3, 1) := by decide +kernel
theorem dL_law_351 : decode cL_law 351 = .ok (.invokestatic 85, 3) := by decide +kernel
theorem dL_law_354 : decode cL_law 354 = .ok (.istore 5, 2) := by decide +kernel
theorem dL_law_356 : decode cL_law 356 = .ok (.aload_n 2, 1) := by decide +kernel
theorem dL_law_357 : decode cL_law 357 = .ok (.aload_n 0, 1) := by decide +kernel
theorem dL_law_358 : decode cL_law 358 = .ok (.iload 4, 2) := by decide +kernel
theorem dL_law_360 : decode cL_law 360 = .ok (.iconst 1, 1) := by decide +kernel
theorem dL_law_361 : decode cL_law 361 = .ok (.iadd, 1) := by decide +kernel
theorem dL_law_362 : decode cL_law 362 = .ok (.iaload, 1) := by decide +kernel
theorem dL_law_363 : decode cL_law 363 = .ok (.aload_n 0, 1) := by decide +kernel
theorem dL_law_364 : decode cL_law 364 = .ok (.iload 4, 2) := by decide +kernel
theorem dL_law_366 : decode cL_law 366 = .ok (.iconst 2, 1) := by decide +kernel
theorem dL_law_367 : decode cL_law 367 = .ok (.iadd, 1) := by decide +kernel
theorem dL_law_368 : decode cL_law 368 = .ok (.iaload, 1) := by decide +kernel
theorem dL_law_369 : decode cL_law 369 = .ok (.aload_n 0, 1) := by decide +kernel
theorem dL_law_370 : decode cL_law 370 = .ok (.iload 4, 2) := by decide +kernel
theorem dL_law_372 : decode cL_law 372 = .ok (.iconst 3, 1) := by decide +kernel
theorem dL_law_373 : decode cL_law 373 = .ok (.iadd, 1) := by decide +kernel
theorem dL_law_374 : decode cL_law 374 = .ok (.iaload, 1) := by decide +kernel
theorem dL_law_375 : decode cL_law 375 = .ok (.invokevirtual 87, 3) := by decide +kernel
theorem dL_law_378 : decode cL_law 378 = .ok (.istore 6, 2) := by decide +kernel
theorem dL_law_380 : decode cL_law 380 = .ok (.aload_n 2, 1) := by decide +kernel
theorem dL_law_381 : decode cL_law 381 = .ok (.invokevirtual 75, 3) := by decide +kernel
theorem dL_law_384 : decode cL_law 384 = .ok (.iload 5, 2) := by decide +kernel
theorem dL_law_386 : decode cL_law 386 = .ok (.if_icmp .eq 5, 3) := by decide +kernel
theorem dL_law_389 : decode cL_law 389 = .ok (.iconst 0, 1) := by decide +kernel
theorem dL_law_390 : decode cL_law 390 = .ok (.ireturn, 1) := by decide +kernel
theorem dL_law_391 : decode cL_law 391 = .ok (.iload 5, 2) := by decide +kernel
theorem dL_law_393 : decode cL_law 393 = .ok (.ifCond .ne 15, 3) := by decide +kernel
theorem dL_law_396 : decode cL_law 396 = .ok (.aload_n 3, 1) := by decide +kernel
theorem dL_law_397 : decode cL_law 397 = .ok (.iconst 0, 1) := by decide +kernel
theorem dL_law_398 : decode cL_law 398 = .ok (.laload, 1) := by decide +kernel
theorem dL_law_399 : decode cL_law 399 = .ok (.iload 6, 2) := by decide +kernel
theorem dL_law_401 : decode cL_law 401 = .ok (.i2l, 1) := by decide +kernel
theorem dL_law_402 : decode cL_law 402 = .ok (.lcmp, 1) := by decide +kernel
theorem dL_law_403 : decode cL_law 403 = .ok (.ifCond .eq 5, 3) := by decide +kernel
theorem dL_law_406 : decode cL_law 406 = .ok (.iconst 0, 1) := by decide +kernel
theorem dL_law_407 : decode cL_law 407 = .ok (.ireturn, 1) := by decide +kernel
theorem dL_law_408 : decode cL_law 408 = .ok (.goto 886, 3) := by decide +kernel
theorem dL_law_411 : decode cL_law 411 = .ok (.aload_n 1, 1) := by decide +kernel
theorem dL_law_412 : decode cL_law 412 = .ok (.invokevirtual 88, 3) := by decide +kernel
theorem dL_law_415 : decode cL_law 415 = .ok (.aload_n 2, 1) := by decide +kernel
theorem dL_law_416 : decode cL_law 416 = .ok (.invokevirtual 91, 3) := by decide +kernel
theorem dL_law_419 : decode cL_law 419 = .ok (.if_icmp .eq 875, 3) := by decide +kernel
theorem dL_law_422 : decode cL_law 422 = .ok (.iconst 0, 1) := by decide +kernel
theorem dL_law_423 : decode cL_law 423 = .ok (.ireturn, 1) := by decide +kernel
theorem dL_law_424 : decode cL_law 424 = .ok (.aload_n 1, 1) := by decide +kernel
theorem dL_law_425 : decode cL_law 425 = .ok (.aload_n 0, 1) := by decide +kernel
theorem dL_law_426 : decode cL_law 426 = .ok (.iload 4, 2) := by decide +kernel
theorem dL_law_428 : decode cL_law 428 = .ok (.iconst 1, 1) := by decide +kernel
theorem dL_law_429 : decode cL_law 429 = .ok (.iadd, 1) := by decide +kernel
theorem dL_law_430 : decode cL_law 430 = .ok (.iaload, 1) := by decide +kernel
theorem dL_law_431 : decode cL_law 431 = .ok (.aload_n 3, 1) := by decide +kernel
theorem dL_law_432 : decode cL_law 432 = .ok (.invokestatic 92, 3) := by decide +kernel
theorem dL_law_435 : decode cL_law 435 = .ok (.istore 5, 2) := by decide +kernel
theorem dL_law_437 : decode cL_law 437 = .ok (.aload_n 2, 1) := by decide +kernel
theorem dL_law_438 : decode cL_law 438 = .ok (.aload_n 0, 1) := by decide +kernel
theorem dL_law_439 : decode cL_law 439 = .ok (.iload 4, 2) := by decide +kernel
theorem dL_law_441 : decode cL_law 441 = .ok (.iconst 1, 1) := by decide +kernel
theorem dL_law_442 : decode cL_law 442 = .ok (.iadd, 1) := by decide +kernel
theorem dL_law_443 : decode cL_law 443 = .ok (.iaload, 1) := by decide +kernel
theorem dL_law_444 : decode cL_law 444 = .ok (.invokevirtual 95, 3) := by decide +kernel
theorem dL_law_447 : decode cL_law 447 = .ok (.istore 6, 2) := by decide +kernel
theorem dL_law_449 : decode cL_law 449 = .ok (.aload_n 2, 1) := by decide +kernel
theorem dL_law_450 : decode cL_law 450 = .ok (.invokevirtual 75, 3) := by decide +kernel
theorem dL_law_453 : decode cL_law 453 = .ok (.iload 5, 2) := by decide +kernel
theorem dL_law_455 : decode cL_law 455 = .ok (.if_icmp .eq 5, 3) := by decide +kernel
theorem dL_law_458 : decode cL_law 458 = .ok (.iconst 0, 1) := by decide +kernel
theorem dL_law_459 : decode cL_law 459 = .ok (.ireturn, 1) := by decide +kernel
theorem dL_law_460 : decode cL_law 460 = .ok (.iload 5, 2) := by decide +kernel
theorem dL_law_462 : decode cL_law 462 = .ok (.ifCond .ne 15, 3) := by decide +kernel
theorem dL_law_465 : decode cL_law 465 = .ok (.aload_n 3, 1) := by decide +kernel
theorem dL_law_466 : decode cL_law 466 = .ok (.iconst 0, 1) := by decide +kernel
theorem dL_law_467 : decode cL_law 467 = .ok (.laload, 1) := by decide +kernel
theorem dL_law_468 : decode cL_law 468 = .ok (.iload 6, 2) := by decide +kernel
theorem dL_law_470 : decode cL_law 470 = .ok (.i2l, 1) := by decide +kernel
theorem dL_law_471 : decode cL_law 471 = .ok (.lcmp, 1) := by decide +kernel
theorem dL_law_472 : decode cL_law 472 = .ok (.ifCond .eq 5, 3) := by decide +kernel
theorem dL_law_475 : decode cL_law 475 = .ok (.iconst 0, 1) := by decide +kernel
theorem dL_law_476 : decode cL_law 476 = .ok (.ireturn, 1) := by decide +kernel
theorem dL_law_477 : decode cL_law 477 = .ok (.goto 817, 3) := by decide +kernel
theorem dL_law_480 : decode cL_law 480 = .ok (.aload_n 1, 1) := by decide +kernel
theorem dL_law_481 : decode cL_law 481 = .ok (.aload_n 0, 1) := by decide +kernel
theorem dL_law_482 : decode cL_law 482 = .ok (.iload 4, 2) := by decide +kernel
theorem dL_law_484 : decode cL_law 484 = .ok (.iconst 1, 1) := by decide +kernel
theorem dL_law_485 : decode cL_law 485 = .ok (.iadd, 1) := by decide +kernel
theorem dL_law_486 : decode cL_law 486 = .ok (.iaload, 1) := by decide +kernel
theorem dL_law_487 : decode cL_law 487 = .ok (.aload_n 3, 1) := by decide +kernel
theorem dL_law_488 : decode cL_law 488 = .ok (.invokestatic 96, 3) := by decide +kernel
theorem dL_law_491 : decode cL_law 491 = .ok (.istore 5, 2) := by decide +kernel
theorem dL_law_493 : decode cL_law 493 = .ok (.aload_n 2, 1) := by decide +kernel
theorem dL_law_494 : decode cL_law 494 = .ok (.aload_n 0, 1) := by decide +kernel
theorem dL_law_495 : decode cL_law 495 = .ok (.iload 4, 2) := by decide +kernel
theorem dL_law_497 : decode cL_law 497 = .ok (.iconst 1, 1) := by decide +kernel
theorem dL_law_498 : decode cL_law 498 = .ok (.iadd, 1) := by decide +kernel
theorem dL_law_499 : decode cL_law 499 = .ok (.iaload, 1) := by decide +kernel
theorem dL_law_500 : decode cL_law 500 = .ok (.invokevirtual 98, 3) := by decide +kernel
theorem dL_law_503 : decode cL_law 503 = .ok (.istore 6, 2) := by decide +kernel
theorem dL_law_505 : decode cL_law 505 = .ok (.aload_n 2, 1) := by decide +kernel
theorem dL_law_506 : decode cL_law 506 = .ok (.invokevirtual 75, 3) := by decide +kernel
theorem dL_law_509 : decode cL_law 509 = .ok (.iload 5, 2) := by decide +kernel
theorem dL_law_511 : decode cL_law 511 = .ok (.if_icmp .eq 5, 3) := by decide +kernel
theorem dL_law_514 : decode cL_law 514 = .ok (.iconst 0, 1) := by decide +kernel
theorem dL_law_515 : decode cL_law 515 = .ok (.ireturn, 1) := by decide +kernel
theorem dL_law_516 : decode cL_law 516 = .ok (.iload 5, 2) := by decide +kernel
theorem dL_law_518 : decode cL_law 518 = .ok (.ifCond .ne 15, 3) := by decide +kernel
theorem dL_law_521 : decode cL_law 521 = .ok (.aload_n 3, 1) := by decide +kernel
theorem dL_law_522 : decode cL_law 522 = .ok (.iconst 0, 1) := by decide +kernel
theorem dL_law_523 : decode cL_law 523 = .ok (.laload, 1) := by decide +kernel
theorem dL_law_524 : decode cL_law 524 = .ok (.iload 6, 2) := by decide +kernel
theorem dL_law_526 : decode cL_law 526 = .ok (.i2l, 1) := by decide +kernel
theorem dL_law_527 : decode cL_law 527 = .ok (.lcmp, 1) := by decide +kernel
theorem dL_law_528 : decode cL_law 528 = .ok (.ifCond .eq 5, 3) := by decide +kernel
theorem dL_law_531 : decode cL_law 531 = .ok (.iconst 0, 1) := by decide +kernel
theorem dL_law_532 : decode cL_law 532 = .ok (.ireturn, 1) := by decide +kernel
theorem dL_law_533 : decode cL_law 533 = .ok (.goto 761, 3) := by decide +kernel
theorem dL_law_536 : decode cL_law 536 = .ok (.aload_n 1, 1) := by decide +kernel
theorem dL_law_537 : decode cL_law 537 = .ok (.aload_n 0, 1) := by decide +kernel
theorem dL_law_538 : decode cL_law 538 = .ok (.iload 4, 2) := by decide +kernel
theorem dL_law_540 : decode cL_law 540 = .ok (.iconst 1, 1) := by decide +kernel
theorem dL_law_541 : decode cL_law 541 = .ok (.iadd, 1) := by decide +kernel
theorem dL_law_542 : decode cL_law 542 = .ok (.iaload, 1) := by decide +kernel
theorem dL_law_543 : decode cL_law 543 = .ok (.aload_n 0, 1) := by decide +kernel
theorem dL_law_544 : decode cL_law 544 = .ok (.iload 4, 2) := by decide +kernel
theorem dL_law_546 : decode cL_law 546 = .ok (.iconst 2, 1) := by decide +kernel
theorem dL_law_547 : decode cL_law 547 = .ok (.iadd, 1) := by decide +kernel
theorem dL_law_548 : decode cL_law 548 = .ok (.iaload, 1) := by decide +kernel
theorem dL_law_549 : decode cL_law 549 = .ok (.aload_n 0, 1) := by decide +kernel
theorem dL_law_550 : decode cL_law 550 = .ok (.iload 4, 2) := by decide +kernel
theorem dL_law_552 : decode cL_law 552 = .ok (.iconst 3, 1) := by decide +kernel
theorem dL_law_553 : decode cL_law 553 = .ok (.iadd, 1) := by decide +kernel
theorem dL_law_554 : decode cL_law 554 = .ok (.iaload, 1) := by decide +kernel
theorem dL_law_555 : decode cL_law 555 = .ok (.aload_n 3, 1) := by decide +kernel
theorem dL_law_556 : decode cL_law 556 = .ok (.invokestatic 99, 3) := by decide +kernel
theorem dL_law_559 : decode cL_law 559 = .ok (.istore 5, 2) := by decide +kernel
theorem dL_law_561 : decode cL_law 561 = .ok (.aload_n 2, 1) := by decide +kernel
theorem dL_law_562 : decode cL_law 562 = .ok (.aload_n 0, 1) := by decide +kernel
theorem dL_law_563 : decode cL_law 563 = .ok (.iload 4, 2) := by decide +kernel
theorem dL_law_565 : decode cL_law 565 = .ok (.iconst 1, 1) := by decide +kernel
theorem dL_law_566 : decode cL_law 566 = .ok (.iadd, 1) := by decide +kernel
theorem dL_law_567 : decode cL_law 567 = .ok (.iaload, 1) := by decide +kernel
theorem dL_law_568 : decode cL_law 568 = .ok (.aload_n 0, 1) := by decide +kernel
theorem dL_law_569 : decode cL_law 569 = .ok (.iload 4, 2) := by decide +kernel
theorem dL_law_571 : decode cL_law 571 = .ok (.iconst 2, 1) := by decide +kernel
theorem dL_law_572 : decode cL_law 572 = .ok (.iadd, 1) := by decide +kernel
theorem dL_law_573 : decode cL_law 573 = .ok (.iaload, 1) := by decide +kernel
theorem dL_law_574 : decode cL_law 574 = .ok (.aload_n 0, 1) := by decide +kernel
theorem dL_law_575 : decode cL_law 575 = .ok (.iload 4, 2) := by decide +kernel
theorem dL_law_577 : decode cL_law 577 = .ok (.iconst 3, 1) := by decide +kernel
theorem dL_law_578 : decode cL_law 578 = .ok (.iadd, 1) := by decide +kernel
theorem dL_law_579 : decode cL_law 579 = .ok (.iaload, 1) := by decide +kernel
theorem dL_law_580 : decode cL_law 580 = .ok (.invokevirtual 101, 3) := by decide +kernel
theorem dL_law_583 : decode cL_law 583 = .ok (.istore 6, 2) := by decide +kernel
theorem dL_law_585 : decode cL_law 585 = .ok (.aload_n 2, 1) := by decide +kernel
theorem dL_law_586 : decode cL_law 586 = .ok (.invokevirtual 75, 3) := by decide +kernel
theorem dL_law_589 : decode cL_law 589 = .ok (.iload 5, 2) := by decide +kernel
theorem dL_law_591 : decode cL_law 591 = .ok (.if_icmp .eq 5, 3) := by decide +kernel
theorem dL_law_594 : decode cL_law 594 = .ok (.iconst 0, 1) := by decide +kernel
theorem dL_law_595 : decode cL_law 595 = .ok (.ireturn, 1) := by decide +kernel
theorem dL_law_596 : decode cL_law 596 = .ok (.iload 5, 2) := by decide +kernel
theorem dL_law_598 : decode cL_law 598 = .ok (.ifCond .ne 15, 3) := by decide +kernel
theorem dL_law_601 : decode cL_law 601 = .ok (.aload_n 3, 1) := by decide +kernel
theorem dL_law_602 : decode cL_law 602 = .ok (.iconst 0, 1) := by decide +kernel
theorem dL_law_603 : decode cL_law 603 = .ok (.laload, 1) := by decide +kernel
theorem dL_law_604 : decode cL_law 604 = .ok (.iload 6, 2) := by decide +kernel
theorem dL_law_606 : decode cL_law 606 = .ok (.i2l, 1) := by decide +kernel
theorem dL_law_607 : decode cL_law 607 = .ok (.lcmp, 1) := by decide +kernel
theorem dL_law_608 : decode cL_law 608 = .ok (.ifCond .eq 5, 3) := by decide +kernel
theorem dL_law_611 : decode cL_law 611 = .ok (.iconst 0, 1) := by decide +kernel
theorem dL_law_612 : decode cL_law 612 = .ok (.ireturn, 1) := by decide +kernel
theorem dL_law_613 : decode cL_law 613 = .ok (.goto 681, 3) := by decide +kernel
theorem dL_law_616 : decode cL_law 616 = .ok (.aload_n 1, 1) := by decide +kernel
theorem dL_law_617 : decode cL_law 617 = .ok (.aload_n 0, 1) := by decide +kernel
theorem dL_law_618 : decode cL_law 618 = .ok (.iload 4, 2) := by decide +kernel
theorem dL_law_620 : decode cL_law 620 = .ok (.iconst 1, 1) := by decide +kernel
theorem dL_law_621 : decode cL_law 621 = .ok (.iadd, 1) := by decide +kernel
theorem dL_law_622 : decode cL_law 622 = .ok (.iaload, 1) := by decide +kernel
theorem dL_law_623 : decode cL_law 623 = .ok (.ifCond .eq 7, 3) := by decide +kernel
theorem dL_law_626 : decode cL_law 626 = .ok (.iconst 1, 1) := by decide +kernel
theorem dL_law_627 : decode cL_law 627 = .ok (.goto 4, 3) := by decide +kernel
theorem dL_law_630 : decode cL_law 630 = .ok (.iconst 0, 1) := by decide +kernel
theorem dL_law_631 : decode cL_law 631 = .ok (.aload_n 0, 1) := by decide +kernel
theorem dL_law_632 : decode cL_law 632 = .ok (.iload 4, 2) := by decide +kernel
theorem dL_law_634 : decode cL_law 634 = .ok (.iconst 2, 1) := by decide +kernel
theorem dL_law_635 : decode cL_law 635 = .ok (.iadd, 1) := by decide +kernel
theorem dL_law_636 : decode cL_law 636 = .ok (.iaload, 1) := by decide +kernel
theorem dL_law_637 : decode cL_law 637 = .ok (.ifCond .eq 7, 3) := by decide +kernel
theorem dL_law_640 : decode cL_law 640 = .ok (.iconst 1, 1) := by decide +kernel
theorem dL_law_641 : decode cL_law 641 = .ok (.goto 4, 3) := by decide +kernel
theorem dL_law_644 : decode cL_law 644 = .ok (.iconst 0, 1) := by decide +kernel
theorem dL_law_645 : decode cL_law 645 = .ok (.aload_n 0, 1) := by decide +kernel
theorem dL_law_646 : decode cL_law 646 = .ok (.iload 4, 2) := by decide +kernel
theorem dL_law_648 : decode cL_law 648 = .ok (.iconst 3, 1) := by decide +kernel
theorem dL_law_649 : decode cL_law 649 = .ok (.iadd, 1) := by decide +kernel
theorem dL_law_650 : decode cL_law 650 = .ok (.iaload, 1) := by decide +kernel
theorem dL_law_651 : decode cL_law 651 = .ok (.ifCond .eq 7, 3) := by decide +kernel
theorem dL_law_654 : decode cL_law 654 = .ok (.iconst 1, 1) := by decide +kernel
theorem dL_law_655 : decode cL_law 655 = .ok (.goto 4, 3) := by decide +kernel
theorem dL_law_658 : decode cL_law 658 = .ok (.iconst 0, 1) := by decide +kernel
theorem dL_law_659 : decode cL_law 659 = .ok (.invokevirtual 102, 3) := by decide +kernel
theorem dL_law_662 : decode cL_law 662 = .ok (.aload_n 2, 1) := by decide +kernel
theorem dL_law_663 : decode cL_law 663 = .ok (.aload_n 0, 1) := by decide +kernel
theorem dL_law_664 : decode cL_law 664 = .ok (.iload 4, 2) := by decide +kernel
theorem dL_law_666 : decode cL_law 666 = .ok (.iconst 1, 1) := by decide +kernel
theorem dL_law_667 : decode cL_law 667 = .ok (.iadd, 1) := by decide +kernel
theorem dL_law_668 : decode cL_law 668 = .ok (.iaload, 1) := by decide +kernel
theorem dL_law_669 : decode cL_law 669 = .ok (.ifCond .eq 7, 3) := by decide +kernel
theorem dL_law_672 : decode cL_law 672 = .ok (.iconst 1, 1) := by decide +kernel
theorem dL_law_673 : decode cL_law 673 = .ok (.goto 4, 3) := by decide +kernel
theorem dL_law_676 : decode cL_law 676 = .ok (.iconst 0, 1) := by decide +kernel
theorem dL_law_677 : decode cL_law 677 = .ok (.aload_n 0, 1) := by decide +kernel
theorem dL_law_678 : decode cL_law 678 = .ok (.iload 4, 2) := by decide +kernel
theorem dL_law_680 : decode cL_law 680 = .ok (.iconst 2, 1) := by decide +kernel
theorem dL_law_681 : decode cL_law 681 = .ok (.iadd, 1) := by decide +kernel
theorem dL_law_682 : decode cL_law 682 = .ok (.iaload, 1) := by decide +kernel
theorem dL_law_683 : decode cL_law 683 = .ok (.ifCond .eq 7, 3) := by decide +kernel
theorem dL_law_686 : decode cL_law 686 = .ok (.iconst 1, 1) := by decide +kernel
theorem dL_law_687 : decode cL_law 687 = .ok (.goto 4, 3) := by decide +kernel
theorem dL_law_690 : decode cL_law 690 = .ok (.iconst 0, 1) := by decide +kernel
theorem dL_law_691 : decode cL_law 691 = .ok (.aload_n 0, 1) := by decide +kernel
theorem dL_law_692 : decode cL_law 692 = .ok (.iload 4, 2) := by decide +kernel
theorem dL_law_694 : decode cL_law 694 = .ok (.iconst 3, 1) := by decide +kernel
theorem dL_law_695 : decode cL_law 695 = .ok (.iadd, 1) := by decide +kernel
theorem dL_law_696 : decode cL_law 696 = .ok (.iaload, 1) := by decide +kernel
theorem dL_law_697 : decode cL_law 697 = .ok (.ifCond .eq 7, 3) := by decide +kernel
theorem dL_law_700 : decode cL_law 700 = .ok (.iconst 1, 1) := by decide +kernel
theorem dL_law_701 : decode cL_law 701 = .ok (.goto 4, 3) := by decide +kernel
theorem dL_law_704 : decode cL_law 704 = .ok (.iconst 0, 1) := by decide +kernel
theorem dL_law_705 : decode cL_law 705 = .ok (.invokevirtual 106, 3) := by decide +kernel
theorem dL_law_708 : decode cL_law 708 = .ok (.if_icmp .eq 586, 3) := by decide +kernel
theorem dL_law_711 : decode cL_law 711 = .ok (.iconst 0, 1) := by decide +kernel
theorem dL_law_712 : decode cL_law 712 = .ok (.ireturn, 1) := by decide +kernel
theorem dL_law_713 : decode cL_law 713 = .ok (.aload_n 1, 1) := by decide +kernel
theorem dL_law_714 : decode cL_law 714 = .ok (.aload_n 0, 1) := by decide +kernel
theorem dL_law_715 : decode cL_law 715 = .ok (.iload 4, 2) := by decide +kernel
theorem dL_law_717 : decode cL_law 717 = .ok (.iconst 1, 1) := by decide +kernel
theorem dL_law_718 : decode cL_law 718 = .ok (.iadd, 1) := by decide +kernel
theorem dL_law_719 : decode cL_law 719 = .ok (.iaload, 1) := by decide +kernel
theorem dL_law_720 : decode cL_law 720 = .ok (.aload_n 0, 1) := by decide +kernel
theorem dL_law_721 : decode cL_law 721 = .ok (.iload 4, 2) := by decide +kernel
theorem dL_law_723 : decode cL_law 723 = .ok (.iconst 2, 1) := by decide +kernel
theorem dL_law_724 : decode cL_law 724 = .ok (.iadd, 1) := by decide +kernel
theorem dL_law_725 : decode cL_law 725 = .ok (.iaload, 1) := by decide +kernel
theorem dL_law_726 : decode cL_law 726 = .ok (.aload_n 3, 1) := by decide +kernel
theorem dL_law_727 : decode cL_law 727 = .ok (.invokestatic 107, 3) := by decide +kernel
theorem dL_law_730 : decode cL_law 730 = .ok (.istore 5, 2) := by decide +kernel
theorem dL_law_732 : decode cL_law 732 = .ok (.aload_n 2, 1) := by decide +kernel
theorem dL_law_733 : decode cL_law 733 = .ok (.aload_n 0, 1) := by decide +kernel
theorem dL_law_734 : decode cL_law 734 = .ok (.iload 4, 2) := by decide +kernel
theorem dL_law_736 : decode cL_law 736 = .ok (.iconst 1, 1) := by decide +kernel
theorem dL_law_737 : decode cL_law 737 = .ok (.iadd, 1) := by decide +kernel
theorem dL_law_738 : decode cL_law 738 = .ok (.iaload, 1) := by decide +kernel
theorem dL_law_739 : decode cL_law 739 = .ok (.aload_n 0, 1) := by decide +kernel
theorem dL_law_740 : decode cL_law 740 = .ok (.iload 4, 2) := by decide +kernel
theorem dL_law_742 : decode cL_law 742 = .ok (.iconst 2, 1) := by decide +kernel
theorem dL_law_743 : decode cL_law 743 = .ok (.iadd, 1) := by decide +kernel
theorem dL_law_744 : decode cL_law 744 = .ok (.iaload, 1) := by decide +kernel
theorem dL_law_745 : decode cL_law 745 = .ok (.invokevirtual 110, 3) := by decide +kernel
theorem dL_law_748 : decode cL_law 748 = .ok (.istore 6, 2) := by decide +kernel
theorem dL_law_750 : decode cL_law 750 = .ok (.aload_n 2, 1) := by decide +kernel
theorem dL_law_751 : decode cL_law 751 = .ok (.invokevirtual 75, 3) := by decide +kernel
theorem dL_law_754 : decode cL_law 754 = .ok (.iload 5, 2) := by decide +kernel
theorem dL_law_756 : decode cL_law 756 = .ok (.if_icmp .eq 5, 3) := by decide +kernel
theorem dL_law_759 : decode cL_law 759 = .ok (.iconst 0, 1) := by decide +kernel
theorem dL_law_760 : decode cL_law 760 = .ok (.ireturn, 1) := by decide +kernel
theorem dL_law_761 : decode cL_law 761 = .ok (.iload 5, 2) := by decide +kernel
theorem dL_law_763 : decode cL_law 763 = .ok (.ifCond .ne 15, 3) := by decide +kernel
theorem dL_law_766 : decode cL_law 766 = .ok (.aload_n 3, 1) := by decide +kernel
theorem dL_law_767 : decode cL_law 767 = .ok (.iconst 0, 1) := by decide +kernel
theorem dL_law_768 : decode cL_law 768 = .ok (.laload, 1) := by decide +kernel
theorem dL_law_769 : decode cL_law 769 = .ok (.iload 6, 2) := by decide +kernel
theorem dL_law_771 : decode cL_law 771 = .ok (.i2l, 1) := by decide +kernel
theorem dL_law_772 : decode cL_law 772 = .ok (.lcmp, 1) := by decide +kernel
theorem dL_law_773 : decode cL_law 773 = .ok (.ifCond .eq 5, 3) := by decide +kernel
theorem dL_law_776 : decode cL_law 776 = .ok (.iconst 0, 1) := by decide +kernel
theorem dL_law_777 : decode cL_law 777 = .ok (.ireturn, 1) := by decide +kernel
theorem dL_law_778 : decode cL_law 778 = .ok (.goto 516, 3) := by decide +kernel
theorem dL_law_781 : decode cL_law 781 = .ok (.aload_n 1, 1) := by decide +kernel
theorem dL_law_782 : decode cL_law 782 = .ok (.invokevirtual 111, 3) := by decide +kernel
theorem dL_law_785 : decode cL_law 785 = .ok (.aload_n 2, 1) := by decide +kernel
theorem dL_law_786 : decode cL_law 786 = .ok (.invokevirtual 114, 3) := by decide +kernel
theorem dL_law_789 : decode cL_law 789 = .ok (.if_icmp .eq 505, 3) := by decide +kernel
theorem dL_law_792 : decode cL_law 792 = .ok (.iconst 0, 1) := by decide +kernel
theorem dL_law_793 : decode cL_law 793 = .ok (.ireturn, 1) := by decide +kernel
theorem dL_law_794 : decode cL_law 794 = .ok (.aload_n 1, 1) := by decide +kernel
theorem dL_law_795 : decode cL_law 795 = .ok (.aload_n 0, 1) := by decide +kernel
theorem dL_law_796 : decode cL_law 796 = .ok (.iload 4, 2) := by decide +kernel
theorem dL_law_798 : decode cL_law 798 = .ok (.iconst 1, 1) := by decide +kernel
theorem dL_law_799 : decode cL_law 799 = .ok (.iadd, 1) := by decide +kernel
theorem dL_law_800 : decode cL_law 800 = .ok (.iaload, 1) := by decide +kernel
theorem dL_law_801 : decode cL_law 801 = .ok (.aload_n 0, 1) := by decide +kernel
theorem dL_law_802 : decode cL_law 802 = .ok (.iload 4, 2) := by decide +kernel
theorem dL_law_804 : decode cL_law 804 = .ok (.iconst 2, 1) := by decide +kernel
theorem dL_law_805 : decode cL_law 805 = .ok (.iadd, 1) := by decide +kernel
theorem dL_law_806 : decode cL_law 806 = .ok (.iaload, 1) := by decide +kernel
theorem dL_law_807 : decode cL_law 807 = .ok (.aload_n 0, 1) := by decide +kernel
theorem dL_law_808 : decode cL_law 808 = .ok (.iload 4, 2) := by decide +kernel
theorem dL_law_810 : decode cL_law 810 = .ok (.iconst 3, 1) := by decide +kernel
theorem dL_law_811 : decode cL_law 811 = .ok (.iadd, 1) := by decide +kernel
theorem dL_law_812 : decode cL_law 812 = .ok (.iaload, 1) := by decide +kernel
theorem dL_law_813 : decode cL_law 813 = .ok (.aload_n 3, 1) := by decide +kernel
theorem dL_law_814 : decode cL_law 814 = .ok (.invokestatic 115, 3) := by decide +kernel
theorem dL_law_817 : decode cL_law 817 = .ok (.istore 5, 2) := by decide +kernel
theorem dL_law_819 : decode cL_law 819 = .ok (.aload_n 2, 1) := by decide +kernel
theorem dL_law_820 : decode cL_law 820 = .ok (.aload_n 0, 1) := by decide +kernel
theorem dL_law_821 : decode cL_law 821 = .ok (.iload 4, 2) := by decide +kernel
theorem dL_law_823 : decode cL_law 823 = .ok (.iconst 1, 1) := by decide +kernel
theorem dL_law_824 : decode cL_law 824 = .ok (.iadd, 1) := by decide +kernel
theorem dL_law_825 : decode cL_law 825 = .ok (.iaload, 1) := by decide +kernel
theorem dL_law_826 : decode cL_law 826 = .ok (.aload_n 0, 1) := by decide +kernel
theorem dL_law_827 : decode cL_law 827 = .ok (.iload 4, 2) := by decide +kernel
theorem dL_law_829 : decode cL_law 829 = .ok (.iconst 2, 1) := by decide +kernel
theorem dL_law_830 : decode cL_law 830 = .ok (.iadd, 1) := by decide +kernel
theorem dL_law_831 : decode cL_law 831 = .ok (.iaload, 1) := by decide +kernel
theorem dL_law_832 : decode cL_law 832 = .ok (.aload_n 0, 1) := by decide +kernel
theorem dL_law_833 : decode cL_law 833 = .ok (.iload 4, 2) := by decide +kernel
theorem dL_law_835 : decode cL_law 835 = .ok (.iconst 3, 1) := by decide +kernel
theorem dL_law_836 : decode cL_law 836 = .ok (.iadd, 1) := by decide +kernel
theorem dL_law_837 : decode cL_law 837 = .ok (.iaload, 1) := by decide +kernel
theorem dL_law_838 : decode cL_law 838 = .ok (.invokevirtual 117, 3) := by decide +kernel
theorem dL_law_841 : decode cL_law 841 = .ok (.istore 6, 2) := by decide +kernel
theorem dL_law_843 : decode cL_law 843 = .ok (.aload_n 2, 1) := by decide +kernel
theorem dL_law_844 : decode cL_law 844 = .ok (.invokevirtual 75, 3) := by decide +kernel
theorem dL_law_847 : decode cL_law 847 = .ok (.iload 5, 2) := by decide +kernel
theorem dL_law_849 : decode cL_law 849 = .ok (.if_icmp .eq 5, 3) := by decide +kernel
theorem dL_law_852 : decode cL_law 852 = .ok (.iconst 0, 1) := by decide +kernel
theorem dL_law_853 : decode cL_law 853 = .ok (.ireturn, 1) := by decide +kernel
theorem dL_law_854 : decode cL_law 854 = .ok (.iload 5, 2) := by decide +kernel
theorem dL_law_856 : decode cL_law 856 = .ok (.ifCond .ne 15, 3) := by decide +kernel
theorem dL_law_859 : decode cL_law 859 = .ok (.aload_n 3, 1) := by decide +kernel
theorem dL_law_860 : decode cL_law 860 = .ok (.iconst 0, 1) := by decide +kernel
theorem dL_law_861 : decode cL_law 861 = .ok (.laload, 1) := by decide +kernel
theorem dL_law_862 : decode cL_law 862 = .ok (.iload 6, 2) := by decide +kernel
theorem dL_law_864 : decode cL_law 864 = .ok (.i2l, 1) := by decide +kernel
theorem dL_law_865 : decode cL_law 865 = .ok (.lcmp, 1) := by decide +kernel
theorem dL_law_866 : decode cL_law 866 = .ok (.ifCond .eq 5, 3) := by decide +kernel
theorem dL_law_869 : decode cL_law 869 = .ok (.iconst 0, 1) := by decide +kernel
theorem dL_law_870 : decode cL_law 870 = .ok (.ireturn, 1) := by decide +kernel
theorem dL_law_871 : decode cL_law 871 = .ok (.goto 423, 3) := by decide +kernel
theorem dL_law_874 : decode cL_law 874 = .ok (.aload_n 1, 1) := by decide +kernel
theorem dL_law_875 : decode cL_law 875 = .ok (.invokevirtual 118, 3) := by decide +kernel
theorem dL_law_878 : decode cL_law 878 = .ok (.aload_n 2, 1) := by decide +kernel
theorem dL_law_879 : decode cL_law 879 = .ok (.invokevirtual 121, 3) := by decide +kernel
theorem dL_law_882 : decode cL_law 882 = .ok (.if_icmp .eq 412, 3) := by decide +kernel
theorem dL_law_885 : decode cL_law 885 = .ok (.iconst 0, 1) := by decide +kernel
theorem dL_law_886 : decode cL_law 886 = .ok (.ireturn, 1) := by decide +kernel
theorem dL_law_887 : decode cL_law 887 = .ok (.aload_n 1, 1) := by decide +kernel
theorem dL_law_888 : decode cL_law 888 = .ok (.aload_n 0, 1) := by decide +kernel
theorem dL_law_889 : decode cL_law 889 = .ok (.iload 4, 2) := by decide +kernel
theorem dL_law_891 : decode cL_law 891 = .ok (.iconst 1, 1) := by decide +kernel
theorem dL_law_892 : decode cL_law 892 = .ok (.iadd, 1) := by decide +kernel
theorem dL_law_893 : decode cL_law 893 = .ok (.iaload, 1) := by decide +kernel
theorem dL_law_894 : decode cL_law 894 = .ok (.aload_n 3, 1) := by decide +kernel
theorem dL_law_895 : decode cL_law 895 = .ok (.invokestatic 122, 3) := by decide +kernel
theorem dL_law_898 : decode cL_law 898 = .ok (.istore 5, 2) := by decide +kernel
theorem dL_law_900 : decode cL_law 900 = .ok (.aload_n 2, 1) := by decide +kernel
theorem dL_law_901 : decode cL_law 901 = .ok (.aload_n 0, 1) := by decide +kernel
theorem dL_law_902 : decode cL_law 902 = .ok (.iload 4, 2) := by decide +kernel
theorem dL_law_904 : decode cL_law 904 = .ok (.iconst 1, 1) := by decide +kernel
theorem dL_law_905 : decode cL_law 905 = .ok (.iadd, 1) := by decide +kernel
theorem dL_law_906 : decode cL_law 906 = .ok (.iaload, 1) := by decide +kernel
theorem dL_law_907 : decode cL_law 907 = .ok (.invokevirtual 124, 3) := by decide +kernel
theorem dL_law_910 : decode cL_law 910 = .ok (.istore 6, 2) := by decide +kernel
theorem dL_law_912 : decode cL_law 912 = .ok (.aload_n 2, 1) := by decide +kernel
theorem dL_law_913 : decode cL_law 913 = .ok (.invokevirtual 75, 3) := by decide +kernel
theorem dL_law_916 : decode cL_law 916 = .ok (.iload 5, 2) := by decide +kernel
theorem dL_law_918 : decode cL_law 918 = .ok (.if_icmp .eq 5, 3) := by decide +kernel
theorem dL_law_921 : decode cL_law 921 = .ok (.iconst 0, 1) := by decide +kernel
theorem dL_law_922 : decode cL_law 922 = .ok (.ireturn, 1) := by decide +kernel
theorem dL_law_923 : decode cL_law 923 = .ok (.iload 5, 2) := by decide +kernel
theorem dL_law_925 : decode cL_law 925 = .ok (.ifCond .ne 15, 3) := by decide +kernel
theorem dL_law_928 : decode cL_law 928 = .ok (.aload_n 3, 1) := by decide +kernel
theorem dL_law_929 : decode cL_law 929 = .ok (.iconst 0, 1) := by decide +kernel
theorem dL_law_930 : decode cL_law 930 = .ok (.laload, 1) := by decide +kernel
theorem dL_law_931 : decode cL_law 931 = .ok (.iload 6, 2) := by decide +kernel
theorem dL_law_933 : decode cL_law 933 = .ok (.i2l, 1) := by decide +kernel
theorem dL_law_934 : decode cL_law 934 = .ok (.lcmp, 1) := by decide +kernel
theorem dL_law_935 : decode cL_law 935 = .ok (.ifCond .eq 5, 3) := by decide +kernel
theorem dL_law_938 : decode cL_law 938 = .ok (.iconst 0, 1) := by decide +kernel
theorem dL_law_939 : decode cL_law 939 = .ok (.ireturn, 1) := by decide +kernel
theorem dL_law_940 : decode cL_law 940 = .ok (.goto 354, 3) := by decide +kernel
theorem dL_law_943 : decode cL_law 943 = .ok (.aload_n 1, 1) := by decide +kernel
theorem dL_law_944 : decode cL_law 944 = .ok (.invokevirtual 125, 3) := by decide +kernel
theorem dL_law_947 : decode cL_law 947 = .ok (.aload_n 2, 1) := by decide +kernel
theorem dL_law_948 : decode cL_law 948 = .ok (.invokevirtual 128, 3) := by decide +kernel
theorem dL_law_951 : decode cL_law 951 = .ok (.if_icmp .eq 343, 3) := by decide +kernel
theorem dL_law_954 : decode cL_law 954 = .ok (.iconst 0, 1) := by decide +kernel
theorem dL_law_955 : decode cL_law 955 = .ok (.ireturn, 1) := by decide +kernel
theorem dL_law_956 : decode cL_law 956 = .ok (.aload_n 1, 1) := by decide +kernel
theorem dL_law_957 : decode cL_law 957 = .ok (.invokevirtual 129, 3) := by decide +kernel
theorem dL_law_960 : decode cL_law 960 = .ok (.aload_n 2, 1) := by decide +kernel
theorem dL_law_961 : decode cL_law 961 = .ok (.invokevirtual 132, 3) := by decide +kernel
theorem dL_law_964 : decode cL_law 964 = .ok (.if_icmp .eq 330, 3) := by decide +kernel
theorem dL_law_967 : decode cL_law 967 = .ok (.iconst 0, 1) := by decide +kernel
theorem dL_law_968 : decode cL_law 968 = .ok (.ireturn, 1) := by decide +kernel
theorem dL_law_969 : decode cL_law 969 = .ok (.aload_n 1, 1) := by decide +kernel
theorem dL_law_970 : decode cL_law 970 = .ok (.aload_n 0, 1) := by decide +kernel
theorem dL_law_971 : decode cL_law 971 = .ok (.iload 4, 2) := by decide +kernel
theorem dL_law_973 : decode cL_law 973 = .ok (.iconst 1, 1) := by decide +kernel
theorem dL_law_974 : decode cL_law 974 = .ok (.iadd, 1) := by decide +kernel
theorem dL_law_975 : decode cL_law 975 = .ok (.iaload, 1) := by decide +kernel
theorem dL_law_976 : decode cL_law 976 = .ok (.aload_n 3, 1) := by decide +kernel
theorem dL_law_977 : decode cL_law 977 = .ok (.invokestatic 133, 3) := by decide +kernel
theorem dL_law_980 : decode cL_law 980 = .ok (.istore 5, 2) := by decide +kernel
theorem dL_law_982 : decode cL_law 982 = .ok (.aload_n 2, 1) := by decide +kernel
theorem dL_law_983 : decode cL_law 983 = .ok (.aload_n 0, 1) := by decide +kernel
theorem dL_law_984 : decode cL_law 984 = .ok (.iload 4, 2) := by decide +kernel
theorem dL_law_986 : decode cL_law 986 = .ok (.iconst 1, 1) := by decide +kernel
theorem dL_law_987 : decode cL_law 987 = .ok (.iadd, 1) := by decide +kernel
theorem dL_law_988 : decode cL_law 988 = .ok (.iaload, 1) := by decide +kernel
theorem dL_law_989 : decode cL_law 989 = .ok (.invokevirtual 135, 3) := by decide +kernel
theorem dL_law_992 : decode cL_law 992 = .ok (.istore 6, 2) := by decide +kernel
theorem dL_law_994 : decode cL_law 994 = .ok (.aload_n 2, 1) := by decide +kernel
theorem dL_law_995 : decode cL_law 995 = .ok (.invokevirtual 75, 3) := by decide +kernel
theorem dL_law_998 : decode cL_law 998 = .ok (.iload 5, 2) := by decide +kernel
theorem dL_law_1000 : decode cL_law 1000 = .ok (.if_icmp .eq 5, 3) := by decide +kernel
theorem dL_law_1003 : decode cL_law 1003 = .ok (.iconst 0, 1) := by decide +kernel
theorem dL_law_1004 : decode cL_law 1004 = .ok (.ireturn, 1) := by decide +kernel
theorem dL_law_1005 : decode cL_law 1005 = .ok (.iload 5, 2) := by decide +kernel
theorem dL_law_1007 : decode cL_law 1007 = .ok (.ifCond .ne 15, 3) := by decide +kernel
theorem dL_law_1010 : decode cL_law 1010 = .ok (.aload_n 3, 1) := by decide +kernel
theorem dL_law_1011 : decode cL_law 1011 = .ok (.iconst 0, 1) := by decide +kernel
theorem dL_law_1012 : decode cL_law 1012 = .ok (.laload, 1) := by decide +kernel
theorem dL_law_1013 : decode cL_law 1013 = .ok (.iload 6, 2) := by decide +kernel
theorem dL_law_1015 : decode cL_law 1015 = .ok (.i2l, 1) := by decide +kernel
theorem dL_law_1016 : decode cL_law 1016 = .ok (.lcmp, 1) := by decide +kernel
theorem dL_law_1017 : decode cL_law 1017 = .ok (.ifCond .eq 5, 3) := by decide +kernel
theorem dL_law_1020 : decode cL_law 1020 = .ok (.iconst 0, 1) := by decide +kernel
theorem dL_law_1021 : decode cL_law 1021 = .ok (.ireturn, 1) := by decide +kernel
theorem dL_law_1022 : decode cL_law 1022 = .ok (.goto 272, 3) := by decide +kernel
theorem dL_law_1025 : decode cL_law 1025 = .ok (.aload_n 1, 1) := by decide +kernel
theorem dL_law_1026 : decode cL_law 1026 = .ok (.aload_n 3, 1) := by decide +kernel
theorem dL_law_1027 : decode cL_law 1027 = .ok (.invokestatic 136, 3) := by decide +kernel
theorem dL_law_1030 : decode cL_law 1030 = .ok (.istore 5, 2) := by decide +kernel
theorem dL_law_1032 : decode cL_law 1032 = .ok (.aload_n 2, 1) := by decide +kernel
theorem dL_law_1033 : decode cL_law 1033 = .ok (.invokevirtual 139, 3) := by decide +kernel
theorem dL_law_1036 : decode cL_law 1036 = .ok (.istore 6, 2) := by decide +kernel
theorem dL_law_1038 : decode cL_law 1038 = .ok (.aload_n 2, 1) := by decide +kernel
theorem dL_law_1039 : decode cL_law 1039 = .ok (.invokevirtual 75, 3) := by decide +kernel
theorem dL_law_1042 : decode cL_law 1042 = .ok (.iload 5, 2) := by decide +kernel
theorem dL_law_1044 : decode cL_law 1044 = .ok (.if_icmp .eq 5, 3) := by decide +kernel
theorem dL_law_1047 : decode cL_law 1047 = .ok (.iconst 0, 1) := by decide +kernel
theorem dL_law_1048 : decode cL_law 1048 = .ok (.ireturn, 1) := by decide +kernel
theorem dL_law_1049 : decode cL_law 1049 = .ok (.iload 5, 2) := by decide +kernel
theorem dL_law_1051 : decode cL_law 1051 = .ok (.ifCond .ne 15, 3) := by decide +kernel
theorem dL_law_1054 : decode cL_law 1054 = .ok (.aload_n 3, 1) := by decide +kernel
theorem dL_law_1055 : decode cL_law 1055 = .ok (.iconst 0, 1) := by decide +kernel
theorem dL_law_1056 : decode cL_law 1056 = .ok (.laload, 1) := by decide +kernel
theorem dL_law_1057 : decode cL_law 1057 = .ok (.iload 6, 2) := by decide +kernel
theorem dL_law_1059 : decode cL_law 1059 = .ok (.i2l, 1) := by decide +kernel
theorem dL_law_1060 : decode cL_law 1060 = .ok (.lcmp, 1) := by decide +kernel
theorem dL_law_1061 : decode cL_law 1061 = .ok (.ifCond .eq 5, 3) := by decide +kernel
theorem dL_law_1064 : decode cL_law 1064 = .ok (.iconst 0, 1) := by decide +kernel
theorem dL_law_1065 : decode cL_law 1065 = .ok (.ireturn, 1) := by decide +kernel
theorem dL_law_1066 : decode cL_law 1066 = .ok (.goto 228, 3) := by decide +kernel
theorem dL_law_1069 : decode cL_law 1069 = .ok (.aload_n 1, 1) := by decide +kernel
theorem dL_law_1070 : decode cL_law 1070 = .ok (.aload_n 3, 1) := by decide +kernel
theorem dL_law_1071 : decode cL_law 1071 = .ok (.invokestatic 140, 3) := by decide +kernel
theorem dL_law_1074 : decode cL_law 1074 = .ok (.istore 5, 2) := by decide +kernel
theorem dL_law_1076 : decode cL_law 1076 = .ok (.aload_n 2, 1) := by decide +kernel
theorem dL_law_1077 : decode cL_law 1077 = .ok (.invokevirtual 142, 3) := by decide +kernel
theorem dL_law_1080 : decode cL_law 1080 = .ok (.istore 6, 2) := by decide +kernel
theorem dL_law_1082 : decode cL_law 1082 = .ok (.aload_n 2, 1) := by decide +kernel
theorem dL_law_1083 : decode cL_law 1083 = .ok (.invokevirtual 75, 3) := by decide +kernel
theorem dL_law_1086 : decode cL_law 1086 = .ok (.iload 5, 2) := by decide +kernel
theorem dL_law_1088 : decode cL_law 1088 = .ok (.if_icmp .eq 5, 3) := by decide +kernel
theorem dL_law_1091 : decode cL_law 1091 = .ok (.iconst 0, 1) := by decide +kernel
theorem dL_law_1092 : decode cL_law 1092 = .ok (.ireturn, 1) := by decide +kernel
theorem dL_law_1093 : decode cL_law 1093 = .ok (.iload 5, 2) := by decide +kernel
theorem dL_law_1095 : decode cL_law 1095 = .ok (.ifCond .ne 15, 3) := by decide +kernel
theorem dL_law_1098 : decode cL_law 1098 = .ok (.aload_n 3, 1) := by decide +kernel
theorem dL_law_1099 : decode cL_law 1099 = .ok (.iconst 0, 1) := by decide +kernel
theorem dL_law_1100 : decode cL_law 1100 = .ok (.laload, 1) := by decide +kernel
theorem dL_law_1101 : decode cL_law 1101 = .ok (.iload 6, 2) := by decide +kernel
theorem dL_law_1103 : decode cL_law 1103 = .ok (.i2l, 1) := by decide +kernel
theorem dL_law_1104 : decode cL_law 1104 = .ok (.lcmp, 1) := by decide +kernel
theorem dL_law_1105 : decode cL_law 1105 = .ok (.ifCond .eq 5, 3) := by decide +kernel
theorem dL_law_1108 : decode cL_law 1108 = .ok (.iconst 0, 1) := by decide +kernel
theorem dL_law_1109 : decode cL_law 1109 = .ok (.ireturn, 1) := by decide +kernel
theorem dL_law_1110 : decode cL_law 1110 = .ok (.goto 184, 3) := by decide +kernel
theorem dL_law_1113 : decode cL_law 1113 = .ok (.aload_n 1, 1) := by decide +kernel
theorem dL_law_1114 : decode cL_law 1114 = .ok (.aload_n 3, 1) := by decide +kernel
theorem dL_law_1115 : decode cL_law 1115 = .ok (.invokestatic 143, 3) := by decide +kernel
theorem dL_law_1118 : decode cL_law 1118 = .ok (.istore 5, 2) := by decide +kernel
theorem dL_law_1120 : decode cL_law 1120 = .ok (.aload_n 2, 1) := by decide +kernel
theorem dL_law_1121 : decode cL_law 1121 = .ok (.invokevirtual 145, 3) := by decide +kernel
theorem dL_law_1124 : decode cL_law 1124 = .ok (.istore 6, 2) := by decide +kernel
theorem dL_law_1126 : decode cL_law 1126 = .ok (.aload_n 2, 1) := by decide +kernel
theorem dL_law_1127 : decode cL_law 1127 = .ok (.invokevirtual 75, 3) := by decide +kernel
theorem dL_law_1130 : decode cL_law 1130 = .ok (.iload 5, 2) := by decide +kernel
theorem dL_law_1132 : decode cL_law 1132 = .ok (.if_icmp .eq 5, 3) := by decide +kernel
theorem dL_law_1135 : decode cL_law 1135 = .ok (.iconst 0, 1) := by decide +kernel
theorem dL_law_1136 : decode cL_law 1136 = .ok (.ireturn, 1) := by decide +kernel
theorem dL_law_1137 : decode cL_law 1137 = .ok (.iload 5, 2) := by decide +kernel
theorem dL_law_1139 : decode cL_law 1139 = .ok (.ifCond .ne 15, 3) := by decide +kernel
theorem dL_law_1142 : decode cL_law 1142 = .ok (.aload_n 3, 1) := by decide +kernel
theorem dL_law_1143 : decode cL_law 1143 = .ok (.iconst 0, 1) := by decide +kernel
theorem dL_law_1144 : decode cL_law 1144 = .ok (.laload, 1) := by decide +kernel
theorem dL_law_1145 : decode cL_law 1145 = .ok (.iload 6, 2) := by decide +kernel
theorem dL_law_1147 : decode cL_law 1147 = .ok (.i2l, 1) := by decide +kernel
theorem dL_law_1148 : decode cL_law 1148 = .ok (.lcmp, 1) := by decide +kernel
theorem dL_law_1149 : decode cL_law 1149 = .ok (.ifCond .eq 5, 3) := by decide +kernel
theorem dL_law_1152 : decode cL_law 1152 = .ok (.iconst 0, 1) := by decide +kernel
theorem dL_law_1153 : decode cL_law 1153 = .ok (.ireturn, 1) := by decide +kernel
theorem dL_law_1154 : decode cL_law 1154 = .ok (.goto 140, 3) := by decide +kernel
theorem dL_law_1157 : decode cL_law 1157 = .ok (.aload_n 1, 1) := by decide +kernel
theorem dL_law_1158 : decode cL_law 1158 = .ok (.invokevirtual 146, 3) := by decide +kernel
theorem dL_law_1161 : decode cL_law 1161 = .ok (.aload_n 2, 1) := by decide +kernel
theorem dL_law_1162 : decode cL_law 1162 = .ok (.invokevirtual 149, 3) := by decide +kernel
theorem dL_law_1165 : decode cL_law 1165 = .ok (.if_icmp .eq 129, 3) := by decide +kernel
theorem dL_law_1168 : decode cL_law 1168 = .ok (.iconst 0, 1) := by decide +kernel
theorem dL_law_1169 : decode cL_law 1169 = .ok (.ireturn, 1) := by decide +kernel
theorem dL_law_1170 : decode cL_law 1170 = .ok (.aload_n 1, 1) := by decide +kernel
theorem dL_law_1171 : decode cL_law 1171 = .ok (.aload_n 0, 1) := by decide +kernel
theorem dL_law_1172 : decode cL_law 1172 = .ok (.iload 4, 2) := by decide +kernel
theorem dL_law_1174 : decode cL_law 1174 = .ok (.iconst 1, 1) := by decide +kernel
theorem dL_law_1175 : decode cL_law 1175 = .ok (.iadd, 1) := by decide +kernel
theorem dL_law_1176 : decode cL_law 1176 = .ok (.iaload, 1) := by decide +kernel
theorem dL_law_1177 : decode cL_law 1177 = .ok (.aload_n 0, 1) := by decide +kernel
theorem dL_law_1178 : decode cL_law 1178 = .ok (.iload 4, 2) := by decide +kernel
theorem dL_law_1180 : decode cL_law 1180 = .ok (.iconst 2, 1) := by decide +kernel
theorem dL_law_1181 : decode cL_law 1181 = .ok (.iadd, 1) := by decide +kernel
theorem dL_law_1182 : decode cL_law 1182 = .ok (.iaload, 1) := by decide +kernel
theorem dL_law_1183 : decode cL_law 1183 = .ok (.aload_n 3, 1) := by decide +kernel
theorem dL_law_1184 : decode cL_law 1184 = .ok (.invokestatic 150, 3) := by decide +kernel
theorem dL_law_1187 : decode cL_law 1187 = .ok (.istore 5, 2) := by decide +kernel
theorem dL_law_1189 : decode cL_law 1189 = .ok (.aload_n 2, 1) := by decide +kernel
theorem dL_law_1190 : decode cL_law 1190 = .ok (.aload_n 0, 1) := by decide +kernel
theorem dL_law_1191 : decode cL_law 1191 = .ok (.iload 4, 2) := by decide +kernel
theorem dL_law_1193 : decode cL_law 1193 = .ok (.iconst 1, 1) := by decide +kernel
theorem dL_law_1194 : decode cL_law 1194 = .ok (.iadd, 1) := by decide +kernel
theorem dL_law_1195 : decode cL_law 1195 = .ok (.iaload, 1) := by decide +kernel
theorem dL_law_1196 : decode cL_law 1196 = .ok (.aload_n 0, 1) := by decide +kernel
theorem dL_law_1197 : decode cL_law 1197 = .ok (.iload 4, 2) := by decide +kernel
theorem dL_law_1199 : decode cL_law 1199 = .ok (.iconst 2, 1) := by decide +kernel
theorem dL_law_1200 : decode cL_law 1200 = .ok (.iadd, 1) := by decide +kernel
theorem dL_law_1201 : decode cL_law 1201 = .ok (.iaload, 1) := by decide +kernel
theorem dL_law_1202 : decode cL_law 1202 = .ok (.invokevirtual 152, 3) := by decide +kernel
theorem dL_law_1205 : decode cL_law 1205 = .ok (.istore 6, 2) := by decide +kernel
theorem dL_law_1207 : decode cL_law 1207 = .ok (.aload_n 2, 1) := by decide +kernel
theorem dL_law_1208 : decode cL_law 1208 = .ok (.invokevirtual 75, 3) := by decide +kernel
theorem dL_law_1211 : decode cL_law 1211 = .ok (.iload 5, 2) := by decide +kernel
theorem dL_law_1213 : decode cL_law 1213 = .ok (.if_icmp .eq 5, 3) := by decide +kernel
theorem dL_law_1216 : decode cL_law 1216 = .ok (.iconst 0, 1) := by decide +kernel
theorem dL_law_1217 : decode cL_law 1217 = .ok (.ireturn, 1) := by decide +kernel
theorem dL_law_1218 : decode cL_law 1218 = .ok (.iload 5, 2) := by decide +kernel
theorem dL_law_1220 : decode cL_law 1220 = .ok (.ifCond .ne 15, 3) := by decide +kernel
theorem dL_law_1223 : decode cL_law 1223 = .ok (.aload_n 3, 1) := by decide +kernel
theorem dL_law_1224 : decode cL_law 1224 = .ok (.iconst 0, 1) := by decide +kernel
theorem dL_law_1225 : decode cL_law 1225 = .ok (.laload, 1) := by decide +kernel
theorem dL_law_1226 : decode cL_law 1226 = .ok (.iload 6, 2) := by decide +kernel
theorem dL_law_1228 : decode cL_law 1228 = .ok (.i2l, 1) := by decide +kernel
theorem dL_law_1229 : decode cL_law 1229 = .ok (.lcmp, 1) := by decide +kernel
theorem dL_law_1230 : decode cL_law 1230 = .ok (.ifCond .eq 5, 3) := by decide +kernel
theorem dL_law_1233 : decode cL_law 1233 = .ok (.iconst 0, 1) := by decide +kernel
theorem dL_law_1234 : decode cL_law 1234 = .ok (.ireturn, 1) := by decide +kernel
theorem dL_law_1235 : decode cL_law 1235 = .ok (.goto 59, 3) := by decide +kernel
theorem dL_law_1238 : decode cL_law 1238 = .ok (.aload_n 1, 1) := by decide +kernel
theorem dL_law_1239 : decode cL_law 1239 = .ok (.aload_n 0, 1) := by decide +kernel
theorem dL_law_1240 : decode cL_law 1240 = .ok (.iload 4, 2) := by decide +kernel
theorem dL_law_1242 : decode cL_law 1242 = .ok (.iconst 1, 1) := by decide +kernel
theorem dL_law_1243 : decode cL_law 1243 = .ok (.iadd, 1) := by decide +kernel
theorem dL_law_1244 : decode cL_law 1244 = .ok (.iaload, 1) := by decide +kernel
theorem dL_law_1245 : decode cL_law 1245 = .ok (.aload_n 3, 1) := by decide +kernel
theorem dL_law_1246 : decode cL_law 1246 = .ok (.invokestatic 153, 3) := by decide +kernel
theorem dL_law_1249 : decode cL_law 1249 = .ok (.istore 5, 2) := by decide +kernel
theorem dL_law_1251 : decode cL_law 1251 = .ok (.aload_n 2, 1) := by decide +kernel
theorem dL_law_1252 : decode cL_law 1252 = .ok (.aload_n 0, 1) := by decide +kernel
theorem dL_law_1253 : decode cL_law 1253 = .ok (.iload 4, 2) := by decide +kernel
theorem dL_law_1255 : decode cL_law 1255 = .ok (.iconst 1, 1) := by decide +kernel
theorem dL_law_1256 : decode cL_law 1256 = .ok (.iadd, 1) := by decide +kernel
theorem dL_law_1257 : decode cL_law 1257 = .ok (.iaload, 1) := by decide +kernel
theorem dL_law_1258 : decode cL_law 1258 = .ok (.invokevirtual 155, 3) := by decide +kernel
theorem dL_law_1261 : decode cL_law 1261 = .ok (.istore 6, 2) := by decide +kernel
