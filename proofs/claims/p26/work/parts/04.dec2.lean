theorem dL_act_23 : decode cL_act 23 = .ok (.iload_n 1, 1) := by decide +kernel
theorem dL_act_24 : decode cL_act 24 = .ok (.iconst 1, 1) := by decide +kernel
theorem dL_act_25 : decode cL_act 25 = .ok (.if_icmp .ne 22, 3) := by decide +kernel
theorem dL_act_28 : decode cL_act 28 = .ok (.aload_n 0, 1) := by decide +kernel
theorem dL_act_29 : decode cL_act 29 = .ok (.iload_n 2, 1) := by decide +kernel
theorem dL_act_30 : decode cL_act 30 = .ok (.iload_n 3, 1) := by decide +kernel
theorem dL_act_31 : decode cL_act 31 = .ok (.iload 4, 2) := by decide +kernel
theorem dL_act_33 : decode cL_act 33 = .ok (.invokevirtual 13, 3) := by decide +kernel
theorem dL_act_36 : decode cL_act 36 = .ok (.ifCond .eq 7, 3) := by decide +kernel
theorem dL_act_39 : decode cL_act 39 = .ok (.iconst 1, 1) := by decide +kernel
theorem dL_act_40 : decode cL_act 40 = .ok (.goto 184, 3) := by decide +kernel
theorem dL_act_43 : decode cL_act 43 = .ok (.iconst 0, 1) := by decide +kernel
theorem dL_act_44 : decode cL_act 44 = .ok (.goto 180, 3) := by decide +kernel
theorem dL_act_47 : decode cL_act 47 = .ok (.iload_n 1, 1) := by decide +kernel
theorem dL_act_48 : decode cL_act 48 = .ok (.iconst 2, 1) := by decide +kernel
theorem dL_act_49 : decode cL_act 49 = .ok (.if_icmp .ne 14, 3) := by decide +kernel
theorem dL_act_52 : decode cL_act 52 = .ok (.aload_n 0, 1) := by decide +kernel
theorem dL_act_53 : decode cL_act 53 = .ok (.iload_n 2, 1) := by decide +kernel
theorem dL_act_54 : decode cL_act 54 = .ok (.iload_n 3, 1) := by decide +kernel
theorem dL_act_55 : decode cL_act 55 = .ok (.iload 4, 2) := by decide +kernel
theorem dL_act_57 : decode cL_act 57 = .ok (.invokevirtual 16, 3) := by decide +kernel
theorem dL_act_60 : decode cL_act 60 = .ok (.goto 164, 3) := by decide +kernel
theorem dL_act_63 : decode cL_act 63 = .ok (.iload_n 1, 1) := by decide +kernel
theorem dL_act_64 : decode cL_act 64 = .ok (.iconst 3, 1) := by decide +kernel
theorem dL_act_65 : decode cL_act 65 = .ok (.if_icmp .ne 11, 3) := by decide +kernel
theorem dL_act_68 : decode cL_act 68 = .ok (.aload_n 0, 1) := by decide +kernel
theorem dL_act_69 : decode cL_act 69 = .ok (.iload_n 2, 1) := by decide +kernel
theorem dL_act_70 : decode cL_act 70 = .ok (.invokevirtual 20, 3) := by decide +kernel
theorem dL_act_73 : decode cL_act 73 = .ok (.goto 151, 3) := by decide +kernel
theorem dL_act_76 : decode cL_act 76 = .ok (.iload_n 1, 1) := by decide +kernel
theorem dL_act_77 : decode cL_act 77 = .ok (.iconst 4, 1) := by decide +kernel
theorem dL_act_78 : decode cL_act 78 = .ok (.if_icmp .ne 11, 3) := by decide +kernel
theorem dL_act_81 : decode cL_act 81 = .ok (.aload_n 0, 1) := by decide +kernel
theorem dL_act_82 : decode cL_act 82 = .ok (.iload_n 2, 1) := by decide +kernel
theorem dL_act_83 : decode cL_act 83 = .ok (.invokevirtual 24, 3) := by decide +kernel
theorem dL_act_86 : decode cL_act 86 = .ok (.goto 138, 3) := by decide +kernel
theorem dL_act_89 : decode cL_act 89 = .ok (.iload_n 1, 1) := by decide +kernel
theorem dL_act_90 : decode cL_act 90 = .ok (.iconst 5, 1) := by decide +kernel
theorem dL_act_91 : decode cL_act 91 = .ok (.if_icmp .ne 14, 3) := by decide +kernel
theorem dL_act_94 : decode cL_act 94 = .ok (.aload_n 0, 1) := by decide +kernel
theorem dL_act_95 : decode cL_act 95 = .ok (.iload_n 2, 1) := by decide +kernel
theorem dL_act_96 : decode cL_act 96 = .ok (.iload_n 3, 1) := by decide +kernel
theorem dL_act_97 : decode cL_act 97 = .ok (.iload 4, 2) := by decide +kernel
theorem dL_act_99 : decode cL_act 99 = .ok (.invokevirtual 27, 3) := by decide +kernel
theorem dL_act_102 : decode cL_act 102 = .ok (.goto 122, 3) := by decide +kernel
theorem dL_act_105 : decode cL_act 105 = .ok (.iload_n 1, 1) := by decide +kernel
theorem dL_act_106 : decode cL_act 106 = .ok (.bipush 6, 2) := by decide +kernel
theorem dL_act_108 : decode cL_act 108 = .ok (.if_icmp .ne 12, 3) := by decide +kernel
theorem dL_act_111 : decode cL_act 111 = .ok (.aload_n 0, 1) := by decide +kernel
theorem dL_act_112 : decode cL_act 112 = .ok (.iload_n 2, 1) := by decide +kernel
theorem dL_act_113 : decode cL_act 113 = .ok (.iload_n 3, 1) := by decide +kernel
theorem dL_act_114 : decode cL_act 114 = .ok (.invokevirtual 30, 3) := by decide +kernel
theorem dL_act_117 : decode cL_act 117 = .ok (.goto 107, 3) := by decide +kernel
theorem dL_act_120 : decode cL_act 120 = .ok (.iload_n 1, 1) := by decide +kernel
theorem dL_act_121 : decode cL_act 121 = .ok (.bipush 7, 2) := by decide +kernel
theorem dL_act_123 : decode cL_act 123 = .ok (.if_icmp .ne 14, 3) := by decide +kernel
theorem dL_act_126 : decode cL_act 126 = .ok (.aload_n 0, 1) := by decide +kernel
theorem dL_act_127 : decode cL_act 127 = .ok (.iload_n 2, 1) := by decide +kernel
theorem dL_act_128 : decode cL_act 128 = .ok (.iload_n 3, 1) := by decide +kernel
theorem dL_act_129 : decode cL_act 129 = .ok (.iload 4, 2) := by decide +kernel
theorem dL_act_131 : decode cL_act 131 = .ok (.invokevirtual 34, 3) := by decide +kernel
theorem dL_act_134 : decode cL_act 134 = .ok (.goto 90, 3) := by decide +kernel
theorem dL_act_137 : decode cL_act 137 = .ok (.iload_n 1, 1) := by decide +kernel
theorem dL_act_138 : decode cL_act 138 = .ok (.bipush 8, 2) := by decide +kernel
theorem dL_act_140 : decode cL_act 140 = .ok (.if_icmp .ne 11, 3) := by decide +kernel
theorem dL_act_143 : decode cL_act 143 = .ok (.aload_n 0, 1) := by decide +kernel
theorem dL_act_144 : decode cL_act 144 = .ok (.iload_n 2, 1) := by decide +kernel
theorem dL_act_145 : decode cL_act 145 = .ok (.invokevirtual 37, 3) := by decide +kernel
theorem dL_act_148 : decode cL_act 148 = .ok (.goto 76, 3) := by decide +kernel
theorem dL_act_151 : decode cL_act 151 = .ok (.iload_n 1, 1) := by decide +kernel
theorem dL_act_152 : decode cL_act 152 = .ok (.bipush 9, 2) := by decide +kernel
theorem dL_act_154 : decode cL_act 154 = .ok (.if_icmp .ne 11, 3) := by decide +kernel
theorem dL_act_157 : decode cL_act 157 = .ok (.aload_n 0, 1) := by decide +kernel
theorem dL_act_158 : decode cL_act 158 = .ok (.iload_n 2, 1) := by decide +kernel
theorem dL_act_159 : decode cL_act 159 = .ok (.invokevirtual 40, 3) := by decide +kernel
theorem dL_act_162 : decode cL_act 162 = .ok (.goto 62, 3) := by decide +kernel
theorem dL_act_165 : decode cL_act 165 = .ok (.iload_n 1, 1) := by decide +kernel
theorem dL_act_166 : decode cL_act 166 = .ok (.bipush 10, 2) := by decide +kernel
theorem dL_act_168 : decode cL_act 168 = .ok (.if_icmp .ne 10, 3) := by decide +kernel
theorem dL_act_171 : decode cL_act 171 = .ok (.aload_n 0, 1) := by decide +kernel
theorem dL_act_172 : decode cL_act 172 = .ok (.invokevirtual 43, 3) := by decide +kernel
theorem dL_act_175 : decode cL_act 175 = .ok (.goto 49, 3) := by decide +kernel
theorem dL_act_178 : decode cL_act 178 = .ok (.iload_n 1, 1) := by decide +kernel
theorem dL_act_179 : decode cL_act 179 = .ok (.bipush 11, 2) := by decide +kernel
theorem dL_act_181 : decode cL_act 181 = .ok (.if_icmp .ne 10, 3) := by decide +kernel
theorem dL_act_184 : decode cL_act 184 = .ok (.aload_n 0, 1) := by decide +kernel
theorem dL_act_185 : decode cL_act 185 = .ok (.invokevirtual 47, 3) := by decide +kernel
theorem dL_act_188 : decode cL_act 188 = .ok (.goto 36, 3) := by decide +kernel
theorem dL_act_191 : decode cL_act 191 = .ok (.iload_n 1, 1) := by decide +kernel
theorem dL_act_192 : decode cL_act 192 = .ok (.bipush 12, 2) := by decide +kernel
theorem dL_act_194 : decode cL_act 194 = .ok (.if_icmp .ne 10, 3) := by decide +kernel
theorem dL_act_197 : decode cL_act 197 = .ok (.aload_n 0, 1) := by decide +kernel
theorem dL_act_198 : decode cL_act 198 = .ok (.invokevirtual 50, 3) := by decide +kernel
theorem dL_act_201 : decode cL_act 201 = .ok (.goto 23, 3) := by decide +kernel
theorem dL_act_204 : decode cL_act 204 = .ok (.iload_n 1, 1) := by decide +kernel
theorem dL_act_205 : decode cL_act 205 = .ok (.bipush 13, 2) := by decide +kernel
theorem dL_act_207 : decode cL_act 207 = .ok (.if_icmp .ne 12, 3) := by decide +kernel
theorem dL_act_210 : decode cL_act 210 = .ok (.aload_n 0, 1) := by decide +kernel
theorem dL_act_211 : decode cL_act 211 = .ok (.iload_n 2, 1) := by decide +kernel
theorem dL_act_212 : decode cL_act 212 = .ok (.iload_n 3, 1) := by decide +kernel
theorem dL_act_213 : decode cL_act 213 = .ok (.invokevirtual 53, 3) := by decide +kernel
theorem dL_act_216 : decode cL_act 216 = .ok (.goto 8, 3) := by decide +kernel
theorem dL_act_219 : decode cL_act 219 = .ok (.aload_n 0, 1) := by decide +kernel
theorem dL_act_220 : decode cL_act 220 = .ok (.iload_n 2, 1) := by decide +kernel
theorem dL_act_221 : decode cL_act 221 = .ok (.invokevirtual 56, 3) := by decide +kernel
theorem dL_act_224 : decode cL_act 224 = .ok (.ireturn, 1) := by decide +kernel
theorem dL_act_225 : decode cL_act 225 = .ok (.astore 5, 2) := by decide +kernel
theorem dL_act_227 : decode cL_act 227 = .ok (.bipush (-91), 2) := by decide +kernel
theorem dL_act_229 : decode cL_act 229 = .ok (.ireturn, 1) := by decide +kernel
theorem dL_act_230 : decode cL_act 230 = .ok (.astore 5, 2) := by decide +kernel
theorem dL_act_232 : decode cL_act 232 = .ok (.bipush (-92), 2) := by decide +kernel
theorem dL_act_234 : decode cL_act 234 = .ok (.ireturn, 1) := by decide +kernel
theorem dL_act_235 : decode cL_act 235 = .ok (.astore 5, 2) := by decide +kernel
theorem dL_act_237 : decode cL_act 237 = .ok (.bipush (-93), 2) := by decide +kernel
theorem dL_act_239 : decode cL_act 239 = .ok (.ireturn, 1) := by decide +kernel
theorem dL_refuses_0 : decode cL_refuses 0 = .ok (.aload_n 0, 1) := by decide +kernel
theorem dL_refuses_1 : decode cL_refuses 1 = .ok (.invokevirtual 65, 3) := by decide +kernel
theorem dL_refuses_4 : decode cL_refuses 4 = .ok (.istore_n 1, 1) := by decide +kernel
theorem dL_refuses_5 : decode cL_refuses 5 = .ok (.aload_n 0, 1) := by decide +kernel
theorem dL_refuses_6 : decode cL_refuses 6 = .ok (.invokevirtual 68, 3) := by decide +kernel
theorem dL_refuses_9 : decode cL_refuses 9 = .ok (.istore_n 2, 1) := by decide +kernel
theorem dL_refuses_10 : decode cL_refuses 10 = .ok (.aload_n 0, 1) := by decide +kernel
theorem dL_refuses_11 : decode cL_refuses 11 = .ok (.invokevirtual 71, 3) := by decide +kernel
theorem dL_refuses_14 : decode cL_refuses 14 = .ok (.istore_n 3, 1) := by decide +kernel
theorem dL_refuses_15 : decode cL_refuses 15 = .ok (.aload_n 0, 1) := by decide +kernel
theorem dL_refuses_16 : decode cL_refuses 16 = .ok (.invokevirtual 74, 3) := by decide +kernel
theorem dL_refuses_19 : decode cL_refuses 19 = .ok (.istore 4, 2) := by decide +kernel
theorem dL_refuses_21 : decode cL_refuses 21 = .ok (.ldc 77, 2) := by decide +kernel
theorem dL_refuses_23 : decode cL_refuses 23 = .ok (.istore 5, 2) := by decide +kernel
theorem dL_refuses_25 : decode cL_refuses 25 = .ok (.iconst 0, 1) := by decide +kernel
theorem dL_refuses_26 : decode cL_refuses 26 = .ok (.istore 6, 2) := by decide +kernel
theorem dL_refuses_28 : decode cL_refuses 28 = .ok (.iload 6, 2) := by decide +kernel
theorem dL_refuses_30 : decode cL_refuses 30 = .ok (.iconst 4, 1) := by decide +kernel
theorem dL_refuses_31 : decode cL_refuses 31 = .ok (.if_icmp .ge 532, 3) := by decide +kernel
theorem dL_refuses_34 : decode cL_refuses 34 = .ok (.iload 6, 2) := by decide +kernel
theorem dL_refuses_36 : decode cL_refuses 36 = .ok (.ifCond .ne 7, 3) := by decide +kernel
theorem dL_refuses_39 : decode cL_refuses 39 = .ok (.iconst (-1), 1) := by decide +kernel
theorem dL_refuses_40 : decode cL_refuses 40 = .ok (.goto 19, 3) := by decide +kernel
theorem dL_refuses_43 : decode cL_refuses 43 = .ok (.iload 6, 2) := by decide +kernel
theorem dL_refuses_45 : decode cL_refuses 45 = .ok (.iconst 2, 1) := by decide +kernel
theorem dL_refuses_46 : decode cL_refuses 46 = .ok (.if_icmp .ne 8, 3) := by decide +kernel
theorem dL_refuses_49 : decode cL_refuses 49 = .ok (.iload 5, 2) := by decide +kernel
theorem dL_refuses_51 : decode cL_refuses 51 = .ok (.goto 8, 3) := by decide +kernel
theorem dL_refuses_54 : decode cL_refuses 54 = .ok (.iload 5, 2) := by decide +kernel
theorem dL_refuses_56 : decode cL_refuses 56 = .ok (.ineg, 1) := by decide +kernel
theorem dL_refuses_57 : decode cL_refuses 57 = .ok (.iconst 1, 1) := by decide +kernel
theorem dL_refuses_58 : decode cL_refuses 58 = .ok (.isub, 1) := by decide +kernel
theorem dL_refuses_59 : decode cL_refuses 59 = .ok (.istore 7, 2) := by decide +kernel
theorem dL_refuses_61 : decode cL_refuses 61 = .ok (.iload 6, 2) := by decide +kernel
theorem dL_refuses_63 : decode cL_refuses 63 = .ok (.iconst 1, 1) := by decide +kernel
theorem dL_refuses_64 : decode cL_refuses 64 = .ok (.if_icmp .ne 8, 3) := by decide +kernel
theorem dL_refuses_67 : decode cL_refuses 67 = .ok (.bipush 100, 2) := by decide +kernel
theorem dL_refuses_69 : decode cL_refuses 69 = .ok (.goto 5, 3) := by decide +kernel
theorem dL_refuses_72 : decode cL_refuses 72 = .ok (.iload 7, 2) := by decide +kernel
theorem dL_refuses_74 : decode cL_refuses 74 = .ok (.istore 8, 2) := by decide +kernel
theorem dL_refuses_76 : decode cL_refuses 76 = .ok (.iload 6, 2) := by decide +kernel
theorem dL_refuses_78 : decode cL_refuses 78 = .ok (.ifCond .ne 8, 3) := by decide +kernel
theorem dL_refuses_81 : decode cL_refuses 81 = .ok (.bipush (-2), 2) := by decide +kernel
theorem dL_refuses_83 : decode cL_refuses 83 = .ok (.goto 5, 3) := by decide +kernel
theorem dL_refuses_86 : decode cL_refuses 86 = .ok (.iload 8, 2) := by decide +kernel
theorem dL_refuses_88 : decode cL_refuses 88 = .ok (.istore 9, 2) := by decide +kernel
theorem dL_refuses_90 : decode cL_refuses 90 = .ok (.iload 6, 2) := by decide +kernel
theorem dL_refuses_92 : decode cL_refuses 92 = .ok (.ifCond .ne 8, 3) := by decide +kernel
theorem dL_refuses_95 : decode cL_refuses 95 = .ok (.bipush (-5), 2) := by decide +kernel
theorem dL_refuses_97 : decode cL_refuses 97 = .ok (.goto 5, 3) := by decide +kernel
theorem dL_refuses_100 : decode cL_refuses 100 = .ok (.iload 8, 2) := by decide +kernel
theorem dL_refuses_102 : decode cL_refuses 102 = .ok (.istore 10, 2) := by decide +kernel
theorem dL_refuses_104 : decode cL_refuses 104 = .ok (.iload 6, 2) := by decide +kernel
theorem dL_refuses_106 : decode cL_refuses 106 = .ok (.iconst 1, 1) := by decide +kernel
theorem dL_refuses_107 : decode cL_refuses 107 = .ok (.if_icmp .ne 7, 3) := by decide +kernel
theorem dL_refuses_110 : decode cL_refuses 110 = .ok (.iconst 3, 1) := by decide +kernel
theorem dL_refuses_111 : decode cL_refuses 111 = .ok (.goto 5, 3) := by decide +kernel
theorem dL_refuses_114 : decode cL_refuses 114 = .ok (.iload 7, 2) := by decide +kernel
theorem dL_refuses_116 : decode cL_refuses 116 = .ok (.istore 11, 2) := by decide +kernel
theorem dL_refuses_118 : decode cL_refuses 118 = .ok (.iload 6, 2) := by decide +kernel
theorem dL_refuses_120 : decode cL_refuses 120 = .ok (.iconst 1, 1) := by decide +kernel
theorem dL_refuses_121 : decode cL_refuses 121 = .ok (.if_icmp .ne 7, 3) := by decide +kernel
theorem dL_refuses_124 : decode cL_refuses 124 = .ok (.iconst 4, 1) := by decide +kernel
theorem dL_refuses_125 : decode cL_refuses 125 = .ok (.goto 5, 3) := by decide +kernel
theorem dL_refuses_128 : decode cL_refuses 128 = .ok (.iload 7, 2) := by decide +kernel
theorem dL_refuses_130 : decode cL_refuses 130 = .ok (.istore 12, 2) := by decide +kernel
theorem dL_refuses_132 : decode cL_refuses 132 = .ok (.iconst 1, 1) := by decide +kernel
theorem dL_refuses_133 : decode cL_refuses 133 = .ok (.istore 13, 2) := by decide +kernel
theorem dL_refuses_135 : decode cL_refuses 135 = .ok (.iconst 0, 1) := by decide +kernel
theorem dL_refuses_136 : decode cL_refuses 136 = .ok (.istore 14, 2) := by decide +kernel
theorem dL_refuses_138 : decode cL_refuses 138 = .ok (.iload 14, 2) := by decide +kernel
theorem dL_refuses_140 : decode cL_refuses 140 = .ok (.iconst 2, 1) := by decide +kernel
theorem dL_refuses_141 : decode cL_refuses 141 = .ok (.if_icmp .ge 66, 3) := by decide +kernel
theorem dL_refuses_144 : decode cL_refuses 144 = .ok (.iload 13, 2) := by decide +kernel
theorem dL_refuses_146 : decode cL_refuses 146 = .ok (.ifCond .eq 52, 3) := by decide +kernel
theorem dL_refuses_149 : decode cL_refuses 149 = .ok (.aload_n 0, 1) := by decide +kernel
theorem dL_refuses_150 : decode cL_refuses 150 = .ok (.iload 14, 2) := by decide +kernel
theorem dL_refuses_152 : decode cL_refuses 152 = .ok (.iload 8, 2) := by decide +kernel
theorem dL_refuses_154 : decode cL_refuses 154 = .ok (.iconst 0, 1) := by decide +kernel
theorem dL_refuses_155 : decode cL_refuses 155 = .ok (.iconst 0, 1) := by decide +kernel
theorem dL_refuses_156 : decode cL_refuses 156 = .ok (.invokestatic 78, 3) := by decide +kernel
theorem dL_refuses_159 : decode cL_refuses 159 = .ok (.bipush (-92), 2) := by decide +kernel
theorem dL_refuses_161 : decode cL_refuses 161 = .ok (.if_icmp .ne 37, 3) := by decide +kernel
theorem dL_refuses_164 : decode cL_refuses 164 = .ok (.aload_n 0, 1) := by decide +kernel
theorem dL_refuses_165 : decode cL_refuses 165 = .ok (.iload 14, 2) := by decide +kernel
theorem dL_refuses_167 : decode cL_refuses 167 = .ok (.iconst 0, 1) := by decide +kernel
theorem dL_refuses_168 : decode cL_refuses 168 = .ok (.iload 8, 2) := by decide +kernel
theorem dL_refuses_170 : decode cL_refuses 170 = .ok (.iconst 0, 1) := by decide +kernel
theorem dL_refuses_171 : decode cL_refuses 171 = .ok (.invokestatic 78, 3) := by decide +kernel
theorem dL_refuses_174 : decode cL_refuses 174 = .ok (.bipush (-92), 2) := by decide +kernel
theorem dL_refuses_176 : decode cL_refuses 176 = .ok (.if_icmp .ne 22, 3) := by decide +kernel
theorem dL_refuses_179 : decode cL_refuses 179 = .ok (.aload_n 0, 1) := by decide +kernel
theorem dL_refuses_180 : decode cL_refuses 180 = .ok (.iload 14, 2) := by decide +kernel
theorem dL_refuses_182 : decode cL_refuses 182 = .ok (.iconst 0, 1) := by decide +kernel
theorem dL_refuses_183 : decode cL_refuses 183 = .ok (.iconst 0, 1) := by decide +kernel
theorem dL_refuses_184 : decode cL_refuses 184 = .ok (.iload 8, 2) := by decide +kernel
theorem dL_refuses_186 : decode cL_refuses 186 = .ok (.invokestatic 78, 3) := by decide +kernel
theorem dL_refuses_189 : decode cL_refuses 189 = .ok (.bipush (-92), 2) := by decide +kernel
theorem dL_refuses_191 : decode cL_refuses 191 = .ok (.if_icmp .ne 7, 3) := by decide +kernel
theorem dL_refuses_194 : decode cL_refuses 194 = .ok (.iconst 1, 1) := by decide +kernel
theorem dL_refuses_195 : decode cL_refuses 195 = .ok (.goto 4, 3) := by decide +kernel
theorem dL_refuses_198 : decode cL_refuses 198 = .ok (.iconst 0, 1) := by decide +kernel
theorem dL_refuses_199 : decode cL_refuses 199 = .ok (.istore 13, 2) := by decide +kernel
theorem dL_refuses_201 : decode cL_refuses 201 = .ok (.iinc 14 1, 3) := by decide +kernel
theorem dL_refuses_204 : decode cL_refuses 204 = .ok (.goto (-66), 3) := by decide +kernel
theorem dL_refuses_207 : decode cL_refuses 207 = .ok (.iload 13, 2) := by decide +kernel
theorem dL_refuses_209 : decode cL_refuses 209 = .ok (.ifCond .eq 169, 3) := by decide +kernel
theorem dL_refuses_212 : decode cL_refuses 212 = .ok (.aload_n 0, 1) := by decide +kernel
theorem dL_refuses_213 : decode cL_refuses 213 = .ok (.iconst 2, 1) := by decide +kernel
theorem dL_refuses_214 : decode cL_refuses 214 = .ok (.iload 11, 2) := by decide +kernel
theorem dL_refuses_216 : decode cL_refuses 216 = .ok (.iconst (-1), 1) := by decide +kernel
theorem dL_refuses_217 : decode cL_refuses 217 = .ok (.iconst 0, 1) := by decide +kernel
theorem dL_refuses_218 : decode cL_refuses 218 = .ok (.invokestatic 78, 3) := by decide +kernel
theorem dL_refuses_221 : decode cL_refuses 221 = .ok (.bipush (-92), 2) := by decide +kernel
theorem dL_refuses_223 : decode cL_refuses 223 = .ok (.if_icmp .ne 155, 3) := by decide +kernel
theorem dL_refuses_226 : decode cL_refuses 226 = .ok (.aload_n 0, 1) := by decide +kernel
theorem dL_refuses_227 : decode cL_refuses 227 = .ok (.iconst 2, 1) := by decide +kernel
theorem dL_refuses_228 : decode cL_refuses 228 = .ok (.iconst 0, 1) := by decide +kernel
theorem dL_refuses_229 : decode cL_refuses 229 = .ok (.iconst (-1), 1) := by decide +kernel
theorem dL_refuses_230 : decode cL_refuses 230 = .ok (.iload 11, 2) := by decide +kernel
theorem dL_refuses_232 : decode cL_refuses 232 = .ok (.invokestatic 78, 3) := by decide +kernel
theorem dL_refuses_235 : decode cL_refuses 235 = .ok (.bipush (-92), 2) := by decide +kernel
theorem dL_refuses_237 : decode cL_refuses 237 = .ok (.if_icmp .ne 141, 3) := by decide +kernel
theorem dL_refuses_240 : decode cL_refuses 240 = .ok (.aload_n 0, 1) := by decide +kernel
theorem dL_refuses_241 : decode cL_refuses 241 = .ok (.iconst 2, 1) := by decide +kernel
theorem dL_refuses_242 : decode cL_refuses 242 = .ok (.iconst 2, 1) := by decide +kernel
theorem dL_refuses_243 : decode cL_refuses 243 = .ok (.iload 6, 2) := by decide +kernel
theorem dL_refuses_245 : decode cL_refuses 245 = .ok (.iconst 1, 1) := by decide +kernel
theorem dL_refuses_246 : decode cL_refuses 246 = .ok (.if_icmp .ne 7, 3) := by decide +kernel
theorem dL_refuses_249 : decode cL_refuses 249 = .ok (.iload_n 1, 1) := by decide +kernel
theorem dL_refuses_250 : decode cL_refuses 250 = .ok (.goto 5, 3) := by decide +kernel
theorem dL_refuses_253 : decode cL_refuses 253 = .ok (.iload 7, 2) := by decide +kernel
theorem dL_refuses_255 : decode cL_refuses 255 = .ok (.iconst 2, 1) := by decide +kernel
theorem dL_refuses_256 : decode cL_refuses 256 = .ok (.invokestatic 78, 3) := by decide +kernel
theorem dL_refuses_259 : decode cL_refuses 259 = .ok (.bipush (-91), 2) := by decide +kernel
theorem dL_refuses_261 : decode cL_refuses 261 = .ok (.if_icmp .ne 117, 3) := by decide +kernel
theorem dL_refuses_264 : decode cL_refuses 264 = .ok (.aload_n 0, 1) := by decide +kernel
theorem dL_refuses_265 : decode cL_refuses 265 = .ok (.iconst 3, 1) := by decide +kernel
theorem dL_refuses_266 : decode cL_refuses 266 = .ok (.iload 8, 2) := by decide +kernel
theorem dL_refuses_268 : decode cL_refuses 268 = .ok (.iconst 0, 1) := by decide +kernel
theorem dL_refuses_269 : decode cL_refuses 269 = .ok (.iconst 0, 1) := by decide +kernel
theorem dL_refuses_270 : decode cL_refuses 270 = .ok (.invokestatic 78, 3) := by decide +kernel
theorem dL_refuses_273 : decode cL_refuses 273 = .ok (.bipush (-92), 2) := by decide +kernel
theorem dL_refuses_275 : decode cL_refuses 275 = .ok (.if_icmp .ne 103, 3) := by decide +kernel
theorem dL_refuses_278 : decode cL_refuses 278 = .ok (.aload_n 0, 1) := by decide +kernel
theorem dL_refuses_279 : decode cL_refuses 279 = .ok (.iconst 4, 1) := by decide +kernel
theorem dL_refuses_280 : decode cL_refuses 280 = .ok (.iload 6, 2) := by decide +kernel
theorem dL_refuses_282 : decode cL_refuses 282 = .ok (.iconst 1, 1) := by decide +kernel
theorem dL_refuses_283 : decode cL_refuses 283 = .ok (.if_icmp .ne 7, 3) := by decide +kernel
theorem dL_refuses_286 : decode cL_refuses 286 = .ok (.iload_n 2, 1) := by decide +kernel
theorem dL_refuses_287 : decode cL_refuses 287 = .ok (.goto 5, 3) := by decide +kernel
theorem dL_refuses_290 : decode cL_refuses 290 = .ok (.iload 7, 2) := by decide +kernel
theorem dL_refuses_292 : decode cL_refuses 292 = .ok (.iconst 0, 1) := by decide +kernel
theorem dL_refuses_293 : decode cL_refuses 293 = .ok (.iconst 0, 1) := by decide +kernel
theorem dL_refuses_294 : decode cL_refuses 294 = .ok (.invokestatic 78, 3) := by decide +kernel
theorem dL_refuses_297 : decode cL_refuses 297 = .ok (.bipush (-91), 2) := by decide +kernel
theorem dL_refuses_299 : decode cL_refuses 299 = .ok (.if_icmp .ne 79, 3) := by decide +kernel
theorem dL_refuses_302 : decode cL_refuses 302 = .ok (.aload_n 0, 1) := by decide +kernel
theorem dL_refuses_303 : decode cL_refuses 303 = .ok (.iconst 5, 1) := by decide +kernel
theorem dL_refuses_304 : decode cL_refuses 304 = .ok (.iload 9, 2) := by decide +kernel
theorem dL_refuses_306 : decode cL_refuses 306 = .ok (.iconst 0, 1) := by decide +kernel
theorem dL_refuses_307 : decode cL_refuses 307 = .ok (.iconst 0, 1) := by decide +kernel
theorem dL_refuses_308 : decode cL_refuses 308 = .ok (.invokestatic 78, 3) := by decide +kernel
theorem dL_refuses_311 : decode cL_refuses 311 = .ok (.bipush (-92), 2) := by decide +kernel
theorem dL_refuses_313 : decode cL_refuses 313 = .ok (.if_icmp .ne 65, 3) := by decide +kernel
theorem dL_refuses_316 : decode cL_refuses 316 = .ok (.aload_n 0, 1) := by decide +kernel
theorem dL_refuses_317 : decode cL_refuses 317 = .ok (.iconst 5, 1) := by decide +kernel
theorem dL_refuses_318 : decode cL_refuses 318 = .ok (.iconst 0, 1) := by decide +kernel
theorem dL_refuses_319 : decode cL_refuses 319 = .ok (.iload 9, 2) := by decide +kernel
theorem dL_refuses_321 : decode cL_refuses 321 = .ok (.iconst 0, 1) := by decide +kernel
theorem dL_refuses_322 : decode cL_refuses 322 = .ok (.invokestatic 78, 3) := by decide +kernel
theorem dL_refuses_325 : decode cL_refuses 325 = .ok (.bipush (-92), 2) := by decide +kernel
theorem dL_refuses_327 : decode cL_refuses 327 = .ok (.if_icmp .ne 51, 3) := by decide +kernel
theorem dL_refuses_330 : decode cL_refuses 330 = .ok (.aload_n 0, 1) := by decide +kernel
theorem dL_refuses_331 : decode cL_refuses 331 = .ok (.iconst 5, 1) := by decide +kernel
theorem dL_refuses_332 : decode cL_refuses 332 = .ok (.iconst 0, 1) := by decide +kernel
theorem dL_refuses_333 : decode cL_refuses 333 = .ok (.iconst 0, 1) := by decide +kernel
theorem dL_refuses_334 : decode cL_refuses 334 = .ok (.iload 9, 2) := by decide +kernel
theorem dL_refuses_336 : decode cL_refuses 336 = .ok (.invokestatic 78, 3) := by decide +kernel
theorem dL_refuses_339 : decode cL_refuses 339 = .ok (.bipush (-92), 2) := by decide +kernel
theorem dL_refuses_341 : decode cL_refuses 341 = .ok (.if_icmp .ne 37, 3) := by decide +kernel
theorem dL_refuses_344 : decode cL_refuses 344 = .ok (.aload_n 0, 1) := by decide +kernel
theorem dL_refuses_345 : decode cL_refuses 345 = .ok (.bipush 6, 2) := by decide +kernel
theorem dL_refuses_347 : decode cL_refuses 347 = .ok (.iload 11, 2) := by decide +kernel
theorem dL_refuses_349 : decode cL_refuses 349 = .ok (.iconst 0, 1) := by decide +kernel
theorem dL_refuses_350 : decode cL_refuses 350 = .ok (.iconst 0, 1) := by decide +kernel
theorem dL_refuses_351 : decode cL_refuses 351 = .ok (.invokestatic 78, 3) := by decide +kernel
theorem dL_refuses_354 : decode cL_refuses 354 = .ok (.bipush (-92), 2) := by decide +kernel
theorem dL_refuses_356 : decode cL_refuses 356 = .ok (.if_icmp .ne 22, 3) := by decide +kernel
theorem dL_refuses_359 : decode cL_refuses 359 = .ok (.aload_n 0, 1) := by decide +kernel
theorem dL_refuses_360 : decode cL_refuses 360 = .ok (.bipush 6, 2) := by decide +kernel
theorem dL_refuses_362 : decode cL_refuses 362 = .ok (.iconst 0, 1) := by decide +kernel
theorem dL_refuses_363 : decode cL_refuses 363 = .ok (.iload 8, 2) := by decide +kernel
theorem dL_refuses_365 : decode cL_refuses 365 = .ok (.iconst 0, 1) := by decide +kernel
theorem dL_refuses_366 : decode cL_refuses 366 = .ok (.invokestatic 78, 3) := by decide +kernel
theorem dL_refuses_369 : decode cL_refuses 369 = .ok (.bipush (-92), 2) := by decide +kernel
theorem dL_refuses_371 : decode cL_refuses 371 = .ok (.if_icmp .ne 7, 3) := by decide +kernel
theorem dL_refuses_374 : decode cL_refuses 374 = .ok (.iconst 1, 1) := by decide +kernel
theorem dL_refuses_375 : decode cL_refuses 375 = .ok (.goto 4, 3) := by decide +kernel
theorem dL_refuses_378 : decode cL_refuses 378 = .ok (.iconst 0, 1) := by decide +kernel
theorem dL_refuses_379 : decode cL_refuses 379 = .ok (.istore 13, 2) := by decide +kernel
theorem dL_refuses_381 : decode cL_refuses 381 = .ok (.iload 13, 2) := by decide +kernel
theorem dL_refuses_383 : decode cL_refuses 383 = .ok (.ifCond .eq 164, 3) := by decide +kernel
theorem dL_refuses_386 : decode cL_refuses 386 = .ok (.aload_n 0, 1) := by decide +kernel
theorem dL_refuses_387 : decode cL_refuses 387 = .ok (.bipush 7, 2) := by decide +kernel
theorem dL_refuses_389 : decode cL_refuses 389 = .ok (.iload 10, 2) := by decide +kernel
theorem dL_refuses_391 : decode cL_refuses 391 = .ok (.iconst 0, 1) := by decide +kernel
theorem dL_refuses_392 : decode cL_refuses 392 = .ok (.iconst 0, 1) := by decide +kernel
theorem dL_refuses_393 : decode cL_refuses 393 = .ok (.invokestatic 78, 3) := by decide +kernel
theorem dL_refuses_396 : decode cL_refuses 396 = .ok (.bipush (-92), 2) := by decide +kernel
theorem dL_refuses_398 : decode cL_refuses 398 = .ok (.if_icmp .ne 149, 3) := by decide +kernel
theorem dL_refuses_401 : decode cL_refuses 401 = .ok (.aload_n 0, 1) := by decide +kernel
theorem dL_refuses_402 : decode cL_refuses 402 = .ok (.bipush 7, 2) := by decide +kernel
theorem dL_refuses_404 : decode cL_refuses 404 = .ok (.iconst 0, 1) := by decide +kernel
theorem dL_refuses_405 : decode cL_refuses 405 = .ok (.iload 10, 2) := by decide +kernel
theorem dL_refuses_407 : decode cL_refuses 407 = .ok (.iconst 0, 1) := by decide +kernel
theorem dL_refuses_408 : decode cL_refuses 408 = .ok (.invokestatic 78, 3) := by decide +kernel
theorem dL_refuses_411 : decode cL_refuses 411 = .ok (.bipush (-92), 2) := by decide +kernel
theorem dL_refuses_413 : decode cL_refuses 413 = .ok (.if_icmp .ne 134, 3) := by decide +kernel
theorem dL_refuses_416 : decode cL_refuses 416 = .ok (.aload_n 0, 1) := by decide +kernel
theorem dL_refuses_417 : decode cL_refuses 417 = .ok (.bipush 7, 2) := by decide +kernel
theorem dL_refuses_419 : decode cL_refuses 419 = .ok (.iconst 0, 1) := by decide +kernel
theorem dL_refuses_420 : decode cL_refuses 420 = .ok (.iconst 0, 1) := by decide +kernel
theorem dL_refuses_421 : decode cL_refuses 421 = .ok (.iload 10, 2) := by decide +kernel
theorem dL_refuses_423 : decode cL_refuses 423 = .ok (.invokestatic 78, 3) := by decide +kernel
theorem dL_refuses_426 : decode cL_refuses 426 = .ok (.bipush (-92), 2) := by decide +kernel
theorem dL_refuses_428 : decode cL_refuses 428 = .ok (.if_icmp .ne 119, 3) := by decide +kernel
theorem dL_refuses_431 : decode cL_refuses 431 = .ok (.aload_n 0, 1) := by decide +kernel
theorem dL_refuses_432 : decode cL_refuses 432 = .ok (.bipush 8, 2) := by decide +kernel
theorem dL_refuses_434 : decode cL_refuses 434 = .ok (.iload 6, 2) := by decide +kernel
theorem dL_refuses_436 : decode cL_refuses 436 = .ok (.iconst 1, 1) := by decide +kernel
theorem dL_refuses_437 : decode cL_refuses 437 = .ok (.if_icmp .ne 7, 3) := by decide +kernel
theorem dL_refuses_440 : decode cL_refuses 440 = .ok (.iload_n 3, 1) := by decide +kernel
theorem dL_refuses_441 : decode cL_refuses 441 = .ok (.goto 5, 3) := by decide +kernel
theorem dL_refuses_444 : decode cL_refuses 444 = .ok (.iload 7, 2) := by decide +kernel
theorem dL_refuses_446 : decode cL_refuses 446 = .ok (.iconst 0, 1) := by decide +kernel
theorem dL_refuses_447 : decode cL_refuses 447 = .ok (.iconst 0, 1) := by decide +kernel
theorem dL_refuses_448 : decode cL_refuses 448 = .ok (.invokestatic 78, 3) := by decide +kernel
theorem dL_refuses_451 : decode cL_refuses 451 = .ok (.bipush (-91), 2) := by decide +kernel
theorem dL_refuses_453 : decode cL_refuses 453 = .ok (.if_icmp .ne 94, 3) := by decide +kernel
theorem dL_refuses_456 : decode cL_refuses 456 = .ok (.aload_n 0, 1) := by decide +kernel
theorem dL_refuses_457 : decode cL_refuses 457 = .ok (.bipush 9, 2) := by decide +kernel
theorem dL_refuses_459 : decode cL_refuses 459 = .ok (.iload 6, 2) := by decide +kernel
theorem dL_refuses_461 : decode cL_refuses 461 = .ok (.iconst 1, 1) := by decide +kernel
theorem dL_refuses_462 : decode cL_refuses 462 = .ok (.if_icmp .ne 7, 3) := by decide +kernel
theorem dL_refuses_465 : decode cL_refuses 465 = .ok (.iload_n 3, 1) := by decide +kernel
theorem dL_refuses_466 : decode cL_refuses 466 = .ok (.goto 5, 3) := by decide +kernel
theorem dL_refuses_469 : decode cL_refuses 469 = .ok (.iload 7, 2) := by decide +kernel
theorem dL_refuses_471 : decode cL_refuses 471 = .ok (.iconst 0, 1) := by decide +kernel
theorem dL_refuses_472 : decode cL_refuses 472 = .ok (.iconst 0, 1) := by decide +kernel
theorem dL_refuses_473 : decode cL_refuses 473 = .ok (.invokestatic 78, 3) := by decide +kernel
theorem dL_refuses_476 : decode cL_refuses 476 = .ok (.bipush (-91), 2) := by decide +kernel
theorem dL_refuses_478 : decode cL_refuses 478 = .ok (.if_icmp .ne 69, 3) := by decide +kernel
theorem dL_refuses_481 : decode cL_refuses 481 = .ok (.aload_n 0, 1) := by decide +kernel
theorem dL_refuses_482 : decode cL_refuses 482 = .ok (.bipush 13, 2) := by decide +kernel
theorem dL_refuses_484 : decode cL_refuses 484 = .ok (.iload 6, 2) := by decide +kernel
theorem dL_refuses_486 : decode cL_refuses 486 = .ok (.iconst 1, 1) := by decide +kernel
theorem dL_refuses_487 : decode cL_refuses 487 = .ok (.if_icmp .ne 8, 3) := by decide +kernel
theorem dL_refuses_490 : decode cL_refuses 490 = .ok (.iload 4, 2) := by decide +kernel
theorem dL_refuses_492 : decode cL_refuses 492 = .ok (.goto 5, 3) := by decide +kernel
theorem dL_refuses_495 : decode cL_refuses 495 = .ok (.iload 7, 2) := by decide +kernel
theorem dL_refuses_497 : decode cL_refuses 497 = .ok (.iload 12, 2) := by decide +kernel
theorem dL_refuses_499 : decode cL_refuses 499 = .ok (.iconst 0, 1) := by decide +kernel
theorem dL_refuses_500 : decode cL_refuses 500 = .ok (.invokestatic 78, 3) := by decide +kernel
theorem dL_refuses_503 : decode cL_refuses 503 = .ok (.bipush (-91), 2) := by decide +kernel
theorem dL_refuses_505 : decode cL_refuses 505 = .ok (.if_icmp .ne 42, 3) := by decide +kernel
theorem dL_refuses_508 : decode cL_refuses 508 = .ok (.iload 4, 2) := by decide +kernel
theorem dL_refuses_510 : decode cL_refuses 510 = .ok (.ifCond .eq 18, 3) := by decide +kernel
theorem dL_refuses_513 : decode cL_refuses 513 = .ok (.aload_n 0, 1) := by decide +kernel
theorem dL_refuses_514 : decode cL_refuses 514 = .ok (.bipush 13, 2) := by decide +kernel
theorem dL_refuses_516 : decode cL_refuses 516 = .ok (.iconst 0, 1) := by decide +kernel
theorem dL_refuses_517 : decode cL_refuses 517 = .ok (.iload 12, 2) := by decide +kernel
theorem dL_refuses_519 : decode cL_refuses 519 = .ok (.iconst 0, 1) := by decide +kernel
theorem dL_refuses_520 : decode cL_refuses 520 = .ok (.invokestatic 78, 3) := by decide +kernel
theorem dL_refuses_523 : decode cL_refuses 523 = .ok (.bipush (-92), 2) := by decide +kernel
theorem dL_refuses_525 : decode cL_refuses 525 = .ok (.if_icmp .ne 22, 3) := by decide +kernel
theorem dL_refuses_528 : decode cL_refuses 528 = .ok (.aload_n 0, 1) := by decide +kernel
theorem dL_refuses_529 : decode cL_refuses 529 = .ok (.bipush 14, 2) := by decide +kernel
theorem dL_refuses_531 : decode cL_refuses 531 = .ok (.iload 12, 2) := by decide +kernel
theorem dL_refuses_533 : decode cL_refuses 533 = .ok (.iconst 0, 1) := by decide +kernel
theorem dL_refuses_534 : decode cL_refuses 534 = .ok (.iconst 0, 1) := by decide +kernel
theorem dL_refuses_535 : decode cL_refuses 535 = .ok (.invokestatic 78, 3) := by decide +kernel
theorem dL_refuses_538 : decode cL_refuses 538 = .ok (.bipush (-92), 2) := by decide +kernel
theorem dL_refuses_540 : decode cL_refuses 540 = .ok (.if_icmp .ne 7, 3) := by decide +kernel
theorem dL_refuses_543 : decode cL_refuses 543 = .ok (.iconst 1, 1) := by decide +kernel
theorem dL_refuses_544 : decode cL_refuses 544 = .ok (.goto 4, 3) := by decide +kernel
theorem dL_refuses_547 : decode cL_refuses 547 = .ok (.iconst 0, 1) := by decide +kernel
theorem dL_refuses_548 : decode cL_refuses 548 = .ok (.istore 13, 2) := by decide +kernel
theorem dL_refuses_550 : decode cL_refuses 550 = .ok (.iload 13, 2) := by decide +kernel
theorem dL_refuses_552 : decode cL_refuses 552 = .ok (.ifCond .ne 5, 3) := by decide +kernel
theorem dL_refuses_555 : decode cL_refuses 555 = .ok (.iconst 0, 1) := by decide +kernel
theorem dL_refuses_556 : decode cL_refuses 556 = .ok (.ireturn, 1) := by decide +kernel
theorem dL_refuses_557 : decode cL_refuses 557 = .ok (.iinc 6 1, 3) := by decide +kernel
theorem dL_refuses_560 : decode cL_refuses 560 = .ok (.goto (-532), 3) := by decide +kernel
theorem dL_refuses_563 : decode cL_refuses 563 = .ok (.aload_n 0, 1) := by decide +kernel
theorem dL_refuses_564 : decode cL_refuses 564 = .ok (.invokevirtual 65, 3) := by decide +kernel
theorem dL_refuses_567 : decode cL_refuses 567 = .ok (.iload_n 1, 1) := by decide +kernel
theorem dL_refuses_568 : decode cL_refuses 568 = .ok (.if_icmp .ne 32, 3) := by decide +kernel
theorem dL_refuses_571 : decode cL_refuses 571 = .ok (.aload_n 0, 1) := by decide +kernel
theorem dL_refuses_572 : decode cL_refuses 572 = .ok (.invokevirtual 68, 3) := by decide +kernel
theorem dL_refuses_575 : decode cL_refuses 575 = .ok (.iload_n 2, 1) := by decide +kernel
theorem dL_refuses_576 : decode cL_refuses 576 = .ok (.if_icmp .ne 24, 3) := by decide +kernel
theorem dL_refuses_579 : decode cL_refuses 579 = .ok (.aload_n 0, 1) := by decide +kernel
theorem dL_refuses_580 : decode cL_refuses 580 = .ok (.invokevirtual 71, 3) := by decide +kernel
theorem dL_refuses_583 : decode cL_refuses 583 = .ok (.iload_n 3, 1) := by decide +kernel
theorem dL_refuses_584 : decode cL_refuses 584 = .ok (.if_icmp .ne 16, 3) := by decide +kernel
theorem dL_refuses_587 : decode cL_refuses 587 = .ok (.aload_n 0, 1) := by decide +kernel
theorem dL_refuses_588 : decode cL_refuses 588 = .ok (.invokevirtual 74, 3) := by decide +kernel
theorem dL_refuses_591 : decode cL_refuses 591 = .ok (.iload 4, 2) := by decide +kernel
theorem dL_refuses_593 : decode cL_refuses 593 = .ok (.if_icmp .ne 7, 3) := by decide +kernel
theorem dL_refuses_596 : decode cL_refuses 596 = .ok (.iconst 1, 1) := by decide +kernel
theorem dL_refuses_597 : decode cL_refuses 597 = .ok (.goto 4, 3) := by decide +kernel
theorem dL_refuses_600 : decode cL_refuses 600 = .ok (.iconst 0, 1) := by decide +kernel
theorem dL_refuses_601 : decode cL_refuses 601 = .ok (.ireturn, 1) := by decide +kernel
theorem dL_comes_0 : decode cL_comes 0 = .ok (.aload_n 0, 1) := by decide +kernel
theorem dL_comes_1 : decode cL_comes 1 = .ok (.bipush 10, 2) := by decide +kernel
theorem dL_comes_3 : decode cL_comes 3 = .ok (.iconst 0, 1) := by decide +kernel
theorem dL_comes_4 : decode cL_comes 4 = .ok (.iconst 0, 1) := by decide +kernel
theorem dL_comes_5 : decode cL_comes 5 = .ok (.iconst 0, 1) := by decide +kernel
theorem dL_comes_6 : decode cL_comes 6 = .ok (.invokestatic 78, 3) := by decide +kernel
theorem dL_comes_9 : decode cL_comes 9 = .ok (.iload_n 1, 1) := by decide +kernel
theorem dL_comes_10 : decode cL_comes 10 = .ok (.if_icmp .ne 33, 3) := by decide +kernel
theorem dL_comes_13 : decode cL_comes 13 = .ok (.aload_n 0, 1) := by decide +kernel
theorem dL_comes_14 : decode cL_comes 14 = .ok (.bipush 11, 2) := by decide +kernel
theorem dL_comes_16 : decode cL_comes 16 = .ok (.iconst 0, 1) := by decide +kernel
theorem dL_comes_17 : decode cL_comes 17 = .ok (.iconst 0, 1) := by decide +kernel
theorem dL_comes_18 : decode cL_comes 18 = .ok (.iconst 0, 1) := by decide +kernel
theorem dL_comes_19 : decode cL_comes 19 = .ok (.invokestatic 78, 3) := by decide +kernel
theorem dL_comes_22 : decode cL_comes 22 = .ok (.iload_n 1, 1) := by decide +kernel
theorem dL_comes_23 : decode cL_comes 23 = .ok (.if_icmp .ne 20, 3) := by decide +kernel
theorem dL_comes_26 : decode cL_comes 26 = .ok (.aload_n 0, 1) := by decide +kernel
theorem dL_comes_27 : decode cL_comes 27 = .ok (.bipush 12, 2) := by decide +kernel
theorem dL_comes_29 : decode cL_comes 29 = .ok (.iconst 0, 1) := by decide +kernel
theorem dL_comes_30 : decode cL_comes 30 = .ok (.iconst 0, 1) := by decide +kernel
theorem dL_comes_31 : decode cL_comes 31 = .ok (.iconst 0, 1) := by decide +kernel
theorem dL_comes_32 : decode cL_comes 32 = .ok (.invokestatic 78, 3) := by decide +kernel
theorem dL_comes_35 : decode cL_comes 35 = .ok (.iload_n 1, 1) := by decide +kernel
theorem dL_comes_36 : decode cL_comes 36 = .ok (.if_icmp .ne 7, 3) := by decide +kernel
theorem dL_comes_39 : decode cL_comes 39 = .ok (.iconst 1, 1) := by decide +kernel
theorem dL_comes_40 : decode cL_comes 40 = .ok (.goto 4, 3) := by decide +kernel
theorem dL_comes_43 : decode cL_comes 43 = .ok (.iconst 0, 1) := by decide +kernel
theorem dL_comes_44 : decode cL_comes 44 = .ok (.ireturn, 1) := by decide +kernel
theorem dL_orders_0 : decode cL_orders 0 = .ok (.new 8, 3) := by decide +kernel
theorem dL_orders_3 : decode cL_orders 3 = .ok (.dup, 1) := by decide +kernel
theorem dL_orders_4 : decode cL_orders 4 = .ok (.invokespecial 84, 3) := by decide +kernel
theorem dL_orders_7 : decode cL_orders 7 = .ok (.astore_n 0, 1) := by decide +kernel
theorem dL_orders_8 : decode cL_orders 8 = .ok (.aload_n 0, 1) := by decide +kernel
theorem dL_orders_9 : decode cL_orders 9 = .ok (.invokevirtual 65, 3) := by decide +kernel
theorem dL_orders_12 : decode cL_orders 12 = .ok (.ifCond .ne 167, 3) := by decide +kernel
theorem dL_orders_15 : decode cL_orders 15 = .ok (.aload_n 0, 1) := by decide +kernel
theorem dL_orders_16 : decode cL_orders 16 = .ok (.invokevirtual 68, 3) := by decide +kernel
theorem dL_orders_19 : decode cL_orders 19 = .ok (.ifCond .ne 160, 3) := by decide +kernel
theorem dL_orders_22 : decode cL_orders 22 = .ok (.aload_n 0, 1) := by decide +kernel
theorem dL_orders_23 : decode cL_orders 23 = .ok (.invokevirtual 74, 3) := by decide +kernel
theorem dL_orders_26 : decode cL_orders 26 = .ok (.ifCond .ne 153, 3) := by decide +kernel
theorem dL_orders_29 : decode cL_orders 29 = .ok (.aload_n 0, 1) := by decide +kernel
theorem dL_orders_30 : decode cL_orders 30 = .ok (.invokevirtual 85, 3) := by decide +kernel
theorem dL_orders_33 : decode cL_orders 33 = .ok (.ifCond .ne 146, 3) := by decide +kernel
theorem dL_orders_36 : decode cL_orders 36 = .ok (.aload_n 0, 1) := by decide +kernel
theorem dL_orders_37 : decode cL_orders 37 = .ok (.iconst 3, 1) := by decide +kernel
theorem dL_orders_38 : decode cL_orders 38 = .ok (.invokevirtual 56, 3) := by decide +kernel
theorem dL_orders_41 : decode cL_orders 41 = .ok (.ifCond .ne 138, 3) := by decide +kernel
theorem dL_orders_44 : decode cL_orders 44 = .ok (.aload_n 0, 1) := by decide +kernel
theorem dL_orders_45 : decode cL_orders 45 = .ok (.bipush (-93), 2) := by decide +kernel
theorem dL_orders_47 : decode cL_orders 47 = .ok (.invokestatic 88, 3) := by decide +kernel
theorem dL_orders_50 : decode cL_orders 50 = .ok (.ifCond .eq 129, 3) := by decide +kernel
theorem dL_orders_53 : decode cL_orders 53 = .ok (.aload_n 0, 1) := by decide +kernel
theorem dL_orders_54 : decode cL_orders 54 = .ok (.invokestatic 92, 3) := by decide +kernel
theorem dL_orders_57 : decode cL_orders 57 = .ok (.ifCond .eq 122, 3) := by decide +kernel
theorem dL_orders_60 : decode cL_orders 60 = .ok (.aload_n 0, 1) := by decide +kernel
theorem dL_orders_61 : decode cL_orders 61 = .ok (.iconst 5, 1) := by decide +kernel
theorem dL_orders_62 : decode cL_orders 62 = .ok (.iconst 1, 1) := by decide +kernel
theorem dL_orders_63 : decode cL_orders 63 = .ok (.bipush 7, 2) := by decide +kernel
theorem dL_orders_65 : decode cL_orders 65 = .ok (.invokevirtual 7, 3) := by decide +kernel
theorem dL_orders_68 : decode cL_orders 68 = .ok (.ifCond .eq 111, 3) := by decide +kernel
theorem dL_orders_71 : decode cL_orders 71 = .ok (.aload_n 0, 1) := by decide +kernel
theorem dL_orders_72 : decode cL_orders 72 = .ok (.iconst 5, 1) := by decide +kernel
theorem dL_orders_73 : decode cL_orders 73 = .ok (.iconst 1, 1) := by decide +kernel
theorem dL_orders_74 : decode cL_orders 74 = .ok (.bipush 7, 2) := by decide +kernel
theorem dL_orders_76 : decode cL_orders 76 = .ok (.invokevirtual 7, 3) := by decide +kernel
theorem dL_orders_79 : decode cL_orders 79 = .ok (.ifCond .ne 100, 3) := by decide +kernel
theorem dL_orders_82 : decode cL_orders 82 = .ok (.aload_n 0, 1) := by decide +kernel
theorem dL_orders_83 : decode cL_orders 83 = .ok (.bipush 7, 2) := by decide +kernel
theorem dL_orders_85 : decode cL_orders 85 = .ok (.iconst 1, 1) := by decide +kernel
theorem dL_orders_86 : decode cL_orders 86 = .ok (.bipush 9, 2) := by decide +kernel
theorem dL_orders_88 : decode cL_orders 88 = .ok (.invokevirtual 7, 3) := by decide +kernel
theorem dL_orders_91 : decode cL_orders 91 = .ok (.ifCond .eq 88, 3) := by decide +kernel
theorem dL_orders_94 : decode cL_orders 94 = .ok (.aload_n 0, 1) := by decide +kernel
theorem dL_orders_95 : decode cL_orders 95 = .ok (.iconst 5, 1) := by decide +kernel
theorem dL_orders_96 : decode cL_orders 96 = .ok (.iconst 2, 1) := by decide +kernel
theorem dL_orders_97 : decode cL_orders 97 = .ok (.bipush 9, 2) := by decide +kernel
theorem dL_orders_99 : decode cL_orders 99 = .ok (.invokevirtual 7, 3) := by decide +kernel
theorem dL_orders_102 : decode cL_orders 102 = .ok (.ifCond .eq 77, 3) := by decide +kernel
theorem dL_orders_105 : decode cL_orders 105 = .ok (.aload_n 0, 1) := by decide +kernel
theorem dL_orders_106 : decode cL_orders 106 = .ok (.bipush 9, 2) := by decide +kernel
theorem dL_orders_108 : decode cL_orders 108 = .ok (.iconst 1, 1) := by decide +kernel
theorem dL_orders_109 : decode cL_orders 109 = .ok (.iconst 5, 1) := by decide +kernel
theorem dL_orders_110 : decode cL_orders 110 = .ok (.invokevirtual 7, 3) := by decide +kernel
theorem dL_orders_113 : decode cL_orders 113 = .ok (.ifCond .eq 66, 3) := by decide +kernel
theorem dL_orders_116 : decode cL_orders 116 = .ok (.aload_n 0, 1) := by decide +kernel
theorem dL_orders_117 : decode cL_orders 117 = .ok (.invokevirtual 65, 3) := by decide +kernel
theorem dL_orders_120 : decode cL_orders 120 = .ok (.iconst 4, 1) := by decide +kernel
theorem dL_orders_121 : decode cL_orders 121 = .ok (.if_icmp .ne 58, 3) := by decide +kernel
theorem dL_orders_124 : decode cL_orders 124 = .ok (.aload_n 0, 1) := by decide +kernel
theorem dL_orders_125 : decode cL_orders 125 = .ok (.invokevirtual 68, 3) := by decide +kernel
theorem dL_orders_128 : decode cL_orders 128 = .ok (.iconst 5, 1) := by decide +kernel
theorem dL_orders_129 : decode cL_orders 129 = .ok (.if_icmp .ne 50, 3) := by decide +kernel
theorem dL_orders_132 : decode cL_orders 132 = .ok (.aload_n 0, 1) := by decide +kernel
theorem dL_orders_133 : decode cL_orders 133 = .ok (.iconst 5, 1) := by decide +kernel
theorem dL_orders_134 : decode cL_orders 134 = .ok (.invokevirtual 20, 3) := by decide +kernel
theorem dL_orders_137 : decode cL_orders 137 = .ok (.ifCond .ne 42, 3) := by decide +kernel
theorem dL_orders_140 : decode cL_orders 140 = .ok (.aload_n 0, 1) := by decide +kernel
theorem dL_orders_141 : decode cL_orders 141 = .ok (.bipush 7, 2) := by decide +kernel
theorem dL_orders_143 : decode cL_orders 143 = .ok (.invokevirtual 20, 3) := by decide +kernel
theorem dL_orders_146 : decode cL_orders 146 = .ok (.iconst 2, 1) := by decide +kernel
theorem dL_orders_147 : decode cL_orders 147 = .ok (.if_icmp .ne 32, 3) := by decide +kernel
theorem dL_orders_150 : decode cL_orders 150 = .ok (.aload_n 0, 1) := by decide +kernel
theorem dL_orders_151 : decode cL_orders 151 = .ok (.bipush 9, 2) := by decide +kernel
theorem dL_orders_153 : decode cL_orders 153 = .ok (.invokevirtual 20, 3) := by decide +kernel
theorem dL_orders_156 : decode cL_orders 156 = .ok (.iconst 3, 1) := by decide +kernel
theorem dL_orders_157 : decode cL_orders 157 = .ok (.if_icmp .ne 22, 3) := by decide +kernel
theorem dL_orders_160 : decode cL_orders 160 = .ok (.aload_n 0, 1) := by decide +kernel
theorem dL_orders_161 : decode cL_orders 161 = .ok (.iconst 4, 1) := by decide +kernel
theorem dL_orders_162 : decode cL_orders 162 = .ok (.invokevirtual 24, 3) := by decide +kernel
theorem dL_orders_165 : decode cL_orders 165 = .ok (.iconst 2, 1) := by decide +kernel
theorem dL_orders_166 : decode cL_orders 166 = .ok (.if_icmp .ne 13, 3) := by decide +kernel
theorem dL_orders_169 : decode cL_orders 169 = .ok (.aload_n 0, 1) := by decide +kernel
theorem dL_orders_170 : decode cL_orders 170 = .ok (.bipush 8, 2) := by decide +kernel
theorem dL_orders_172 : decode cL_orders 172 = .ok (.invokevirtual 20, 3) := by decide +kernel
theorem dL_orders_175 : decode cL_orders 175 = .ok (.iconst (-1), 1) := by decide +kernel
theorem dL_orders_176 : decode cL_orders 176 = .ok (.if_icmp .eq 5, 3) := by decide +kernel
theorem dL_orders_179 : decode cL_orders 179 = .ok (.iconst 0, 1) := by decide +kernel
theorem dL_orders_180 : decode cL_orders 180 = .ok (.ireturn, 1) := by decide +kernel
theorem dL_orders_181 : decode cL_orders 181 = .ok (.aload_n 0, 1) := by decide +kernel
theorem dL_orders_182 : decode cL_orders 182 = .ok (.iconst 0, 1) := by decide +kernel
theorem dL_orders_183 : decode cL_orders 183 = .ok (.iconst 0, 1) := by decide +kernel
theorem dL_orders_184 : decode cL_orders 184 = .ok (.iconst 2, 1) := by decide +kernel
theorem dL_orders_185 : decode cL_orders 185 = .ok (.invokevirtual 16, 3) := by decide +kernel
theorem dL_orders_188 : decode cL_orders 188 = .ok (.bipush 7, 2) := by decide +kernel
theorem dL_orders_190 : decode cL_orders 190 = .ok (.if_icmp .ne 141, 3) := by decide +kernel
theorem dL_orders_193 : decode cL_orders 193 = .ok (.aload_n 0, 1) := by decide +kernel
theorem dL_orders_194 : decode cL_orders 194 = .ok (.iconst 0, 1) := by decide +kernel
theorem dL_orders_195 : decode cL_orders 195 = .ok (.iconst 1, 1) := by decide +kernel
theorem dL_orders_196 : decode cL_orders 196 = .ok (.iconst 1, 1) := by decide +kernel
theorem dL_orders_197 : decode cL_orders 197 = .ok (.invokevirtual 16, 3) := by decide +kernel
theorem dL_orders_200 : decode cL_orders 200 = .ok (.iconst 2, 1) := by decide +kernel
theorem dL_orders_201 : decode cL_orders 201 = .ok (.if_icmp .ne 130, 3) := by decide +kernel
theorem dL_orders_204 : decode cL_orders 204 = .ok (.aload_n 0, 1) := by decide +kernel
theorem dL_orders_205 : decode cL_orders 205 = .ok (.iconst 0, 1) := by decide +kernel
theorem dL_orders_206 : decode cL_orders 206 = .ok (.iconst 2, 1) := by decide +kernel
theorem dL_orders_207 : decode cL_orders 207 = .ok (.iconst 0, 1) := by decide +kernel
theorem dL_orders_208 : decode cL_orders 208 = .ok (.invokevirtual 16, 3) := by decide +kernel
theorem dL_orders_211 : decode cL_orders 211 = .ok (.bipush 7, 2) := by decide +kernel
theorem dL_orders_213 : decode cL_orders 213 = .ok (.if_icmp .ne 118, 3) := by decide +kernel
theorem dL_orders_216 : decode cL_orders 216 = .ok (.aload_n 0, 1) := by decide +kernel
theorem dL_orders_217 : decode cL_orders 217 = .ok (.iconst 0, 1) := by decide +kernel
theorem dL_orders_218 : decode cL_orders 218 = .ok (.iconst 3, 1) := by decide +kernel
theorem dL_orders_219 : decode cL_orders 219 = .ok (.iconst 0, 1) := by decide +kernel
theorem dL_orders_220 : decode cL_orders 220 = .ok (.invokevirtual 16, 3) := by decide +kernel
theorem dL_orders_223 : decode cL_orders 223 = .ok (.bipush 9, 2) := by decide +kernel
theorem dL_orders_225 : decode cL_orders 225 = .ok (.if_icmp .ne 106, 3) := by decide +kernel
theorem dL_orders_228 : decode cL_orders 228 = .ok (.aload_n 0, 1) := by decide +kernel
theorem dL_orders_229 : decode cL_orders 229 = .ok (.iconst 1, 1) := by decide +kernel
theorem dL_orders_230 : decode cL_orders 230 = .ok (.iconst 0, 1) := by decide +kernel
theorem dL_orders_231 : decode cL_orders 231 = .ok (.iconst 0, 1) := by decide +kernel
theorem dL_orders_232 : decode cL_orders 232 = .ok (.invokevirtual 16, 3) := by decide +kernel
theorem dL_orders_235 : decode cL_orders 235 = .ok (.bipush 9, 2) := by decide +kernel
theorem dL_orders_237 : decode cL_orders 237 = .ok (.if_icmp .ne 94, 3) := by decide +kernel
theorem dL_orders_240 : decode cL_orders 240 = .ok (.aload_n 0, 1) := by decide +kernel
theorem dL_orders_241 : decode cL_orders 241 = .ok (.iconst 1, 1) := by decide +kernel
theorem dL_orders_242 : decode cL_orders 242 = .ok (.iconst 1, 1) := by decide +kernel
theorem dL_orders_243 : decode cL_orders 243 = .ok (.iconst 0, 1) := by decide +kernel
theorem dL_orders_244 : decode cL_orders 244 = .ok (.invokevirtual 16, 3) := by decide +kernel
theorem dL_orders_247 : decode cL_orders 247 = .ok (.iconst 5, 1) := by decide +kernel
theorem dL_orders_248 : decode cL_orders 248 = .ok (.if_icmp .ne 83, 3) := by decide +kernel
theorem dL_orders_251 : decode cL_orders 251 = .ok (.aload_n 0, 1) := by decide +kernel
theorem dL_orders_252 : decode cL_orders 252 = .ok (.iconst 1, 1) := by decide +kernel
theorem dL_orders_253 : decode cL_orders 253 = .ok (.iconst 2, 1) := by decide +kernel
theorem dL_orders_254 : decode cL_orders 254 = .ok (.iconst 0, 1) := by decide +kernel
theorem dL_orders_255 : decode cL_orders 255 = .ok (.invokevirtual 16, 3) := by decide +kernel
theorem dL_orders_258 : decode cL_orders 258 = .ok (.bipush 7, 2) := by decide +kernel
theorem dL_orders_260 : decode cL_orders 260 = .ok (.if_icmp .ne 71, 3) := by decide +kernel
theorem dL_orders_263 : decode cL_orders 263 = .ok (.aload_n 0, 1) := by decide +kernel
theorem dL_orders_264 : decode cL_orders 264 = .ok (.iconst 1, 1) := by decide +kernel
theorem dL_orders_265 : decode cL_orders 265 = .ok (.iconst 3, 1) := by decide +kernel
theorem dL_orders_266 : decode cL_orders 266 = .ok (.iconst 1, 1) := by decide +kernel
theorem dL_orders_267 : decode cL_orders 267 = .ok (.invokevirtual 16, 3) := by decide +kernel
theorem dL_orders_270 : decode cL_orders 270 = .ok (.iconst 2, 1) := by decide +kernel
theorem dL_orders_271 : decode cL_orders 271 = .ok (.if_icmp .ne 60, 3) := by decide +kernel
theorem dL_orders_274 : decode cL_orders 274 = .ok (.aload_n 0, 1) := by decide +kernel
theorem dL_orders_275 : decode cL_orders 275 = .ok (.iconst 2, 1) := by decide +kernel
theorem dL_orders_276 : decode cL_orders 276 = .ok (.iconst 0, 1) := by decide +kernel
theorem dL_orders_277 : decode cL_orders 277 = .ok (.iconst 2, 1) := by decide +kernel
theorem dL_orders_278 : decode cL_orders 278 = .ok (.invokevirtual 16, 3) := by decide +kernel
theorem dL_orders_281 : decode cL_orders 281 = .ok (.iconst 5, 1) := by decide +kernel
theorem dL_orders_282 : decode cL_orders 282 = .ok (.if_icmp .ne 49, 3) := by decide +kernel
theorem dL_orders_285 : decode cL_orders 285 = .ok (.aload_n 0, 1) := by decide +kernel
theorem dL_orders_286 : decode cL_orders 286 = .ok (.iconst 2, 1) := by decide +kernel
theorem dL_orders_287 : decode cL_orders 287 = .ok (.iconst 1, 1) := by decide +kernel
theorem dL_orders_288 : decode cL_orders 288 = .ok (.iconst 2, 1) := by decide +kernel
theorem dL_orders_289 : decode cL_orders 289 = .ok (.invokevirtual 16, 3) := by decide +kernel
theorem dL_orders_292 : decode cL_orders 292 = .ok (.bipush 7, 2) := by decide +kernel
theorem dL_orders_294 : decode cL_orders 294 = .ok (.if_icmp .ne 37, 3) := by decide +kernel
theorem dL_orders_297 : decode cL_orders 297 = .ok (.aload_n 0, 1) := by decide +kernel
theorem dL_orders_298 : decode cL_orders 298 = .ok (.iconst 2, 1) := by decide +kernel
theorem dL_orders_299 : decode cL_orders 299 = .ok (.iconst 2, 1) := by decide +kernel
theorem dL_orders_300 : decode cL_orders 300 = .ok (.iconst 0, 1) := by decide +kernel
theorem dL_orders_301 : decode cL_orders 301 = .ok (.invokevirtual 16, 3) := by decide +kernel
theorem dL_orders_304 : decode cL_orders 304 = .ok (.iconst 5, 1) := by decide +kernel
theorem dL_orders_305 : decode cL_orders 305 = .ok (.if_icmp .ne 26, 3) := by decide +kernel
theorem dL_orders_308 : decode cL_orders 308 = .ok (.aload_n 0, 1) := by decide +kernel
theorem dL_orders_309 : decode cL_orders 309 = .ok (.iconst 2, 1) := by decide +kernel
theorem dL_orders_310 : decode cL_orders 310 = .ok (.iconst 2, 1) := by decide +kernel
theorem dL_orders_311 : decode cL_orders 311 = .ok (.iconst 1, 1) := by decide +kernel
theorem dL_orders_312 : decode cL_orders 312 = .ok (.invokevirtual 16, 3) := by decide +kernel
theorem dL_orders_315 : decode cL_orders 315 = .ok (.iconst 2, 1) := by decide +kernel
theorem dL_orders_316 : decode cL_orders 316 = .ok (.if_icmp .ne 15, 3) := by decide +kernel
theorem dL_orders_319 : decode cL_orders 319 = .ok (.aload_n 0, 1) := by decide +kernel
theorem dL_orders_320 : decode cL_orders 320 = .ok (.iconst 2, 1) := by decide +kernel
theorem dL_orders_321 : decode cL_orders 321 = .ok (.iconst 3, 1) := by decide +kernel
theorem dL_orders_322 : decode cL_orders 322 = .ok (.iconst 0, 1) := by decide +kernel
theorem dL_orders_323 : decode cL_orders 323 = .ok (.invokevirtual 16, 3) := by decide +kernel
theorem dL_orders_326 : decode cL_orders 326 = .ok (.bipush 7, 2) := by decide +kernel
theorem dL_orders_328 : decode cL_orders 328 = .ok (.if_icmp .eq 5, 3) := by decide +kernel
theorem dL_orders_331 : decode cL_orders 331 = .ok (.iconst 0, 1) := by decide +kernel
theorem dL_orders_332 : decode cL_orders 332 = .ok (.ireturn, 1) := by decide +kernel
theorem dL_orders_333 : decode cL_orders 333 = .ok (.aload_n 0, 1) := by decide +kernel
theorem dL_orders_334 : decode cL_orders 334 = .ok (.iconst (-1), 1) := by decide +kernel
theorem dL_orders_335 : decode cL_orders 335 = .ok (.iconst 1, 1) := by decide +kernel
theorem dL_orders_336 : decode cL_orders 336 = .ok (.iconst (-1), 1) := by decide +kernel
theorem dL_orders_337 : decode cL_orders 337 = .ok (.invokevirtual 27, 3) := by decide +kernel
theorem dL_orders_340 : decode cL_orders 340 = .ok (.iconst 3, 1) := by decide +kernel
theorem dL_orders_341 : decode cL_orders 341 = .ok (.if_icmp .ne 127, 3) := by decide +kernel
theorem dL_orders_344 : decode cL_orders 344 = .ok (.aload_n 0, 1) := by decide +kernel
theorem dL_orders_345 : decode cL_orders 345 = .ok (.iconst 5, 1) := by decide +kernel
theorem dL_orders_346 : decode cL_orders 346 = .ok (.iconst (-1), 1) := by decide +kernel
theorem dL_orders_347 : decode cL_orders 347 = .ok (.iconst (-1), 1) := by decide +kernel
theorem dL_orders_348 : decode cL_orders 348 = .ok (.invokevirtual 27, 3) := by decide +kernel
theorem dL_orders_351 : decode cL_orders 351 = .ok (.iconst 2, 1) := by decide +kernel
theorem dL_orders_352 : decode cL_orders 352 = .ok (.if_icmp .ne 116, 3) := by decide +kernel
theorem dL_orders_355 : decode cL_orders 355 = .ok (.aload_n 0, 1) := by decide +kernel
theorem dL_orders_356 : decode cL_orders 356 = .ok (.iconst 5, 1) := by decide +kernel
theorem dL_orders_357 : decode cL_orders 357 = .ok (.iconst 1, 1) := by decide +kernel
theorem dL_orders_358 : decode cL_orders 358 = .ok (.bipush 7, 2) := by decide +kernel
theorem dL_orders_360 : decode cL_orders 360 = .ok (.invokevirtual 27, 3) := by decide +kernel
theorem dL_orders_363 : decode cL_orders 363 = .ok (.iconst 1, 1) := by decide +kernel
theorem dL_orders_364 : decode cL_orders 364 = .ok (.if_icmp .ne 104, 3) := by decide +kernel
theorem dL_orders_367 : decode cL_orders 367 = .ok (.aload_n 0, 1) := by decide +kernel
theorem dL_orders_368 : decode cL_orders 368 = .ok (.bipush 8, 2) := by decide +kernel
theorem dL_orders_370 : decode cL_orders 370 = .ok (.iconst (-1), 1) := by decide +kernel
theorem dL_orders_371 : decode cL_orders 371 = .ok (.iconst (-1), 1) := by decide +kernel
theorem dL_orders_372 : decode cL_orders 372 = .ok (.invokevirtual 27, 3) := by decide +kernel
theorem dL_orders_375 : decode cL_orders 375 = .ok (.ifCond .ne 93, 3) := by decide +kernel
theorem dL_orders_378 : decode cL_orders 378 = .ok (.aload_n 0, 1) := by decide +kernel
theorem dL_orders_379 : decode cL_orders 379 = .ok (.iconst (-1), 1) := by decide +kernel
theorem dL_orders_380 : decode cL_orders 380 = .ok (.iconst (-1), 1) := by decide +kernel
theorem dL_orders_381 : decode cL_orders 381 = .ok (.bipush 9, 2) := by decide +kernel
theorem dL_orders_383 : decode cL_orders 383 = .ok (.invokevirtual 27, 3) := by decide +kernel
theorem dL_orders_386 : decode cL_orders 386 = .ok (.iconst 2, 1) := by decide +kernel
theorem dL_orders_387 : decode cL_orders 387 = .ok (.if_icmp .ne 81, 3) := by decide +kernel
theorem dL_orders_390 : decode cL_orders 390 = .ok (.aload_n 0, 1) := by decide +kernel
theorem dL_orders_391 : decode cL_orders 391 = .ok (.iconst (-1), 1) := by decide +kernel
theorem dL_orders_392 : decode cL_orders 392 = .ok (.iconst (-1), 1) := by decide +kernel
theorem dL_orders_393 : decode cL_orders 393 = .ok (.iconst (-1), 1) := by decide +kernel
theorem dL_orders_394 : decode cL_orders 394 = .ok (.invokevirtual 27, 3) := by decide +kernel
theorem dL_orders_397 : decode cL_orders 397 = .ok (.iconst 4, 1) := by decide +kernel
theorem dL_orders_398 : decode cL_orders 398 = .ok (.if_icmp .ne 70, 3) := by decide +kernel
theorem dL_orders_401 : decode cL_orders 401 = .ok (.aload_n 0, 1) := by decide +kernel
theorem dL_orders_402 : decode cL_orders 402 = .ok (.iconst 5, 1) := by decide +kernel
theorem dL_orders_403 : decode cL_orders 403 = .ok (.iconst 1, 1) := by decide +kernel
theorem dL_orders_404 : decode cL_orders 404 = .ok (.bipush 9, 2) := by decide +kernel
theorem dL_orders_406 : decode cL_orders 406 = .ok (.invokevirtual 27, 3) := by decide +kernel
theorem dL_orders_409 : decode cL_orders 409 = .ok (.ifCond .ne 59, 3) := by decide +kernel
theorem dL_orders_412 : decode cL_orders 412 = .ok (.aload_n 0, 1) := by decide +kernel
theorem dL_orders_413 : decode cL_orders 413 = .ok (.iconst 0, 1) := by decide +kernel
theorem dL_orders_414 : decode cL_orders 414 = .ok (.bipush 7, 2) := by decide +kernel
theorem dL_orders_416 : decode cL_orders 416 = .ok (.invokevirtual 30, 3) := by decide +kernel
theorem dL_orders_419 : decode cL_orders 419 = .ok (.iconst 2, 1) := by decide +kernel
theorem dL_orders_420 : decode cL_orders 420 = .ok (.if_icmp .ne 48, 3) := by decide +kernel
theorem dL_orders_423 : decode cL_orders 423 = .ok (.aload_n 0, 1) := by decide +kernel
theorem dL_orders_424 : decode cL_orders 424 = .ok (.iconst 1, 1) := by decide +kernel
theorem dL_orders_425 : decode cL_orders 425 = .ok (.iconst 2, 1) := by decide +kernel
theorem dL_orders_426 : decode cL_orders 426 = .ok (.invokevirtual 30, 3) := by decide +kernel
theorem dL_orders_429 : decode cL_orders 429 = .ok (.iconst 3, 1) := by decide +kernel
theorem dL_orders_430 : decode cL_orders 430 = .ok (.if_icmp .ne 38, 3) := by decide +kernel
theorem dL_orders_433 : decode cL_orders 433 = .ok (.aload_n 0, 1) := by decide +kernel
theorem dL_orders_434 : decode cL_orders 434 = .ok (.iconst 2, 1) := by decide +kernel
theorem dL_orders_435 : decode cL_orders 435 = .ok (.iconst 1, 1) := by decide +kernel
theorem dL_orders_436 : decode cL_orders 436 = .ok (.invokevirtual 30, 3) := by decide +kernel
theorem dL_orders_439 : decode cL_orders 439 = .ok (.iconst 1, 1) := by decide +kernel
theorem dL_orders_440 : decode cL_orders 440 = .ok (.if_icmp .ne 28, 3) := by decide +kernel
theorem dL_orders_443 : decode cL_orders 443 = .ok (.aload_n 0, 1) := by decide +kernel
theorem dL_orders_444 : decode cL_orders 444 = .ok (.iconst 0, 1) := by decide +kernel
theorem dL_orders_445 : decode cL_orders 445 = .ok (.iconst 2, 1) := by decide +kernel
theorem dL_orders_446 : decode cL_orders 446 = .ok (.invokevirtual 30, 3) := by decide +kernel
theorem dL_orders_449 : decode cL_orders 449 = .ok (.iconst 4, 1) := by decide +kernel
theorem dL_orders_450 : decode cL_orders 450 = .ok (.if_icmp .ne 18, 3) := by decide +kernel
theorem dL_orders_453 : decode cL_orders 453 = .ok (.aload_n 0, 1) := by decide +kernel
theorem dL_orders_454 : decode cL_orders 454 = .ok (.bipush 6, 2) := by decide +kernel
theorem dL_orders_456 : decode cL_orders 456 = .ok (.iconst 0, 1) := by decide +kernel
theorem dL_orders_457 : decode cL_orders 457 = .ok (.bipush 8, 2) := by decide +kernel
theorem dL_orders_459 : decode cL_orders 459 = .ok (.iconst 0, 1) := by decide +kernel
theorem dL_orders_460 : decode cL_orders 460 = .ok (.invokestatic 78, 3) := by decide +kernel
theorem dL_orders_463 : decode cL_orders 463 = .ok (.bipush (-93), 2) := by decide +kernel
theorem dL_orders_465 : decode cL_orders 465 = .ok (.if_icmp .eq 5, 3) := by decide +kernel
theorem dL_orders_468 : decode cL_orders 468 = .ok (.iconst 0, 1) := by decide +kernel
theorem dL_orders_469 : decode cL_orders 469 = .ok (.ireturn, 1) := by decide +kernel
theorem dL_orders_470 : decode cL_orders 470 = .ok (.iconst 0, 1) := by decide +kernel
theorem dL_orders_471 : decode cL_orders 471 = .ok (.istore_n 1, 1) := by decide +kernel
theorem dL_orders_472 : decode cL_orders 472 = .ok (.iload_n 1, 1) := by decide +kernel
theorem dL_orders_473 : decode cL_orders 473 = .ok (.bipush 8, 2) := by decide +kernel
theorem dL_orders_475 : decode cL_orders 475 = .ok (.if_icmp .ge 92, 3) := by decide +kernel
theorem dL_orders_478 : decode cL_orders 478 = .ok (.iload_n 1, 1) := by decide +kernel
theorem dL_orders_479 : decode cL_orders 479 = .ok (.iconst 1, 1) := by decide +kernel
theorem dL_orders_480 : decode cL_orders 480 = .ok (.iand, 1) := by decide +kernel
theorem dL_orders_481 : decode cL_orders 481 = .ok (.iconst 1, 1) := by decide +kernel
theorem dL_orders_482 : decode cL_orders 482 = .ok (.if_icmp .ne 7, 3) := by decide +kernel
theorem dL_orders_485 : decode cL_orders 485 = .ok (.iconst 1, 1) := by decide +kernel
theorem dL_orders_486 : decode cL_orders 486 = .ok (.goto 4, 3) := by decide +kernel
theorem dL_orders_489 : decode cL_orders 489 = .ok (.iconst 0, 1) := by decide +kernel
theorem dL_orders_490 : decode cL_orders 490 = .ok (.istore_n 2, 1) := by decide +kernel
theorem dL_orders_491 : decode cL_orders 491 = .ok (.iload_n 1, 1) := by decide +kernel
theorem dL_orders_492 : decode cL_orders 492 = .ok (.iconst 1, 1) := by decide +kernel
theorem dL_orders_493 : decode cL_orders 493 = .ok (.ishr, 1) := by decide +kernel
theorem dL_orders_494 : decode cL_orders 494 = .ok (.iconst 1, 1) := by decide +kernel
theorem dL_orders_495 : decode cL_orders 495 = .ok (.iand, 1) := by decide +kernel
theorem dL_orders_496 : decode cL_orders 496 = .ok (.iconst 1, 1) := by decide +kernel
theorem dL_orders_497 : decode cL_orders 497 = .ok (.if_icmp .ne 7, 3) := by decide +kernel
theorem dL_orders_500 : decode cL_orders 500 = .ok (.iconst 1, 1) := by decide +kernel
theorem dL_orders_501 : decode cL_orders 501 = .ok (.goto 4, 3) := by decide +kernel
theorem dL_orders_504 : decode cL_orders 504 = .ok (.iconst 0, 1) := by decide +kernel
theorem dL_orders_505 : decode cL_orders 505 = .ok (.istore_n 3, 1) := by decide +kernel
theorem dL_orders_506 : decode cL_orders 506 = .ok (.iload_n 1, 1) := by decide +kernel
theorem dL_orders_507 : decode cL_orders 507 = .ok (.iconst 3, 1) := by decide +kernel
theorem dL_orders_508 : decode cL_orders 508 = .ok (.if_icmp .le 7, 3) := by decide +kernel
theorem dL_orders_511 : decode cL_orders 511 = .ok (.iconst 1, 1) := by decide +kernel
theorem dL_orders_512 : decode cL_orders 512 = .ok (.goto 4, 3) := by decide +kernel
theorem dL_orders_515 : decode cL_orders 515 = .ok (.iconst 0, 1) := by decide +kernel
theorem dL_orders_516 : decode cL_orders 516 = .ok (.istore 4, 2) := by decide +kernel
theorem dL_orders_518 : decode cL_orders 518 = .ok (.aload_n 0, 1) := by decide +kernel
theorem dL_orders_519 : decode cL_orders 519 = .ok (.iload_n 2, 1) := by decide +kernel
theorem dL_orders_520 : decode cL_orders 520 = .ok (.iload_n 3, 1) := by decide +kernel
theorem dL_orders_521 : decode cL_orders 521 = .ok (.iload 4, 2) := by decide +kernel
theorem dL_orders_523 : decode cL_orders 523 = .ok (.invokevirtual 96, 3) := by decide +kernel
theorem dL_orders_526 : decode cL_orders 526 = .ok (.iload_n 1, 1) := by decide +kernel
theorem dL_orders_527 : decode cL_orders 527 = .ok (.iconst 2, 1) := by decide +kernel
theorem dL_orders_528 : decode cL_orders 528 = .ok (.if_icmp .eq 9, 3) := by decide +kernel
theorem dL_orders_531 : decode cL_orders 531 = .ok (.iload_n 1, 1) := by decide +kernel
theorem dL_orders_532 : decode cL_orders 532 = .ok (.bipush 6, 2) := by decide +kernel
theorem dL_orders_534 : decode cL_orders 534 = .ok (.if_icmp .ne 7, 3) := by decide +kernel
theorem dL_orders_537 : decode cL_orders 537 = .ok (.iconst 1, 1) := by decide +kernel
theorem dL_orders_538 : decode cL_orders 538 = .ok (.goto 18, 3) := by decide +kernel
theorem dL_orders_541 : decode cL_orders 541 = .ok (.iload_n 1, 1) := by decide +kernel
theorem dL_orders_542 : decode cL_orders 542 = .ok (.iconst 4, 1) := by decide +kernel
theorem dL_orders_543 : decode cL_orders 543 = .ok (.if_icmp .eq 8, 3) := by decide +kernel
theorem dL_orders_546 : decode cL_orders 546 = .ok (.iload_n 1, 1) := by decide +kernel
theorem dL_orders_547 : decode cL_orders 547 = .ok (.iconst 5, 1) := by decide +kernel
theorem dL_orders_548 : decode cL_orders 548 = .ok (.if_icmp .ne 7, 3) := by decide +kernel
theorem dL_orders_551 : decode cL_orders 551 = .ok (.iconst 2, 1) := by decide +kernel
theorem dL_orders_552 : decode cL_orders 552 = .ok (.goto 4, 3) := by decide +kernel
theorem dL_orders_555 : decode cL_orders 555 = .ok (.iconst 0, 1) := by decide +kernel
theorem dL_orders_556 : decode cL_orders 556 = .ok (.if_icmp .eq 5, 3) := by decide +kernel
theorem dL_orders_559 : decode cL_orders 559 = .ok (.iconst 0, 1) := by decide +kernel
theorem dL_orders_560 : decode cL_orders 560 = .ok (.ireturn, 1) := by decide +kernel
theorem dL_orders_561 : decode cL_orders 561 = .ok (.iinc 1 1, 3) := by decide +kernel
theorem dL_orders_564 : decode cL_orders 564 = .ok (.goto (-92), 3) := by decide +kernel
theorem dL_orders_567 : decode cL_orders 567 = .ok (.aload_n 0, 1) := by decide +kernel
theorem dL_orders_568 : decode cL_orders 568 = .ok (.bipush 7, 2) := by decide +kernel
theorem dL_orders_570 : decode cL_orders 570 = .ok (.iconst 1, 1) := by decide +kernel
theorem dL_orders_571 : decode cL_orders 571 = .ok (.bipush 9, 2) := by decide +kernel
theorem dL_orders_573 : decode cL_orders 573 = .ok (.invokevirtual 13, 3) := by decide +kernel
theorem dL_orders_576 : decode cL_orders 576 = .ok (.ifCond .eq 76, 3) := by decide +kernel
theorem dL_orders_579 : decode cL_orders 579 = .ok (.aload_n 0, 1) := by decide +kernel
theorem dL_orders_580 : decode cL_orders 580 = .ok (.bipush 7, 2) := by decide +kernel
theorem dL_orders_582 : decode cL_orders 582 = .ok (.iconst 1, 1) := by decide +kernel
theorem dL_orders_583 : decode cL_orders 583 = .ok (.bipush 9, 2) := by decide +kernel
theorem dL_orders_585 : decode cL_orders 585 = .ok (.invokevirtual 13, 3) := by decide +kernel
theorem dL_orders_588 : decode cL_orders 588 = .ok (.ifCond .ne 64, 3) := by decide +kernel
theorem dL_orders_591 : decode cL_orders 591 = .ok (.aload_n 0, 1) := by decide +kernel
theorem dL_orders_592 : decode cL_orders 592 = .ok (.invokevirtual 65, 3) := by decide +kernel
theorem dL_orders_595 : decode cL_orders 595 = .ok (.iconst 3, 1) := by decide +kernel
theorem dL_orders_596 : decode cL_orders 596 = .ok (.if_icmp .ne 56, 3) := by decide +kernel
theorem dL_orders_599 : decode cL_orders 599 = .ok (.aload_n 0, 1) := by decide +kernel
theorem dL_orders_600 : decode cL_orders 600 = .ok (.invokevirtual 68, 3) := by decide +kernel
theorem dL_orders_603 : decode cL_orders 603 = .ok (.iconst 5, 1) := by decide +kernel
theorem dL_orders_604 : decode cL_orders 604 = .ok (.if_icmp .ne 48, 3) := by decide +kernel
theorem dL_orders_607 : decode cL_orders 607 = .ok (.aload_n 0, 1) := by decide +kernel
theorem dL_orders_608 : decode cL_orders 608 = .ok (.iconst 0, 1) := by decide +kernel
theorem dL_orders_609 : decode cL_orders 609 = .ok (.iconst 2, 1) := by decide +kernel
theorem dL_orders_610 : decode cL_orders 610 = .ok (.iconst 0, 1) := by decide +kernel
theorem dL_orders_611 : decode cL_orders 611 = .ok (.invokevirtual 16, 3) := by decide +kernel
theorem dL_orders_614 : decode cL_orders 614 = .ok (.bipush 9, 2) := by decide +kernel
theorem dL_orders_616 : decode cL_orders 616 = .ok (.if_icmp .ne 36, 3) := by decide +kernel
theorem dL_orders_619 : decode cL_orders 619 = .ok (.aload_n 0, 1) := by decide +kernel
theorem dL_orders_620 : decode cL_orders 620 = .ok (.iconst 0, 1) := by decide +kernel
theorem dL_orders_621 : decode cL_orders 621 = .ok (.bipush 7, 2) := by decide +kernel
theorem dL_orders_623 : decode cL_orders 623 = .ok (.invokevirtual 30, 3) := by decide +kernel
theorem dL_orders_626 : decode cL_orders 626 = .ok (.iconst 2, 1) := by decide +kernel
theorem dL_orders_627 : decode cL_orders 627 = .ok (.if_icmp .ne 25, 3) := by decide +kernel
theorem dL_orders_630 : decode cL_orders 630 = .ok (.aload_n 0, 1) := by decide +kernel
theorem dL_orders_631 : decode cL_orders 631 = .ok (.iconst (-1), 1) := by decide +kernel
theorem dL_orders_632 : decode cL_orders 632 = .ok (.iconst 1, 1) := by decide +kernel
theorem dL_orders_633 : decode cL_orders 633 = .ok (.iconst (-1), 1) := by decide +kernel
theorem dL_orders_634 : decode cL_orders 634 = .ok (.invokevirtual 27, 3) := by decide +kernel
theorem dL_orders_637 : decode cL_orders 637 = .ok (.iconst 2, 1) := by decide +kernel
theorem dL_orders_638 : decode cL_orders 638 = .ok (.if_icmp .ne 14, 3) := by decide +kernel
theorem dL_orders_641 : decode cL_orders 641 = .ok (.aload_n 0, 1) := by decide +kernel
theorem dL_orders_642 : decode cL_orders 642 = .ok (.invokestatic 92, 3) := by decide +kernel
theorem dL_orders_645 : decode cL_orders 645 = .ok (.ifCond .eq 7, 3) := by decide +kernel
theorem dL_orders_648 : decode cL_orders 648 = .ok (.iconst 1, 1) := by decide +kernel
theorem dL_orders_649 : decode cL_orders 649 = .ok (.goto 4, 3) := by decide +kernel
theorem dL_orders_652 : decode cL_orders 652 = .ok (.iconst 0, 1) := by decide +kernel
theorem dL_orders_653 : decode cL_orders 653 = .ok (.ireturn, 1) := by decide +kernel
theorem dL_queries_0 : decode cL_queries 0 = .ok (.new 8, 3) := by decide +kernel
theorem dL_queries_3 : decode cL_queries 3 = .ok (.dup, 1) := by decide +kernel
theorem dL_queries_4 : decode cL_queries 4 = .ok (.invokespecial 84, 3) := by decide +kernel
theorem dL_queries_7 : decode cL_queries 7 = .ok (.astore_n 0, 1) := by decide +kernel
theorem dL_queries_8 : decode cL_queries 8 = .ok (.aload_n 0, 1) := by decide +kernel
theorem dL_queries_9 : decode cL_queries 9 = .ok (.iconst 5, 1) := by decide +kernel
theorem dL_queries_10 : decode cL_queries 10 = .ok (.iconst 1, 1) := by decide +kernel
theorem dL_queries_11 : decode cL_queries 11 = .ok (.bipush 7, 2) := by decide +kernel
theorem dL_queries_13 : decode cL_queries 13 = .ok (.invokevirtual 7, 3) := by decide +kernel
theorem dL_queries_16 : decode cL_queries 16 = .ok (.ifCond .eq 182, 3) := by decide +kernel
theorem dL_queries_19 : decode cL_queries 19 = .ok (.aload_n 0, 1) := by decide +kernel
theorem dL_queries_20 : decode cL_queries 20 = .ok (.bipush 7, 2) := by decide +kernel
theorem dL_queries_22 : decode cL_queries 22 = .ok (.iconst 1, 1) := by decide +kernel
theorem dL_queries_23 : decode cL_queries 23 = .ok (.bipush 9, 2) := by decide +kernel
theorem dL_queries_25 : decode cL_queries 25 = .ok (.invokevirtual 7, 3) := by decide +kernel
theorem dL_queries_28 : decode cL_queries 28 = .ok (.ifCond .eq 170, 3) := by decide +kernel
theorem dL_queries_31 : decode cL_queries 31 = .ok (.aload_n 0, 1) := by decide +kernel
theorem dL_queries_32 : decode cL_queries 32 = .ok (.iconst 5, 1) := by decide +kernel
theorem dL_queries_33 : decode cL_queries 33 = .ok (.iconst 2, 1) := by decide +kernel
theorem dL_queries_34 : decode cL_queries 34 = .ok (.bipush 9, 2) := by decide +kernel
theorem dL_queries_36 : decode cL_queries 36 = .ok (.invokevirtual 7, 3) := by decide +kernel
theorem dL_queries_39 : decode cL_queries 39 = .ok (.ifCond .eq 159, 3) := by decide +kernel
theorem dL_queries_42 : decode cL_queries 42 = .ok (.aload_n 0, 1) := by decide +kernel
theorem dL_queries_43 : decode cL_queries 43 = .ok (.bipush 9, 2) := by decide +kernel
theorem dL_queries_45 : decode cL_queries 45 = .ok (.iconst 1, 1) := by decide +kernel
theorem dL_queries_46 : decode cL_queries 46 = .ok (.iconst 5, 1) := by decide +kernel
theorem dL_queries_47 : decode cL_queries 47 = .ok (.invokevirtual 7, 3) := by decide +kernel
theorem dL_queries_50 : decode cL_queries 50 = .ok (.ifCond .eq 148, 3) := by decide +kernel
theorem dL_queries_53 : decode cL_queries 53 = .ok (.aload_n 0, 1) := by decide +kernel
theorem dL_queries_54 : decode cL_queries 54 = .ok (.iconst (-1), 1) := by decide +kernel
theorem dL_queries_55 : decode cL_queries 55 = .ok (.iconst 1, 1) := by decide +kernel
theorem dL_queries_56 : decode cL_queries 56 = .ok (.bipush (-2), 2) := by decide +kernel
theorem dL_queries_58 : decode cL_queries 58 = .ok (.invokevirtual 34, 3) := by decide +kernel
theorem dL_queries_61 : decode cL_queries 61 = .ok (.ifCond .ne 137, 3) := by decide +kernel
theorem dL_queries_64 : decode cL_queries 64 = .ok (.aload_n 0, 1) := by decide +kernel
theorem dL_queries_65 : decode cL_queries 65 = .ok (.iconst 0, 1) := by decide +kernel
theorem dL_queries_66 : decode cL_queries 66 = .ok (.invokevirtual 37, 3) := by decide +kernel
theorem dL_queries_69 : decode cL_queries 69 = .ok (.iconst 3, 1) := by decide +kernel
theorem dL_queries_70 : decode cL_queries 70 = .ok (.if_icmp .ne 128, 3) := by decide +kernel
theorem dL_queries_73 : decode cL_queries 73 = .ok (.aload_n 0, 1) := by decide +kernel
theorem dL_queries_74 : decode cL_queries 74 = .ok (.invokevirtual 100, 3) := by decide +kernel
theorem dL_queries_77 : decode cL_queries 77 = .ok (.iconst 3, 1) := by decide +kernel
theorem dL_queries_78 : decode cL_queries 78 = .ok (.if_icmp .ne 120, 3) := by decide +kernel
theorem dL_queries_81 : decode cL_queries 81 = .ok (.aload_n 0, 1) := by decide +kernel
theorem dL_queries_82 : decode cL_queries 82 = .ok (.invokevirtual 103, 3) := by decide +kernel
theorem dL_queries_85 : decode cL_queries 85 = .ok (.ifCond .ne 113, 3) := by decide +kernel
theorem dL_queries_88 : decode cL_queries 88 = .ok (.aload_n 0, 1) := by decide +kernel
theorem dL_queries_89 : decode cL_queries 89 = .ok (.iconst 3, 1) := by decide +kernel
theorem dL_queries_90 : decode cL_queries 90 = .ok (.invokestatic 88, 3) := by decide +kernel
theorem dL_queries_93 : decode cL_queries 93 = .ok (.ifCond .eq 105, 3) := by decide +kernel
theorem dL_queries_96 : decode cL_queries 96 = .ok (.aload_n 0, 1) := by decide +kernel
theorem dL_queries_97 : decode cL_queries 97 = .ok (.iconst 0, 1) := by decide +kernel
theorem dL_queries_98 : decode cL_queries 98 = .ok (.iconst 0, 1) := by decide +kernel
theorem dL_queries_99 : decode cL_queries 99 = .ok (.invokevirtual 53, 3) := by decide +kernel
theorem dL_queries_102 : decode cL_queries 102 = .ok (.iconst 5, 1) := by decide +kernel
theorem dL_queries_103 : decode cL_queries 103 = .ok (.if_icmp .ne 95, 3) := by decide +kernel
theorem dL_queries_106 : decode cL_queries 106 = .ok (.aload_n 0, 1) := by decide +kernel
theorem dL_queries_107 : decode cL_queries 107 = .ok (.iconst 0, 1) := by decide +kernel
theorem dL_queries_108 : decode cL_queries 108 = .ok (.iconst 1, 1) := by decide +kernel
theorem dL_queries_109 : decode cL_queries 109 = .ok (.invokevirtual 53, 3) := by decide +kernel
theorem dL_queries_112 : decode cL_queries 112 = .ok (.bipush 7, 2) := by decide +kernel
theorem dL_queries_114 : decode cL_queries 114 = .ok (.if_icmp .ne 84, 3) := by decide +kernel
theorem dL_queries_117 : decode cL_queries 117 = .ok (.aload_n 0, 1) := by decide +kernel
theorem dL_queries_118 : decode cL_queries 118 = .ok (.iconst 1, 1) := by decide +kernel
theorem dL_queries_119 : decode cL_queries 119 = .ok (.iconst 0, 1) := by decide +kernel
theorem dL_queries_120 : decode cL_queries 120 = .ok (.invokevirtual 53, 3) := by decide +kernel
theorem dL_queries_123 : decode cL_queries 123 = .ok (.bipush 7, 2) := by decide +kernel
theorem dL_queries_125 : decode cL_queries 125 = .ok (.if_icmp .ne 73, 3) := by decide +kernel
theorem dL_queries_128 : decode cL_queries 128 = .ok (.aload_n 0, 1) := by decide +kernel
theorem dL_queries_129 : decode cL_queries 129 = .ok (.iconst 1, 1) := by decide +kernel
theorem dL_queries_130 : decode cL_queries 130 = .ok (.iconst 1, 1) := by decide +kernel
theorem dL_queries_131 : decode cL_queries 131 = .ok (.invokevirtual 53, 3) := by decide +kernel
theorem dL_queries_134 : decode cL_queries 134 = .ok (.bipush 9, 2) := by decide +kernel
theorem dL_queries_136 : decode cL_queries 136 = .ok (.if_icmp .ne 62, 3) := by decide +kernel
theorem dL_queries_139 : decode cL_queries 139 = .ok (.aload_n 0, 1) := by decide +kernel
theorem dL_queries_140 : decode cL_queries 140 = .ok (.iconst 2, 1) := by decide +kernel
theorem dL_queries_141 : decode cL_queries 141 = .ok (.iconst 0, 1) := by decide +kernel
theorem dL_queries_142 : decode cL_queries 142 = .ok (.invokevirtual 53, 3) := by decide +kernel
theorem dL_queries_145 : decode cL_queries 145 = .ok (.bipush 9, 2) := by decide +kernel
theorem dL_queries_147 : decode cL_queries 147 = .ok (.if_icmp .ne 51, 3) := by decide +kernel
theorem dL_queries_150 : decode cL_queries 150 = .ok (.aload_n 0, 1) := by decide +kernel
theorem dL_queries_151 : decode cL_queries 151 = .ok (.iconst 2, 1) := by decide +kernel
theorem dL_queries_152 : decode cL_queries 152 = .ok (.iconst 1, 1) := by decide +kernel
theorem dL_queries_153 : decode cL_queries 153 = .ok (.invokevirtual 53, 3) := by decide +kernel
theorem dL_queries_156 : decode cL_queries 156 = .ok (.iconst 5, 1) := by decide +kernel
theorem dL_queries_157 : decode cL_queries 157 = .ok (.if_icmp .ne 41, 3) := by decide +kernel
theorem dL_queries_160 : decode cL_queries 160 = .ok (.aload_n 0, 1) := by decide +kernel
theorem dL_queries_161 : decode cL_queries 161 = .ok (.bipush 13, 2) := by decide +kernel
theorem dL_queries_163 : decode cL_queries 163 = .ok (.iconst 0, 1) := by decide +kernel
theorem dL_queries_164 : decode cL_queries 164 = .ok (.iconst 2, 1) := by decide +kernel
theorem dL_queries_165 : decode cL_queries 165 = .ok (.iconst 0, 1) := by decide +kernel
theorem dL_queries_166 : decode cL_queries 166 = .ok (.invokestatic 78, 3) := by decide +kernel
theorem dL_queries_169 : decode cL_queries 169 = .ok (.bipush (-92), 2) := by decide +kernel
theorem dL_queries_171 : decode cL_queries 171 = .ok (.if_icmp .ne 27, 3) := by decide +kernel
theorem dL_queries_174 : decode cL_queries 174 = .ok (.aload_n 0, 1) := by decide +kernel
theorem dL_queries_175 : decode cL_queries 175 = .ok (.iconst 0, 1) := by decide +kernel
theorem dL_queries_176 : decode cL_queries 176 = .ok (.invokevirtual 56, 3) := by decide +kernel
theorem dL_queries_179 : decode cL_queries 179 = .ok (.iconst 3, 1) := by decide +kernel
theorem dL_queries_180 : decode cL_queries 180 = .ok (.if_icmp .ne 18, 3) := by decide +kernel
theorem dL_queries_183 : decode cL_queries 183 = .ok (.aload_n 0, 1) := by decide +kernel
theorem dL_queries_184 : decode cL_queries 184 = .ok (.iconst 2, 1) := by decide +kernel
theorem dL_queries_185 : decode cL_queries 185 = .ok (.invokevirtual 56, 3) := by decide +kernel
theorem dL_queries_188 : decode cL_queries 188 = .ok (.ifCond .ne 10, 3) := by decide +kernel
theorem dL_queries_191 : decode cL_queries 191 = .ok (.aload_n 0, 1) := by decide +kernel
theorem dL_queries_192 : decode cL_queries 192 = .ok (.invokestatic 92, 3) := by decide +kernel
theorem dL_queries_195 : decode cL_queries 195 = .ok (.ifCond .ne 5, 3) := by decide +kernel
theorem dL_queries_198 : decode cL_queries 198 = .ok (.iconst 0, 1) := by decide +kernel
theorem dL_queries_199 : decode cL_queries 199 = .ok (.ireturn, 1) := by decide +kernel
theorem dL_queries_200 : decode cL_queries 200 = .ok (.aload_n 0, 1) := by decide +kernel
theorem dL_queries_201 : decode cL_queries 201 = .ok (.bipush (-2), 2) := by decide +kernel
theorem dL_queries_203 : decode cL_queries 203 = .ok (.iconst 1, 1) := by decide +kernel
theorem dL_queries_204 : decode cL_queries 204 = .ok (.bipush (-3), 2) := by decide +kernel
theorem dL_queries_206 : decode cL_queries 206 = .ok (.invokevirtual 34, 3) := by decide +kernel
theorem dL_queries_209 : decode cL_queries 209 = .ok (.iconst 1, 1) := by decide +kernel
theorem dL_queries_210 : decode cL_queries 210 = .ok (.if_icmp .ne 173, 3) := by decide +kernel
theorem dL_queries_213 : decode cL_queries 213 = .ok (.aload_n 0, 1) := by decide +kernel
theorem dL_queries_214 : decode cL_queries 214 = .ok (.invokevirtual 103, 3) := by decide +kernel
theorem dL_queries_217 : decode cL_queries 217 = .ok (.iconst 2, 1) := by decide +kernel
theorem dL_queries_218 : decode cL_queries 218 = .ok (.if_icmp .ne 165, 3) := by decide +kernel
theorem dL_queries_221 : decode cL_queries 221 = .ok (.aload_n 0, 1) := by decide +kernel
theorem dL_queries_222 : decode cL_queries 222 = .ok (.invokevirtual 100, 3) := by decide +kernel
theorem dL_queries_225 : decode cL_queries 225 = .ok (.bipush 7, 2) := by decide +kernel
theorem dL_queries_227 : decode cL_queries 227 = .ok (.if_icmp .ne 156, 3) := by decide +kernel
theorem dL_queries_230 : decode cL_queries 230 = .ok (.aload_n 0, 1) := by decide +kernel
theorem dL_queries_231 : decode cL_queries 231 = .ok (.iconst 0, 1) := by decide +kernel
theorem dL_queries_232 : decode cL_queries 232 = .ok (.invokevirtual 40, 3) := by decide +kernel
theorem dL_queries_235 : decode cL_queries 235 = .ok (.ifCond .ne 148, 3) := by decide +kernel
theorem dL_queries_238 : decode cL_queries 238 = .ok (.aload_n 0, 1) := by decide +kernel
theorem dL_queries_239 : decode cL_queries 239 = .ok (.iconst 1, 1) := by decide +kernel
theorem dL_queries_240 : decode cL_queries 240 = .ok (.invokevirtual 40, 3) := by decide +kernel
theorem dL_queries_243 : decode cL_queries 243 = .ok (.iconst 1, 1) := by decide +kernel
theorem dL_queries_244 : decode cL_queries 244 = .ok (.if_icmp .ne 139, 3) := by decide +kernel
theorem dL_queries_247 : decode cL_queries 247 = .ok (.aload_n 0, 1) := by decide +kernel
theorem dL_queries_248 : decode cL_queries 248 = .ok (.iconst 3, 1) := by decide +kernel
theorem dL_queries_249 : decode cL_queries 249 = .ok (.invokestatic 88, 3) := by decide +kernel
theorem dL_queries_252 : decode cL_queries 252 = .ok (.ifCond .eq 131, 3) := by decide +kernel
theorem dL_queries_255 : decode cL_queries 255 = .ok (.aload_n 0, 1) := by decide +kernel
theorem dL_queries_256 : decode cL_queries 256 = .ok (.iconst 0, 1) := by decide +kernel
theorem dL_queries_257 : decode cL_queries 257 = .ok (.iconst 2, 1) := by decide +kernel
theorem dL_queries_258 : decode cL_queries 258 = .ok (.invokevirtual 53, 3) := by decide +kernel
theorem dL_queries_261 : decode cL_queries 261 = .ok (.bipush 9, 2) := by decide +kernel
theorem dL_queries_263 : decode cL_queries 263 = .ok (.if_icmp .ne 120, 3) := by decide +kernel
theorem dL_queries_266 : decode cL_queries 266 = .ok (.aload_n 0, 1) := by decide +kernel
theorem dL_queries_267 : decode cL_queries 267 = .ok (.iconst 1, 1) := by decide +kernel
theorem dL_queries_268 : decode cL_queries 268 = .ok (.iconst 2, 1) := by decide +kernel
theorem dL_queries_269 : decode cL_queries 269 = .ok (.invokevirtual 53, 3) := by decide +kernel
theorem dL_queries_272 : decode cL_queries 272 = .ok (.iconst 5, 1) := by decide +kernel
theorem dL_queries_273 : decode cL_queries 273 = .ok (.if_icmp .ne 110, 3) := by decide +kernel
theorem dL_queries_276 : decode cL_queries 276 = .ok (.aload_n 0, 1) := by decide +kernel
theorem dL_queries_277 : decode cL_queries 277 = .ok (.iconst 2, 1) := by decide +kernel
theorem dL_queries_278 : decode cL_queries 278 = .ok (.iconst 2, 1) := by decide +kernel
theorem dL_queries_279 : decode cL_queries 279 = .ok (.invokevirtual 53, 3) := by decide +kernel
theorem dL_queries_282 : decode cL_queries 282 = .ok (.bipush 7, 2) := by decide +kernel
theorem dL_queries_284 : decode cL_queries 284 = .ok (.if_icmp .ne 99, 3) := by decide +kernel
theorem dL_queries_287 : decode cL_queries 287 = .ok (.aload_n 0, 1) := by decide +kernel
theorem dL_queries_288 : decode cL_queries 288 = .ok (.bipush (-3), 2) := by decide +kernel
theorem dL_queries_290 : decode cL_queries 290 = .ok (.iconst 1, 1) := by decide +kernel
theorem dL_queries_291 : decode cL_queries 291 = .ok (.iconst (-1), 1) := by decide +kernel
theorem dL_queries_292 : decode cL_queries 292 = .ok (.invokevirtual 34, 3) := by decide +kernel
theorem dL_queries_295 : decode cL_queries 295 = .ok (.iconst 2, 1) := by decide +kernel
theorem dL_queries_296 : decode cL_queries 296 = .ok (.if_icmp .ne 87, 3) := by decide +kernel
theorem dL_queries_299 : decode cL_queries 299 = .ok (.aload_n 0, 1) := by decide +kernel
theorem dL_queries_300 : decode cL_queries 300 = .ok (.invokevirtual 103, 3) := by decide +kernel
theorem dL_queries_303 : decode cL_queries 303 = .ok (.iconst 2, 1) := by decide +kernel
theorem dL_queries_304 : decode cL_queries 304 = .ok (.if_icmp .ne 79, 3) := by decide +kernel
theorem dL_queries_307 : decode cL_queries 307 = .ok (.aload_n 0, 1) := by decide +kernel
theorem dL_queries_308 : decode cL_queries 308 = .ok (.iconst 3, 1) := by decide +kernel
theorem dL_queries_309 : decode cL_queries 309 = .ok (.invokestatic 88, 3) := by decide +kernel
theorem dL_queries_312 : decode cL_queries 312 = .ok (.ifCond .eq 71, 3) := by decide +kernel
theorem dL_queries_315 : decode cL_queries 315 = .ok (.aload_n 0, 1) := by decide +kernel
theorem dL_queries_316 : decode cL_queries 316 = .ok (.iconst 2, 1) := by decide +kernel
theorem dL_queries_317 : decode cL_queries 317 = .ok (.iconst 1, 1) := by decide +kernel
theorem dL_queries_318 : decode cL_queries 318 = .ok (.invokevirtual 53, 3) := by decide +kernel
theorem dL_queries_321 : decode cL_queries 321 = .ok (.iconst 5, 1) := by decide +kernel
theorem dL_queries_322 : decode cL_queries 322 = .ok (.if_icmp .ne 61, 3) := by decide +kernel
theorem dL_queries_325 : decode cL_queries 325 = .ok (.aload_n 0, 1) := by decide +kernel
theorem dL_queries_326 : decode cL_queries 326 = .ok (.bipush 7, 2) := by decide +kernel
theorem dL_queries_328 : decode cL_queries 328 = .ok (.iconst 0, 1) := by decide +kernel
theorem dL_queries_329 : decode cL_queries 329 = .ok (.iconst 0, 1) := by decide +kernel
theorem dL_queries_330 : decode cL_queries 330 = .ok (.iconst 0, 1) := by decide +kernel
theorem dL_queries_331 : decode cL_queries 331 = .ok (.invokestatic 78, 3) := by decide +kernel
theorem dL_queries_334 : decode cL_queries 334 = .ok (.bipush (-93), 2) := by decide +kernel
theorem dL_queries_336 : decode cL_queries 336 = .ok (.if_icmp .ne 47, 3) := by decide +kernel
theorem dL_queries_339 : decode cL_queries 339 = .ok (.aload_n 0, 1) := by decide +kernel
theorem dL_queries_340 : decode cL_queries 340 = .ok (.invokevirtual 85, 3) := by decide +kernel
theorem dL_queries_343 : decode cL_queries 343 = .ok (.iconst 3, 1) := by decide +kernel
theorem dL_queries_344 : decode cL_queries 344 = .ok (.if_icmp .ne 39, 3) := by decide +kernel
theorem dL_queries_347 : decode cL_queries 347 = .ok (.aload_n 0, 1) := by decide +kernel
theorem dL_queries_348 : decode cL_queries 348 = .ok (.invokevirtual 74, 3) := by decide +kernel
theorem dL_queries_351 : decode cL_queries 351 = .ok (.iconst 3, 1) := by decide +kernel
theorem dL_queries_352 : decode cL_queries 352 = .ok (.if_icmp .ne 31, 3) := by decide +kernel
theorem dL_queries_355 : decode cL_queries 355 = .ok (.aload_n 0, 1) := by decide +kernel
theorem dL_queries_356 : decode cL_queries 356 = .ok (.bipush (-93), 2) := by decide +kernel
theorem dL_queries_358 : decode cL_queries 358 = .ok (.invokestatic 88, 3) := by decide +kernel
theorem dL_queries_361 : decode cL_queries 361 = .ok (.ifCond .eq 22, 3) := by decide +kernel
theorem dL_queries_364 : decode cL_queries 364 = .ok (.aload_n 0, 1) := by decide +kernel
theorem dL_queries_365 : decode cL_queries 365 = .ok (.invokevirtual 74, 3) := by decide +kernel
theorem dL_queries_368 : decode cL_queries 368 = .ok (.iconst 3, 1) := by decide +kernel
theorem dL_queries_369 : decode cL_queries 369 = .ok (.if_icmp .ne 14, 3) := by decide +kernel
theorem dL_queries_372 : decode cL_queries 372 = .ok (.aload_n 0, 1) := by decide +kernel
theorem dL_queries_373 : decode cL_queries 373 = .ok (.iconst 0, 1) := by decide +kernel
theorem dL_queries_374 : decode cL_queries 374 = .ok (.iconst 2, 1) := by decide +kernel
theorem dL_queries_375 : decode cL_queries 375 = .ok (.invokevirtual 53, 3) := by decide +kernel
theorem dL_queries_378 : decode cL_queries 378 = .ok (.bipush 9, 2) := by decide +kernel
theorem dL_queries_380 : decode cL_queries 380 = .ok (.if_icmp .eq 5, 3) := by decide +kernel
theorem dL_queries_383 : decode cL_queries 383 = .ok (.iconst 0, 1) := by decide +kernel
theorem dL_queries_384 : decode cL_queries 384 = .ok (.ireturn, 1) := by decide +kernel
theorem dL_queries_385 : decode cL_queries 385 = .ok (.aload_n 0, 1) := by decide +kernel
theorem dL_queries_386 : decode cL_queries 386 = .ok (.iconst (-1), 1) := by decide +kernel
theorem dL_queries_387 : decode cL_queries 387 = .ok (.iconst 1, 1) := by decide +kernel
theorem dL_queries_388 : decode cL_queries 388 = .ok (.bipush (-2), 2) := by decide +kernel
theorem dL_queries_390 : decode cL_queries 390 = .ok (.invokevirtual 34, 3) := by decide +kernel
theorem dL_queries_393 : decode cL_queries 393 = .ok (.ifCond .ne 200, 3) := by decide +kernel
theorem dL_queries_396 : decode cL_queries 396 = .ok (.aload_n 0, 1) := by decide +kernel
theorem dL_queries_397 : decode cL_queries 397 = .ok (.iconst (-1), 1) := by decide +kernel
theorem dL_queries_398 : decode cL_queries 398 = .ok (.iconst 2, 1) := by decide +kernel
theorem dL_queries_399 : decode cL_queries 399 = .ok (.bipush (-3), 2) := by decide +kernel
theorem dL_queries_401 : decode cL_queries 401 = .ok (.invokevirtual 34, 3) := by decide +kernel
theorem dL_queries_404 : decode cL_queries 404 = .ok (.iconst 1, 1) := by decide +kernel
theorem dL_queries_405 : decode cL_queries 405 = .ok (.if_icmp .ne 188, 3) := by decide +kernel
theorem dL_queries_408 : decode cL_queries 408 = .ok (.aload_n 0, 1) := by decide +kernel
theorem dL_queries_409 : decode cL_queries 409 = .ok (.invokevirtual 103, 3) := by decide +kernel
theorem dL_queries_412 : decode cL_queries 412 = .ok (.iconst 1, 1) := by decide +kernel
theorem dL_queries_413 : decode cL_queries 413 = .ok (.if_icmp .ne 180, 3) := by decide +kernel
theorem dL_queries_416 : decode cL_queries 416 = .ok (.aload_n 0, 1) := by decide +kernel
theorem dL_queries_417 : decode cL_queries 417 = .ok (.iconst 1, 1) := by decide +kernel
theorem dL_queries_418 : decode cL_queries 418 = .ok (.invokevirtual 37, 3) := by decide +kernel
theorem dL_queries_421 : decode cL_queries 421 = .ok (.iconst 1, 1) := by decide +kernel
theorem dL_queries_422 : decode cL_queries 422 = .ok (.if_icmp .ne 171, 3) := by decide +kernel
theorem dL_queries_425 : decode cL_queries 425 = .ok (.aload_n 0, 1) := by decide +kernel
theorem dL_queries_426 : decode cL_queries 426 = .ok (.iconst 0, 1) := by decide +kernel
theorem dL_queries_427 : decode cL_queries 427 = .ok (.invokevirtual 40, 3) := by decide +kernel
theorem dL_queries_430 : decode cL_queries 430 = .ok (.iconst 1, 1) := by decide +kernel
theorem dL_queries_431 : decode cL_queries 431 = .ok (.if_icmp .ne 162, 3) := by decide +kernel
theorem dL_queries_434 : decode cL_queries 434 = .ok (.aload_n 0, 1) := by decide +kernel
theorem dL_queries_435 : decode cL_queries 435 = .ok (.iconst 1, 1) := by decide +kernel
theorem dL_queries_436 : decode cL_queries 436 = .ok (.invokevirtual 40, 3) := by decide +kernel
theorem dL_queries_439 : decode cL_queries 439 = .ok (.ifCond .ne 154, 3) := by decide +kernel
theorem dL_queries_442 : decode cL_queries 442 = .ok (.aload_n 0, 1) := by decide +kernel
theorem dL_queries_443 : decode cL_queries 443 = .ok (.iconst 1, 1) := by decide +kernel
theorem dL_queries_444 : decode cL_queries 444 = .ok (.invokestatic 88, 3) := by decide +kernel
theorem dL_queries_447 : decode cL_queries 447 = .ok (.ifCond .eq 146, 3) := by decide +kernel
theorem dL_queries_450 : decode cL_queries 450 = .ok (.aload_n 0, 1) := by decide +kernel
theorem dL_queries_451 : decode cL_queries 451 = .ok (.iconst 0, 1) := by decide +kernel
theorem dL_queries_452 : decode cL_queries 452 = .ok (.iconst 0, 1) := by decide +kernel
theorem dL_queries_453 : decode cL_queries 453 = .ok (.invokevirtual 53, 3) := by decide +kernel
theorem dL_queries_456 : decode cL_queries 456 = .ok (.iconst 5, 1) := by decide +kernel
theorem dL_queries_457 : decode cL_queries 457 = .ok (.if_icmp .ne 136, 3) := by decide +kernel
theorem dL_queries_460 : decode cL_queries 460 = .ok (.aload_n 0, 1) := by decide +kernel
theorem dL_queries_461 : decode cL_queries 461 = .ok (.iconst 0, 1) := by decide +kernel
theorem dL_queries_462 : decode cL_queries 462 = .ok (.iconst 1, 1) := by decide +kernel
theorem dL_queries_463 : decode cL_queries 463 = .ok (.invokevirtual 53, 3) := by decide +kernel
theorem dL_queries_466 : decode cL_queries 466 = .ok (.bipush 7, 2) := by decide +kernel
theorem dL_queries_468 : decode cL_queries 468 = .ok (.if_icmp .ne 125, 3) := by decide +kernel
theorem dL_queries_471 : decode cL_queries 471 = .ok (.aload_n 0, 1) := by decide +kernel
theorem dL_queries_472 : decode cL_queries 472 = .ok (.iconst 0, 1) := by decide +kernel
theorem dL_queries_473 : decode cL_queries 473 = .ok (.iconst 2, 1) := by decide +kernel
theorem dL_queries_474 : decode cL_queries 474 = .ok (.invokevirtual 53, 3) := by decide +kernel
theorem dL_queries_477 : decode cL_queries 477 = .ok (.bipush 9, 2) := by decide +kernel
theorem dL_queries_479 : decode cL_queries 479 = .ok (.if_icmp .ne 114, 3) := by decide +kernel
theorem dL_queries_482 : decode cL_queries 482 = .ok (.aload_n 0, 1) := by decide +kernel
theorem dL_queries_483 : decode cL_queries 483 = .ok (.bipush 9, 2) := by decide +kernel
theorem dL_queries_485 : decode cL_queries 485 = .ok (.iconst 1, 1) := by decide +kernel
theorem dL_queries_486 : decode cL_queries 486 = .ok (.iconst 5, 1) := by decide +kernel
theorem dL_queries_487 : decode cL_queries 487 = .ok (.invokevirtual 34, 3) := by decide +kernel
theorem dL_queries_490 : decode cL_queries 490 = .ok (.iconst 2, 1) := by decide +kernel
theorem dL_queries_491 : decode cL_queries 491 = .ok (.if_icmp .ne 102, 3) := by decide +kernel
theorem dL_queries_494 : decode cL_queries 494 = .ok (.aload_n 0, 1) := by decide +kernel
theorem dL_queries_495 : decode cL_queries 495 = .ok (.invokevirtual 103, 3) := by decide +kernel
theorem dL_queries_498 : decode cL_queries 498 = .ok (.ifCond .ne 95, 3) := by decide +kernel
theorem dL_queries_501 : decode cL_queries 501 = .ok (.aload_n 0, 1) := by decide +kernel
theorem dL_queries_502 : decode cL_queries 502 = .ok (.iconst 0, 1) := by decide +kernel
theorem dL_queries_503 : decode cL_queries 503 = .ok (.invokevirtual 40, 3) := by decide +kernel
theorem dL_queries_506 : decode cL_queries 506 = .ok (.iconst 1, 1) := by decide +kernel
theorem dL_queries_507 : decode cL_queries 507 = .ok (.if_icmp .ne 86, 3) := by decide +kernel
theorem dL_queries_510 : decode cL_queries 510 = .ok (.aload_n 0, 1) := by decide +kernel
theorem dL_queries_511 : decode cL_queries 511 = .ok (.iconst 1, 1) := by decide +kernel
theorem dL_queries_512 : decode cL_queries 512 = .ok (.invokevirtual 40, 3) := by decide +kernel
theorem dL_queries_515 : decode cL_queries 515 = .ok (.ifCond .ne 78, 3) := by decide +kernel
theorem dL_queries_518 : decode cL_queries 518 = .ok (.aload_n 0, 1) := by decide +kernel
theorem dL_queries_519 : decode cL_queries 519 = .ok (.iconst 2, 1) := by decide +kernel
theorem dL_queries_520 : decode cL_queries 520 = .ok (.invokevirtual 40, 3) := by decide +kernel
theorem dL_queries_523 : decode cL_queries 523 = .ok (.iconst 2, 1) := by decide +kernel
theorem dL_queries_524 : decode cL_queries 524 = .ok (.if_icmp .ne 69, 3) := by decide +kernel
theorem dL_queries_527 : decode cL_queries 527 = .ok (.aload_n 0, 1) := by decide +kernel
theorem dL_queries_528 : decode cL_queries 528 = .ok (.iconst 1, 1) := by decide +kernel
theorem dL_queries_529 : decode cL_queries 529 = .ok (.invokestatic 88, 3) := by decide +kernel
theorem dL_queries_532 : decode cL_queries 532 = .ok (.ifCond .eq 61, 3) := by decide +kernel
theorem dL_queries_535 : decode cL_queries 535 = .ok (.aload_n 0, 1) := by decide +kernel
theorem dL_queries_536 : decode cL_queries 536 = .ok (.bipush 9, 2) := by decide +kernel
theorem dL_queries_538 : decode cL_queries 538 = .ok (.iconst 1, 1) := by decide +kernel
theorem dL_queries_539 : decode cL_queries 539 = .ok (.iconst 5, 1) := by decide +kernel
theorem dL_queries_540 : decode cL_queries 540 = .ok (.invokevirtual 13, 3) := by decide +kernel
theorem dL_queries_543 : decode cL_queries 543 = .ok (.ifCond .eq 50, 3) := by decide +kernel
theorem dL_queries_546 : decode cL_queries 546 = .ok (.aload_n 0, 1) := by decide +kernel
theorem dL_queries_547 : decode cL_queries 547 = .ok (.invokevirtual 74, 3) := by decide +kernel
theorem dL_queries_550 : decode cL_queries 550 = .ok (.iconst 1, 1) := by decide +kernel
theorem dL_queries_551 : decode cL_queries 551 = .ok (.if_icmp .ne 42, 3) := by decide +kernel
theorem dL_queries_554 : decode cL_queries 554 = .ok (.aload_n 0, 1) := by decide +kernel
theorem dL_queries_555 : decode cL_queries 555 = .ok (.iconst 2, 1) := by decide +kernel
theorem dL_queries_556 : decode cL_queries 556 = .ok (.invokevirtual 37, 3) := by decide +kernel
theorem dL_queries_559 : decode cL_queries 559 = .ok (.ifCond .ne 34, 3) := by decide +kernel
theorem dL_queries_562 : decode cL_queries 562 = .ok (.aload_n 0, 1) := by decide +kernel
theorem dL_queries_563 : decode cL_queries 563 = .ok (.iconst 0, 1) := by decide +kernel
theorem dL_queries_564 : decode cL_queries 564 = .ok (.invokevirtual 40, 3) := by decide +kernel
theorem dL_queries_567 : decode cL_queries 567 = .ok (.iconst 2, 1) := by decide +kernel
theorem dL_queries_568 : decode cL_queries 568 = .ok (.if_icmp .ne 25, 3) := by decide +kernel
theorem dL_queries_571 : decode cL_queries 571 = .ok (.aload_n 0, 1) := by decide +kernel
theorem dL_queries_572 : decode cL_queries 572 = .ok (.iconst 0, 1) := by decide +kernel
theorem dL_queries_573 : decode cL_queries 573 = .ok (.invokestatic 88, 3) := by decide +kernel
theorem dL_queries_576 : decode cL_queries 576 = .ok (.ifCond .eq 17, 3) := by decide +kernel
theorem dL_queries_579 : decode cL_queries 579 = .ok (.aload_n 0, 1) := by decide +kernel
theorem dL_queries_580 : decode cL_queries 580 = .ok (.bipush 13, 2) := by decide +kernel
theorem dL_queries_582 : decode cL_queries 582 = .ok (.iconst 0, 1) := by decide +kernel
theorem dL_queries_583 : decode cL_queries 583 = .ok (.iconst 0, 1) := by decide +kernel
theorem dL_queries_584 : decode cL_queries 584 = .ok (.iconst 0, 1) := by decide +kernel
theorem dL_queries_585 : decode cL_queries 585 = .ok (.invokestatic 78, 3) := by decide +kernel
theorem dL_queries_588 : decode cL_queries 588 = .ok (.bipush (-91), 2) := by decide +kernel
theorem dL_queries_590 : decode cL_queries 590 = .ok (.if_icmp .eq 5, 3) := by decide +kernel
theorem dL_queries_593 : decode cL_queries 593 = .ok (.iconst 0, 1) := by decide +kernel
theorem dL_queries_594 : decode cL_queries 594 = .ok (.ireturn, 1) := by decide +kernel
theorem dL_queries_595 : decode cL_queries 595 = .ok (.aload_n 0, 1) := by decide +kernel
theorem dL_queries_596 : decode cL_queries 596 = .ok (.invokevirtual 85, 3) := by decide +kernel
theorem dL_queries_599 : decode cL_queries 599 = .ok (.iconst 3, 1) := by decide +kernel
theorem dL_queries_600 : decode cL_queries 600 = .ok (.if_icmp .ne 161, 3) := by decide +kernel
theorem dL_queries_603 : decode cL_queries 603 = .ok (.aload_n 0, 1) := by decide +kernel
theorem dL_queries_604 : decode cL_queries 604 = .ok (.iconst (-1), 1) := by decide +kernel
theorem dL_queries_605 : decode cL_queries 605 = .ok (.bipush (-2), 2) := by decide +kernel
theorem dL_queries_607 : decode cL_queries 607 = .ok (.iconst (-1), 1) := by decide +kernel
theorem dL_queries_608 : decode cL_queries 608 = .ok (.invokevirtual 34, 3) := by decide +kernel
theorem dL_queries_611 : decode cL_queries 611 = .ok (.ifCond .ne 150, 3) := by decide +kernel
theorem dL_queries_614 : decode cL_queries 614 = .ok (.aload_n 0, 1) := by decide +kernel
theorem dL_queries_615 : decode cL_queries 615 = .ok (.iconst 0, 1) := by decide +kernel
theorem dL_queries_616 : decode cL_queries 616 = .ok (.invokevirtual 37, 3) := by decide +kernel
theorem dL_queries_619 : decode cL_queries 619 = .ok (.ifCond .ne 142, 3) := by decide +kernel
theorem dL_queries_622 : decode cL_queries 622 = .ok (.aload_n 0, 1) := by decide +kernel
theorem dL_queries_623 : decode cL_queries 623 = .ok (.iconst 0, 1) := by decide +kernel
theorem dL_queries_624 : decode cL_queries 624 = .ok (.invokestatic 88, 3) := by decide +kernel
theorem dL_queries_627 : decode cL_queries 627 = .ok (.ifCond .eq 134, 3) := by decide +kernel
theorem dL_queries_630 : decode cL_queries 630 = .ok (.aload_n 0, 1) := by decide +kernel
theorem dL_queries_631 : decode cL_queries 631 = .ok (.bipush 7, 2) := by decide +kernel
theorem dL_queries_633 : decode cL_queries 633 = .ok (.bipush 7, 2) := by decide +kernel
theorem dL_queries_635 : decode cL_queries 635 = .ok (.bipush 7, 2) := by decide +kernel
theorem dL_queries_637 : decode cL_queries 637 = .ok (.invokevirtual 7, 3) := by decide +kernel
theorem dL_queries_640 : decode cL_queries 640 = .ok (.ifCond .eq 121, 3) := by decide +kernel
theorem dL_queries_643 : decode cL_queries 643 = .ok (.aload_n 0, 1) := by decide +kernel
theorem dL_queries_644 : decode cL_queries 644 = .ok (.iconst 0, 1) := by decide +kernel
theorem dL_queries_645 : decode cL_queries 645 = .ok (.invokevirtual 37, 3) := by decide +kernel
theorem dL_queries_648 : decode cL_queries 648 = .ok (.iconst 1, 1) := by decide +kernel
theorem dL_queries_649 : decode cL_queries 649 = .ok (.if_icmp .ne 112, 3) := by decide +kernel
theorem dL_queries_652 : decode cL_queries 652 = .ok (.aload_n 0, 1) := by decide +kernel
theorem dL_queries_653 : decode cL_queries 653 = .ok (.iconst 1, 1) := by decide +kernel
theorem dL_queries_654 : decode cL_queries 654 = .ok (.invokestatic 88, 3) := by decide +kernel
theorem dL_queries_657 : decode cL_queries 657 = .ok (.ifCond .eq 104, 3) := by decide +kernel
theorem dL_queries_660 : decode cL_queries 660 = .ok (.aload_n 0, 1) := by decide +kernel
theorem dL_queries_661 : decode cL_queries 661 = .ok (.iconst 0, 1) := by decide +kernel
theorem dL_queries_662 : decode cL_queries 662 = .ok (.iconst 0, 1) := by decide +kernel
theorem dL_queries_663 : decode cL_queries 663 = .ok (.invokevirtual 53, 3) := by decide +kernel
theorem dL_queries_666 : decode cL_queries 666 = .ok (.bipush 7, 2) := by decide +kernel
theorem dL_queries_668 : decode cL_queries 668 = .ok (.if_icmp .ne 93, 3) := by decide +kernel
theorem dL_queries_671 : decode cL_queries 671 = .ok (.aload_n 0, 1) := by decide +kernel
theorem dL_queries_672 : decode cL_queries 672 = .ok (.iconst 0, 1) := by decide +kernel
theorem dL_queries_673 : decode cL_queries 673 = .ok (.iconst 1, 1) := by decide +kernel
theorem dL_queries_674 : decode cL_queries 674 = .ok (.invokevirtual 53, 3) := by decide +kernel
theorem dL_queries_677 : decode cL_queries 677 = .ok (.bipush 7, 2) := by decide +kernel
theorem dL_queries_679 : decode cL_queries 679 = .ok (.if_icmp .ne 82, 3) := by decide +kernel
theorem dL_queries_682 : decode cL_queries 682 = .ok (.aload_n 0, 1) := by decide +kernel
theorem dL_queries_683 : decode cL_queries 683 = .ok (.iconst (-1), 1) := by decide +kernel
theorem dL_queries_684 : decode cL_queries 684 = .ok (.bipush (-3), 2) := by decide +kernel
theorem dL_queries_686 : decode cL_queries 686 = .ok (.bipush (-4), 2) := by decide +kernel
theorem dL_queries_688 : decode cL_queries 688 = .ok (.invokevirtual 34, 3) := by decide +kernel
theorem dL_queries_691 : decode cL_queries 691 = .ok (.iconst 1, 1) := by decide +kernel
theorem dL_queries_692 : decode cL_queries 692 = .ok (.if_icmp .ne 69, 3) := by decide +kernel
theorem dL_queries_695 : decode cL_queries 695 = .ok (.aload_n 0, 1) := by decide +kernel
theorem dL_queries_696 : decode cL_queries 696 = .ok (.invokevirtual 103, 3) := by decide +kernel
theorem dL_queries_699 : decode cL_queries 699 = .ok (.iconst 3, 1) := by decide +kernel
theorem dL_queries_700 : decode cL_queries 700 = .ok (.if_icmp .ne 61, 3) := by decide +kernel
theorem dL_queries_703 : decode cL_queries 703 = .ok (.aload_n 0, 1) := by decide +kernel
theorem dL_queries_704 : decode cL_queries 704 = .ok (.iconst 2, 1) := by decide +kernel
theorem dL_queries_705 : decode cL_queries 705 = .ok (.invokestatic 88, 3) := by decide +kernel
theorem dL_queries_708 : decode cL_queries 708 = .ok (.ifCond .eq 53, 3) := by decide +kernel
theorem dL_queries_711 : decode cL_queries 711 = .ok (.aload_n 0, 1) := by decide +kernel
theorem dL_queries_712 : decode cL_queries 712 = .ok (.iconst 0, 1) := by decide +kernel
theorem dL_queries_713 : decode cL_queries 713 = .ok (.iconst 2, 1) := by decide +kernel
theorem dL_queries_714 : decode cL_queries 714 = .ok (.invokevirtual 53, 3) := by decide +kernel
theorem dL_queries_717 : decode cL_queries 717 = .ok (.iconst 1, 1) := by decide +kernel
theorem dL_queries_718 : decode cL_queries 718 = .ok (.if_icmp .ne 43, 3) := by decide +kernel
theorem dL_queries_721 : decode cL_queries 721 = .ok (.aload_n 0, 1) := by decide +kernel
theorem dL_queries_722 : decode cL_queries 722 = .ok (.iconst 0, 1) := by decide +kernel
theorem dL_queries_723 : decode cL_queries 723 = .ok (.iconst 3, 1) := by decide +kernel
theorem dL_queries_724 : decode cL_queries 724 = .ok (.invokevirtual 53, 3) := by decide +kernel
theorem dL_queries_727 : decode cL_queries 727 = .ok (.bipush 9, 2) := by decide +kernel
theorem dL_queries_729 : decode cL_queries 729 = .ok (.if_icmp .ne 32, 3) := by decide +kernel
theorem dL_queries_732 : decode cL_queries 732 = .ok (.aload_n 0, 1) := by decide +kernel
theorem dL_queries_733 : decode cL_queries 733 = .ok (.iconst 1, 1) := by decide +kernel
theorem dL_queries_734 : decode cL_queries 734 = .ok (.iconst 2, 1) := by decide +kernel
theorem dL_queries_735 : decode cL_queries 735 = .ok (.invokevirtual 53, 3) := by decide +kernel
theorem dL_queries_738 : decode cL_queries 738 = .ok (.bipush 7, 2) := by decide +kernel
theorem dL_queries_740 : decode cL_queries 740 = .ok (.if_icmp .ne 21, 3) := by decide +kernel
theorem dL_queries_743 : decode cL_queries 743 = .ok (.aload_n 0, 1) := by decide +kernel
theorem dL_queries_744 : decode cL_queries 744 = .ok (.iconst 3, 1) := by decide +kernel
theorem dL_queries_745 : decode cL_queries 745 = .ok (.invokevirtual 56, 3) := by decide +kernel
theorem dL_queries_748 : decode cL_queries 748 = .ok (.iconst 2, 1) := by decide +kernel
theorem dL_queries_749 : decode cL_queries 749 = .ok (.if_icmp .ne 12, 3) := by decide +kernel
theorem dL_queries_752 : decode cL_queries 752 = .ok (.aload_n 0, 1) := by decide +kernel
theorem dL_queries_753 : decode cL_queries 753 = .ok (.iconst 0, 1) := by decide +kernel
theorem dL_queries_754 : decode cL_queries 754 = .ok (.invokevirtual 56, 3) := by decide +kernel
theorem dL_queries_757 : decode cL_queries 757 = .ok (.iconst 1, 1) := by decide +kernel
theorem dL_queries_758 : decode cL_queries 758 = .ok (.if_icmp .eq 5, 3) := by decide +kernel
theorem dL_queries_761 : decode cL_queries 761 = .ok (.iconst 0, 1) := by decide +kernel
theorem dL_queries_762 : decode cL_queries 762 = .ok (.ireturn, 1) := by decide +kernel
theorem dL_queries_763 : decode cL_queries 763 = .ok (.aload_n 0, 1) := by decide +kernel
theorem dL_queries_764 : decode cL_queries 764 = .ok (.invokevirtual 85, 3) := by decide +kernel
theorem dL_queries_767 : decode cL_queries 767 = .ok (.iconst 2, 1) := by decide +kernel
theorem dL_queries_768 : decode cL_queries 768 = .ok (.if_icmp .ne 96, 3) := by decide +kernel
theorem dL_queries_771 : decode cL_queries 771 = .ok (.aload_n 0, 1) := by decide +kernel
theorem dL_queries_772 : decode cL_queries 772 = .ok (.iconst 5, 1) := by decide +kernel
theorem dL_queries_773 : decode cL_queries 773 = .ok (.iconst 1, 1) := by decide +kernel
theorem dL_queries_774 : decode cL_queries 774 = .ok (.bipush 7, 2) := by decide +kernel
theorem dL_queries_776 : decode cL_queries 776 = .ok (.invokevirtual 34, 3) := by decide +kernel
theorem dL_queries_779 : decode cL_queries 779 = .ok (.ifCond .ne 85, 3) := by decide +kernel
theorem dL_queries_782 : decode cL_queries 782 = .ok (.aload_n 0, 1) := by decide +kernel
