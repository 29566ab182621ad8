theorem dL_queries_783 : decode cL_queries 783 = .ok (.invokevirtual 100, 3) := by decide +kernel
theorem dL_queries_786 : decode cL_queries 786 = .ok (.ifCond .ne 78, 3) := by decide +kernel
theorem dL_queries_789 : decode cL_queries 789 = .ok (.aload_n 0, 1) := by decide +kernel
theorem dL_queries_790 : decode cL_queries 790 = .ok (.iconst 1, 1) := by decide +kernel
theorem dL_queries_791 : decode cL_queries 791 = .ok (.invokestatic 88, 3) := by decide +kernel
theorem dL_queries_794 : decode cL_queries 794 = .ok (.ifCond .eq 70, 3) := by decide +kernel
theorem dL_queries_797 : decode cL_queries 797 = .ok (.aload_n 0, 1) := by decide +kernel
theorem dL_queries_798 : decode cL_queries 798 = .ok (.bipush 13, 2) := by decide +kernel
theorem dL_queries_800 : decode cL_queries 800 = .ok (.iconst 0, 1) := by decide +kernel
theorem dL_queries_801 : decode cL_queries 801 = .ok (.iconst 0, 1) := by decide +kernel
theorem dL_queries_802 : decode cL_queries 802 = .ok (.iconst 0, 1) := by decide +kernel
theorem dL_queries_803 : decode cL_queries 803 = .ok (.invokestatic 78, 3) := by decide +kernel
theorem dL_queries_806 : decode cL_queries 806 = .ok (.bipush (-92), 2) := by decide +kernel
theorem dL_queries_808 : decode cL_queries 808 = .ok (.if_icmp .ne 56, 3) := by decide +kernel
theorem dL_queries_811 : decode cL_queries 811 = .ok (.aload_n 0, 1) := by decide +kernel
theorem dL_queries_812 : decode cL_queries 812 = .ok (.bipush 13, 2) := by decide +kernel
theorem dL_queries_814 : decode cL_queries 814 = .ok (.iconst 1, 1) := by decide +kernel
theorem dL_queries_815 : decode cL_queries 815 = .ok (.bipush 9, 2) := by decide +kernel
theorem dL_queries_817 : decode cL_queries 817 = .ok (.iconst 0, 1) := by decide +kernel
theorem dL_queries_818 : decode cL_queries 818 = .ok (.invokestatic 78, 3) := by decide +kernel
theorem dL_queries_821 : decode cL_queries 821 = .ok (.bipush (-91), 2) := by decide +kernel
theorem dL_queries_823 : decode cL_queries 823 = .ok (.if_icmp .ne 41, 3) := by decide +kernel
theorem dL_queries_826 : decode cL_queries 826 = .ok (.aload_n 0, 1) := by decide +kernel
theorem dL_queries_827 : decode cL_queries 827 = .ok (.iconst 5, 1) := by decide +kernel
theorem dL_queries_828 : decode cL_queries 828 = .ok (.iconst 1, 1) := by decide +kernel
theorem dL_queries_829 : decode cL_queries 829 = .ok (.bipush 8, 2) := by decide +kernel
theorem dL_queries_831 : decode cL_queries 831 = .ok (.invokevirtual 34, 3) := by decide +kernel
theorem dL_queries_834 : decode cL_queries 834 = .ok (.iconst 1, 1) := by decide +kernel
theorem dL_queries_835 : decode cL_queries 835 = .ok (.if_icmp .ne 29, 3) := by decide +kernel
theorem dL_queries_838 : decode cL_queries 838 = .ok (.aload_n 0, 1) := by decide +kernel
theorem dL_queries_839 : decode cL_queries 839 = .ok (.iconst 0, 1) := by decide +kernel
theorem dL_queries_840 : decode cL_queries 840 = .ok (.invokestatic 88, 3) := by decide +kernel
theorem dL_queries_843 : decode cL_queries 843 = .ok (.ifCond .eq 21, 3) := by decide +kernel
theorem dL_queries_846 : decode cL_queries 846 = .ok (.aload_n 0, 1) := by decide +kernel
theorem dL_queries_847 : decode cL_queries 847 = .ok (.invokevirtual 103, 3) := by decide +kernel
theorem dL_queries_850 : decode cL_queries 850 = .ok (.ifCond .ne 14, 3) := by decide +kernel
theorem dL_queries_853 : decode cL_queries 853 = .ok (.aload_n 0, 1) := by decide +kernel
theorem dL_queries_854 : decode cL_queries 854 = .ok (.invokestatic 92, 3) := by decide +kernel
theorem dL_queries_857 : decode cL_queries 857 = .ok (.ifCond .eq 7, 3) := by decide +kernel
theorem dL_queries_860 : decode cL_queries 860 = .ok (.iconst 1, 1) := by decide +kernel
theorem dL_queries_861 : decode cL_queries 861 = .ok (.goto 4, 3) := by decide +kernel
theorem dL_queries_864 : decode cL_queries 864 = .ok (.iconst 0, 1) := by decide +kernel
theorem dL_queries_865 : decode cL_queries 865 = .ok (.ireturn, 1) := by decide +kernel
theorem dL_bounds_0 : decode cL_bounds 0 = .ok (.new 8, 3) := by decide +kernel
theorem dL_bounds_3 : decode cL_bounds 3 = .ok (.dup, 1) := by decide +kernel
theorem dL_bounds_4 : decode cL_bounds 4 = .ok (.invokespecial 84, 3) := by decide +kernel
theorem dL_bounds_7 : decode cL_bounds 7 = .ok (.astore_n 0, 1) := by decide +kernel
theorem dL_bounds_8 : decode cL_bounds 8 = .ok (.aload_n 0, 1) := by decide +kernel
theorem dL_bounds_9 : decode cL_bounds 9 = .ok (.iconst (-1), 1) := by decide +kernel
theorem dL_bounds_10 : decode cL_bounds 10 = .ok (.bipush 10, 2) := by decide +kernel
theorem dL_bounds_12 : decode cL_bounds 12 = .ok (.bipush (-2), 2) := by decide +kernel
theorem dL_bounds_14 : decode cL_bounds 14 = .ok (.invokevirtual 34, 3) := by decide +kernel
theorem dL_bounds_17 : decode cL_bounds 17 = .ok (.ifCond .ne 17, 3) := by decide +kernel
theorem dL_bounds_20 : decode cL_bounds 20 = .ok (.aload_n 0, 1) := by decide +kernel
theorem dL_bounds_21 : decode cL_bounds 21 = .ok (.bipush (-3), 2) := by decide +kernel
theorem dL_bounds_23 : decode cL_bounds 23 = .ok (.bipush 10, 2) := by decide +kernel
theorem dL_bounds_25 : decode cL_bounds 25 = .ok (.bipush (-4), 2) := by decide +kernel
theorem dL_bounds_27 : decode cL_bounds 27 = .ok (.invokevirtual 34, 3) := by decide +kernel
theorem dL_bounds_30 : decode cL_bounds 30 = .ok (.iconst 1, 1) := by decide +kernel
theorem dL_bounds_31 : decode cL_bounds 31 = .ok (.if_icmp .eq 5, 3) := by decide +kernel
theorem dL_bounds_34 : decode cL_bounds 34 = .ok (.iconst 0, 1) := by decide +kernel
theorem dL_bounds_35 : decode cL_bounds 35 = .ok (.ireturn, 1) := by decide +kernel
theorem dL_bounds_36 : decode cL_bounds 36 = .ok (.iconst 0, 1) := by decide +kernel
theorem dL_bounds_37 : decode cL_bounds 37 = .ok (.istore_n 1, 1) := by decide +kernel
theorem dL_bounds_38 : decode cL_bounds 38 = .ok (.iload_n 1, 1) := by decide +kernel
theorem dL_bounds_39 : decode cL_bounds 39 = .ok (.bipush 60, 2) := by decide +kernel
theorem dL_bounds_41 : decode cL_bounds 41 = .ok (.if_icmp .ge 83, 3) := by decide +kernel
theorem dL_bounds_44 : decode cL_bounds 44 = .ok (.iload_n 1, 1) := by decide +kernel
theorem dL_bounds_45 : decode cL_bounds 45 = .ok (.bipush 44, 2) := by decide +kernel
theorem dL_bounds_47 : decode cL_bounds 47 = .ok (.if_icmp .ne 49, 3) := by decide +kernel
theorem dL_bounds_50 : decode cL_bounds 50 = .ok (.aload_n 0, 1) := by decide +kernel
theorem dL_bounds_51 : decode cL_bounds 51 = .ok (.sipush 1936, 3) := by decide +kernel
theorem dL_bounds_54 : decode cL_bounds 54 = .ok (.invokestatic 88, 3) := by decide +kernel
theorem dL_bounds_57 : decode cL_bounds 57 = .ok (.ifCond .eq 37, 3) := by decide +kernel
theorem dL_bounds_60 : decode cL_bounds 60 = .ok (.aload_n 0, 1) := by decide +kernel
theorem dL_bounds_61 : decode cL_bounds 61 = .ok (.iconst 2, 1) := by decide +kernel
theorem dL_bounds_62 : decode cL_bounds 62 = .ok (.invokevirtual 56, 3) := by decide +kernel
theorem dL_bounds_65 : decode cL_bounds 65 = .ok (.iconst 5, 1) := by decide +kernel
theorem dL_bounds_66 : decode cL_bounds 66 = .ok (.if_icmp .ne 28, 3) := by decide +kernel
theorem dL_bounds_69 : decode cL_bounds 69 = .ok (.aload_n 0, 1) := by decide +kernel
theorem dL_bounds_70 : decode cL_bounds 70 = .ok (.sipush 1935, 3) := by decide +kernel
theorem dL_bounds_73 : decode cL_bounds 73 = .ok (.iconst 3, 1) := by decide +kernel
theorem dL_bounds_74 : decode cL_bounds 74 = .ok (.invokevirtual 53, 3) := by decide +kernel
theorem dL_bounds_77 : decode cL_bounds 77 = .ok (.bipush 27, 2) := by decide +kernel
theorem dL_bounds_79 : decode cL_bounds 79 = .ok (.if_icmp .ne 15, 3) := by decide +kernel
theorem dL_bounds_82 : decode cL_bounds 82 = .ok (.aload_n 0, 1) := by decide +kernel
theorem dL_bounds_83 : decode cL_bounds 83 = .ok (.sipush 1935, 3) := by decide +kernel
theorem dL_bounds_86 : decode cL_bounds 86 = .ok (.iconst 0, 1) := by decide +kernel
theorem dL_bounds_87 : decode cL_bounds 87 = .ok (.invokevirtual 53, 3) := by decide +kernel
theorem dL_bounds_90 : decode cL_bounds 90 = .ok (.iconst 4, 1) := by decide +kernel
theorem dL_bounds_91 : decode cL_bounds 91 = .ok (.if_icmp .eq 5, 3) := by decide +kernel
theorem dL_bounds_94 : decode cL_bounds 94 = .ok (.iconst 0, 1) := by decide +kernel
theorem dL_bounds_95 : decode cL_bounds 95 = .ok (.ireturn, 1) := by decide +kernel
theorem dL_bounds_96 : decode cL_bounds 96 = .ok (.aload_n 0, 1) := by decide +kernel
theorem dL_bounds_97 : decode cL_bounds 97 = .ok (.iload_n 1, 1) := by decide +kernel
theorem dL_bounds_98 : decode cL_bounds 98 = .ok (.bipush 9, 2) := by decide +kernel
theorem dL_bounds_100 : decode cL_bounds 100 = .ok (.idiv, 1) := by decide +kernel
theorem dL_bounds_101 : decode cL_bounds 101 = .ok (.bipush 10, 2) := by decide +kernel
theorem dL_bounds_103 : decode cL_bounds 103 = .ok (.bipush 20, 2) := by decide +kernel
theorem dL_bounds_105 : decode cL_bounds 105 = .ok (.iload_n 1, 1) := by decide +kernel
theorem dL_bounds_106 : decode cL_bounds 106 = .ok (.bipush 9, 2) := by decide +kernel
theorem dL_bounds_108 : decode cL_bounds 108 = .ok (.irem, 1) := by decide +kernel
theorem dL_bounds_109 : decode cL_bounds 109 = .ok (.iadd, 1) := by decide +kernel
theorem dL_bounds_110 : decode cL_bounds 110 = .ok (.invokevirtual 7, 3) := by decide +kernel
theorem dL_bounds_113 : decode cL_bounds 113 = .ok (.ifCond .ne 5, 3) := by decide +kernel
theorem dL_bounds_116 : decode cL_bounds 116 = .ok (.iconst 0, 1) := by decide +kernel
theorem dL_bounds_117 : decode cL_bounds 117 = .ok (.ireturn, 1) := by decide +kernel
theorem dL_bounds_118 : decode cL_bounds 118 = .ok (.iinc 1 1, 3) := by decide +kernel
theorem dL_bounds_121 : decode cL_bounds 121 = .ok (.goto (-83), 3) := by decide +kernel
theorem dL_bounds_124 : decode cL_bounds 124 = .ok (.aload_n 0, 1) := by decide +kernel
theorem dL_bounds_125 : decode cL_bounds 125 = .ok (.bipush (-93), 2) := by decide +kernel
theorem dL_bounds_127 : decode cL_bounds 127 = .ok (.invokestatic 88, 3) := by decide +kernel
theorem dL_bounds_130 : decode cL_bounds 130 = .ok (.ifCond .eq 55, 3) := by decide +kernel
theorem dL_bounds_133 : decode cL_bounds 133 = .ok (.aload_n 0, 1) := by decide +kernel
theorem dL_bounds_134 : decode cL_bounds 134 = .ok (.invokevirtual 74, 3) := by decide +kernel
theorem dL_bounds_137 : decode cL_bounds 137 = .ok (.sipush 1936, 3) := by decide +kernel
theorem dL_bounds_140 : decode cL_bounds 140 = .ok (.if_icmp .ne 45, 3) := by decide +kernel
theorem dL_bounds_143 : decode cL_bounds 143 = .ok (.aload_n 0, 1) := by decide +kernel
theorem dL_bounds_144 : decode cL_bounds 144 = .ok (.iconst 1, 1) := by decide +kernel
theorem dL_bounds_145 : decode cL_bounds 145 = .ok (.invokevirtual 56, 3) := by decide +kernel
theorem dL_bounds_148 : decode cL_bounds 148 = .ok (.bipush 9, 2) := by decide +kernel
theorem dL_bounds_150 : decode cL_bounds 150 = .ok (.if_icmp .ne 35, 3) := by decide +kernel
theorem dL_bounds_153 : decode cL_bounds 153 = .ok (.aload_n 0, 1) := by decide +kernel
theorem dL_bounds_154 : decode cL_bounds 154 = .ok (.iconst 0, 1) := by decide +kernel
theorem dL_bounds_155 : decode cL_bounds 155 = .ok (.iconst 1, 1) := by decide +kernel
theorem dL_bounds_156 : decode cL_bounds 156 = .ok (.iconst 1, 1) := by decide +kernel
theorem dL_bounds_157 : decode cL_bounds 157 = .ok (.iconst 1, 1) := by decide +kernel
theorem dL_bounds_158 : decode cL_bounds 158 = .ok (.invokestatic 78, 3) := by decide +kernel
theorem dL_bounds_161 : decode cL_bounds 161 = .ok (.bipush (-93), 2) := by decide +kernel
theorem dL_bounds_163 : decode cL_bounds 163 = .ok (.if_icmp .ne 22, 3) := by decide +kernel
theorem dL_bounds_166 : decode cL_bounds 166 = .ok (.aload_n 0, 1) := by decide +kernel
theorem dL_bounds_167 : decode cL_bounds 167 = .ok (.iconst 0, 1) := by decide +kernel
theorem dL_bounds_168 : decode cL_bounds 168 = .ok (.bipush 10, 2) := by decide +kernel
theorem dL_bounds_170 : decode cL_bounds 170 = .ok (.bipush 20, 2) := by decide +kernel
theorem dL_bounds_172 : decode cL_bounds 172 = .ok (.invokevirtual 7, 3) := by decide +kernel
theorem dL_bounds_175 : decode cL_bounds 175 = .ok (.ifCond .ne 10, 3) := by decide +kernel
theorem dL_bounds_178 : decode cL_bounds 178 = .ok (.aload_n 0, 1) := by decide +kernel
theorem dL_bounds_179 : decode cL_bounds 179 = .ok (.invokestatic 92, 3) := by decide +kernel
theorem dL_bounds_182 : decode cL_bounds 182 = .ok (.ifCond .ne 5, 3) := by decide +kernel
theorem dL_bounds_185 : decode cL_bounds 185 = .ok (.iconst 0, 1) := by decide +kernel
theorem dL_bounds_186 : decode cL_bounds 186 = .ok (.ireturn, 1) := by decide +kernel
theorem dL_bounds_187 : decode cL_bounds 187 = .ok (.new 8, 3) := by decide +kernel
theorem dL_bounds_190 : decode cL_bounds 190 = .ok (.dup, 1) := by decide +kernel
theorem dL_bounds_191 : decode cL_bounds 191 = .ok (.invokespecial 84, 3) := by decide +kernel
theorem dL_bounds_194 : decode cL_bounds 194 = .ok (.astore_n 1, 1) := by decide +kernel
theorem dL_bounds_195 : decode cL_bounds 195 = .ok (.iconst 0, 1) := by decide +kernel
theorem dL_bounds_196 : decode cL_bounds 196 = .ok (.istore_n 2, 1) := by decide +kernel
theorem dL_bounds_197 : decode cL_bounds 197 = .ok (.iload_n 2, 1) := by decide +kernel
theorem dL_bounds_198 : decode cL_bounds 198 = .ok (.bipush 40, 2) := by decide +kernel
theorem dL_bounds_200 : decode cL_bounds 200 = .ok (.if_icmp .ge 27, 3) := by decide +kernel
theorem dL_bounds_203 : decode cL_bounds 203 = .ok (.aload_n 1, 1) := by decide +kernel
theorem dL_bounds_204 : decode cL_bounds 204 = .ok (.iconst 2, 1) := by decide +kernel
theorem dL_bounds_205 : decode cL_bounds 205 = .ok (.iload_n 2, 1) := by decide +kernel
theorem dL_bounds_206 : decode cL_bounds 206 = .ok (.imul, 1) := by decide +kernel
theorem dL_bounds_207 : decode cL_bounds 207 = .ok (.iconst 2, 1) := by decide +kernel
theorem dL_bounds_208 : decode cL_bounds 208 = .ok (.iload_n 2, 1) := by decide +kernel
theorem dL_bounds_209 : decode cL_bounds 209 = .ok (.imul, 1) := by decide +kernel
theorem dL_bounds_210 : decode cL_bounds 210 = .ok (.iconst 2, 1) := by decide +kernel
theorem dL_bounds_211 : decode cL_bounds 211 = .ok (.iload_n 2, 1) := by decide +kernel
theorem dL_bounds_212 : decode cL_bounds 212 = .ok (.imul, 1) := by decide +kernel
theorem dL_bounds_213 : decode cL_bounds 213 = .ok (.invokevirtual 7, 3) := by decide +kernel
theorem dL_bounds_216 : decode cL_bounds 216 = .ok (.ifCond .ne 5, 3) := by decide +kernel
theorem dL_bounds_219 : decode cL_bounds 219 = .ok (.iconst 0, 1) := by decide +kernel
theorem dL_bounds_220 : decode cL_bounds 220 = .ok (.ireturn, 1) := by decide +kernel
theorem dL_bounds_221 : decode cL_bounds 221 = .ok (.iinc 2 1, 3) := by decide +kernel
theorem dL_bounds_224 : decode cL_bounds 224 = .ok (.goto (-27), 3) := by decide +kernel
theorem dL_bounds_227 : decode cL_bounds 227 = .ok (.aload_n 1, 1) := by decide +kernel
theorem dL_bounds_228 : decode cL_bounds 228 = .ok (.invokevirtual 68, 3) := by decide +kernel
theorem dL_bounds_231 : decode cL_bounds 231 = .ok (.bipush 40, 2) := by decide +kernel
theorem dL_bounds_233 : decode cL_bounds 233 = .ok (.if_icmp .ne 93, 3) := by decide +kernel
theorem dL_bounds_236 : decode cL_bounds 236 = .ok (.aload_n 1, 1) := by decide +kernel
theorem dL_bounds_237 : decode cL_bounds 237 = .ok (.iconst 0, 1) := by decide +kernel
theorem dL_bounds_238 : decode cL_bounds 238 = .ok (.iconst 1, 1) := by decide +kernel
theorem dL_bounds_239 : decode cL_bounds 239 = .ok (.iconst 0, 1) := by decide +kernel
theorem dL_bounds_240 : decode cL_bounds 240 = .ok (.iconst 0, 1) := by decide +kernel
theorem dL_bounds_241 : decode cL_bounds 241 = .ok (.invokestatic 78, 3) := by decide +kernel
theorem dL_bounds_244 : decode cL_bounds 244 = .ok (.bipush (-93), 2) := by decide +kernel
theorem dL_bounds_246 : decode cL_bounds 246 = .ok (.if_icmp .ne 80, 3) := by decide +kernel
theorem dL_bounds_249 : decode cL_bounds 249 = .ok (.aload_n 1, 1) := by decide +kernel
theorem dL_bounds_250 : decode cL_bounds 250 = .ok (.iconst 0, 1) := by decide +kernel
theorem dL_bounds_251 : decode cL_bounds 251 = .ok (.iconst 0, 1) := by decide +kernel
theorem dL_bounds_252 : decode cL_bounds 252 = .ok (.iconst 0, 1) := by decide +kernel
theorem dL_bounds_253 : decode cL_bounds 253 = .ok (.bipush 99, 2) := by decide +kernel
theorem dL_bounds_255 : decode cL_bounds 255 = .ok (.invokestatic 78, 3) := by decide +kernel
theorem dL_bounds_258 : decode cL_bounds 258 = .ok (.bipush (-93), 2) := by decide +kernel
theorem dL_bounds_260 : decode cL_bounds 260 = .ok (.if_icmp .ne 66, 3) := by decide +kernel
theorem dL_bounds_263 : decode cL_bounds 263 = .ok (.aload_n 1, 1) := by decide +kernel
theorem dL_bounds_264 : decode cL_bounds 264 = .ok (.iconst 0, 1) := by decide +kernel
theorem dL_bounds_265 : decode cL_bounds 265 = .ok (.bipush 78, 2) := by decide +kernel
theorem dL_bounds_267 : decode cL_bounds 267 = .ok (.iconst 2, 1) := by decide +kernel
theorem dL_bounds_268 : decode cL_bounds 268 = .ok (.invokevirtual 7, 3) := by decide +kernel
theorem dL_bounds_271 : decode cL_bounds 271 = .ok (.ifCond .eq 55, 3) := by decide +kernel
theorem dL_bounds_274 : decode cL_bounds 274 = .ok (.aload_n 1, 1) := by decide +kernel
theorem dL_bounds_275 : decode cL_bounds 275 = .ok (.invokevirtual 65, 3) := by decide +kernel
theorem dL_bounds_278 : decode cL_bounds 278 = .ok (.bipush 41, 2) := by decide +kernel
theorem dL_bounds_280 : decode cL_bounds 280 = .ok (.if_icmp .ne 46, 3) := by decide +kernel
theorem dL_bounds_283 : decode cL_bounds 283 = .ok (.aload_n 1, 1) := by decide +kernel
theorem dL_bounds_284 : decode cL_bounds 284 = .ok (.iconst 0, 1) := by decide +kernel
theorem dL_bounds_285 : decode cL_bounds 285 = .ok (.iconst 0, 1) := by decide +kernel
theorem dL_bounds_286 : decode cL_bounds 286 = .ok (.iconst 0, 1) := by decide +kernel
theorem dL_bounds_287 : decode cL_bounds 287 = .ok (.invokevirtual 13, 3) := by decide +kernel
theorem dL_bounds_290 : decode cL_bounds 290 = .ok (.ifCond .eq 36, 3) := by decide +kernel
theorem dL_bounds_293 : decode cL_bounds 293 = .ok (.aload_n 1, 1) := by decide +kernel
theorem dL_bounds_294 : decode cL_bounds 294 = .ok (.iconst 0, 1) := by decide +kernel
theorem dL_bounds_295 : decode cL_bounds 295 = .ok (.invokevirtual 20, 3) := by decide +kernel
theorem dL_bounds_298 : decode cL_bounds 298 = .ok (.ifCond .ne 28, 3) := by decide +kernel
theorem dL_bounds_301 : decode cL_bounds 301 = .ok (.aload_n 1, 1) := by decide +kernel
theorem dL_bounds_302 : decode cL_bounds 302 = .ok (.invokevirtual 68, 3) := by decide +kernel
theorem dL_bounds_305 : decode cL_bounds 305 = .ok (.bipush 40, 2) := by decide +kernel
theorem dL_bounds_307 : decode cL_bounds 307 = .ok (.if_icmp .ne 19, 3) := by decide +kernel
theorem dL_bounds_310 : decode cL_bounds 310 = .ok (.aload_n 1, 1) := by decide +kernel
theorem dL_bounds_311 : decode cL_bounds 311 = .ok (.iconst 0, 1) := by decide +kernel
theorem dL_bounds_312 : decode cL_bounds 312 = .ok (.iconst 0, 1) := by decide +kernel
theorem dL_bounds_313 : decode cL_bounds 313 = .ok (.iconst 1, 1) := by decide +kernel
theorem dL_bounds_314 : decode cL_bounds 314 = .ok (.invokevirtual 16, 3) := by decide +kernel
theorem dL_bounds_317 : decode cL_bounds 317 = .ok (.bipush 78, 2) := by decide +kernel
theorem dL_bounds_319 : decode cL_bounds 319 = .ok (.if_icmp .ne 7, 3) := by decide +kernel
theorem dL_bounds_322 : decode cL_bounds 322 = .ok (.iconst 1, 1) := by decide +kernel
theorem dL_bounds_323 : decode cL_bounds 323 = .ok (.goto 4, 3) := by decide +kernel
theorem dL_bounds_326 : decode cL_bounds 326 = .ok (.iconst 0, 1) := by decide +kernel
theorem dL_bounds_327 : decode cL_bounds 327 = .ok (.ireturn, 1) := by decide +kernel
theorem dL_law_0 : decode cL_law 0 = .ok (.invokestatic 106, 3) := by decide +kernel
theorem dL_law_3 : decode cL_law 3 = .ok (.ifCond .eq 15, 3) := by decide +kernel
theorem dL_law_6 : decode cL_law 6 = .ok (.invokestatic 110, 3) := by decide +kernel
theorem dL_law_9 : decode cL_law 9 = .ok (.ifCond .eq 9, 3) := by decide +kernel
theorem dL_law_12 : decode cL_law 12 = .ok (.invokestatic 113, 3) := by decide +kernel
theorem dL_law_15 : decode cL_law 15 = .ok (.ifCond .ne 5, 3) := by decide +kernel
theorem dL_law_18 : decode cL_law 18 = .ok (.iconst 0, 1) := by decide +kernel
theorem dL_law_19 : decode cL_law 19 = .ok (.ireturn, 1) := by decide +kernel
theorem dL_law_20 : decode cL_law 20 = .ok (.new 8, 3) := by decide +kernel
theorem dL_law_23 : decode cL_law 23 = .ok (.dup, 1) := by decide +kernel
theorem dL_law_24 : decode cL_law 24 = .ok (.invokespecial 84, 3) := by decide +kernel
theorem dL_law_27 : decode cL_law 27 = .ok (.astore_n 1, 1) := by decide +kernel
theorem dL_law_28 : decode cL_law 28 = .ok (.iconst 0, 1) := by decide +kernel
theorem dL_law_29 : decode cL_law 29 = .ok (.istore_n 2, 1) := by decide +kernel
theorem dL_law_30 : decode cL_law 30 = .ok (.iload_n 2, 1) := by decide +kernel
theorem dL_law_31 : decode cL_law 31 = .ok (.bipush 24, 2) := by decide +kernel
theorem dL_law_33 : decode cL_law 33 = .ok (.if_icmp .ge 114, 3) := by decide +kernel
theorem dL_law_36 : decode cL_law 36 = .ok (.aload_n 0, 1) := by decide +kernel
theorem dL_law_37 : decode cL_law 37 = .ok (.arraylength, 1) := by decide +kernel
theorem dL_law_38 : decode cL_law 38 = .ok (.ifCond .ne 10, 3) := by decide +kernel
theorem dL_law_41 : decode cL_law 41 = .ok (.bipush 31, 2) := by decide +kernel
theorem dL_law_43 : decode cL_law 43 = .ok (.iload_n 2, 1) := by decide +kernel
theorem dL_law_44 : decode cL_law 44 = .ok (.imul, 1) := by decide +kernel
theorem dL_law_45 : decode cL_law 45 = .ok (.goto 12, 3) := by decide +kernel
theorem dL_law_48 : decode cL_law 48 = .ok (.aload_n 0, 1) := by decide +kernel
theorem dL_law_49 : decode cL_law 49 = .ok (.iload_n 2, 1) := by decide +kernel
theorem dL_law_50 : decode cL_law 50 = .ok (.aload_n 0, 1) := by decide +kernel
theorem dL_law_51 : decode cL_law 51 = .ok (.arraylength, 1) := by decide +kernel
theorem dL_law_52 : decode cL_law 52 = .ok (.irem, 1) := by decide +kernel
theorem dL_law_53 : decode cL_law 53 = .ok (.iaload, 1) := by decide +kernel
theorem dL_law_54 : decode cL_law 54 = .ok (.bipush 8, 2) := by decide +kernel
theorem dL_law_56 : decode cL_law 56 = .ok (.iushr, 1) := by decide +kernel
theorem dL_law_57 : decode cL_law 57 = .ok (.istore_n 3, 1) := by decide +kernel
theorem dL_law_58 : decode cL_law 58 = .ok (.aload_n 1, 1) := by decide +kernel
theorem dL_law_59 : decode cL_law 59 = .ok (.iconst 0, 1) := by decide +kernel
theorem dL_law_60 : decode cL_law 60 = .ok (.iload_n 3, 1) := by decide +kernel
theorem dL_law_61 : decode cL_law 61 = .ok (.bipush 6, 2) := by decide +kernel
theorem dL_law_63 : decode cL_law 63 = .ok (.irem, 1) := by decide +kernel
theorem dL_law_64 : decode cL_law 64 = .ok (.iload_n 3, 1) := by decide +kernel
theorem dL_law_65 : decode cL_law 65 = .ok (.bipush 6, 2) := by decide +kernel
theorem dL_law_67 : decode cL_law 67 = .ok (.idiv, 1) := by decide +kernel
theorem dL_law_68 : decode cL_law 68 = .ok (.iconst 4, 1) := by decide +kernel
theorem dL_law_69 : decode cL_law 69 = .ok (.irem, 1) := by decide +kernel
theorem dL_law_70 : decode cL_law 70 = .ok (.iload_n 3, 1) := by decide +kernel
theorem dL_law_71 : decode cL_law 71 = .ok (.bipush 24, 2) := by decide +kernel
theorem dL_law_73 : decode cL_law 73 = .ok (.idiv, 1) := by decide +kernel
theorem dL_law_74 : decode cL_law 74 = .ok (.bipush 7, 2) := by decide +kernel
theorem dL_law_76 : decode cL_law 76 = .ok (.irem, 1) := by decide +kernel
theorem dL_law_77 : decode cL_law 77 = .ok (.invokestatic 78, 3) := by decide +kernel
theorem dL_law_80 : decode cL_law 80 = .ok (.ifCond .lt 59, 3) := by decide +kernel
theorem dL_law_83 : decode cL_law 83 = .ok (.iload_n 2, 1) := by decide +kernel
theorem dL_law_84 : decode cL_law 84 = .ok (.iconst 4, 1) := by decide +kernel
theorem dL_law_85 : decode cL_law 85 = .ok (.if_icmp .ge 47, 3) := by decide +kernel
theorem dL_law_88 : decode cL_law 88 = .ok (.aload_n 1, 1) := by decide +kernel
theorem dL_law_89 : decode cL_law 89 = .ok (.bipush 7, 2) := by decide +kernel
theorem dL_law_91 : decode cL_law 91 = .ok (.iload_n 3, 1) := by decide +kernel
theorem dL_law_92 : decode cL_law 92 = .ok (.bipush 10, 2) := by decide +kernel
theorem dL_law_94 : decode cL_law 94 = .ok (.irem, 1) := by decide +kernel
theorem dL_law_95 : decode cL_law 95 = .ok (.iconst 4, 1) := by decide +kernel
theorem dL_law_96 : decode cL_law 96 = .ok (.isub, 1) := by decide +kernel
theorem dL_law_97 : decode cL_law 97 = .ok (.iload_n 3, 1) := by decide +kernel
theorem dL_law_98 : decode cL_law 98 = .ok (.bipush 10, 2) := by decide +kernel
theorem dL_law_100 : decode cL_law 100 = .ok (.idiv, 1) := by decide +kernel
theorem dL_law_101 : decode cL_law 101 = .ok (.bipush 9, 2) := by decide +kernel
theorem dL_law_103 : decode cL_law 103 = .ok (.irem, 1) := by decide +kernel
theorem dL_law_104 : decode cL_law 104 = .ok (.iconst 4, 1) := by decide +kernel
theorem dL_law_105 : decode cL_law 105 = .ok (.isub, 1) := by decide +kernel
theorem dL_law_106 : decode cL_law 106 = .ok (.iload_n 3, 1) := by decide +kernel
theorem dL_law_107 : decode cL_law 107 = .ok (.bipush 90, 2) := by decide +kernel
theorem dL_law_109 : decode cL_law 109 = .ok (.idiv, 1) := by decide +kernel
theorem dL_law_110 : decode cL_law 110 = .ok (.bipush 12, 2) := by decide +kernel
theorem dL_law_112 : decode cL_law 112 = .ok (.irem, 1) := by decide +kernel
theorem dL_law_113 : decode cL_law 113 = .ok (.iconst 4, 1) := by decide +kernel
theorem dL_law_114 : decode cL_law 114 = .ok (.isub, 1) := by decide +kernel
theorem dL_law_115 : decode cL_law 115 = .ok (.invokestatic 78, 3) := by decide +kernel
theorem dL_law_118 : decode cL_law 118 = .ok (.iload_n 2, 1) := by decide +kernel
theorem dL_law_119 : decode cL_law 119 = .ok (.iconst 3, 1) := by decide +kernel
theorem dL_law_120 : decode cL_law 120 = .ok (.if_icmp .ge 7, 3) := by decide +kernel
theorem dL_law_123 : decode cL_law 123 = .ok (.iload_n 2, 1) := by decide +kernel
theorem dL_law_124 : decode cL_law 124 = .ok (.goto 5, 3) := by decide +kernel
theorem dL_law_127 : decode cL_law 127 = .ok (.bipush (-93), 2) := by decide +kernel
theorem dL_law_129 : decode cL_law 129 = .ok (.if_icmp .ne 10, 3) := by decide +kernel
theorem dL_law_132 : decode cL_law 132 = .ok (.aload_n 1, 1) := by decide +kernel
theorem dL_law_133 : decode cL_law 133 = .ok (.invokestatic 92, 3) := by decide +kernel
theorem dL_law_136 : decode cL_law 136 = .ok (.ifCond .ne 5, 3) := by decide +kernel
theorem dL_law_139 : decode cL_law 139 = .ok (.iconst 0, 1) := by decide +kernel
theorem dL_law_140 : decode cL_law 140 = .ok (.ireturn, 1) := by decide +kernel
theorem dL_law_141 : decode cL_law 141 = .ok (.iinc 2 1, 3) := by decide +kernel
theorem dL_law_144 : decode cL_law 144 = .ok (.goto (-114), 3) := by decide +kernel
theorem dL_law_147 : decode cL_law 147 = .ok (.aload_n 1, 1) := by decide +kernel
theorem dL_law_148 : decode cL_law 148 = .ok (.bipush 10, 2) := by decide +kernel
theorem dL_law_150 : decode cL_law 150 = .ok (.iconst 0, 1) := by decide +kernel
theorem dL_law_151 : decode cL_law 151 = .ok (.iconst 0, 1) := by decide +kernel
theorem dL_law_152 : decode cL_law 152 = .ok (.iconst 0, 1) := by decide +kernel
theorem dL_law_153 : decode cL_law 153 = .ok (.invokestatic 78, 3) := by decide +kernel
theorem dL_law_156 : decode cL_law 156 = .ok (.aload_n 1, 1) := by decide +kernel
theorem dL_law_157 : decode cL_law 157 = .ok (.bipush 12, 2) := by decide +kernel
theorem dL_law_159 : decode cL_law 159 = .ok (.iconst 0, 1) := by decide +kernel
theorem dL_law_160 : decode cL_law 160 = .ok (.iconst 0, 1) := by decide +kernel
theorem dL_law_161 : decode cL_law 161 = .ok (.iconst 0, 1) := by decide +kernel
theorem dL_law_162 : decode cL_law 162 = .ok (.invokestatic 78, 3) := by decide +kernel
theorem dL_law_165 : decode cL_law 165 = .ok (.if_icmp .ne 28, 3) := by decide +kernel
theorem dL_law_168 : decode cL_law 168 = .ok (.aload_n 1, 1) := by decide +kernel
theorem dL_law_169 : decode cL_law 169 = .ok (.bipush 11, 2) := by decide +kernel
theorem dL_law_171 : decode cL_law 171 = .ok (.iconst 0, 1) := by decide +kernel
theorem dL_law_172 : decode cL_law 172 = .ok (.iconst 0, 1) := by decide +kernel
theorem dL_law_173 : decode cL_law 173 = .ok (.iconst 0, 1) := by decide +kernel
theorem dL_law_174 : decode cL_law 174 = .ok (.invokestatic 78, 3) := by decide +kernel
theorem dL_law_177 : decode cL_law 177 = .ok (.aload_n 1, 1) := by decide +kernel
theorem dL_law_178 : decode cL_law 178 = .ok (.bipush 12, 2) := by decide +kernel
theorem dL_law_180 : decode cL_law 180 = .ok (.iconst 0, 1) := by decide +kernel
theorem dL_law_181 : decode cL_law 181 = .ok (.iconst 0, 1) := by decide +kernel
theorem dL_law_182 : decode cL_law 182 = .ok (.iconst 0, 1) := by decide +kernel
theorem dL_law_183 : decode cL_law 183 = .ok (.invokestatic 78, 3) := by decide +kernel
theorem dL_law_186 : decode cL_law 186 = .ok (.if_icmp .ne 7, 3) := by decide +kernel
theorem dL_law_189 : decode cL_law 189 = .ok (.iconst 1, 1) := by decide +kernel
theorem dL_law_190 : decode cL_law 190 = .ok (.goto 4, 3) := by decide +kernel
theorem dL_law_193 : decode cL_law 193 = .ok (.iconst 0, 1) := by decide +kernel
theorem dL_law_194 : decode cL_law 194 = .ok (.ireturn, 1) := by decide +kernel
