theorem d_md_distance_11 : decode b_md_distance 11 = .ok (.aload_n 0, 1) := by decide +kernel
theorem d_md_distance_12 : decode b_md_distance 12 = .ok (.getfield 24, 3) := by decide +kernel
theorem d_md_distance_15 : decode b_md_distance 15 = .ok (.iload_n 1, 1) := by decide +kernel
theorem d_md_distance_16 : decode b_md_distance 16 = .ok (.iaload, 1) := by decide +kernel
theorem d_md_distance_17 : decode b_md_distance 17 = .ok (.invokevirtual 114, 3) := by decide +kernel
theorem d_md_distance_20 : decode b_md_distance 20 = .ok (.aload_n 0, 1) := by decide +kernel
theorem d_md_distance_21 : decode b_md_distance 21 = .ok (.getfield 76, 3) := by decide +kernel
theorem d_md_distance_24 : decode b_md_distance 24 = .ok (.aload_n 0, 1) := by decide +kernel
theorem d_md_distance_25 : decode b_md_distance 25 = .ok (.getfield 20, 3) := by decide +kernel
theorem d_md_distance_28 : decode b_md_distance 28 = .ok (.iload_n 1, 1) := by decide +kernel
theorem d_md_distance_29 : decode b_md_distance 29 = .ok (.iaload, 1) := by decide +kernel
theorem d_md_distance_30 : decode b_md_distance 30 = .ok (.iaload, 1) := by decide +kernel
theorem d_md_distance_31 : decode b_md_distance 31 = .ok (.ireturn, 1) := by decide +kernel
theorem d_md_ways_0 : decode b_md_ways 0 = .ok (.aload_n 0, 1) := by decide +kernel
theorem d_md_ways_1 : decode b_md_ways 1 = .ok (.iload_n 1, 1) := by decide +kernel
theorem d_md_ways_2 : decode b_md_ways 2 = .ok (.invokevirtual 111, 3) := by decide +kernel
theorem d_md_ways_5 : decode b_md_ways 5 = .ok (.ifCond .eq 13, 3) := by decide +kernel
theorem d_md_ways_8 : decode b_md_ways 8 = .ok (.iload_n 2, 1) := by decide +kernel
theorem d_md_ways_9 : decode b_md_ways 9 = .ok (.ifCond .lt 9, 3) := by decide +kernel
theorem d_md_ways_12 : decode b_md_ways 12 = .ok (.iload_n 2, 1) := by decide +kernel
theorem d_md_ways_13 : decode b_md_ways 13 = .ok (.bipush 20, 2) := by decide +kernel
theorem d_md_ways_15 : decode b_md_ways 15 = .ok (.if_icmp .le 7, 3) := by decide +kernel
theorem d_md_ways_18 : decode b_md_ways 18 = .ok (.ldc2_w 118, 3) := by decide +kernel
theorem d_md_ways_21 : decode b_md_ways 21 = .ok (.lreturn, 1) := by decide +kernel
theorem d_md_ways_22 : decode b_md_ways 22 = .ok (.iconst 0, 1) := by decide +kernel
theorem d_md_ways_23 : decode b_md_ways 23 = .ok (.istore_n 3, 1) := by decide +kernel
theorem d_md_ways_24 : decode b_md_ways 24 = .ok (.iload_n 3, 1) := by decide +kernel
theorem d_md_ways_25 : decode b_md_ways 25 = .ok (.bipush 25, 2) := by decide +kernel
theorem d_md_ways_27 : decode b_md_ways 27 = .ok (.if_icmp .ge 30, 3) := by decide +kernel
theorem d_md_ways_30 : decode b_md_ways 30 = .ok (.aload_n 0, 1) := by decide +kernel
theorem d_md_ways_31 : decode b_md_ways 31 = .ok (.getfield 79, 3) := by decide +kernel
theorem d_md_ways_34 : decode b_md_ways 34 = .ok (.iload_n 3, 1) := by decide +kernel
theorem d_md_ways_35 : decode b_md_ways 35 = .ok (.iload_n 3, 1) := by decide +kernel
theorem d_md_ways_36 : decode b_md_ways 36 = .ok (.aload_n 0, 1) := by decide +kernel
theorem d_md_ways_37 : decode b_md_ways 37 = .ok (.getfield 20, 3) := by decide +kernel
theorem d_md_ways_40 : decode b_md_ways 40 = .ok (.iload_n 1, 1) := by decide +kernel
theorem d_md_ways_41 : decode b_md_ways 41 = .ok (.iaload, 1) := by decide +kernel
theorem d_md_ways_42 : decode b_md_ways 42 = .ok (.if_icmp .ne 7, 3) := by decide +kernel
theorem d_md_ways_45 : decode b_md_ways 45 = .ok (.lconst 1, 1) := by decide +kernel
theorem d_md_ways_46 : decode b_md_ways 46 = .ok (.goto 4, 3) := by decide +kernel
theorem d_md_ways_49 : decode b_md_ways 49 = .ok (.lconst 0, 1) := by decide +kernel
theorem d_md_ways_50 : decode b_md_ways 50 = .ok (.lastore, 1) := by decide +kernel
theorem d_md_ways_51 : decode b_md_ways 51 = .ok (.iinc 3 1, 3) := by decide +kernel
theorem d_md_ways_54 : decode b_md_ways 54 = .ok (.goto (-30), 3) := by decide +kernel
theorem d_md_ways_57 : decode b_md_ways 57 = .ok (.iconst 0, 1) := by decide +kernel
theorem d_md_ways_58 : decode b_md_ways 58 = .ok (.istore_n 3, 1) := by decide +kernel
theorem d_md_ways_59 : decode b_md_ways 59 = .ok (.iload_n 3, 1) := by decide +kernel
theorem d_md_ways_60 : decode b_md_ways 60 = .ok (.iload_n 2, 1) := by decide +kernel
theorem d_md_ways_61 : decode b_md_ways 61 = .ok (.if_icmp .ge 187, 3) := by decide +kernel
theorem d_md_ways_64 : decode b_md_ways 64 = .ok (.iload_n 3, 1) := by decide +kernel
theorem d_md_ways_65 : decode b_md_ways 65 = .ok (.iload_n 2, 1) := by decide +kernel
theorem d_md_ways_66 : decode b_md_ways 66 = .ok (.iconst 1, 1) := by decide +kernel
theorem d_md_ways_67 : decode b_md_ways 67 = .ok (.isub, 1) := by decide +kernel
theorem d_md_ways_68 : decode b_md_ways 68 = .ok (.if_icmp .ne 15, 3) := by decide +kernel
theorem d_md_ways_71 : decode b_md_ways 71 = .ok (.aload_n 0, 1) := by decide +kernel
theorem d_md_ways_72 : decode b_md_ways 72 = .ok (.getfield 79, 3) := by decide +kernel
theorem d_md_ways_75 : decode b_md_ways 75 = .ok (.aload_n 0, 1) := by decide +kernel
theorem d_md_ways_76 : decode b_md_ways 76 = .ok (.getfield 24, 3) := by decide +kernel
theorem d_md_ways_79 : decode b_md_ways 79 = .ok (.iload_n 1, 1) := by decide +kernel
theorem d_md_ways_80 : decode b_md_ways 80 = .ok (.iaload, 1) := by decide +kernel
theorem d_md_ways_81 : decode b_md_ways 81 = .ok (.lconst 0, 1) := by decide +kernel
theorem d_md_ways_82 : decode b_md_ways 82 = .ok (.lastore, 1) := by decide +kernel
theorem d_md_ways_83 : decode b_md_ways 83 = .ok (.iconst 0, 1) := by decide +kernel
theorem d_md_ways_84 : decode b_md_ways 84 = .ok (.istore 4, 2) := by decide +kernel
theorem d_md_ways_86 : decode b_md_ways 86 = .ok (.iload 4, 2) := by decide +kernel
theorem d_md_ways_88 : decode b_md_ways 88 = .ok (.aload_n 0, 1) := by decide +kernel
theorem d_md_ways_89 : decode b_md_ways 89 = .ok (.invokevirtual 93, 3) := by decide +kernel
theorem d_md_ways_92 : decode b_md_ways 92 = .ok (.if_icmp .ge 118, 3) := by decide +kernel
theorem d_md_ways_95 : decode b_md_ways 95 = .ok (.aload_n 0, 1) := by decide +kernel
theorem d_md_ways_96 : decode b_md_ways 96 = .ok (.getfield 83, 3) := by decide +kernel
theorem d_md_ways_99 : decode b_md_ways 99 = .ok (.iload 4, 2) := by decide +kernel
theorem d_md_ways_101 : decode b_md_ways 101 = .ok (.aload_n 0, 1) := by decide +kernel
theorem d_md_ways_102 : decode b_md_ways 102 = .ok (.getfield 16, 3) := by decide +kernel
theorem d_md_ways_105 : decode b_md_ways 105 = .ok (.iload 4, 2) := by decide +kernel
theorem d_md_ways_107 : decode b_md_ways 107 = .ok (.baload, 1) := by decide +kernel
theorem d_md_ways_108 : decode b_md_ways 108 = .ok (.ifCond .eq 7, 3) := by decide +kernel
theorem d_md_ways_111 : decode b_md_ways 111 = .ok (.lconst 0, 1) := by decide +kernel
theorem d_md_ways_112 : decode b_md_ways 112 = .ok (.goto 10, 3) := by decide +kernel
theorem d_md_ways_115 : decode b_md_ways 115 = .ok (.aload_n 0, 1) := by decide +kernel
theorem d_md_ways_116 : decode b_md_ways 116 = .ok (.getfield 79, 3) := by decide +kernel
theorem d_md_ways_119 : decode b_md_ways 119 = .ok (.iload 4, 2) := by decide +kernel
theorem d_md_ways_121 : decode b_md_ways 121 = .ok (.laload, 1) := by decide +kernel
theorem d_md_ways_122 : decode b_md_ways 122 = .ok (.lastore, 1) := by decide +kernel
theorem d_md_ways_123 : decode b_md_ways 123 = .ok (.iconst 0, 1) := by decide +kernel
theorem d_md_ways_124 : decode b_md_ways 124 = .ok (.istore 5, 2) := by decide +kernel
theorem d_md_ways_126 : decode b_md_ways 126 = .ok (.iload 5, 2) := by decide +kernel
theorem d_md_ways_128 : decode b_md_ways 128 = .ok (.aload_n 0, 1) := by decide +kernel
theorem d_md_ways_129 : decode b_md_ways 129 = .ok (.invokevirtual 93, 3) := by decide +kernel
theorem d_md_ways_132 : decode b_md_ways 132 = .ok (.if_icmp .ge 72, 3) := by decide +kernel
theorem d_md_ways_135 : decode b_md_ways 135 = .ok (.aload_n 0, 1) := by decide +kernel
theorem d_md_ways_136 : decode b_md_ways 136 = .ok (.getfield 16, 3) := by decide +kernel
theorem d_md_ways_139 : decode b_md_ways 139 = .ok (.iload 4, 2) := by decide +kernel
theorem d_md_ways_141 : decode b_md_ways 141 = .ok (.baload, 1) := by decide +kernel
theorem d_md_ways_142 : decode b_md_ways 142 = .ok (.ifCond .ne 62, 3) := by decide +kernel
theorem d_md_ways_145 : decode b_md_ways 145 = .ok (.aload_n 0, 1) := by decide +kernel
theorem d_md_ways_146 : decode b_md_ways 146 = .ok (.getfield 83, 3) := by decide +kernel
theorem d_md_ways_149 : decode b_md_ways 149 = .ok (.iload 4, 2) := by decide +kernel
theorem d_md_ways_151 : decode b_md_ways 151 = .ok (.aload_n 0, 1) := by decide +kernel
theorem d_md_ways_152 : decode b_md_ways 152 = .ok (.iload 5, 2) := by decide +kernel
theorem d_md_ways_154 : decode b_md_ways 154 = .ok (.iload 4, 2) := by decide +kernel
theorem d_md_ways_156 : decode b_md_ways 156 = .ok (.invokevirtual 107, 3) := by decide +kernel
theorem d_md_ways_159 : decode b_md_ways 159 = .ok (.ifCond .eq 31, 3) := by decide +kernel
theorem d_md_ways_162 : decode b_md_ways 162 = .ok (.aload_n 0, 1) := by decide +kernel
theorem d_md_ways_163 : decode b_md_ways 163 = .ok (.getfield 16, 3) := by decide +kernel
theorem d_md_ways_166 : decode b_md_ways 166 = .ok (.iload 5, 2) := by decide +kernel
theorem d_md_ways_168 : decode b_md_ways 168 = .ok (.baload, 1) := by decide +kernel
theorem d_md_ways_169 : decode b_md_ways 169 = .ok (.ifCond .ne 21, 3) := by decide +kernel
theorem d_md_ways_172 : decode b_md_ways 172 = .ok (.aload_n 0, 1) := by decide +kernel
theorem d_md_ways_173 : decode b_md_ways 173 = .ok (.getfield 83, 3) := by decide +kernel
theorem d_md_ways_176 : decode b_md_ways 176 = .ok (.iload 4, 2) := by decide +kernel
theorem d_md_ways_178 : decode b_md_ways 178 = .ok (.laload, 1) := by decide +kernel
theorem d_md_ways_179 : decode b_md_ways 179 = .ok (.aload_n 0, 1) := by decide +kernel
theorem d_md_ways_180 : decode b_md_ways 180 = .ok (.getfield 79, 3) := by decide +kernel
theorem d_md_ways_183 : decode b_md_ways 183 = .ok (.iload 5, 2) := by decide +kernel
theorem d_md_ways_185 : decode b_md_ways 185 = .ok (.laload, 1) := by decide +kernel
theorem d_md_ways_186 : decode b_md_ways 186 = .ok (.ladd, 1) := by decide +kernel
theorem d_md_ways_187 : decode b_md_ways 187 = .ok (.goto 10, 3) := by decide +kernel
theorem d_md_ways_190 : decode b_md_ways 190 = .ok (.aload_n 0, 1) := by decide +kernel
theorem d_md_ways_191 : decode b_md_ways 191 = .ok (.getfield 83, 3) := by decide +kernel
theorem d_md_ways_194 : decode b_md_ways 194 = .ok (.iload 4, 2) := by decide +kernel
theorem d_md_ways_196 : decode b_md_ways 196 = .ok (.laload, 1) := by decide +kernel
theorem d_md_ways_197 : decode b_md_ways 197 = .ok (.lastore, 1) := by decide +kernel
theorem d_md_ways_198 : decode b_md_ways 198 = .ok (.iinc 5 1, 3) := by decide +kernel
theorem d_md_ways_201 : decode b_md_ways 201 = .ok (.goto (-75), 3) := by decide +kernel
theorem d_md_ways_204 : decode b_md_ways 204 = .ok (.iinc 4 1, 3) := by decide +kernel
theorem d_md_ways_207 : decode b_md_ways 207 = .ok (.goto (-121), 3) := by decide +kernel
theorem d_md_ways_210 : decode b_md_ways 210 = .ok (.iconst 0, 1) := by decide +kernel
theorem d_md_ways_211 : decode b_md_ways 211 = .ok (.istore 4, 2) := by decide +kernel
theorem d_md_ways_213 : decode b_md_ways 213 = .ok (.iload 4, 2) := by decide +kernel
theorem d_md_ways_215 : decode b_md_ways 215 = .ok (.aload_n 0, 1) := by decide +kernel
theorem d_md_ways_216 : decode b_md_ways 216 = .ok (.invokevirtual 93, 3) := by decide +kernel
theorem d_md_ways_219 : decode b_md_ways 219 = .ok (.if_icmp .ge 23, 3) := by decide +kernel
theorem d_md_ways_222 : decode b_md_ways 222 = .ok (.aload_n 0, 1) := by decide +kernel
theorem d_md_ways_223 : decode b_md_ways 223 = .ok (.getfield 79, 3) := by decide +kernel
theorem d_md_ways_226 : decode b_md_ways 226 = .ok (.iload 4, 2) := by decide +kernel
theorem d_md_ways_228 : decode b_md_ways 228 = .ok (.aload_n 0, 1) := by decide +kernel
theorem d_md_ways_229 : decode b_md_ways 229 = .ok (.getfield 83, 3) := by decide +kernel
theorem d_md_ways_232 : decode b_md_ways 232 = .ok (.iload 4, 2) := by decide +kernel
theorem d_md_ways_234 : decode b_md_ways 234 = .ok (.laload, 1) := by decide +kernel
theorem d_md_ways_235 : decode b_md_ways 235 = .ok (.lastore, 1) := by decide +kernel
theorem d_md_ways_236 : decode b_md_ways 236 = .ok (.iinc 4 1, 3) := by decide +kernel
theorem d_md_ways_239 : decode b_md_ways 239 = .ok (.goto (-26), 3) := by decide +kernel
theorem d_md_ways_242 : decode b_md_ways 242 = .ok (.iinc 3 1, 3) := by decide +kernel
theorem d_md_ways_245 : decode b_md_ways 245 = .ok (.goto (-186), 3) := by decide +kernel
theorem d_md_ways_248 : decode b_md_ways 248 = .ok (.aload_n 0, 1) := by decide +kernel
theorem d_md_ways_249 : decode b_md_ways 249 = .ok (.getfield 79, 3) := by decide +kernel
theorem d_md_ways_252 : decode b_md_ways 252 = .ok (.aload_n 0, 1) := by decide +kernel
theorem d_md_ways_253 : decode b_md_ways 253 = .ok (.getfield 24, 3) := by decide +kernel
theorem d_md_ways_256 : decode b_md_ways 256 = .ok (.iload_n 1, 1) := by decide +kernel
theorem d_md_ways_257 : decode b_md_ways 257 = .ok (.iaload, 1) := by decide +kernel
theorem d_md_ways_258 : decode b_md_ways 258 = .ok (.laload, 1) := by decide +kernel
theorem d_md_ways_259 : decode b_md_ways 259 = .ok (.lreturn, 1) := by decide +kernel
theorem d_md_solve_0 : decode b_md_solve 0 = .ok (.aload_n 0, 1) := by decide +kernel
theorem d_md_solve_1 : decode b_md_solve 1 = .ok (.iconst 0, 1) := by decide +kernel
theorem d_md_solve_2 : decode b_md_solve 2 = .ok (.putfield 89, 3) := by decide +kernel
theorem d_md_solve_5 : decode b_md_solve 5 = .ok (.iload_n 1, 1) := by decide +kernel
theorem d_md_solve_6 : decode b_md_solve 6 = .ok (.ifCond .lt 9, 3) := by decide +kernel
theorem d_md_solve_9 : decode b_md_solve 9 = .ok (.iload_n 1, 1) := by decide +kernel
theorem d_md_solve_10 : decode b_md_solve 10 = .ok (.bipush 6, 2) := by decide +kernel
theorem d_md_solve_12 : decode b_md_solve 12 = .ok (.if_icmp .le 5, 3) := by decide +kernel
theorem d_md_solve_15 : decode b_md_solve 15 = .ok (.iconst (-1), 1) := by decide +kernel
theorem d_md_solve_16 : decode b_md_solve 16 = .ok (.ireturn, 1) := by decide +kernel
theorem d_md_solve_17 : decode b_md_solve 17 = .ok (.iload_n 1, 1) := by decide +kernel
theorem d_md_solve_18 : decode b_md_solve 18 = .ok (.istore_n 2, 1) := by decide +kernel
theorem d_md_solve_19 : decode b_md_solve 19 = .ok (.iconst 0, 1) := by decide +kernel
theorem d_md_solve_20 : decode b_md_solve 20 = .ok (.istore_n 3, 1) := by decide +kernel
theorem d_md_solve_21 : decode b_md_solve 21 = .ok (.iload_n 3, 1) := by decide +kernel
theorem d_md_solve_22 : decode b_md_solve 22 = .ok (.aload_n 0, 1) := by decide +kernel
theorem d_md_solve_23 : decode b_md_solve 23 = .ok (.getfield 86, 3) := by decide +kernel
theorem d_md_solve_26 : decode b_md_solve 26 = .ok (.if_icmp .ge 29, 3) := by decide +kernel
theorem d_md_solve_29 : decode b_md_solve 29 = .ok (.aload_n 0, 1) := by decide +kernel
theorem d_md_solve_30 : decode b_md_solve 30 = .ok (.iload_n 3, 1) := by decide +kernel
theorem d_md_solve_31 : decode b_md_solve 31 = .ok (.invokevirtual 164, 3) := by decide +kernel
theorem d_md_solve_34 : decode b_md_solve 34 = .ok (.istore 4, 2) := by decide +kernel
theorem d_md_solve_36 : decode b_md_solve 36 = .ok (.iload 4, 2) := by decide +kernel
theorem d_md_solve_38 : decode b_md_solve 38 = .ok (.iconst (-1), 1) := by decide +kernel
theorem d_md_solve_39 : decode b_md_solve 39 = .ok (.if_icmp .ne 5, 3) := by decide +kernel
theorem d_md_solve_42 : decode b_md_solve 42 = .ok (.iconst (-1), 1) := by decide +kernel
theorem d_md_solve_43 : decode b_md_solve 43 = .ok (.ireturn, 1) := by decide +kernel
theorem d_md_solve_44 : decode b_md_solve 44 = .ok (.iload_n 2, 1) := by decide +kernel
theorem d_md_solve_45 : decode b_md_solve 45 = .ok (.iload 4, 2) := by decide +kernel
theorem d_md_solve_47 : decode b_md_solve 47 = .ok (.iadd, 1) := by decide +kernel
theorem d_md_solve_48 : decode b_md_solve 48 = .ok (.istore_n 2, 1) := by decide +kernel
theorem d_md_solve_49 : decode b_md_solve 49 = .ok (.iinc 3 1, 3) := by decide +kernel
theorem d_md_solve_52 : decode b_md_solve 52 = .ok (.goto (-31), 3) := by decide +kernel
theorem d_md_solve_55 : decode b_md_solve 55 = .ok (.aload_n 0, 1) := by decide +kernel
theorem d_md_solve_56 : decode b_md_solve 56 = .ok (.getfield 86, 3) := by decide +kernel
theorem d_md_solve_59 : decode b_md_solve 59 = .ok (.ifCond .ne 15, 3) := by decide +kernel
theorem d_md_solve_62 : decode b_md_solve 62 = .ok (.aload_n 0, 1) := by decide +kernel
theorem d_md_solve_63 : decode b_md_solve 63 = .ok (.iconst 1, 1) := by decide +kernel
theorem d_md_solve_64 : decode b_md_solve 64 = .ok (.putfield 89, 3) := by decide +kernel
theorem d_md_solve_67 : decode b_md_solve 67 = .ok (.aload_n 0, 1) := by decide +kernel
theorem d_md_solve_68 : decode b_md_solve 68 = .ok (.iconst 0, 1) := by decide +kernel
theorem d_md_solve_69 : decode b_md_solve 69 = .ok (.putfield 167, 3) := by decide +kernel
theorem d_md_solve_72 : decode b_md_solve 72 = .ok (.iconst 0, 1) := by decide +kernel
theorem d_md_solve_73 : decode b_md_solve 73 = .ok (.ireturn, 1) := by decide +kernel
theorem d_md_solve_74 : decode b_md_solve 74 = .ok (.aload_n 0, 1) := by decide +kernel
theorem d_md_solve_75 : decode b_md_solve 75 = .ok (.invokevirtual 170, 3) := by decide +kernel
theorem d_md_solve_78 : decode b_md_solve 78 = .ok (.aload_n 0, 1) := by decide +kernel
theorem d_md_solve_79 : decode b_md_solve 79 = .ok (.iload_n 2, 1) := by decide +kernel
theorem d_md_solve_80 : decode b_md_solve 80 = .ok (.invokevirtual 173, 3) := by decide +kernel
theorem d_md_solve_83 : decode b_md_solve 83 = .ok (.iconst 0, 1) := by decide +kernel
theorem d_md_solve_84 : decode b_md_solve 84 = .ok (.istore_n 3, 1) := by decide +kernel
theorem d_md_solve_85 : decode b_md_solve 85 = .ok (.iload_n 3, 1) := by decide +kernel
theorem d_md_solve_86 : decode b_md_solve 86 = .ok (.aload_n 0, 1) := by decide +kernel
theorem d_md_solve_87 : decode b_md_solve 87 = .ok (.getfield 86, 3) := by decide +kernel
theorem d_md_solve_90 : decode b_md_solve 90 = .ok (.if_icmp .ge 26, 3) := by decide +kernel
theorem d_md_solve_93 : decode b_md_solve 93 = .ok (.aload_n 0, 1) := by decide +kernel
theorem d_md_solve_94 : decode b_md_solve 94 = .ok (.getfield 55, 3) := by decide +kernel
theorem d_md_solve_97 : decode b_md_solve 97 = .ok (.iload_n 3, 1) := by decide +kernel
theorem d_md_solve_98 : decode b_md_solve 98 = .ok (.aload_n 0, 1) := by decide +kernel
theorem d_md_solve_99 : decode b_md_solve 99 = .ok (.getfield 36, 3) := by decide +kernel
theorem d_md_solve_102 : decode b_md_solve 102 = .ok (.aload_n 0, 1) := by decide +kernel
theorem d_md_solve_103 : decode b_md_solve 103 = .ok (.getfield 20, 3) := by decide +kernel
theorem d_md_solve_106 : decode b_md_solve 106 = .ok (.iload_n 3, 1) := by decide +kernel
theorem d_md_solve_107 : decode b_md_solve 107 = .ok (.iaload, 1) := by decide +kernel
theorem d_md_solve_108 : decode b_md_solve 108 = .ok (.iaload, 1) := by decide +kernel
theorem d_md_solve_109 : decode b_md_solve 109 = .ok (.iastore, 1) := by decide +kernel
theorem d_md_solve_110 : decode b_md_solve 110 = .ok (.iinc 3 1, 3) := by decide +kernel
theorem d_md_solve_113 : decode b_md_solve 113 = .ok (.goto (-28), 3) := by decide +kernel
theorem d_md_solve_116 : decode b_md_solve 116 = .ok (.aload_n 0, 1) := by decide +kernel
theorem d_md_solve_117 : decode b_md_solve 117 = .ok (.getfield 46, 3) := by decide +kernel
theorem d_md_solve_120 : decode b_md_solve 120 = .ok (.aload_n 0, 1) := by decide +kernel
theorem d_md_solve_121 : decode b_md_solve 121 = .ok (.aload_n 0, 1) := by decide +kernel
theorem d_md_solve_122 : decode b_md_solve 122 = .ok (.getfield 55, 3) := by decide +kernel
theorem d_md_solve_125 : decode b_md_solve 125 = .ok (.invokevirtual 150, 3) := by decide +kernel
theorem d_md_solve_128 : decode b_md_solve 128 = .ok (.aload_n 0, 1) := by decide +kernel
theorem d_md_solve_129 : decode b_md_solve 129 = .ok (.getfield 86, 3) := by decide +kernel
theorem d_md_solve_132 : decode b_md_solve 132 = .ok (.ishl, 1) := by decide +kernel
theorem d_md_solve_133 : decode b_md_solve 133 = .ok (.iaload, 1) := by decide +kernel
theorem d_md_solve_134 : decode b_md_solve 134 = .ok (.istore_n 3, 1) := by decide +kernel
theorem d_md_solve_135 : decode b_md_solve 135 = .ok (.iload_n 3, 1) := by decide +kernel
theorem d_md_solve_136 : decode b_md_solve 136 = .ok (.iload_n 2, 1) := by decide +kernel
theorem d_md_solve_137 : decode b_md_solve 137 = .ok (.if_icmp .le 5, 3) := by decide +kernel
theorem d_md_solve_140 : decode b_md_solve 140 = .ok (.iconst (-1), 1) := by decide +kernel
theorem d_md_solve_141 : decode b_md_solve 141 = .ok (.ireturn, 1) := by decide +kernel
theorem d_md_solve_142 : decode b_md_solve 142 = .ok (.aload_n 0, 1) := by decide +kernel
theorem d_md_solve_143 : decode b_md_solve 143 = .ok (.iload_n 3, 1) := by decide +kernel
theorem d_md_solve_144 : decode b_md_solve 144 = .ok (.invokevirtual 176, 3) := by decide +kernel
theorem d_md_solve_147 : decode b_md_solve 147 = .ok (.aload_n 0, 1) := by decide +kernel
theorem d_md_solve_148 : decode b_md_solve 148 = .ok (.iconst 1, 1) := by decide +kernel
theorem d_md_solve_149 : decode b_md_solve 149 = .ok (.putfield 89, 3) := by decide +kernel
theorem d_md_solve_152 : decode b_md_solve 152 = .ok (.iload_n 3, 1) := by decide +kernel
theorem d_md_solve_153 : decode b_md_solve 153 = .ok (.ireturn, 1) := by decide +kernel
theorem d_md_cost_0 : decode b_md_cost 0 = .ok (.aload_n 0, 1) := by decide +kernel
theorem d_md_cost_1 : decode b_md_cost 1 = .ok (.getfield 89, 3) := by decide +kernel
theorem d_md_cost_4 : decode b_md_cost 4 = .ok (.ifCond .eq 11, 3) := by decide +kernel
theorem d_md_cost_7 : decode b_md_cost 7 = .ok (.aload_n 0, 1) := by decide +kernel
theorem d_md_cost_8 : decode b_md_cost 8 = .ok (.iload_n 1, 1) := by decide +kernel
theorem d_md_cost_9 : decode b_md_cost 9 = .ok (.invokevirtual 111, 3) := by decide +kernel
theorem d_md_cost_12 : decode b_md_cost 12 = .ok (.ifCond .ne 7, 3) := by decide +kernel
theorem d_md_cost_15 : decode b_md_cost 15 = .ok (.iconst (-1), 1) := by decide +kernel
theorem d_md_cost_16 : decode b_md_cost 16 = .ok (.goto 9, 3) := by decide +kernel
theorem d_md_cost_19 : decode b_md_cost 19 = .ok (.aload_n 0, 1) := by decide +kernel
theorem d_md_cost_20 : decode b_md_cost 20 = .ok (.getfield 67, 3) := by decide +kernel
theorem d_md_cost_23 : decode b_md_cost 23 = .ok (.iload_n 1, 1) := by decide +kernel
theorem d_md_cost_24 : decode b_md_cost 24 = .ok (.iaload, 1) := by decide +kernel
theorem d_md_cost_25 : decode b_md_cost 25 = .ok (.ireturn, 1) := by decide +kernel
theorem d_md_at_0 : decode b_md_at 0 = .ok (.aload_n 0, 1) := by decide +kernel
theorem d_md_at_1 : decode b_md_at 1 = .ok (.getfield 89, 3) := by decide +kernel
theorem d_md_at_4 : decode b_md_at 4 = .ok (.ifCond .eq 15, 3) := by decide +kernel
theorem d_md_at_7 : decode b_md_at 7 = .ok (.aload_n 0, 1) := by decide +kernel
theorem d_md_at_8 : decode b_md_at 8 = .ok (.iload_n 1, 1) := by decide +kernel
theorem d_md_at_9 : decode b_md_at 9 = .ok (.invokevirtual 111, 3) := by decide +kernel
theorem d_md_at_12 : decode b_md_at 12 = .ok (.ifCond .eq 7, 3) := by decide +kernel
theorem d_md_at_15 : decode b_md_at 15 = .ok (.iload_n 2, 1) := by decide +kernel
theorem d_md_at_16 : decode b_md_at 16 = .ok (.ifCond .ge 5, 3) := by decide +kernel
theorem d_md_at_19 : decode b_md_at 19 = .ok (.iconst (-1), 1) := by decide +kernel
theorem d_md_at_20 : decode b_md_at 20 = .ok (.ireturn, 1) := by decide +kernel
theorem d_md_at_21 : decode b_md_at 21 = .ok (.aload_n 0, 1) := by decide +kernel
theorem d_md_at_22 : decode b_md_at 22 = .ok (.getfield 64, 3) := by decide +kernel
theorem d_md_at_25 : decode b_md_at 25 = .ok (.bipush 6, 2) := by decide +kernel
theorem d_md_at_27 : decode b_md_at 27 = .ok (.iload_n 2, 1) := by decide +kernel
theorem d_md_at_28 : decode b_md_at 28 = .ok (.aload_n 0, 1) := by decide +kernel
theorem d_md_at_29 : decode b_md_at 29 = .ok (.getfield 167, 3) := by decide +kernel
theorem d_md_at_32 : decode b_md_at 32 = .ok (.if_icmp .ge 7, 3) := by decide +kernel
theorem d_md_at_35 : decode b_md_at 35 = .ok (.iload_n 2, 1) := by decide +kernel
theorem d_md_at_36 : decode b_md_at 36 = .ok (.goto 7, 3) := by decide +kernel
theorem d_md_at_39 : decode b_md_at 39 = .ok (.aload_n 0, 1) := by decide +kernel
theorem d_md_at_40 : decode b_md_at 40 = .ok (.getfield 167, 3) := by decide +kernel
theorem d_md_at_43 : decode b_md_at 43 = .ok (.imul, 1) := by decide +kernel
theorem d_md_at_44 : decode b_md_at 44 = .ok (.iload_n 1, 1) := by decide +kernel
theorem d_md_at_45 : decode b_md_at 45 = .ok (.iadd, 1) := by decide +kernel
theorem d_md_at_46 : decode b_md_at 46 = .ok (.iaload, 1) := by decide +kernel
theorem d_md_at_47 : decode b_md_at 47 = .ok (.ireturn, 1) := by decide +kernel
theorem d_md_lay_0 : decode b_md_lay 0 = .ok (.iload_n 1, 1) := by decide +kernel
theorem d_md_lay_1 : decode b_md_lay 1 = .ok (.ifCond .lt 19, 3) := by decide +kernel
theorem d_md_lay_4 : decode b_md_lay 4 = .ok (.iload_n 1, 1) := by decide +kernel
theorem d_md_lay_5 : decode b_md_lay 5 = .ok (.bipush 6, 2) := by decide +kernel
theorem d_md_lay_7 : decode b_md_lay 7 = .ok (.if_icmp .ge 13, 3) := by decide +kernel
theorem d_md_lay_10 : decode b_md_lay 10 = .ok (.iload_n 2, 1) := by decide +kernel
theorem d_md_lay_11 : decode b_md_lay 11 = .ok (.ifCond .lt 9, 3) := by decide +kernel
theorem d_md_lay_14 : decode b_md_lay 14 = .ok (.iload_n 2, 1) := by decide +kernel
theorem d_md_lay_15 : decode b_md_lay 15 = .ok (.bipush 30, 2) := by decide +kernel
theorem d_md_lay_17 : decode b_md_lay 17 = .ok (.if_icmp .lt 5, 3) := by decide +kernel
theorem d_md_lay_20 : decode b_md_lay 20 = .ok (.iconst (-1), 1) := by decide +kernel
theorem d_md_lay_21 : decode b_md_lay 21 = .ok (.ireturn, 1) := by decide +kernel
theorem d_md_lay_22 : decode b_md_lay 22 = .ok (.aload_n 0, 1) := by decide +kernel
theorem d_md_lay_23 : decode b_md_lay 23 = .ok (.getfield 30, 3) := by decide +kernel
theorem d_md_lay_26 : decode b_md_lay 26 = .ok (.bipush 30, 2) := by decide +kernel
theorem d_md_lay_28 : decode b_md_lay 28 = .ok (.iload_n 1, 1) := by decide +kernel
theorem d_md_lay_29 : decode b_md_lay 29 = .ok (.imul, 1) := by decide +kernel
theorem d_md_lay_30 : decode b_md_lay 30 = .ok (.iload_n 2, 1) := by decide +kernel
theorem d_md_lay_31 : decode b_md_lay 31 = .ok (.iadd, 1) := by decide +kernel
theorem d_md_lay_32 : decode b_md_lay 32 = .ok (.baload, 1) := by decide +kernel
theorem d_md_lay_33 : decode b_md_lay 33 = .ok (.ifCond .eq 17, 3) := by decide +kernel
theorem d_md_lay_36 : decode b_md_lay 36 = .ok (.aload_n 0, 1) := by decide +kernel
theorem d_md_lay_37 : decode b_md_lay 37 = .ok (.getfield 27, 3) := by decide +kernel
theorem d_md_lay_40 : decode b_md_lay 40 = .ok (.bipush 30, 2) := by decide +kernel
theorem d_md_lay_42 : decode b_md_lay 42 = .ok (.iload_n 1, 1) := by decide +kernel
theorem d_md_lay_43 : decode b_md_lay 43 = .ok (.imul, 1) := by decide +kernel
theorem d_md_lay_44 : decode b_md_lay 44 = .ok (.iload_n 2, 1) := by decide +kernel
theorem d_md_lay_45 : decode b_md_lay 45 = .ok (.iadd, 1) := by decide +kernel
theorem d_md_lay_46 : decode b_md_lay 46 = .ok (.iaload, 1) := by decide +kernel
theorem d_md_lay_47 : decode b_md_lay 47 = .ok (.goto 4, 3) := by decide +kernel
theorem d_md_lay_50 : decode b_md_lay 50 = .ok (.iconst (-1), 1) := by decide +kernel
theorem d_md_lay_51 : decode b_md_lay 51 = .ok (.istore 4, 2) := by decide +kernel
theorem d_md_lay_53 : decode b_md_lay 53 = .ok (.aload_n 0, 1) := by decide +kernel
theorem d_md_lay_54 : decode b_md_lay 54 = .ok (.getfield 27, 3) := by decide +kernel
theorem d_md_lay_57 : decode b_md_lay 57 = .ok (.bipush 30, 2) := by decide +kernel
theorem d_md_lay_59 : decode b_md_lay 59 = .ok (.iload_n 1, 1) := by decide +kernel
theorem d_md_lay_60 : decode b_md_lay 60 = .ok (.imul, 1) := by decide +kernel
theorem d_md_lay_61 : decode b_md_lay 61 = .ok (.iload_n 2, 1) := by decide +kernel
theorem d_md_lay_62 : decode b_md_lay 62 = .ok (.iadd, 1) := by decide +kernel
theorem d_md_lay_63 : decode b_md_lay 63 = .ok (.iload_n 3, 1) := by decide +kernel
theorem d_md_lay_64 : decode b_md_lay 64 = .ok (.iastore, 1) := by decide +kernel
theorem d_md_lay_65 : decode b_md_lay 65 = .ok (.aload_n 0, 1) := by decide +kernel
theorem d_md_lay_66 : decode b_md_lay 66 = .ok (.getfield 30, 3) := by decide +kernel
theorem d_md_lay_69 : decode b_md_lay 69 = .ok (.bipush 30, 2) := by decide +kernel
theorem d_md_lay_71 : decode b_md_lay 71 = .ok (.iload_n 1, 1) := by decide +kernel
theorem d_md_lay_72 : decode b_md_lay 72 = .ok (.imul, 1) := by decide +kernel
theorem d_md_lay_73 : decode b_md_lay 73 = .ok (.iload_n 2, 1) := by decide +kernel
theorem d_md_lay_74 : decode b_md_lay 74 = .ok (.iadd, 1) := by decide +kernel
theorem d_md_lay_75 : decode b_md_lay 75 = .ok (.iconst 1, 1) := by decide +kernel
theorem d_md_lay_76 : decode b_md_lay 76 = .ok (.bastore, 1) := by decide +kernel
theorem d_md_lay_77 : decode b_md_lay 77 = .ok (.iload 4, 2) := by decide +kernel
theorem d_md_lay_79 : decode b_md_lay 79 = .ok (.ireturn, 1) := by decide +kernel
theorem d_md_look_0 : decode b_md_look 0 = .ok (.aload_n 0, 1) := by decide +kernel
theorem d_md_look_1 : decode b_md_look 1 = .ok (.iconst 0, 1) := by decide +kernel
theorem d_md_look_2 : decode b_md_look 2 = .ok (.putfield 196, 3) := by decide +kernel
theorem d_md_look_5 : decode b_md_look 5 = .ok (.aload_n 0, 1) := by decide +kernel
theorem d_md_look_6 : decode b_md_look 6 = .ok (.iconst (-1), 1) := by decide +kernel
theorem d_md_look_7 : decode b_md_look 7 = .ok (.putfield 199, 3) := by decide +kernel
theorem d_md_look_10 : decode b_md_look 10 = .ok (.aload_n 0, 1) := by decide +kernel
theorem d_md_look_11 : decode b_md_look 11 = .ok (.iconst (-1), 1) := by decide +kernel
theorem d_md_look_12 : decode b_md_look 12 = .ok (.putfield 202, 3) := by decide +kernel
theorem d_md_look_15 : decode b_md_look 15 = .ok (.aload_n 0, 1) := by decide +kernel
theorem d_md_look_16 : decode b_md_look 16 = .ok (.iconst (-1), 1) := by decide +kernel
theorem d_md_look_17 : decode b_md_look 17 = .ok (.putfield 205, 3) := by decide +kernel
theorem d_md_look_20 : decode b_md_look 20 = .ok (.iconst 0, 1) := by decide +kernel
theorem d_md_look_21 : decode b_md_look 21 = .ok (.istore_n 1, 1) := by decide +kernel
theorem d_md_look_22 : decode b_md_look 22 = .ok (.iload_n 1, 1) := by decide +kernel
theorem d_md_look_23 : decode b_md_look 23 = .ok (.bipush 30, 2) := by decide +kernel
theorem d_md_look_25 : decode b_md_look 25 = .ok (.if_icmp .ge 200, 3) := by decide +kernel
theorem d_md_look_28 : decode b_md_look 28 = .ok (.aload_n 0, 1) := by decide +kernel
theorem d_md_look_29 : decode b_md_look 29 = .ok (.getfield 196, 3) := by decide +kernel
theorem d_md_look_32 : decode b_md_look 32 = .ok (.ifCond .ne 193, 3) := by decide +kernel
theorem d_md_look_35 : decode b_md_look 35 = .ok (.iconst 0, 1) := by decide +kernel
theorem d_md_look_36 : decode b_md_look 36 = .ok (.istore_n 2, 1) := by decide +kernel
theorem d_md_look_37 : decode b_md_look 37 = .ok (.iload_n 2, 1) := by decide +kernel
theorem d_md_look_38 : decode b_md_look 38 = .ok (.aload_n 0, 1) := by decide +kernel
theorem d_md_look_39 : decode b_md_look 39 = .ok (.getfield 86, 3) := by decide +kernel
theorem d_md_look_42 : decode b_md_look 42 = .ok (.if_icmp .ge 26, 3) := by decide +kernel
theorem d_md_look_45 : decode b_md_look 45 = .ok (.aload_n 0, 1) := by decide +kernel
theorem d_md_look_46 : decode b_md_look 46 = .ok (.iload_n 2, 1) := by decide +kernel
theorem d_md_look_47 : decode b_md_look 47 = .ok (.iload_n 1, 1) := by decide +kernel
theorem d_md_look_48 : decode b_md_look 48 = .ok (.invokevirtual 208, 3) := by decide +kernel
theorem d_md_look_51 : decode b_md_look 51 = .ok (.ifCond .eq 11, 3) := by decide +kernel
theorem d_md_look_54 : decode b_md_look 54 = .ok (.aload_n 0, 1) := by decide +kernel
theorem d_md_look_55 : decode b_md_look 55 = .ok (.iconst 1, 1) := by decide +kernel
theorem d_md_look_56 : decode b_md_look 56 = .ok (.iload_n 1, 1) := by decide +kernel
theorem d_md_look_57 : decode b_md_look 57 = .ok (.iload_n 2, 1) := by decide +kernel
theorem d_md_look_58 : decode b_md_look 58 = .ok (.iconst (-1), 1) := by decide +kernel
theorem d_md_look_59 : decode b_md_look 59 = .ok (.invokevirtual 211, 3) := by decide +kernel
theorem d_md_look_62 : decode b_md_look 62 = .ok (.iinc 2 1, 3) := by decide +kernel
theorem d_md_look_65 : decode b_md_look 65 = .ok (.goto (-28), 3) := by decide +kernel
theorem d_md_look_68 : decode b_md_look 68 = .ok (.iconst 0, 1) := by decide +kernel
theorem d_md_look_69 : decode b_md_look 69 = .ok (.istore_n 2, 1) := by decide +kernel
theorem d_md_look_70 : decode b_md_look 70 = .ok (.iload_n 2, 1) := by decide +kernel
theorem d_md_look_71 : decode b_md_look 71 = .ok (.aload_n 0, 1) := by decide +kernel
theorem d_md_look_72 : decode b_md_look 72 = .ok (.getfield 86, 3) := by decide +kernel
theorem d_md_look_75 : decode b_md_look 75 = .ok (.if_icmp .ge 57, 3) := by decide +kernel
theorem d_md_look_78 : decode b_md_look 78 = .ok (.aload_n 0, 1) := by decide +kernel
theorem d_md_look_79 : decode b_md_look 79 = .ok (.getfield 196, 3) := by decide +kernel
theorem d_md_look_82 : decode b_md_look 82 = .ok (.ifCond .ne 50, 3) := by decide +kernel
theorem d_md_look_85 : decode b_md_look 85 = .ok (.iload_n 2, 1) := by decide +kernel
theorem d_md_look_86 : decode b_md_look 86 = .ok (.iconst 1, 1) := by decide +kernel
theorem d_md_look_87 : decode b_md_look 87 = .ok (.iadd, 1) := by decide +kernel
theorem d_md_look_88 : decode b_md_look 88 = .ok (.istore_n 3, 1) := by decide +kernel
theorem d_md_look_89 : decode b_md_look 89 = .ok (.iload_n 3, 1) := by decide +kernel
theorem d_md_look_90 : decode b_md_look 90 = .ok (.aload_n 0, 1) := by decide +kernel
theorem d_md_look_91 : decode b_md_look 91 = .ok (.getfield 86, 3) := by decide +kernel
theorem d_md_look_94 : decode b_md_look 94 = .ok (.if_icmp .ge 32, 3) := by decide +kernel
theorem d_md_look_97 : decode b_md_look 97 = .ok (.aload_n 0, 1) := by decide +kernel
theorem d_md_look_98 : decode b_md_look 98 = .ok (.iload_n 2, 1) := by decide +kernel
theorem d_md_look_99 : decode b_md_look 99 = .ok (.iload_n 1, 1) := by decide +kernel
theorem d_md_look_100 : decode b_md_look 100 = .ok (.invokevirtual 193, 3) := by decide +kernel
theorem d_md_look_103 : decode b_md_look 103 = .ok (.aload_n 0, 1) := by decide +kernel
theorem d_md_look_104 : decode b_md_look 104 = .ok (.iload_n 3, 1) := by decide +kernel
theorem d_md_look_105 : decode b_md_look 105 = .ok (.iload_n 1, 1) := by decide +kernel
