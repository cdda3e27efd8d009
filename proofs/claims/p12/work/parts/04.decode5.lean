theorem d_md_look_106 : decode b_md_look 106 = .ok (.invokevirtual 193, 3) := by decide +kernel
theorem d_md_look_109 : decode b_md_look 109 = .ok (.if_icmp .ne 11, 3) := by decide +kernel
theorem d_md_look_112 : decode b_md_look 112 = .ok (.aload_n 0, 1) := by decide +kernel
theorem d_md_look_113 : decode b_md_look 113 = .ok (.iconst 2, 1) := by decide +kernel
theorem d_md_look_114 : decode b_md_look 114 = .ok (.iload_n 1, 1) := by decide +kernel
theorem d_md_look_115 : decode b_md_look 115 = .ok (.iload_n 2, 1) := by decide +kernel
theorem d_md_look_116 : decode b_md_look 116 = .ok (.iload_n 3, 1) := by decide +kernel
theorem d_md_look_117 : decode b_md_look 117 = .ok (.invokevirtual 211, 3) := by decide +kernel
theorem d_md_look_120 : decode b_md_look 120 = .ok (.iinc 3 1, 3) := by decide +kernel
theorem d_md_look_123 : decode b_md_look 123 = .ok (.goto (-34), 3) := by decide +kernel
theorem d_md_look_126 : decode b_md_look 126 = .ok (.iinc 2 1, 3) := by decide +kernel
theorem d_md_look_129 : decode b_md_look 129 = .ok (.goto (-59), 3) := by decide +kernel
theorem d_md_look_132 : decode b_md_look 132 = .ok (.iconst 0, 1) := by decide +kernel
theorem d_md_look_133 : decode b_md_look 133 = .ok (.istore_n 2, 1) := by decide +kernel
theorem d_md_look_134 : decode b_md_look 134 = .ok (.iload_n 2, 1) := by decide +kernel
theorem d_md_look_135 : decode b_md_look 135 = .ok (.aload_n 0, 1) := by decide +kernel
theorem d_md_look_136 : decode b_md_look 136 = .ok (.getfield 86, 3) := by decide +kernel
theorem d_md_look_139 : decode b_md_look 139 = .ok (.if_icmp .ge 80, 3) := by decide +kernel
theorem d_md_look_142 : decode b_md_look 142 = .ok (.aload_n 0, 1) := by decide +kernel
theorem d_md_look_143 : decode b_md_look 143 = .ok (.getfield 196, 3) := by decide +kernel
theorem d_md_look_146 : decode b_md_look 146 = .ok (.ifCond .ne 73, 3) := by decide +kernel
theorem d_md_look_149 : decode b_md_look 149 = .ok (.iload_n 1, 1) := by decide +kernel
theorem d_md_look_150 : decode b_md_look 150 = .ok (.ifCond .le 69, 3) := by decide +kernel
theorem d_md_look_153 : decode b_md_look 153 = .ok (.iload_n 2, 1) := by decide +kernel
theorem d_md_look_154 : decode b_md_look 154 = .ok (.iconst 1, 1) := by decide +kernel
theorem d_md_look_155 : decode b_md_look 155 = .ok (.iadd, 1) := by decide +kernel
theorem d_md_look_156 : decode b_md_look 156 = .ok (.istore_n 3, 1) := by decide +kernel
theorem d_md_look_157 : decode b_md_look 157 = .ok (.iload_n 3, 1) := by decide +kernel
theorem d_md_look_158 : decode b_md_look 158 = .ok (.aload_n 0, 1) := by decide +kernel
theorem d_md_look_159 : decode b_md_look 159 = .ok (.getfield 86, 3) := by decide +kernel
theorem d_md_look_162 : decode b_md_look 162 = .ok (.if_icmp .ge 51, 3) := by decide +kernel
theorem d_md_look_165 : decode b_md_look 165 = .ok (.aload_n 0, 1) := by decide +kernel
theorem d_md_look_166 : decode b_md_look 166 = .ok (.iload_n 2, 1) := by decide +kernel
theorem d_md_look_167 : decode b_md_look 167 = .ok (.iload_n 1, 1) := by decide +kernel
theorem d_md_look_168 : decode b_md_look 168 = .ok (.invokevirtual 193, 3) := by decide +kernel
theorem d_md_look_171 : decode b_md_look 171 = .ok (.aload_n 0, 1) := by decide +kernel
theorem d_md_look_172 : decode b_md_look 172 = .ok (.iload_n 3, 1) := by decide +kernel
theorem d_md_look_173 : decode b_md_look 173 = .ok (.iload_n 1, 1) := by decide +kernel
theorem d_md_look_174 : decode b_md_look 174 = .ok (.iconst 1, 1) := by decide +kernel
theorem d_md_look_175 : decode b_md_look 175 = .ok (.isub, 1) := by decide +kernel
theorem d_md_look_176 : decode b_md_look 176 = .ok (.invokevirtual 193, 3) := by decide +kernel
theorem d_md_look_179 : decode b_md_look 179 = .ok (.if_icmp .ne 28, 3) := by decide +kernel
theorem d_md_look_182 : decode b_md_look 182 = .ok (.aload_n 0, 1) := by decide +kernel
theorem d_md_look_183 : decode b_md_look 183 = .ok (.iload_n 3, 1) := by decide +kernel
theorem d_md_look_184 : decode b_md_look 184 = .ok (.iload_n 1, 1) := by decide +kernel
theorem d_md_look_185 : decode b_md_look 185 = .ok (.invokevirtual 193, 3) := by decide +kernel
theorem d_md_look_188 : decode b_md_look 188 = .ok (.aload_n 0, 1) := by decide +kernel
theorem d_md_look_189 : decode b_md_look 189 = .ok (.iload_n 2, 1) := by decide +kernel
theorem d_md_look_190 : decode b_md_look 190 = .ok (.iload_n 1, 1) := by decide +kernel
theorem d_md_look_191 : decode b_md_look 191 = .ok (.iconst 1, 1) := by decide +kernel
theorem d_md_look_192 : decode b_md_look 192 = .ok (.isub, 1) := by decide +kernel
theorem d_md_look_193 : decode b_md_look 193 = .ok (.invokevirtual 193, 3) := by decide +kernel
theorem d_md_look_196 : decode b_md_look 196 = .ok (.if_icmp .ne 11, 3) := by decide +kernel
theorem d_md_look_199 : decode b_md_look 199 = .ok (.aload_n 0, 1) := by decide +kernel
theorem d_md_look_200 : decode b_md_look 200 = .ok (.iconst 3, 1) := by decide +kernel
theorem d_md_look_201 : decode b_md_look 201 = .ok (.iload_n 1, 1) := by decide +kernel
theorem d_md_look_202 : decode b_md_look 202 = .ok (.iload_n 2, 1) := by decide +kernel
theorem d_md_look_203 : decode b_md_look 203 = .ok (.iload_n 3, 1) := by decide +kernel
theorem d_md_look_204 : decode b_md_look 204 = .ok (.invokevirtual 211, 3) := by decide +kernel
theorem d_md_look_207 : decode b_md_look 207 = .ok (.iinc 3 1, 3) := by decide +kernel
theorem d_md_look_210 : decode b_md_look 210 = .ok (.goto (-53), 3) := by decide +kernel
theorem d_md_look_213 : decode b_md_look 213 = .ok (.iinc 2 1, 3) := by decide +kernel
theorem d_md_look_216 : decode b_md_look 216 = .ok (.goto (-82), 3) := by decide +kernel
theorem d_md_look_219 : decode b_md_look 219 = .ok (.iinc 1 1, 3) := by decide +kernel
theorem d_md_look_222 : decode b_md_look 222 = .ok (.goto (-200), 3) := by decide +kernel
theorem d_md_look_225 : decode b_md_look 225 = .ok (.return_, 1) := by decide +kernel
theorem d_md_judge_0 : decode b_md_judge 0 = .ok (.aload_n 0, 1) := by decide +kernel
theorem d_md_judge_1 : decode b_md_judge 1 = .ok (.invokevirtual 215, 3) := by decide +kernel
theorem d_md_judge_4 : decode b_md_judge 4 = .ok (.iload_n 1, 1) := by decide +kernel
theorem d_md_judge_5 : decode b_md_judge 5 = .ok (.ifCond .ne 10, 3) := by decide +kernel
theorem d_md_judge_8 : decode b_md_judge 8 = .ok (.aload_n 0, 1) := by decide +kernel
theorem d_md_judge_9 : decode b_md_judge 9 = .ok (.getfield 196, 3) := by decide +kernel
theorem d_md_judge_12 : decode b_md_judge 12 = .ok (.goto 40, 3) := by decide +kernel
theorem d_md_judge_15 : decode b_md_judge 15 = .ok (.iload_n 1, 1) := by decide +kernel
theorem d_md_judge_16 : decode b_md_judge 16 = .ok (.iconst 1, 1) := by decide +kernel
theorem d_md_judge_17 : decode b_md_judge 17 = .ok (.if_icmp .ne 10, 3) := by decide +kernel
theorem d_md_judge_20 : decode b_md_judge 20 = .ok (.aload_n 0, 1) := by decide +kernel
theorem d_md_judge_21 : decode b_md_judge 21 = .ok (.getfield 199, 3) := by decide +kernel
theorem d_md_judge_24 : decode b_md_judge 24 = .ok (.goto 28, 3) := by decide +kernel
theorem d_md_judge_27 : decode b_md_judge 27 = .ok (.iload_n 1, 1) := by decide +kernel
theorem d_md_judge_28 : decode b_md_judge 28 = .ok (.iconst 2, 1) := by decide +kernel
theorem d_md_judge_29 : decode b_md_judge 29 = .ok (.if_icmp .ne 10, 3) := by decide +kernel
theorem d_md_judge_32 : decode b_md_judge 32 = .ok (.aload_n 0, 1) := by decide +kernel
theorem d_md_judge_33 : decode b_md_judge 33 = .ok (.getfield 202, 3) := by decide +kernel
theorem d_md_judge_36 : decode b_md_judge 36 = .ok (.goto 16, 3) := by decide +kernel
theorem d_md_judge_39 : decode b_md_judge 39 = .ok (.iload_n 1, 1) := by decide +kernel
theorem d_md_judge_40 : decode b_md_judge 40 = .ok (.iconst 3, 1) := by decide +kernel
theorem d_md_judge_41 : decode b_md_judge 41 = .ok (.if_icmp .ne 10, 3) := by decide +kernel
theorem d_md_judge_44 : decode b_md_judge 44 = .ok (.aload_n 0, 1) := by decide +kernel
theorem d_md_judge_45 : decode b_md_judge 45 = .ok (.getfield 205, 3) := by decide +kernel
theorem d_md_judge_48 : decode b_md_judge 48 = .ok (.goto 4, 3) := by decide +kernel
theorem d_md_judge_51 : decode b_md_judge 51 = .ok (.iconst (-1), 1) := by decide +kernel
theorem d_md_judge_52 : decode b_md_judge 52 = .ok (.ireturn, 1) := by decide +kernel
theorem d_ar_fillI_0 : decode b_ar_fillI 0 = .ok (.iconst 0, 1) := by decide +kernel
theorem d_ar_fillI_1 : decode b_ar_fillI 1 = .ok (.istore_n 2, 1) := by decide +kernel
theorem d_ar_fillI_2 : decode b_ar_fillI 2 = .ok (.aload_n 0, 1) := by decide +kernel
theorem d_ar_fillI_3 : decode b_ar_fillI 3 = .ok (.arraylength, 1) := by decide +kernel
theorem d_ar_fillI_4 : decode b_ar_fillI 4 = .ok (.istore_n 3, 1) := by decide +kernel
theorem d_ar_fillI_5 : decode b_ar_fillI 5 = .ok (.iload_n 2, 1) := by decide +kernel
theorem d_ar_fillI_6 : decode b_ar_fillI 6 = .ok (.iload_n 3, 1) := by decide +kernel
theorem d_ar_fillI_7 : decode b_ar_fillI 7 = .ok (.if_icmp .ge 13, 3) := by decide +kernel
theorem d_ar_fillI_10 : decode b_ar_fillI 10 = .ok (.aload_n 0, 1) := by decide +kernel
theorem d_ar_fillI_11 : decode b_ar_fillI 11 = .ok (.iload_n 2, 1) := by decide +kernel
theorem d_ar_fillI_12 : decode b_ar_fillI 12 = .ok (.iload_n 1, 1) := by decide +kernel
theorem d_ar_fillI_13 : decode b_ar_fillI 13 = .ok (.iastore, 1) := by decide +kernel
theorem d_ar_fillI_14 : decode b_ar_fillI 14 = .ok (.iinc 2 1, 3) := by decide +kernel
theorem d_ar_fillI_17 : decode b_ar_fillI 17 = .ok (.goto (-12), 3) := by decide +kernel
theorem d_ar_fillI_20 : decode b_ar_fillI 20 = .ok (.return_, 1) := by decide +kernel
theorem d_ar_fillJ_0 : decode b_ar_fillJ 0 = .ok (.iconst 0, 1) := by decide +kernel
theorem d_ar_fillJ_1 : decode b_ar_fillJ 1 = .ok (.istore_n 3, 1) := by decide +kernel
theorem d_ar_fillJ_2 : decode b_ar_fillJ 2 = .ok (.aload_n 0, 1) := by decide +kernel
theorem d_ar_fillJ_3 : decode b_ar_fillJ 3 = .ok (.arraylength, 1) := by decide +kernel
theorem d_ar_fillJ_4 : decode b_ar_fillJ 4 = .ok (.istore 4, 2) := by decide +kernel
theorem d_ar_fillJ_6 : decode b_ar_fillJ 6 = .ok (.iload_n 3, 1) := by decide +kernel
theorem d_ar_fillJ_7 : decode b_ar_fillJ 7 = .ok (.iload 4, 2) := by decide +kernel
theorem d_ar_fillJ_9 : decode b_ar_fillJ 9 = .ok (.if_icmp .ge 13, 3) := by decide +kernel
theorem d_ar_fillJ_12 : decode b_ar_fillJ 12 = .ok (.aload_n 0, 1) := by decide +kernel
theorem d_ar_fillJ_13 : decode b_ar_fillJ 13 = .ok (.iload_n 3, 1) := by decide +kernel
theorem d_ar_fillJ_14 : decode b_ar_fillJ 14 = .ok (.lload_n 1, 1) := by decide +kernel
theorem d_ar_fillJ_15 : decode b_ar_fillJ 15 = .ok (.lastore, 1) := by decide +kernel
theorem d_ar_fillJ_16 : decode b_ar_fillJ 16 = .ok (.iinc 3 1, 3) := by decide +kernel
theorem d_ar_fillJ_19 : decode b_ar_fillJ 19 = .ok (.goto (-13), 3) := by decide +kernel
theorem d_ar_fillJ_22 : decode b_ar_fillJ 22 = .ok (.return_, 1) := by decide +kernel
theorem d_md_isBeside_0 : decode b_md_isBeside 0 = .ok (.iload_n 1, 1) := by decide +kernel
theorem d_md_isBeside_1 : decode b_md_isBeside 1 = .ok (.aload_n 0, 1) := by decide +kernel
theorem d_md_isBeside_2 : decode b_md_isBeside 2 = .ok (.getfield 7, 3) := by decide +kernel
theorem d_md_isBeside_5 : decode b_md_isBeside 5 = .ok (.irem, 1) := by decide +kernel
theorem d_md_isBeside_6 : decode b_md_isBeside 6 = .ok (.iload_n 2, 1) := by decide +kernel
theorem d_md_isBeside_7 : decode b_md_isBeside 7 = .ok (.aload_n 0, 1) := by decide +kernel
theorem d_md_isBeside_8 : decode b_md_isBeside 8 = .ok (.getfield 7, 3) := by decide +kernel
theorem d_md_isBeside_11 : decode b_md_isBeside 11 = .ok (.irem, 1) := by decide +kernel
theorem d_md_isBeside_12 : decode b_md_isBeside 12 = .ok (.isub, 1) := by decide +kernel
theorem d_md_isBeside_13 : decode b_md_isBeside 13 = .ok (.istore_n 3, 1) := by decide +kernel
theorem d_md_isBeside_14 : decode b_md_isBeside 14 = .ok (.iload_n 1, 1) := by decide +kernel
theorem d_md_isBeside_15 : decode b_md_isBeside 15 = .ok (.aload_n 0, 1) := by decide +kernel
theorem d_md_isBeside_16 : decode b_md_isBeside 16 = .ok (.getfield 7, 3) := by decide +kernel
theorem d_md_isBeside_19 : decode b_md_isBeside 19 = .ok (.idiv, 1) := by decide +kernel
theorem d_md_isBeside_20 : decode b_md_isBeside 20 = .ok (.iload_n 2, 1) := by decide +kernel
theorem d_md_isBeside_21 : decode b_md_isBeside 21 = .ok (.aload_n 0, 1) := by decide +kernel
theorem d_md_isBeside_22 : decode b_md_isBeside 22 = .ok (.getfield 7, 3) := by decide +kernel
theorem d_md_isBeside_25 : decode b_md_isBeside 25 = .ok (.idiv, 1) := by decide +kernel
theorem d_md_isBeside_26 : decode b_md_isBeside 26 = .ok (.isub, 1) := by decide +kernel
theorem d_md_isBeside_27 : decode b_md_isBeside 27 = .ok (.istore 4, 2) := by decide +kernel
theorem d_md_isBeside_29 : decode b_md_isBeside 29 = .ok (.iload_n 3, 1) := by decide +kernel
theorem d_md_isBeside_30 : decode b_md_isBeside 30 = .ok (.iload_n 3, 1) := by decide +kernel
theorem d_md_isBeside_31 : decode b_md_isBeside 31 = .ok (.imul, 1) := by decide +kernel
theorem d_md_isBeside_32 : decode b_md_isBeside 32 = .ok (.iload 4, 2) := by decide +kernel
theorem d_md_isBeside_34 : decode b_md_isBeside 34 = .ok (.iload 4, 2) := by decide +kernel
theorem d_md_isBeside_36 : decode b_md_isBeside 36 = .ok (.imul, 1) := by decide +kernel
theorem d_md_isBeside_37 : decode b_md_isBeside 37 = .ok (.iadd, 1) := by decide +kernel
theorem d_md_isBeside_38 : decode b_md_isBeside 38 = .ok (.iconst 1, 1) := by decide +kernel
theorem d_md_isBeside_39 : decode b_md_isBeside 39 = .ok (.if_icmp .ne 7, 3) := by decide +kernel
theorem d_md_isBeside_42 : decode b_md_isBeside 42 = .ok (.iconst 1, 1) := by decide +kernel
theorem d_md_isBeside_43 : decode b_md_isBeside 43 = .ok (.goto 4, 3) := by decide +kernel
theorem d_md_isBeside_46 : decode b_md_isBeside 46 = .ok (.iconst 0, 1) := by decide +kernel
theorem d_md_isBeside_47 : decode b_md_isBeside 47 = .ok (.ireturn, 1) := by decide +kernel
theorem d_md_findFar_0 : decode b_md_findFar 0 = .ok (.iconst 0, 1) := by decide +kernel
theorem d_md_findFar_1 : decode b_md_findFar 1 = .ok (.istore_n 2, 1) := by decide +kernel
theorem d_md_findFar_2 : decode b_md_findFar 2 = .ok (.iload_n 2, 1) := by decide +kernel
theorem d_md_findFar_3 : decode b_md_findFar 3 = .ok (.bipush 25, 2) := by decide +kernel
theorem d_md_findFar_5 : decode b_md_findFar 5 = .ok (.if_icmp .ge 25, 3) := by decide +kernel
theorem d_md_findFar_8 : decode b_md_findFar 8 = .ok (.aload_n 0, 1) := by decide +kernel
theorem d_md_findFar_9 : decode b_md_findFar 9 = .ok (.getfield 76, 3) := by decide +kernel
theorem d_md_findFar_12 : decode b_md_findFar 12 = .ok (.iload_n 2, 1) := by decide +kernel
theorem d_md_findFar_13 : decode b_md_findFar 13 = .ok (.iload_n 2, 1) := by decide +kernel
theorem d_md_findFar_14 : decode b_md_findFar 14 = .ok (.iload_n 1, 1) := by decide +kernel
theorem d_md_findFar_15 : decode b_md_findFar 15 = .ok (.if_icmp .ne 7, 3) := by decide +kernel
theorem d_md_findFar_18 : decode b_md_findFar 18 = .ok (.iconst 0, 1) := by decide +kernel
theorem d_md_findFar_19 : decode b_md_findFar 19 = .ok (.goto 4, 3) := by decide +kernel
theorem d_md_findFar_22 : decode b_md_findFar 22 = .ok (.iconst (-1), 1) := by decide +kernel
theorem d_md_findFar_23 : decode b_md_findFar 23 = .ok (.iastore, 1) := by decide +kernel
theorem d_md_findFar_24 : decode b_md_findFar 24 = .ok (.iinc 2 1, 3) := by decide +kernel
theorem d_md_findFar_27 : decode b_md_findFar 27 = .ok (.goto (-25), 3) := by decide +kernel
theorem d_md_findFar_30 : decode b_md_findFar 30 = .ok (.iconst 0, 1) := by decide +kernel
theorem d_md_findFar_31 : decode b_md_findFar 31 = .ok (.istore_n 2, 1) := by decide +kernel
theorem d_md_findFar_32 : decode b_md_findFar 32 = .ok (.iload_n 2, 1) := by decide +kernel
theorem d_md_findFar_33 : decode b_md_findFar 33 = .ok (.bipush 25, 2) := by decide +kernel
theorem d_md_findFar_35 : decode b_md_findFar 35 = .ok (.if_icmp .ge 104, 3) := by decide +kernel
theorem d_md_findFar_38 : decode b_md_findFar 38 = .ok (.iconst 0, 1) := by decide +kernel
theorem d_md_findFar_39 : decode b_md_findFar 39 = .ok (.istore_n 3, 1) := by decide +kernel
theorem d_md_findFar_40 : decode b_md_findFar 40 = .ok (.iload_n 3, 1) := by decide +kernel
theorem d_md_findFar_41 : decode b_md_findFar 41 = .ok (.aload_n 0, 1) := by decide +kernel
theorem d_md_findFar_42 : decode b_md_findFar 42 = .ok (.invokevirtual 93, 3) := by decide +kernel
theorem d_md_findFar_45 : decode b_md_findFar 45 = .ok (.if_icmp .ge 88, 3) := by decide +kernel
theorem d_md_findFar_48 : decode b_md_findFar 48 = .ok (.iconst 0, 1) := by decide +kernel
theorem d_md_findFar_49 : decode b_md_findFar 49 = .ok (.istore 4, 2) := by decide +kernel
theorem d_md_findFar_51 : decode b_md_findFar 51 = .ok (.iload 4, 2) := by decide +kernel
theorem d_md_findFar_53 : decode b_md_findFar 53 = .ok (.aload_n 0, 1) := by decide +kernel
theorem d_md_findFar_54 : decode b_md_findFar 54 = .ok (.invokevirtual 93, 3) := by decide +kernel
theorem d_md_findFar_57 : decode b_md_findFar 57 = .ok (.if_icmp .ge 70, 3) := by decide +kernel
theorem d_md_findFar_60 : decode b_md_findFar 60 = .ok (.aload_n 0, 1) := by decide +kernel
theorem d_md_findFar_61 : decode b_md_findFar 61 = .ok (.getfield 76, 3) := by decide +kernel
theorem d_md_findFar_64 : decode b_md_findFar 64 = .ok (.iload_n 3, 1) := by decide +kernel
theorem d_md_findFar_65 : decode b_md_findFar 65 = .ok (.iaload, 1) := by decide +kernel
theorem d_md_findFar_66 : decode b_md_findFar 66 = .ok (.iload_n 2, 1) := by decide +kernel
theorem d_md_findFar_67 : decode b_md_findFar 67 = .ok (.if_icmp .ne 60, 3) := by decide +kernel
theorem d_md_findFar_70 : decode b_md_findFar 70 = .ok (.aload_n 0, 1) := by decide +kernel
theorem d_md_findFar_71 : decode b_md_findFar 71 = .ok (.getfield 76, 3) := by decide +kernel
theorem d_md_findFar_74 : decode b_md_findFar 74 = .ok (.iload 4, 2) := by decide +kernel
theorem d_md_findFar_76 : decode b_md_findFar 76 = .ok (.aload_n 0, 1) := by decide +kernel
theorem d_md_findFar_77 : decode b_md_findFar 77 = .ok (.getfield 76, 3) := by decide +kernel
theorem d_md_findFar_80 : decode b_md_findFar 80 = .ok (.iload 4, 2) := by decide +kernel
theorem d_md_findFar_82 : decode b_md_findFar 82 = .ok (.iaload, 1) := by decide +kernel
theorem d_md_findFar_83 : decode b_md_findFar 83 = .ok (.iconst (-1), 1) := by decide +kernel
theorem d_md_findFar_84 : decode b_md_findFar 84 = .ok (.if_icmp .ne 29, 3) := by decide +kernel
theorem d_md_findFar_87 : decode b_md_findFar 87 = .ok (.aload_n 0, 1) := by decide +kernel
theorem d_md_findFar_88 : decode b_md_findFar 88 = .ok (.getfield 16, 3) := by decide +kernel
theorem d_md_findFar_91 : decode b_md_findFar 91 = .ok (.iload 4, 2) := by decide +kernel
theorem d_md_findFar_93 : decode b_md_findFar 93 = .ok (.baload, 1) := by decide +kernel
theorem d_md_findFar_94 : decode b_md_findFar 94 = .ok (.ifCond .ne 19, 3) := by decide +kernel
theorem d_md_findFar_97 : decode b_md_findFar 97 = .ok (.aload_n 0, 1) := by decide +kernel
theorem d_md_findFar_98 : decode b_md_findFar 98 = .ok (.iload 4, 2) := by decide +kernel
theorem d_md_findFar_100 : decode b_md_findFar 100 = .ok (.iload_n 3, 1) := by decide +kernel
theorem d_md_findFar_101 : decode b_md_findFar 101 = .ok (.invokevirtual 107, 3) := by decide +kernel
theorem d_md_findFar_104 : decode b_md_findFar 104 = .ok (.ifCond .eq 9, 3) := by decide +kernel
theorem d_md_findFar_107 : decode b_md_findFar 107 = .ok (.iload_n 2, 1) := by decide +kernel
theorem d_md_findFar_108 : decode b_md_findFar 108 = .ok (.iconst 1, 1) := by decide +kernel
theorem d_md_findFar_109 : decode b_md_findFar 109 = .ok (.iadd, 1) := by decide +kernel
theorem d_md_findFar_110 : decode b_md_findFar 110 = .ok (.goto 10, 3) := by decide +kernel
theorem d_md_findFar_113 : decode b_md_findFar 113 = .ok (.aload_n 0, 1) := by decide +kernel
theorem d_md_findFar_114 : decode b_md_findFar 114 = .ok (.getfield 76, 3) := by decide +kernel
theorem d_md_findFar_117 : decode b_md_findFar 117 = .ok (.iload 4, 2) := by decide +kernel
theorem d_md_findFar_119 : decode b_md_findFar 119 = .ok (.iaload, 1) := by decide +kernel
theorem d_md_findFar_120 : decode b_md_findFar 120 = .ok (.iastore, 1) := by decide +kernel
theorem d_md_findFar_121 : decode b_md_findFar 121 = .ok (.iinc 4 1, 3) := by decide +kernel
theorem d_md_findFar_124 : decode b_md_findFar 124 = .ok (.goto (-73), 3) := by decide +kernel
theorem d_md_findFar_127 : decode b_md_findFar 127 = .ok (.iinc 3 1, 3) := by decide +kernel
theorem d_md_findFar_130 : decode b_md_findFar 130 = .ok (.goto (-90), 3) := by decide +kernel
theorem d_md_findFar_133 : decode b_md_findFar 133 = .ok (.iinc 2 1, 3) := by decide +kernel
theorem d_md_findFar_136 : decode b_md_findFar 136 = .ok (.goto (-104), 3) := by decide +kernel
theorem d_md_findFar_139 : decode b_md_findFar 139 = .ok (.return_, 1) := by decide +kernel
theorem d_md_number_0 : decode b_md_number 0 = .ok (.aload_n 0, 1) := by decide +kernel
theorem d_md_number_1 : decode b_md_number 1 = .ok (.iconst 0, 1) := by decide +kernel
theorem d_md_number_2 : decode b_md_number 2 = .ok (.putfield 120, 3) := by decide +kernel
theorem d_md_number_5 : decode b_md_number 5 = .ok (.iconst 0, 1) := by decide +kernel
theorem d_md_number_6 : decode b_md_number 6 = .ok (.istore_n 1, 1) := by decide +kernel
theorem d_md_number_7 : decode b_md_number 7 = .ok (.iload_n 1, 1) := by decide +kernel
theorem d_md_number_8 : decode b_md_number 8 = .ok (.aload_n 0, 1) := by decide +kernel
theorem d_md_number_9 : decode b_md_number 9 = .ok (.invokevirtual 93, 3) := by decide +kernel
theorem d_md_number_12 : decode b_md_number 12 = .ok (.if_icmp .ge 48, 3) := by decide +kernel
theorem d_md_number_15 : decode b_md_number 15 = .ok (.aload_n 0, 1) := by decide +kernel
theorem d_md_number_16 : decode b_md_number 16 = .ok (.getfield 16, 3) := by decide +kernel
theorem d_md_number_19 : decode b_md_number 19 = .ok (.iload_n 1, 1) := by decide +kernel
theorem d_md_number_20 : decode b_md_number 20 = .ok (.baload, 1) := by decide +kernel
theorem d_md_number_21 : decode b_md_number 21 = .ok (.ifCond .ne 33, 3) := by decide +kernel
theorem d_md_number_24 : decode b_md_number 24 = .ok (.aload_n 0, 1) := by decide +kernel
theorem d_md_number_25 : decode b_md_number 25 = .ok (.getfield 33, 3) := by decide +kernel
theorem d_md_number_28 : decode b_md_number 28 = .ok (.aload_n 0, 1) := by decide +kernel
theorem d_md_number_29 : decode b_md_number 29 = .ok (.getfield 120, 3) := by decide +kernel
theorem d_md_number_32 : decode b_md_number 32 = .ok (.iload_n 1, 1) := by decide +kernel
theorem d_md_number_33 : decode b_md_number 33 = .ok (.iastore, 1) := by decide +kernel
theorem d_md_number_34 : decode b_md_number 34 = .ok (.aload_n 0, 1) := by decide +kernel
theorem d_md_number_35 : decode b_md_number 35 = .ok (.getfield 36, 3) := by decide +kernel
theorem d_md_number_38 : decode b_md_number 38 = .ok (.iload_n 1, 1) := by decide +kernel
theorem d_md_number_39 : decode b_md_number 39 = .ok (.aload_n 0, 1) := by decide +kernel
theorem d_md_number_40 : decode b_md_number 40 = .ok (.getfield 120, 3) := by decide +kernel
theorem d_md_number_43 : decode b_md_number 43 = .ok (.iastore, 1) := by decide +kernel
theorem d_md_number_44 : decode b_md_number 44 = .ok (.aload_n 0, 1) := by decide +kernel
theorem d_md_number_45 : decode b_md_number 45 = .ok (.dup, 1) := by decide +kernel
theorem d_md_number_46 : decode b_md_number 46 = .ok (.getfield 120, 3) := by decide +kernel
theorem d_md_number_49 : decode b_md_number 49 = .ok (.iconst 1, 1) := by decide +kernel
theorem d_md_number_50 : decode b_md_number 50 = .ok (.iadd, 1) := by decide +kernel
theorem d_md_number_51 : decode b_md_number 51 = .ok (.putfield 120, 3) := by decide +kernel
theorem d_md_number_54 : decode b_md_number 54 = .ok (.iinc 1 1, 3) := by decide +kernel
theorem d_md_number_57 : decode b_md_number 57 = .ok (.goto (-50), 3) := by decide +kernel
theorem d_md_number_60 : decode b_md_number 60 = .ok (.iconst 0, 1) := by decide +kernel
theorem d_md_number_61 : decode b_md_number 61 = .ok (.istore_n 1, 1) := by decide +kernel
theorem d_md_number_62 : decode b_md_number 62 = .ok (.iload_n 1, 1) := by decide +kernel
theorem d_md_number_63 : decode b_md_number 63 = .ok (.aload_n 0, 1) := by decide +kernel
theorem d_md_number_64 : decode b_md_number 64 = .ok (.getfield 120, 3) := by decide +kernel
theorem d_md_number_67 : decode b_md_number 67 = .ok (.if_icmp .ge 82, 3) := by decide +kernel
theorem d_md_number_70 : decode b_md_number 70 = .ok (.aload_n 0, 1) := by decide +kernel
theorem d_md_number_71 : decode b_md_number 71 = .ok (.getfield 42, 3) := by decide +kernel
theorem d_md_number_74 : decode b_md_number 74 = .ok (.iload_n 1, 1) := by decide +kernel
theorem d_md_number_75 : decode b_md_number 75 = .ok (.iconst 0, 1) := by decide +kernel
theorem d_md_number_76 : decode b_md_number 76 = .ok (.iastore, 1) := by decide +kernel
theorem d_md_number_77 : decode b_md_number 77 = .ok (.iconst 0, 1) := by decide +kernel
theorem d_md_number_78 : decode b_md_number 78 = .ok (.istore_n 2, 1) := by decide +kernel
theorem d_md_number_79 : decode b_md_number 79 = .ok (.iload_n 2, 1) := by decide +kernel
theorem d_md_number_80 : decode b_md_number 80 = .ok (.aload_n 0, 1) := by decide +kernel
theorem d_md_number_81 : decode b_md_number 81 = .ok (.getfield 120, 3) := by decide +kernel
theorem d_md_number_84 : decode b_md_number 84 = .ok (.if_icmp .ge 59, 3) := by decide +kernel
theorem d_md_number_87 : decode b_md_number 87 = .ok (.iload_n 2, 1) := by decide +kernel
theorem d_md_number_88 : decode b_md_number 88 = .ok (.iload_n 1, 1) := by decide +kernel
theorem d_md_number_89 : decode b_md_number 89 = .ok (.if_icmp .eq 22, 3) := by decide +kernel
theorem d_md_number_92 : decode b_md_number 92 = .ok (.aload_n 0, 1) := by decide +kernel
theorem d_md_number_93 : decode b_md_number 93 = .ok (.aload_n 0, 1) := by decide +kernel
theorem d_md_number_94 : decode b_md_number 94 = .ok (.getfield 33, 3) := by decide +kernel
theorem d_md_number_97 : decode b_md_number 97 = .ok (.iload_n 2, 1) := by decide +kernel
theorem d_md_number_98 : decode b_md_number 98 = .ok (.iaload, 1) := by decide +kernel
theorem d_md_number_99 : decode b_md_number 99 = .ok (.aload_n 0, 1) := by decide +kernel
theorem d_md_number_100 : decode b_md_number 100 = .ok (.getfield 33, 3) := by decide +kernel
theorem d_md_number_103 : decode b_md_number 103 = .ok (.iload_n 1, 1) := by decide +kernel
theorem d_md_number_104 : decode b_md_number 104 = .ok (.iaload, 1) := by decide +kernel
theorem d_md_number_105 : decode b_md_number 105 = .ok (.invokevirtual 107, 3) := by decide +kernel
theorem d_md_number_108 : decode b_md_number 108 = .ok (.ifCond .eq 29, 3) := by decide +kernel
theorem d_md_number_111 : decode b_md_number 111 = .ok (.aload_n 0, 1) := by decide +kernel
theorem d_md_number_112 : decode b_md_number 112 = .ok (.getfield 39, 3) := by decide +kernel
theorem d_md_number_115 : decode b_md_number 115 = .ok (.iconst 5, 1) := by decide +kernel
theorem d_md_number_116 : decode b_md_number 116 = .ok (.iload_n 1, 1) := by decide +kernel
theorem d_md_number_117 : decode b_md_number 117 = .ok (.imul, 1) := by decide +kernel
theorem d_md_number_118 : decode b_md_number 118 = .ok (.aload_n 0, 1) := by decide +kernel
theorem d_md_number_119 : decode b_md_number 119 = .ok (.getfield 42, 3) := by decide +kernel
theorem d_md_number_122 : decode b_md_number 122 = .ok (.iload_n 1, 1) := by decide +kernel
theorem d_md_number_123 : decode b_md_number 123 = .ok (.iaload, 1) := by decide +kernel
theorem d_md_number_124 : decode b_md_number 124 = .ok (.iadd, 1) := by decide +kernel
theorem d_md_number_125 : decode b_md_number 125 = .ok (.iload_n 2, 1) := by decide +kernel
theorem d_md_number_126 : decode b_md_number 126 = .ok (.iastore, 1) := by decide +kernel
theorem d_md_number_127 : decode b_md_number 127 = .ok (.aload_n 0, 1) := by decide +kernel
theorem d_md_number_128 : decode b_md_number 128 = .ok (.getfield 42, 3) := by decide +kernel
theorem d_md_number_131 : decode b_md_number 131 = .ok (.iload_n 1, 1) := by decide +kernel
theorem d_md_number_132 : decode b_md_number 132 = .ok (.dup2, 1) := by decide +kernel
theorem d_md_number_133 : decode b_md_number 133 = .ok (.iaload, 1) := by decide +kernel
theorem d_md_number_134 : decode b_md_number 134 = .ok (.iconst 1, 1) := by decide +kernel
theorem d_md_number_135 : decode b_md_number 135 = .ok (.iadd, 1) := by decide +kernel
theorem d_md_number_136 : decode b_md_number 136 = .ok (.iastore, 1) := by decide +kernel
theorem d_md_number_137 : decode b_md_number 137 = .ok (.iinc 2 1, 3) := by decide +kernel
theorem d_md_number_140 : decode b_md_number 140 = .ok (.goto (-61), 3) := by decide +kernel
theorem d_md_number_143 : decode b_md_number 143 = .ok (.iinc 1 1, 3) := by decide +kernel
theorem d_md_number_146 : decode b_md_number 146 = .ok (.goto (-84), 3) := by decide +kernel
theorem d_md_number_149 : decode b_md_number 149 = .ok (.return_, 1) := by decide +kernel
theorem d_md_placesOf_0 : decode b_md_placesOf 0 = .ok (.iconst 0, 1) := by decide +kernel
theorem d_md_placesOf_1 : decode b_md_placesOf 1 = .ok (.istore_n 2, 1) := by decide +kernel
theorem d_md_placesOf_2 : decode b_md_placesOf 2 = .ok (.aload_n 0, 1) := by decide +kernel
theorem d_md_placesOf_3 : decode b_md_placesOf 3 = .ok (.getfield 86, 3) := by decide +kernel
theorem d_md_placesOf_6 : decode b_md_placesOf 6 = .ok (.iconst 1, 1) := by decide +kernel
theorem d_md_placesOf_7 : decode b_md_placesOf 7 = .ok (.isub, 1) := by decide +kernel
theorem d_md_placesOf_8 : decode b_md_placesOf 8 = .ok (.istore_n 3, 1) := by decide +kernel
theorem d_md_placesOf_9 : decode b_md_placesOf 9 = .ok (.iload_n 3, 1) := by decide +kernel
theorem d_md_placesOf_10 : decode b_md_placesOf 10 = .ok (.ifCond .lt 20, 3) := by decide +kernel
theorem d_md_placesOf_13 : decode b_md_placesOf 13 = .ok (.iload_n 2, 1) := by decide +kernel
theorem d_md_placesOf_14 : decode b_md_placesOf 14 = .ok (.aload_n 0, 1) := by decide +kernel
theorem d_md_placesOf_15 : decode b_md_placesOf 15 = .ok (.getfield 120, 3) := by decide +kernel
theorem d_md_placesOf_18 : decode b_md_placesOf 18 = .ok (.imul, 1) := by decide +kernel
theorem d_md_placesOf_19 : decode b_md_placesOf 19 = .ok (.aload_n 1, 1) := by decide +kernel
theorem d_md_placesOf_20 : decode b_md_placesOf 20 = .ok (.iload_n 3, 1) := by decide +kernel
theorem d_md_placesOf_21 : decode b_md_placesOf 21 = .ok (.iaload, 1) := by decide +kernel
theorem d_md_placesOf_22 : decode b_md_placesOf 22 = .ok (.iadd, 1) := by decide +kernel
theorem d_md_placesOf_23 : decode b_md_placesOf 23 = .ok (.istore_n 2, 1) := by decide +kernel
theorem d_md_placesOf_24 : decode b_md_placesOf 24 = .ok (.iinc 3 (-1), 3) := by decide +kernel
theorem d_md_placesOf_27 : decode b_md_placesOf 27 = .ok (.goto (-18), 3) := by decide +kernel
theorem d_md_placesOf_30 : decode b_md_placesOf 30 = .ok (.iload_n 2, 1) := by decide +kernel
theorem d_md_placesOf_31 : decode b_md_placesOf 31 = .ok (.ireturn, 1) := by decide +kernel
theorem d_md_open_0 : decode b_md_open 0 = .ok (.iload_n 1, 1) := by decide +kernel
theorem d_md_open_1 : decode b_md_open 1 = .ok (.aload_n 0, 1) := by decide +kernel
theorem d_md_open_2 : decode b_md_open 2 = .ok (.getfield 86, 3) := by decide +kernel
theorem d_md_open_5 : decode b_md_open 5 = .ok (.ishr, 1) := by decide +kernel
theorem d_md_open_6 : decode b_md_open 6 = .ok (.istore_n 2, 1) := by decide +kernel
theorem d_md_open_7 : decode b_md_open 7 = .ok (.iconst 0, 1) := by decide +kernel
theorem d_md_open_8 : decode b_md_open 8 = .ok (.istore_n 3, 1) := by decide +kernel
theorem d_md_open_9 : decode b_md_open 9 = .ok (.iload_n 3, 1) := by decide +kernel
theorem d_md_open_10 : decode b_md_open 10 = .ok (.aload_n 0, 1) := by decide +kernel
theorem d_md_open_11 : decode b_md_open 11 = .ok (.getfield 86, 3) := by decide +kernel
theorem d_md_open_14 : decode b_md_open 14 = .ok (.if_icmp .ge 28, 3) := by decide +kernel
theorem d_md_open_17 : decode b_md_open 17 = .ok (.aload_n 0, 1) := by decide +kernel
theorem d_md_open_18 : decode b_md_open 18 = .ok (.getfield 55, 3) := by decide +kernel
theorem d_md_open_21 : decode b_md_open 21 = .ok (.iload_n 3, 1) := by decide +kernel
theorem d_md_open_22 : decode b_md_open 22 = .ok (.iload_n 2, 1) := by decide +kernel
theorem d_md_open_23 : decode b_md_open 23 = .ok (.aload_n 0, 1) := by decide +kernel
theorem d_md_open_24 : decode b_md_open 24 = .ok (.getfield 120, 3) := by decide +kernel
theorem d_md_open_27 : decode b_md_open 27 = .ok (.irem, 1) := by decide +kernel
theorem d_md_open_28 : decode b_md_open 28 = .ok (.iastore, 1) := by decide +kernel
theorem d_md_open_29 : decode b_md_open 29 = .ok (.iload_n 2, 1) := by decide +kernel
theorem d_md_open_30 : decode b_md_open 30 = .ok (.aload_n 0, 1) := by decide +kernel
theorem d_md_open_31 : decode b_md_open 31 = .ok (.getfield 120, 3) := by decide +kernel
theorem d_md_open_34 : decode b_md_open 34 = .ok (.idiv, 1) := by decide +kernel
theorem d_md_open_35 : decode b_md_open 35 = .ok (.istore_n 2, 1) := by decide +kernel
theorem d_md_open_36 : decode b_md_open 36 = .ok (.iinc 3 1, 3) := by decide +kernel
theorem d_md_open_39 : decode b_md_open 39 = .ok (.goto (-30), 3) := by decide +kernel
theorem d_md_open_42 : decode b_md_open 42 = .ok (.return_, 1) := by decide +kernel
theorem d_md_rests_0 : decode b_md_rests 0 = .ok (.iload_n 0, 1) := by decide +kernel
theorem d_md_rests_1 : decode b_md_rests 1 = .ok (.iload_n 1, 1) := by decide +kernel
theorem d_md_rests_2 : decode b_md_rests 2 = .ok (.ishr, 1) := by decide +kernel
theorem d_md_rests_3 : decode b_md_rests 3 = .ok (.iconst 1, 1) := by decide +kernel
theorem d_md_rests_4 : decode b_md_rests 4 = .ok (.iand, 1) := by decide +kernel
theorem d_md_rests_5 : decode b_md_rests 5 = .ok (.iconst 1, 1) := by decide +kernel
theorem d_md_rests_6 : decode b_md_rests 6 = .ok (.if_icmp .ne 7, 3) := by decide +kernel
theorem d_md_rests_9 : decode b_md_rests 9 = .ok (.iconst 1, 1) := by decide +kernel
theorem d_md_rests_10 : decode b_md_rests 10 = .ok (.goto 4, 3) := by decide +kernel
theorem d_md_rests_13 : decode b_md_rests 13 = .ok (.iconst 0, 1) := by decide +kernel
theorem d_md_rests_14 : decode b_md_rests 14 = .ok (.ireturn, 1) := by decide +kernel
theorem d_md_firstChoice_0 : decode b_md_firstChoice 0 = .ok (.iconst 0, 1) := by decide +kernel
theorem d_md_firstChoice_1 : decode b_md_firstChoice 1 = .ok (.istore_n 1, 1) := by decide +kernel
theorem d_md_firstChoice_2 : decode b_md_firstChoice 2 = .ok (.iload_n 1, 1) := by decide +kernel
theorem d_md_firstChoice_3 : decode b_md_firstChoice 3 = .ok (.aload_n 0, 1) := by decide +kernel
theorem d_md_firstChoice_4 : decode b_md_firstChoice 4 = .ok (.getfield 86, 3) := by decide +kernel
theorem d_md_firstChoice_7 : decode b_md_firstChoice 7 = .ok (.if_icmp .ge 16, 3) := by decide +kernel
theorem d_md_firstChoice_10 : decode b_md_firstChoice 10 = .ok (.aload_n 0, 1) := by decide +kernel
theorem d_md_firstChoice_11 : decode b_md_firstChoice 11 = .ok (.getfield 61, 3) := by decide +kernel
theorem d_md_firstChoice_14 : decode b_md_firstChoice 14 = .ok (.iload_n 1, 1) := by decide +kernel
theorem d_md_firstChoice_15 : decode b_md_firstChoice 15 = .ok (.iconst 0, 1) := by decide +kernel
theorem d_md_firstChoice_16 : decode b_md_firstChoice 16 = .ok (.iastore, 1) := by decide +kernel
theorem d_md_firstChoice_17 : decode b_md_firstChoice 17 = .ok (.iinc 1 1, 3) := by decide +kernel
theorem d_md_firstChoice_20 : decode b_md_firstChoice 20 = .ok (.goto (-18), 3) := by decide +kernel
theorem d_md_firstChoice_23 : decode b_md_firstChoice 23 = .ok (.return_, 1) := by decide +kernel
theorem d_md_choices_0 : decode b_md_choices 0 = .ok (.iload_n 1, 1) := by decide +kernel
theorem d_md_choices_1 : decode b_md_choices 1 = .ok (.iload_n 2, 1) := by decide +kernel
theorem d_md_choices_2 : decode b_md_choices 2 = .ok (.invokestatic 123, 3) := by decide +kernel
theorem d_md_choices_5 : decode b_md_choices 5 = .ok (.ifCond .eq 7, 3) := by decide +kernel
theorem d_md_choices_8 : decode b_md_choices 8 = .ok (.iconst 1, 1) := by decide +kernel
