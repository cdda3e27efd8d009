theorem d_md_look_106 : decode b_md_look 106 = .ok (.invokevirtual 193, 3) := by decide +kernel
theorem d_md_look_109 : decode b_md_look 109 = .ok (.if_icmp .ne 11, 3) := by decide +kernel
theorem d_md_look_112 : decode b_md_look 112 = .ok (.aload_n 0, 1) := by decide +kernel
theorem d_md_look_113 : decode b_md_look 113 = .ok (.iconst 2, 1) := by decide +kernel
theorem d_md_look_114 : decode b_md_look 114 = .ok (.iload_n 1, 1) := by decide +kernel
theorem d_md_look_115 : decode b_md_look 115 = .ok (.iload_n 2, 1) := by decide +kernel
theorem d_md_look_116 : decode b_md_look 116 = .ok (.iload_n 3, 1) := by decide +kernel
theorem d_md_look_117 : decode b_md_look 117 = .ok (.invokevirtual 211, 3) := by decide +kernel
theorem d_md_look_120 : decode b_md_look 120 = .ok (.iinc 3 1, 3) := by decide +kernel
theorem d_md_look_123 : decode b_md_look 123 = .ok (.goto (-34), 3) := by decide +kernel
theorem d_md_look_126 : decode b_md_look 126 = .ok (.iinc 2 1, 3) := by decide +kernel
theorem d_md_look_129 : decode b_md_look 129 = .ok (.goto (-59), 3) := by decide +kernel
theorem d_md_look_132 : decode b_md_look 132 = .ok (.iconst 0, 1) := by decide +kernel
theorem d_md_look_133 : decode b_md_look 133 = .ok (.istore_n 2, 1) := by decide +kernel
theorem d_md_look_134 : decode b_md_look 134 = .ok (.iload_n 2, 1) := by decide +kernel
theorem d_md_look_135 : decode b_md_look 135 = .ok (.aload_n 0, 1) := by decide +kernel
theorem d_md_look_136 : decode b_md_look 136 = .ok (.getfield 86, 3) := by decide +kernel
theorem d_md_look_139 : decode b_md_look 139 = .ok (.if_icmp .ge 80, 3) := by decide +kernel
theorem d_md_look_142 : decode b_md_look 142 = .ok (.aload_n 0, 1) := by decide +kernel
theorem d_md_look_143 : decode b_md_look 143 = .ok (.getfield 196, 3) := by decide +kernel
theorem d_md_look_146 : decode b_md_look 146 = .ok (.ifCond .ne 73, 3) := by decide +kernel
theorem d_md_look_149 : decode b_md_look 149 = .ok (.iload_n 1, 1) := by decide +kernel
theorem d_md_look_150 : decode b_md_look 150 = .ok (.ifCond .le 69, 3) := by decide +kernel
theorem d_md_look_153 : decode b_md_look 153 = .ok (.iload_n 2, 1) := by decide +kernel
theorem d_md_look_154 : decode b_md_look 154 = .ok (.iconst 1, 1) := by decide +kernel
theorem d_md_look_155 : decode b_md_look 155 = .ok (.iadd, 1) := by decide +kernel
theorem d_md_look_156 : decode b_md_look 156 = .ok (.istore_n 3, 1) := by decide +kernel
theorem d_md_look_157 : decode b_md_look 157 = .ok (.iload_n 3, 1) := by decide +kernel
theorem d_md_look_158 : decode b_md_look 158 = .ok (.aload_n 0, 1) := by decide +kernel
theorem d_md_look_159 : decode b_md_look 159 = .ok (.getfield 86, 3) := by decide +kernel
theorem d_md_look_162 : decode b_md_look 162 = .ok (.if_icmp .ge 51, 3) := by decide +kernel
theorem d_md_look_165 : decode b_md_look 165 = .ok (.aload_n 0, 1) := by decide +kernel
theorem d_md_look_166 : decode b_md_look 166 = .ok (.iload_n 2, 1) := by decide +kernel
theorem d_md_look_167 : decode b_md_look 167 = .ok (.iload_n 1, 1) := by decide +kernel
theorem d_md_look_168 : decode b_md_look 168 = .ok (.invokevirtual 193, 3) := by decide +kernel
theorem d_md_look_171 : decode b_md_look 171 = .ok (.aload_n 0, 1) := by decide +kernel
theorem d_md_look_172 : decode b_md_look 172 = .ok (.iload_n 3, 1) := by decide +kernel
theorem d_md_look_173 : decode b_md_look 173 = .ok (.iload_n 1, 1) := by decide +kernel
theorem d_md_look_174 : decode b_md_look 174 = .ok (.iconst 1, 1) := by decide +kernel
theorem d_md_look_175 : decode b_md_look 175 = .ok (.isub, 1) := by decide +kernel
theorem d_md_look_176 : decode b_md_look 176 = .ok (.invokevirtual 193, 3) := by decide +kernel
theorem d_md_look_179 : decode b_md_look 179 = .ok (.if_icmp .ne 28, 3) := by decide +kernel
theorem d_md_look_182 : decode b_md_look 182 = .ok (.aload_n 0, 1) := by decide +kernel
theorem d_md_look_183 : decode b_md_look 183 = .ok (.iload_n 3, 1) := by decide +kernel
theorem d_md_look_184 : decode b_md_look 184 = .ok (.iload_n 1, 1) := by decide +kernel
theorem d_md_look_185 : decode b_md_look 185 = .ok (.invokevirtual 193, 3) := by decide +kernel
theorem d_md_look_188 : decode b_md_look 188 = .ok (.aload_n 0, 1) := by decide +kernel
theorem d_md_look_189 : decode b_md_look 189 = .ok (.iload_n 2, 1) := by decide +kernel
theorem d_md_look_190 : decode b_md_look 190 = .ok (.iload_n 1, 1) := by decide +kernel
theorem d_md_look_191 : decode b_md_look 191 = .ok (.iconst 1, 1) := by decide +kernel
theorem d_md_look_192 : decode b_md_look 192 = .ok (.isub, 1) := by decide +kernel
theorem d_md_look_193 : decode b_md_look 193 = .ok (.invokevirtual 193, 3) := by decide +kernel
theorem d_md_look_196 : decode b_md_look 196 = .ok (.if_icmp .ne 11, 3) := by decide +kernel
theorem d_md_look_199 : decode b_md_look 199 = .ok (.aload_n 0, 1) := by decide +kernel
theorem d_md_look_200 : decode b_md_look 200 = .ok (.iconst 3, 1) := by decide +kernel
theorem d_md_look_201 : decode b_md_look 201 = .ok (.iload_n 1, 1) := by decide +kernel
theorem d_md_look_202 : decode b_md_look 202 = .ok (.iload_n 2, 1) := by decide +kernel
theorem d_md_look_203 : decode b_md_look 203 = .ok (.iload_n 3, 1) := by decide +kernel
theorem d_md_look_204 : decode b_md_look 204 = .ok (.invokevirtual 211, 3) := by decide +kernel
theorem d_md_look_207 : decode b_md_look 207 = .ok (.iinc 3 1, 3) := by decide +kernel
theorem d_md_look_210 : decode b_md_look 210 = .ok (.goto (-53), 3) := by decide +kernel
theorem d_md_look_213 : decode b_md_look 213 = .ok (.iinc 2 1, 3) := by decide +kernel
theorem d_md_look_216 : decode b_md_look 216 = .ok (.goto (-82), 3) := by decide +kernel
theorem d_md_look_219 : decode b_md_look 219 = .ok (.iinc 1 1, 3) := by decide +kernel
theorem d_md_look_222 : decode b_md_look 222 = .ok (.goto (-200), 3) := by decide +kernel
theorem d_md_look_225 : decode b_md_look 225 = .ok (.return_, 1) := by decide +kernel
theorem d_md_judge_0 : decode b_md_judge 0 = .ok (.aload_n 0, 1) := by decide +kernel
theorem d_md_judge_1 : decode b_md_judge 1 = .ok (.invokevirtual 215, 3) := by decide +kernel
theorem d_md_judge_4 : decode b_md_judge 4 = .ok (.iload_n 1, 1) := by decide +kernel
theorem d_md_judge_5 : decode b_md_judge 5 = .ok (.ifCond .ne 10, 3) := by decide +kernel
theorem d_md_judge_8 : decode b_md_judge 8 = .ok (.aload_n 0, 1) := by decide +kernel
theorem d_md_judge_9 : decode b_md_judge 9 = .ok (.getfield 196, 3) := by decide +kernel
theorem d_md_judge_12 : decode b_md_judge 12 = .ok (.goto 40, 3) := by decide +kernel
theorem d_md_judge_15 : decode b_md_judge 15 = .ok (.iload_n 1, 1) := by decide +kernel
theorem d_md_judge_16 : decode b_md_judge 16 = .ok (.iconst 1, 1) := by decide +kernel
theorem d_md_judge_17 : decode b_md_judge 17 = .ok (.if_icmp .ne 10, 3) := by decide +kernel
theorem d_md_judge_20 : decode b_md_judge 20 = .ok (.aload_n 0, 1) := by decide +kernel
theorem d_md_judge_21 : decode b_md_judge 21 = .ok (.getfield 199, 3) := by decide +kernel
theorem d_md_judge_24 : decode b_md_judge 24 = .ok (.goto 28, 3) := by decide +kernel
theorem d_md_judge_27 : decode b_md_judge 27 = .ok (.iload_n 1, 1) := by decide +kernel
theorem d_md_judge_28 : decode b_md_judge 28 = .ok (.iconst 2, 1) := by decide +kernel
theorem d_md_judge_29 : decode b_md_judge 29 = .ok (.if_icmp .ne 10, 3) := by decide +kernel
theorem d_md_judge_32 : decode b_md_judge 32 = .ok (.aload_n 0, 1) := by decide +kernel
theorem d_md_judge_33 : decode b_md_judge 33 = .ok (.getfield 202, 3) := by decide +kernel
theorem d_md_judge_36 : decode b_md_judge 36 = .ok (.goto 16, 3) := by decide +kernel
theorem d_md_judge_39 : decode b_md_judge 39 = .ok (.iload_n 1, 1) := by decide +kernel
theorem d_md_judge_40 : decode b_md_judge 40 = .ok (.iconst 3, 1) := by decide +kernel
theorem d_md_judge_41 : decode b_md_judge 41 = .ok (.if_icmp .ne 10, 3) := by decide +kernel
theorem d_md_judge_44 : decode b_md_judge 44 = .ok (.aload_n 0, 1) := by decide +kernel
theorem d_md_judge_45 : decode b_md_judge 45 = .ok (.getfield 205, 3) := by decide +kernel
theorem d_md_judge_48 : decode b_md_judge 48 = .ok (.goto 4, 3) := by decide +kernel
theorem d_md_judge_51 : decode b_md_judge 51 = .ok (.iconst (-1), 1) := by decide +kernel
theorem d_md_judge_52 : decode b_md_judge 52 = .ok (.ireturn, 1) := by decide +kernel
theorem d_ar_fillI_0 : decode b_ar_fillI 0 = .ok (.iconst 0, 1) := by decide +kernel
theorem d_ar_fillI_1 : decode b_ar_fillI 1 = .ok (.istore_n 2, 1) := by decide +kernel
theorem d_ar_fillI_2 : decode b_ar_fillI 2 = .ok (.aload_n 0, 1) := by decide +kernel
theorem d_ar_fillI_3 : decode b_ar_fillI 3 = .ok (.arraylength, 1) := by decide +kernel
theorem d_ar_fillI_4 : decode b_ar_fillI 4 = .ok (.istore_n 3, 1) := by decide +kernel
theorem d_ar_fillI_5 : decode b_ar_fillI 5 = .ok (.iload_n 2, 1) := by decide +kernel
theorem d_ar_fillI_6 : decode b_ar_fillI 6 = .ok (.iload_n 3, 1) := by decide +kernel
theorem d_ar_fillI_7 : decode b_ar_fillI 7 = .ok (.if_icmp .ge 13, 3) := by decide +kernel
theorem d_ar_fillI_10 : decode b_ar_fillI 10 = .ok (.aload_n 0, 1) := by decide +kernel
theorem d_ar_fillI_11 : decode b_ar_fillI 11 = .ok (.iload_n 2, 1) := by decide +kernel
theorem d_ar_fillI_12 : decode b_ar_fillI 12 = .ok (.iload_n 1, 1) := by decide +kernel
theorem d_ar_fillI_13 : decode b_ar_fillI 13 = .ok (.iastore, 1) := by decide +kernel
theorem d_ar_fillI_14 : decode b_ar_fillI 14 = .ok (.iinc 2 1, 3) := by decide +kernel
theorem d_ar_fillI_17 : decode b_ar_fillI 17 = .ok (.goto (-12), 3) := by decide +kernel
theorem d_ar_fillI_20 : decode b_ar_fillI 20 = .ok (.return_, 1) := by decide +kernel
theorem d_ar_fillJ_0 : decode b_ar_fillJ 0 = .ok (.iconst 0, 1) := by decide +kernel
theorem d_ar_fillJ_1 : decode b_ar_fillJ 1 = .ok (.istore_n 3, 1) := by decide +kernel
theorem d_ar_fillJ_2 : decode b_ar_fillJ 2 = .ok (.aload_n 0, 1) := by decide +kernel
theorem d_ar_fillJ_3 : decode b_ar_fillJ 3 = .ok (.arraylength, 1) := by decide +kernel
theorem d_ar_fillJ_4 : decode b_ar_fillJ 4 = .ok (.istore 4, 2) := by decide +kernel
theorem d_ar_fillJ_6 : decode b_ar_fillJ 6 = .ok (.iload_n 3, 1) := by decide +kernel
theorem d_ar_fillJ_7 : decode b_ar_fillJ 7 = .ok (.iload 4, 2) := by decide +kernel
theorem d_ar_fillJ_9 : decode b_ar_fillJ 9 = .ok (.if_icmp .ge 13, 3) := by decide +kernel
theorem d_ar_fillJ_12 : decode b_ar_fillJ 12 = .ok (.aload_n 0, 1) := by decide +kernel
theorem d_ar_fillJ_13 : decode b_ar_fillJ 13 = .ok (.iload_n 3, 1) := by decide +kernel
theorem d_ar_fillJ_14 : decode b_ar_fillJ 14 = .ok (.lload_n 1, 1) := by decide +kernel
theorem d_ar_fillJ_15 : decode b_ar_fillJ 15 = .ok (.lastore, 1) := by decide +kernel
theorem d_ar_fillJ_16 : decode b_ar_fillJ 16 = .ok (.iinc 3 1, 3) := by decide +kernel
theorem d_ar_fillJ_19 : decode b_ar_fillJ 19 = .ok (.goto (-13), 3) := by decide +kernel
theorem d_ar_fillJ_22 : decode b_ar_fillJ 22 = .ok (.return_, 1) := by decide +kernel
