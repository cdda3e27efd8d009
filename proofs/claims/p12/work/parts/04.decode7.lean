theorem d_md_findPays_204 : decode b_md_findPays 204 = .ok (.getfield 49, 3) := by decide +kernel
theorem d_md_findPays_207 : decode b_md_findPays 207 = .ok (.iload 5, 2) := by decide +kernel
theorem d_md_findPays_209 : decode b_md_findPays 209 = .ok (.baload, 1) := by decide +kernel
theorem d_md_findPays_210 : decode b_md_findPays 210 = .ok (.ifCond .ne 18, 3) := by decide +kernel
theorem d_md_findPays_213 : decode b_md_findPays 213 = .ok (.aload_n 0, 1) := by decide +kernel
theorem d_md_findPays_214 : decode b_md_findPays 214 = .ok (.getfield 49, 3) := by decide +kernel
theorem d_md_findPays_217 : decode b_md_findPays 217 = .ok (.iload 5, 2) := by decide +kernel
theorem d_md_findPays_219 : decode b_md_findPays 219 = .ok (.iconst 1, 1) := by decide +kernel
theorem d_md_findPays_220 : decode b_md_findPays 220 = .ok (.bastore, 1) := by decide +kernel
theorem d_md_findPays_221 : decode b_md_findPays 221 = .ok (.aload_n 0, 1) := by decide +kernel
theorem d_md_findPays_222 : decode b_md_findPays 222 = .ok (.iload 5, 2) := by decide +kernel
theorem d_md_findPays_224 : decode b_md_findPays 224 = .ok (.iload_n 3, 1) := by decide +kernel
theorem d_md_findPays_225 : decode b_md_findPays 225 = .ok (.invokevirtual 160, 3) := by decide +kernel
theorem d_md_findPays_228 : decode b_md_findPays 228 = .ok (.goto (-53), 3) := by decide +kernel
theorem d_md_findPays_231 : decode b_md_findPays 231 = .ok (.iinc 4 1, 3) := by decide +kernel
theorem d_md_findPays_234 : decode b_md_findPays 234 = .ok (.goto (-104), 3) := by decide +kernel
theorem d_md_findPays_237 : decode b_md_findPays 237 = .ok (.iinc 3 1, 3) := by decide +kernel
theorem d_md_findPays_240 : decode b_md_findPays 240 = .ok (.goto (-118), 3) := by decide +kernel
theorem d_md_findPays_243 : decode b_md_findPays 243 = .ok (.return_, 1) := by decide +kernel
theorem d_md_mayRest_0 : decode b_md_mayRest 0 = .ok (.iconst 1, 1) := by decide +kernel
theorem d_md_mayRest_1 : decode b_md_mayRest 1 = .ok (.istore_n 3, 1) := by decide +kernel
theorem d_md_mayRest_2 : decode b_md_mayRest 2 = .ok (.iconst 0, 1) := by decide +kernel
theorem d_md_mayRest_3 : decode b_md_mayRest 3 = .ok (.istore 4, 2) := by decide +kernel
theorem d_md_mayRest_5 : decode b_md_mayRest 5 = .ok (.iload 4, 2) := by decide +kernel
theorem d_md_mayRest_7 : decode b_md_mayRest 7 = .ok (.aload_n 0, 1) := by decide +kernel
theorem d_md_mayRest_8 : decode b_md_mayRest 8 = .ok (.getfield 86, 3) := by decide +kernel
theorem d_md_mayRest_11 : decode b_md_mayRest 11 = .ok (.if_icmp .ge 47, 3) := by decide +kernel
theorem d_md_mayRest_14 : decode b_md_mayRest 14 = .ok (.iload_n 3, 1) := by decide +kernel
theorem d_md_mayRest_15 : decode b_md_mayRest 15 = .ok (.ifCond .eq 35, 3) := by decide +kernel
theorem d_md_mayRest_18 : decode b_md_mayRest 18 = .ok (.iload_n 1, 1) := by decide +kernel
theorem d_md_mayRest_19 : decode b_md_mayRest 19 = .ok (.iload 4, 2) := by decide +kernel
theorem d_md_mayRest_21 : decode b_md_mayRest 21 = .ok (.invokestatic 123, 3) := by decide +kernel
theorem d_md_mayRest_24 : decode b_md_mayRest 24 = .ok (.ifCond .eq 22, 3) := by decide +kernel
theorem d_md_mayRest_27 : decode b_md_mayRest 27 = .ok (.aload_n 2, 1) := by decide +kernel
theorem d_md_mayRest_28 : decode b_md_mayRest 28 = .ok (.iload 4, 2) := by decide +kernel
theorem d_md_mayRest_30 : decode b_md_mayRest 30 = .ok (.iaload, 1) := by decide +kernel
theorem d_md_mayRest_31 : decode b_md_mayRest 31 = .ok (.aload_n 0, 1) := by decide +kernel
theorem d_md_mayRest_32 : decode b_md_mayRest 32 = .ok (.getfield 36, 3) := by decide +kernel
theorem d_md_mayRest_35 : decode b_md_mayRest 35 = .ok (.aload_n 0, 1) := by decide +kernel
theorem d_md_mayRest_36 : decode b_md_mayRest 36 = .ok (.getfield 24, 3) := by decide +kernel
theorem d_md_mayRest_39 : decode b_md_mayRest 39 = .ok (.iload 4, 2) := by decide +kernel
theorem d_md_mayRest_41 : decode b_md_mayRest 41 = .ok (.iaload, 1) := by decide +kernel
theorem d_md_mayRest_42 : decode b_md_mayRest 42 = .ok (.iaload, 1) := by decide +kernel
theorem d_md_mayRest_43 : decode b_md_mayRest 43 = .ok (.if_icmp .ne 7, 3) := by decide +kernel
theorem d_md_mayRest_46 : decode b_md_mayRest 46 = .ok (.iconst 1, 1) := by decide +kernel
theorem d_md_mayRest_47 : decode b_md_mayRest 47 = .ok (.goto 4, 3) := by decide +kernel
theorem d_md_mayRest_50 : decode b_md_mayRest 50 = .ok (.iconst 0, 1) := by decide +kernel
theorem d_md_mayRest_51 : decode b_md_mayRest 51 = .ok (.istore_n 3, 1) := by decide +kernel
theorem d_md_mayRest_52 : decode b_md_mayRest 52 = .ok (.iinc 4 1, 3) := by decide +kernel
theorem d_md_mayRest_55 : decode b_md_mayRest 55 = .ok (.goto (-50), 3) := by decide +kernel
theorem d_md_mayRest_58 : decode b_md_mayRest 58 = .ok (.iload_n 3, 1) := by decide +kernel
theorem d_md_mayRest_59 : decode b_md_mayRest 59 = .ok (.ireturn, 1) := by decide +kernel
theorem d_md_write_0 : decode b_md_write 0 = .ok (.iconst 0, 1) := by decide +kernel
theorem d_md_write_1 : decode b_md_write 1 = .ok (.istore_n 3, 1) := by decide +kernel
theorem d_md_write_2 : decode b_md_write 2 = .ok (.iload_n 3, 1) := by decide +kernel
theorem d_md_write_3 : decode b_md_write 3 = .ok (.aload_n 0, 1) := by decide +kernel
theorem d_md_write_4 : decode b_md_write 4 = .ok (.getfield 86, 3) := by decide +kernel
theorem d_md_write_7 : decode b_md_write 7 = .ok (.if_icmp .ge 28, 3) := by decide +kernel
theorem d_md_write_10 : decode b_md_write 10 = .ok (.aload_n 0, 1) := by decide +kernel
theorem d_md_write_11 : decode b_md_write 11 = .ok (.getfield 64, 3) := by decide +kernel
theorem d_md_write_14 : decode b_md_write 14 = .ok (.bipush 6, 2) := by decide +kernel
theorem d_md_write_16 : decode b_md_write 16 = .ok (.iload_n 1, 1) := by decide +kernel
theorem d_md_write_17 : decode b_md_write 17 = .ok (.imul, 1) := by decide +kernel
theorem d_md_write_18 : decode b_md_write 18 = .ok (.iload_n 3, 1) := by decide +kernel
theorem d_md_write_19 : decode b_md_write 19 = .ok (.iadd, 1) := by decide +kernel
theorem d_md_write_20 : decode b_md_write 20 = .ok (.aload_n 0, 1) := by decide +kernel
theorem d_md_write_21 : decode b_md_write 21 = .ok (.getfield 33, 3) := by decide +kernel
theorem d_md_write_24 : decode b_md_write 24 = .ok (.aload_n 2, 1) := by decide +kernel
theorem d_md_write_25 : decode b_md_write 25 = .ok (.iload_n 3, 1) := by decide +kernel
theorem d_md_write_26 : decode b_md_write 26 = .ok (.iaload, 1) := by decide +kernel
theorem d_md_write_27 : decode b_md_write 27 = .ok (.iaload, 1) := by decide +kernel
theorem d_md_write_28 : decode b_md_write 28 = .ok (.iastore, 1) := by decide +kernel
theorem d_md_write_29 : decode b_md_write 29 = .ok (.iinc 3 1, 3) := by decide +kernel
theorem d_md_write_32 : decode b_md_write 32 = .ok (.goto (-30), 3) := by decide +kernel
theorem d_md_write_35 : decode b_md_write 35 = .ok (.return_, 1) := by decide +kernel
theorem d_md_walk_0 : decode b_md_walk 0 = .ok (.iconst 1, 1) := by decide +kernel
theorem d_md_walk_1 : decode b_md_walk 1 = .ok (.aload_n 0, 1) := by decide +kernel
theorem d_md_walk_2 : decode b_md_walk 2 = .ok (.getfield 86, 3) := by decide +kernel
theorem d_md_walk_5 : decode b_md_walk 5 = .ok (.ishl, 1) := by decide +kernel
theorem d_md_walk_6 : decode b_md_walk 6 = .ok (.iconst 1, 1) := by decide +kernel
theorem d_md_walk_7 : decode b_md_walk 7 = .ok (.isub, 1) := by decide +kernel
theorem d_md_walk_8 : decode b_md_walk 8 = .ok (.istore_n 2, 1) := by decide +kernel
theorem d_md_walk_9 : decode b_md_walk 9 = .ok (.iconst 0, 1) := by decide +kernel
theorem d_md_walk_10 : decode b_md_walk 10 = .ok (.istore_n 3, 1) := by decide +kernel
theorem d_md_walk_11 : decode b_md_walk 11 = .ok (.iload_n 3, 1) := by decide +kernel
theorem d_md_walk_12 : decode b_md_walk 12 = .ok (.iload_n 2, 1) := by decide +kernel
theorem d_md_walk_13 : decode b_md_walk 13 = .ok (.if_icmp .gt 32, 3) := by decide +kernel
theorem d_md_walk_16 : decode b_md_walk 16 = .ok (.aload_n 0, 1) := by decide +kernel
theorem d_md_walk_17 : decode b_md_walk 17 = .ok (.getfield 70, 3) := by decide +kernel
theorem d_md_walk_20 : decode b_md_walk 20 = .ok (.iload_n 3, 1) := by decide +kernel
theorem d_md_walk_21 : decode b_md_walk 21 = .ok (.aload_n 0, 1) := by decide +kernel
theorem d_md_walk_22 : decode b_md_walk 22 = .ok (.iload_n 3, 1) := by decide +kernel
theorem d_md_walk_23 : decode b_md_walk 23 = .ok (.aload_n 0, 1) := by decide +kernel
theorem d_md_walk_24 : decode b_md_walk 24 = .ok (.getfield 55, 3) := by decide +kernel
theorem d_md_walk_27 : decode b_md_walk 27 = .ok (.invokevirtual 179, 3) := by decide +kernel
theorem d_md_walk_30 : decode b_md_walk 30 = .ok (.ifCond .eq 7, 3) := by decide +kernel
theorem d_md_walk_33 : decode b_md_walk 33 = .ok (.iconst 0, 1) := by decide +kernel
theorem d_md_walk_34 : decode b_md_walk 34 = .ok (.goto 4, 3) := by decide +kernel
theorem d_md_walk_37 : decode b_md_walk 37 = .ok (.iconst (-1), 1) := by decide +kernel
theorem d_md_walk_38 : decode b_md_walk 38 = .ok (.iastore, 1) := by decide +kernel
theorem d_md_walk_39 : decode b_md_walk 39 = .ok (.iinc 3 1, 3) := by decide +kernel
theorem d_md_walk_42 : decode b_md_walk 42 = .ok (.goto (-31), 3) := by decide +kernel
theorem d_md_walk_45 : decode b_md_walk 45 = .ok (.aload_n 0, 1) := by decide +kernel
theorem d_md_walk_46 : decode b_md_walk 46 = .ok (.iconst 0, 1) := by decide +kernel
theorem d_md_walk_47 : decode b_md_walk 47 = .ok (.putfield 167, 3) := by decide +kernel
theorem d_md_walk_50 : decode b_md_walk 50 = .ok (.aload_n 0, 1) := by decide +kernel
theorem d_md_walk_51 : decode b_md_walk 51 = .ok (.iconst 0, 1) := by decide +kernel
theorem d_md_walk_52 : decode b_md_walk 52 = .ok (.aload_n 0, 1) := by decide +kernel
theorem d_md_walk_53 : decode b_md_walk 53 = .ok (.getfield 55, 3) := by decide +kernel
theorem d_md_walk_56 : decode b_md_walk 56 = .ok (.invokevirtual 183, 3) := by decide +kernel
theorem d_md_walk_59 : decode b_md_walk 59 = .ok (.aload_n 0, 1) := by decide +kernel
theorem d_md_walk_60 : decode b_md_walk 60 = .ok (.getfield 70, 3) := by decide +kernel
theorem d_md_walk_63 : decode b_md_walk 63 = .ok (.iload_n 2, 1) := by decide +kernel
theorem d_md_walk_64 : decode b_md_walk 64 = .ok (.iaload, 1) := by decide +kernel
theorem d_md_walk_65 : decode b_md_walk 65 = .ok (.iload_n 1, 1) := by decide +kernel
theorem d_md_walk_66 : decode b_md_walk 66 = .ok (.if_icmp .eq 119, 3) := by decide +kernel
theorem d_md_walk_69 : decode b_md_walk 69 = .ok (.aload_n 0, 1) := by decide +kernel
theorem d_md_walk_70 : decode b_md_walk 70 = .ok (.invokevirtual 140, 3) := by decide +kernel
theorem d_md_walk_73 : decode b_md_walk 73 = .ok (.aload_n 0, 1) := by decide +kernel
theorem d_md_walk_74 : decode b_md_walk 74 = .ok (.iconst 0, 1) := by decide +kernel
theorem d_md_walk_75 : decode b_md_walk 75 = .ok (.invokevirtual 143, 3) := by decide +kernel
theorem d_md_walk_78 : decode b_md_walk 78 = .ok (.aload_n 0, 1) := by decide +kernel
theorem d_md_walk_79 : decode b_md_walk 79 = .ok (.invokevirtual 146, 3) := by decide +kernel
theorem d_md_walk_82 : decode b_md_walk 82 = .ok (.ifCond .ne 11, 3) := by decide +kernel
theorem d_md_walk_85 : decode b_md_walk 85 = .ok (.aload_n 0, 1) := by decide +kernel
theorem d_md_walk_86 : decode b_md_walk 86 = .ok (.iload_n 1, 1) := by decide +kernel
theorem d_md_walk_87 : decode b_md_walk 87 = .ok (.invokevirtual 187, 3) := by decide +kernel
theorem d_md_walk_90 : decode b_md_walk 90 = .ok (.ifCond .ne 17, 3) := by decide +kernel
theorem d_md_walk_93 : decode b_md_walk 93 = .ok (.aload_n 0, 1) := by decide +kernel
theorem d_md_walk_94 : decode b_md_walk 94 = .ok (.iconst 0, 1) := by decide +kernel
theorem d_md_walk_95 : decode b_md_walk 95 = .ok (.invokevirtual 157, 3) := by decide +kernel
theorem d_md_walk_98 : decode b_md_walk 98 = .ok (.istore_n 3, 1) := by decide +kernel
theorem d_md_walk_99 : decode b_md_walk 99 = .ok (.aload_n 0, 1) := by decide +kernel
theorem d_md_walk_100 : decode b_md_walk 100 = .ok (.iconst 0, 1) := by decide +kernel
theorem d_md_walk_101 : decode b_md_walk 101 = .ok (.invokevirtual 143, 3) := by decide +kernel
theorem d_md_walk_104 : decode b_md_walk 104 = .ok (.goto (-26), 3) := by decide +kernel
theorem d_md_walk_107 : decode b_md_walk 107 = .ok (.iconst 0, 1) := by decide +kernel
theorem d_md_walk_108 : decode b_md_walk 108 = .ok (.istore_n 3, 1) := by decide +kernel
theorem d_md_walk_109 : decode b_md_walk 109 = .ok (.iload_n 3, 1) := by decide +kernel
theorem d_md_walk_110 : decode b_md_walk 110 = .ok (.iload_n 2, 1) := by decide +kernel
theorem d_md_walk_111 : decode b_md_walk 111 = .ok (.if_icmp .gt 21, 3) := by decide +kernel
theorem d_md_walk_114 : decode b_md_walk 114 = .ok (.aload_n 0, 1) := by decide +kernel
theorem d_md_walk_115 : decode b_md_walk 115 = .ok (.getfield 70, 3) := by decide +kernel
theorem d_md_walk_118 : decode b_md_walk 118 = .ok (.iload_n 3, 1) := by decide +kernel
theorem d_md_walk_119 : decode b_md_walk 119 = .ok (.aload_n 0, 1) := by decide +kernel
theorem d_md_walk_120 : decode b_md_walk 120 = .ok (.getfield 73, 3) := by decide +kernel
theorem d_md_walk_123 : decode b_md_walk 123 = .ok (.iload_n 3, 1) := by decide +kernel
theorem d_md_walk_124 : decode b_md_walk 124 = .ok (.iaload, 1) := by decide +kernel
theorem d_md_walk_125 : decode b_md_walk 125 = .ok (.iastore, 1) := by decide +kernel
theorem d_md_walk_126 : decode b_md_walk 126 = .ok (.iinc 3 1, 3) := by decide +kernel
theorem d_md_walk_129 : decode b_md_walk 129 = .ok (.goto (-20), 3) := by decide +kernel
theorem d_md_walk_132 : decode b_md_walk 132 = .ok (.iconst 0, 1) := by decide +kernel
theorem d_md_walk_133 : decode b_md_walk 133 = .ok (.istore_n 3, 1) := by decide +kernel
theorem d_md_walk_134 : decode b_md_walk 134 = .ok (.iload_n 3, 1) := by decide +kernel
theorem d_md_walk_135 : decode b_md_walk 135 = .ok (.aload_n 0, 1) := by decide +kernel
theorem d_md_walk_136 : decode b_md_walk 136 = .ok (.getfield 86, 3) := by decide +kernel
theorem d_md_walk_139 : decode b_md_walk 139 = .ok (.if_icmp .ge 21, 3) := by decide +kernel
theorem d_md_walk_142 : decode b_md_walk 142 = .ok (.aload_n 0, 1) := by decide +kernel
theorem d_md_walk_143 : decode b_md_walk 143 = .ok (.getfield 55, 3) := by decide +kernel
theorem d_md_walk_146 : decode b_md_walk 146 = .ok (.iload_n 3, 1) := by decide +kernel
theorem d_md_walk_147 : decode b_md_walk 147 = .ok (.aload_n 0, 1) := by decide +kernel
theorem d_md_walk_148 : decode b_md_walk 148 = .ok (.getfield 58, 3) := by decide +kernel
theorem d_md_walk_151 : decode b_md_walk 151 = .ok (.iload_n 3, 1) := by decide +kernel
theorem d_md_walk_152 : decode b_md_walk 152 = .ok (.iaload, 1) := by decide +kernel
theorem d_md_walk_153 : decode b_md_walk 153 = .ok (.iastore, 1) := by decide +kernel
theorem d_md_walk_154 : decode b_md_walk 154 = .ok (.iinc 3 1, 3) := by decide +kernel
theorem d_md_walk_157 : decode b_md_walk 157 = .ok (.goto (-23), 3) := by decide +kernel
theorem d_md_walk_160 : decode b_md_walk 160 = .ok (.aload_n 0, 1) := by decide +kernel
theorem d_md_walk_161 : decode b_md_walk 161 = .ok (.dup, 1) := by decide +kernel
theorem d_md_walk_162 : decode b_md_walk 162 = .ok (.getfield 167, 3) := by decide +kernel
theorem d_md_walk_165 : decode b_md_walk 165 = .ok (.iconst 1, 1) := by decide +kernel
theorem d_md_walk_166 : decode b_md_walk 166 = .ok (.iadd, 1) := by decide +kernel
theorem d_md_walk_167 : decode b_md_walk 167 = .ok (.putfield 167, 3) := by decide +kernel
theorem d_md_walk_170 : decode b_md_walk 170 = .ok (.aload_n 0, 1) := by decide +kernel
theorem d_md_walk_171 : decode b_md_walk 171 = .ok (.aload_n 0, 1) := by decide +kernel
theorem d_md_walk_172 : decode b_md_walk 172 = .ok (.getfield 167, 3) := by decide +kernel
theorem d_md_walk_175 : decode b_md_walk 175 = .ok (.aload_n 0, 1) := by decide +kernel
theorem d_md_walk_176 : decode b_md_walk 176 = .ok (.getfield 55, 3) := by decide +kernel
theorem d_md_walk_179 : decode b_md_walk 179 = .ok (.invokevirtual 183, 3) := by decide +kernel
theorem d_md_walk_182 : decode b_md_walk 182 = .ok (.goto (-123), 3) := by decide +kernel
theorem d_md_walk_185 : decode b_md_walk 185 = .ok (.iconst 0, 1) := by decide +kernel
theorem d_md_walk_186 : decode b_md_walk 186 = .ok (.istore_n 3, 1) := by decide +kernel
theorem d_md_walk_187 : decode b_md_walk 187 = .ok (.iload_n 3, 1) := by decide +kernel
theorem d_md_walk_188 : decode b_md_walk 188 = .ok (.aload_n 0, 1) := by decide +kernel
theorem d_md_walk_189 : decode b_md_walk 189 = .ok (.getfield 86, 3) := by decide +kernel
theorem d_md_walk_192 : decode b_md_walk 192 = .ok (.if_icmp .ge 57, 3) := by decide +kernel
theorem d_md_walk_195 : decode b_md_walk 195 = .ok (.aload_n 0, 1) := by decide +kernel
theorem d_md_walk_196 : decode b_md_walk 196 = .ok (.getfield 167, 3) := by decide +kernel
theorem d_md_walk_199 : decode b_md_walk 199 = .ok (.istore 4, 2) := by decide +kernel
theorem d_md_walk_201 : decode b_md_walk 201 = .ok (.iload 4, 2) := by decide +kernel
theorem d_md_walk_203 : decode b_md_walk 203 = .ok (.ifCond .le 32, 3) := by decide +kernel
theorem d_md_walk_206 : decode b_md_walk 206 = .ok (.aload_n 0, 1) := by decide +kernel
theorem d_md_walk_207 : decode b_md_walk 207 = .ok (.getfield 64, 3) := by decide +kernel
theorem d_md_walk_210 : decode b_md_walk 210 = .ok (.bipush 6, 2) := by decide +kernel
theorem d_md_walk_212 : decode b_md_walk 212 = .ok (.iload 4, 2) := by decide +kernel
theorem d_md_walk_214 : decode b_md_walk 214 = .ok (.iconst 1, 1) := by decide +kernel
theorem d_md_walk_215 : decode b_md_walk 215 = .ok (.isub, 1) := by decide +kernel
theorem d_md_walk_216 : decode b_md_walk 216 = .ok (.imul, 1) := by decide +kernel
theorem d_md_walk_217 : decode b_md_walk 217 = .ok (.iload_n 3, 1) := by decide +kernel
theorem d_md_walk_218 : decode b_md_walk 218 = .ok (.iadd, 1) := by decide +kernel
theorem d_md_walk_219 : decode b_md_walk 219 = .ok (.iaload, 1) := by decide +kernel
theorem d_md_walk_220 : decode b_md_walk 220 = .ok (.aload_n 0, 1) := by decide +kernel
theorem d_md_walk_221 : decode b_md_walk 221 = .ok (.getfield 24, 3) := by decide +kernel
theorem d_md_walk_224 : decode b_md_walk 224 = .ok (.iload_n 3, 1) := by decide +kernel
theorem d_md_walk_225 : decode b_md_walk 225 = .ok (.iaload, 1) := by decide +kernel
theorem d_md_walk_226 : decode b_md_walk 226 = .ok (.if_icmp .ne 9, 3) := by decide +kernel
theorem d_md_walk_229 : decode b_md_walk 229 = .ok (.iinc 4 (-1), 3) := by decide +kernel
theorem d_md_walk_232 : decode b_md_walk 232 = .ok (.goto (-31), 3) := by decide +kernel
theorem d_md_walk_235 : decode b_md_walk 235 = .ok (.aload_n 0, 1) := by decide +kernel
theorem d_md_walk_236 : decode b_md_walk 236 = .ok (.getfield 67, 3) := by decide +kernel
theorem d_md_walk_239 : decode b_md_walk 239 = .ok (.iload_n 3, 1) := by decide +kernel
theorem d_md_walk_240 : decode b_md_walk 240 = .ok (.iload 4, 2) := by decide +kernel
theorem d_md_walk_242 : decode b_md_walk 242 = .ok (.iastore, 1) := by decide +kernel
theorem d_md_walk_243 : decode b_md_walk 243 = .ok (.iinc 3 1, 3) := by decide +kernel
theorem d_md_walk_246 : decode b_md_walk 246 = .ok (.goto (-59), 3) := by decide +kernel
theorem d_md_walk_249 : decode b_md_walk 249 = .ok (.return_, 1) := by decide +kernel
theorem d_md_goesOn_0 : decode b_md_goesOn 0 = .ok (.iconst 1, 1) := by decide +kernel
theorem d_md_goesOn_1 : decode b_md_goesOn 1 = .ok (.aload_n 0, 1) := by decide +kernel
theorem d_md_goesOn_2 : decode b_md_goesOn 2 = .ok (.getfield 86, 3) := by decide +kernel
theorem d_md_goesOn_5 : decode b_md_goesOn 5 = .ok (.ishl, 1) := by decide +kernel
theorem d_md_goesOn_6 : decode b_md_goesOn 6 = .ok (.iconst 1, 1) := by decide +kernel
theorem d_md_goesOn_7 : decode b_md_goesOn 7 = .ok (.isub, 1) := by decide +kernel
theorem d_md_goesOn_8 : decode b_md_goesOn 8 = .ok (.istore_n 2, 1) := by decide +kernel
theorem d_md_goesOn_9 : decode b_md_goesOn 9 = .ok (.iconst 0, 1) := by decide +kernel
theorem d_md_goesOn_10 : decode b_md_goesOn 10 = .ok (.istore_n 3, 1) := by decide +kernel
theorem d_md_goesOn_11 : decode b_md_goesOn 11 = .ok (.aload_n 0, 1) := by decide +kernel
theorem d_md_goesOn_12 : decode b_md_goesOn 12 = .ok (.aload_n 0, 1) := by decide +kernel
theorem d_md_goesOn_13 : decode b_md_goesOn 13 = .ok (.getfield 58, 3) := by decide +kernel
theorem d_md_goesOn_16 : decode b_md_goesOn 16 = .ok (.invokevirtual 150, 3) := by decide +kernel
theorem d_md_goesOn_19 : decode b_md_goesOn 19 = .ok (.istore 4, 2) := by decide +kernel
theorem d_md_goesOn_21 : decode b_md_goesOn 21 = .ok (.iconst 0, 1) := by decide +kernel
theorem d_md_goesOn_22 : decode b_md_goesOn 22 = .ok (.istore 5, 2) := by decide +kernel
theorem d_md_goesOn_24 : decode b_md_goesOn 24 = .ok (.iload 5, 2) := by decide +kernel
theorem d_md_goesOn_26 : decode b_md_goesOn 26 = .ok (.iload_n 2, 1) := by decide +kernel
theorem d_md_goesOn_27 : decode b_md_goesOn 27 = .ok (.if_icmp .gt 186, 3) := by decide +kernel
theorem d_md_goesOn_30 : decode b_md_goesOn 30 = .ok (.aload_n 0, 1) := by decide +kernel
theorem d_md_goesOn_31 : decode b_md_goesOn 31 = .ok (.getfield 73, 3) := by decide +kernel
theorem d_md_goesOn_34 : decode b_md_goesOn 34 = .ok (.iload 5, 2) := by decide +kernel
theorem d_md_goesOn_36 : decode b_md_goesOn 36 = .ok (.iconst (-1), 1) := by decide +kernel
theorem d_md_goesOn_37 : decode b_md_goesOn 37 = .ok (.iastore, 1) := by decide +kernel
theorem d_md_goesOn_38 : decode b_md_goesOn 38 = .ok (.iconst 0, 1) := by decide +kernel
theorem d_md_goesOn_39 : decode b_md_goesOn 39 = .ok (.istore 6, 2) := by decide +kernel
theorem d_md_goesOn_41 : decode b_md_goesOn 41 = .ok (.iload 6, 2) := by decide +kernel
theorem d_md_goesOn_43 : decode b_md_goesOn 43 = .ok (.iload 5, 2) := by decide +kernel
theorem d_md_goesOn_45 : decode b_md_goesOn 45 = .ok (.if_icmp .gt 114, 3) := by decide +kernel
theorem d_md_goesOn_48 : decode b_md_goesOn 48 = .ok (.aload_n 0, 1) := by decide +kernel
theorem d_md_goesOn_49 : decode b_md_goesOn 49 = .ok (.iload 5, 2) := by decide +kernel
theorem d_md_goesOn_51 : decode b_md_goesOn 51 = .ok (.aload_n 0, 1) := by decide +kernel
theorem d_md_goesOn_52 : decode b_md_goesOn 52 = .ok (.getfield 58, 3) := by decide +kernel
theorem d_md_goesOn_55 : decode b_md_goesOn 55 = .ok (.invokevirtual 179, 3) := by decide +kernel
theorem d_md_goesOn_58 : decode b_md_goesOn 58 = .ok (.ifCond .eq 101, 3) := by decide +kernel
theorem d_md_goesOn_61 : decode b_md_goesOn 61 = .ok (.iload 6, 2) := by decide +kernel
theorem d_md_goesOn_63 : decode b_md_goesOn 63 = .ok (.iload 5, 2) := by decide +kernel
theorem d_md_goesOn_65 : decode b_md_goesOn 65 = .ok (.iconst (-1), 1) := by decide +kernel
theorem d_md_goesOn_66 : decode b_md_goesOn 66 = .ok (.ixor, 1) := by decide +kernel
theorem d_md_goesOn_67 : decode b_md_goesOn 67 = .ok (.iand, 1) := by decide +kernel
theorem d_md_goesOn_68 : decode b_md_goesOn 68 = .ok (.ifCond .ne 85, 3) := by decide +kernel
theorem d_md_goesOn_71 : decode b_md_goesOn 71 = .ok (.aload_n 0, 1) := by decide +kernel
theorem d_md_goesOn_72 : decode b_md_goesOn 72 = .ok (.getfield 70, 3) := by decide +kernel
theorem d_md_goesOn_75 : decode b_md_goesOn 75 = .ok (.iload 6, 2) := by decide +kernel
theorem d_md_goesOn_77 : decode b_md_goesOn 77 = .ok (.iaload, 1) := by decide +kernel
theorem d_md_goesOn_78 : decode b_md_goesOn 78 = .ok (.iconst (-1), 1) := by decide +kernel
theorem d_md_goesOn_79 : decode b_md_goesOn 79 = .ok (.if_icmp .eq 74, 3) := by decide +kernel
theorem d_md_goesOn_82 : decode b_md_goesOn 82 = .ok (.aload_n 0, 1) := by decide +kernel
theorem d_md_goesOn_83 : decode b_md_goesOn 83 = .ok (.iload 6, 2) := by decide +kernel
theorem d_md_goesOn_85 : decode b_md_goesOn 85 = .ok (.invokevirtual 190, 3) := by decide +kernel
theorem d_md_goesOn_88 : decode b_md_goesOn 88 = .ok (.ifCond .eq 65, 3) := by decide +kernel
theorem d_md_goesOn_91 : decode b_md_goesOn 91 = .ok (.aload_n 0, 1) := by decide +kernel
theorem d_md_goesOn_92 : decode b_md_goesOn 92 = .ok (.getfield 70, 3) := by decide +kernel
theorem d_md_goesOn_95 : decode b_md_goesOn 95 = .ok (.iload 6, 2) := by decide +kernel
theorem d_md_goesOn_97 : decode b_md_goesOn 97 = .ok (.iaload, 1) := by decide +kernel
theorem d_md_goesOn_98 : decode b_md_goesOn 98 = .ok (.aload_n 0, 1) := by decide +kernel
theorem d_md_goesOn_99 : decode b_md_goesOn 99 = .ok (.getfield 86, 3) := by decide +kernel
theorem d_md_goesOn_102 : decode b_md_goesOn 102 = .ok (.iadd, 1) := by decide +kernel
theorem d_md_goesOn_103 : decode b_md_goesOn 103 = .ok (.iload 6, 2) := by decide +kernel
theorem d_md_goesOn_105 : decode b_md_goesOn 105 = .ok (.invokestatic 154, 3) := by decide +kernel
theorem d_md_goesOn_108 : decode b_md_goesOn 108 = .ok (.isub, 1) := by decide +kernel
theorem d_md_goesOn_109 : decode b_md_goesOn 109 = .ok (.istore 7, 2) := by decide +kernel
theorem d_md_goesOn_111 : decode b_md_goesOn 111 = .ok (.aload_n 0, 1) := by decide +kernel
theorem d_md_goesOn_112 : decode b_md_goesOn 112 = .ok (.getfield 73, 3) := by decide +kernel
theorem d_md_goesOn_115 : decode b_md_goesOn 115 = .ok (.iload 5, 2) := by decide +kernel
theorem d_md_goesOn_117 : decode b_md_goesOn 117 = .ok (.aload_n 0, 1) := by decide +kernel
theorem d_md_goesOn_118 : decode b_md_goesOn 118 = .ok (.getfield 73, 3) := by decide +kernel
theorem d_md_goesOn_121 : decode b_md_goesOn 121 = .ok (.iload 5, 2) := by decide +kernel
theorem d_md_goesOn_123 : decode b_md_goesOn 123 = .ok (.iaload, 1) := by decide +kernel
theorem d_md_goesOn_124 : decode b_md_goesOn 124 = .ok (.iconst (-1), 1) := by decide +kernel
theorem d_md_goesOn_125 : decode b_md_goesOn 125 = .ok (.if_icmp .eq 15, 3) := by decide +kernel
theorem d_md_goesOn_128 : decode b_md_goesOn 128 = .ok (.iload 7, 2) := by decide +kernel
theorem d_md_goesOn_130 : decode b_md_goesOn 130 = .ok (.aload_n 0, 1) := by decide +kernel
theorem d_md_goesOn_131 : decode b_md_goesOn 131 = .ok (.getfield 73, 3) := by decide +kernel
theorem d_md_goesOn_134 : decode b_md_goesOn 134 = .ok (.iload 5, 2) := by decide +kernel
theorem d_md_goesOn_136 : decode b_md_goesOn 136 = .ok (.iaload, 1) := by decide +kernel
theorem d_md_goesOn_137 : decode b_md_goesOn 137 = .ok (.if_icmp .ge 8, 3) := by decide +kernel
theorem d_md_goesOn_140 : decode b_md_goesOn 140 = .ok (.iload 7, 2) := by decide +kernel
theorem d_md_goesOn_142 : decode b_md_goesOn 142 = .ok (.goto 10, 3) := by decide +kernel
theorem d_md_goesOn_145 : decode b_md_goesOn 145 = .ok (.aload_n 0, 1) := by decide +kernel
theorem d_md_goesOn_146 : decode b_md_goesOn 146 = .ok (.getfield 73, 3) := by decide +kernel
theorem d_md_goesOn_149 : decode b_md_goesOn 149 = .ok (.iload 5, 2) := by decide +kernel
theorem d_md_goesOn_151 : decode b_md_goesOn 151 = .ok (.iaload, 1) := by decide +kernel
theorem d_md_goesOn_152 : decode b_md_goesOn 152 = .ok (.iastore, 1) := by decide +kernel
theorem d_md_goesOn_153 : decode b_md_goesOn 153 = .ok (.iinc 6 1, 3) := by decide +kernel
theorem d_md_goesOn_156 : decode b_md_goesOn 156 = .ok (.goto (-115), 3) := by decide +kernel
theorem d_md_goesOn_159 : decode b_md_goesOn 159 = .ok (.iload_n 3, 1) := by decide +kernel
theorem d_md_goesOn_160 : decode b_md_goesOn 160 = .ok (.ifCond .ne 41, 3) := by decide +kernel
theorem d_md_goesOn_163 : decode b_md_goesOn 163 = .ok (.aload_n 0, 1) := by decide +kernel
theorem d_md_goesOn_164 : decode b_md_goesOn 164 = .ok (.getfield 73, 3) := by decide +kernel
theorem d_md_goesOn_167 : decode b_md_goesOn 167 = .ok (.iload 5, 2) := by decide +kernel
theorem d_md_goesOn_169 : decode b_md_goesOn 169 = .ok (.iaload, 1) := by decide +kernel
theorem d_md_goesOn_170 : decode b_md_goesOn 170 = .ok (.iconst (-1), 1) := by decide +kernel
theorem d_md_goesOn_171 : decode b_md_goesOn 171 = .ok (.if_icmp .eq 34, 3) := by decide +kernel
theorem d_md_goesOn_174 : decode b_md_goesOn 174 = .ok (.aload_n 0, 1) := by decide +kernel
theorem d_md_goesOn_175 : decode b_md_goesOn 175 = .ok (.getfield 73, 3) := by decide +kernel
theorem d_md_goesOn_178 : decode b_md_goesOn 178 = .ok (.iload 5, 2) := by decide +kernel
theorem d_md_goesOn_180 : decode b_md_goesOn 180 = .ok (.iaload, 1) := by decide +kernel
theorem d_md_goesOn_181 : decode b_md_goesOn 181 = .ok (.aload_n 0, 1) := by decide +kernel
theorem d_md_goesOn_182 : decode b_md_goesOn 182 = .ok (.getfield 46, 3) := by decide +kernel
theorem d_md_goesOn_185 : decode b_md_goesOn 185 = .ok (.iload 4, 2) := by decide +kernel
theorem d_md_goesOn_187 : decode b_md_goesOn 187 = .ok (.aload_n 0, 1) := by decide +kernel
theorem d_md_goesOn_188 : decode b_md_goesOn 188 = .ok (.getfield 86, 3) := by decide +kernel
theorem d_md_goesOn_191 : decode b_md_goesOn 191 = .ok (.ishl, 1) := by decide +kernel
theorem d_md_goesOn_192 : decode b_md_goesOn 192 = .ok (.iload 5, 2) := by decide +kernel
theorem d_md_goesOn_194 : decode b_md_goesOn 194 = .ok (.ior, 1) := by decide +kernel
theorem d_md_goesOn_195 : decode b_md_goesOn 195 = .ok (.iaload, 1) := by decide +kernel
theorem d_md_goesOn_196 : decode b_md_goesOn 196 = .ok (.iadd, 1) := by decide +kernel
theorem d_md_goesOn_197 : decode b_md_goesOn 197 = .ok (.iload_n 1, 1) := by decide +kernel
theorem d_md_goesOn_198 : decode b_md_goesOn 198 = .ok (.if_icmp .ne 7, 3) := by decide +kernel
theorem d_md_goesOn_201 : decode b_md_goesOn 201 = .ok (.iconst 1, 1) := by decide +kernel
theorem d_md_goesOn_202 : decode b_md_goesOn 202 = .ok (.goto 4, 3) := by decide +kernel
theorem d_md_goesOn_205 : decode b_md_goesOn 205 = .ok (.iconst 0, 1) := by decide +kernel
theorem d_md_goesOn_206 : decode b_md_goesOn 206 = .ok (.istore_n 3, 1) := by decide +kernel
theorem d_md_goesOn_207 : decode b_md_goesOn 207 = .ok (.iinc 5 1, 3) := by decide +kernel
theorem d_md_goesOn_210 : decode b_md_goesOn 210 = .ok (.goto (-186), 3) := by decide +kernel
theorem d_md_goesOn_213 : decode b_md_goesOn 213 = .ok (.iload_n 3, 1) := by decide +kernel
theorem d_md_goesOn_214 : decode b_md_goesOn 214 = .ok (.ireturn, 1) := by decide +kernel
theorem d_md_stays_0 : decode b_md_stays 0 = .ok (.iconst 1, 1) := by decide +kernel
theorem d_md_stays_1 : decode b_md_stays 1 = .ok (.istore_n 2, 1) := by decide +kernel
theorem d_md_stays_2 : decode b_md_stays 2 = .ok (.iconst 0, 1) := by decide +kernel
theorem d_md_stays_3 : decode b_md_stays 3 = .ok (.istore_n 3, 1) := by decide +kernel
theorem d_md_stays_4 : decode b_md_stays 4 = .ok (.iload_n 3, 1) := by decide +kernel
theorem d_md_stays_5 : decode b_md_stays 5 = .ok (.aload_n 0, 1) := by decide +kernel
theorem d_md_stays_6 : decode b_md_stays 6 = .ok (.getfield 86, 3) := by decide +kernel
theorem d_md_stays_9 : decode b_md_stays 9 = .ok (.if_icmp .ge 42, 3) := by decide +kernel
theorem d_md_stays_12 : decode b_md_stays 12 = .ok (.iload_n 2, 1) := by decide +kernel
theorem d_md_stays_13 : decode b_md_stays 13 = .ok (.ifCond .eq 30, 3) := by decide +kernel
theorem d_md_stays_16 : decode b_md_stays 16 = .ok (.iload_n 1, 1) := by decide +kernel
theorem d_md_stays_17 : decode b_md_stays 17 = .ok (.iload_n 3, 1) := by decide +kernel
theorem d_md_stays_18 : decode b_md_stays 18 = .ok (.invokestatic 123, 3) := by decide +kernel
theorem d_md_stays_21 : decode b_md_stays 21 = .ok (.ifCond .eq 18, 3) := by decide +kernel
theorem d_md_stays_24 : decode b_md_stays 24 = .ok (.aload_n 0, 1) := by decide +kernel
theorem d_md_stays_25 : decode b_md_stays 25 = .ok (.getfield 58, 3) := by decide +kernel
theorem d_md_stays_28 : decode b_md_stays 28 = .ok (.iload_n 3, 1) := by decide +kernel
theorem d_md_stays_29 : decode b_md_stays 29 = .ok (.iaload, 1) := by decide +kernel
theorem d_md_stays_30 : decode b_md_stays 30 = .ok (.aload_n 0, 1) := by decide +kernel
theorem d_md_stays_31 : decode b_md_stays 31 = .ok (.getfield 55, 3) := by decide +kernel
theorem d_md_stays_34 : decode b_md_stays 34 = .ok (.iload_n 3, 1) := by decide +kernel
theorem d_md_stays_35 : decode b_md_stays 35 = .ok (.iaload, 1) := by decide +kernel
theorem d_md_stays_36 : decode b_md_stays 36 = .ok (.if_icmp .ne 7, 3) := by decide +kernel
theorem d_md_stays_39 : decode b_md_stays 39 = .ok (.iconst 1, 1) := by decide +kernel
theorem d_md_stays_40 : decode b_md_stays 40 = .ok (.goto 4, 3) := by decide +kernel
theorem d_md_stays_43 : decode b_md_stays 43 = .ok (.iconst 0, 1) := by decide +kernel
theorem d_md_stays_44 : decode b_md_stays 44 = .ok (.istore_n 2, 1) := by decide +kernel
theorem d_md_stays_45 : decode b_md_stays 45 = .ok (.iinc 3 1, 3) := by decide +kernel
theorem d_md_stays_48 : decode b_md_stays 48 = .ok (.goto (-44), 3) := by decide +kernel
theorem d_md_stays_51 : decode b_md_stays 51 = .ok (.iload_n 2, 1) := by decide +kernel
theorem d_md_stays_52 : decode b_md_stays 52 = .ok (.ireturn, 1) := by decide +kernel
theorem d_md_place_0 : decode b_md_place 0 = .ok (.iconst (-1), 1) := by decide +kernel
theorem d_md_place_1 : decode b_md_place 1 = .ok (.istore_n 3, 1) := by decide +kernel
theorem d_md_place_2 : decode b_md_place 2 = .ok (.iconst 0, 1) := by decide +kernel
theorem d_md_place_3 : decode b_md_place 3 = .ok (.istore 4, 2) := by decide +kernel
theorem d_md_place_5 : decode b_md_place 5 = .ok (.iload 4, 2) := by decide +kernel
theorem d_md_place_7 : decode b_md_place 7 = .ok (.iload_n 2, 1) := by decide +kernel
theorem d_md_place_8 : decode b_md_place 8 = .ok (.if_icmp .gt 39, 3) := by decide +kernel
theorem d_md_place_11 : decode b_md_place 11 = .ok (.aload_n 0, 1) := by decide +kernel
theorem d_md_place_12 : decode b_md_place 12 = .ok (.getfield 30, 3) := by decide +kernel
theorem d_md_place_15 : decode b_md_place 15 = .ok (.bipush 30, 2) := by decide +kernel
theorem d_md_place_17 : decode b_md_place 17 = .ok (.iload_n 1, 1) := by decide +kernel
theorem d_md_place_18 : decode b_md_place 18 = .ok (.imul, 1) := by decide +kernel
theorem d_md_place_19 : decode b_md_place 19 = .ok (.iload 4, 2) := by decide +kernel
theorem d_md_place_21 : decode b_md_place 21 = .ok (.iadd, 1) := by decide +kernel
theorem d_md_place_22 : decode b_md_place 22 = .ok (.baload, 1) := by decide +kernel
theorem d_md_place_23 : decode b_md_place 23 = .ok (.ifCond .ne 5, 3) := by decide +kernel
theorem d_md_place_26 : decode b_md_place 26 = .ok (.iload_n 3, 1) := by decide +kernel
theorem d_md_place_27 : decode b_md_place 27 = .ok (.ireturn, 1) := by decide +kernel
theorem d_md_place_28 : decode b_md_place 28 = .ok (.aload_n 0, 1) := by decide +kernel
theorem d_md_place_29 : decode b_md_place 29 = .ok (.getfield 27, 3) := by decide +kernel
theorem d_md_place_32 : decode b_md_place 32 = .ok (.bipush 30, 2) := by decide +kernel
theorem d_md_place_34 : decode b_md_place 34 = .ok (.iload_n 1, 1) := by decide +kernel
theorem d_md_place_35 : decode b_md_place 35 = .ok (.imul, 1) := by decide +kernel
theorem d_md_place_36 : decode b_md_place 36 = .ok (.iload 4, 2) := by decide +kernel
theorem d_md_place_38 : decode b_md_place 38 = .ok (.iadd, 1) := by decide +kernel
theorem d_md_place_39 : decode b_md_place 39 = .ok (.iaload, 1) := by decide +kernel
theorem d_md_place_40 : decode b_md_place 40 = .ok (.istore_n 3, 1) := by decide +kernel
theorem d_md_place_41 : decode b_md_place 41 = .ok (.iinc 4 1, 3) := by decide +kernel
theorem d_md_place_44 : decode b_md_place 44 = .ok (.goto (-39), 3) := by decide +kernel
theorem d_md_place_47 : decode b_md_place 47 = .ok (.iload_n 3, 1) := by decide +kernel
theorem d_md_place_48 : decode b_md_place 48 = .ok (.ireturn, 1) := by decide +kernel
theorem d_md_isWrong_0 : decode b_md_isWrong 0 = .ok (.aload_n 0, 1) := by decide +kernel
theorem d_md_isWrong_1 : decode b_md_isWrong 1 = .ok (.iload_n 1, 1) := by decide +kernel
theorem d_md_isWrong_2 : decode b_md_isWrong 2 = .ok (.iload_n 2, 1) := by decide +kernel
theorem d_md_isWrong_3 : decode b_md_isWrong 3 = .ok (.invokevirtual 193, 3) := by decide +kernel
