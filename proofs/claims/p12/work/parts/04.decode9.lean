theorem d_pn_wayLeft_27 : decode b_pn_wayLeft 27 = .ok (.iaload, 1) := by decide +kernel
theorem d_pn_wayLeft_28 : decode b_pn_wayLeft 28 = .ok (.ireturn, 1) := by decide +kernel
theorem d_pn_reachesEndMoving_0 : decode b_pn_reachesEndMoving 0 = .ok (.iload_n 2, 1) := by decide +kernel
theorem d_pn_reachesEndMoving_1 : decode b_pn_reachesEndMoving 1 = .ok (.aload_n 0, 1) := by decide +kernel
theorem d_pn_reachesEndMoving_2 : decode b_pn_reachesEndMoving 2 = .ok (.getfield 34, 3) := by decide +kernel
theorem d_pn_reachesEndMoving_5 : decode b_pn_reachesEndMoving 5 = .ok (.getfield 83, 3) := by decide +kernel
theorem d_pn_reachesEndMoving_8 : decode b_pn_reachesEndMoving 8 = .ok (.if_icmp .lt 22, 3) := by decide +kernel
theorem d_pn_reachesEndMoving_11 : decode b_pn_reachesEndMoving 11 = .ok (.aload_n 0, 1) := by decide +kernel
theorem d_pn_reachesEndMoving_12 : decode b_pn_reachesEndMoving 12 = .ok (.getfield 23, 3) := by decide +kernel
theorem d_pn_reachesEndMoving_15 : decode b_pn_reachesEndMoving 15 = .ok (.iload_n 1, 1) := by decide +kernel
theorem d_pn_reachesEndMoving_16 : decode b_pn_reachesEndMoving 16 = .ok (.iconst 1, 1) := by decide +kernel
theorem d_pn_reachesEndMoving_17 : decode b_pn_reachesEndMoving 17 = .ok (.iadd, 1) := by decide +kernel
theorem d_pn_reachesEndMoving_18 : decode b_pn_reachesEndMoving 18 = .ok (.iload_n 3, 1) := by decide +kernel
theorem d_pn_reachesEndMoving_19 : decode b_pn_reachesEndMoving 19 = .ok (.iastore, 1) := by decide +kernel
theorem d_pn_reachesEndMoving_20 : decode b_pn_reachesEndMoving 20 = .ok (.aload_n 0, 1) := by decide +kernel
theorem d_pn_reachesEndMoving_21 : decode b_pn_reachesEndMoving 21 = .ok (.iload_n 1, 1) := by decide +kernel
theorem d_pn_reachesEndMoving_22 : decode b_pn_reachesEndMoving 22 = .ok (.iconst 1, 1) := by decide +kernel
theorem d_pn_reachesEndMoving_23 : decode b_pn_reachesEndMoving 23 = .ok (.iadd, 1) := by decide +kernel
theorem d_pn_reachesEndMoving_24 : decode b_pn_reachesEndMoving 24 = .ok (.iload 4, 2) := by decide +kernel
theorem d_pn_reachesEndMoving_26 : decode b_pn_reachesEndMoving 26 = .ok (.invokevirtual 115, 3) := by decide +kernel
theorem d_pn_reachesEndMoving_29 : decode b_pn_reachesEndMoving 29 = .ok (.ireturn, 1) := by decide +kernel
theorem d_pn_reachesEndMoving_30 : decode b_pn_reachesEndMoving 30 = .ok (.aload_n 0, 1) := by decide +kernel
theorem d_pn_reachesEndMoving_31 : decode b_pn_reachesEndMoving 31 = .ok (.getfield 20, 3) := by decide +kernel
theorem d_pn_reachesEndMoving_34 : decode b_pn_reachesEndMoving 34 = .ok (.iload_n 1, 1) := by decide +kernel
theorem d_pn_reachesEndMoving_35 : decode b_pn_reachesEndMoving 35 = .ok (.aaload, 1) := by decide +kernel
theorem d_pn_reachesEndMoving_36 : decode b_pn_reachesEndMoving 36 = .ok (.astore 5, 2) := by decide +kernel
theorem d_pn_reachesEndMoving_38 : decode b_pn_reachesEndMoving 38 = .ok (.aload_n 0, 1) := by decide +kernel
theorem d_pn_reachesEndMoving_39 : decode b_pn_reachesEndMoving 39 = .ok (.getfield 20, 3) := by decide +kernel
theorem d_pn_reachesEndMoving_42 : decode b_pn_reachesEndMoving 42 = .ok (.iload_n 1, 1) := by decide +kernel
theorem d_pn_reachesEndMoving_43 : decode b_pn_reachesEndMoving 43 = .ok (.iconst 1, 1) := by decide +kernel
theorem d_pn_reachesEndMoving_44 : decode b_pn_reachesEndMoving 44 = .ok (.iadd, 1) := by decide +kernel
theorem d_pn_reachesEndMoving_45 : decode b_pn_reachesEndMoving 45 = .ok (.aaload, 1) := by decide +kernel
theorem d_pn_reachesEndMoving_46 : decode b_pn_reachesEndMoving 46 = .ok (.astore 6, 2) := by decide +kernel
theorem d_pn_reachesEndMoving_48 : decode b_pn_reachesEndMoving 48 = .ok (.aload 5, 2) := by decide +kernel
theorem d_pn_reachesEndMoving_50 : decode b_pn_reachesEndMoving 50 = .ok (.iload_n 2, 1) := by decide +kernel
theorem d_pn_reachesEndMoving_51 : decode b_pn_reachesEndMoving 51 = .ok (.iaload, 1) := by decide +kernel
theorem d_pn_reachesEndMoving_52 : decode b_pn_reachesEndMoving 52 = .ok (.istore 7, 2) := by decide +kernel
theorem d_pn_reachesEndMoving_54 : decode b_pn_reachesEndMoving 54 = .ok (.iload_n 3, 1) := by decide +kernel
theorem d_pn_reachesEndMoving_55 : decode b_pn_reachesEndMoving 55 = .ok (.iconst 1, 1) := by decide +kernel
theorem d_pn_reachesEndMoving_56 : decode b_pn_reachesEndMoving 56 = .ok (.iload_n 2, 1) := by decide +kernel
theorem d_pn_reachesEndMoving_57 : decode b_pn_reachesEndMoving 57 = .ok (.ishl, 1) := by decide +kernel
theorem d_pn_reachesEndMoving_58 : decode b_pn_reachesEndMoving 58 = .ok (.ior, 1) := by decide +kernel
theorem d_pn_reachesEndMoving_59 : decode b_pn_reachesEndMoving 59 = .ok (.istore 8, 2) := by decide +kernel
theorem d_pn_reachesEndMoving_61 : decode b_pn_reachesEndMoving 61 = .ok (.aload_n 0, 1) := by decide +kernel
theorem d_pn_reachesEndMoving_62 : decode b_pn_reachesEndMoving 62 = .ok (.getfield 23, 3) := by decide +kernel
theorem d_pn_reachesEndMoving_65 : decode b_pn_reachesEndMoving 65 = .ok (.iload_n 1, 1) := by decide +kernel
theorem d_pn_reachesEndMoving_66 : decode b_pn_reachesEndMoving 66 = .ok (.iaload, 1) := by decide +kernel
theorem d_pn_reachesEndMoving_67 : decode b_pn_reachesEndMoving 67 = .ok (.iload_n 2, 1) := by decide +kernel
theorem d_pn_reachesEndMoving_68 : decode b_pn_reachesEndMoving 68 = .ok (.invokestatic 118, 3) := by decide +kernel
theorem d_pn_reachesEndMoving_71 : decode b_pn_reachesEndMoving 71 = .ok (.ifCond .eq 37, 3) := by decide +kernel
theorem d_pn_reachesEndMoving_74 : decode b_pn_reachesEndMoving 74 = .ok (.aload 5, 2) := by decide +kernel
theorem d_pn_reachesEndMoving_76 : decode b_pn_reachesEndMoving 76 = .ok (.aload 6, 2) := by decide +kernel
theorem d_pn_reachesEndMoving_78 : decode b_pn_reachesEndMoving 78 = .ok (.iload_n 2, 1) := by decide +kernel
theorem d_pn_reachesEndMoving_79 : decode b_pn_reachesEndMoving 79 = .ok (.iload 7, 2) := by decide +kernel
theorem d_pn_reachesEndMoving_81 : decode b_pn_reachesEndMoving 81 = .ok (.invokestatic 107, 3) := by decide +kernel
theorem d_pn_reachesEndMoving_84 : decode b_pn_reachesEndMoving 84 = .ok (.ifCond .eq 22, 3) := by decide +kernel
theorem d_pn_reachesEndMoving_87 : decode b_pn_reachesEndMoving 87 = .ok (.aload_n 0, 1) := by decide +kernel
theorem d_pn_reachesEndMoving_88 : decode b_pn_reachesEndMoving 88 = .ok (.iload_n 1, 1) := by decide +kernel
theorem d_pn_reachesEndMoving_89 : decode b_pn_reachesEndMoving 89 = .ok (.iload_n 2, 1) := by decide +kernel
theorem d_pn_reachesEndMoving_90 : decode b_pn_reachesEndMoving 90 = .ok (.iconst 1, 1) := by decide +kernel
theorem d_pn_reachesEndMoving_91 : decode b_pn_reachesEndMoving 91 = .ok (.iadd, 1) := by decide +kernel
theorem d_pn_reachesEndMoving_92 : decode b_pn_reachesEndMoving 92 = .ok (.iload 8, 2) := by decide +kernel
theorem d_pn_reachesEndMoving_94 : decode b_pn_reachesEndMoving 94 = .ok (.iload 4, 2) := by decide +kernel
theorem d_pn_reachesEndMoving_96 : decode b_pn_reachesEndMoving 96 = .ok (.invokevirtual 134, 3) := by decide +kernel
theorem d_pn_reachesEndMoving_99 : decode b_pn_reachesEndMoving 99 = .ok (.ifCond .eq 7, 3) := by decide +kernel
theorem d_pn_reachesEndMoving_102 : decode b_pn_reachesEndMoving 102 = .ok (.iconst 1, 1) := by decide +kernel
theorem d_pn_reachesEndMoving_103 : decode b_pn_reachesEndMoving 103 = .ok (.goto 4, 3) := by decide +kernel
theorem d_pn_reachesEndMoving_106 : decode b_pn_reachesEndMoving 106 = .ok (.iconst 0, 1) := by decide +kernel
theorem d_pn_reachesEndMoving_107 : decode b_pn_reachesEndMoving 107 = .ok (.ireturn, 1) := by decide +kernel
theorem d_pn_reachesEndMoving_108 : decode b_pn_reachesEndMoving 108 = .ok (.iload 4, 2) := by decide +kernel
theorem d_pn_reachesEndMoving_110 : decode b_pn_reachesEndMoving 110 = .ok (.aload_n 0, 1) := by decide +kernel
theorem d_pn_reachesEndMoving_111 : decode b_pn_reachesEndMoving 111 = .ok (.iload_n 2, 1) := by decide +kernel
theorem d_pn_reachesEndMoving_112 : decode b_pn_reachesEndMoving 112 = .ok (.iload 7, 2) := by decide +kernel
theorem d_pn_reachesEndMoving_114 : decode b_pn_reachesEndMoving 114 = .ok (.invokevirtual 121, 3) := by decide +kernel
theorem d_pn_reachesEndMoving_117 : decode b_pn_reachesEndMoving 117 = .ok (.iadd, 1) := by decide +kernel
theorem d_pn_reachesEndMoving_118 : decode b_pn_reachesEndMoving 118 = .ok (.iconst 1, 1) := by decide +kernel
theorem d_pn_reachesEndMoving_119 : decode b_pn_reachesEndMoving 119 = .ok (.isub, 1) := by decide +kernel
theorem d_pn_reachesEndMoving_120 : decode b_pn_reachesEndMoving 120 = .ok (.istore 9, 2) := by decide +kernel
theorem d_pn_reachesEndMoving_122 : decode b_pn_reachesEndMoving 122 = .ok (.aload_n 0, 1) := by decide +kernel
theorem d_pn_reachesEndMoving_123 : decode b_pn_reachesEndMoving 123 = .ok (.getfield 34, 3) := by decide +kernel
theorem d_pn_reachesEndMoving_126 : decode b_pn_reachesEndMoving 126 = .ok (.getfield 124, 3) := by decide +kernel
theorem d_pn_reachesEndMoving_129 : decode b_pn_reachesEndMoving 129 = .ok (.iload_n 2, 1) := by decide +kernel
theorem d_pn_reachesEndMoving_130 : decode b_pn_reachesEndMoving 130 = .ok (.aaload, 1) := by decide +kernel
theorem d_pn_reachesEndMoving_131 : decode b_pn_reachesEndMoving 131 = .ok (.iload 7, 2) := by decide +kernel
theorem d_pn_reachesEndMoving_133 : decode b_pn_reachesEndMoving 133 = .ok (.iaload, 1) := by decide +kernel
theorem d_pn_reachesEndMoving_134 : decode b_pn_reachesEndMoving 134 = .ok (.iconst 1, 1) := by decide +kernel
theorem d_pn_reachesEndMoving_135 : decode b_pn_reachesEndMoving 135 = .ok (.if_icmp .ne 40, 3) := by decide +kernel
theorem d_pn_reachesEndMoving_138 : decode b_pn_reachesEndMoving 138 = .ok (.aload 5, 2) := by decide +kernel
theorem d_pn_reachesEndMoving_140 : decode b_pn_reachesEndMoving 140 = .ok (.aload 6, 2) := by decide +kernel
theorem d_pn_reachesEndMoving_142 : decode b_pn_reachesEndMoving 142 = .ok (.iload_n 2, 1) := by decide +kernel
theorem d_pn_reachesEndMoving_143 : decode b_pn_reachesEndMoving 143 = .ok (.aload_n 0, 1) := by decide +kernel
theorem d_pn_reachesEndMoving_144 : decode b_pn_reachesEndMoving 144 = .ok (.getfield 34, 3) := by decide +kernel
theorem d_pn_reachesEndMoving_147 : decode b_pn_reachesEndMoving 147 = .ok (.getfield 96, 3) := by decide +kernel
theorem d_pn_reachesEndMoving_150 : decode b_pn_reachesEndMoving 150 = .ok (.iload_n 2, 1) := by decide +kernel
theorem d_pn_reachesEndMoving_151 : decode b_pn_reachesEndMoving 151 = .ok (.iaload, 1) := by decide +kernel
theorem d_pn_reachesEndMoving_152 : decode b_pn_reachesEndMoving 152 = .ok (.invokestatic 107, 3) := by decide +kernel
theorem d_pn_reachesEndMoving_155 : decode b_pn_reachesEndMoving 155 = .ok (.ifCond .eq 20, 3) := by decide +kernel
theorem d_pn_reachesEndMoving_158 : decode b_pn_reachesEndMoving 158 = .ok (.aload_n 0, 1) := by decide +kernel
theorem d_pn_reachesEndMoving_159 : decode b_pn_reachesEndMoving 159 = .ok (.iload_n 1, 1) := by decide +kernel
theorem d_pn_reachesEndMoving_160 : decode b_pn_reachesEndMoving 160 = .ok (.iload_n 2, 1) := by decide +kernel
theorem d_pn_reachesEndMoving_161 : decode b_pn_reachesEndMoving 161 = .ok (.iconst 1, 1) := by decide +kernel
theorem d_pn_reachesEndMoving_162 : decode b_pn_reachesEndMoving 162 = .ok (.iadd, 1) := by decide +kernel
theorem d_pn_reachesEndMoving_163 : decode b_pn_reachesEndMoving 163 = .ok (.iload 8, 2) := by decide +kernel
theorem d_pn_reachesEndMoving_165 : decode b_pn_reachesEndMoving 165 = .ok (.iload 9, 2) := by decide +kernel
theorem d_pn_reachesEndMoving_167 : decode b_pn_reachesEndMoving 167 = .ok (.invokevirtual 134, 3) := by decide +kernel
theorem d_pn_reachesEndMoving_170 : decode b_pn_reachesEndMoving 170 = .ok (.ifCond .eq 5, 3) := by decide +kernel
theorem d_pn_reachesEndMoving_173 : decode b_pn_reachesEndMoving 173 = .ok (.iconst 1, 1) := by decide +kernel
theorem d_pn_reachesEndMoving_174 : decode b_pn_reachesEndMoving 174 = .ok (.ireturn, 1) := by decide +kernel
theorem d_pn_reachesEndMoving_175 : decode b_pn_reachesEndMoving 175 = .ok (.iconst 0, 1) := by decide +kernel
theorem d_pn_reachesEndMoving_176 : decode b_pn_reachesEndMoving 176 = .ok (.istore 10, 2) := by decide +kernel
theorem d_pn_reachesEndMoving_178 : decode b_pn_reachesEndMoving 178 = .ok (.iload 10, 2) := by decide +kernel
theorem d_pn_reachesEndMoving_180 : decode b_pn_reachesEndMoving 180 = .ok (.aload_n 0, 1) := by decide +kernel
theorem d_pn_reachesEndMoving_181 : decode b_pn_reachesEndMoving 181 = .ok (.getfield 30, 3) := by decide +kernel
theorem d_pn_reachesEndMoving_184 : decode b_pn_reachesEndMoving 184 = .ok (.getfield 99, 3) := by decide +kernel
theorem d_pn_reachesEndMoving_187 : decode b_pn_reachesEndMoving 187 = .ok (.iload 7, 2) := by decide +kernel
theorem d_pn_reachesEndMoving_189 : decode b_pn_reachesEndMoving 189 = .ok (.iaload, 1) := by decide +kernel
theorem d_pn_reachesEndMoving_190 : decode b_pn_reachesEndMoving 190 = .ok (.if_icmp .ge 70, 3) := by decide +kernel
theorem d_pn_reachesEndMoving_193 : decode b_pn_reachesEndMoving 193 = .ok (.aload_n 0, 1) := by decide +kernel
theorem d_pn_reachesEndMoving_194 : decode b_pn_reachesEndMoving 194 = .ok (.getfield 30, 3) := by decide +kernel
theorem d_pn_reachesEndMoving_197 : decode b_pn_reachesEndMoving 197 = .ok (.getfield 104, 3) := by decide +kernel
theorem d_pn_reachesEndMoving_200 : decode b_pn_reachesEndMoving 200 = .ok (.iload 7, 2) := by decide +kernel
theorem d_pn_reachesEndMoving_202 : decode b_pn_reachesEndMoving 202 = .ok (.aaload, 1) := by decide +kernel
theorem d_pn_reachesEndMoving_203 : decode b_pn_reachesEndMoving 203 = .ok (.iload 10, 2) := by decide +kernel
theorem d_pn_reachesEndMoving_205 : decode b_pn_reachesEndMoving 205 = .ok (.iaload, 1) := by decide +kernel
theorem d_pn_reachesEndMoving_206 : decode b_pn_reachesEndMoving 206 = .ok (.istore 11, 2) := by decide +kernel
theorem d_pn_reachesEndMoving_208 : decode b_pn_reachesEndMoving 208 = .ok (.iload 9, 2) := by decide +kernel
theorem d_pn_reachesEndMoving_210 : decode b_pn_reachesEndMoving 210 = .ok (.aload_n 0, 1) := by decide +kernel
theorem d_pn_reachesEndMoving_211 : decode b_pn_reachesEndMoving 211 = .ok (.iload_n 2, 1) := by decide +kernel
theorem d_pn_reachesEndMoving_212 : decode b_pn_reachesEndMoving 212 = .ok (.iload 11, 2) := by decide +kernel
theorem d_pn_reachesEndMoving_214 : decode b_pn_reachesEndMoving 214 = .ok (.invokevirtual 121, 3) := by decide +kernel
theorem d_pn_reachesEndMoving_217 : decode b_pn_reachesEndMoving 217 = .ok (.isub, 1) := by decide +kernel
theorem d_pn_reachesEndMoving_218 : decode b_pn_reachesEndMoving 218 = .ok (.istore 12, 2) := by decide +kernel
theorem d_pn_reachesEndMoving_220 : decode b_pn_reachesEndMoving 220 = .ok (.iload 12, 2) := by decide +kernel
theorem d_pn_reachesEndMoving_222 : decode b_pn_reachesEndMoving 222 = .ok (.ifCond .lt 32, 3) := by decide +kernel
theorem d_pn_reachesEndMoving_225 : decode b_pn_reachesEndMoving 225 = .ok (.aload 5, 2) := by decide +kernel
theorem d_pn_reachesEndMoving_227 : decode b_pn_reachesEndMoving 227 = .ok (.aload 6, 2) := by decide +kernel
theorem d_pn_reachesEndMoving_229 : decode b_pn_reachesEndMoving 229 = .ok (.iload_n 2, 1) := by decide +kernel
theorem d_pn_reachesEndMoving_230 : decode b_pn_reachesEndMoving 230 = .ok (.iload 11, 2) := by decide +kernel
theorem d_pn_reachesEndMoving_232 : decode b_pn_reachesEndMoving 232 = .ok (.invokestatic 107, 3) := by decide +kernel
theorem d_pn_reachesEndMoving_235 : decode b_pn_reachesEndMoving 235 = .ok (.ifCond .eq 19, 3) := by decide +kernel
theorem d_pn_reachesEndMoving_238 : decode b_pn_reachesEndMoving 238 = .ok (.aload_n 0, 1) := by decide +kernel
theorem d_pn_reachesEndMoving_239 : decode b_pn_reachesEndMoving 239 = .ok (.iload_n 1, 1) := by decide +kernel
theorem d_pn_reachesEndMoving_240 : decode b_pn_reachesEndMoving 240 = .ok (.iload_n 2, 1) := by decide +kernel
theorem d_pn_reachesEndMoving_241 : decode b_pn_reachesEndMoving 241 = .ok (.iconst 1, 1) := by decide +kernel
theorem d_pn_reachesEndMoving_242 : decode b_pn_reachesEndMoving 242 = .ok (.iadd, 1) := by decide +kernel
theorem d_pn_reachesEndMoving_243 : decode b_pn_reachesEndMoving 243 = .ok (.iload_n 3, 1) := by decide +kernel
theorem d_pn_reachesEndMoving_244 : decode b_pn_reachesEndMoving 244 = .ok (.iload 12, 2) := by decide +kernel
theorem d_pn_reachesEndMoving_246 : decode b_pn_reachesEndMoving 246 = .ok (.invokevirtual 134, 3) := by decide +kernel
theorem d_pn_reachesEndMoving_249 : decode b_pn_reachesEndMoving 249 = .ok (.ifCond .eq 5, 3) := by decide +kernel
theorem d_pn_reachesEndMoving_252 : decode b_pn_reachesEndMoving 252 = .ok (.iconst 1, 1) := by decide +kernel
theorem d_pn_reachesEndMoving_253 : decode b_pn_reachesEndMoving 253 = .ok (.ireturn, 1) := by decide +kernel
theorem d_pn_reachesEndMoving_254 : decode b_pn_reachesEndMoving 254 = .ok (.iinc 10 1, 3) := by decide +kernel
theorem d_pn_reachesEndMoving_257 : decode b_pn_reachesEndMoving 257 = .ok (.goto (-79), 3) := by decide +kernel
theorem d_pn_reachesEndMoving_260 : decode b_pn_reachesEndMoving 260 = .ok (.iconst 0, 1) := by decide +kernel
theorem d_pn_reachesEndMoving_261 : decode b_pn_reachesEndMoving 261 = .ok (.ireturn, 1) := by decide +kernel
theorem d_pn_stateAt_0 : decode b_pn_stateAt 0 = .ok (.iconst 0, 1) := by decide +kernel
theorem d_pn_stateAt_1 : decode b_pn_stateAt 1 = .ok (.istore_n 2, 1) := by decide +kernel
theorem d_pn_stateAt_2 : decode b_pn_stateAt 2 = .ok (.iconst 0, 1) := by decide +kernel
theorem d_pn_stateAt_3 : decode b_pn_stateAt 3 = .ok (.istore_n 3, 1) := by decide +kernel
theorem d_pn_stateAt_4 : decode b_pn_stateAt 4 = .ok (.iload_n 3, 1) := by decide +kernel
theorem d_pn_stateAt_5 : decode b_pn_stateAt 5 = .ok (.aload_n 0, 1) := by decide +kernel
theorem d_pn_stateAt_6 : decode b_pn_stateAt 6 = .ok (.getfield 34, 3) := by decide +kernel
theorem d_pn_stateAt_9 : decode b_pn_stateAt 9 = .ok (.getfield 83, 3) := by decide +kernel
theorem d_pn_stateAt_12 : decode b_pn_stateAt 12 = .ok (.if_icmp .ge 69, 3) := by decide +kernel
theorem d_pn_stateAt_15 : decode b_pn_stateAt 15 = .ok (.aload_n 0, 1) := by decide +kernel
theorem d_pn_stateAt_16 : decode b_pn_stateAt 16 = .ok (.getfield 23, 3) := by decide +kernel
theorem d_pn_stateAt_19 : decode b_pn_stateAt 19 = .ok (.iload_n 1, 1) := by decide +kernel
theorem d_pn_stateAt_20 : decode b_pn_stateAt 20 = .ok (.iaload, 1) := by decide +kernel
theorem d_pn_stateAt_21 : decode b_pn_stateAt 21 = .ok (.iload_n 3, 1) := by decide +kernel
theorem d_pn_stateAt_22 : decode b_pn_stateAt 22 = .ok (.invokestatic 118, 3) := by decide +kernel
theorem d_pn_stateAt_25 : decode b_pn_stateAt 25 = .ok (.istore 4, 2) := by decide +kernel
theorem d_pn_stateAt_27 : decode b_pn_stateAt 27 = .ok (.iload 4, 2) := by decide +kernel
theorem d_pn_stateAt_29 : decode b_pn_stateAt 29 = .ok (.ifCond .eq 13, 3) := by decide +kernel
theorem d_pn_stateAt_32 : decode b_pn_stateAt 32 = .ok (.aload_n 0, 1) := by decide +kernel
theorem d_pn_stateAt_33 : decode b_pn_stateAt 33 = .ok (.getfield 30, 3) := by decide +kernel
theorem d_pn_stateAt_36 : decode b_pn_stateAt 36 = .ok (.getfield 142, 3) := by decide +kernel
theorem d_pn_stateAt_39 : decode b_pn_stateAt 39 = .ok (.goto 19, 3) := by decide +kernel
theorem d_pn_stateAt_42 : decode b_pn_stateAt 42 = .ok (.aload_n 0, 1) := by decide +kernel
theorem d_pn_stateAt_43 : decode b_pn_stateAt 43 = .ok (.getfield 30, 3) := by decide +kernel
theorem d_pn_stateAt_46 : decode b_pn_stateAt 46 = .ok (.getfield 145, 3) := by decide +kernel
theorem d_pn_stateAt_49 : decode b_pn_stateAt 49 = .ok (.aload_n 0, 1) := by decide +kernel
theorem d_pn_stateAt_50 : decode b_pn_stateAt 50 = .ok (.getfield 20, 3) := by decide +kernel
theorem d_pn_stateAt_53 : decode b_pn_stateAt 53 = .ok (.iload_n 1, 1) := by decide +kernel
theorem d_pn_stateAt_54 : decode b_pn_stateAt 54 = .ok (.aaload, 1) := by decide +kernel
theorem d_pn_stateAt_55 : decode b_pn_stateAt 55 = .ok (.iload_n 3, 1) := by decide +kernel
theorem d_pn_stateAt_56 : decode b_pn_stateAt 56 = .ok (.iaload, 1) := by decide +kernel
theorem d_pn_stateAt_57 : decode b_pn_stateAt 57 = .ok (.iaload, 1) := by decide +kernel
theorem d_pn_stateAt_58 : decode b_pn_stateAt 58 = .ok (.istore 5, 2) := by decide +kernel
theorem d_pn_stateAt_60 : decode b_pn_stateAt 60 = .ok (.iload_n 2, 1) := by decide +kernel
theorem d_pn_stateAt_61 : decode b_pn_stateAt 61 = .ok (.aload_n 0, 1) := by decide +kernel
theorem d_pn_stateAt_62 : decode b_pn_stateAt 62 = .ok (.getfield 30, 3) := by decide +kernel
theorem d_pn_stateAt_65 : decode b_pn_stateAt 65 = .ok (.getfield 142, 3) := by decide +kernel
theorem d_pn_stateAt_68 : decode b_pn_stateAt 68 = .ok (.iconst 1, 1) := by decide +kernel
theorem d_pn_stateAt_69 : decode b_pn_stateAt 69 = .ok (.iadd, 1) := by decide +kernel
theorem d_pn_stateAt_70 : decode b_pn_stateAt 70 = .ok (.imul, 1) := by decide +kernel
theorem d_pn_stateAt_71 : decode b_pn_stateAt 71 = .ok (.iload 5, 2) := by decide +kernel
theorem d_pn_stateAt_73 : decode b_pn_stateAt 73 = .ok (.iadd, 1) := by decide +kernel
theorem d_pn_stateAt_74 : decode b_pn_stateAt 74 = .ok (.istore_n 2, 1) := by decide +kernel
theorem d_pn_stateAt_75 : decode b_pn_stateAt 75 = .ok (.iinc 3 1, 3) := by decide +kernel
theorem d_pn_stateAt_78 : decode b_pn_stateAt 78 = .ok (.goto (-74), 3) := by decide +kernel
theorem d_pn_stateAt_81 : decode b_pn_stateAt 81 = .ok (.iload_n 2, 1) := by decide +kernel
theorem d_pn_stateAt_82 : decode b_pn_stateAt 82 = .ok (.ireturn, 1) := by decide +kernel
theorem d_pn_goes_0 : decode b_pn_goes 0 = .ok (.iconst 0, 1) := by decide +kernel
theorem d_pn_goes_1 : decode b_pn_goes 1 = .ok (.istore 4, 2) := by decide +kernel
theorem d_pn_goes_3 : decode b_pn_goes 3 = .ok (.iload 4, 2) := by decide +kernel
theorem d_pn_goes_5 : decode b_pn_goes 5 = .ok (.iload_n 2, 1) := by decide +kernel
theorem d_pn_goes_6 : decode b_pn_goes 6 = .ok (.if_icmp .ge 37, 3) := by decide +kernel
theorem d_pn_goes_9 : decode b_pn_goes 9 = .ok (.aload_n 1, 1) := by decide +kernel
theorem d_pn_goes_10 : decode b_pn_goes 10 = .ok (.iload 4, 2) := by decide +kernel
theorem d_pn_goes_12 : decode b_pn_goes 12 = .ok (.iaload, 1) := by decide +kernel
theorem d_pn_goes_13 : decode b_pn_goes 13 = .ok (.iload_n 3, 1) := by decide +kernel
theorem d_pn_goes_14 : decode b_pn_goes 14 = .ok (.if_icmp .eq 21, 3) := by decide +kernel
theorem d_pn_goes_17 : decode b_pn_goes 17 = .ok (.aload_n 1, 1) := by decide +kernel
theorem d_pn_goes_18 : decode b_pn_goes 18 = .ok (.iload 4, 2) := by decide +kernel
theorem d_pn_goes_20 : decode b_pn_goes 20 = .ok (.iaload, 1) := by decide +kernel
theorem d_pn_goes_21 : decode b_pn_goes 21 = .ok (.aload_n 0, 1) := by decide +kernel
theorem d_pn_goes_22 : decode b_pn_goes 22 = .ok (.iload_n 2, 1) := by decide +kernel
theorem d_pn_goes_23 : decode b_pn_goes 23 = .ok (.iaload, 1) := by decide +kernel
theorem d_pn_goes_24 : decode b_pn_goes 24 = .ok (.if_icmp .ne 13, 3) := by decide +kernel
theorem d_pn_goes_27 : decode b_pn_goes 27 = .ok (.aload_n 0, 1) := by decide +kernel
theorem d_pn_goes_28 : decode b_pn_goes 28 = .ok (.iload 4, 2) := by decide +kernel
theorem d_pn_goes_30 : decode b_pn_goes 30 = .ok (.iaload, 1) := by decide +kernel
theorem d_pn_goes_31 : decode b_pn_goes 31 = .ok (.iload_n 3, 1) := by decide +kernel
theorem d_pn_goes_32 : decode b_pn_goes 32 = .ok (.if_icmp .ne 5, 3) := by decide +kernel
theorem d_pn_goes_35 : decode b_pn_goes 35 = .ok (.iconst 0, 1) := by decide +kernel
theorem d_pn_goes_36 : decode b_pn_goes 36 = .ok (.ireturn, 1) := by decide +kernel
theorem d_pn_goes_37 : decode b_pn_goes 37 = .ok (.iinc 4 1, 3) := by decide +kernel
theorem d_pn_goes_40 : decode b_pn_goes 40 = .ok (.goto (-37), 3) := by decide +kernel
theorem d_pn_goes_43 : decode b_pn_goes 43 = .ok (.aload_n 1, 1) := by decide +kernel
theorem d_pn_goes_44 : decode b_pn_goes 44 = .ok (.iload_n 2, 1) := by decide +kernel
theorem d_pn_goes_45 : decode b_pn_goes 45 = .ok (.iload_n 3, 1) := by decide +kernel
theorem d_pn_goes_46 : decode b_pn_goes 46 = .ok (.iastore, 1) := by decide +kernel
theorem d_pn_goes_47 : decode b_pn_goes 47 = .ok (.iconst 1, 1) := by decide +kernel
theorem d_pn_goes_48 : decode b_pn_goes 48 = .ok (.ireturn, 1) := by decide +kernel
theorem d_pn_isIn_0 : decode b_pn_isIn 0 = .ok (.iload_n 0, 1) := by decide +kernel
theorem d_pn_isIn_1 : decode b_pn_isIn 1 = .ok (.iload_n 1, 1) := by decide +kernel
theorem d_pn_isIn_2 : decode b_pn_isIn 2 = .ok (.ishr, 1) := by decide +kernel
theorem d_pn_isIn_3 : decode b_pn_isIn 3 = .ok (.iconst 1, 1) := by decide +kernel
theorem d_pn_isIn_4 : decode b_pn_isIn 4 = .ok (.iand, 1) := by decide +kernel
theorem d_pn_isIn_5 : decode b_pn_isIn 5 = .ok (.iconst 1, 1) := by decide +kernel
theorem d_pn_isIn_6 : decode b_pn_isIn 6 = .ok (.if_icmp .ne 7, 3) := by decide +kernel
theorem d_pn_isIn_9 : decode b_pn_isIn 9 = .ok (.iconst 1, 1) := by decide +kernel
theorem d_pn_isIn_10 : decode b_pn_isIn 10 = .ok (.goto 4, 3) := by decide +kernel
theorem d_pn_isIn_13 : decode b_pn_isIn 13 = .ok (.iconst 0, 1) := by decide +kernel
theorem d_pn_isIn_14 : decode b_pn_isIn 14 = .ok (.ireturn, 1) := by decide +kernel
theorem d_vd_strays_0 : decode b_vd_strays 0 = .ok (.aload_n 0, 1) := by decide +kernel
theorem d_vd_strays_1 : decode b_vd_strays 1 = .ok (.getfield 19, 3) := by decide +kernel
theorem d_vd_strays_4 : decode b_vd_strays 4 = .ok (.iload_n 1, 1) := by decide +kernel
theorem d_vd_strays_5 : decode b_vd_strays 5 = .ok (.invokevirtual 57, 3) := by decide +kernel
theorem d_vd_strays_8 : decode b_vd_strays 8 = .ok (.ifCond .eq 5, 3) := by decide +kernel
theorem d_vd_strays_11 : decode b_vd_strays 11 = .ok (.iconst 1, 1) := by decide +kernel
theorem d_vd_strays_12 : decode b_vd_strays 12 = .ok (.ireturn, 1) := by decide +kernel
theorem d_vd_strays_13 : decode b_vd_strays 13 = .ok (.aload_n 0, 1) := by decide +kernel
theorem d_vd_strays_14 : decode b_vd_strays 14 = .ok (.getfield 19, 3) := by decide +kernel
theorem d_vd_strays_17 : decode b_vd_strays 17 = .ok (.iload_n 1, 1) := by decide +kernel
theorem d_vd_strays_18 : decode b_vd_strays 18 = .ok (.iload_n 2, 1) := by decide +kernel
theorem d_vd_strays_19 : decode b_vd_strays 19 = .ok (.invokevirtual 63, 3) := by decide +kernel
theorem d_vd_strays_22 : decode b_vd_strays 22 = .ok (.istore_n 3, 1) := by decide +kernel
theorem d_vd_strays_23 : decode b_vd_strays 23 = .ok (.iload_n 2, 1) := by decide +kernel
theorem d_vd_strays_24 : decode b_vd_strays 24 = .ok (.ifCond .ne 22, 3) := by decide +kernel
theorem d_vd_strays_27 : decode b_vd_strays 27 = .ok (.iload_n 3, 1) := by decide +kernel
theorem d_vd_strays_28 : decode b_vd_strays 28 = .ok (.aload_n 0, 1) := by decide +kernel
theorem d_vd_strays_29 : decode b_vd_strays 29 = .ok (.getfield 15, 3) := by decide +kernel
theorem d_vd_strays_32 : decode b_vd_strays 32 = .ok (.getfield 67, 3) := by decide +kernel
theorem d_vd_strays_35 : decode b_vd_strays 35 = .ok (.iload_n 1, 1) := by decide +kernel
theorem d_vd_strays_36 : decode b_vd_strays 36 = .ok (.iaload, 1) := by decide +kernel
theorem d_vd_strays_37 : decode b_vd_strays 37 = .ok (.if_icmp .eq 7, 3) := by decide +kernel
theorem d_vd_strays_40 : decode b_vd_strays 40 = .ok (.iconst 1, 1) := by decide +kernel
theorem d_vd_strays_41 : decode b_vd_strays 41 = .ok (.goto 4, 3) := by decide +kernel
theorem d_vd_strays_44 : decode b_vd_strays 44 = .ok (.iconst 0, 1) := by decide +kernel
theorem d_vd_strays_45 : decode b_vd_strays 45 = .ok (.ireturn, 1) := by decide +kernel
theorem d_vd_strays_46 : decode b_vd_strays 46 = .ok (.aload_n 0, 1) := by decide +kernel
theorem d_vd_strays_47 : decode b_vd_strays 47 = .ok (.getfield 9, 3) := by decide +kernel
theorem d_vd_strays_50 : decode b_vd_strays 50 = .ok (.aload_n 0, 1) := by decide +kernel
theorem d_vd_strays_51 : decode b_vd_strays 51 = .ok (.getfield 19, 3) := by decide +kernel
theorem d_vd_strays_54 : decode b_vd_strays 54 = .ok (.iload_n 1, 1) := by decide +kernel
theorem d_vd_strays_55 : decode b_vd_strays 55 = .ok (.iload_n 2, 1) := by decide +kernel
theorem d_vd_strays_56 : decode b_vd_strays 56 = .ok (.iconst 1, 1) := by decide +kernel
theorem d_vd_strays_57 : decode b_vd_strays 57 = .ok (.isub, 1) := by decide +kernel
theorem d_vd_strays_58 : decode b_vd_strays 58 = .ok (.invokevirtual 63, 3) := by decide +kernel
theorem d_vd_strays_61 : decode b_vd_strays 61 = .ok (.iload_n 3, 1) := by decide +kernel
theorem d_vd_strays_62 : decode b_vd_strays 62 = .ok (.invokevirtual 71, 3) := by decide +kernel
theorem d_vd_strays_65 : decode b_vd_strays 65 = .ok (.ifCond .ne 5, 3) := by decide +kernel
theorem d_vd_strays_68 : decode b_vd_strays 68 = .ok (.iconst 1, 1) := by decide +kernel
theorem d_vd_strays_69 : decode b_vd_strays 69 = .ok (.ireturn, 1) := by decide +kernel
theorem d_vd_strays_70 : decode b_vd_strays 70 = .ok (.iload_n 2, 1) := by decide +kernel
theorem d_vd_strays_71 : decode b_vd_strays 71 = .ok (.bipush 29, 2) := by decide +kernel
theorem d_vd_strays_73 : decode b_vd_strays 73 = .ok (.if_icmp .ne 20, 3) := by decide +kernel
theorem d_vd_strays_76 : decode b_vd_strays 76 = .ok (.iload_n 3, 1) := by decide +kernel
theorem d_vd_strays_77 : decode b_vd_strays 77 = .ok (.aload_n 0, 1) := by decide +kernel
theorem d_vd_strays_78 : decode b_vd_strays 78 = .ok (.getfield 15, 3) := by decide +kernel
theorem d_vd_strays_81 : decode b_vd_strays 81 = .ok (.getfield 76, 3) := by decide +kernel
theorem d_vd_strays_84 : decode b_vd_strays 84 = .ok (.iload_n 1, 1) := by decide +kernel
theorem d_vd_strays_85 : decode b_vd_strays 85 = .ok (.iaload, 1) := by decide +kernel
theorem d_vd_strays_86 : decode b_vd_strays 86 = .ok (.if_icmp .eq 7, 3) := by decide +kernel
theorem d_vd_strays_89 : decode b_vd_strays 89 = .ok (.iconst 1, 1) := by decide +kernel
theorem d_vd_strays_90 : decode b_vd_strays 90 = .ok (.goto 4, 3) := by decide +kernel
theorem d_vd_strays_93 : decode b_vd_strays 93 = .ok (.iconst 0, 1) := by decide +kernel
theorem d_vd_strays_94 : decode b_vd_strays 94 = .ok (.ireturn, 1) := by decide +kernel
theorem d_vd_share_0 : decode b_vd_share 0 = .ok (.aload_n 0, 1) := by decide +kernel
theorem d_vd_share_1 : decode b_vd_share 1 = .ok (.getfield 19, 3) := by decide +kernel
theorem d_vd_share_4 : decode b_vd_share 4 = .ok (.iload_n 1, 1) := by decide +kernel
theorem d_vd_share_5 : decode b_vd_share 5 = .ok (.iload_n 3, 1) := by decide +kernel
theorem d_vd_share_6 : decode b_vd_share 6 = .ok (.invokevirtual 63, 3) := by decide +kernel
theorem d_vd_share_9 : decode b_vd_share 9 = .ok (.aload_n 0, 1) := by decide +kernel
theorem d_vd_share_10 : decode b_vd_share 10 = .ok (.getfield 19, 3) := by decide +kernel
theorem d_vd_share_13 : decode b_vd_share 13 = .ok (.iload_n 2, 1) := by decide +kernel
theorem d_vd_share_14 : decode b_vd_share 14 = .ok (.iload_n 3, 1) := by decide +kernel
theorem d_vd_share_15 : decode b_vd_share 15 = .ok (.invokevirtual 63, 3) := by decide +kernel
theorem d_vd_share_18 : decode b_vd_share 18 = .ok (.if_icmp .ne 7, 3) := by decide +kernel
theorem d_vd_share_21 : decode b_vd_share 21 = .ok (.iconst 1, 1) := by decide +kernel
theorem d_vd_share_22 : decode b_vd_share 22 = .ok (.goto 4, 3) := by decide +kernel
theorem d_vd_share_25 : decode b_vd_share 25 = .ok (.iconst 0, 1) := by decide +kernel
theorem d_vd_share_26 : decode b_vd_share 26 = .ok (.ireturn, 1) := by decide +kernel
theorem d_vd_exchange_0 : decode b_vd_exchange 0 = .ok (.aload_n 0, 1) := by decide +kernel
theorem d_vd_exchange_1 : decode b_vd_exchange 1 = .ok (.getfield 19, 3) := by decide +kernel
theorem d_vd_exchange_4 : decode b_vd_exchange 4 = .ok (.iload_n 1, 1) := by decide +kernel
theorem d_vd_exchange_5 : decode b_vd_exchange 5 = .ok (.iload_n 3, 1) := by decide +kernel
theorem d_vd_exchange_6 : decode b_vd_exchange 6 = .ok (.invokevirtual 63, 3) := by decide +kernel
theorem d_vd_exchange_9 : decode b_vd_exchange 9 = .ok (.aload_n 0, 1) := by decide +kernel
theorem d_vd_exchange_10 : decode b_vd_exchange 10 = .ok (.getfield 19, 3) := by decide +kernel
theorem d_vd_exchange_13 : decode b_vd_exchange 13 = .ok (.iload_n 2, 1) := by decide +kernel
theorem d_vd_exchange_14 : decode b_vd_exchange 14 = .ok (.iload_n 3, 1) := by decide +kernel
theorem d_vd_exchange_15 : decode b_vd_exchange 15 = .ok (.iconst 1, 1) := by decide +kernel
theorem d_vd_exchange_16 : decode b_vd_exchange 16 = .ok (.isub, 1) := by decide +kernel
theorem d_vd_exchange_17 : decode b_vd_exchange 17 = .ok (.invokevirtual 63, 3) := by decide +kernel
theorem d_vd_exchange_20 : decode b_vd_exchange 20 = .ok (.if_icmp .ne 30, 3) := by decide +kernel
theorem d_vd_exchange_23 : decode b_vd_exchange 23 = .ok (.aload_n 0, 1) := by decide +kernel
theorem d_vd_exchange_24 : decode b_vd_exchange 24 = .ok (.getfield 19, 3) := by decide +kernel
theorem d_vd_exchange_27 : decode b_vd_exchange 27 = .ok (.iload_n 2, 1) := by decide +kernel
theorem d_vd_exchange_28 : decode b_vd_exchange 28 = .ok (.iload_n 3, 1) := by decide +kernel
theorem d_vd_exchange_29 : decode b_vd_exchange 29 = .ok (.invokevirtual 63, 3) := by decide +kernel
theorem d_vd_exchange_32 : decode b_vd_exchange 32 = .ok (.aload_n 0, 1) := by decide +kernel
theorem d_vd_exchange_33 : decode b_vd_exchange 33 = .ok (.getfield 19, 3) := by decide +kernel
theorem d_vd_exchange_36 : decode b_vd_exchange 36 = .ok (.iload_n 1, 1) := by decide +kernel
theorem d_vd_exchange_37 : decode b_vd_exchange 37 = .ok (.iload_n 3, 1) := by decide +kernel
theorem d_vd_exchange_38 : decode b_vd_exchange 38 = .ok (.iconst 1, 1) := by decide +kernel
theorem d_vd_exchange_39 : decode b_vd_exchange 39 = .ok (.isub, 1) := by decide +kernel
theorem d_vd_exchange_40 : decode b_vd_exchange 40 = .ok (.invokevirtual 63, 3) := by decide +kernel
theorem d_vd_exchange_43 : decode b_vd_exchange 43 = .ok (.if_icmp .ne 7, 3) := by decide +kernel
theorem d_vd_exchange_46 : decode b_vd_exchange 46 = .ok (.iconst 1, 1) := by decide +kernel
theorem d_vd_exchange_47 : decode b_vd_exchange 47 = .ok (.goto 4, 3) := by decide +kernel
theorem d_vd_exchange_50 : decode b_vd_exchange 50 = .ok (.iconst 0, 1) := by decide +kernel
theorem d_vd_exchange_51 : decode b_vd_exchange 51 = .ok (.ireturn, 1) := by decide +kernel
