theorem d_mr_at_25 : decode b_mr_at 25 = .ok (.aload_n 0, 1) := by decide +kernel
theorem d_mr_at_26 : decode b_mr_at 26 = .ok (.getfield 30, 3) := by decide +kernel
theorem d_mr_at_29 : decode b_mr_at 29 = .ok (.iload_n 1, 1) := by decide +kernel
theorem d_mr_at_30 : decode b_mr_at 30 = .ok (.iload_n 2, 1) := by decide +kernel
theorem d_mr_at_31 : decode b_mr_at 31 = .ok (.invokevirtual 105, 3) := by decide +kernel
theorem d_mr_at_34 : decode b_mr_at 34 = .ok (.goto 4, 3) := by decide +kernel
theorem d_mr_at_37 : decode b_mr_at 37 = .ok (.iconst (-1), 1) := by decide +kernel
theorem d_mr_at_38 : decode b_mr_at 38 = .ok (.ireturn, 1) := by decide +kernel
theorem d_mr_lay_0 : decode b_mr_lay 0 = .ok (.iload_n 1, 1) := by decide +kernel
theorem d_mr_lay_1 : decode b_mr_lay 1 = .ok (.ifCond .lt 19, 3) := by decide +kernel
theorem d_mr_lay_4 : decode b_mr_lay 4 = .ok (.iload_n 1, 1) := by decide +kernel
theorem d_mr_lay_5 : decode b_mr_lay 5 = .ok (.bipush 6, 2) := by decide +kernel
theorem d_mr_lay_7 : decode b_mr_lay 7 = .ok (.if_icmp .ge 13, 3) := by decide +kernel
theorem d_mr_lay_10 : decode b_mr_lay 10 = .ok (.iload_n 2, 1) := by decide +kernel
theorem d_mr_lay_11 : decode b_mr_lay 11 = .ok (.ifCond .lt 9, 3) := by decide +kernel
theorem d_mr_lay_14 : decode b_mr_lay 14 = .ok (.iload_n 2, 1) := by decide +kernel
theorem d_mr_lay_15 : decode b_mr_lay 15 = .ok (.bipush 30, 2) := by decide +kernel
theorem d_mr_lay_17 : decode b_mr_lay 17 = .ok (.if_icmp .lt 5, 3) := by decide +kernel
theorem d_mr_lay_20 : decode b_mr_lay 20 = .ok (.iconst (-1), 1) := by decide +kernel
theorem d_mr_lay_21 : decode b_mr_lay 21 = .ok (.ireturn, 1) := by decide +kernel
theorem d_mr_lay_22 : decode b_mr_lay 22 = .ok (.aload_n 0, 1) := by decide +kernel
theorem d_mr_lay_23 : decode b_mr_lay 23 = .ok (.getfield 37, 3) := by decide +kernel
theorem d_mr_lay_26 : decode b_mr_lay 26 = .ok (.iload_n 1, 1) := by decide +kernel
theorem d_mr_lay_27 : decode b_mr_lay 27 = .ok (.iload_n 2, 1) := by decide +kernel
theorem d_mr_lay_28 : decode b_mr_lay 28 = .ok (.iload_n 3, 1) := by decide +kernel
theorem d_mr_lay_29 : decode b_mr_lay 29 = .ok (.invokevirtual 108, 3) := by decide +kernel
theorem d_mr_lay_32 : decode b_mr_lay 32 = .ok (.ireturn, 1) := by decide +kernel
theorem d_mr_judge_0 : decode b_mr_judge 0 = .ok (.iload_n 1, 1) := by decide +kernel
theorem d_mr_judge_1 : decode b_mr_judge 1 = .ok (.ifCond .lt 8, 3) := by decide +kernel
theorem d_mr_judge_4 : decode b_mr_judge 4 = .ok (.iload_n 1, 1) := by decide +kernel
theorem d_mr_judge_5 : decode b_mr_judge 5 = .ok (.iconst 3, 1) := by decide +kernel
theorem d_mr_judge_6 : decode b_mr_judge 6 = .ok (.if_icmp .le 5, 3) := by decide +kernel
theorem d_mr_judge_9 : decode b_mr_judge 9 = .ok (.iconst (-1), 1) := by decide +kernel
theorem d_mr_judge_10 : decode b_mr_judge 10 = .ok (.ireturn, 1) := by decide +kernel
theorem d_mr_judge_11 : decode b_mr_judge 11 = .ok (.aload_n 0, 1) := by decide +kernel
theorem d_mr_judge_12 : decode b_mr_judge 12 = .ok (.getfield 46, 3) := by decide +kernel
theorem d_mr_judge_15 : decode b_mr_judge 15 = .ok (.invokevirtual 112, 3) := by decide +kernel
theorem d_mr_judge_18 : decode b_mr_judge 18 = .ok (.iload_n 1, 1) := by decide +kernel
theorem d_mr_judge_19 : decode b_mr_judge 19 = .ok (.tableswitch 49 0 2 #[25, 33, 41], 25) := by decide +kernel
theorem d_mr_judge_44 : decode b_mr_judge 44 = .ok (.aload_n 0, 1) := by decide +kernel
theorem d_mr_judge_45 : decode b_mr_judge 45 = .ok (.getfield 46, 3) := by decide +kernel
theorem d_mr_judge_48 : decode b_mr_judge 48 = .ok (.getfield 115, 3) := by decide +kernel
theorem d_mr_judge_51 : decode b_mr_judge 51 = .ok (.ireturn, 1) := by decide +kernel
theorem d_mr_judge_52 : decode b_mr_judge 52 = .ok (.aload_n 0, 1) := by decide +kernel
theorem d_mr_judge_53 : decode b_mr_judge 53 = .ok (.getfield 46, 3) := by decide +kernel
theorem d_mr_judge_56 : decode b_mr_judge 56 = .ok (.getfield 118, 3) := by decide +kernel
theorem d_mr_judge_59 : decode b_mr_judge 59 = .ok (.ireturn, 1) := by decide +kernel
theorem d_mr_judge_60 : decode b_mr_judge 60 = .ok (.aload_n 0, 1) := by decide +kernel
theorem d_mr_judge_61 : decode b_mr_judge 61 = .ok (.getfield 46, 3) := by decide +kernel
theorem d_mr_judge_64 : decode b_mr_judge 64 = .ok (.getfield 121, 3) := by decide +kernel
theorem d_mr_judge_67 : decode b_mr_judge 67 = .ok (.ireturn, 1) := by decide +kernel
theorem d_mr_judge_68 : decode b_mr_judge 68 = .ok (.aload_n 0, 1) := by decide +kernel
theorem d_mr_judge_69 : decode b_mr_judge 69 = .ok (.getfield 46, 3) := by decide +kernel
theorem d_mr_judge_72 : decode b_mr_judge 72 = .ok (.getfield 124, 3) := by decide +kernel
theorem d_mr_judge_75 : decode b_mr_judge 75 = .ok (.ireturn, 1) := by decide +kernel
theorem d_md_init_0 : decode b_md_init 0 = .ok (.aload_n 0, 1) := by decide +kernel
theorem d_md_init_1 : decode b_md_init 1 = .ok (.invokespecial 1, 3) := by decide +kernel
theorem d_md_init_4 : decode b_md_init 4 = .ok (.aload_n 0, 1) := by decide +kernel
theorem d_md_init_5 : decode b_md_init 5 = .ok (.iconst 1, 1) := by decide +kernel
theorem d_md_init_6 : decode b_md_init 6 = .ok (.putfield 7, 3) := by decide +kernel
theorem d_md_init_9 : decode b_md_init 9 = .ok (.aload_n 0, 1) := by decide +kernel
theorem d_md_init_10 : decode b_md_init 10 = .ok (.iconst 1, 1) := by decide +kernel
theorem d_md_init_11 : decode b_md_init 11 = .ok (.putfield 13, 3) := by decide +kernel
theorem d_md_init_14 : decode b_md_init 14 = .ok (.aload_n 0, 1) := by decide +kernel
theorem d_md_init_15 : decode b_md_init 15 = .ok (.bipush 25, 2) := by decide +kernel
theorem d_md_init_17 : decode b_md_init 17 = .ok (.newarray .boolean, 2) := by decide +kernel
theorem d_md_init_19 : decode b_md_init 19 = .ok (.putfield 16, 3) := by decide +kernel
theorem d_md_init_22 : decode b_md_init 22 = .ok (.aload_n 0, 1) := by decide +kernel
theorem d_md_init_23 : decode b_md_init 23 = .ok (.bipush 25, 2) := by decide +kernel
theorem d_md_init_25 : decode b_md_init 25 = .ok (.newarray .int, 2) := by decide +kernel
theorem d_md_init_27 : decode b_md_init 27 = .ok (.putfield 20, 3) := by decide +kernel
theorem d_md_init_30 : decode b_md_init 30 = .ok (.aload_n 0, 1) := by decide +kernel
theorem d_md_init_31 : decode b_md_init 31 = .ok (.bipush 25, 2) := by decide +kernel
theorem d_md_init_33 : decode b_md_init 33 = .ok (.newarray .int, 2) := by decide +kernel
theorem d_md_init_35 : decode b_md_init 35 = .ok (.putfield 24, 3) := by decide +kernel
theorem d_md_init_38 : decode b_md_init 38 = .ok (.aload_n 0, 1) := by decide +kernel
theorem d_md_init_39 : decode b_md_init 39 = .ok (.sipush 180, 3) := by decide +kernel
theorem d_md_init_42 : decode b_md_init 42 = .ok (.newarray .int, 2) := by decide +kernel
theorem d_md_init_44 : decode b_md_init 44 = .ok (.putfield 27, 3) := by decide +kernel
theorem d_md_init_47 : decode b_md_init 47 = .ok (.aload_n 0, 1) := by decide +kernel
theorem d_md_init_48 : decode b_md_init 48 = .ok (.sipush 180, 3) := by decide +kernel
theorem d_md_init_51 : decode b_md_init 51 = .ok (.newarray .boolean, 2) := by decide +kernel
theorem d_md_init_53 : decode b_md_init 53 = .ok (.putfield 30, 3) := by decide +kernel
theorem d_md_init_56 : decode b_md_init 56 = .ok (.aload_n 0, 1) := by decide +kernel
theorem d_md_init_57 : decode b_md_init 57 = .ok (.bipush 25, 2) := by decide +kernel
theorem d_md_init_59 : decode b_md_init 59 = .ok (.newarray .int, 2) := by decide +kernel
theorem d_md_init_61 : decode b_md_init 61 = .ok (.putfield 33, 3) := by decide +kernel
theorem d_md_init_64 : decode b_md_init 64 = .ok (.aload_n 0, 1) := by decide +kernel
theorem d_md_init_65 : decode b_md_init 65 = .ok (.bipush 25, 2) := by decide +kernel
theorem d_md_init_67 : decode b_md_init 67 = .ok (.newarray .int, 2) := by decide +kernel
theorem d_md_init_69 : decode b_md_init 69 = .ok (.putfield 36, 3) := by decide +kernel
theorem d_md_init_72 : decode b_md_init 72 = .ok (.aload_n 0, 1) := by decide +kernel
theorem d_md_init_73 : decode b_md_init 73 = .ok (.bipush 125, 2) := by decide +kernel
theorem d_md_init_75 : decode b_md_init 75 = .ok (.newarray .int, 2) := by decide +kernel
theorem d_md_init_77 : decode b_md_init 77 = .ok (.putfield 39, 3) := by decide +kernel
theorem d_md_init_80 : decode b_md_init 80 = .ok (.aload_n 0, 1) := by decide +kernel
theorem d_md_init_81 : decode b_md_init 81 = .ok (.bipush 25, 2) := by decide +kernel
theorem d_md_init_83 : decode b_md_init 83 = .ok (.newarray .int, 2) := by decide +kernel
theorem d_md_init_85 : decode b_md_init 85 = .ok (.putfield 42, 3) := by decide +kernel
theorem d_md_init_88 : decode b_md_init 88 = .ok (.aload_n 0, 1) := by decide +kernel
theorem d_md_init_89 : decode b_md_init 89 = .ok (.ldc 45, 2) := by decide +kernel
theorem d_md_init_91 : decode b_md_init 91 = .ok (.newarray .int, 2) := by decide +kernel
theorem d_md_init_93 : decode b_md_init 93 = .ok (.putfield 46, 3) := by decide +kernel
theorem d_md_init_96 : decode b_md_init 96 = .ok (.aload_n 0, 1) := by decide +kernel
theorem d_md_init_97 : decode b_md_init 97 = .ok (.ldc 45, 2) := by decide +kernel
theorem d_md_init_99 : decode b_md_init 99 = .ok (.newarray .boolean, 2) := by decide +kernel
theorem d_md_init_101 : decode b_md_init 101 = .ok (.putfield 49, 3) := by decide +kernel
theorem d_md_init_104 : decode b_md_init 104 = .ok (.aload_n 0, 1) := by decide +kernel
theorem d_md_init_105 : decode b_md_init 105 = .ok (.ldc 45, 2) := by decide +kernel
theorem d_md_init_107 : decode b_md_init 107 = .ok (.newarray .int, 2) := by decide +kernel
theorem d_md_init_109 : decode b_md_init 109 = .ok (.putfield 52, 3) := by decide +kernel
theorem d_md_init_112 : decode b_md_init 112 = .ok (.aload_n 0, 1) := by decide +kernel
theorem d_md_init_113 : decode b_md_init 113 = .ok (.bipush 6, 2) := by decide +kernel
theorem d_md_init_115 : decode b_md_init 115 = .ok (.newarray .int, 2) := by decide +kernel
theorem d_md_init_117 : decode b_md_init 117 = .ok (.putfield 55, 3) := by decide +kernel
theorem d_md_init_120 : decode b_md_init 120 = .ok (.aload_n 0, 1) := by decide +kernel
theorem d_md_init_121 : decode b_md_init 121 = .ok (.bipush 6, 2) := by decide +kernel
theorem d_md_init_123 : decode b_md_init 123 = .ok (.newarray .int, 2) := by decide +kernel
theorem d_md_init_125 : decode b_md_init 125 = .ok (.putfield 58, 3) := by decide +kernel
theorem d_md_init_128 : decode b_md_init 128 = .ok (.aload_n 0, 1) := by decide +kernel
theorem d_md_init_129 : decode b_md_init 129 = .ok (.bipush 6, 2) := by decide +kernel
theorem d_md_init_131 : decode b_md_init 131 = .ok (.newarray .int, 2) := by decide +kernel
theorem d_md_init_133 : decode b_md_init 133 = .ok (.putfield 61, 3) := by decide +kernel
theorem d_md_init_136 : decode b_md_init 136 = .ok (.aload_n 0, 1) := by decide +kernel
theorem d_md_init_137 : decode b_md_init 137 = .ok (.sipush 1260, 3) := by decide +kernel
theorem d_md_init_140 : decode b_md_init 140 = .ok (.newarray .int, 2) := by decide +kernel
theorem d_md_init_142 : decode b_md_init 142 = .ok (.putfield 64, 3) := by decide +kernel
theorem d_md_init_145 : decode b_md_init 145 = .ok (.aload_n 0, 1) := by decide +kernel
theorem d_md_init_146 : decode b_md_init 146 = .ok (.bipush 6, 2) := by decide +kernel
theorem d_md_init_148 : decode b_md_init 148 = .ok (.newarray .int, 2) := by decide +kernel
theorem d_md_init_150 : decode b_md_init 150 = .ok (.putfield 67, 3) := by decide +kernel
theorem d_md_init_153 : decode b_md_init 153 = .ok (.aload_n 0, 1) := by decide +kernel
theorem d_md_init_154 : decode b_md_init 154 = .ok (.bipush 64, 2) := by decide +kernel
theorem d_md_init_156 : decode b_md_init 156 = .ok (.newarray .int, 2) := by decide +kernel
theorem d_md_init_158 : decode b_md_init 158 = .ok (.putfield 70, 3) := by decide +kernel
theorem d_md_init_161 : decode b_md_init 161 = .ok (.aload_n 0, 1) := by decide +kernel
theorem d_md_init_162 : decode b_md_init 162 = .ok (.bipush 64, 2) := by decide +kernel
theorem d_md_init_164 : decode b_md_init 164 = .ok (.newarray .int, 2) := by decide +kernel
theorem d_md_init_166 : decode b_md_init 166 = .ok (.putfield 73, 3) := by decide +kernel
theorem d_md_init_169 : decode b_md_init 169 = .ok (.aload_n 0, 1) := by decide +kernel
theorem d_md_init_170 : decode b_md_init 170 = .ok (.bipush 25, 2) := by decide +kernel
theorem d_md_init_172 : decode b_md_init 172 = .ok (.newarray .int, 2) := by decide +kernel
theorem d_md_init_174 : decode b_md_init 174 = .ok (.putfield 76, 3) := by decide +kernel
theorem d_md_init_177 : decode b_md_init 177 = .ok (.aload_n 0, 1) := by decide +kernel
theorem d_md_init_178 : decode b_md_init 178 = .ok (.bipush 25, 2) := by decide +kernel
theorem d_md_init_180 : decode b_md_init 180 = .ok (.newarray .long, 2) := by decide +kernel
theorem d_md_init_182 : decode b_md_init 182 = .ok (.putfield 79, 3) := by decide +kernel
theorem d_md_init_185 : decode b_md_init 185 = .ok (.aload_n 0, 1) := by decide +kernel
theorem d_md_init_186 : decode b_md_init 186 = .ok (.bipush 25, 2) := by decide +kernel
theorem d_md_init_188 : decode b_md_init 188 = .ok (.newarray .long, 2) := by decide +kernel
theorem d_md_init_190 : decode b_md_init 190 = .ok (.putfield 83, 3) := by decide +kernel
theorem d_md_init_193 : decode b_md_init 193 = .ok (.return_, 1) := by decide +kernel
theorem d_md_size_0 : decode b_md_size 0 = .ok (.aload_n 0, 1) := by decide +kernel
theorem d_md_size_1 : decode b_md_size 1 = .ok (.getfield 7, 3) := by decide +kernel
theorem d_md_size_4 : decode b_md_size 4 = .ok (.aload_n 0, 1) := by decide +kernel
theorem d_md_size_5 : decode b_md_size 5 = .ok (.getfield 13, 3) := by decide +kernel
theorem d_md_size_8 : decode b_md_size 8 = .ok (.imul, 1) := by decide +kernel
theorem d_md_size_9 : decode b_md_size 9 = .ok (.ireturn, 1) := by decide +kernel
theorem d_md_room_0 : decode b_md_room 0 = .ok (.iload_n 1, 1) := by decide +kernel
theorem d_md_room_1 : decode b_md_room 1 = .ok (.iconst 1, 1) := by decide +kernel
theorem d_md_room_2 : decode b_md_room 2 = .ok (.if_icmp .lt 28, 3) := by decide +kernel
theorem d_md_room_5 : decode b_md_room 5 = .ok (.iload_n 1, 1) := by decide +kernel
theorem d_md_room_6 : decode b_md_room 6 = .ok (.bipush 6, 2) := by decide +kernel
theorem d_md_room_8 : decode b_md_room 8 = .ok (.if_icmp .gt 22, 3) := by decide +kernel
theorem d_md_room_11 : decode b_md_room 11 = .ok (.iload_n 2, 1) := by decide +kernel
theorem d_md_room_12 : decode b_md_room 12 = .ok (.iconst 1, 1) := by decide +kernel
theorem d_md_room_13 : decode b_md_room 13 = .ok (.if_icmp .lt 17, 3) := by decide +kernel
theorem d_md_room_16 : decode b_md_room 16 = .ok (.iload_n 2, 1) := by decide +kernel
theorem d_md_room_17 : decode b_md_room 17 = .ok (.bipush 6, 2) := by decide +kernel
theorem d_md_room_19 : decode b_md_room 19 = .ok (.if_icmp .gt 11, 3) := by decide +kernel
theorem d_md_room_22 : decode b_md_room 22 = .ok (.iload_n 1, 1) := by decide +kernel
theorem d_md_room_23 : decode b_md_room 23 = .ok (.iload_n 2, 1) := by decide +kernel
theorem d_md_room_24 : decode b_md_room 24 = .ok (.imul, 1) := by decide +kernel
theorem d_md_room_25 : decode b_md_room 25 = .ok (.bipush 25, 2) := by decide +kernel
theorem d_md_room_27 : decode b_md_room 27 = .ok (.if_icmp .le 5, 3) := by decide +kernel
theorem d_md_room_30 : decode b_md_room 30 = .ok (.iconst (-1), 1) := by decide +kernel
theorem d_md_room_31 : decode b_md_room 31 = .ok (.ireturn, 1) := by decide +kernel
theorem d_md_room_32 : decode b_md_room 32 = .ok (.aload_n 0, 1) := by decide +kernel
theorem d_md_room_33 : decode b_md_room 33 = .ok (.iload_n 1, 1) := by decide +kernel
theorem d_md_room_34 : decode b_md_room 34 = .ok (.putfield 7, 3) := by decide +kernel
theorem d_md_room_37 : decode b_md_room 37 = .ok (.aload_n 0, 1) := by decide +kernel
theorem d_md_room_38 : decode b_md_room 38 = .ok (.iload_n 2, 1) := by decide +kernel
theorem d_md_room_39 : decode b_md_room 39 = .ok (.putfield 13, 3) := by decide +kernel
theorem d_md_room_42 : decode b_md_room 42 = .ok (.aload_n 0, 1) := by decide +kernel
theorem d_md_room_43 : decode b_md_room 43 = .ok (.iconst 0, 1) := by decide +kernel
theorem d_md_room_44 : decode b_md_room 44 = .ok (.putfield 86, 3) := by decide +kernel
theorem d_md_room_47 : decode b_md_room 47 = .ok (.aload_n 0, 1) := by decide +kernel
theorem d_md_room_48 : decode b_md_room 48 = .ok (.iconst 0, 1) := by decide +kernel
theorem d_md_room_49 : decode b_md_room 49 = .ok (.putfield 89, 3) := by decide +kernel
theorem d_md_room_52 : decode b_md_room 52 = .ok (.iconst 0, 1) := by decide +kernel
theorem d_md_room_53 : decode b_md_room 53 = .ok (.istore_n 3, 1) := by decide +kernel
theorem d_md_room_54 : decode b_md_room 54 = .ok (.iload_n 3, 1) := by decide +kernel
theorem d_md_room_55 : decode b_md_room 55 = .ok (.bipush 25, 2) := by decide +kernel
theorem d_md_room_57 : decode b_md_room 57 = .ok (.if_icmp .ge 16, 3) := by decide +kernel
theorem d_md_room_60 : decode b_md_room 60 = .ok (.aload_n 0, 1) := by decide +kernel
theorem d_md_room_61 : decode b_md_room 61 = .ok (.getfield 16, 3) := by decide +kernel
theorem d_md_room_64 : decode b_md_room 64 = .ok (.iload_n 3, 1) := by decide +kernel
theorem d_md_room_65 : decode b_md_room 65 = .ok (.iconst 0, 1) := by decide +kernel
theorem d_md_room_66 : decode b_md_room 66 = .ok (.bastore, 1) := by decide +kernel
theorem d_md_room_67 : decode b_md_room 67 = .ok (.iinc 3 1, 3) := by decide +kernel
theorem d_md_room_70 : decode b_md_room 70 = .ok (.goto (-16), 3) := by decide +kernel
theorem d_md_room_73 : decode b_md_room 73 = .ok (.iconst 0, 1) := by decide +kernel
theorem d_md_room_74 : decode b_md_room 74 = .ok (.istore_n 3, 1) := by decide +kernel
theorem d_md_room_75 : decode b_md_room 75 = .ok (.iload_n 3, 1) := by decide +kernel
theorem d_md_room_76 : decode b_md_room 76 = .ok (.sipush 180, 3) := by decide +kernel
theorem d_md_room_79 : decode b_md_room 79 = .ok (.if_icmp .ge 16, 3) := by decide +kernel
theorem d_md_room_82 : decode b_md_room 82 = .ok (.aload_n 0, 1) := by decide +kernel
theorem d_md_room_83 : decode b_md_room 83 = .ok (.getfield 30, 3) := by decide +kernel
theorem d_md_room_86 : decode b_md_room 86 = .ok (.iload_n 3, 1) := by decide +kernel
theorem d_md_room_87 : decode b_md_room 87 = .ok (.iconst 0, 1) := by decide +kernel
theorem d_md_room_88 : decode b_md_room 88 = .ok (.bastore, 1) := by decide +kernel
theorem d_md_room_89 : decode b_md_room 89 = .ok (.iinc 3 1, 3) := by decide +kernel
theorem d_md_room_92 : decode b_md_room 92 = .ok (.goto (-17), 3) := by decide +kernel
theorem d_md_room_95 : decode b_md_room 95 = .ok (.aload_n 0, 1) := by decide +kernel
theorem d_md_room_96 : decode b_md_room 96 = .ok (.invokevirtual 93, 3) := by decide +kernel
theorem d_md_room_99 : decode b_md_room 99 = .ok (.ireturn, 1) := by decide +kernel
theorem d_md_isCell_0 : decode b_md_isCell 0 = .ok (.iload_n 1, 1) := by decide +kernel
theorem d_md_isCell_1 : decode b_md_isCell 1 = .ok (.ifCond .lt 15, 3) := by decide +kernel
theorem d_md_isCell_4 : decode b_md_isCell 4 = .ok (.iload_n 1, 1) := by decide +kernel
theorem d_md_isCell_5 : decode b_md_isCell 5 = .ok (.aload_n 0, 1) := by decide +kernel
theorem d_md_isCell_6 : decode b_md_isCell 6 = .ok (.invokevirtual 93, 3) := by decide +kernel
theorem d_md_isCell_9 : decode b_md_isCell 9 = .ok (.if_icmp .ge 7, 3) := by decide +kernel
theorem d_md_isCell_12 : decode b_md_isCell 12 = .ok (.iconst 1, 1) := by decide +kernel
theorem d_md_isCell_13 : decode b_md_isCell 13 = .ok (.goto 4, 3) := by decide +kernel
theorem d_md_isCell_16 : decode b_md_isCell 16 = .ok (.iconst 0, 1) := by decide +kernel
theorem d_md_isCell_17 : decode b_md_isCell 17 = .ok (.ireturn, 1) := by decide +kernel
theorem d_md_isFree_0 : decode b_md_isFree 0 = .ok (.aload_n 0, 1) := by decide +kernel
theorem d_md_isFree_1 : decode b_md_isFree 1 = .ok (.iload_n 1, 1) := by decide +kernel
theorem d_md_isFree_2 : decode b_md_isFree 2 = .ok (.invokevirtual 97, 3) := by decide +kernel
theorem d_md_isFree_5 : decode b_md_isFree 5 = .ok (.ifCond .eq 16, 3) := by decide +kernel
theorem d_md_isFree_8 : decode b_md_isFree 8 = .ok (.aload_n 0, 1) := by decide +kernel
theorem d_md_isFree_9 : decode b_md_isFree 9 = .ok (.getfield 16, 3) := by decide +kernel
theorem d_md_isFree_12 : decode b_md_isFree 12 = .ok (.iload_n 1, 1) := by decide +kernel
theorem d_md_isFree_13 : decode b_md_isFree 13 = .ok (.baload, 1) := by decide +kernel
theorem d_md_isFree_14 : decode b_md_isFree 14 = .ok (.ifCond .ne 7, 3) := by decide +kernel
theorem d_md_isFree_17 : decode b_md_isFree 17 = .ok (.iconst 1, 1) := by decide +kernel
theorem d_md_isFree_18 : decode b_md_isFree 18 = .ok (.goto 4, 3) := by decide +kernel
theorem d_md_isFree_21 : decode b_md_isFree 21 = .ok (.iconst 0, 1) := by decide +kernel
theorem d_md_isFree_22 : decode b_md_isFree 22 = .ok (.ireturn, 1) := by decide +kernel
theorem d_md_wall_0 : decode b_md_wall 0 = .ok (.aload_n 0, 1) := by decide +kernel
theorem d_md_wall_1 : decode b_md_wall 1 = .ok (.iload_n 1, 1) := by decide +kernel
theorem d_md_wall_2 : decode b_md_wall 2 = .ok (.invokevirtual 97, 3) := by decide +kernel
theorem d_md_wall_5 : decode b_md_wall 5 = .ok (.ifCond .ne 5, 3) := by decide +kernel
theorem d_md_wall_8 : decode b_md_wall 8 = .ok (.iconst (-1), 1) := by decide +kernel
theorem d_md_wall_9 : decode b_md_wall 9 = .ok (.ireturn, 1) := by decide +kernel
theorem d_md_wall_10 : decode b_md_wall 10 = .ok (.aload_n 0, 1) := by decide +kernel
theorem d_md_wall_11 : decode b_md_wall 11 = .ok (.getfield 16, 3) := by decide +kernel
theorem d_md_wall_14 : decode b_md_wall 14 = .ok (.iload_n 1, 1) := by decide +kernel
theorem d_md_wall_15 : decode b_md_wall 15 = .ok (.aload_n 0, 1) := by decide +kernel
theorem d_md_wall_16 : decode b_md_wall 16 = .ok (.getfield 16, 3) := by decide +kernel
theorem d_md_wall_19 : decode b_md_wall 19 = .ok (.iload_n 1, 1) := by decide +kernel
theorem d_md_wall_20 : decode b_md_wall 20 = .ok (.baload, 1) := by decide +kernel
theorem d_md_wall_21 : decode b_md_wall 21 = .ok (.ifCond .ne 7, 3) := by decide +kernel
theorem d_md_wall_24 : decode b_md_wall 24 = .ok (.iconst 1, 1) := by decide +kernel
theorem d_md_wall_25 : decode b_md_wall 25 = .ok (.goto 4, 3) := by decide +kernel
theorem d_md_wall_28 : decode b_md_wall 28 = .ok (.iconst 0, 1) := by decide +kernel
theorem d_md_wall_29 : decode b_md_wall 29 = .ok (.bastore, 1) := by decide +kernel
theorem d_md_wall_30 : decode b_md_wall 30 = .ok (.aload_n 0, 1) := by decide +kernel
theorem d_md_wall_31 : decode b_md_wall 31 = .ok (.iconst 0, 1) := by decide +kernel
theorem d_md_wall_32 : decode b_md_wall 32 = .ok (.putfield 86, 3) := by decide +kernel
theorem d_md_wall_35 : decode b_md_wall 35 = .ok (.aload_n 0, 1) := by decide +kernel
theorem d_md_wall_36 : decode b_md_wall 36 = .ok (.iconst 0, 1) := by decide +kernel
theorem d_md_wall_37 : decode b_md_wall 37 = .ok (.putfield 89, 3) := by decide +kernel
theorem d_md_wall_40 : decode b_md_wall 40 = .ok (.aload_n 0, 1) := by decide +kernel
theorem d_md_wall_41 : decode b_md_wall 41 = .ok (.getfield 16, 3) := by decide +kernel
theorem d_md_wall_44 : decode b_md_wall 44 = .ok (.iload_n 1, 1) := by decide +kernel
theorem d_md_wall_45 : decode b_md_wall 45 = .ok (.baload, 1) := by decide +kernel
theorem d_md_wall_46 : decode b_md_wall 46 = .ok (.ifCond .eq 7, 3) := by decide +kernel
theorem d_md_wall_49 : decode b_md_wall 49 = .ok (.iconst 1, 1) := by decide +kernel
theorem d_md_wall_50 : decode b_md_wall 50 = .ok (.goto 4, 3) := by decide +kernel
theorem d_md_wall_53 : decode b_md_wall 53 = .ok (.iconst 0, 1) := by decide +kernel
theorem d_md_wall_54 : decode b_md_wall 54 = .ok (.ireturn, 1) := by decide +kernel
theorem d_md_freeCells_0 : decode b_md_freeCells 0 = .ok (.iconst 0, 1) := by decide +kernel
theorem d_md_freeCells_1 : decode b_md_freeCells 1 = .ok (.istore_n 1, 1) := by decide +kernel
theorem d_md_freeCells_2 : decode b_md_freeCells 2 = .ok (.iconst 0, 1) := by decide +kernel
theorem d_md_freeCells_3 : decode b_md_freeCells 3 = .ok (.istore_n 2, 1) := by decide +kernel
theorem d_md_freeCells_4 : decode b_md_freeCells 4 = .ok (.iload_n 2, 1) := by decide +kernel
theorem d_md_freeCells_5 : decode b_md_freeCells 5 = .ok (.aload_n 0, 1) := by decide +kernel
theorem d_md_freeCells_6 : decode b_md_freeCells 6 = .ok (.invokevirtual 93, 3) := by decide +kernel
theorem d_md_freeCells_9 : decode b_md_freeCells 9 = .ok (.if_icmp .ge 26, 3) := by decide +kernel
theorem d_md_freeCells_12 : decode b_md_freeCells 12 = .ok (.iload_n 1, 1) := by decide +kernel
theorem d_md_freeCells_13 : decode b_md_freeCells 13 = .ok (.aload_n 0, 1) := by decide +kernel
theorem d_md_freeCells_14 : decode b_md_freeCells 14 = .ok (.getfield 16, 3) := by decide +kernel
theorem d_md_freeCells_17 : decode b_md_freeCells 17 = .ok (.iload_n 2, 1) := by decide +kernel
theorem d_md_freeCells_18 : decode b_md_freeCells 18 = .ok (.baload, 1) := by decide +kernel
theorem d_md_freeCells_19 : decode b_md_freeCells 19 = .ok (.ifCond .eq 7, 3) := by decide +kernel
theorem d_md_freeCells_22 : decode b_md_freeCells 22 = .ok (.iconst 0, 1) := by decide +kernel
theorem d_md_freeCells_23 : decode b_md_freeCells 23 = .ok (.goto 4, 3) := by decide +kernel
theorem d_md_freeCells_26 : decode b_md_freeCells 26 = .ok (.iconst 1, 1) := by decide +kernel
theorem d_md_freeCells_27 : decode b_md_freeCells 27 = .ok (.iadd, 1) := by decide +kernel
theorem d_md_freeCells_28 : decode b_md_freeCells 28 = .ok (.istore_n 1, 1) := by decide +kernel
theorem d_md_freeCells_29 : decode b_md_freeCells 29 = .ok (.iinc 2 1, 3) := by decide +kernel
theorem d_md_freeCells_32 : decode b_md_freeCells 32 = .ok (.goto (-28), 3) := by decide +kernel
theorem d_md_freeCells_35 : decode b_md_freeCells 35 = .ok (.iload_n 1, 1) := by decide +kernel
theorem d_md_freeCells_36 : decode b_md_freeCells 36 = .ok (.ireturn, 1) := by decide +kernel
theorem d_md_mover_0 : decode b_md_mover 0 = .ok (.aload_n 0, 1) := by decide +kernel
theorem d_md_mover_1 : decode b_md_mover 1 = .ok (.iload_n 1, 1) := by decide +kernel
theorem d_md_mover_2 : decode b_md_mover 2 = .ok (.invokevirtual 101, 3) := by decide +kernel
theorem d_md_mover_5 : decode b_md_mover 5 = .ok (.ifCond .eq 11, 3) := by decide +kernel
theorem d_md_mover_8 : decode b_md_mover 8 = .ok (.aload_n 0, 1) := by decide +kernel
theorem d_md_mover_9 : decode b_md_mover 9 = .ok (.iload_n 2, 1) := by decide +kernel
theorem d_md_mover_10 : decode b_md_mover 10 = .ok (.invokevirtual 101, 3) := by decide +kernel
theorem d_md_mover_13 : decode b_md_mover 13 = .ok (.ifCond .ne 5, 3) := by decide +kernel
theorem d_md_mover_16 : decode b_md_mover 16 = .ok (.iconst (-1), 1) := by decide +kernel
theorem d_md_mover_17 : decode b_md_mover 17 = .ok (.ireturn, 1) := by decide +kernel
theorem d_md_mover_18 : decode b_md_mover 18 = .ok (.aload_n 0, 1) := by decide +kernel
theorem d_md_mover_19 : decode b_md_mover 19 = .ok (.invokevirtual 104, 3) := by decide +kernel
theorem d_md_mover_22 : decode b_md_mover 22 = .ok (.istore_n 3, 1) := by decide +kernel
theorem d_md_mover_23 : decode b_md_mover 23 = .ok (.iload_n 3, 1) := by decide +kernel
theorem d_md_mover_24 : decode b_md_mover 24 = .ok (.istore 4, 2) := by decide +kernel
theorem d_md_mover_26 : decode b_md_mover 26 = .ok (.iconst 0, 1) := by decide +kernel
theorem d_md_mover_27 : decode b_md_mover 27 = .ok (.istore 5, 2) := by decide +kernel
theorem d_md_mover_29 : decode b_md_mover 29 = .ok (.iload 5, 2) := by decide +kernel
theorem d_md_mover_31 : decode b_md_mover 31 = .ok (.aload_n 0, 1) := by decide +kernel
theorem d_md_mover_32 : decode b_md_mover 32 = .ok (.getfield 86, 3) := by decide +kernel
theorem d_md_mover_35 : decode b_md_mover 35 = .ok (.if_icmp .ge 52, 3) := by decide +kernel
theorem d_md_mover_38 : decode b_md_mover 38 = .ok (.aload_n 0, 1) := by decide +kernel
theorem d_md_mover_39 : decode b_md_mover 39 = .ok (.getfield 20, 3) := by decide +kernel
theorem d_md_mover_42 : decode b_md_mover 42 = .ok (.iload 5, 2) := by decide +kernel
theorem d_md_mover_44 : decode b_md_mover 44 = .ok (.iaload, 1) := by decide +kernel
theorem d_md_mover_45 : decode b_md_mover 45 = .ok (.iload_n 1, 1) := by decide +kernel
theorem d_md_mover_46 : decode b_md_mover 46 = .ok (.if_icmp .eq 14, 3) := by decide +kernel
theorem d_md_mover_49 : decode b_md_mover 49 = .ok (.aload_n 0, 1) := by decide +kernel
theorem d_md_mover_50 : decode b_md_mover 50 = .ok (.getfield 24, 3) := by decide +kernel
theorem d_md_mover_53 : decode b_md_mover 53 = .ok (.iload 5, 2) := by decide +kernel
theorem d_md_mover_55 : decode b_md_mover 55 = .ok (.iaload, 1) := by decide +kernel
theorem d_md_mover_56 : decode b_md_mover 56 = .ok (.iload_n 2, 1) := by decide +kernel
theorem d_md_mover_57 : decode b_md_mover 57 = .ok (.if_icmp .ne 5, 3) := by decide +kernel
theorem d_md_mover_60 : decode b_md_mover 60 = .ok (.iconst (-1), 1) := by decide +kernel
theorem d_md_mover_61 : decode b_md_mover 61 = .ok (.ireturn, 1) := by decide +kernel
theorem d_md_mover_62 : decode b_md_mover 62 = .ok (.iload 4, 2) := by decide +kernel
theorem d_md_mover_64 : decode b_md_mover 64 = .ok (.sipush 16000, 3) := by decide +kernel
theorem d_md_mover_67 : decode b_md_mover 67 = .ok (.if_icmp .le 8, 3) := by decide +kernel
theorem d_md_mover_70 : decode b_md_mover 70 = .ok (.iload 4, 2) := by decide +kernel
theorem d_md_mover_72 : decode b_md_mover 72 = .ok (.goto 7, 3) := by decide +kernel
theorem d_md_mover_75 : decode b_md_mover 75 = .ok (.iload 4, 2) := by decide +kernel
theorem d_md_mover_77 : decode b_md_mover 77 = .ok (.iload_n 3, 1) := by decide +kernel
theorem d_md_mover_78 : decode b_md_mover 78 = .ok (.imul, 1) := by decide +kernel
theorem d_md_mover_79 : decode b_md_mover 79 = .ok (.istore 4, 2) := by decide +kernel
theorem d_md_mover_81 : decode b_md_mover 81 = .ok (.iinc 5 1, 3) := by decide +kernel
theorem d_md_mover_84 : decode b_md_mover 84 = .ok (.goto (-55), 3) := by decide +kernel
theorem d_md_mover_87 : decode b_md_mover 87 = .ok (.iload 4, 2) := by decide +kernel
theorem d_md_mover_89 : decode b_md_mover 89 = .ok (.sipush 16000, 3) := by decide +kernel
theorem d_md_mover_92 : decode b_md_mover 92 = .ok (.if_icmp .le 5, 3) := by decide +kernel
theorem d_md_mover_95 : decode b_md_mover 95 = .ok (.iconst (-1), 1) := by decide +kernel
theorem d_md_mover_96 : decode b_md_mover 96 = .ok (.ireturn, 1) := by decide +kernel
theorem d_md_mover_97 : decode b_md_mover 97 = .ok (.aload_n 0, 1) := by decide +kernel
theorem d_md_mover_98 : decode b_md_mover 98 = .ok (.getfield 20, 3) := by decide +kernel
theorem d_md_mover_101 : decode b_md_mover 101 = .ok (.aload_n 0, 1) := by decide +kernel
theorem d_md_mover_102 : decode b_md_mover 102 = .ok (.getfield 86, 3) := by decide +kernel
theorem d_md_mover_105 : decode b_md_mover 105 = .ok (.iload_n 1, 1) := by decide +kernel
theorem d_md_mover_106 : decode b_md_mover 106 = .ok (.iastore, 1) := by decide +kernel
theorem d_md_mover_107 : decode b_md_mover 107 = .ok (.aload_n 0, 1) := by decide +kernel
theorem d_md_mover_108 : decode b_md_mover 108 = .ok (.getfield 24, 3) := by decide +kernel
theorem d_md_mover_111 : decode b_md_mover 111 = .ok (.aload_n 0, 1) := by decide +kernel
theorem d_md_mover_112 : decode b_md_mover 112 = .ok (.getfield 86, 3) := by decide +kernel
theorem d_md_mover_115 : decode b_md_mover 115 = .ok (.iload_n 2, 1) := by decide +kernel
theorem d_md_mover_116 : decode b_md_mover 116 = .ok (.iastore, 1) := by decide +kernel
theorem d_md_mover_117 : decode b_md_mover 117 = .ok (.aload_n 0, 1) := by decide +kernel
theorem d_md_mover_118 : decode b_md_mover 118 = .ok (.dup, 1) := by decide +kernel
theorem d_md_mover_119 : decode b_md_mover 119 = .ok (.getfield 86, 3) := by decide +kernel
theorem d_md_mover_122 : decode b_md_mover 122 = .ok (.iconst 1, 1) := by decide +kernel
theorem d_md_mover_123 : decode b_md_mover 123 = .ok (.iadd, 1) := by decide +kernel
theorem d_md_mover_124 : decode b_md_mover 124 = .ok (.putfield 86, 3) := by decide +kernel
theorem d_md_mover_127 : decode b_md_mover 127 = .ok (.aload_n 0, 1) := by decide +kernel
theorem d_md_mover_128 : decode b_md_mover 128 = .ok (.iconst 0, 1) := by decide +kernel
theorem d_md_mover_129 : decode b_md_mover 129 = .ok (.putfield 89, 3) := by decide +kernel
theorem d_md_mover_132 : decode b_md_mover 132 = .ok (.aload_n 0, 1) := by decide +kernel
theorem d_md_mover_133 : decode b_md_mover 133 = .ok (.getfield 86, 3) := by decide +kernel
theorem d_md_mover_136 : decode b_md_mover 136 = .ok (.iconst 1, 1) := by decide +kernel
theorem d_md_mover_137 : decode b_md_mover 137 = .ok (.isub, 1) := by decide +kernel
theorem d_md_mover_138 : decode b_md_mover 138 = .ok (.ireturn, 1) := by decide +kernel
theorem d_md_clear_0 : decode b_md_clear 0 = .ok (.aload_n 0, 1) := by decide +kernel
theorem d_md_clear_1 : decode b_md_clear 1 = .ok (.getfield 86, 3) := by decide +kernel
theorem d_md_clear_4 : decode b_md_clear 4 = .ok (.istore_n 1, 1) := by decide +kernel
theorem d_md_clear_5 : decode b_md_clear 5 = .ok (.aload_n 0, 1) := by decide +kernel
theorem d_md_clear_6 : decode b_md_clear 6 = .ok (.iconst 0, 1) := by decide +kernel
theorem d_md_clear_7 : decode b_md_clear 7 = .ok (.putfield 86, 3) := by decide +kernel
theorem d_md_clear_10 : decode b_md_clear 10 = .ok (.aload_n 0, 1) := by decide +kernel
theorem d_md_clear_11 : decode b_md_clear 11 = .ok (.iconst 0, 1) := by decide +kernel
theorem d_md_clear_12 : decode b_md_clear 12 = .ok (.putfield 89, 3) := by decide +kernel
theorem d_md_clear_15 : decode b_md_clear 15 = .ok (.iload_n 1, 1) := by decide +kernel
theorem d_md_clear_16 : decode b_md_clear 16 = .ok (.ireturn, 1) := by decide +kernel
theorem d_md_isMover_0 : decode b_md_isMover 0 = .ok (.iload_n 1, 1) := by decide +kernel
theorem d_md_isMover_1 : decode b_md_isMover 1 = .ok (.ifCond .lt 15, 3) := by decide +kernel
theorem d_md_isMover_4 : decode b_md_isMover 4 = .ok (.iload_n 1, 1) := by decide +kernel
theorem d_md_isMover_5 : decode b_md_isMover 5 = .ok (.aload_n 0, 1) := by decide +kernel
theorem d_md_isMover_6 : decode b_md_isMover 6 = .ok (.getfield 86, 3) := by decide +kernel
theorem d_md_isMover_9 : decode b_md_isMover 9 = .ok (.if_icmp .ge 7, 3) := by decide +kernel
theorem d_md_isMover_12 : decode b_md_isMover 12 = .ok (.iconst 1, 1) := by decide +kernel
theorem d_md_isMover_13 : decode b_md_isMover 13 = .ok (.goto 4, 3) := by decide +kernel
theorem d_md_isMover_16 : decode b_md_isMover 16 = .ok (.iconst 0, 1) := by decide +kernel
theorem d_md_isMover_17 : decode b_md_isMover 17 = .ok (.ireturn, 1) := by decide +kernel
theorem d_md_distance_0 : decode b_md_distance 0 = .ok (.aload_n 0, 1) := by decide +kernel
theorem d_md_distance_1 : decode b_md_distance 1 = .ok (.iload_n 1, 1) := by decide +kernel
theorem d_md_distance_2 : decode b_md_distance 2 = .ok (.invokevirtual 111, 3) := by decide +kernel
theorem d_md_distance_5 : decode b_md_distance 5 = .ok (.ifCond .ne 5, 3) := by decide +kernel
theorem d_md_distance_8 : decode b_md_distance 8 = .ok (.iconst (-1), 1) := by decide +kernel
theorem d_md_distance_9 : decode b_md_distance 9 = .ok (.ireturn, 1) := by decide +kernel
theorem d_md_distance_10 : decode b_md_distance 10 = .ok (.aload_n 0, 1) := by decide +kernel
