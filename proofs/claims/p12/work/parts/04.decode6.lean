theorem d_md_choices_9 : decode b_md_choices 9 = .ok (.goto 14, 3) := by decide +kernel
theorem d_md_choices_12 : decode b_md_choices 12 = .ok (.aload_n 0, 1) := by decide +kernel
theorem d_md_choices_13 : decode b_md_choices 13 = .ok (.getfield 42, 3) := by decide +kernel
theorem d_md_choices_16 : decode b_md_choices 16 = .ok (.aload_n 0, 1) := by decide +kernel
theorem d_md_choices_17 : decode b_md_choices 17 = .ok (.getfield 55, 3) := by decide +kernel
theorem d_md_choices_20 : decode b_md_choices 20 = .ok (.iload_n 2, 1) := by decide +kernel
theorem d_md_choices_21 : decode b_md_choices 21 = .ok (.iaload, 1) := by decide +kernel
theorem d_md_choices_22 : decode b_md_choices 22 = .ok (.iaload, 1) := by decide +kernel
theorem d_md_choices_23 : decode b_md_choices 23 = .ok (.ireturn, 1) := by decide +kernel
theorem d_md_choose_0 : decode b_md_choose 0 = .ok (.iconst 0, 1) := by decide +kernel
theorem d_md_choose_1 : decode b_md_choose 1 = .ok (.istore_n 2, 1) := by decide +kernel
theorem d_md_choose_2 : decode b_md_choose 2 = .ok (.iload_n 2, 1) := by decide +kernel
theorem d_md_choose_3 : decode b_md_choose 3 = .ok (.aload_n 0, 1) := by decide +kernel
theorem d_md_choose_4 : decode b_md_choose 4 = .ok (.getfield 86, 3) := by decide +kernel
theorem d_md_choose_7 : decode b_md_choose 7 = .ok (.if_icmp .ge 52, 3) := by decide +kernel
theorem d_md_choose_10 : decode b_md_choose 10 = .ok (.aload_n 0, 1) := by decide +kernel
theorem d_md_choose_11 : decode b_md_choose 11 = .ok (.getfield 58, 3) := by decide +kernel
theorem d_md_choose_14 : decode b_md_choose 14 = .ok (.iload_n 2, 1) := by decide +kernel
theorem d_md_choose_15 : decode b_md_choose 15 = .ok (.iload_n 1, 1) := by decide +kernel
theorem d_md_choose_16 : decode b_md_choose 16 = .ok (.iload_n 2, 1) := by decide +kernel
theorem d_md_choose_17 : decode b_md_choose 17 = .ok (.invokestatic 123, 3) := by decide +kernel
theorem d_md_choose_20 : decode b_md_choose 20 = .ok (.ifCond .eq 12, 3) := by decide +kernel
theorem d_md_choose_23 : decode b_md_choose 23 = .ok (.aload_n 0, 1) := by decide +kernel
theorem d_md_choose_24 : decode b_md_choose 24 = .ok (.getfield 55, 3) := by decide +kernel
theorem d_md_choose_27 : decode b_md_choose 27 = .ok (.iload_n 2, 1) := by decide +kernel
theorem d_md_choose_28 : decode b_md_choose 28 = .ok (.iaload, 1) := by decide +kernel
theorem d_md_choose_29 : decode b_md_choose 29 = .ok (.goto 23, 3) := by decide +kernel
theorem d_md_choose_32 : decode b_md_choose 32 = .ok (.aload_n 0, 1) := by decide +kernel
theorem d_md_choose_33 : decode b_md_choose 33 = .ok (.getfield 39, 3) := by decide +kernel
theorem d_md_choose_36 : decode b_md_choose 36 = .ok (.iconst 5, 1) := by decide +kernel
theorem d_md_choose_37 : decode b_md_choose 37 = .ok (.aload_n 0, 1) := by decide +kernel
theorem d_md_choose_38 : decode b_md_choose 38 = .ok (.getfield 55, 3) := by decide +kernel
theorem d_md_choose_41 : decode b_md_choose 41 = .ok (.iload_n 2, 1) := by decide +kernel
theorem d_md_choose_42 : decode b_md_choose 42 = .ok (.iaload, 1) := by decide +kernel
theorem d_md_choose_43 : decode b_md_choose 43 = .ok (.imul, 1) := by decide +kernel
theorem d_md_choose_44 : decode b_md_choose 44 = .ok (.aload_n 0, 1) := by decide +kernel
theorem d_md_choose_45 : decode b_md_choose 45 = .ok (.getfield 61, 3) := by decide +kernel
theorem d_md_choose_48 : decode b_md_choose 48 = .ok (.iload_n 2, 1) := by decide +kernel
theorem d_md_choose_49 : decode b_md_choose 49 = .ok (.iaload, 1) := by decide +kernel
theorem d_md_choose_50 : decode b_md_choose 50 = .ok (.iadd, 1) := by decide +kernel
theorem d_md_choose_51 : decode b_md_choose 51 = .ok (.iaload, 1) := by decide +kernel
theorem d_md_choose_52 : decode b_md_choose 52 = .ok (.iastore, 1) := by decide +kernel
theorem d_md_choose_53 : decode b_md_choose 53 = .ok (.iinc 2 1, 3) := by decide +kernel
theorem d_md_choose_56 : decode b_md_choose 56 = .ok (.goto (-54), 3) := by decide +kernel
theorem d_md_choose_59 : decode b_md_choose 59 = .ok (.return_, 1) := by decide +kernel
theorem d_md_nextChoice_0 : decode b_md_nextChoice 0 = .ok (.aload_n 0, 1) := by decide +kernel
theorem d_md_nextChoice_1 : decode b_md_nextChoice 1 = .ok (.getfield 86, 3) := by decide +kernel
theorem d_md_nextChoice_4 : decode b_md_nextChoice 4 = .ok (.iconst 1, 1) := by decide +kernel
theorem d_md_nextChoice_5 : decode b_md_nextChoice 5 = .ok (.isub, 1) := by decide +kernel
theorem d_md_nextChoice_6 : decode b_md_nextChoice 6 = .ok (.istore_n 2, 1) := by decide +kernel
theorem d_md_nextChoice_7 : decode b_md_nextChoice 7 = .ok (.iload_n 2, 1) := by decide +kernel
theorem d_md_nextChoice_8 : decode b_md_nextChoice 8 = .ok (.ifCond .lt 33, 3) := by decide +kernel
theorem d_md_nextChoice_11 : decode b_md_nextChoice 11 = .ok (.aload_n 0, 1) := by decide +kernel
theorem d_md_nextChoice_12 : decode b_md_nextChoice 12 = .ok (.getfield 61, 3) := by decide +kernel
theorem d_md_nextChoice_15 : decode b_md_nextChoice 15 = .ok (.iload_n 2, 1) := by decide +kernel
theorem d_md_nextChoice_16 : decode b_md_nextChoice 16 = .ok (.iaload, 1) := by decide +kernel
theorem d_md_nextChoice_17 : decode b_md_nextChoice 17 = .ok (.iconst 1, 1) := by decide +kernel
theorem d_md_nextChoice_18 : decode b_md_nextChoice 18 = .ok (.iadd, 1) := by decide +kernel
theorem d_md_nextChoice_19 : decode b_md_nextChoice 19 = .ok (.aload_n 0, 1) := by decide +kernel
theorem d_md_nextChoice_20 : decode b_md_nextChoice 20 = .ok (.iload_n 1, 1) := by decide +kernel
theorem d_md_nextChoice_21 : decode b_md_nextChoice 21 = .ok (.iload_n 2, 1) := by decide +kernel
theorem d_md_nextChoice_22 : decode b_md_nextChoice 22 = .ok (.invokevirtual 126, 3) := by decide +kernel
theorem d_md_nextChoice_25 : decode b_md_nextChoice 25 = .ok (.if_icmp .ne 16, 3) := by decide +kernel
theorem d_md_nextChoice_28 : decode b_md_nextChoice 28 = .ok (.aload_n 0, 1) := by decide +kernel
theorem d_md_nextChoice_29 : decode b_md_nextChoice 29 = .ok (.getfield 61, 3) := by decide +kernel
theorem d_md_nextChoice_32 : decode b_md_nextChoice 32 = .ok (.iload_n 2, 1) := by decide +kernel
theorem d_md_nextChoice_33 : decode b_md_nextChoice 33 = .ok (.iconst 0, 1) := by decide +kernel
theorem d_md_nextChoice_34 : decode b_md_nextChoice 34 = .ok (.iastore, 1) := by decide +kernel
theorem d_md_nextChoice_35 : decode b_md_nextChoice 35 = .ok (.iinc 2 (-1), 3) := by decide +kernel
theorem d_md_nextChoice_38 : decode b_md_nextChoice 38 = .ok (.goto (-31), 3) := by decide +kernel
theorem d_md_nextChoice_41 : decode b_md_nextChoice 41 = .ok (.iload_n 2, 1) := by decide +kernel
theorem d_md_nextChoice_42 : decode b_md_nextChoice 42 = .ok (.ifCond .ge 5, 3) := by decide +kernel
theorem d_md_nextChoice_45 : decode b_md_nextChoice 45 = .ok (.iconst 0, 1) := by decide +kernel
theorem d_md_nextChoice_46 : decode b_md_nextChoice 46 = .ok (.ireturn, 1) := by decide +kernel
theorem d_md_nextChoice_47 : decode b_md_nextChoice 47 = .ok (.aload_n 0, 1) := by decide +kernel
theorem d_md_nextChoice_48 : decode b_md_nextChoice 48 = .ok (.getfield 61, 3) := by decide +kernel
theorem d_md_nextChoice_51 : decode b_md_nextChoice 51 = .ok (.iload_n 2, 1) := by decide +kernel
theorem d_md_nextChoice_52 : decode b_md_nextChoice 52 = .ok (.dup2, 1) := by decide +kernel
theorem d_md_nextChoice_53 : decode b_md_nextChoice 53 = .ok (.iaload, 1) := by decide +kernel
theorem d_md_nextChoice_54 : decode b_md_nextChoice 54 = .ok (.iconst 1, 1) := by decide +kernel
theorem d_md_nextChoice_55 : decode b_md_nextChoice 55 = .ok (.iadd, 1) := by decide +kernel
theorem d_md_nextChoice_56 : decode b_md_nextChoice 56 = .ok (.iastore, 1) := by decide +kernel
theorem d_md_nextChoice_57 : decode b_md_nextChoice 57 = .ok (.iconst 1, 1) := by decide +kernel
theorem d_md_nextChoice_58 : decode b_md_nextChoice 58 = .ok (.ireturn, 1) := by decide +kernel
theorem d_md_meet_0 : decode b_md_meet 0 = .ok (.iconst 0, 1) := by decide +kernel
theorem d_md_meet_1 : decode b_md_meet 1 = .ok (.istore_n 1, 1) := by decide +kernel
theorem d_md_meet_2 : decode b_md_meet 2 = .ok (.iconst 0, 1) := by decide +kernel
theorem d_md_meet_3 : decode b_md_meet 3 = .ok (.istore_n 2, 1) := by decide +kernel
theorem d_md_meet_4 : decode b_md_meet 4 = .ok (.iload_n 2, 1) := by decide +kernel
theorem d_md_meet_5 : decode b_md_meet 5 = .ok (.aload_n 0, 1) := by decide +kernel
theorem d_md_meet_6 : decode b_md_meet 6 = .ok (.getfield 86, 3) := by decide +kernel
theorem d_md_meet_9 : decode b_md_meet 9 = .ok (.if_icmp .ge 77, 3) := by decide +kernel
theorem d_md_meet_12 : decode b_md_meet 12 = .ok (.iconst 0, 1) := by decide +kernel
theorem d_md_meet_13 : decode b_md_meet 13 = .ok (.istore_n 3, 1) := by decide +kernel
theorem d_md_meet_14 : decode b_md_meet 14 = .ok (.iload_n 3, 1) := by decide +kernel
theorem d_md_meet_15 : decode b_md_meet 15 = .ok (.iload_n 2, 1) := by decide +kernel
theorem d_md_meet_16 : decode b_md_meet 16 = .ok (.if_icmp .ge 64, 3) := by decide +kernel
theorem d_md_meet_19 : decode b_md_meet 19 = .ok (.iload_n 1, 1) := by decide +kernel
theorem d_md_meet_20 : decode b_md_meet 20 = .ok (.ifCond .ne 48, 3) := by decide +kernel
theorem d_md_meet_23 : decode b_md_meet 23 = .ok (.aload_n 0, 1) := by decide +kernel
theorem d_md_meet_24 : decode b_md_meet 24 = .ok (.getfield 58, 3) := by decide +kernel
theorem d_md_meet_27 : decode b_md_meet 27 = .ok (.iload_n 2, 1) := by decide +kernel
theorem d_md_meet_28 : decode b_md_meet 28 = .ok (.iaload, 1) := by decide +kernel
theorem d_md_meet_29 : decode b_md_meet 29 = .ok (.aload_n 0, 1) := by decide +kernel
theorem d_md_meet_30 : decode b_md_meet 30 = .ok (.getfield 58, 3) := by decide +kernel
theorem d_md_meet_33 : decode b_md_meet 33 = .ok (.iload_n 3, 1) := by decide +kernel
theorem d_md_meet_34 : decode b_md_meet 34 = .ok (.iaload, 1) := by decide +kernel
theorem d_md_meet_35 : decode b_md_meet 35 = .ok (.if_icmp .eq 33, 3) := by decide +kernel
theorem d_md_meet_38 : decode b_md_meet 38 = .ok (.aload_n 0, 1) := by decide +kernel
theorem d_md_meet_39 : decode b_md_meet 39 = .ok (.getfield 58, 3) := by decide +kernel
theorem d_md_meet_42 : decode b_md_meet 42 = .ok (.iload_n 2, 1) := by decide +kernel
theorem d_md_meet_43 : decode b_md_meet 43 = .ok (.iaload, 1) := by decide +kernel
theorem d_md_meet_44 : decode b_md_meet 44 = .ok (.aload_n 0, 1) := by decide +kernel
theorem d_md_meet_45 : decode b_md_meet 45 = .ok (.getfield 55, 3) := by decide +kernel
theorem d_md_meet_48 : decode b_md_meet 48 = .ok (.iload_n 3, 1) := by decide +kernel
theorem d_md_meet_49 : decode b_md_meet 49 = .ok (.iaload, 1) := by decide +kernel
theorem d_md_meet_50 : decode b_md_meet 50 = .ok (.if_icmp .ne 22, 3) := by decide +kernel
theorem d_md_meet_53 : decode b_md_meet 53 = .ok (.aload_n 0, 1) := by decide +kernel
theorem d_md_meet_54 : decode b_md_meet 54 = .ok (.getfield 58, 3) := by decide +kernel
theorem d_md_meet_57 : decode b_md_meet 57 = .ok (.iload_n 3, 1) := by decide +kernel
theorem d_md_meet_58 : decode b_md_meet 58 = .ok (.iaload, 1) := by decide +kernel
theorem d_md_meet_59 : decode b_md_meet 59 = .ok (.aload_n 0, 1) := by decide +kernel
theorem d_md_meet_60 : decode b_md_meet 60 = .ok (.getfield 55, 3) := by decide +kernel
theorem d_md_meet_63 : decode b_md_meet 63 = .ok (.iload_n 2, 1) := by decide +kernel
theorem d_md_meet_64 : decode b_md_meet 64 = .ok (.iaload, 1) := by decide +kernel
theorem d_md_meet_65 : decode b_md_meet 65 = .ok (.if_icmp .ne 7, 3) := by decide +kernel
theorem d_md_meet_68 : decode b_md_meet 68 = .ok (.iconst 1, 1) := by decide +kernel
theorem d_md_meet_69 : decode b_md_meet 69 = .ok (.goto 4, 3) := by decide +kernel
theorem d_md_meet_72 : decode b_md_meet 72 = .ok (.iconst 0, 1) := by decide +kernel
theorem d_md_meet_73 : decode b_md_meet 73 = .ok (.istore_n 1, 1) := by decide +kernel
theorem d_md_meet_74 : decode b_md_meet 74 = .ok (.iinc 3 1, 3) := by decide +kernel
theorem d_md_meet_77 : decode b_md_meet 77 = .ok (.goto (-63), 3) := by decide +kernel
theorem d_md_meet_80 : decode b_md_meet 80 = .ok (.iinc 2 1, 3) := by decide +kernel
theorem d_md_meet_83 : decode b_md_meet 83 = .ok (.goto (-79), 3) := by decide +kernel
theorem d_md_meet_86 : decode b_md_meet 86 = .ok (.iload_n 1, 1) := by decide +kernel
theorem d_md_meet_87 : decode b_md_meet 87 = .ok (.ireturn, 1) := by decide +kernel
theorem d_md_bits_0 : decode b_md_bits 0 = .ok (.iload_n 0, 1) := by decide +kernel
theorem d_md_bits_1 : decode b_md_bits 1 = .ok (.iload_n 0, 1) := by decide +kernel
theorem d_md_bits_2 : decode b_md_bits 2 = .ok (.iconst 1, 1) := by decide +kernel
theorem d_md_bits_3 : decode b_md_bits 3 = .ok (.ishr, 1) := by decide +kernel
theorem d_md_bits_4 : decode b_md_bits 4 = .ok (.sipush 21845, 3) := by decide +kernel
theorem d_md_bits_7 : decode b_md_bits 7 = .ok (.iand, 1) := by decide +kernel
theorem d_md_bits_8 : decode b_md_bits 8 = .ok (.isub, 1) := by decide +kernel
theorem d_md_bits_9 : decode b_md_bits 9 = .ok (.istore_n 1, 1) := by decide +kernel
theorem d_md_bits_10 : decode b_md_bits 10 = .ok (.iload_n 1, 1) := by decide +kernel
theorem d_md_bits_11 : decode b_md_bits 11 = .ok (.sipush 13107, 3) := by decide +kernel
theorem d_md_bits_14 : decode b_md_bits 14 = .ok (.iand, 1) := by decide +kernel
theorem d_md_bits_15 : decode b_md_bits 15 = .ok (.iload_n 1, 1) := by decide +kernel
theorem d_md_bits_16 : decode b_md_bits 16 = .ok (.iconst 2, 1) := by decide +kernel
theorem d_md_bits_17 : decode b_md_bits 17 = .ok (.ishr, 1) := by decide +kernel
theorem d_md_bits_18 : decode b_md_bits 18 = .ok (.sipush 13107, 3) := by decide +kernel
theorem d_md_bits_21 : decode b_md_bits 21 = .ok (.iand, 1) := by decide +kernel
theorem d_md_bits_22 : decode b_md_bits 22 = .ok (.iadd, 1) := by decide +kernel
theorem d_md_bits_23 : decode b_md_bits 23 = .ok (.istore_n 1, 1) := by decide +kernel
theorem d_md_bits_24 : decode b_md_bits 24 = .ok (.iload_n 1, 1) := by decide +kernel
theorem d_md_bits_25 : decode b_md_bits 25 = .ok (.iload_n 1, 1) := by decide +kernel
theorem d_md_bits_26 : decode b_md_bits 26 = .ok (.iconst 4, 1) := by decide +kernel
theorem d_md_bits_27 : decode b_md_bits 27 = .ok (.ishr, 1) := by decide +kernel
theorem d_md_bits_28 : decode b_md_bits 28 = .ok (.iadd, 1) := by decide +kernel
theorem d_md_bits_29 : decode b_md_bits 29 = .ok (.sipush 3855, 3) := by decide +kernel
theorem d_md_bits_32 : decode b_md_bits 32 = .ok (.iand, 1) := by decide +kernel
theorem d_md_bits_33 : decode b_md_bits 33 = .ok (.istore_n 1, 1) := by decide +kernel
theorem d_md_bits_34 : decode b_md_bits 34 = .ok (.iload_n 1, 1) := by decide +kernel
theorem d_md_bits_35 : decode b_md_bits 35 = .ok (.iload_n 1, 1) := by decide +kernel
theorem d_md_bits_36 : decode b_md_bits 36 = .ok (.bipush 8, 2) := by decide +kernel
theorem d_md_bits_38 : decode b_md_bits 38 = .ok (.ishr, 1) := by decide +kernel
theorem d_md_bits_39 : decode b_md_bits 39 = .ok (.iadd, 1) := by decide +kernel
theorem d_md_bits_40 : decode b_md_bits 40 = .ok (.bipush 31, 2) := by decide +kernel
theorem d_md_bits_42 : decode b_md_bits 42 = .ok (.iand, 1) := by decide +kernel
theorem d_md_bits_43 : decode b_md_bits 43 = .ok (.ireturn, 1) := by decide +kernel
theorem d_md_lower_0 : decode b_md_lower 0 = .ok (.aload_n 0, 1) := by decide +kernel
theorem d_md_lower_1 : decode b_md_lower 1 = .ok (.getfield 49, 3) := by decide +kernel
theorem d_md_lower_4 : decode b_md_lower 4 = .ok (.iload_n 1, 1) := by decide +kernel
theorem d_md_lower_5 : decode b_md_lower 5 = .ok (.baload, 1) := by decide +kernel
theorem d_md_lower_6 : decode b_md_lower 6 = .ok (.ifCond .ne 45, 3) := by decide +kernel
theorem d_md_lower_9 : decode b_md_lower 9 = .ok (.iload_n 2, 1) := by decide +kernel
theorem d_md_lower_10 : decode b_md_lower 10 = .ok (.aload_n 0, 1) := by decide +kernel
theorem d_md_lower_11 : decode b_md_lower 11 = .ok (.getfield 46, 3) := by decide +kernel
theorem d_md_lower_14 : decode b_md_lower 14 = .ok (.iload_n 1, 1) := by decide +kernel
theorem d_md_lower_15 : decode b_md_lower 15 = .ok (.iaload, 1) := by decide +kernel
theorem d_md_lower_16 : decode b_md_lower 16 = .ok (.if_icmp .ge 35, 3) := by decide +kernel
theorem d_md_lower_19 : decode b_md_lower 19 = .ok (.aload_n 0, 1) := by decide +kernel
theorem d_md_lower_20 : decode b_md_lower 20 = .ok (.getfield 46, 3) := by decide +kernel
theorem d_md_lower_23 : decode b_md_lower 23 = .ok (.iload_n 1, 1) := by decide +kernel
theorem d_md_lower_24 : decode b_md_lower 24 = .ok (.iload_n 2, 1) := by decide +kernel
theorem d_md_lower_25 : decode b_md_lower 25 = .ok (.iastore, 1) := by decide +kernel
theorem d_md_lower_26 : decode b_md_lower 26 = .ok (.iload_n 2, 1) := by decide +kernel
theorem d_md_lower_27 : decode b_md_lower 27 = .ok (.iload_n 3, 1) := by decide +kernel
theorem d_md_lower_28 : decode b_md_lower 28 = .ok (.if_icmp .ne 23, 3) := by decide +kernel
theorem d_md_lower_31 : decode b_md_lower 31 = .ok (.aload_n 0, 1) := by decide +kernel
theorem d_md_lower_32 : decode b_md_lower 32 = .ok (.getfield 52, 3) := by decide +kernel
theorem d_md_lower_35 : decode b_md_lower 35 = .ok (.aload_n 0, 1) := by decide +kernel
theorem d_md_lower_36 : decode b_md_lower 36 = .ok (.getfield 130, 3) := by decide +kernel
theorem d_md_lower_39 : decode b_md_lower 39 = .ok (.iload_n 1, 1) := by decide +kernel
theorem d_md_lower_40 : decode b_md_lower 40 = .ok (.iastore, 1) := by decide +kernel
theorem d_md_lower_41 : decode b_md_lower 41 = .ok (.aload_n 0, 1) := by decide +kernel
theorem d_md_lower_42 : decode b_md_lower 42 = .ok (.dup, 1) := by decide +kernel
theorem d_md_lower_43 : decode b_md_lower 43 = .ok (.getfield 130, 3) := by decide +kernel
theorem d_md_lower_46 : decode b_md_lower 46 = .ok (.iconst 1, 1) := by decide +kernel
theorem d_md_lower_47 : decode b_md_lower 47 = .ok (.iadd, 1) := by decide +kernel
theorem d_md_lower_48 : decode b_md_lower 48 = .ok (.putfield 130, 3) := by decide +kernel
theorem d_md_lower_51 : decode b_md_lower 51 = .ok (.return_, 1) := by decide +kernel
theorem d_md_relax_0 : decode b_md_relax 0 = .ok (.iconst 1, 1) := by decide +kernel
theorem d_md_relax_1 : decode b_md_relax 1 = .ok (.aload_n 0, 1) := by decide +kernel
theorem d_md_relax_2 : decode b_md_relax 2 = .ok (.getfield 86, 3) := by decide +kernel
theorem d_md_relax_5 : decode b_md_relax 5 = .ok (.ishl, 1) := by decide +kernel
theorem d_md_relax_6 : decode b_md_relax 6 = .ok (.iconst 1, 1) := by decide +kernel
theorem d_md_relax_7 : decode b_md_relax 7 = .ok (.isub, 1) := by decide +kernel
theorem d_md_relax_8 : decode b_md_relax 8 = .ok (.istore_n 3, 1) := by decide +kernel
theorem d_md_relax_9 : decode b_md_relax 9 = .ok (.iload_n 1, 1) := by decide +kernel
theorem d_md_relax_10 : decode b_md_relax 10 = .ok (.iload_n 3, 1) := by decide +kernel
theorem d_md_relax_11 : decode b_md_relax 11 = .ok (.iand, 1) := by decide +kernel
theorem d_md_relax_12 : decode b_md_relax 12 = .ok (.istore 4, 2) := by decide +kernel
theorem d_md_relax_14 : decode b_md_relax 14 = .ok (.iconst 0, 1) := by decide +kernel
theorem d_md_relax_15 : decode b_md_relax 15 = .ok (.istore 5, 2) := by decide +kernel
theorem d_md_relax_17 : decode b_md_relax 17 = .ok (.iload 5, 2) := by decide +kernel
theorem d_md_relax_19 : decode b_md_relax 19 = .ok (.aload_n 0, 1) := by decide +kernel
theorem d_md_relax_20 : decode b_md_relax 20 = .ok (.getfield 86, 3) := by decide +kernel
theorem d_md_relax_23 : decode b_md_relax 23 = .ok (.if_icmp .ge 33, 3) := by decide +kernel
theorem d_md_relax_26 : decode b_md_relax 26 = .ok (.iload 4, 2) := by decide +kernel
theorem d_md_relax_28 : decode b_md_relax 28 = .ok (.iload 5, 2) := by decide +kernel
theorem d_md_relax_30 : decode b_md_relax 30 = .ok (.invokestatic 123, 3) := by decide +kernel
theorem d_md_relax_33 : decode b_md_relax 33 = .ok (.ifCond .eq 17, 3) := by decide +kernel
theorem d_md_relax_36 : decode b_md_relax 36 = .ok (.aload_n 0, 1) := by decide +kernel
theorem d_md_relax_37 : decode b_md_relax 37 = .ok (.iload_n 1, 1) := by decide +kernel
theorem d_md_relax_38 : decode b_md_relax 38 = .ok (.iconst 1, 1) := by decide +kernel
theorem d_md_relax_39 : decode b_md_relax 39 = .ok (.iload 5, 2) := by decide +kernel
theorem d_md_relax_41 : decode b_md_relax 41 = .ok (.ishl, 1) := by decide +kernel
theorem d_md_relax_42 : decode b_md_relax 42 = .ok (.iconst (-1), 1) := by decide +kernel
theorem d_md_relax_43 : decode b_md_relax 43 = .ok (.ixor, 1) := by decide +kernel
theorem d_md_relax_44 : decode b_md_relax 44 = .ok (.iand, 1) := by decide +kernel
theorem d_md_relax_45 : decode b_md_relax 45 = .ok (.iload_n 2, 1) := by decide +kernel
theorem d_md_relax_46 : decode b_md_relax 46 = .ok (.iload_n 2, 1) := by decide +kernel
theorem d_md_relax_47 : decode b_md_relax 47 = .ok (.invokevirtual 133, 3) := by decide +kernel
theorem d_md_relax_50 : decode b_md_relax 50 = .ok (.iinc 5 1, 3) := by decide +kernel
theorem d_md_relax_53 : decode b_md_relax 53 = .ok (.goto (-36), 3) := by decide +kernel
theorem d_md_relax_56 : decode b_md_relax 56 = .ok (.iload 4, 2) := by decide +kernel
theorem d_md_relax_58 : decode b_md_relax 58 = .ok (.iload_n 3, 1) := by decide +kernel
theorem d_md_relax_59 : decode b_md_relax 59 = .ok (.if_icmp .ne 4, 3) := by decide +kernel
theorem d_md_relax_62 : decode b_md_relax 62 = .ok (.return_, 1) := by decide +kernel
theorem d_md_relax_63 : decode b_md_relax 63 = .ok (.aload_n 0, 1) := by decide +kernel
theorem d_md_relax_64 : decode b_md_relax 64 = .ok (.iload_n 1, 1) := by decide +kernel
theorem d_md_relax_65 : decode b_md_relax 65 = .ok (.invokevirtual 137, 3) := by decide +kernel
theorem d_md_relax_68 : decode b_md_relax 68 = .ok (.aload_n 0, 1) := by decide +kernel
theorem d_md_relax_69 : decode b_md_relax 69 = .ok (.invokevirtual 140, 3) := by decide +kernel
theorem d_md_relax_72 : decode b_md_relax 72 = .ok (.iconst 1, 1) := by decide +kernel
theorem d_md_relax_73 : decode b_md_relax 73 = .ok (.istore 5, 2) := by decide +kernel
theorem d_md_relax_75 : decode b_md_relax 75 = .ok (.iload 5, 2) := by decide +kernel
theorem d_md_relax_77 : decode b_md_relax 77 = .ok (.ifCond .eq 60, 3) := by decide +kernel
theorem d_md_relax_80 : decode b_md_relax 80 = .ok (.aload_n 0, 1) := by decide +kernel
theorem d_md_relax_81 : decode b_md_relax 81 = .ok (.iload 4, 2) := by decide +kernel
theorem d_md_relax_83 : decode b_md_relax 83 = .ok (.invokevirtual 143, 3) := by decide +kernel
theorem d_md_relax_86 : decode b_md_relax 86 = .ok (.aload_n 0, 1) := by decide +kernel
theorem d_md_relax_87 : decode b_md_relax 87 = .ok (.invokevirtual 146, 3) := by decide +kernel
theorem d_md_relax_90 : decode b_md_relax 90 = .ok (.ifCond .ne 36, 3) := by decide +kernel
theorem d_md_relax_93 : decode b_md_relax 93 = .ok (.aload_n 0, 1) := by decide +kernel
theorem d_md_relax_94 : decode b_md_relax 94 = .ok (.aload_n 0, 1) := by decide +kernel
theorem d_md_relax_95 : decode b_md_relax 95 = .ok (.aload_n 0, 1) := by decide +kernel
theorem d_md_relax_96 : decode b_md_relax 96 = .ok (.getfield 58, 3) := by decide +kernel
theorem d_md_relax_99 : decode b_md_relax 99 = .ok (.invokevirtual 150, 3) := by decide +kernel
theorem d_md_relax_102 : decode b_md_relax 102 = .ok (.aload_n 0, 1) := by decide +kernel
theorem d_md_relax_103 : decode b_md_relax 103 = .ok (.getfield 86, 3) := by decide +kernel
theorem d_md_relax_106 : decode b_md_relax 106 = .ok (.ishl, 1) := by decide +kernel
theorem d_md_relax_107 : decode b_md_relax 107 = .ok (.iload 4, 2) := by decide +kernel
theorem d_md_relax_109 : decode b_md_relax 109 = .ok (.ior, 1) := by decide +kernel
theorem d_md_relax_110 : decode b_md_relax 110 = .ok (.iload_n 2, 1) := by decide +kernel
theorem d_md_relax_111 : decode b_md_relax 111 = .ok (.aload_n 0, 1) := by decide +kernel
theorem d_md_relax_112 : decode b_md_relax 112 = .ok (.getfield 86, 3) := by decide +kernel
theorem d_md_relax_115 : decode b_md_relax 115 = .ok (.iadd, 1) := by decide +kernel
theorem d_md_relax_116 : decode b_md_relax 116 = .ok (.iload 4, 2) := by decide +kernel
theorem d_md_relax_118 : decode b_md_relax 118 = .ok (.invokestatic 154, 3) := by decide +kernel
theorem d_md_relax_121 : decode b_md_relax 121 = .ok (.isub, 1) := by decide +kernel
theorem d_md_relax_122 : decode b_md_relax 122 = .ok (.iload_n 2, 1) := by decide +kernel
theorem d_md_relax_123 : decode b_md_relax 123 = .ok (.invokevirtual 133, 3) := by decide +kernel
theorem d_md_relax_126 : decode b_md_relax 126 = .ok (.aload_n 0, 1) := by decide +kernel
theorem d_md_relax_127 : decode b_md_relax 127 = .ok (.iload 4, 2) := by decide +kernel
theorem d_md_relax_129 : decode b_md_relax 129 = .ok (.invokevirtual 157, 3) := by decide +kernel
theorem d_md_relax_132 : decode b_md_relax 132 = .ok (.istore 5, 2) := by decide +kernel
theorem d_md_relax_134 : decode b_md_relax 134 = .ok (.goto (-59), 3) := by decide +kernel
theorem d_md_relax_137 : decode b_md_relax 137 = .ok (.return_, 1) := by decide +kernel
theorem d_md_findPays_0 : decode b_md_findPays 0 = .ok (.iconst 1, 1) := by decide +kernel
theorem d_md_findPays_1 : decode b_md_findPays 1 = .ok (.aload_n 0, 1) := by decide +kernel
theorem d_md_findPays_2 : decode b_md_findPays 2 = .ok (.getfield 86, 3) := by decide +kernel
theorem d_md_findPays_5 : decode b_md_findPays 5 = .ok (.ishl, 1) := by decide +kernel
theorem d_md_findPays_6 : decode b_md_findPays 6 = .ok (.istore_n 2, 1) := by decide +kernel
theorem d_md_findPays_7 : decode b_md_findPays 7 = .ok (.iconst 0, 1) := by decide +kernel
theorem d_md_findPays_8 : decode b_md_findPays 8 = .ok (.istore_n 3, 1) := by decide +kernel
theorem d_md_findPays_9 : decode b_md_findPays 9 = .ok (.iload_n 3, 1) := by decide +kernel
theorem d_md_findPays_10 : decode b_md_findPays 10 = .ok (.aload_n 0, 1) := by decide +kernel
theorem d_md_findPays_11 : decode b_md_findPays 11 = .ok (.getfield 86, 3) := by decide +kernel
theorem d_md_findPays_14 : decode b_md_findPays 14 = .ok (.if_icmp .ge 16, 3) := by decide +kernel
theorem d_md_findPays_17 : decode b_md_findPays 17 = .ok (.iload_n 2, 1) := by decide +kernel
theorem d_md_findPays_18 : decode b_md_findPays 18 = .ok (.aload_n 0, 1) := by decide +kernel
theorem d_md_findPays_19 : decode b_md_findPays 19 = .ok (.getfield 120, 3) := by decide +kernel
theorem d_md_findPays_22 : decode b_md_findPays 22 = .ok (.imul, 1) := by decide +kernel
theorem d_md_findPays_23 : decode b_md_findPays 23 = .ok (.istore_n 2, 1) := by decide +kernel
theorem d_md_findPays_24 : decode b_md_findPays 24 = .ok (.iinc 3 1, 3) := by decide +kernel
theorem d_md_findPays_27 : decode b_md_findPays 27 = .ok (.goto (-18), 3) := by decide +kernel
theorem d_md_findPays_30 : decode b_md_findPays 30 = .ok (.iconst 0, 1) := by decide +kernel
theorem d_md_findPays_31 : decode b_md_findPays 31 = .ok (.istore_n 3, 1) := by decide +kernel
theorem d_md_findPays_32 : decode b_md_findPays 32 = .ok (.iload_n 3, 1) := by decide +kernel
theorem d_md_findPays_33 : decode b_md_findPays 33 = .ok (.iload_n 2, 1) := by decide +kernel
theorem d_md_findPays_34 : decode b_md_findPays 34 = .ok (.if_icmp .ge 25, 3) := by decide +kernel
theorem d_md_findPays_37 : decode b_md_findPays 37 = .ok (.aload_n 0, 1) := by decide +kernel
theorem d_md_findPays_38 : decode b_md_findPays 38 = .ok (.getfield 46, 3) := by decide +kernel
theorem d_md_findPays_41 : decode b_md_findPays 41 = .ok (.iload_n 3, 1) := by decide +kernel
theorem d_md_findPays_42 : decode b_md_findPays 42 = .ok (.sipush 200, 3) := by decide +kernel
theorem d_md_findPays_45 : decode b_md_findPays 45 = .ok (.iastore, 1) := by decide +kernel
theorem d_md_findPays_46 : decode b_md_findPays 46 = .ok (.aload_n 0, 1) := by decide +kernel
theorem d_md_findPays_47 : decode b_md_findPays 47 = .ok (.getfield 49, 3) := by decide +kernel
theorem d_md_findPays_50 : decode b_md_findPays 50 = .ok (.iload_n 3, 1) := by decide +kernel
theorem d_md_findPays_51 : decode b_md_findPays 51 = .ok (.iconst 0, 1) := by decide +kernel
theorem d_md_findPays_52 : decode b_md_findPays 52 = .ok (.bastore, 1) := by decide +kernel
theorem d_md_findPays_53 : decode b_md_findPays 53 = .ok (.iinc 3 1, 3) := by decide +kernel
theorem d_md_findPays_56 : decode b_md_findPays 56 = .ok (.goto (-24), 3) := by decide +kernel
theorem d_md_findPays_59 : decode b_md_findPays 59 = .ok (.iconst 0, 1) := by decide +kernel
theorem d_md_findPays_60 : decode b_md_findPays 60 = .ok (.istore_n 3, 1) := by decide +kernel
theorem d_md_findPays_61 : decode b_md_findPays 61 = .ok (.iload_n 3, 1) := by decide +kernel
theorem d_md_findPays_62 : decode b_md_findPays 62 = .ok (.aload_n 0, 1) := by decide +kernel
theorem d_md_findPays_63 : decode b_md_findPays 63 = .ok (.getfield 86, 3) := by decide +kernel
theorem d_md_findPays_66 : decode b_md_findPays 66 = .ok (.if_icmp .ge 26, 3) := by decide +kernel
theorem d_md_findPays_69 : decode b_md_findPays 69 = .ok (.aload_n 0, 1) := by decide +kernel
theorem d_md_findPays_70 : decode b_md_findPays 70 = .ok (.getfield 58, 3) := by decide +kernel
theorem d_md_findPays_73 : decode b_md_findPays 73 = .ok (.iload_n 3, 1) := by decide +kernel
theorem d_md_findPays_74 : decode b_md_findPays 74 = .ok (.aload_n 0, 1) := by decide +kernel
theorem d_md_findPays_75 : decode b_md_findPays 75 = .ok (.getfield 36, 3) := by decide +kernel
theorem d_md_findPays_78 : decode b_md_findPays 78 = .ok (.aload_n 0, 1) := by decide +kernel
theorem d_md_findPays_79 : decode b_md_findPays 79 = .ok (.getfield 24, 3) := by decide +kernel
theorem d_md_findPays_82 : decode b_md_findPays 82 = .ok (.iload_n 3, 1) := by decide +kernel
theorem d_md_findPays_83 : decode b_md_findPays 83 = .ok (.iaload, 1) := by decide +kernel
theorem d_md_findPays_84 : decode b_md_findPays 84 = .ok (.iaload, 1) := by decide +kernel
theorem d_md_findPays_85 : decode b_md_findPays 85 = .ok (.iastore, 1) := by decide +kernel
theorem d_md_findPays_86 : decode b_md_findPays 86 = .ok (.iinc 3 1, 3) := by decide +kernel
theorem d_md_findPays_89 : decode b_md_findPays 89 = .ok (.goto (-28), 3) := by decide +kernel
theorem d_md_findPays_92 : decode b_md_findPays 92 = .ok (.aload_n 0, 1) := by decide +kernel
theorem d_md_findPays_93 : decode b_md_findPays 93 = .ok (.getfield 46, 3) := by decide +kernel
theorem d_md_findPays_96 : decode b_md_findPays 96 = .ok (.aload_n 0, 1) := by decide +kernel
theorem d_md_findPays_97 : decode b_md_findPays 97 = .ok (.aload_n 0, 1) := by decide +kernel
theorem d_md_findPays_98 : decode b_md_findPays 98 = .ok (.getfield 58, 3) := by decide +kernel
theorem d_md_findPays_101 : decode b_md_findPays 101 = .ok (.invokevirtual 150, 3) := by decide +kernel
theorem d_md_findPays_104 : decode b_md_findPays 104 = .ok (.aload_n 0, 1) := by decide +kernel
theorem d_md_findPays_105 : decode b_md_findPays 105 = .ok (.getfield 86, 3) := by decide +kernel
theorem d_md_findPays_108 : decode b_md_findPays 108 = .ok (.ishl, 1) := by decide +kernel
theorem d_md_findPays_109 : decode b_md_findPays 109 = .ok (.iconst 1, 1) := by decide +kernel
theorem d_md_findPays_110 : decode b_md_findPays 110 = .ok (.aload_n 0, 1) := by decide +kernel
theorem d_md_findPays_111 : decode b_md_findPays 111 = .ok (.getfield 86, 3) := by decide +kernel
theorem d_md_findPays_114 : decode b_md_findPays 114 = .ok (.ishl, 1) := by decide +kernel
theorem d_md_findPays_115 : decode b_md_findPays 115 = .ok (.iconst 1, 1) := by decide +kernel
theorem d_md_findPays_116 : decode b_md_findPays 116 = .ok (.isub, 1) := by decide +kernel
theorem d_md_findPays_117 : decode b_md_findPays 117 = .ok (.ior, 1) := by decide +kernel
theorem d_md_findPays_118 : decode b_md_findPays 118 = .ok (.iconst 0, 1) := by decide +kernel
theorem d_md_findPays_119 : decode b_md_findPays 119 = .ok (.iastore, 1) := by decide +kernel
theorem d_md_findPays_120 : decode b_md_findPays 120 = .ok (.iconst 0, 1) := by decide +kernel
theorem d_md_findPays_121 : decode b_md_findPays 121 = .ok (.istore_n 3, 1) := by decide +kernel
theorem d_md_findPays_122 : decode b_md_findPays 122 = .ok (.iload_n 3, 1) := by decide +kernel
theorem d_md_findPays_123 : decode b_md_findPays 123 = .ok (.iload_n 1, 1) := by decide +kernel
theorem d_md_findPays_124 : decode b_md_findPays 124 = .ok (.if_icmp .gt 119, 3) := by decide +kernel
theorem d_md_findPays_127 : decode b_md_findPays 127 = .ok (.iconst 0, 1) := by decide +kernel
theorem d_md_findPays_128 : decode b_md_findPays 128 = .ok (.istore 4, 2) := by decide +kernel
theorem d_md_findPays_130 : decode b_md_findPays 130 = .ok (.iload 4, 2) := by decide +kernel
theorem d_md_findPays_132 : decode b_md_findPays 132 = .ok (.iload_n 2, 1) := by decide +kernel
theorem d_md_findPays_133 : decode b_md_findPays 133 = .ok (.if_icmp .ge 104, 3) := by decide +kernel
theorem d_md_findPays_136 : decode b_md_findPays 136 = .ok (.aload_n 0, 1) := by decide +kernel
theorem d_md_findPays_137 : decode b_md_findPays 137 = .ok (.iconst 0, 1) := by decide +kernel
theorem d_md_findPays_138 : decode b_md_findPays 138 = .ok (.putfield 130, 3) := by decide +kernel
theorem d_md_findPays_141 : decode b_md_findPays 141 = .ok (.aload_n 0, 1) := by decide +kernel
theorem d_md_findPays_142 : decode b_md_findPays 142 = .ok (.getfield 46, 3) := by decide +kernel
theorem d_md_findPays_145 : decode b_md_findPays 145 = .ok (.iload 4, 2) := by decide +kernel
theorem d_md_findPays_147 : decode b_md_findPays 147 = .ok (.iaload, 1) := by decide +kernel
theorem d_md_findPays_148 : decode b_md_findPays 148 = .ok (.iload_n 3, 1) := by decide +kernel
theorem d_md_findPays_149 : decode b_md_findPays 149 = .ok (.if_icmp .ne 26, 3) := by decide +kernel
theorem d_md_findPays_152 : decode b_md_findPays 152 = .ok (.aload_n 0, 1) := by decide +kernel
theorem d_md_findPays_153 : decode b_md_findPays 153 = .ok (.getfield 49, 3) := by decide +kernel
theorem d_md_findPays_156 : decode b_md_findPays 156 = .ok (.iload 4, 2) := by decide +kernel
theorem d_md_findPays_158 : decode b_md_findPays 158 = .ok (.baload, 1) := by decide +kernel
theorem d_md_findPays_159 : decode b_md_findPays 159 = .ok (.ifCond .ne 16, 3) := by decide +kernel
theorem d_md_findPays_162 : decode b_md_findPays 162 = .ok (.aload_n 0, 1) := by decide +kernel
theorem d_md_findPays_163 : decode b_md_findPays 163 = .ok (.getfield 52, 3) := by decide +kernel
theorem d_md_findPays_166 : decode b_md_findPays 166 = .ok (.iconst 0, 1) := by decide +kernel
theorem d_md_findPays_167 : decode b_md_findPays 167 = .ok (.iload 4, 2) := by decide +kernel
theorem d_md_findPays_169 : decode b_md_findPays 169 = .ok (.iastore, 1) := by decide +kernel
theorem d_md_findPays_170 : decode b_md_findPays 170 = .ok (.aload_n 0, 1) := by decide +kernel
theorem d_md_findPays_171 : decode b_md_findPays 171 = .ok (.iconst 1, 1) := by decide +kernel
theorem d_md_findPays_172 : decode b_md_findPays 172 = .ok (.putfield 130, 3) := by decide +kernel
theorem d_md_findPays_175 : decode b_md_findPays 175 = .ok (.aload_n 0, 1) := by decide +kernel
theorem d_md_findPays_176 : decode b_md_findPays 176 = .ok (.getfield 130, 3) := by decide +kernel
theorem d_md_findPays_179 : decode b_md_findPays 179 = .ok (.ifCond .le 52, 3) := by decide +kernel
theorem d_md_findPays_182 : decode b_md_findPays 182 = .ok (.aload_n 0, 1) := by decide +kernel
theorem d_md_findPays_183 : decode b_md_findPays 183 = .ok (.dup, 1) := by decide +kernel
theorem d_md_findPays_184 : decode b_md_findPays 184 = .ok (.getfield 130, 3) := by decide +kernel
theorem d_md_findPays_187 : decode b_md_findPays 187 = .ok (.iconst 1, 1) := by decide +kernel
theorem d_md_findPays_188 : decode b_md_findPays 188 = .ok (.isub, 1) := by decide +kernel
theorem d_md_findPays_189 : decode b_md_findPays 189 = .ok (.putfield 130, 3) := by decide +kernel
theorem d_md_findPays_192 : decode b_md_findPays 192 = .ok (.aload_n 0, 1) := by decide +kernel
theorem d_md_findPays_193 : decode b_md_findPays 193 = .ok (.getfield 52, 3) := by decide +kernel
theorem d_md_findPays_196 : decode b_md_findPays 196 = .ok (.aload_n 0, 1) := by decide +kernel
theorem d_md_findPays_197 : decode b_md_findPays 197 = .ok (.getfield 130, 3) := by decide +kernel
theorem d_md_findPays_200 : decode b_md_findPays 200 = .ok (.iaload, 1) := by decide +kernel
theorem d_md_findPays_201 : decode b_md_findPays 201 = .ok (.istore 5, 2) := by decide +kernel
theorem d_md_findPays_203 : decode b_md_findPays 203 = .ok (.aload_n 0, 1) := by decide +kernel
