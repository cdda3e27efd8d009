theorem d_cr_measure_94 : decode b_cr_measure 94 = .ok (.aload_n 0, 1) := by decide +kernel
theorem d_cr_measure_95 : decode b_cr_measure 95 = .ok (.getfield 23, 3) := by decide +kernel
theorem d_cr_measure_98 : decode b_cr_measure 98 = .ok (.iload_n 3, 1) := by decide +kernel
theorem d_cr_measure_99 : decode b_cr_measure 99 = .ok (.iload 7, 2) := by decide +kernel
theorem d_cr_measure_101 : decode b_cr_measure 101 = .ok (.iastore, 1) := by decide +kernel
theorem d_cr_measure_102 : decode b_cr_measure 102 = .ok (.iinc 3 1, 3) := by decide +kernel
theorem d_cr_measure_105 : decode b_cr_measure 105 = .ok (.iinc 6 1, 3) := by decide +kernel
theorem d_cr_measure_108 : decode b_cr_measure 108 = .ok (.goto (-62), 3) := by decide +kernel
theorem d_cr_measure_111 : decode b_cr_measure 111 = .ok (.iinc 4 1, 3) := by decide +kernel
theorem d_cr_measure_114 : decode b_cr_measure 114 = .ok (.goto (-93), 3) := by decide +kernel
theorem d_cr_measure_117 : decode b_cr_measure 117 = .ok (.return_, 1) := by decide +kernel
theorem d_ld_init_0 : decode b_ld_init 0 = .ok (.aload_n 0, 1) := by decide +kernel
theorem d_ld_init_1 : decode b_ld_init 1 = .ok (.invokespecial 3, 3) := by decide +kernel
theorem d_ld_init_4 : decode b_ld_init 4 = .ok (.aload_n 0, 1) := by decide +kernel
theorem d_ld_init_5 : decode b_ld_init 5 = .ok (.bipush 6, 2) := by decide +kernel
theorem d_ld_init_7 : decode b_ld_init 7 = .ok (.bipush 30, 2) := by decide +kernel
theorem d_ld_init_9 : decode b_ld_init 9 = .ok (.multianewarray 9 2, 4) := by decide +kernel
theorem d_ld_init_13 : decode b_ld_init 13 = .ok (.putfield 11, 3) := by decide +kernel
theorem d_ld_init_16 : decode b_ld_init 16 = .ok (.aload_n 0, 1) := by decide +kernel
theorem d_ld_init_17 : decode b_ld_init 17 = .ok (.bipush 6, 2) := by decide +kernel
theorem d_ld_init_19 : decode b_ld_init 19 = .ok (.newarray .int, 2) := by decide +kernel
theorem d_ld_init_21 : decode b_ld_init 21 = .ok (.putfield 16, 3) := by decide +kernel
theorem d_ld_init_24 : decode b_ld_init 24 = .ok (.aload_n 0, 1) := by decide +kernel
theorem d_ld_init_25 : decode b_ld_init 25 = .ok (.bipush 6, 2) := by decide +kernel
theorem d_ld_init_27 : decode b_ld_init 27 = .ok (.newarray .int, 2) := by decide +kernel
theorem d_ld_init_29 : decode b_ld_init 29 = .ok (.putfield 20, 3) := by decide +kernel
theorem d_ld_init_32 : decode b_ld_init 32 = .ok (.return_, 1) := by decide +kernel
theorem d_ld_forget_0 : decode b_ld_forget 0 = .ok (.aload_n 0, 1) := by decide +kernel
theorem d_ld_forget_1 : decode b_ld_forget 1 = .ok (.getfield 16, 3) := by decide +kernel
theorem d_ld_forget_4 : decode b_ld_forget 4 = .ok (.iconst 0, 1) := by decide +kernel
theorem d_ld_forget_5 : decode b_ld_forget 5 = .ok (.invokestatic 23, 3) := by decide +kernel
theorem d_ld_forget_8 : decode b_ld_forget 8 = .ok (.aload_n 0, 1) := by decide +kernel
theorem d_ld_forget_9 : decode b_ld_forget 9 = .ok (.getfield 20, 3) := by decide +kernel
theorem d_ld_forget_12 : decode b_ld_forget 12 = .ok (.iconst 0, 1) := by decide +kernel
theorem d_ld_forget_13 : decode b_ld_forget 13 = .ok (.invokestatic 23, 3) := by decide +kernel
theorem d_ld_forget_16 : decode b_ld_forget 16 = .ok (.return_, 1) := by decide +kernel
theorem d_ld_tell_0 : decode b_ld_tell 0 = .ok (.aload_n 0, 1) := by decide +kernel
theorem d_ld_tell_1 : decode b_ld_tell 1 = .ok (.iload_n 1, 1) := by decide +kernel
theorem d_ld_tell_2 : decode b_ld_tell 2 = .ok (.iload_n 2, 1) := by decide +kernel
theorem d_ld_tell_3 : decode b_ld_tell 3 = .ok (.invokevirtual 29, 3) := by decide +kernel
theorem d_ld_tell_6 : decode b_ld_tell 6 = .ok (.ifCond .eq 14, 3) := by decide +kernel
theorem d_ld_tell_9 : decode b_ld_tell 9 = .ok (.aload_n 0, 1) := by decide +kernel
theorem d_ld_tell_10 : decode b_ld_tell 10 = .ok (.getfield 11, 3) := by decide +kernel
theorem d_ld_tell_13 : decode b_ld_tell 13 = .ok (.iload_n 1, 1) := by decide +kernel
theorem d_ld_tell_14 : decode b_ld_tell 14 = .ok (.aaload, 1) := by decide +kernel
theorem d_ld_tell_15 : decode b_ld_tell 15 = .ok (.iload_n 2, 1) := by decide +kernel
theorem d_ld_tell_16 : decode b_ld_tell 16 = .ok (.iaload, 1) := by decide +kernel
theorem d_ld_tell_17 : decode b_ld_tell 17 = .ok (.goto 4, 3) := by decide +kernel
theorem d_ld_tell_20 : decode b_ld_tell 20 = .ok (.iconst (-1), 1) := by decide +kernel
theorem d_ld_tell_21 : decode b_ld_tell 21 = .ok (.istore 4, 2) := by decide +kernel
theorem d_ld_tell_23 : decode b_ld_tell 23 = .ok (.aload_n 0, 1) := by decide +kernel
theorem d_ld_tell_24 : decode b_ld_tell 24 = .ok (.getfield 11, 3) := by decide +kernel
theorem d_ld_tell_27 : decode b_ld_tell 27 = .ok (.iload_n 1, 1) := by decide +kernel
theorem d_ld_tell_28 : decode b_ld_tell 28 = .ok (.aaload, 1) := by decide +kernel
theorem d_ld_tell_29 : decode b_ld_tell 29 = .ok (.iload_n 2, 1) := by decide +kernel
theorem d_ld_tell_30 : decode b_ld_tell 30 = .ok (.iload_n 3, 1) := by decide +kernel
theorem d_ld_tell_31 : decode b_ld_tell 31 = .ok (.iastore, 1) := by decide +kernel
theorem d_ld_tell_32 : decode b_ld_tell 32 = .ok (.aload_n 0, 1) := by decide +kernel
theorem d_ld_tell_33 : decode b_ld_tell 33 = .ok (.getfield 16, 3) := by decide +kernel
theorem d_ld_tell_36 : decode b_ld_tell 36 = .ok (.iload_n 1, 1) := by decide +kernel
theorem d_ld_tell_37 : decode b_ld_tell 37 = .ok (.dup2, 1) := by decide +kernel
theorem d_ld_tell_38 : decode b_ld_tell 38 = .ok (.iaload, 1) := by decide +kernel
theorem d_ld_tell_39 : decode b_ld_tell 39 = .ok (.iconst 1, 1) := by decide +kernel
theorem d_ld_tell_40 : decode b_ld_tell 40 = .ok (.iload_n 2, 1) := by decide +kernel
theorem d_ld_tell_41 : decode b_ld_tell 41 = .ok (.ishl, 1) := by decide +kernel
theorem d_ld_tell_42 : decode b_ld_tell 42 = .ok (.ior, 1) := by decide +kernel
theorem d_ld_tell_43 : decode b_ld_tell 43 = .ok (.iastore, 1) := by decide +kernel
theorem d_ld_tell_44 : decode b_ld_tell 44 = .ok (.aload_n 0, 1) := by decide +kernel
theorem d_ld_tell_45 : decode b_ld_tell 45 = .ok (.getfield 20, 3) := by decide +kernel
theorem d_ld_tell_48 : decode b_ld_tell 48 = .ok (.iload_n 1, 1) := by decide +kernel
theorem d_ld_tell_49 : decode b_ld_tell 49 = .ok (.iaload, 1) := by decide +kernel
theorem d_ld_tell_50 : decode b_ld_tell 50 = .ok (.bipush 30, 2) := by decide +kernel
theorem d_ld_tell_52 : decode b_ld_tell 52 = .ok (.if_icmp .ge 30, 3) := by decide +kernel
theorem d_ld_tell_55 : decode b_ld_tell 55 = .ok (.aload_n 0, 1) := by decide +kernel
theorem d_ld_tell_56 : decode b_ld_tell 56 = .ok (.iload_n 1, 1) := by decide +kernel
theorem d_ld_tell_57 : decode b_ld_tell 57 = .ok (.aload_n 0, 1) := by decide +kernel
theorem d_ld_tell_58 : decode b_ld_tell 58 = .ok (.getfield 20, 3) := by decide +kernel
theorem d_ld_tell_61 : decode b_ld_tell 61 = .ok (.iload_n 1, 1) := by decide +kernel
theorem d_ld_tell_62 : decode b_ld_tell 62 = .ok (.iaload, 1) := by decide +kernel
theorem d_ld_tell_63 : decode b_ld_tell 63 = .ok (.invokevirtual 29, 3) := by decide +kernel
theorem d_ld_tell_66 : decode b_ld_tell 66 = .ok (.ifCond .eq 16, 3) := by decide +kernel
theorem d_ld_tell_69 : decode b_ld_tell 69 = .ok (.aload_n 0, 1) := by decide +kernel
theorem d_ld_tell_70 : decode b_ld_tell 70 = .ok (.getfield 20, 3) := by decide +kernel
theorem d_ld_tell_73 : decode b_ld_tell 73 = .ok (.iload_n 1, 1) := by decide +kernel
theorem d_ld_tell_74 : decode b_ld_tell 74 = .ok (.dup2, 1) := by decide +kernel
theorem d_ld_tell_75 : decode b_ld_tell 75 = .ok (.iaload, 1) := by decide +kernel
theorem d_ld_tell_76 : decode b_ld_tell 76 = .ok (.iconst 1, 1) := by decide +kernel
theorem d_ld_tell_77 : decode b_ld_tell 77 = .ok (.iadd, 1) := by decide +kernel
theorem d_ld_tell_78 : decode b_ld_tell 78 = .ok (.iastore, 1) := by decide +kernel
theorem d_ld_tell_79 : decode b_ld_tell 79 = .ok (.goto (-35), 3) := by decide +kernel
theorem d_ld_tell_82 : decode b_ld_tell 82 = .ok (.iload 4, 2) := by decide +kernel
theorem d_ld_tell_84 : decode b_ld_tell 84 = .ok (.ireturn, 1) := by decide +kernel
theorem d_ld_isTold_0 : decode b_ld_isTold 0 = .ok (.aload_n 0, 1) := by decide +kernel
theorem d_ld_isTold_1 : decode b_ld_isTold 1 = .ok (.getfield 16, 3) := by decide +kernel
theorem d_ld_isTold_4 : decode b_ld_isTold 4 = .ok (.iload_n 1, 1) := by decide +kernel
theorem d_ld_isTold_5 : decode b_ld_isTold 5 = .ok (.iaload, 1) := by decide +kernel
theorem d_ld_isTold_6 : decode b_ld_isTold 6 = .ok (.iload_n 2, 1) := by decide +kernel
theorem d_ld_isTold_7 : decode b_ld_isTold 7 = .ok (.ishr, 1) := by decide +kernel
theorem d_ld_isTold_8 : decode b_ld_isTold 8 = .ok (.iconst 1, 1) := by decide +kernel
theorem d_ld_isTold_9 : decode b_ld_isTold 9 = .ok (.iand, 1) := by decide +kernel
theorem d_ld_isTold_10 : decode b_ld_isTold 10 = .ok (.iconst 1, 1) := by decide +kernel
theorem d_ld_isTold_11 : decode b_ld_isTold 11 = .ok (.if_icmp .ne 7, 3) := by decide +kernel
theorem d_ld_isTold_14 : decode b_ld_isTold 14 = .ok (.iconst 1, 1) := by decide +kernel
theorem d_ld_isTold_15 : decode b_ld_isTold 15 = .ok (.goto 4, 3) := by decide +kernel
theorem d_ld_isTold_18 : decode b_ld_isTold 18 = .ok (.iconst 0, 1) := by decide +kernel
theorem d_ld_isTold_19 : decode b_ld_isTold 19 = .ok (.ireturn, 1) := by decide +kernel
theorem d_le_init_0 : decode b_le_init 0 = .ok (.aload_n 0, 1) := by decide +kernel
theorem d_le_init_1 : decode b_le_init 1 = .ok (.invokespecial 3, 3) := by decide +kernel
theorem d_le_init_4 : decode b_le_init 4 = .ok (.aload_n 0, 1) := by decide +kernel
theorem d_le_init_5 : decode b_le_init 5 = .ok (.sipush 1296, 3) := by decide +kernel
theorem d_le_init_8 : decode b_le_init 8 = .ok (.newarray .long, 2) := by decide +kernel
theorem d_le_init_10 : decode b_le_init 10 = .ok (.putfield 9, 3) := by decide +kernel
theorem d_le_init_13 : decode b_le_init 13 = .ok (.return_, 1) := by decide +kernel
theorem d_le_reset_0 : decode b_le_reset 0 = .ok (.aload_n 0, 1) := by decide +kernel
theorem d_le_reset_1 : decode b_le_reset 1 = .ok (.getfield 9, 3) := by decide +kernel
theorem d_le_reset_4 : decode b_le_reset 4 = .ok (.lconst 0, 1) := by decide +kernel
theorem d_le_reset_5 : decode b_le_reset 5 = .ok (.invokestatic 15, 3) := by decide +kernel
theorem d_le_reset_8 : decode b_le_reset 8 = .ok (.return_, 1) := by decide +kernel
theorem d_pn_init_0 : decode b_pn_init 0 = .ok (.aload_n 0, 1) := by decide +kernel
theorem d_pn_init_1 : decode b_pn_init 1 = .ok (.invokespecial 3, 3) := by decide +kernel
theorem d_pn_init_4 : decode b_pn_init 4 = .ok (.aload_n 0, 1) := by decide +kernel
theorem d_pn_init_5 : decode b_pn_init 5 = .ok (.new 9, 3) := by decide +kernel
theorem d_pn_init_8 : decode b_pn_init 8 = .ok (.dup, 1) := by decide +kernel
theorem d_pn_init_9 : decode b_pn_init 9 = .ok (.invokespecial 11, 3) := by decide +kernel
theorem d_pn_init_12 : decode b_pn_init 12 = .ok (.putfield 12, 3) := by decide +kernel
theorem d_pn_init_15 : decode b_pn_init 15 = .ok (.aload_n 0, 1) := by decide +kernel
theorem d_pn_init_16 : decode b_pn_init 16 = .ok (.bipush 32, 2) := by decide +kernel
theorem d_pn_init_18 : decode b_pn_init 18 = .ok (.iconst 5, 1) := by decide +kernel
theorem d_pn_init_19 : decode b_pn_init 19 = .ok (.multianewarray 18 2, 4) := by decide +kernel
theorem d_pn_init_23 : decode b_pn_init 23 = .ok (.putfield 20, 3) := by decide +kernel
theorem d_pn_init_26 : decode b_pn_init 26 = .ok (.aload_n 0, 1) := by decide +kernel
theorem d_pn_init_27 : decode b_pn_init 27 = .ok (.bipush 32, 2) := by decide +kernel
theorem d_pn_init_29 : decode b_pn_init 29 = .ok (.newarray .int, 2) := by decide +kernel
theorem d_pn_init_31 : decode b_pn_init 31 = .ok (.putfield 23, 3) := by decide +kernel
theorem d_pn_init_34 : decode b_pn_init 34 = .ok (.aload_n 0, 1) := by decide +kernel
theorem d_pn_init_35 : decode b_pn_init 35 = .ok (.bipush 32, 2) := by decide +kernel
theorem d_pn_init_37 : decode b_pn_init 37 = .ok (.iconst 5, 1) := by decide +kernel
theorem d_pn_init_38 : decode b_pn_init 38 = .ok (.multianewarray 18 2, 4) := by decide +kernel
theorem d_pn_init_42 : decode b_pn_init 42 = .ok (.putfield 27, 3) := by decide +kernel
theorem d_pn_init_45 : decode b_pn_init 45 = .ok (.aload_n 0, 1) := by decide +kernel
theorem d_pn_init_46 : decode b_pn_init 46 = .ok (.aload_n 1, 1) := by decide +kernel
theorem d_pn_init_47 : decode b_pn_init 47 = .ok (.putfield 30, 3) := by decide +kernel
theorem d_pn_init_50 : decode b_pn_init 50 = .ok (.aload_n 0, 1) := by decide +kernel
theorem d_pn_init_51 : decode b_pn_init 51 = .ok (.aload_n 2, 1) := by decide +kernel
theorem d_pn_init_52 : decode b_pn_init 52 = .ok (.putfield 34, 3) := by decide +kernel
theorem d_pn_init_55 : decode b_pn_init 55 = .ok (.return_, 1) := by decide +kernel
theorem d_pn_forget_0 : decode b_pn_forget 0 = .ok (.aload_n 0, 1) := by decide +kernel
theorem d_pn_forget_1 : decode b_pn_forget 1 = .ok (.iconst 0, 1) := by decide +kernel
theorem d_pn_forget_2 : decode b_pn_forget 2 = .ok (.putfield 38, 3) := by decide +kernel
theorem d_pn_forget_5 : decode b_pn_forget 5 = .ok (.aload_n 0, 1) := by decide +kernel
theorem d_pn_forget_6 : decode b_pn_forget 6 = .ok (.iconst 0, 1) := by decide +kernel
theorem d_pn_forget_7 : decode b_pn_forget 7 = .ok (.putfield 42, 3) := by decide +kernel
theorem d_pn_forget_10 : decode b_pn_forget 10 = .ok (.aload_n 0, 1) := by decide +kernel
theorem d_pn_forget_11 : decode b_pn_forget 11 = .ok (.iconst 0, 1) := by decide +kernel
theorem d_pn_forget_12 : decode b_pn_forget 12 = .ok (.putfield 45, 3) := by decide +kernel
theorem d_pn_forget_15 : decode b_pn_forget 15 = .ok (.return_, 1) := by decide +kernel
theorem d_pn_find_0 : decode b_pn_find 0 = .ok (.aload_n 0, 1) := by decide +kernel
theorem d_pn_find_1 : decode b_pn_find 1 = .ok (.getfield 34, 3) := by decide +kernel
theorem d_pn_find_4 : decode b_pn_find 4 = .ok (.invokevirtual 49, 3) := by decide +kernel
theorem d_pn_find_7 : decode b_pn_find 7 = .ok (.istore_n 2, 1) := by decide +kernel
theorem d_pn_find_8 : decode b_pn_find 8 = .ok (.iload_n 2, 1) := by decide +kernel
theorem d_pn_find_9 : decode b_pn_find 9 = .ok (.iconst (-1), 1) := by decide +kernel
theorem d_pn_find_10 : decode b_pn_find 10 = .ok (.if_icmp .ne 5, 3) := by decide +kernel
theorem d_pn_find_13 : decode b_pn_find 13 = .ok (.iconst (-1), 1) := by decide +kernel
theorem d_pn_find_14 : decode b_pn_find 14 = .ok (.ireturn, 1) := by decide +kernel
theorem d_pn_find_15 : decode b_pn_find 15 = .ok (.aload_n 0, 1) := by decide +kernel
theorem d_pn_find_16 : decode b_pn_find 16 = .ok (.getfield 45, 3) := by decide +kernel
theorem d_pn_find_19 : decode b_pn_find 19 = .ok (.ifCond .ne 7, 3) := by decide +kernel
theorem d_pn_find_22 : decode b_pn_find 22 = .ok (.aload_n 0, 1) := by decide +kernel
theorem d_pn_find_23 : decode b_pn_find 23 = .ok (.invokevirtual 55, 3) := by decide +kernel
theorem d_pn_find_26 : decode b_pn_find 26 = .ok (.aload_n 0, 1) := by decide +kernel
theorem d_pn_find_27 : decode b_pn_find 27 = .ok (.getfield 42, 3) := by decide +kernel
theorem d_pn_find_30 : decode b_pn_find 30 = .ok (.ifCond .ne 57, 3) := by decide +kernel
theorem d_pn_find_33 : decode b_pn_find 33 = .ok (.aload_n 0, 1) := by decide +kernel
theorem d_pn_find_34 : decode b_pn_find 34 = .ok (.getfield 45, 3) := by decide +kernel
theorem d_pn_find_37 : decode b_pn_find 37 = .ok (.iload_n 1, 1) := by decide +kernel
theorem d_pn_find_38 : decode b_pn_find 38 = .ok (.if_icmp .gt 49, 3) := by decide +kernel
theorem d_pn_find_41 : decode b_pn_find 41 = .ok (.aload_n 0, 1) := by decide +kernel
theorem d_pn_find_42 : decode b_pn_find 42 = .ok (.iconst 0, 1) := by decide +kernel
theorem d_pn_find_43 : decode b_pn_find 43 = .ok (.iload_n 2, 1) := by decide +kernel
theorem d_pn_find_44 : decode b_pn_find 44 = .ok (.aload_n 0, 1) := by decide +kernel
theorem d_pn_find_45 : decode b_pn_find 45 = .ok (.getfield 45, 3) := by decide +kernel
theorem d_pn_find_48 : decode b_pn_find 48 = .ok (.iadd, 1) := by decide +kernel
theorem d_pn_find_49 : decode b_pn_find 49 = .ok (.invokevirtual 58, 3) := by decide +kernel
theorem d_pn_find_52 : decode b_pn_find 52 = .ok (.ifCond .eq 22, 3) := by decide +kernel
theorem d_pn_find_55 : decode b_pn_find 55 = .ok (.aload_n 0, 1) := by decide +kernel
theorem d_pn_find_56 : decode b_pn_find 56 = .ok (.iconst 1, 1) := by decide +kernel
theorem d_pn_find_57 : decode b_pn_find 57 = .ok (.putfield 42, 3) := by decide +kernel
theorem d_pn_find_60 : decode b_pn_find 60 = .ok (.aload_n 0, 1) := by decide +kernel
theorem d_pn_find_61 : decode b_pn_find 61 = .ok (.iload_n 2, 1) := by decide +kernel
theorem d_pn_find_62 : decode b_pn_find 62 = .ok (.aload_n 0, 1) := by decide +kernel
theorem d_pn_find_63 : decode b_pn_find 63 = .ok (.getfield 45, 3) := by decide +kernel
theorem d_pn_find_66 : decode b_pn_find 66 = .ok (.iadd, 1) := by decide +kernel
theorem d_pn_find_67 : decode b_pn_find 67 = .ok (.putfield 62, 3) := by decide +kernel
theorem d_pn_find_70 : decode b_pn_find 70 = .ok (.aload_n 0, 1) := by decide +kernel
theorem d_pn_find_71 : decode b_pn_find 71 = .ok (.invokevirtual 65, 3) := by decide +kernel
theorem d_pn_find_74 : decode b_pn_find 74 = .ok (.aload_n 0, 1) := by decide +kernel
theorem d_pn_find_75 : decode b_pn_find 75 = .ok (.dup, 1) := by decide +kernel
theorem d_pn_find_76 : decode b_pn_find 76 = .ok (.getfield 45, 3) := by decide +kernel
theorem d_pn_find_79 : decode b_pn_find 79 = .ok (.iconst 1, 1) := by decide +kernel
theorem d_pn_find_80 : decode b_pn_find 80 = .ok (.iadd, 1) := by decide +kernel
theorem d_pn_find_81 : decode b_pn_find 81 = .ok (.putfield 45, 3) := by decide +kernel
theorem d_pn_find_84 : decode b_pn_find 84 = .ok (.goto (-58), 3) := by decide +kernel
theorem d_pn_find_87 : decode b_pn_find 87 = .ok (.aload_n 0, 1) := by decide +kernel
theorem d_pn_find_88 : decode b_pn_find 88 = .ok (.aload_n 0, 1) := by decide +kernel
theorem d_pn_find_89 : decode b_pn_find 89 = .ok (.getfield 42, 3) := by decide +kernel
theorem d_pn_find_92 : decode b_pn_find 92 = .ok (.ifCond .eq 17, 3) := by decide +kernel
theorem d_pn_find_95 : decode b_pn_find 95 = .ok (.aload_n 0, 1) := by decide +kernel
theorem d_pn_find_96 : decode b_pn_find 96 = .ok (.getfield 62, 3) := by decide +kernel
theorem d_pn_find_99 : decode b_pn_find 99 = .ok (.iload_n 2, 1) := by decide +kernel
theorem d_pn_find_100 : decode b_pn_find 100 = .ok (.iload_n 1, 1) := by decide +kernel
theorem d_pn_find_101 : decode b_pn_find 101 = .ok (.iadd, 1) := by decide +kernel
theorem d_pn_find_102 : decode b_pn_find 102 = .ok (.if_icmp .gt 7, 3) := by decide +kernel
theorem d_pn_find_105 : decode b_pn_find 105 = .ok (.iconst 1, 1) := by decide +kernel
theorem d_pn_find_106 : decode b_pn_find 106 = .ok (.goto 4, 3) := by decide +kernel
theorem d_pn_find_109 : decode b_pn_find 109 = .ok (.iconst 0, 1) := by decide +kernel
theorem d_pn_find_110 : decode b_pn_find 110 = .ok (.putfield 38, 3) := by decide +kernel
theorem d_pn_find_113 : decode b_pn_find 113 = .ok (.aload_n 0, 1) := by decide +kernel
theorem d_pn_find_114 : decode b_pn_find 114 = .ok (.getfield 38, 3) := by decide +kernel
theorem d_pn_find_117 : decode b_pn_find 117 = .ok (.ifCond .eq 10, 3) := by decide +kernel
theorem d_pn_find_120 : decode b_pn_find 120 = .ok (.aload_n 0, 1) := by decide +kernel
theorem d_pn_find_121 : decode b_pn_find 121 = .ok (.getfield 62, 3) := by decide +kernel
theorem d_pn_find_124 : decode b_pn_find 124 = .ok (.goto 4, 3) := by decide +kernel
theorem d_pn_find_127 : decode b_pn_find 127 = .ok (.iconst (-1), 1) := by decide +kernel
theorem d_pn_find_128 : decode b_pn_find 128 = .ok (.ireturn, 1) := by decide +kernel
theorem d_pn_begin_0 : decode b_pn_begin 0 = .ok (.aload_n 0, 1) := by decide +kernel
theorem d_pn_begin_1 : decode b_pn_begin 1 = .ok (.getfield 12, 3) := by decide +kernel
theorem d_pn_begin_4 : decode b_pn_begin 4 = .ok (.invokevirtual 80, 3) := by decide +kernel
theorem d_pn_begin_7 : decode b_pn_begin 7 = .ok (.iconst 0, 1) := by decide +kernel
theorem d_pn_begin_8 : decode b_pn_begin 8 = .ok (.istore_n 1, 1) := by decide +kernel
theorem d_pn_begin_9 : decode b_pn_begin 9 = .ok (.iload_n 1, 1) := by decide +kernel
theorem d_pn_begin_10 : decode b_pn_begin 10 = .ok (.aload_n 0, 1) := by decide +kernel
theorem d_pn_begin_11 : decode b_pn_begin 11 = .ok (.getfield 34, 3) := by decide +kernel
theorem d_pn_begin_14 : decode b_pn_begin 14 = .ok (.getfield 83, 3) := by decide +kernel
theorem d_pn_begin_17 : decode b_pn_begin 17 = .ok (.if_icmp .ge 26, 3) := by decide +kernel
theorem d_pn_begin_20 : decode b_pn_begin 20 = .ok (.aload_n 0, 1) := by decide +kernel
theorem d_pn_begin_21 : decode b_pn_begin 21 = .ok (.getfield 27, 3) := by decide +kernel
theorem d_pn_begin_24 : decode b_pn_begin 24 = .ok (.iconst 0, 1) := by decide +kernel
theorem d_pn_begin_25 : decode b_pn_begin 25 = .ok (.aaload, 1) := by decide +kernel
theorem d_pn_begin_26 : decode b_pn_begin 26 = .ok (.iload_n 1, 1) := by decide +kernel
theorem d_pn_begin_27 : decode b_pn_begin 27 = .ok (.aload_n 0, 1) := by decide +kernel
theorem d_pn_begin_28 : decode b_pn_begin 28 = .ok (.getfield 34, 3) := by decide +kernel
theorem d_pn_begin_31 : decode b_pn_begin 31 = .ok (.getfield 86, 3) := by decide +kernel
theorem d_pn_begin_34 : decode b_pn_begin 34 = .ok (.iload_n 1, 1) := by decide +kernel
theorem d_pn_begin_35 : decode b_pn_begin 35 = .ok (.iaload, 1) := by decide +kernel
theorem d_pn_begin_36 : decode b_pn_begin 36 = .ok (.iastore, 1) := by decide +kernel
theorem d_pn_begin_37 : decode b_pn_begin 37 = .ok (.iinc 1 1, 3) := by decide +kernel
theorem d_pn_begin_40 : decode b_pn_begin 40 = .ok (.goto (-31), 3) := by decide +kernel
theorem d_pn_begin_43 : decode b_pn_begin 43 = .ok (.return_, 1) := by decide +kernel
theorem d_pn_canEnd_0 : decode b_pn_canEnd 0 = .ok (.iconst 0, 1) := by decide +kernel
theorem d_pn_canEnd_1 : decode b_pn_canEnd 1 = .ok (.istore_n 3, 1) := by decide +kernel
theorem d_pn_canEnd_2 : decode b_pn_canEnd 2 = .ok (.iconst 0, 1) := by decide +kernel
theorem d_pn_canEnd_3 : decode b_pn_canEnd 3 = .ok (.istore 4, 2) := by decide +kernel
theorem d_pn_canEnd_5 : decode b_pn_canEnd 5 = .ok (.iload 4, 2) := by decide +kernel
theorem d_pn_canEnd_7 : decode b_pn_canEnd 7 = .ok (.aload_n 0, 1) := by decide +kernel
theorem d_pn_canEnd_8 : decode b_pn_canEnd 8 = .ok (.getfield 34, 3) := by decide +kernel
theorem d_pn_canEnd_11 : decode b_pn_canEnd 11 = .ok (.getfield 83, 3) := by decide +kernel
theorem d_pn_canEnd_14 : decode b_pn_canEnd 14 = .ok (.if_icmp .ge 38, 3) := by decide +kernel
theorem d_pn_canEnd_17 : decode b_pn_canEnd 17 = .ok (.aload_n 0, 1) := by decide +kernel
theorem d_pn_canEnd_18 : decode b_pn_canEnd 18 = .ok (.getfield 27, 3) := by decide +kernel
theorem d_pn_canEnd_21 : decode b_pn_canEnd 21 = .ok (.iload_n 1, 1) := by decide +kernel
theorem d_pn_canEnd_22 : decode b_pn_canEnd 22 = .ok (.aaload, 1) := by decide +kernel
theorem d_pn_canEnd_23 : decode b_pn_canEnd 23 = .ok (.iload 4, 2) := by decide +kernel
theorem d_pn_canEnd_25 : decode b_pn_canEnd 25 = .ok (.iaload, 1) := by decide +kernel
theorem d_pn_canEnd_26 : decode b_pn_canEnd 26 = .ok (.aload_n 0, 1) := by decide +kernel
theorem d_pn_canEnd_27 : decode b_pn_canEnd 27 = .ok (.getfield 34, 3) := by decide +kernel
theorem d_pn_canEnd_30 : decode b_pn_canEnd 30 = .ok (.getfield 96, 3) := by decide +kernel
theorem d_pn_canEnd_33 : decode b_pn_canEnd 33 = .ok (.iload 4, 2) := by decide +kernel
theorem d_pn_canEnd_35 : decode b_pn_canEnd 35 = .ok (.iaload, 1) := by decide +kernel
theorem d_pn_canEnd_36 : decode b_pn_canEnd 36 = .ok (.if_icmp .ne 10, 3) := by decide +kernel
theorem d_pn_canEnd_39 : decode b_pn_canEnd 39 = .ok (.iload_n 3, 1) := by decide +kernel
theorem d_pn_canEnd_40 : decode b_pn_canEnd 40 = .ok (.iconst 1, 1) := by decide +kernel
theorem d_pn_canEnd_41 : decode b_pn_canEnd 41 = .ok (.iload 4, 2) := by decide +kernel
theorem d_pn_canEnd_43 : decode b_pn_canEnd 43 = .ok (.ishl, 1) := by decide +kernel
theorem d_pn_canEnd_44 : decode b_pn_canEnd 44 = .ok (.ior, 1) := by decide +kernel
theorem d_pn_canEnd_45 : decode b_pn_canEnd 45 = .ok (.istore_n 3, 1) := by decide +kernel
theorem d_pn_canEnd_46 : decode b_pn_canEnd 46 = .ok (.iinc 4 1, 3) := by decide +kernel
theorem d_pn_canEnd_49 : decode b_pn_canEnd 49 = .ok (.goto (-44), 3) := by decide +kernel
theorem d_pn_canEnd_52 : decode b_pn_canEnd 52 = .ok (.iload_n 3, 1) := by decide +kernel
theorem d_pn_canEnd_53 : decode b_pn_canEnd 53 = .ok (.istore 4, 2) := by decide +kernel
theorem d_pn_canEnd_55 : decode b_pn_canEnd 55 = .ok (.iload 4, 2) := by decide +kernel
theorem d_pn_canEnd_57 : decode b_pn_canEnd 57 = .ok (.ifCond .lt 45, 3) := by decide +kernel
theorem d_pn_canEnd_60 : decode b_pn_canEnd 60 = .ok (.iload 4, 2) := by decide +kernel
theorem d_pn_canEnd_62 : decode b_pn_canEnd 62 = .ok (.iload_n 3, 1) := by decide +kernel
theorem d_pn_canEnd_63 : decode b_pn_canEnd 63 = .ok (.iconst (-1), 1) := by decide +kernel
theorem d_pn_canEnd_64 : decode b_pn_canEnd 64 = .ok (.ixor, 1) := by decide +kernel
theorem d_pn_canEnd_65 : decode b_pn_canEnd 65 = .ok (.iand, 1) := by decide +kernel
theorem d_pn_canEnd_66 : decode b_pn_canEnd 66 = .ok (.ifCond .ne 30, 3) := by decide +kernel
theorem d_pn_canEnd_69 : decode b_pn_canEnd 69 = .ok (.aload_n 0, 1) := by decide +kernel
theorem d_pn_canEnd_70 : decode b_pn_canEnd 70 = .ok (.iload_n 1, 1) := by decide +kernel
theorem d_pn_canEnd_71 : decode b_pn_canEnd 71 = .ok (.iload 4, 2) := by decide +kernel
theorem d_pn_canEnd_73 : decode b_pn_canEnd 73 = .ok (.iload_n 2, 1) := by decide +kernel
theorem d_pn_canEnd_74 : decode b_pn_canEnd 74 = .ok (.invokevirtual 111, 3) := by decide +kernel
theorem d_pn_canEnd_77 : decode b_pn_canEnd 77 = .ok (.istore 5, 2) := by decide +kernel
theorem d_pn_canEnd_79 : decode b_pn_canEnd 79 = .ok (.iload 5, 2) := by decide +kernel
theorem d_pn_canEnd_81 : decode b_pn_canEnd 81 = .ok (.ifCond .lt 15, 3) := by decide +kernel
theorem d_pn_canEnd_84 : decode b_pn_canEnd 84 = .ok (.aload_n 0, 1) := by decide +kernel
theorem d_pn_canEnd_85 : decode b_pn_canEnd 85 = .ok (.iconst 0, 1) := by decide +kernel
theorem d_pn_canEnd_86 : decode b_pn_canEnd 86 = .ok (.iload 5, 2) := by decide +kernel
theorem d_pn_canEnd_88 : decode b_pn_canEnd 88 = .ok (.invokevirtual 115, 3) := by decide +kernel
theorem d_pn_canEnd_91 : decode b_pn_canEnd 91 = .ok (.ifCond .eq 5, 3) := by decide +kernel
theorem d_pn_canEnd_94 : decode b_pn_canEnd 94 = .ok (.iconst 1, 1) := by decide +kernel
theorem d_pn_canEnd_95 : decode b_pn_canEnd 95 = .ok (.ireturn, 1) := by decide +kernel
theorem d_pn_canEnd_96 : decode b_pn_canEnd 96 = .ok (.iinc 4 (-1), 3) := by decide +kernel
theorem d_pn_canEnd_99 : decode b_pn_canEnd 99 = .ok (.goto (-44), 3) := by decide +kernel
theorem d_pn_canEnd_102 : decode b_pn_canEnd 102 = .ok (.iconst 0, 1) := by decide +kernel
theorem d_pn_canEnd_103 : decode b_pn_canEnd 103 = .ok (.ireturn, 1) := by decide +kernel
theorem d_pn_startSearch_0 : decode b_pn_startSearch 0 = .ok (.iload_n 3, 1) := by decide +kernel
theorem d_pn_startSearch_1 : decode b_pn_startSearch 1 = .ok (.istore 4, 2) := by decide +kernel
theorem d_pn_startSearch_3 : decode b_pn_startSearch 3 = .ok (.iconst 0, 1) := by decide +kernel
theorem d_pn_startSearch_4 : decode b_pn_startSearch 4 = .ok (.istore 5, 2) := by decide +kernel
theorem d_pn_startSearch_6 : decode b_pn_startSearch 6 = .ok (.iload 5, 2) := by decide +kernel
theorem d_pn_startSearch_8 : decode b_pn_startSearch 8 = .ok (.aload_n 0, 1) := by decide +kernel
theorem d_pn_startSearch_9 : decode b_pn_startSearch 9 = .ok (.getfield 34, 3) := by decide +kernel
theorem d_pn_startSearch_12 : decode b_pn_startSearch 12 = .ok (.getfield 83, 3) := by decide +kernel
theorem d_pn_startSearch_15 : decode b_pn_startSearch 15 = .ok (.if_icmp .ge 70, 3) := by decide +kernel
theorem d_pn_startSearch_18 : decode b_pn_startSearch 18 = .ok (.aload_n 0, 1) := by decide +kernel
theorem d_pn_startSearch_19 : decode b_pn_startSearch 19 = .ok (.getfield 27, 3) := by decide +kernel
theorem d_pn_startSearch_22 : decode b_pn_startSearch 22 = .ok (.iload_n 1, 1) := by decide +kernel
theorem d_pn_startSearch_23 : decode b_pn_startSearch 23 = .ok (.aaload, 1) := by decide +kernel
theorem d_pn_startSearch_24 : decode b_pn_startSearch 24 = .ok (.iload 5, 2) := by decide +kernel
theorem d_pn_startSearch_26 : decode b_pn_startSearch 26 = .ok (.iaload, 1) := by decide +kernel
theorem d_pn_startSearch_27 : decode b_pn_startSearch 27 = .ok (.istore 6, 2) := by decide +kernel
theorem d_pn_startSearch_29 : decode b_pn_startSearch 29 = .ok (.aload_n 0, 1) := by decide +kernel
theorem d_pn_startSearch_30 : decode b_pn_startSearch 30 = .ok (.getfield 20, 3) := by decide +kernel
theorem d_pn_startSearch_33 : decode b_pn_startSearch 33 = .ok (.iconst 0, 1) := by decide +kernel
theorem d_pn_startSearch_34 : decode b_pn_startSearch 34 = .ok (.aaload, 1) := by decide +kernel
theorem d_pn_startSearch_35 : decode b_pn_startSearch 35 = .ok (.iload 5, 2) := by decide +kernel
theorem d_pn_startSearch_37 : decode b_pn_startSearch 37 = .ok (.iload 6, 2) := by decide +kernel
theorem d_pn_startSearch_39 : decode b_pn_startSearch 39 = .ok (.iastore, 1) := by decide +kernel
theorem d_pn_startSearch_40 : decode b_pn_startSearch 40 = .ok (.iload_n 2, 1) := by decide +kernel
theorem d_pn_startSearch_41 : decode b_pn_startSearch 41 = .ok (.iload 5, 2) := by decide +kernel
theorem d_pn_startSearch_43 : decode b_pn_startSearch 43 = .ok (.invokestatic 118, 3) := by decide +kernel
theorem d_pn_startSearch_46 : decode b_pn_startSearch 46 = .ok (.ifCond .eq 18, 3) := by decide +kernel
theorem d_pn_startSearch_49 : decode b_pn_startSearch 49 = .ok (.iload 4, 2) := by decide +kernel
theorem d_pn_startSearch_51 : decode b_pn_startSearch 51 = .ok (.aload_n 0, 1) := by decide +kernel
theorem d_pn_startSearch_52 : decode b_pn_startSearch 52 = .ok (.iload 5, 2) := by decide +kernel
theorem d_pn_startSearch_54 : decode b_pn_startSearch 54 = .ok (.iload_n 1, 1) := by decide +kernel
theorem d_pn_startSearch_55 : decode b_pn_startSearch 55 = .ok (.invokevirtual 71, 3) := by decide +kernel
theorem d_pn_startSearch_58 : decode b_pn_startSearch 58 = .ok (.isub, 1) := by decide +kernel
theorem d_pn_startSearch_59 : decode b_pn_startSearch 59 = .ok (.istore 4, 2) := by decide +kernel
theorem d_pn_startSearch_61 : decode b_pn_startSearch 61 = .ok (.goto 18, 3) := by decide +kernel
theorem d_pn_startSearch_64 : decode b_pn_startSearch 64 = .ok (.iload 4, 2) := by decide +kernel
theorem d_pn_startSearch_66 : decode b_pn_startSearch 66 = .ok (.iload_n 1, 1) := by decide +kernel
theorem d_pn_startSearch_67 : decode b_pn_startSearch 67 = .ok (.aload_n 0, 1) := by decide +kernel
theorem d_pn_startSearch_68 : decode b_pn_startSearch 68 = .ok (.iload 5, 2) := by decide +kernel
theorem d_pn_startSearch_70 : decode b_pn_startSearch 70 = .ok (.iload 6, 2) := by decide +kernel
theorem d_pn_startSearch_72 : decode b_pn_startSearch 72 = .ok (.invokevirtual 121, 3) := by decide +kernel
theorem d_pn_startSearch_75 : decode b_pn_startSearch 75 = .ok (.iadd, 1) := by decide +kernel
theorem d_pn_startSearch_76 : decode b_pn_startSearch 76 = .ok (.isub, 1) := by decide +kernel
theorem d_pn_startSearch_77 : decode b_pn_startSearch 77 = .ok (.istore 4, 2) := by decide +kernel
theorem d_pn_startSearch_79 : decode b_pn_startSearch 79 = .ok (.iinc 5 1, 3) := by decide +kernel
theorem d_pn_startSearch_82 : decode b_pn_startSearch 82 = .ok (.goto (-76), 3) := by decide +kernel
theorem d_pn_startSearch_85 : decode b_pn_startSearch 85 = .ok (.aload_n 0, 1) := by decide +kernel
theorem d_pn_startSearch_86 : decode b_pn_startSearch 86 = .ok (.getfield 23, 3) := by decide +kernel
theorem d_pn_startSearch_89 : decode b_pn_startSearch 89 = .ok (.iconst 0, 1) := by decide +kernel
theorem d_pn_startSearch_90 : decode b_pn_startSearch 90 = .ok (.iload_n 2, 1) := by decide +kernel
theorem d_pn_startSearch_91 : decode b_pn_startSearch 91 = .ok (.iastore, 1) := by decide +kernel
theorem d_pn_startSearch_92 : decode b_pn_startSearch 92 = .ok (.iload 4, 2) := by decide +kernel
theorem d_pn_startSearch_94 : decode b_pn_startSearch 94 = .ok (.ireturn, 1) := by decide +kernel
theorem d_pn_reachesEnd_0 : decode b_pn_reachesEnd 0 = .ok (.aload_n 0, 1) := by decide +kernel
theorem d_pn_reachesEnd_1 : decode b_pn_reachesEnd 1 = .ok (.getfield 23, 3) := by decide +kernel
theorem d_pn_reachesEnd_4 : decode b_pn_reachesEnd 4 = .ok (.iload_n 1, 1) := by decide +kernel
theorem d_pn_reachesEnd_5 : decode b_pn_reachesEnd 5 = .ok (.iaload, 1) := by decide +kernel
theorem d_pn_reachesEnd_6 : decode b_pn_reachesEnd 6 = .ok (.iconst 1, 1) := by decide +kernel
theorem d_pn_reachesEnd_7 : decode b_pn_reachesEnd 7 = .ok (.aload_n 0, 1) := by decide +kernel
theorem d_pn_reachesEnd_8 : decode b_pn_reachesEnd 8 = .ok (.getfield 34, 3) := by decide +kernel
theorem d_pn_reachesEnd_11 : decode b_pn_reachesEnd 11 = .ok (.getfield 83, 3) := by decide +kernel
theorem d_pn_reachesEnd_14 : decode b_pn_reachesEnd 14 = .ok (.ishl, 1) := by decide +kernel
theorem d_pn_reachesEnd_15 : decode b_pn_reachesEnd 15 = .ok (.iconst 1, 1) := by decide +kernel
theorem d_pn_reachesEnd_16 : decode b_pn_reachesEnd 16 = .ok (.isub, 1) := by decide +kernel
theorem d_pn_reachesEnd_17 : decode b_pn_reachesEnd 17 = .ok (.if_icmp .ne 5, 3) := by decide +kernel
theorem d_pn_reachesEnd_20 : decode b_pn_reachesEnd 20 = .ok (.iconst 1, 1) := by decide +kernel
theorem d_pn_reachesEnd_21 : decode b_pn_reachesEnd 21 = .ok (.ireturn, 1) := by decide +kernel
theorem d_pn_reachesEnd_22 : decode b_pn_reachesEnd 22 = .ok (.iload_n 1, 1) := by decide +kernel
theorem d_pn_reachesEnd_23 : decode b_pn_reachesEnd 23 = .ok (.iconst 1, 1) := by decide +kernel
theorem d_pn_reachesEnd_24 : decode b_pn_reachesEnd 24 = .ok (.iadd, 1) := by decide +kernel
theorem d_pn_reachesEnd_25 : decode b_pn_reachesEnd 25 = .ok (.bipush 32, 2) := by decide +kernel
theorem d_pn_reachesEnd_27 : decode b_pn_reachesEnd 27 = .ok (.if_icmp .lt 5, 3) := by decide +kernel
theorem d_pn_reachesEnd_32 : decode b_pn_reachesEnd 32 = .ok (.aload_n 0, 1) := by decide +kernel
theorem d_pn_reachesEnd_33 : decode b_pn_reachesEnd 33 = .ok (.iload_n 1, 1) := by decide +kernel
theorem d_pn_reachesEnd_34 : decode b_pn_reachesEnd 34 = .ok (.invokevirtual 127, 3) := by decide +kernel
theorem d_pn_reachesEnd_37 : decode b_pn_reachesEnd 37 = .ok (.istore_n 3, 1) := by decide +kernel
theorem d_pn_reachesEnd_38 : decode b_pn_reachesEnd 38 = .ok (.aload_n 0, 1) := by decide +kernel
theorem d_pn_reachesEnd_39 : decode b_pn_reachesEnd 39 = .ok (.getfield 12, 3) := by decide +kernel
theorem d_pn_reachesEnd_42 : decode b_pn_reachesEnd 42 = .ok (.iload_n 3, 1) := by decide +kernel
theorem d_pn_reachesEnd_43 : decode b_pn_reachesEnd 43 = .ok (.invokevirtual 131, 3) := by decide +kernel
theorem d_pn_reachesEnd_46 : decode b_pn_reachesEnd 46 = .ok (.iload_n 2, 1) := by decide +kernel
theorem d_pn_reachesEnd_47 : decode b_pn_reachesEnd 47 = .ok (.if_icmp .le 5, 3) := by decide +kernel
theorem d_pn_reachesEnd_50 : decode b_pn_reachesEnd 50 = .ok (.iconst 0, 1) := by decide +kernel
theorem d_pn_reachesEnd_51 : decode b_pn_reachesEnd 51 = .ok (.ireturn, 1) := by decide +kernel
theorem d_pn_reachesEnd_52 : decode b_pn_reachesEnd 52 = .ok (.aload_n 0, 1) := by decide +kernel
theorem d_pn_reachesEnd_53 : decode b_pn_reachesEnd 53 = .ok (.iload_n 1, 1) := by decide +kernel
theorem d_pn_reachesEnd_54 : decode b_pn_reachesEnd 54 = .ok (.iconst 0, 1) := by decide +kernel
theorem d_pn_reachesEnd_55 : decode b_pn_reachesEnd 55 = .ok (.iconst 0, 1) := by decide +kernel
theorem d_pn_reachesEnd_56 : decode b_pn_reachesEnd 56 = .ok (.iload_n 2, 1) := by decide +kernel
theorem d_pn_reachesEnd_57 : decode b_pn_reachesEnd 57 = .ok (.invokevirtual 134, 3) := by decide +kernel
theorem d_pn_reachesEnd_60 : decode b_pn_reachesEnd 60 = .ok (.ifCond .eq 5, 3) := by decide +kernel
