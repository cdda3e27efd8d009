theorem d_md_isWrong_6 : decode b_md_isWrong 6 = .ok (.istore_n 3, 1) := by decide +kernel
theorem d_md_isWrong_7 : decode b_md_isWrong 7 = .ok (.aload_n 0, 1) := by decide +kernel
theorem d_md_isWrong_8 : decode b_md_isWrong 8 = .ok (.getfield 30, 3) := by decide +kernel
theorem d_md_isWrong_11 : decode b_md_isWrong 11 = .ok (.bipush 30, 2) := by decide +kernel
theorem d_md_isWrong_13 : decode b_md_isWrong 13 = .ok (.iload_n 1, 1) := by decide +kernel
theorem d_md_isWrong_14 : decode b_md_isWrong 14 = .ok (.imul, 1) := by decide +kernel
theorem d_md_isWrong_15 : decode b_md_isWrong 15 = .ok (.baload, 1) := by decide +kernel
theorem d_md_isWrong_16 : decode b_md_isWrong 16 = .ok (.ifCond .eq 11, 3) := by decide +kernel
theorem d_md_isWrong_19 : decode b_md_isWrong 19 = .ok (.aload_n 0, 1) := by decide +kernel
theorem d_md_isWrong_20 : decode b_md_isWrong 20 = .ok (.iload_n 3, 1) := by decide +kernel
theorem d_md_isWrong_21 : decode b_md_isWrong 21 = .ok (.invokevirtual 101, 3) := by decide +kernel
theorem d_md_isWrong_24 : decode b_md_isWrong 24 = .ok (.ifCond .ne 5, 3) := by decide +kernel
theorem d_md_isWrong_27 : decode b_md_isWrong 27 = .ok (.iconst 1, 1) := by decide +kernel
theorem d_md_isWrong_28 : decode b_md_isWrong 28 = .ok (.ireturn, 1) := by decide +kernel
theorem d_md_isWrong_29 : decode b_md_isWrong 29 = .ok (.iload_n 2, 1) := by decide +kernel
theorem d_md_isWrong_30 : decode b_md_isWrong 30 = .ok (.ifCond .ne 19, 3) := by decide +kernel
theorem d_md_isWrong_33 : decode b_md_isWrong 33 = .ok (.iload_n 3, 1) := by decide +kernel
theorem d_md_isWrong_34 : decode b_md_isWrong 34 = .ok (.aload_n 0, 1) := by decide +kernel
theorem d_md_isWrong_35 : decode b_md_isWrong 35 = .ok (.getfield 20, 3) := by decide +kernel
theorem d_md_isWrong_38 : decode b_md_isWrong 38 = .ok (.iload_n 1, 1) := by decide +kernel
theorem d_md_isWrong_39 : decode b_md_isWrong 39 = .ok (.iaload, 1) := by decide +kernel
theorem d_md_isWrong_40 : decode b_md_isWrong 40 = .ok (.if_icmp .eq 7, 3) := by decide +kernel
theorem d_md_isWrong_43 : decode b_md_isWrong 43 = .ok (.iconst 1, 1) := by decide +kernel
theorem d_md_isWrong_44 : decode b_md_isWrong 44 = .ok (.goto 4, 3) := by decide +kernel
theorem d_md_isWrong_47 : decode b_md_isWrong 47 = .ok (.iconst 0, 1) := by decide +kernel
theorem d_md_isWrong_48 : decode b_md_isWrong 48 = .ok (.ireturn, 1) := by decide +kernel
theorem d_md_isWrong_49 : decode b_md_isWrong 49 = .ok (.aload_n 0, 1) := by decide +kernel
theorem d_md_isWrong_50 : decode b_md_isWrong 50 = .ok (.iload_n 1, 1) := by decide +kernel
theorem d_md_isWrong_51 : decode b_md_isWrong 51 = .ok (.iload_n 2, 1) := by decide +kernel
theorem d_md_isWrong_52 : decode b_md_isWrong 52 = .ok (.iconst 1, 1) := by decide +kernel
theorem d_md_isWrong_53 : decode b_md_isWrong 53 = .ok (.isub, 1) := by decide +kernel
theorem d_md_isWrong_54 : decode b_md_isWrong 54 = .ok (.invokevirtual 193, 3) := by decide +kernel
theorem d_md_isWrong_57 : decode b_md_isWrong 57 = .ok (.istore 4, 2) := by decide +kernel
theorem d_md_isWrong_59 : decode b_md_isWrong 59 = .ok (.iload_n 3, 1) := by decide +kernel
theorem d_md_isWrong_60 : decode b_md_isWrong 60 = .ok (.iload 4, 2) := by decide +kernel
theorem d_md_isWrong_62 : decode b_md_isWrong 62 = .ok (.if_icmp .eq 13, 3) := by decide +kernel
theorem d_md_isWrong_65 : decode b_md_isWrong 65 = .ok (.aload_n 0, 1) := by decide +kernel
theorem d_md_isWrong_66 : decode b_md_isWrong 66 = .ok (.iload_n 3, 1) := by decide +kernel
theorem d_md_isWrong_67 : decode b_md_isWrong 67 = .ok (.iload 4, 2) := by decide +kernel
theorem d_md_isWrong_69 : decode b_md_isWrong 69 = .ok (.invokevirtual 107, 3) := by decide +kernel
theorem d_md_isWrong_72 : decode b_md_isWrong 72 = .ok (.ifCond .eq 19, 3) := by decide +kernel
theorem d_md_isWrong_75 : decode b_md_isWrong 75 = .ok (.iload_n 2, 1) := by decide +kernel
theorem d_md_isWrong_76 : decode b_md_isWrong 76 = .ok (.bipush 29, 2) := by decide +kernel
theorem d_md_isWrong_78 : decode b_md_isWrong 78 = .ok (.if_icmp .ne 17, 3) := by decide +kernel
theorem d_md_isWrong_81 : decode b_md_isWrong 81 = .ok (.iload_n 3, 1) := by decide +kernel
theorem d_md_isWrong_82 : decode b_md_isWrong 82 = .ok (.aload_n 0, 1) := by decide +kernel
theorem d_md_isWrong_83 : decode b_md_isWrong 83 = .ok (.getfield 24, 3) := by decide +kernel
theorem d_md_isWrong_86 : decode b_md_isWrong 86 = .ok (.iload_n 1, 1) := by decide +kernel
theorem d_md_isWrong_87 : decode b_md_isWrong 87 = .ok (.iaload, 1) := by decide +kernel
theorem d_md_isWrong_88 : decode b_md_isWrong 88 = .ok (.if_icmp .eq 7, 3) := by decide +kernel
theorem d_md_isWrong_91 : decode b_md_isWrong 91 = .ok (.iconst 1, 1) := by decide +kernel
theorem d_md_isWrong_92 : decode b_md_isWrong 92 = .ok (.goto 4, 3) := by decide +kernel
theorem d_md_isWrong_95 : decode b_md_isWrong 95 = .ok (.iconst 0, 1) := by decide +kernel
theorem d_md_isWrong_96 : decode b_md_isWrong 96 = .ok (.ireturn, 1) := by decide +kernel
theorem d_md_wrong_0 : decode b_md_wrong 0 = .ok (.aload_n 0, 1) := by decide +kernel
theorem d_md_wrong_1 : decode b_md_wrong 1 = .ok (.getfield 196, 3) := by decide +kernel
theorem d_md_wrong_4 : decode b_md_wrong 4 = .ok (.ifCond .ne 24, 3) := by decide +kernel
theorem d_md_wrong_7 : decode b_md_wrong 7 = .ok (.aload_n 0, 1) := by decide +kernel
theorem d_md_wrong_8 : decode b_md_wrong 8 = .ok (.iload_n 1, 1) := by decide +kernel
theorem d_md_wrong_9 : decode b_md_wrong 9 = .ok (.putfield 196, 3) := by decide +kernel
theorem d_md_wrong_12 : decode b_md_wrong 12 = .ok (.aload_n 0, 1) := by decide +kernel
theorem d_md_wrong_13 : decode b_md_wrong 13 = .ok (.iload_n 2, 1) := by decide +kernel
theorem d_md_wrong_14 : decode b_md_wrong 14 = .ok (.putfield 199, 3) := by decide +kernel
theorem d_md_wrong_17 : decode b_md_wrong 17 = .ok (.aload_n 0, 1) := by decide +kernel
theorem d_md_wrong_18 : decode b_md_wrong 18 = .ok (.iload_n 3, 1) := by decide +kernel
theorem d_md_wrong_19 : decode b_md_wrong 19 = .ok (.putfield 202, 3) := by decide +kernel
theorem d_md_wrong_22 : decode b_md_wrong 22 = .ok (.aload_n 0, 1) := by decide +kernel
theorem d_md_wrong_23 : decode b_md_wrong 23 = .ok (.iload 4, 2) := by decide +kernel
theorem d_md_wrong_25 : decode b_md_wrong 25 = .ok (.putfield 205, 3) := by decide +kernel
theorem d_md_wrong_28 : decode b_md_wrong 28 = .ok (.return_, 1) := by decide +kernel
theorem d_cr_wayFromStart_0 : decode b_cr_wayFromStart 0 = .ok (.aload_n 0, 1) := by decide +kernel
theorem d_cr_wayFromStart_1 : decode b_cr_wayFromStart 1 = .ok (.getfield 20, 3) := by decide +kernel
theorem d_cr_wayFromStart_4 : decode b_cr_wayFromStart 4 = .ok (.iload_n 1, 1) := by decide +kernel
theorem d_cr_wayFromStart_5 : decode b_cr_wayFromStart 5 = .ok (.aaload, 1) := by decide +kernel
theorem d_cr_wayFromStart_6 : decode b_cr_wayFromStart 6 = .ok (.aload_n 0, 1) := by decide +kernel
theorem d_cr_wayFromStart_7 : decode b_cr_wayFromStart 7 = .ok (.getfield 9, 3) := by decide +kernel
theorem d_cr_wayFromStart_10 : decode b_cr_wayFromStart 10 = .ok (.iload_n 1, 1) := by decide +kernel
theorem d_cr_wayFromStart_11 : decode b_cr_wayFromStart 11 = .ok (.iaload, 1) := by decide +kernel
theorem d_cr_wayFromStart_12 : decode b_cr_wayFromStart 12 = .ok (.iaload, 1) := by decide +kernel
theorem d_cr_wayFromStart_13 : decode b_cr_wayFromStart 13 = .ok (.ireturn, 1) := by decide +kernel
theorem d_cr_countWays_0 : decode b_cr_countWays 0 = .ok (.aload_n 0, 1) := by decide +kernel
theorem d_cr_countWays_1 : decode b_cr_countWays 1 = .ok (.getfield 9, 3) := by decide +kernel
theorem d_cr_countWays_4 : decode b_cr_countWays 4 = .ok (.iload_n 1, 1) := by decide +kernel
theorem d_cr_countWays_5 : decode b_cr_countWays 5 = .ok (.iaload, 1) := by decide +kernel
theorem d_cr_countWays_6 : decode b_cr_countWays 6 = .ok (.istore_n 3, 1) := by decide +kernel
theorem d_cr_countWays_7 : decode b_cr_countWays 7 = .ok (.aload_n 0, 1) := by decide +kernel
theorem d_cr_countWays_8 : decode b_cr_countWays 8 = .ok (.getfield 15, 3) := by decide +kernel
theorem d_cr_countWays_11 : decode b_cr_countWays 11 = .ok (.iload_n 1, 1) := by decide +kernel
theorem d_cr_countWays_12 : decode b_cr_countWays 12 = .ok (.iaload, 1) := by decide +kernel
theorem d_cr_countWays_13 : decode b_cr_countWays 13 = .ok (.istore 4, 2) := by decide +kernel
theorem d_cr_countWays_15 : decode b_cr_countWays 15 = .ok (.iload_n 2, 1) := by decide +kernel
theorem d_cr_countWays_16 : decode b_cr_countWays 16 = .ok (.ifCond .ne 15, 3) := by decide +kernel
theorem d_cr_countWays_19 : decode b_cr_countWays 19 = .ok (.iload_n 3, 1) := by decide +kernel
theorem d_cr_countWays_20 : decode b_cr_countWays 20 = .ok (.iload 4, 2) := by decide +kernel
theorem d_cr_countWays_22 : decode b_cr_countWays 22 = .ok (.if_icmp .ne 7, 3) := by decide +kernel
theorem d_cr_countWays_25 : decode b_cr_countWays 25 = .ok (.lconst 1, 1) := by decide +kernel
theorem d_cr_countWays_26 : decode b_cr_countWays 26 = .ok (.goto 4, 3) := by decide +kernel
theorem d_cr_countWays_29 : decode b_cr_countWays 29 = .ok (.lconst 0, 1) := by decide +kernel
theorem d_cr_countWays_30 : decode b_cr_countWays 30 = .ok (.lreturn, 1) := by decide +kernel
theorem d_cr_countWays_31 : decode b_cr_countWays 31 = .ok (.aload_n 0, 1) := by decide +kernel
theorem d_cr_countWays_32 : decode b_cr_countWays 32 = .ok (.getfield 26, 3) := by decide +kernel
theorem d_cr_countWays_35 : decode b_cr_countWays 35 = .ok (.lconst 0, 1) := by decide +kernel
theorem d_cr_countWays_36 : decode b_cr_countWays 36 = .ok (.invokestatic 54, 3) := by decide +kernel
theorem d_cr_countWays_39 : decode b_cr_countWays 39 = .ok (.aload_n 0, 1) := by decide +kernel
theorem d_cr_countWays_40 : decode b_cr_countWays 40 = .ok (.getfield 26, 3) := by decide +kernel
theorem d_cr_countWays_43 : decode b_cr_countWays 43 = .ok (.iload_n 3, 1) := by decide +kernel
theorem d_cr_countWays_44 : decode b_cr_countWays 44 = .ok (.lconst 1, 1) := by decide +kernel
theorem d_cr_countWays_45 : decode b_cr_countWays 45 = .ok (.lastore, 1) := by decide +kernel
theorem d_cr_countWays_46 : decode b_cr_countWays 46 = .ok (.iconst 1, 1) := by decide +kernel
theorem d_cr_countWays_47 : decode b_cr_countWays 47 = .ok (.istore 5, 2) := by decide +kernel
theorem d_cr_countWays_49 : decode b_cr_countWays 49 = .ok (.iload 5, 2) := by decide +kernel
theorem d_cr_countWays_51 : decode b_cr_countWays 51 = .ok (.iload_n 2, 1) := by decide +kernel
theorem d_cr_countWays_52 : decode b_cr_countWays 52 = .ok (.if_icmp .ge 13, 3) := by decide +kernel
theorem d_cr_countWays_55 : decode b_cr_countWays 55 = .ok (.aload_n 0, 1) := by decide +kernel
theorem d_cr_countWays_56 : decode b_cr_countWays 56 = .ok (.invokevirtual 60, 3) := by decide +kernel
theorem d_cr_countWays_59 : decode b_cr_countWays 59 = .ok (.iinc 5 1, 3) := by decide +kernel
theorem d_cr_countWays_62 : decode b_cr_countWays 62 = .ok (.goto (-13), 3) := by decide +kernel
theorem d_cr_countWays_65 : decode b_cr_countWays 65 = .ok (.aload_n 0, 1) := by decide +kernel
theorem d_cr_countWays_66 : decode b_cr_countWays 66 = .ok (.iload 4, 2) := by decide +kernel
theorem d_cr_countWays_68 : decode b_cr_countWays 68 = .ok (.invokevirtual 63, 3) := by decide +kernel
theorem d_cr_countWays_71 : decode b_cr_countWays 71 = .ok (.aload_n 0, 1) := by decide +kernel
theorem d_cr_countWays_72 : decode b_cr_countWays 72 = .ok (.getfield 26, 3) := by decide +kernel
theorem d_cr_countWays_75 : decode b_cr_countWays 75 = .ok (.iload 4, 2) := by decide +kernel
theorem d_cr_countWays_77 : decode b_cr_countWays 77 = .ok (.laload, 1) := by decide +kernel
theorem d_cr_countWays_78 : decode b_cr_countWays 78 = .ok (.lsub, 1) := by decide +kernel
theorem d_cr_countWays_79 : decode b_cr_countWays 79 = .ok (.lreturn, 1) := by decide +kernel
theorem d_cr_spreadCounts_0 : decode b_cr_spreadCounts 0 = .ok (.iconst 0, 1) := by decide +kernel
theorem d_cr_spreadCounts_1 : decode b_cr_spreadCounts 1 = .ok (.istore_n 1, 1) := by decide +kernel
theorem d_cr_spreadCounts_2 : decode b_cr_spreadCounts 2 = .ok (.iload_n 1, 1) := by decide +kernel
theorem d_cr_spreadCounts_3 : decode b_cr_spreadCounts 3 = .ok (.bipush 25, 2) := by decide +kernel
theorem d_cr_spreadCounts_5 : decode b_cr_spreadCounts 5 = .ok (.if_icmp .ge 35, 3) := by decide +kernel
theorem d_cr_spreadCounts_8 : decode b_cr_spreadCounts 8 = .ok (.aload_n 0, 1) := by decide +kernel
theorem d_cr_spreadCounts_9 : decode b_cr_spreadCounts 9 = .ok (.getfield 30, 3) := by decide +kernel
theorem d_cr_spreadCounts_12 : decode b_cr_spreadCounts 12 = .ok (.iload_n 1, 1) := by decide +kernel
theorem d_cr_spreadCounts_13 : decode b_cr_spreadCounts 13 = .ok (.aload_n 0, 1) := by decide +kernel
theorem d_cr_spreadCounts_14 : decode b_cr_spreadCounts 14 = .ok (.getfield 33, 3) := by decide +kernel
theorem d_cr_spreadCounts_17 : decode b_cr_spreadCounts 17 = .ok (.iload_n 1, 1) := by decide +kernel
theorem d_cr_spreadCounts_18 : decode b_cr_spreadCounts 18 = .ok (.invokevirtual 67, 3) := by decide +kernel
theorem d_cr_spreadCounts_21 : decode b_cr_spreadCounts 21 = .ok (.ifCond .eq 11, 3) := by decide +kernel
theorem d_cr_spreadCounts_24 : decode b_cr_spreadCounts 24 = .ok (.aload_n 0, 1) := by decide +kernel
theorem d_cr_spreadCounts_25 : decode b_cr_spreadCounts 25 = .ok (.iload_n 1, 1) := by decide +kernel
theorem d_cr_spreadCounts_26 : decode b_cr_spreadCounts 26 = .ok (.invokevirtual 63, 3) := by decide +kernel
theorem d_cr_spreadCounts_29 : decode b_cr_spreadCounts 29 = .ok (.goto 4, 3) := by decide +kernel
theorem d_cr_spreadCounts_32 : decode b_cr_spreadCounts 32 = .ok (.lconst 0, 1) := by decide +kernel
theorem d_cr_spreadCounts_33 : decode b_cr_spreadCounts 33 = .ok (.lastore, 1) := by decide +kernel
theorem d_cr_spreadCounts_34 : decode b_cr_spreadCounts 34 = .ok (.iinc 1 1, 3) := by decide +kernel
theorem d_cr_spreadCounts_37 : decode b_cr_spreadCounts 37 = .ok (.goto (-35), 3) := by decide +kernel
theorem d_cr_spreadCounts_40 : decode b_cr_spreadCounts 40 = .ok (.aload_n 0, 1) := by decide +kernel
theorem d_cr_spreadCounts_41 : decode b_cr_spreadCounts 41 = .ok (.getfield 26, 3) := by decide +kernel
theorem d_cr_spreadCounts_44 : decode b_cr_spreadCounts 44 = .ok (.astore_n 1, 1) := by decide +kernel
theorem d_cr_spreadCounts_45 : decode b_cr_spreadCounts 45 = .ok (.aload_n 0, 1) := by decide +kernel
theorem d_cr_spreadCounts_46 : decode b_cr_spreadCounts 46 = .ok (.aload_n 0, 1) := by decide +kernel
theorem d_cr_spreadCounts_47 : decode b_cr_spreadCounts 47 = .ok (.getfield 30, 3) := by decide +kernel
theorem d_cr_spreadCounts_50 : decode b_cr_spreadCounts 50 = .ok (.putfield 26, 3) := by decide +kernel
theorem d_cr_spreadCounts_53 : decode b_cr_spreadCounts 53 = .ok (.aload_n 0, 1) := by decide +kernel
theorem d_cr_spreadCounts_54 : decode b_cr_spreadCounts 54 = .ok (.aload_n 1, 1) := by decide +kernel
theorem d_cr_spreadCounts_55 : decode b_cr_spreadCounts 55 = .ok (.putfield 30, 3) := by decide +kernel
theorem d_cr_spreadCounts_58 : decode b_cr_spreadCounts 58 = .ok (.return_, 1) := by decide +kernel
theorem d_cr_countsBeside_0 : decode b_cr_countsBeside 0 = .ok (.lconst 0, 1) := by decide +kernel
theorem d_cr_countsBeside_1 : decode b_cr_countsBeside 1 = .ok (.lstore_n 2, 1) := by decide +kernel
theorem d_cr_countsBeside_2 : decode b_cr_countsBeside 2 = .ok (.iconst 0, 1) := by decide +kernel
theorem d_cr_countsBeside_3 : decode b_cr_countsBeside 3 = .ok (.istore 4, 2) := by decide +kernel
theorem d_cr_countsBeside_5 : decode b_cr_countsBeside 5 = .ok (.iload 4, 2) := by decide +kernel
theorem d_cr_countsBeside_7 : decode b_cr_countsBeside 7 = .ok (.aload_n 0, 1) := by decide +kernel
theorem d_cr_countsBeside_8 : decode b_cr_countsBeside 8 = .ok (.getfield 33, 3) := by decide +kernel
theorem d_cr_countsBeside_11 : decode b_cr_countsBeside 11 = .ok (.getfield 71, 3) := by decide +kernel
theorem d_cr_countsBeside_14 : decode b_cr_countsBeside 14 = .ok (.iload_n 1, 1) := by decide +kernel
theorem d_cr_countsBeside_15 : decode b_cr_countsBeside 15 = .ok (.iaload, 1) := by decide +kernel
theorem d_cr_countsBeside_16 : decode b_cr_countsBeside 16 = .ok (.if_icmp .ge 29, 3) := by decide +kernel
theorem d_cr_countsBeside_19 : decode b_cr_countsBeside 19 = .ok (.lload_n 2, 1) := by decide +kernel
theorem d_cr_countsBeside_20 : decode b_cr_countsBeside 20 = .ok (.aload_n 0, 1) := by decide +kernel
theorem d_cr_countsBeside_21 : decode b_cr_countsBeside 21 = .ok (.getfield 26, 3) := by decide +kernel
theorem d_cr_countsBeside_24 : decode b_cr_countsBeside 24 = .ok (.aload_n 0, 1) := by decide +kernel
theorem d_cr_countsBeside_25 : decode b_cr_countsBeside 25 = .ok (.getfield 33, 3) := by decide +kernel
theorem d_cr_countsBeside_28 : decode b_cr_countsBeside 28 = .ok (.getfield 74, 3) := by decide +kernel
theorem d_cr_countsBeside_31 : decode b_cr_countsBeside 31 = .ok (.iload_n 1, 1) := by decide +kernel
theorem d_cr_countsBeside_32 : decode b_cr_countsBeside 32 = .ok (.aaload, 1) := by decide +kernel
theorem d_cr_countsBeside_33 : decode b_cr_countsBeside 33 = .ok (.iload 4, 2) := by decide +kernel
theorem d_cr_countsBeside_35 : decode b_cr_countsBeside 35 = .ok (.iaload, 1) := by decide +kernel
theorem d_cr_countsBeside_36 : decode b_cr_countsBeside 36 = .ok (.laload, 1) := by decide +kernel
theorem d_cr_countsBeside_37 : decode b_cr_countsBeside 37 = .ok (.ladd, 1) := by decide +kernel
theorem d_cr_countsBeside_38 : decode b_cr_countsBeside 38 = .ok (.lstore_n 2, 1) := by decide +kernel
theorem d_cr_countsBeside_39 : decode b_cr_countsBeside 39 = .ok (.iinc 4 1, 3) := by decide +kernel
theorem d_cr_countsBeside_42 : decode b_cr_countsBeside 42 = .ok (.goto (-37), 3) := by decide +kernel
theorem d_cr_countsBeside_45 : decode b_cr_countsBeside 45 = .ok (.lload_n 2, 1) := by decide +kernel
theorem d_cr_countsBeside_46 : decode b_cr_countsBeside 46 = .ok (.lreturn, 1) := by decide +kernel
theorem d_fl_leads_0 : decode b_fl_leads 0 = .ok (.aload_n 0, 1) := by decide +kernel
theorem d_fl_leads_1 : decode b_fl_leads 1 = .ok (.iload_n 1, 1) := by decide +kernel
theorem d_fl_leads_2 : decode b_fl_leads 2 = .ok (.invokevirtual 45, 3) := by decide +kernel
theorem d_fl_leads_5 : decode b_fl_leads 5 = .ok (.ifCond .ne 5, 3) := by decide +kernel
theorem d_fl_leads_8 : decode b_fl_leads 8 = .ok (.iconst 0, 1) := by decide +kernel
theorem d_fl_leads_9 : decode b_fl_leads 9 = .ok (.ireturn, 1) := by decide +kernel
theorem d_fl_leads_10 : decode b_fl_leads 10 = .ok (.iconst 0, 1) := by decide +kernel
theorem d_fl_leads_11 : decode b_fl_leads 11 = .ok (.istore_n 3, 1) := by decide +kernel
theorem d_fl_leads_12 : decode b_fl_leads 12 = .ok (.iload_n 3, 1) := by decide +kernel
theorem d_fl_leads_13 : decode b_fl_leads 13 = .ok (.aload_n 0, 1) := by decide +kernel
theorem d_fl_leads_14 : decode b_fl_leads 14 = .ok (.getfield 19, 3) := by decide +kernel
theorem d_fl_leads_17 : decode b_fl_leads 17 = .ok (.iload_n 1, 1) := by decide +kernel
theorem d_fl_leads_18 : decode b_fl_leads 18 = .ok (.iaload, 1) := by decide +kernel
theorem d_fl_leads_19 : decode b_fl_leads 19 = .ok (.if_icmp .ge 23, 3) := by decide +kernel
theorem d_fl_leads_22 : decode b_fl_leads 22 = .ok (.aload_n 0, 1) := by decide +kernel
theorem d_fl_leads_23 : decode b_fl_leads 23 = .ok (.getfield 24, 3) := by decide +kernel
theorem d_fl_leads_26 : decode b_fl_leads 26 = .ok (.iload_n 1, 1) := by decide +kernel
theorem d_fl_leads_27 : decode b_fl_leads 27 = .ok (.aaload, 1) := by decide +kernel
theorem d_fl_leads_28 : decode b_fl_leads 28 = .ok (.iload_n 3, 1) := by decide +kernel
theorem d_fl_leads_29 : decode b_fl_leads 29 = .ok (.iaload, 1) := by decide +kernel
theorem d_fl_leads_30 : decode b_fl_leads 30 = .ok (.iload_n 2, 1) := by decide +kernel
theorem d_fl_leads_31 : decode b_fl_leads 31 = .ok (.if_icmp .ne 5, 3) := by decide +kernel
theorem d_fl_leads_34 : decode b_fl_leads 34 = .ok (.iconst 1, 1) := by decide +kernel
theorem d_fl_leads_35 : decode b_fl_leads 35 = .ok (.ireturn, 1) := by decide +kernel
theorem d_fl_leads_36 : decode b_fl_leads 36 = .ok (.iinc 3 1, 3) := by decide +kernel
theorem d_fl_leads_39 : decode b_fl_leads 39 = .ok (.goto (-27), 3) := by decide +kernel
theorem d_fl_leads_42 : decode b_fl_leads 42 = .ok (.iconst 0, 1) := by decide +kernel
theorem d_fl_leads_43 : decode b_fl_leads 43 = .ok (.ireturn, 1) := by decide +kernel
theorem d_ld_isNowhere_0 : decode b_ld_isNowhere 0 = .ok (.aload_n 0, 1) := by decide +kernel
theorem d_ld_isNowhere_1 : decode b_ld_isNowhere 1 = .ok (.getfield 20, 3) := by decide +kernel
theorem d_ld_isNowhere_4 : decode b_ld_isNowhere 4 = .ok (.iload_n 1, 1) := by decide +kernel
theorem d_ld_isNowhere_5 : decode b_ld_isNowhere 5 = .ok (.iaload, 1) := by decide +kernel
theorem d_ld_isNowhere_6 : decode b_ld_isNowhere 6 = .ok (.ifCond .ne 7, 3) := by decide +kernel
theorem d_ld_isNowhere_9 : decode b_ld_isNowhere 9 = .ok (.iconst 1, 1) := by decide +kernel
theorem d_ld_isNowhere_10 : decode b_ld_isNowhere 10 = .ok (.goto 4, 3) := by decide +kernel
theorem d_ld_isNowhere_13 : decode b_ld_isNowhere 13 = .ok (.iconst 0, 1) := by decide +kernel
theorem d_ld_isNowhere_14 : decode b_ld_isNowhere 14 = .ok (.ireturn, 1) := by decide +kernel
theorem d_ld_placeOf_0 : decode b_ld_placeOf 0 = .ok (.aload_n 0, 1) := by decide +kernel
theorem d_ld_placeOf_1 : decode b_ld_placeOf 1 = .ok (.getfield 11, 3) := by decide +kernel
theorem d_ld_placeOf_4 : decode b_ld_placeOf 4 = .ok (.iload_n 1, 1) := by decide +kernel
theorem d_ld_placeOf_5 : decode b_ld_placeOf 5 = .ok (.aaload, 1) := by decide +kernel
theorem d_ld_placeOf_6 : decode b_ld_placeOf 6 = .ok (.iload_n 2, 1) := by decide +kernel
theorem d_ld_placeOf_7 : decode b_ld_placeOf 7 = .ok (.aload_n 0, 1) := by decide +kernel
theorem d_ld_placeOf_8 : decode b_ld_placeOf 8 = .ok (.getfield 20, 3) := by decide +kernel
theorem d_ld_placeOf_11 : decode b_ld_placeOf 11 = .ok (.iload_n 1, 1) := by decide +kernel
theorem d_ld_placeOf_12 : decode b_ld_placeOf 12 = .ok (.iaload, 1) := by decide +kernel
theorem d_ld_placeOf_13 : decode b_ld_placeOf 13 = .ok (.iconst 1, 1) := by decide +kernel
theorem d_ld_placeOf_14 : decode b_ld_placeOf 14 = .ok (.isub, 1) := by decide +kernel
theorem d_ld_placeOf_15 : decode b_ld_placeOf 15 = .ok (.invokestatic 33, 3) := by decide +kernel
theorem d_ld_placeOf_18 : decode b_ld_placeOf 18 = .ok (.iaload, 1) := by decide +kernel
theorem d_ld_placeOf_19 : decode b_ld_placeOf 19 = .ok (.ireturn, 1) := by decide +kernel
theorem d_le_get_0 : decode b_le_get 0 = .ok (.aload_n 0, 1) := by decide +kernel
theorem d_le_get_1 : decode b_le_get 1 = .ok (.getfield 9, 3) := by decide +kernel
theorem d_le_get_4 : decode b_le_get 4 = .ok (.iload_n 1, 1) := by decide +kernel
theorem d_le_get_5 : decode b_le_get 5 = .ok (.iconst 4, 1) := by decide +kernel
theorem d_le_get_6 : decode b_le_get 6 = .ok (.ishr, 1) := by decide +kernel
theorem d_le_get_7 : decode b_le_get 7 = .ok (.laload, 1) := by decide +kernel
theorem d_le_get_8 : decode b_le_get 8 = .ok (.aload_n 0, 1) := by decide +kernel
theorem d_le_get_9 : decode b_le_get 9 = .ok (.iload_n 1, 1) := by decide +kernel
theorem d_le_get_10 : decode b_le_get 10 = .ok (.invokevirtual 21, 3) := by decide +kernel
theorem d_le_get_13 : decode b_le_get 13 = .ok (.lushr, 1) := by decide +kernel
theorem d_le_get_14 : decode b_le_get 14 = .ok (.l2i, 1) := by decide +kernel
theorem d_le_get_15 : decode b_le_get 15 = .ok (.bipush 15, 2) := by decide +kernel
theorem d_le_get_17 : decode b_le_get 17 = .ok (.iand, 1) := by decide +kernel
theorem d_le_get_18 : decode b_le_get 18 = .ok (.ireturn, 1) := by decide +kernel
theorem d_le_put_0 : decode b_le_put 0 = .ok (.aload_n 0, 1) := by decide +kernel
theorem d_le_put_1 : decode b_le_put 1 = .ok (.iload_n 1, 1) := by decide +kernel
theorem d_le_put_2 : decode b_le_put 2 = .ok (.invokevirtual 21, 3) := by decide +kernel
theorem d_le_put_5 : decode b_le_put 5 = .ok (.istore_n 3, 1) := by decide +kernel
theorem d_le_put_6 : decode b_le_put 6 = .ok (.aload_n 0, 1) := by decide +kernel
theorem d_le_put_7 : decode b_le_put 7 = .ok (.getfield 9, 3) := by decide +kernel
theorem d_le_put_10 : decode b_le_put 10 = .ok (.iload_n 1, 1) := by decide +kernel
theorem d_le_put_11 : decode b_le_put 11 = .ok (.iconst 4, 1) := by decide +kernel
theorem d_le_put_12 : decode b_le_put 12 = .ok (.ishr, 1) := by decide +kernel
theorem d_le_put_13 : decode b_le_put 13 = .ok (.aload_n 0, 1) := by decide +kernel
theorem d_le_put_14 : decode b_le_put 14 = .ok (.getfield 9, 3) := by decide +kernel
theorem d_le_put_17 : decode b_le_put 17 = .ok (.iload_n 1, 1) := by decide +kernel
theorem d_le_put_18 : decode b_le_put 18 = .ok (.iconst 4, 1) := by decide +kernel
theorem d_le_put_19 : decode b_le_put 19 = .ok (.ishr, 1) := by decide +kernel
theorem d_le_put_20 : decode b_le_put 20 = .ok (.laload, 1) := by decide +kernel
theorem d_le_put_21 : decode b_le_put 21 = .ok (.ldc2_w 25, 3) := by decide +kernel
theorem d_le_put_24 : decode b_le_put 24 = .ok (.iload_n 3, 1) := by decide +kernel
theorem d_le_put_25 : decode b_le_put 25 = .ok (.lshl, 1) := by decide +kernel
theorem d_le_put_26 : decode b_le_put 26 = .ok (.ldc2_w 27, 3) := by decide +kernel
theorem d_le_put_29 : decode b_le_put 29 = .ok (.lxor, 1) := by decide +kernel
theorem d_le_put_30 : decode b_le_put 30 = .ok (.land, 1) := by decide +kernel
theorem d_le_put_31 : decode b_le_put 31 = .ok (.iload_n 2, 1) := by decide +kernel
theorem d_le_put_32 : decode b_le_put 32 = .ok (.i2l, 1) := by decide +kernel
theorem d_le_put_33 : decode b_le_put 33 = .ok (.iload_n 3, 1) := by decide +kernel
theorem d_le_put_34 : decode b_le_put 34 = .ok (.lshl, 1) := by decide +kernel
theorem d_le_put_35 : decode b_le_put 35 = .ok (.lor, 1) := by decide +kernel
theorem d_le_put_36 : decode b_le_put 36 = .ok (.lastore, 1) := by decide +kernel
theorem d_le_put_37 : decode b_le_put 37 = .ok (.return_, 1) := by decide +kernel
theorem d_le_shiftOf_0 : decode b_le_shiftOf 0 = .ok (.iload_n 1, 1) := by decide +kernel
theorem d_le_shiftOf_1 : decode b_le_shiftOf 1 = .ok (.bipush 15, 2) := by decide +kernel
theorem d_le_shiftOf_3 : decode b_le_shiftOf 3 = .ok (.iand, 1) := by decide +kernel
theorem d_le_shiftOf_4 : decode b_le_shiftOf 4 = .ok (.iconst 4, 1) := by decide +kernel
theorem d_le_shiftOf_5 : decode b_le_shiftOf 5 = .ok (.imul, 1) := by decide +kernel
theorem d_le_shiftOf_6 : decode b_le_shiftOf 6 = .ok (.ireturn, 1) := by decide +kernel
theorem d_pn_costOf_0 : decode b_pn_costOf 0 = .ok (.aload_n 0, 1) := by decide +kernel
theorem d_pn_costOf_1 : decode b_pn_costOf 1 = .ok (.iload_n 1, 1) := by decide +kernel
theorem d_pn_costOf_2 : decode b_pn_costOf 2 = .ok (.aload_n 0, 1) := by decide +kernel
theorem d_pn_costOf_3 : decode b_pn_costOf 3 = .ok (.getfield 68, 3) := by decide +kernel
theorem d_pn_costOf_6 : decode b_pn_costOf 6 = .ok (.invokevirtual 71, 3) := by decide +kernel
theorem d_pn_costOf_9 : decode b_pn_costOf 9 = .ok (.ireturn, 1) := by decide +kernel
theorem d_pn_placeOf_0 : decode b_pn_placeOf 0 = .ok (.aload_n 0, 1) := by decide +kernel
theorem d_pn_placeOf_1 : decode b_pn_placeOf 1 = .ok (.getfield 27, 3) := by decide +kernel
theorem d_pn_placeOf_4 : decode b_pn_placeOf 4 = .ok (.iload_n 2, 1) := by decide +kernel
theorem d_pn_placeOf_5 : decode b_pn_placeOf 5 = .ok (.aload_n 0, 1) := by decide +kernel
theorem d_pn_placeOf_6 : decode b_pn_placeOf 6 = .ok (.getfield 68, 3) := by decide +kernel
theorem d_pn_placeOf_9 : decode b_pn_placeOf 9 = .ok (.invokestatic 75, 3) := by decide +kernel
theorem d_pn_placeOf_12 : decode b_pn_placeOf 12 = .ok (.aaload, 1) := by decide +kernel
theorem d_pn_placeOf_13 : decode b_pn_placeOf 13 = .ok (.iload_n 1, 1) := by decide +kernel
theorem d_pn_placeOf_14 : decode b_pn_placeOf 14 = .ok (.iaload, 1) := by decide +kernel
theorem d_pn_placeOf_15 : decode b_pn_placeOf 15 = .ok (.ireturn, 1) := by decide +kernel
theorem d_pn_chooseNext_0 : decode b_pn_chooseNext 0 = .ok (.iload_n 2, 1) := by decide +kernel
theorem d_pn_chooseNext_1 : decode b_pn_chooseNext 1 = .ok (.aload_n 0, 1) := by decide +kernel
theorem d_pn_chooseNext_2 : decode b_pn_chooseNext 2 = .ok (.getfield 34, 3) := by decide +kernel
theorem d_pn_chooseNext_5 : decode b_pn_chooseNext 5 = .ok (.getfield 83, 3) := by decide +kernel
theorem d_pn_chooseNext_8 : decode b_pn_chooseNext 8 = .ok (.if_icmp .lt 15, 3) := by decide +kernel
theorem d_pn_chooseNext_11 : decode b_pn_chooseNext 11 = .ok (.aload_n 0, 1) := by decide +kernel
theorem d_pn_chooseNext_12 : decode b_pn_chooseNext 12 = .ok (.iload_n 1, 1) := by decide +kernel
theorem d_pn_chooseNext_13 : decode b_pn_chooseNext 13 = .ok (.iconst 1, 1) := by decide +kernel
theorem d_pn_chooseNext_14 : decode b_pn_chooseNext 14 = .ok (.iadd, 1) := by decide +kernel
theorem d_pn_chooseNext_15 : decode b_pn_chooseNext 15 = .ok (.aload_n 0, 1) := by decide +kernel
theorem d_pn_chooseNext_16 : decode b_pn_chooseNext 16 = .ok (.getfield 62, 3) := by decide +kernel
theorem d_pn_chooseNext_19 : decode b_pn_chooseNext 19 = .ok (.invokevirtual 58, 3) := by decide +kernel
theorem d_pn_chooseNext_22 : decode b_pn_chooseNext 22 = .ok (.ireturn, 1) := by decide +kernel
theorem d_pn_chooseNext_23 : decode b_pn_chooseNext 23 = .ok (.aload_n 0, 1) := by decide +kernel
theorem d_pn_chooseNext_24 : decode b_pn_chooseNext 24 = .ok (.getfield 27, 3) := by decide +kernel
theorem d_pn_chooseNext_27 : decode b_pn_chooseNext 27 = .ok (.iload_n 1, 1) := by decide +kernel
theorem d_pn_chooseNext_28 : decode b_pn_chooseNext 28 = .ok (.aaload, 1) := by decide +kernel
theorem d_pn_chooseNext_29 : decode b_pn_chooseNext 29 = .ok (.iload_n 2, 1) := by decide +kernel
theorem d_pn_chooseNext_30 : decode b_pn_chooseNext 30 = .ok (.iaload, 1) := by decide +kernel
theorem d_pn_chooseNext_31 : decode b_pn_chooseNext 31 = .ok (.istore_n 3, 1) := by decide +kernel
theorem d_pn_chooseNext_32 : decode b_pn_chooseNext 32 = .ok (.iconst 0, 1) := by decide +kernel
theorem d_pn_chooseNext_33 : decode b_pn_chooseNext 33 = .ok (.istore 4, 2) := by decide +kernel
theorem d_pn_chooseNext_35 : decode b_pn_chooseNext 35 = .ok (.iload 4, 2) := by decide +kernel
theorem d_pn_chooseNext_37 : decode b_pn_chooseNext 37 = .ok (.aload_n 0, 1) := by decide +kernel
theorem d_pn_chooseNext_38 : decode b_pn_chooseNext 38 = .ok (.getfield 30, 3) := by decide +kernel
theorem d_pn_chooseNext_41 : decode b_pn_chooseNext 41 = .ok (.getfield 99, 3) := by decide +kernel
theorem d_pn_chooseNext_44 : decode b_pn_chooseNext 44 = .ok (.iload_n 3, 1) := by decide +kernel
theorem d_pn_chooseNext_45 : decode b_pn_chooseNext 45 = .ok (.iaload, 1) := by decide +kernel
theorem d_pn_chooseNext_46 : decode b_pn_chooseNext 46 = .ok (.if_icmp .ge 55, 3) := by decide +kernel
theorem d_pn_chooseNext_49 : decode b_pn_chooseNext 49 = .ok (.aload_n 0, 1) := by decide +kernel
theorem d_pn_chooseNext_50 : decode b_pn_chooseNext 50 = .ok (.getfield 27, 3) := by decide +kernel
theorem d_pn_chooseNext_53 : decode b_pn_chooseNext 53 = .ok (.iload_n 1, 1) := by decide +kernel
theorem d_pn_chooseNext_54 : decode b_pn_chooseNext 54 = .ok (.aaload, 1) := by decide +kernel
theorem d_pn_chooseNext_55 : decode b_pn_chooseNext 55 = .ok (.aload_n 0, 1) := by decide +kernel
theorem d_pn_chooseNext_56 : decode b_pn_chooseNext 56 = .ok (.getfield 27, 3) := by decide +kernel
theorem d_pn_chooseNext_59 : decode b_pn_chooseNext 59 = .ok (.iload_n 1, 1) := by decide +kernel
theorem d_pn_chooseNext_60 : decode b_pn_chooseNext 60 = .ok (.iconst 1, 1) := by decide +kernel
theorem d_pn_chooseNext_61 : decode b_pn_chooseNext 61 = .ok (.iadd, 1) := by decide +kernel
theorem d_pn_chooseNext_62 : decode b_pn_chooseNext 62 = .ok (.aaload, 1) := by decide +kernel
theorem d_pn_chooseNext_63 : decode b_pn_chooseNext 63 = .ok (.iload_n 2, 1) := by decide +kernel
theorem d_pn_chooseNext_64 : decode b_pn_chooseNext 64 = .ok (.aload_n 0, 1) := by decide +kernel
theorem d_pn_chooseNext_65 : decode b_pn_chooseNext 65 = .ok (.getfield 30, 3) := by decide +kernel
theorem d_pn_chooseNext_68 : decode b_pn_chooseNext 68 = .ok (.getfield 104, 3) := by decide +kernel
theorem d_pn_chooseNext_71 : decode b_pn_chooseNext 71 = .ok (.iload_n 3, 1) := by decide +kernel
theorem d_pn_chooseNext_72 : decode b_pn_chooseNext 72 = .ok (.aaload, 1) := by decide +kernel
theorem d_pn_chooseNext_73 : decode b_pn_chooseNext 73 = .ok (.iload 4, 2) := by decide +kernel
theorem d_pn_chooseNext_75 : decode b_pn_chooseNext 75 = .ok (.iaload, 1) := by decide +kernel
theorem d_pn_chooseNext_76 : decode b_pn_chooseNext 76 = .ok (.invokestatic 107, 3) := by decide +kernel
theorem d_pn_chooseNext_79 : decode b_pn_chooseNext 79 = .ok (.ifCond .eq 16, 3) := by decide +kernel
theorem d_pn_chooseNext_82 : decode b_pn_chooseNext 82 = .ok (.aload_n 0, 1) := by decide +kernel
theorem d_pn_chooseNext_83 : decode b_pn_chooseNext 83 = .ok (.iload_n 1, 1) := by decide +kernel
theorem d_pn_chooseNext_84 : decode b_pn_chooseNext 84 = .ok (.iload_n 2, 1) := by decide +kernel
theorem d_pn_chooseNext_85 : decode b_pn_chooseNext 85 = .ok (.iconst 1, 1) := by decide +kernel
theorem d_pn_chooseNext_86 : decode b_pn_chooseNext 86 = .ok (.iadd, 1) := by decide +kernel
theorem d_pn_chooseNext_87 : decode b_pn_chooseNext 87 = .ok (.invokevirtual 93, 3) := by decide +kernel
theorem d_pn_chooseNext_90 : decode b_pn_chooseNext 90 = .ok (.ifCond .eq 5, 3) := by decide +kernel
theorem d_pn_chooseNext_93 : decode b_pn_chooseNext 93 = .ok (.iconst 1, 1) := by decide +kernel
theorem d_pn_chooseNext_94 : decode b_pn_chooseNext 94 = .ok (.ireturn, 1) := by decide +kernel
theorem d_pn_chooseNext_95 : decode b_pn_chooseNext 95 = .ok (.iinc 4 1, 3) := by decide +kernel
theorem d_pn_chooseNext_98 : decode b_pn_chooseNext 98 = .ok (.goto (-63), 3) := by decide +kernel
theorem d_pn_chooseNext_101 : decode b_pn_chooseNext 101 = .ok (.iconst 0, 1) := by decide +kernel
theorem d_pn_chooseNext_102 : decode b_pn_chooseNext 102 = .ok (.ireturn, 1) := by decide +kernel
theorem d_pn_homeSince_0 : decode b_pn_homeSince 0 = .ok (.iload_n 2, 1) := by decide +kernel
theorem d_pn_homeSince_1 : decode b_pn_homeSince 1 = .ok (.istore_n 3, 1) := by decide +kernel
theorem d_pn_homeSince_2 : decode b_pn_homeSince 2 = .ok (.iload_n 3, 1) := by decide +kernel
theorem d_pn_homeSince_3 : decode b_pn_homeSince 3 = .ok (.ifCond .le 31, 3) := by decide +kernel
theorem d_pn_homeSince_6 : decode b_pn_homeSince 6 = .ok (.aload_n 0, 1) := by decide +kernel
theorem d_pn_homeSince_7 : decode b_pn_homeSince 7 = .ok (.getfield 27, 3) := by decide +kernel
theorem d_pn_homeSince_10 : decode b_pn_homeSince 10 = .ok (.iload_n 3, 1) := by decide +kernel
theorem d_pn_homeSince_11 : decode b_pn_homeSince 11 = .ok (.iconst 1, 1) := by decide +kernel
theorem d_pn_homeSince_12 : decode b_pn_homeSince 12 = .ok (.isub, 1) := by decide +kernel
theorem d_pn_homeSince_13 : decode b_pn_homeSince 13 = .ok (.aaload, 1) := by decide +kernel
theorem d_pn_homeSince_14 : decode b_pn_homeSince 14 = .ok (.iload_n 1, 1) := by decide +kernel
theorem d_pn_homeSince_15 : decode b_pn_homeSince 15 = .ok (.iaload, 1) := by decide +kernel
theorem d_pn_homeSince_16 : decode b_pn_homeSince 16 = .ok (.aload_n 0, 1) := by decide +kernel
theorem d_pn_homeSince_17 : decode b_pn_homeSince 17 = .ok (.getfield 34, 3) := by decide +kernel
theorem d_pn_homeSince_20 : decode b_pn_homeSince 20 = .ok (.getfield 96, 3) := by decide +kernel
theorem d_pn_homeSince_23 : decode b_pn_homeSince 23 = .ok (.iload_n 1, 1) := by decide +kernel
theorem d_pn_homeSince_24 : decode b_pn_homeSince 24 = .ok (.iaload, 1) := by decide +kernel
theorem d_pn_homeSince_25 : decode b_pn_homeSince 25 = .ok (.if_icmp .ne 9, 3) := by decide +kernel
theorem d_pn_homeSince_28 : decode b_pn_homeSince 28 = .ok (.iinc 3 (-1), 3) := by decide +kernel
theorem d_pn_homeSince_31 : decode b_pn_homeSince 31 = .ok (.goto (-29), 3) := by decide +kernel
theorem d_pn_homeSince_34 : decode b_pn_homeSince 34 = .ok (.iload_n 3, 1) := by decide +kernel
theorem d_pn_homeSince_35 : decode b_pn_homeSince 35 = .ok (.ireturn, 1) := by decide +kernel
theorem d_pn_wayLeft_0 : decode b_pn_wayLeft 0 = .ok (.iload_n 2, 1) := by decide +kernel
theorem d_pn_wayLeft_1 : decode b_pn_wayLeft 1 = .ok (.aload_n 0, 1) := by decide +kernel
theorem d_pn_wayLeft_2 : decode b_pn_wayLeft 2 = .ok (.getfield 34, 3) := by decide +kernel
theorem d_pn_wayLeft_5 : decode b_pn_wayLeft 5 = .ok (.getfield 96, 3) := by decide +kernel
theorem d_pn_wayLeft_8 : decode b_pn_wayLeft 8 = .ok (.iload_n 1, 1) := by decide +kernel
theorem d_pn_wayLeft_9 : decode b_pn_wayLeft 9 = .ok (.iaload, 1) := by decide +kernel
theorem d_pn_wayLeft_10 : decode b_pn_wayLeft 10 = .ok (.if_icmp .ne 7, 3) := by decide +kernel
theorem d_pn_wayLeft_13 : decode b_pn_wayLeft 13 = .ok (.iconst 2, 1) := by decide +kernel
theorem d_pn_wayLeft_14 : decode b_pn_wayLeft 14 = .ok (.goto 14, 3) := by decide +kernel
theorem d_pn_wayLeft_17 : decode b_pn_wayLeft 17 = .ok (.aload_n 0, 1) := by decide +kernel
theorem d_pn_wayLeft_18 : decode b_pn_wayLeft 18 = .ok (.getfield 34, 3) := by decide +kernel
theorem d_pn_wayLeft_21 : decode b_pn_wayLeft 21 = .ok (.getfield 124, 3) := by decide +kernel
theorem d_pn_wayLeft_24 : decode b_pn_wayLeft 24 = .ok (.iload_n 1, 1) := by decide +kernel
theorem d_pn_wayLeft_25 : decode b_pn_wayLeft 25 = .ok (.aaload, 1) := by decide +kernel
theorem d_pn_wayLeft_26 : decode b_pn_wayLeft 26 = .ok (.iload_n 2, 1) := by decide +kernel
