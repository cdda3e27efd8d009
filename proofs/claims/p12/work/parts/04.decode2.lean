theorem d_pn_reachesEnd_63 : decode b_pn_reachesEnd 63 = .ok (.iconst 1, 1) := by decide +kernel
theorem d_pn_reachesEnd_64 : decode b_pn_reachesEnd 64 = .ok (.ireturn, 1) := by decide +kernel
theorem d_pn_reachesEnd_65 : decode b_pn_reachesEnd 65 = .ok (.aload_n 0, 1) := by decide +kernel
theorem d_pn_reachesEnd_66 : decode b_pn_reachesEnd 66 = .ok (.getfield 12, 3) := by decide +kernel
theorem d_pn_reachesEnd_69 : decode b_pn_reachesEnd 69 = .ok (.iload_n 3, 1) := by decide +kernel
theorem d_pn_reachesEnd_70 : decode b_pn_reachesEnd 70 = .ok (.iload_n 2, 1) := by decide +kernel
theorem d_pn_reachesEnd_71 : decode b_pn_reachesEnd 71 = .ok (.iconst 1, 1) := by decide +kernel
theorem d_pn_reachesEnd_72 : decode b_pn_reachesEnd 72 = .ok (.iadd, 1) := by decide +kernel
theorem d_pn_reachesEnd_73 : decode b_pn_reachesEnd 73 = .ok (.invokevirtual 138, 3) := by decide +kernel
theorem d_pn_reachesEnd_76 : decode b_pn_reachesEnd 76 = .ok (.iconst 0, 1) := by decide +kernel
theorem d_pn_reachesEnd_77 : decode b_pn_reachesEnd 77 = .ok (.ireturn, 1) := by decide +kernel
theorem d_pn_layOut_0 : decode b_pn_layOut 0 = .ok (.aload_n 0, 1) := by decide +kernel
theorem d_pn_layOut_1 : decode b_pn_layOut 1 = .ok (.iconst 0, 1) := by decide +kernel
theorem d_pn_layOut_2 : decode b_pn_layOut 2 = .ok (.putfield 68, 3) := by decide +kernel
theorem d_pn_layOut_5 : decode b_pn_layOut 5 = .ok (.aload_n 0, 1) := by decide +kernel
theorem d_pn_layOut_6 : decode b_pn_layOut 6 = .ok (.getfield 68, 3) := by decide +kernel
theorem d_pn_layOut_9 : decode b_pn_layOut 9 = .ok (.bipush 31, 2) := by decide +kernel
theorem d_pn_layOut_11 : decode b_pn_layOut 11 = .ok (.if_icmp .ge 37, 3) := by decide +kernel
theorem d_pn_layOut_14 : decode b_pn_layOut 14 = .ok (.aload_n 0, 1) := by decide +kernel
theorem d_pn_layOut_15 : decode b_pn_layOut 15 = .ok (.aload_n 0, 1) := by decide +kernel
theorem d_pn_layOut_16 : decode b_pn_layOut 16 = .ok (.getfield 68, 3) := by decide +kernel
theorem d_pn_layOut_19 : decode b_pn_layOut 19 = .ok (.invokevirtual 89, 3) := by decide +kernel
theorem d_pn_layOut_22 : decode b_pn_layOut 22 = .ok (.ifCond .ne 26, 3) := by decide +kernel
theorem d_pn_layOut_25 : decode b_pn_layOut 25 = .ok (.aload_n 0, 1) := by decide +kernel
theorem d_pn_layOut_26 : decode b_pn_layOut 26 = .ok (.aload_n 0, 1) := by decide +kernel
theorem d_pn_layOut_27 : decode b_pn_layOut 27 = .ok (.getfield 68, 3) := by decide +kernel
theorem d_pn_layOut_30 : decode b_pn_layOut 30 = .ok (.iconst 0, 1) := by decide +kernel
theorem d_pn_layOut_31 : decode b_pn_layOut 31 = .ok (.invokevirtual 93, 3) := by decide +kernel
theorem d_pn_layOut_34 : decode b_pn_layOut 34 = .ok (.pop, 1) := by decide +kernel
theorem d_pn_layOut_35 : decode b_pn_layOut 35 = .ok (.aload_n 0, 1) := by decide +kernel
theorem d_pn_layOut_36 : decode b_pn_layOut 36 = .ok (.dup, 1) := by decide +kernel
theorem d_pn_layOut_37 : decode b_pn_layOut 37 = .ok (.getfield 68, 3) := by decide +kernel
theorem d_pn_layOut_40 : decode b_pn_layOut 40 = .ok (.iconst 1, 1) := by decide +kernel
theorem d_pn_layOut_41 : decode b_pn_layOut 41 = .ok (.iadd, 1) := by decide +kernel
theorem d_pn_layOut_42 : decode b_pn_layOut 42 = .ok (.putfield 68, 3) := by decide +kernel
theorem d_pn_layOut_45 : decode b_pn_layOut 45 = .ok (.goto (-40), 3) := by decide +kernel
theorem d_pn_layOut_48 : decode b_pn_layOut 48 = .ok (.return_, 1) := by decide +kernel
theorem d_pn_isOver_0 : decode b_pn_isOver 0 = .ok (.iconst 0, 1) := by decide +kernel
theorem d_pn_isOver_1 : decode b_pn_isOver 1 = .ok (.istore_n 2, 1) := by decide +kernel
theorem d_pn_isOver_2 : decode b_pn_isOver 2 = .ok (.iload_n 2, 1) := by decide +kernel
theorem d_pn_isOver_3 : decode b_pn_isOver 3 = .ok (.aload_n 0, 1) := by decide +kernel
theorem d_pn_isOver_4 : decode b_pn_isOver 4 = .ok (.getfield 34, 3) := by decide +kernel
theorem d_pn_isOver_7 : decode b_pn_isOver 7 = .ok (.getfield 83, 3) := by decide +kernel
theorem d_pn_isOver_10 : decode b_pn_isOver 10 = .ok (.if_icmp .ge 31, 3) := by decide +kernel
theorem d_pn_isOver_13 : decode b_pn_isOver 13 = .ok (.aload_n 0, 1) := by decide +kernel
theorem d_pn_isOver_14 : decode b_pn_isOver 14 = .ok (.getfield 27, 3) := by decide +kernel
theorem d_pn_isOver_17 : decode b_pn_isOver 17 = .ok (.iload_n 1, 1) := by decide +kernel
theorem d_pn_isOver_18 : decode b_pn_isOver 18 = .ok (.aaload, 1) := by decide +kernel
theorem d_pn_isOver_19 : decode b_pn_isOver 19 = .ok (.iload_n 2, 1) := by decide +kernel
theorem d_pn_isOver_20 : decode b_pn_isOver 20 = .ok (.iaload, 1) := by decide +kernel
theorem d_pn_isOver_21 : decode b_pn_isOver 21 = .ok (.aload_n 0, 1) := by decide +kernel
theorem d_pn_isOver_22 : decode b_pn_isOver 22 = .ok (.getfield 34, 3) := by decide +kernel
theorem d_pn_isOver_25 : decode b_pn_isOver 25 = .ok (.getfield 96, 3) := by decide +kernel
theorem d_pn_isOver_28 : decode b_pn_isOver 28 = .ok (.iload_n 2, 1) := by decide +kernel
theorem d_pn_isOver_29 : decode b_pn_isOver 29 = .ok (.iaload, 1) := by decide +kernel
theorem d_pn_isOver_30 : decode b_pn_isOver 30 = .ok (.if_icmp .eq 5, 3) := by decide +kernel
theorem d_pn_isOver_33 : decode b_pn_isOver 33 = .ok (.iconst 0, 1) := by decide +kernel
theorem d_pn_isOver_34 : decode b_pn_isOver 34 = .ok (.ireturn, 1) := by decide +kernel
theorem d_pn_isOver_35 : decode b_pn_isOver 35 = .ok (.iinc 2 1, 3) := by decide +kernel
theorem d_pn_isOver_38 : decode b_pn_isOver 38 = .ok (.goto (-36), 3) := by decide +kernel
theorem d_pn_isOver_41 : decode b_pn_isOver 41 = .ok (.iconst 1, 1) := by decide +kernel
theorem d_pn_isOver_42 : decode b_pn_isOver 42 = .ok (.ireturn, 1) := by decide +kernel
theorem d_vd_init_0 : decode b_vd_init 0 = .ok (.aload_n 0, 1) := by decide +kernel
theorem d_vd_init_1 : decode b_vd_init 1 = .ok (.invokespecial 3, 3) := by decide +kernel
theorem d_vd_init_4 : decode b_vd_init 4 = .ok (.aload_n 0, 1) := by decide +kernel
theorem d_vd_init_5 : decode b_vd_init 5 = .ok (.aload_n 1, 1) := by decide +kernel
theorem d_vd_init_6 : decode b_vd_init 6 = .ok (.putfield 9, 3) := by decide +kernel
theorem d_vd_init_9 : decode b_vd_init 9 = .ok (.aload_n 0, 1) := by decide +kernel
theorem d_vd_init_10 : decode b_vd_init 10 = .ok (.aload_n 2, 1) := by decide +kernel
theorem d_vd_init_11 : decode b_vd_init 11 = .ok (.putfield 15, 3) := by decide +kernel
theorem d_vd_init_14 : decode b_vd_init 14 = .ok (.aload_n 0, 1) := by decide +kernel
theorem d_vd_init_15 : decode b_vd_init 15 = .ok (.aload_n 3, 1) := by decide +kernel
theorem d_vd_init_16 : decode b_vd_init 16 = .ok (.putfield 19, 3) := by decide +kernel
theorem d_vd_init_19 : decode b_vd_init 19 = .ok (.return_, 1) := by decide +kernel
theorem d_vd_seek_0 : decode b_vd_seek 0 = .ok (.aload_n 0, 1) := by decide +kernel
theorem d_vd_seek_1 : decode b_vd_seek 1 = .ok (.iconst 0, 1) := by decide +kernel
theorem d_vd_seek_2 : decode b_vd_seek 2 = .ok (.iconst (-1), 1) := by decide +kernel
theorem d_vd_seek_3 : decode b_vd_seek 3 = .ok (.iconst (-1), 1) := by decide +kernel
theorem d_vd_seek_4 : decode b_vd_seek 4 = .ok (.iconst (-1), 1) := by decide +kernel
theorem d_vd_seek_5 : decode b_vd_seek 5 = .ok (.invokevirtual 23, 3) := by decide +kernel
theorem d_vd_seek_8 : decode b_vd_seek 8 = .ok (.iconst 0, 1) := by decide +kernel
theorem d_vd_seek_9 : decode b_vd_seek 9 = .ok (.istore_n 1, 1) := by decide +kernel
theorem d_vd_seek_10 : decode b_vd_seek 10 = .ok (.iload_n 1, 1) := by decide +kernel
theorem d_vd_seek_11 : decode b_vd_seek 11 = .ok (.bipush 30, 2) := by decide +kernel
theorem d_vd_seek_13 : decode b_vd_seek 13 = .ok (.if_icmp .ge 51, 3) := by decide +kernel
theorem d_vd_seek_16 : decode b_vd_seek 16 = .ok (.aload_n 0, 1) := by decide +kernel
theorem d_vd_seek_17 : decode b_vd_seek 17 = .ok (.getfield 27, 3) := by decide +kernel
theorem d_vd_seek_20 : decode b_vd_seek 20 = .ok (.ifCond .ne 44, 3) := by decide +kernel
theorem d_vd_seek_23 : decode b_vd_seek 23 = .ok (.aload_n 0, 1) := by decide +kernel
theorem d_vd_seek_24 : decode b_vd_seek 24 = .ok (.iload_n 1, 1) := by decide +kernel
theorem d_vd_seek_25 : decode b_vd_seek 25 = .ok (.invokevirtual 31, 3) := by decide +kernel
theorem d_vd_seek_28 : decode b_vd_seek 28 = .ok (.aload_n 0, 1) := by decide +kernel
theorem d_vd_seek_29 : decode b_vd_seek 29 = .ok (.getfield 27, 3) := by decide +kernel
theorem d_vd_seek_32 : decode b_vd_seek 32 = .ok (.ifCond .ne 9, 3) := by decide +kernel
theorem d_vd_seek_35 : decode b_vd_seek 35 = .ok (.aload_n 0, 1) := by decide +kernel
theorem d_vd_seek_36 : decode b_vd_seek 36 = .ok (.iload_n 1, 1) := by decide +kernel
theorem d_vd_seek_37 : decode b_vd_seek 37 = .ok (.iconst 2, 1) := by decide +kernel
theorem d_vd_seek_38 : decode b_vd_seek 38 = .ok (.invokevirtual 35, 3) := by decide +kernel
theorem d_vd_seek_41 : decode b_vd_seek 41 = .ok (.aload_n 0, 1) := by decide +kernel
theorem d_vd_seek_42 : decode b_vd_seek 42 = .ok (.getfield 27, 3) := by decide +kernel
theorem d_vd_seek_45 : decode b_vd_seek 45 = .ok (.ifCond .ne 13, 3) := by decide +kernel
theorem d_vd_seek_48 : decode b_vd_seek 48 = .ok (.iload_n 1, 1) := by decide +kernel
theorem d_vd_seek_49 : decode b_vd_seek 49 = .ok (.ifCond .le 9, 3) := by decide +kernel
theorem d_vd_seek_52 : decode b_vd_seek 52 = .ok (.aload_n 0, 1) := by decide +kernel
theorem d_vd_seek_53 : decode b_vd_seek 53 = .ok (.iload_n 1, 1) := by decide +kernel
theorem d_vd_seek_54 : decode b_vd_seek 54 = .ok (.iconst 3, 1) := by decide +kernel
theorem d_vd_seek_55 : decode b_vd_seek 55 = .ok (.invokevirtual 35, 3) := by decide +kernel
theorem d_vd_seek_58 : decode b_vd_seek 58 = .ok (.iinc 1 1, 3) := by decide +kernel
theorem d_vd_seek_61 : decode b_vd_seek 61 = .ok (.goto (-51), 3) := by decide +kernel
theorem d_vd_seek_64 : decode b_vd_seek 64 = .ok (.return_, 1) := by decide +kernel
theorem d_vd_blame_0 : decode b_vd_blame 0 = .ok (.aload_n 0, 1) := by decide +kernel
theorem d_vd_blame_1 : decode b_vd_blame 1 = .ok (.iload_n 1, 1) := by decide +kernel
theorem d_vd_blame_2 : decode b_vd_blame 2 = .ok (.putfield 27, 3) := by decide +kernel
theorem d_vd_blame_5 : decode b_vd_blame 5 = .ok (.aload_n 0, 1) := by decide +kernel
theorem d_vd_blame_6 : decode b_vd_blame 6 = .ok (.iload_n 2, 1) := by decide +kernel
theorem d_vd_blame_7 : decode b_vd_blame 7 = .ok (.putfield 39, 3) := by decide +kernel
theorem d_vd_blame_10 : decode b_vd_blame 10 = .ok (.aload_n 0, 1) := by decide +kernel
theorem d_vd_blame_11 : decode b_vd_blame 11 = .ok (.iload_n 3, 1) := by decide +kernel
theorem d_vd_blame_12 : decode b_vd_blame 12 = .ok (.putfield 42, 3) := by decide +kernel
theorem d_vd_blame_15 : decode b_vd_blame 15 = .ok (.aload_n 0, 1) := by decide +kernel
theorem d_vd_blame_16 : decode b_vd_blame 16 = .ok (.iload 4, 2) := by decide +kernel
theorem d_vd_blame_18 : decode b_vd_blame 18 = .ok (.putfield 45, 3) := by decide +kernel
theorem d_vd_blame_21 : decode b_vd_blame 21 = .ok (.return_, 1) := by decide +kernel
theorem d_vd_seekStrayed_0 : decode b_vd_seekStrayed 0 = .ok (.iconst 0, 1) := by decide +kernel
theorem d_vd_seekStrayed_1 : decode b_vd_seekStrayed 1 = .ok (.istore_n 2, 1) := by decide +kernel
theorem d_vd_seekStrayed_2 : decode b_vd_seekStrayed 2 = .ok (.iload_n 2, 1) := by decide +kernel
theorem d_vd_seekStrayed_3 : decode b_vd_seekStrayed 3 = .ok (.aload_n 0, 1) := by decide +kernel
theorem d_vd_seekStrayed_4 : decode b_vd_seekStrayed 4 = .ok (.getfield 15, 3) := by decide +kernel
theorem d_vd_seekStrayed_7 : decode b_vd_seekStrayed 7 = .ok (.getfield 48, 3) := by decide +kernel
theorem d_vd_seekStrayed_10 : decode b_vd_seekStrayed 10 = .ok (.if_icmp .ge 27, 3) := by decide +kernel
theorem d_vd_seekStrayed_13 : decode b_vd_seekStrayed 13 = .ok (.aload_n 0, 1) := by decide +kernel
theorem d_vd_seekStrayed_14 : decode b_vd_seekStrayed 14 = .ok (.iload_n 2, 1) := by decide +kernel
theorem d_vd_seekStrayed_15 : decode b_vd_seekStrayed 15 = .ok (.iload_n 1, 1) := by decide +kernel
theorem d_vd_seekStrayed_16 : decode b_vd_seekStrayed 16 = .ok (.invokevirtual 53, 3) := by decide +kernel
theorem d_vd_seekStrayed_19 : decode b_vd_seekStrayed 19 = .ok (.ifCond .eq 12, 3) := by decide +kernel
theorem d_vd_seekStrayed_22 : decode b_vd_seekStrayed 22 = .ok (.aload_n 0, 1) := by decide +kernel
theorem d_vd_seekStrayed_23 : decode b_vd_seekStrayed 23 = .ok (.iconst 1, 1) := by decide +kernel
theorem d_vd_seekStrayed_24 : decode b_vd_seekStrayed 24 = .ok (.iload_n 1, 1) := by decide +kernel
theorem d_vd_seekStrayed_25 : decode b_vd_seekStrayed 25 = .ok (.iload_n 2, 1) := by decide +kernel
theorem d_vd_seekStrayed_26 : decode b_vd_seekStrayed 26 = .ok (.iconst (-1), 1) := by decide +kernel
theorem d_vd_seekStrayed_27 : decode b_vd_seekStrayed 27 = .ok (.invokevirtual 23, 3) := by decide +kernel
theorem d_vd_seekStrayed_30 : decode b_vd_seekStrayed 30 = .ok (.return_, 1) := by decide +kernel
theorem d_vd_seekStrayed_31 : decode b_vd_seekStrayed 31 = .ok (.iinc 2 1, 3) := by decide +kernel
theorem d_vd_seekStrayed_34 : decode b_vd_seekStrayed 34 = .ok (.goto (-32), 3) := by decide +kernel
theorem d_vd_seekStrayed_37 : decode b_vd_seekStrayed 37 = .ok (.return_, 1) := by decide +kernel
theorem d_vd_seekMeeting_0 : decode b_vd_seekMeeting 0 = .ok (.iconst 0, 1) := by decide +kernel
theorem d_vd_seekMeeting_1 : decode b_vd_seekMeeting 1 = .ok (.istore_n 3, 1) := by decide +kernel
theorem d_vd_seekMeeting_2 : decode b_vd_seekMeeting 2 = .ok (.iload_n 3, 1) := by decide +kernel
theorem d_vd_seekMeeting_3 : decode b_vd_seekMeeting 3 = .ok (.aload_n 0, 1) := by decide +kernel
theorem d_vd_seekMeeting_4 : decode b_vd_seekMeeting 4 = .ok (.getfield 15, 3) := by decide +kernel
theorem d_vd_seekMeeting_7 : decode b_vd_seekMeeting 7 = .ok (.getfield 48, 3) := by decide +kernel
theorem d_vd_seekMeeting_10 : decode b_vd_seekMeeting 10 = .ok (.if_icmp .ge 72, 3) := by decide +kernel
theorem d_vd_seekMeeting_13 : decode b_vd_seekMeeting 13 = .ok (.iload_n 3, 1) := by decide +kernel
theorem d_vd_seekMeeting_14 : decode b_vd_seekMeeting 14 = .ok (.iconst 1, 1) := by decide +kernel
theorem d_vd_seekMeeting_15 : decode b_vd_seekMeeting 15 = .ok (.iadd, 1) := by decide +kernel
theorem d_vd_seekMeeting_16 : decode b_vd_seekMeeting 16 = .ok (.istore 4, 2) := by decide +kernel
theorem d_vd_seekMeeting_18 : decode b_vd_seekMeeting 18 = .ok (.iload 4, 2) := by decide +kernel
theorem d_vd_seekMeeting_20 : decode b_vd_seekMeeting 20 = .ok (.aload_n 0, 1) := by decide +kernel
theorem d_vd_seekMeeting_21 : decode b_vd_seekMeeting 21 = .ok (.getfield 15, 3) := by decide +kernel
theorem d_vd_seekMeeting_24 : decode b_vd_seekMeeting 24 = .ok (.getfield 48, 3) := by decide +kernel
theorem d_vd_seekMeeting_27 : decode b_vd_seekMeeting 27 = .ok (.if_icmp .ge 49, 3) := by decide +kernel
theorem d_vd_seekMeeting_30 : decode b_vd_seekMeeting 30 = .ok (.iload_n 2, 1) := by decide +kernel
theorem d_vd_seekMeeting_31 : decode b_vd_seekMeeting 31 = .ok (.iconst 2, 1) := by decide +kernel
theorem d_vd_seekMeeting_32 : decode b_vd_seekMeeting 32 = .ok (.if_icmp .ne 17, 3) := by decide +kernel
theorem d_vd_seekMeeting_35 : decode b_vd_seekMeeting 35 = .ok (.aload_n 0, 1) := by decide +kernel
theorem d_vd_seekMeeting_36 : decode b_vd_seekMeeting 36 = .ok (.iload_n 3, 1) := by decide +kernel
theorem d_vd_seekMeeting_37 : decode b_vd_seekMeeting 37 = .ok (.iload 4, 2) := by decide +kernel
theorem d_vd_seekMeeting_39 : decode b_vd_seekMeeting 39 = .ok (.iload_n 1, 1) := by decide +kernel
theorem d_vd_seekMeeting_40 : decode b_vd_seekMeeting 40 = .ok (.invokevirtual 79, 3) := by decide +kernel
theorem d_vd_seekMeeting_43 : decode b_vd_seekMeeting 43 = .ok (.ifCond .eq 27, 3) := by decide +kernel
theorem d_vd_seekMeeting_46 : decode b_vd_seekMeeting 46 = .ok (.goto 14, 3) := by decide +kernel
theorem d_vd_seekMeeting_49 : decode b_vd_seekMeeting 49 = .ok (.aload_n 0, 1) := by decide +kernel
theorem d_vd_seekMeeting_50 : decode b_vd_seekMeeting 50 = .ok (.iload_n 3, 1) := by decide +kernel
theorem d_vd_seekMeeting_51 : decode b_vd_seekMeeting 51 = .ok (.iload 4, 2) := by decide +kernel
theorem d_vd_seekMeeting_53 : decode b_vd_seekMeeting 53 = .ok (.iload_n 1, 1) := by decide +kernel
theorem d_vd_seekMeeting_54 : decode b_vd_seekMeeting 54 = .ok (.invokevirtual 83, 3) := by decide +kernel
theorem d_vd_seekMeeting_57 : decode b_vd_seekMeeting 57 = .ok (.ifCond .eq 13, 3) := by decide +kernel
theorem d_vd_seekMeeting_60 : decode b_vd_seekMeeting 60 = .ok (.aload_n 0, 1) := by decide +kernel
theorem d_vd_seekMeeting_61 : decode b_vd_seekMeeting 61 = .ok (.iload_n 2, 1) := by decide +kernel
theorem d_vd_seekMeeting_62 : decode b_vd_seekMeeting 62 = .ok (.iload_n 1, 1) := by decide +kernel
theorem d_vd_seekMeeting_63 : decode b_vd_seekMeeting 63 = .ok (.iload_n 3, 1) := by decide +kernel
theorem d_vd_seekMeeting_64 : decode b_vd_seekMeeting 64 = .ok (.iload 4, 2) := by decide +kernel
theorem d_vd_seekMeeting_66 : decode b_vd_seekMeeting 66 = .ok (.invokevirtual 23, 3) := by decide +kernel
theorem d_vd_seekMeeting_69 : decode b_vd_seekMeeting 69 = .ok (.return_, 1) := by decide +kernel
theorem d_vd_seekMeeting_70 : decode b_vd_seekMeeting 70 = .ok (.iinc 4 1, 3) := by decide +kernel
theorem d_vd_seekMeeting_73 : decode b_vd_seekMeeting 73 = .ok (.goto (-55), 3) := by decide +kernel
theorem d_vd_seekMeeting_76 : decode b_vd_seekMeeting 76 = .ok (.iinc 3 1, 3) := by decide +kernel
theorem d_vd_seekMeeting_79 : decode b_vd_seekMeeting 79 = .ok (.goto (-77), 3) := by decide +kernel
theorem d_vd_seekMeeting_82 : decode b_vd_seekMeeting 82 = .ok (.return_, 1) := by decide +kernel
theorem d_mr_init_0 : decode b_mr_init 0 = .ok (.aload_n 0, 1) := by decide +kernel
theorem d_mr_init_1 : decode b_mr_init 1 = .ok (.invokespecial 3, 3) := by decide +kernel
theorem d_mr_init_4 : decode b_mr_init 4 = .ok (.aload_n 0, 1) := by decide +kernel
theorem d_mr_init_5 : decode b_mr_init 5 = .ok (.new 9, 3) := by decide +kernel
theorem d_mr_init_8 : decode b_mr_init 8 = .ok (.dup, 1) := by decide +kernel
theorem d_mr_init_9 : decode b_mr_init 9 = .ok (.invokespecial 11, 3) := by decide +kernel
theorem d_mr_init_12 : decode b_mr_init 12 = .ok (.putfield 12, 3) := by decide +kernel
theorem d_mr_init_15 : decode b_mr_init 15 = .ok (.aload_n 0, 1) := by decide +kernel
theorem d_mr_init_16 : decode b_mr_init 16 = .ok (.new 16, 3) := by decide +kernel
theorem d_mr_init_19 : decode b_mr_init 19 = .ok (.dup, 1) := by decide +kernel
theorem d_mr_init_20 : decode b_mr_init 20 = .ok (.aload_n 0, 1) := by decide +kernel
theorem d_mr_init_21 : decode b_mr_init 21 = .ok (.getfield 12, 3) := by decide +kernel
theorem d_mr_init_24 : decode b_mr_init 24 = .ok (.invokespecial 18, 3) := by decide +kernel
theorem d_mr_init_27 : decode b_mr_init 27 = .ok (.putfield 21, 3) := by decide +kernel
theorem d_mr_init_30 : decode b_mr_init 30 = .ok (.aload_n 0, 1) := by decide +kernel
theorem d_mr_init_31 : decode b_mr_init 31 = .ok (.new 25, 3) := by decide +kernel
theorem d_mr_init_34 : decode b_mr_init 34 = .ok (.dup, 1) := by decide +kernel
theorem d_mr_init_35 : decode b_mr_init 35 = .ok (.aload_n 0, 1) := by decide +kernel
theorem d_mr_init_36 : decode b_mr_init 36 = .ok (.getfield 12, 3) := by decide +kernel
theorem d_mr_init_39 : decode b_mr_init 39 = .ok (.aload_n 0, 1) := by decide +kernel
theorem d_mr_init_40 : decode b_mr_init 40 = .ok (.getfield 21, 3) := by decide +kernel
theorem d_mr_init_43 : decode b_mr_init 43 = .ok (.invokespecial 27, 3) := by decide +kernel
theorem d_mr_init_46 : decode b_mr_init 46 = .ok (.putfield 30, 3) := by decide +kernel
theorem d_mr_init_49 : decode b_mr_init 49 = .ok (.aload_n 0, 1) := by decide +kernel
theorem d_mr_init_50 : decode b_mr_init 50 = .ok (.new 34, 3) := by decide +kernel
theorem d_mr_init_53 : decode b_mr_init 53 = .ok (.dup, 1) := by decide +kernel
theorem d_mr_init_54 : decode b_mr_init 54 = .ok (.invokespecial 36, 3) := by decide +kernel
theorem d_mr_init_57 : decode b_mr_init 57 = .ok (.putfield 37, 3) := by decide +kernel
theorem d_mr_init_60 : decode b_mr_init 60 = .ok (.aload_n 0, 1) := by decide +kernel
theorem d_mr_init_61 : decode b_mr_init 61 = .ok (.new 41, 3) := by decide +kernel
theorem d_mr_init_64 : decode b_mr_init 64 = .ok (.dup, 1) := by decide +kernel
theorem d_mr_init_65 : decode b_mr_init 65 = .ok (.aload_n 0, 1) := by decide +kernel
theorem d_mr_init_66 : decode b_mr_init 66 = .ok (.getfield 12, 3) := by decide +kernel
theorem d_mr_init_69 : decode b_mr_init 69 = .ok (.aload_n 0, 1) := by decide +kernel
theorem d_mr_init_70 : decode b_mr_init 70 = .ok (.getfield 21, 3) := by decide +kernel
theorem d_mr_init_73 : decode b_mr_init 73 = .ok (.aload_n 0, 1) := by decide +kernel
theorem d_mr_init_74 : decode b_mr_init 74 = .ok (.getfield 37, 3) := by decide +kernel
theorem d_mr_init_77 : decode b_mr_init 77 = .ok (.invokespecial 43, 3) := by decide +kernel
theorem d_mr_init_80 : decode b_mr_init 80 = .ok (.putfield 46, 3) := by decide +kernel
theorem d_mr_init_83 : decode b_mr_init 83 = .ok (.return_, 1) := by decide +kernel
theorem d_mr_room_0 : decode b_mr_room 0 = .ok (.iload_n 1, 1) := by decide +kernel
theorem d_mr_room_1 : decode b_mr_room 1 = .ok (.iconst 1, 1) := by decide +kernel
theorem d_mr_room_2 : decode b_mr_room 2 = .ok (.if_icmp .lt 28, 3) := by decide +kernel
theorem d_mr_room_5 : decode b_mr_room 5 = .ok (.iload_n 1, 1) := by decide +kernel
theorem d_mr_room_6 : decode b_mr_room 6 = .ok (.bipush 6, 2) := by decide +kernel
theorem d_mr_room_8 : decode b_mr_room 8 = .ok (.if_icmp .gt 22, 3) := by decide +kernel
theorem d_mr_room_11 : decode b_mr_room 11 = .ok (.iload_n 2, 1) := by decide +kernel
theorem d_mr_room_12 : decode b_mr_room 12 = .ok (.iconst 1, 1) := by decide +kernel
theorem d_mr_room_13 : decode b_mr_room 13 = .ok (.if_icmp .lt 17, 3) := by decide +kernel
theorem d_mr_room_16 : decode b_mr_room 16 = .ok (.iload_n 2, 1) := by decide +kernel
theorem d_mr_room_17 : decode b_mr_room 17 = .ok (.bipush 6, 2) := by decide +kernel
theorem d_mr_room_19 : decode b_mr_room 19 = .ok (.if_icmp .gt 11, 3) := by decide +kernel
theorem d_mr_room_22 : decode b_mr_room 22 = .ok (.iload_n 1, 1) := by decide +kernel
theorem d_mr_room_23 : decode b_mr_room 23 = .ok (.iload_n 2, 1) := by decide +kernel
theorem d_mr_room_24 : decode b_mr_room 24 = .ok (.imul, 1) := by decide +kernel
theorem d_mr_room_25 : decode b_mr_room 25 = .ok (.bipush 25, 2) := by decide +kernel
theorem d_mr_room_27 : decode b_mr_room 27 = .ok (.if_icmp .le 5, 3) := by decide +kernel
theorem d_mr_room_30 : decode b_mr_room 30 = .ok (.iconst (-1), 1) := by decide +kernel
theorem d_mr_room_31 : decode b_mr_room 31 = .ok (.ireturn, 1) := by decide +kernel
theorem d_mr_room_32 : decode b_mr_room 32 = .ok (.aload_n 0, 1) := by decide +kernel
theorem d_mr_room_33 : decode b_mr_room 33 = .ok (.getfield 12, 3) := by decide +kernel
theorem d_mr_room_36 : decode b_mr_room 36 = .ok (.iload_n 1, 1) := by decide +kernel
theorem d_mr_room_37 : decode b_mr_room 37 = .ok (.iload_n 2, 1) := by decide +kernel
theorem d_mr_room_38 : decode b_mr_room 38 = .ok (.invokevirtual 50, 3) := by decide +kernel
theorem d_mr_room_41 : decode b_mr_room 41 = .ok (.aload_n 0, 1) := by decide +kernel
theorem d_mr_room_42 : decode b_mr_room 42 = .ok (.getfield 21, 3) := by decide +kernel
theorem d_mr_room_45 : decode b_mr_room 45 = .ok (.invokevirtual 54, 3) := by decide +kernel
theorem d_mr_room_48 : decode b_mr_room 48 = .ok (.aload_n 0, 1) := by decide +kernel
theorem d_mr_room_49 : decode b_mr_room 49 = .ok (.getfield 30, 3) := by decide +kernel
theorem d_mr_room_52 : decode b_mr_room 52 = .ok (.invokevirtual 57, 3) := by decide +kernel
theorem d_mr_room_55 : decode b_mr_room 55 = .ok (.aload_n 0, 1) := by decide +kernel
theorem d_mr_room_56 : decode b_mr_room 56 = .ok (.getfield 37, 3) := by decide +kernel
theorem d_mr_room_59 : decode b_mr_room 59 = .ok (.invokevirtual 60, 3) := by decide +kernel
theorem d_mr_room_62 : decode b_mr_room 62 = .ok (.iload_n 1, 1) := by decide +kernel
theorem d_mr_room_63 : decode b_mr_room 63 = .ok (.iload_n 2, 1) := by decide +kernel
theorem d_mr_room_64 : decode b_mr_room 64 = .ok (.imul, 1) := by decide +kernel
theorem d_mr_room_65 : decode b_mr_room 65 = .ok (.ireturn, 1) := by decide +kernel
theorem d_mr_wall_0 : decode b_mr_wall 0 = .ok (.aload_n 0, 1) := by decide +kernel
theorem d_mr_wall_1 : decode b_mr_wall 1 = .ok (.getfield 12, 3) := by decide +kernel
theorem d_mr_wall_4 : decode b_mr_wall 4 = .ok (.iload_n 1, 1) := by decide +kernel
theorem d_mr_wall_5 : decode b_mr_wall 5 = .ok (.invokevirtual 61, 3) := by decide +kernel
theorem d_mr_wall_8 : decode b_mr_wall 8 = .ok (.ifCond .ne 5, 3) := by decide +kernel
theorem d_mr_wall_11 : decode b_mr_wall 11 = .ok (.iconst (-1), 1) := by decide +kernel
theorem d_mr_wall_12 : decode b_mr_wall 12 = .ok (.ireturn, 1) := by decide +kernel
theorem d_mr_wall_13 : decode b_mr_wall 13 = .ok (.aload_n 0, 1) := by decide +kernel
theorem d_mr_wall_14 : decode b_mr_wall 14 = .ok (.getfield 12, 3) := by decide +kernel
theorem d_mr_wall_17 : decode b_mr_wall 17 = .ok (.iload_n 1, 1) := by decide +kernel
theorem d_mr_wall_18 : decode b_mr_wall 18 = .ok (.invokevirtual 65, 3) := by decide +kernel
theorem d_mr_wall_21 : decode b_mr_wall 21 = .ok (.aload_n 0, 1) := by decide +kernel
theorem d_mr_wall_22 : decode b_mr_wall 22 = .ok (.getfield 21, 3) := by decide +kernel
theorem d_mr_wall_25 : decode b_mr_wall 25 = .ok (.invokevirtual 54, 3) := by decide +kernel
theorem d_mr_wall_28 : decode b_mr_wall 28 = .ok (.aload_n 0, 1) := by decide +kernel
theorem d_mr_wall_29 : decode b_mr_wall 29 = .ok (.getfield 30, 3) := by decide +kernel
theorem d_mr_wall_32 : decode b_mr_wall 32 = .ok (.invokevirtual 57, 3) := by decide +kernel
theorem d_mr_wall_35 : decode b_mr_wall 35 = .ok (.aload_n 0, 1) := by decide +kernel
theorem d_mr_wall_36 : decode b_mr_wall 36 = .ok (.getfield 12, 3) := by decide +kernel
theorem d_mr_wall_39 : decode b_mr_wall 39 = .ok (.iload_n 1, 1) := by decide +kernel
theorem d_mr_wall_40 : decode b_mr_wall 40 = .ok (.invokevirtual 69, 3) := by decide +kernel
theorem d_mr_wall_43 : decode b_mr_wall 43 = .ok (.ifCond .eq 7, 3) := by decide +kernel
theorem d_mr_wall_46 : decode b_mr_wall 46 = .ok (.iconst 0, 1) := by decide +kernel
theorem d_mr_wall_47 : decode b_mr_wall 47 = .ok (.goto 4, 3) := by decide +kernel
theorem d_mr_wall_50 : decode b_mr_wall 50 = .ok (.iconst 1, 1) := by decide +kernel
theorem d_mr_wall_51 : decode b_mr_wall 51 = .ok (.ireturn, 1) := by decide +kernel
theorem d_mr_mover_0 : decode b_mr_mover 0 = .ok (.aload_n 0, 1) := by decide +kernel
theorem d_mr_mover_1 : decode b_mr_mover 1 = .ok (.getfield 12, 3) := by decide +kernel
theorem d_mr_mover_4 : decode b_mr_mover 4 = .ok (.iload_n 1, 1) := by decide +kernel
theorem d_mr_mover_5 : decode b_mr_mover 5 = .ok (.invokevirtual 69, 3) := by decide +kernel
theorem d_mr_mover_8 : decode b_mr_mover 8 = .ok (.ifCond .eq 26, 3) := by decide +kernel
theorem d_mr_mover_11 : decode b_mr_mover 11 = .ok (.aload_n 0, 1) := by decide +kernel
theorem d_mr_mover_12 : decode b_mr_mover 12 = .ok (.getfield 12, 3) := by decide +kernel
theorem d_mr_mover_15 : decode b_mr_mover 15 = .ok (.iload_n 2, 1) := by decide +kernel
theorem d_mr_mover_16 : decode b_mr_mover 16 = .ok (.invokevirtual 69, 3) := by decide +kernel
theorem d_mr_mover_19 : decode b_mr_mover 19 = .ok (.ifCond .eq 15, 3) := by decide +kernel
theorem d_mr_mover_22 : decode b_mr_mover 22 = .ok (.aload_n 0, 1) := by decide +kernel
theorem d_mr_mover_23 : decode b_mr_mover 23 = .ok (.getfield 21, 3) := by decide +kernel
theorem d_mr_mover_26 : decode b_mr_mover 26 = .ok (.iload_n 1, 1) := by decide +kernel
theorem d_mr_mover_27 : decode b_mr_mover 27 = .ok (.iload_n 2, 1) := by decide +kernel
theorem d_mr_mover_28 : decode b_mr_mover 28 = .ok (.invokevirtual 72, 3) := by decide +kernel
theorem d_mr_mover_31 : decode b_mr_mover 31 = .ok (.ifCond .ne 5, 3) := by decide +kernel
theorem d_mr_mover_34 : decode b_mr_mover 34 = .ok (.iconst (-1), 1) := by decide +kernel
theorem d_mr_mover_35 : decode b_mr_mover 35 = .ok (.ireturn, 1) := by decide +kernel
theorem d_mr_mover_36 : decode b_mr_mover 36 = .ok (.aload_n 0, 1) := by decide +kernel
theorem d_mr_mover_37 : decode b_mr_mover 37 = .ok (.getfield 30, 3) := by decide +kernel
theorem d_mr_mover_40 : decode b_mr_mover 40 = .ok (.invokevirtual 57, 3) := by decide +kernel
theorem d_mr_mover_43 : decode b_mr_mover 43 = .ok (.aload_n 0, 1) := by decide +kernel
theorem d_mr_mover_44 : decode b_mr_mover 44 = .ok (.getfield 21, 3) := by decide +kernel
theorem d_mr_mover_47 : decode b_mr_mover 47 = .ok (.iload_n 1, 1) := by decide +kernel
theorem d_mr_mover_48 : decode b_mr_mover 48 = .ok (.iload_n 2, 1) := by decide +kernel
theorem d_mr_mover_49 : decode b_mr_mover 49 = .ok (.invokevirtual 76, 3) := by decide +kernel
theorem d_mr_mover_52 : decode b_mr_mover 52 = .ok (.ireturn, 1) := by decide +kernel
theorem d_mr_clear_0 : decode b_mr_clear 0 = .ok (.aload_n 0, 1) := by decide +kernel
theorem d_mr_clear_1 : decode b_mr_clear 1 = .ok (.getfield 21, 3) := by decide +kernel
theorem d_mr_clear_4 : decode b_mr_clear 4 = .ok (.getfield 80, 3) := by decide +kernel
theorem d_mr_clear_7 : decode b_mr_clear 7 = .ok (.istore_n 1, 1) := by decide +kernel
theorem d_mr_clear_8 : decode b_mr_clear 8 = .ok (.aload_n 0, 1) := by decide +kernel
theorem d_mr_clear_9 : decode b_mr_clear 9 = .ok (.getfield 21, 3) := by decide +kernel
theorem d_mr_clear_12 : decode b_mr_clear 12 = .ok (.invokevirtual 54, 3) := by decide +kernel
theorem d_mr_clear_15 : decode b_mr_clear 15 = .ok (.aload_n 0, 1) := by decide +kernel
theorem d_mr_clear_16 : decode b_mr_clear 16 = .ok (.getfield 30, 3) := by decide +kernel
theorem d_mr_clear_19 : decode b_mr_clear 19 = .ok (.invokevirtual 57, 3) := by decide +kernel
theorem d_mr_clear_22 : decode b_mr_clear 22 = .ok (.iload_n 1, 1) := by decide +kernel
theorem d_mr_clear_23 : decode b_mr_clear 23 = .ok (.ireturn, 1) := by decide +kernel
theorem d_mr_distance_0 : decode b_mr_distance 0 = .ok (.aload_n 0, 1) := by decide +kernel
theorem d_mr_distance_1 : decode b_mr_distance 1 = .ok (.getfield 21, 3) := by decide +kernel
theorem d_mr_distance_4 : decode b_mr_distance 4 = .ok (.iload_n 1, 1) := by decide +kernel
theorem d_mr_distance_5 : decode b_mr_distance 5 = .ok (.invokevirtual 84, 3) := by decide +kernel
theorem d_mr_distance_8 : decode b_mr_distance 8 = .ok (.ifCond .eq 14, 3) := by decide +kernel
theorem d_mr_distance_11 : decode b_mr_distance 11 = .ok (.aload_n 0, 1) := by decide +kernel
theorem d_mr_distance_12 : decode b_mr_distance 12 = .ok (.getfield 21, 3) := by decide +kernel
theorem d_mr_distance_15 : decode b_mr_distance 15 = .ok (.iload_n 1, 1) := by decide +kernel
theorem d_mr_distance_16 : decode b_mr_distance 16 = .ok (.invokevirtual 85, 3) := by decide +kernel
theorem d_mr_distance_19 : decode b_mr_distance 19 = .ok (.goto 4, 3) := by decide +kernel
theorem d_mr_distance_22 : decode b_mr_distance 22 = .ok (.iconst (-1), 1) := by decide +kernel
theorem d_mr_distance_23 : decode b_mr_distance 23 = .ok (.ireturn, 1) := by decide +kernel
theorem d_mr_ways_0 : decode b_mr_ways 0 = .ok (.aload_n 0, 1) := by decide +kernel
theorem d_mr_ways_1 : decode b_mr_ways 1 = .ok (.getfield 21, 3) := by decide +kernel
theorem d_mr_ways_4 : decode b_mr_ways 4 = .ok (.iload_n 1, 1) := by decide +kernel
theorem d_mr_ways_5 : decode b_mr_ways 5 = .ok (.invokevirtual 84, 3) := by decide +kernel
theorem d_mr_ways_8 : decode b_mr_ways 8 = .ok (.ifCond .eq 13, 3) := by decide +kernel
theorem d_mr_ways_11 : decode b_mr_ways 11 = .ok (.iload_n 2, 1) := by decide +kernel
theorem d_mr_ways_12 : decode b_mr_ways 12 = .ok (.ifCond .lt 9, 3) := by decide +kernel
theorem d_mr_ways_15 : decode b_mr_ways 15 = .ok (.iload_n 2, 1) := by decide +kernel
theorem d_mr_ways_16 : decode b_mr_ways 16 = .ok (.bipush 20, 2) := by decide +kernel
theorem d_mr_ways_18 : decode b_mr_ways 18 = .ok (.if_icmp .le 7, 3) := by decide +kernel
theorem d_mr_ways_21 : decode b_mr_ways 21 = .ok (.ldc2_w 89, 3) := by decide +kernel
theorem d_mr_ways_24 : decode b_mr_ways 24 = .ok (.lreturn, 1) := by decide +kernel
theorem d_mr_ways_25 : decode b_mr_ways 25 = .ok (.aload_n 0, 1) := by decide +kernel
theorem d_mr_ways_26 : decode b_mr_ways 26 = .ok (.getfield 21, 3) := by decide +kernel
theorem d_mr_ways_29 : decode b_mr_ways 29 = .ok (.iload_n 1, 1) := by decide +kernel
theorem d_mr_ways_30 : decode b_mr_ways 30 = .ok (.iload_n 2, 1) := by decide +kernel
theorem d_mr_ways_31 : decode b_mr_ways 31 = .ok (.invokevirtual 91, 3) := by decide +kernel
theorem d_mr_ways_34 : decode b_mr_ways 34 = .ok (.lreturn, 1) := by decide +kernel
theorem d_mr_solve_0 : decode b_mr_solve 0 = .ok (.iload_n 1, 1) := by decide +kernel
theorem d_mr_solve_1 : decode b_mr_solve 1 = .ok (.ifCond .lt 9, 3) := by decide +kernel
theorem d_mr_solve_4 : decode b_mr_solve 4 = .ok (.iload_n 1, 1) := by decide +kernel
theorem d_mr_solve_5 : decode b_mr_solve 5 = .ok (.bipush 6, 2) := by decide +kernel
theorem d_mr_solve_7 : decode b_mr_solve 7 = .ok (.if_icmp .le 5, 3) := by decide +kernel
theorem d_mr_solve_10 : decode b_mr_solve 10 = .ok (.iconst (-1), 1) := by decide +kernel
theorem d_mr_solve_11 : decode b_mr_solve 11 = .ok (.ireturn, 1) := by decide +kernel
theorem d_mr_solve_12 : decode b_mr_solve 12 = .ok (.aload_n 0, 1) := by decide +kernel
theorem d_mr_solve_13 : decode b_mr_solve 13 = .ok (.getfield 30, 3) := by decide +kernel
theorem d_mr_solve_16 : decode b_mr_solve 16 = .ok (.iload_n 1, 1) := by decide +kernel
theorem d_mr_solve_17 : decode b_mr_solve 17 = .ok (.invokevirtual 95, 3) := by decide +kernel
theorem d_mr_solve_20 : decode b_mr_solve 20 = .ok (.ireturn, 1) := by decide +kernel
theorem d_mr_cost_0 : decode b_mr_cost 0 = .ok (.aload_n 0, 1) := by decide +kernel
theorem d_mr_cost_1 : decode b_mr_cost 1 = .ok (.getfield 30, 3) := by decide +kernel
theorem d_mr_cost_4 : decode b_mr_cost 4 = .ok (.getfield 98, 3) := by decide +kernel
theorem d_mr_cost_7 : decode b_mr_cost 7 = .ok (.ifCond .eq 25, 3) := by decide +kernel
theorem d_mr_cost_10 : decode b_mr_cost 10 = .ok (.aload_n 0, 1) := by decide +kernel
theorem d_mr_cost_11 : decode b_mr_cost 11 = .ok (.getfield 21, 3) := by decide +kernel
theorem d_mr_cost_14 : decode b_mr_cost 14 = .ok (.iload_n 1, 1) := by decide +kernel
theorem d_mr_cost_15 : decode b_mr_cost 15 = .ok (.invokevirtual 84, 3) := by decide +kernel
theorem d_mr_cost_18 : decode b_mr_cost 18 = .ok (.ifCond .eq 14, 3) := by decide +kernel
theorem d_mr_cost_21 : decode b_mr_cost 21 = .ok (.aload_n 0, 1) := by decide +kernel
theorem d_mr_cost_22 : decode b_mr_cost 22 = .ok (.getfield 30, 3) := by decide +kernel
theorem d_mr_cost_25 : decode b_mr_cost 25 = .ok (.iload_n 1, 1) := by decide +kernel
theorem d_mr_cost_26 : decode b_mr_cost 26 = .ok (.invokevirtual 102, 3) := by decide +kernel
theorem d_mr_cost_29 : decode b_mr_cost 29 = .ok (.goto 4, 3) := by decide +kernel
theorem d_mr_cost_32 : decode b_mr_cost 32 = .ok (.iconst (-1), 1) := by decide +kernel
theorem d_mr_cost_33 : decode b_mr_cost 33 = .ok (.ireturn, 1) := by decide +kernel
theorem d_mr_at_0 : decode b_mr_at 0 = .ok (.aload_n 0, 1) := by decide +kernel
theorem d_mr_at_1 : decode b_mr_at 1 = .ok (.getfield 30, 3) := by decide +kernel
theorem d_mr_at_4 : decode b_mr_at 4 = .ok (.getfield 98, 3) := by decide +kernel
theorem d_mr_at_7 : decode b_mr_at 7 = .ok (.ifCond .eq 30, 3) := by decide +kernel
theorem d_mr_at_10 : decode b_mr_at 10 = .ok (.aload_n 0, 1) := by decide +kernel
theorem d_mr_at_11 : decode b_mr_at 11 = .ok (.getfield 21, 3) := by decide +kernel
theorem d_mr_at_14 : decode b_mr_at 14 = .ok (.iload_n 1, 1) := by decide +kernel
theorem d_mr_at_15 : decode b_mr_at 15 = .ok (.invokevirtual 84, 3) := by decide +kernel
theorem d_mr_at_18 : decode b_mr_at 18 = .ok (.ifCond .eq 19, 3) := by decide +kernel
theorem d_mr_at_21 : decode b_mr_at 21 = .ok (.iload_n 2, 1) := by decide +kernel
theorem d_mr_at_22 : decode b_mr_at 22 = .ok (.ifCond .lt 15, 3) := by decide +kernel
