theorem d_fl_init_0 : decode b_fl_init 0 = .ok (.aload_n 0, 1) := by decide +kernel
theorem d_fl_init_1 : decode b_fl_init 1 = .ok (.invokespecial 3, 3) := by decide +kernel
theorem d_fl_init_4 : decode b_fl_init 4 = .ok (.aload_n 0, 1) := by decide +kernel
theorem d_fl_init_5 : decode b_fl_init 5 = .ok (.bipush 25, 2) := by decide +kernel
theorem d_fl_init_7 : decode b_fl_init 7 = .ok (.newarray .boolean, 2) := by decide +kernel
theorem d_fl_init_9 : decode b_fl_init 9 = .ok (.putfield 9, 3) := by decide +kernel
theorem d_fl_init_12 : decode b_fl_init 12 = .ok (.aload_n 0, 1) := by decide +kernel
theorem d_fl_init_13 : decode b_fl_init 13 = .ok (.bipush 25, 2) := by decide +kernel
theorem d_fl_init_15 : decode b_fl_init 15 = .ok (.newarray .int, 2) := by decide +kernel
theorem d_fl_init_17 : decode b_fl_init 17 = .ok (.putfield 15, 3) := by decide +kernel
theorem d_fl_init_20 : decode b_fl_init 20 = .ok (.aload_n 0, 1) := by decide +kernel
theorem d_fl_init_21 : decode b_fl_init 21 = .ok (.bipush 25, 2) := by decide +kernel
theorem d_fl_init_23 : decode b_fl_init 23 = .ok (.newarray .int, 2) := by decide +kernel
theorem d_fl_init_25 : decode b_fl_init 25 = .ok (.putfield 19, 3) := by decide +kernel
theorem d_fl_init_28 : decode b_fl_init 28 = .ok (.aload_n 0, 1) := by decide +kernel
theorem d_fl_init_29 : decode b_fl_init 29 = .ok (.bipush 25, 2) := by decide +kernel
theorem d_fl_init_31 : decode b_fl_init 31 = .ok (.iconst 5, 1) := by decide +kernel
theorem d_fl_init_32 : decode b_fl_init 32 = .ok (.multianewarray 22 2, 4) := by decide +kernel
theorem d_fl_init_36 : decode b_fl_init 36 = .ok (.putfield 24, 3) := by decide +kernel
theorem d_fl_init_39 : decode b_fl_init 39 = .ok (.aload_n 0, 1) := by decide +kernel
theorem d_fl_init_40 : decode b_fl_init 40 = .ok (.iconst 1, 1) := by decide +kernel
theorem d_fl_init_41 : decode b_fl_init 41 = .ok (.iconst 1, 1) := by decide +kernel
theorem d_fl_init_42 : decode b_fl_init 42 = .ok (.invokevirtual 27, 3) := by decide +kernel
theorem d_fl_init_45 : decode b_fl_init 45 = .ok (.return_, 1) := by decide +kernel
theorem d_fl_build_0 : decode b_fl_build 0 = .ok (.aload_n 0, 1) := by decide +kernel
theorem d_fl_build_1 : decode b_fl_build 1 = .ok (.iload_n 1, 1) := by decide +kernel
theorem d_fl_build_2 : decode b_fl_build 2 = .ok (.putfield 31, 3) := by decide +kernel
theorem d_fl_build_5 : decode b_fl_build 5 = .ok (.aload_n 0, 1) := by decide +kernel
theorem d_fl_build_6 : decode b_fl_build 6 = .ok (.iload_n 2, 1) := by decide +kernel
theorem d_fl_build_7 : decode b_fl_build 7 = .ok (.putfield 35, 3) := by decide +kernel
theorem d_fl_build_10 : decode b_fl_build 10 = .ok (.iconst 0, 1) := by decide +kernel
theorem d_fl_build_11 : decode b_fl_build 11 = .ok (.istore_n 3, 1) := by decide +kernel
theorem d_fl_build_12 : decode b_fl_build 12 = .ok (.iload_n 3, 1) := by decide +kernel
theorem d_fl_build_13 : decode b_fl_build 13 = .ok (.bipush 25, 2) := by decide +kernel
theorem d_fl_build_15 : decode b_fl_build 15 = .ok (.if_icmp .ge 16, 3) := by decide +kernel
theorem d_fl_build_18 : decode b_fl_build 18 = .ok (.aload_n 0, 1) := by decide +kernel
theorem d_fl_build_19 : decode b_fl_build 19 = .ok (.getfield 9, 3) := by decide +kernel
theorem d_fl_build_22 : decode b_fl_build 22 = .ok (.iload_n 3, 1) := by decide +kernel
theorem d_fl_build_23 : decode b_fl_build 23 = .ok (.iconst 0, 1) := by decide +kernel
theorem d_fl_build_24 : decode b_fl_build 24 = .ok (.bastore, 1) := by decide +kernel
theorem d_fl_build_25 : decode b_fl_build 25 = .ok (.iinc 3 1, 3) := by decide +kernel
theorem d_fl_build_28 : decode b_fl_build 28 = .ok (.goto (-16), 3) := by decide +kernel
theorem d_fl_build_31 : decode b_fl_build 31 = .ok (.aload_n 0, 1) := by decide +kernel
theorem d_fl_build_32 : decode b_fl_build 32 = .ok (.invokevirtual 38, 3) := by decide +kernel
theorem d_fl_build_35 : decode b_fl_build 35 = .ok (.return_, 1) := by decide +kernel
theorem d_fl_turn_0 : decode b_fl_turn 0 = .ok (.aload_n 0, 1) := by decide +kernel
theorem d_fl_turn_1 : decode b_fl_turn 1 = .ok (.getfield 9, 3) := by decide +kernel
theorem d_fl_turn_4 : decode b_fl_turn 4 = .ok (.iload_n 1, 1) := by decide +kernel
theorem d_fl_turn_5 : decode b_fl_turn 5 = .ok (.aload_n 0, 1) := by decide +kernel
theorem d_fl_turn_6 : decode b_fl_turn 6 = .ok (.getfield 9, 3) := by decide +kernel
theorem d_fl_turn_9 : decode b_fl_turn 9 = .ok (.iload_n 1, 1) := by decide +kernel
theorem d_fl_turn_10 : decode b_fl_turn 10 = .ok (.baload, 1) := by decide +kernel
theorem d_fl_turn_11 : decode b_fl_turn 11 = .ok (.ifCond .ne 7, 3) := by decide +kernel
theorem d_fl_turn_14 : decode b_fl_turn 14 = .ok (.iconst 1, 1) := by decide +kernel
theorem d_fl_turn_15 : decode b_fl_turn 15 = .ok (.goto 4, 3) := by decide +kernel
theorem d_fl_turn_18 : decode b_fl_turn 18 = .ok (.iconst 0, 1) := by decide +kernel
theorem d_fl_turn_19 : decode b_fl_turn 19 = .ok (.bastore, 1) := by decide +kernel
theorem d_fl_turn_20 : decode b_fl_turn 20 = .ok (.aload_n 0, 1) := by decide +kernel
theorem d_fl_turn_21 : decode b_fl_turn 21 = .ok (.invokevirtual 38, 3) := by decide +kernel
theorem d_fl_turn_24 : decode b_fl_turn 24 = .ok (.return_, 1) := by decide +kernel
theorem d_fl_has_0 : decode b_fl_has 0 = .ok (.iload_n 1, 1) := by decide +kernel
theorem d_fl_has_1 : decode b_fl_has 1 = .ok (.ifCond .lt 20, 3) := by decide +kernel
theorem d_fl_has_4 : decode b_fl_has 4 = .ok (.iload_n 1, 1) := by decide +kernel
theorem d_fl_has_5 : decode b_fl_has 5 = .ok (.aload_n 0, 1) := by decide +kernel
theorem d_fl_has_6 : decode b_fl_has 6 = .ok (.getfield 31, 3) := by decide +kernel
theorem d_fl_has_9 : decode b_fl_has 9 = .ok (.aload_n 0, 1) := by decide +kernel
theorem d_fl_has_10 : decode b_fl_has 10 = .ok (.getfield 35, 3) := by decide +kernel
theorem d_fl_has_13 : decode b_fl_has 13 = .ok (.imul, 1) := by decide +kernel
theorem d_fl_has_14 : decode b_fl_has 14 = .ok (.if_icmp .ge 7, 3) := by decide +kernel
theorem d_fl_has_17 : decode b_fl_has 17 = .ok (.iconst 1, 1) := by decide +kernel
theorem d_fl_has_18 : decode b_fl_has 18 = .ok (.goto 4, 3) := by decide +kernel
theorem d_fl_has_21 : decode b_fl_has 21 = .ok (.iconst 0, 1) := by decide +kernel
theorem d_fl_has_22 : decode b_fl_has 22 = .ok (.ireturn, 1) := by decide +kernel
theorem d_fl_isFree_0 : decode b_fl_isFree 0 = .ok (.aload_n 0, 1) := by decide +kernel
theorem d_fl_isFree_1 : decode b_fl_isFree 1 = .ok (.iload_n 1, 1) := by decide +kernel
theorem d_fl_isFree_2 : decode b_fl_isFree 2 = .ok (.invokevirtual 41, 3) := by decide +kernel
theorem d_fl_isFree_5 : decode b_fl_isFree 5 = .ok (.ifCond .eq 16, 3) := by decide +kernel
theorem d_fl_isFree_8 : decode b_fl_isFree 8 = .ok (.aload_n 0, 1) := by decide +kernel
theorem d_fl_isFree_9 : decode b_fl_isFree 9 = .ok (.getfield 9, 3) := by decide +kernel
theorem d_fl_isFree_12 : decode b_fl_isFree 12 = .ok (.iload_n 1, 1) := by decide +kernel
theorem d_fl_isFree_13 : decode b_fl_isFree 13 = .ok (.baload, 1) := by decide +kernel
theorem d_fl_isFree_14 : decode b_fl_isFree 14 = .ok (.ifCond .ne 7, 3) := by decide +kernel
theorem d_fl_isFree_17 : decode b_fl_isFree 17 = .ok (.iconst 1, 1) := by decide +kernel
theorem d_fl_isFree_18 : decode b_fl_isFree 18 = .ok (.goto 4, 3) := by decide +kernel
theorem d_fl_isFree_21 : decode b_fl_isFree 21 = .ok (.iconst 0, 1) := by decide +kernel
theorem d_fl_isFree_22 : decode b_fl_isFree 22 = .ok (.ireturn, 1) := by decide +kernel
theorem d_fl_chart_0 : decode b_fl_chart 0 = .ok (.aload_n 0, 1) := by decide +kernel
theorem d_fl_chart_1 : decode b_fl_chart 1 = .ok (.iconst 0, 1) := by decide +kernel
theorem d_fl_chart_2 : decode b_fl_chart 2 = .ok (.putfield 48, 3) := by decide +kernel
theorem d_fl_chart_5 : decode b_fl_chart 5 = .ok (.iconst 0, 1) := by decide +kernel
theorem d_fl_chart_6 : decode b_fl_chart 6 = .ok (.istore_n 1, 1) := by decide +kernel
theorem d_fl_chart_7 : decode b_fl_chart 7 = .ok (.iload_n 1, 1) := by decide +kernel
theorem d_fl_chart_8 : decode b_fl_chart 8 = .ok (.aload_n 0, 1) := by decide +kernel
theorem d_fl_chart_9 : decode b_fl_chart 9 = .ok (.getfield 35, 3) := by decide +kernel
theorem d_fl_chart_12 : decode b_fl_chart 12 = .ok (.if_icmp .ge 38, 3) := by decide +kernel
theorem d_fl_chart_15 : decode b_fl_chart 15 = .ok (.iconst 0, 1) := by decide +kernel
theorem d_fl_chart_16 : decode b_fl_chart 16 = .ok (.istore_n 2, 1) := by decide +kernel
theorem d_fl_chart_17 : decode b_fl_chart 17 = .ok (.iload_n 2, 1) := by decide +kernel
theorem d_fl_chart_18 : decode b_fl_chart 18 = .ok (.aload_n 0, 1) := by decide +kernel
theorem d_fl_chart_19 : decode b_fl_chart 19 = .ok (.getfield 31, 3) := by decide +kernel
theorem d_fl_chart_22 : decode b_fl_chart 22 = .ok (.if_icmp .ge 22, 3) := by decide +kernel
theorem d_fl_chart_25 : decode b_fl_chart 25 = .ok (.aload_n 0, 1) := by decide +kernel
theorem d_fl_chart_26 : decode b_fl_chart 26 = .ok (.iload_n 2, 1) := by decide +kernel
theorem d_fl_chart_27 : decode b_fl_chart 27 = .ok (.aload_n 0, 1) := by decide +kernel
theorem d_fl_chart_28 : decode b_fl_chart 28 = .ok (.getfield 31, 3) := by decide +kernel
theorem d_fl_chart_31 : decode b_fl_chart 31 = .ok (.iload_n 1, 1) := by decide +kernel
theorem d_fl_chart_32 : decode b_fl_chart 32 = .ok (.imul, 1) := by decide +kernel
theorem d_fl_chart_33 : decode b_fl_chart 33 = .ok (.iload_n 2, 1) := by decide +kernel
theorem d_fl_chart_34 : decode b_fl_chart 34 = .ok (.iadd, 1) := by decide +kernel
theorem d_fl_chart_35 : decode b_fl_chart 35 = .ok (.invokevirtual 51, 3) := by decide +kernel
theorem d_fl_chart_38 : decode b_fl_chart 38 = .ok (.iinc 2 1, 3) := by decide +kernel
theorem d_fl_chart_41 : decode b_fl_chart 41 = .ok (.goto (-24), 3) := by decide +kernel
theorem d_fl_chart_44 : decode b_fl_chart 44 = .ok (.iinc 1 1, 3) := by decide +kernel
theorem d_fl_chart_47 : decode b_fl_chart 47 = .ok (.goto (-40), 3) := by decide +kernel
theorem d_fl_chart_50 : decode b_fl_chart 50 = .ok (.return_, 1) := by decide +kernel
theorem d_fl_chartCell_0 : decode b_fl_chartCell 0 = .ok (.aload_n 0, 1) := by decide +kernel
theorem d_fl_chartCell_1 : decode b_fl_chartCell 1 = .ok (.getfield 15, 3) := by decide +kernel
theorem d_fl_chartCell_4 : decode b_fl_chartCell 4 = .ok (.iload_n 2, 1) := by decide +kernel
theorem d_fl_chartCell_5 : decode b_fl_chartCell 5 = .ok (.aload_n 0, 1) := by decide +kernel
theorem d_fl_chartCell_6 : decode b_fl_chartCell 6 = .ok (.getfield 48, 3) := by decide +kernel
theorem d_fl_chartCell_9 : decode b_fl_chartCell 9 = .ok (.iastore, 1) := by decide +kernel
theorem d_fl_chartCell_10 : decode b_fl_chartCell 10 = .ok (.aload_n 0, 1) := by decide +kernel
theorem d_fl_chartCell_11 : decode b_fl_chartCell 11 = .ok (.getfield 19, 3) := by decide +kernel
theorem d_fl_chartCell_14 : decode b_fl_chartCell 14 = .ok (.iload_n 2, 1) := by decide +kernel
theorem d_fl_chartCell_15 : decode b_fl_chartCell 15 = .ok (.iconst 0, 1) := by decide +kernel
theorem d_fl_chartCell_16 : decode b_fl_chartCell 16 = .ok (.iastore, 1) := by decide +kernel
theorem d_fl_chartCell_17 : decode b_fl_chartCell 17 = .ok (.aload_n 0, 1) := by decide +kernel
theorem d_fl_chartCell_18 : decode b_fl_chartCell 18 = .ok (.getfield 9, 3) := by decide +kernel
theorem d_fl_chartCell_21 : decode b_fl_chartCell 21 = .ok (.iload_n 2, 1) := by decide +kernel
theorem d_fl_chartCell_22 : decode b_fl_chartCell 22 = .ok (.baload, 1) := by decide +kernel
theorem d_fl_chartCell_23 : decode b_fl_chartCell 23 = .ok (.ifCond .eq 4, 3) := by decide +kernel
theorem d_fl_chartCell_26 : decode b_fl_chartCell 26 = .ok (.return_, 1) := by decide +kernel
theorem d_fl_chartCell_27 : decode b_fl_chartCell 27 = .ok (.aload_n 0, 1) := by decide +kernel
theorem d_fl_chartCell_28 : decode b_fl_chartCell 28 = .ok (.dup, 1) := by decide +kernel
theorem d_fl_chartCell_29 : decode b_fl_chartCell 29 = .ok (.getfield 48, 3) := by decide +kernel
theorem d_fl_chartCell_32 : decode b_fl_chartCell 32 = .ok (.iconst 1, 1) := by decide +kernel
theorem d_fl_chartCell_33 : decode b_fl_chartCell 33 = .ok (.iadd, 1) := by decide +kernel
theorem d_fl_chartCell_34 : decode b_fl_chartCell 34 = .ok (.putfield 48, 3) := by decide +kernel
theorem d_fl_chartCell_37 : decode b_fl_chartCell 37 = .ok (.aload_n 0, 1) := by decide +kernel
theorem d_fl_chartCell_38 : decode b_fl_chartCell 38 = .ok (.iload_n 2, 1) := by decide +kernel
theorem d_fl_chartCell_39 : decode b_fl_chartCell 39 = .ok (.iload_n 2, 1) := by decide +kernel
theorem d_fl_chartCell_40 : decode b_fl_chartCell 40 = .ok (.aload_n 0, 1) := by decide +kernel
theorem d_fl_chartCell_41 : decode b_fl_chartCell 41 = .ok (.getfield 31, 3) := by decide +kernel
theorem d_fl_chartCell_44 : decode b_fl_chartCell 44 = .ok (.isub, 1) := by decide +kernel
theorem d_fl_chartCell_45 : decode b_fl_chartCell 45 = .ok (.invokevirtual 54, 3) := by decide +kernel
theorem d_fl_chartCell_48 : decode b_fl_chartCell 48 = .ok (.iload_n 1, 1) := by decide +kernel
theorem d_fl_chartCell_49 : decode b_fl_chartCell 49 = .ok (.ifCond .le 11, 3) := by decide +kernel
theorem d_fl_chartCell_52 : decode b_fl_chartCell 52 = .ok (.aload_n 0, 1) := by decide +kernel
theorem d_fl_chartCell_53 : decode b_fl_chartCell 53 = .ok (.iload_n 2, 1) := by decide +kernel
theorem d_fl_chartCell_54 : decode b_fl_chartCell 54 = .ok (.iload_n 2, 1) := by decide +kernel
theorem d_fl_chartCell_55 : decode b_fl_chartCell 55 = .ok (.iconst 1, 1) := by decide +kernel
theorem d_fl_chartCell_56 : decode b_fl_chartCell 56 = .ok (.isub, 1) := by decide +kernel
theorem d_fl_chartCell_57 : decode b_fl_chartCell 57 = .ok (.invokevirtual 54, 3) := by decide +kernel
theorem d_fl_chartCell_60 : decode b_fl_chartCell 60 = .ok (.aload_n 0, 1) := by decide +kernel
theorem d_fl_chartCell_61 : decode b_fl_chartCell 61 = .ok (.iload_n 2, 1) := by decide +kernel
theorem d_fl_chartCell_62 : decode b_fl_chartCell 62 = .ok (.iload_n 2, 1) := by decide +kernel
theorem d_fl_chartCell_63 : decode b_fl_chartCell 63 = .ok (.invokevirtual 54, 3) := by decide +kernel
theorem d_fl_chartCell_66 : decode b_fl_chartCell 66 = .ok (.iload_n 1, 1) := by decide +kernel
theorem d_fl_chartCell_67 : decode b_fl_chartCell 67 = .ok (.aload_n 0, 1) := by decide +kernel
theorem d_fl_chartCell_68 : decode b_fl_chartCell 68 = .ok (.getfield 31, 3) := by decide +kernel
theorem d_fl_chartCell_71 : decode b_fl_chartCell 71 = .ok (.iconst 1, 1) := by decide +kernel
theorem d_fl_chartCell_72 : decode b_fl_chartCell 72 = .ok (.isub, 1) := by decide +kernel
theorem d_fl_chartCell_73 : decode b_fl_chartCell 73 = .ok (.if_icmp .ge 11, 3) := by decide +kernel
theorem d_fl_chartCell_76 : decode b_fl_chartCell 76 = .ok (.aload_n 0, 1) := by decide +kernel
theorem d_fl_chartCell_77 : decode b_fl_chartCell 77 = .ok (.iload_n 2, 1) := by decide +kernel
theorem d_fl_chartCell_78 : decode b_fl_chartCell 78 = .ok (.iload_n 2, 1) := by decide +kernel
theorem d_fl_chartCell_79 : decode b_fl_chartCell 79 = .ok (.iconst 1, 1) := by decide +kernel
theorem d_fl_chartCell_80 : decode b_fl_chartCell 80 = .ok (.iadd, 1) := by decide +kernel
theorem d_fl_chartCell_81 : decode b_fl_chartCell 81 = .ok (.invokevirtual 54, 3) := by decide +kernel
theorem d_fl_chartCell_84 : decode b_fl_chartCell 84 = .ok (.aload_n 0, 1) := by decide +kernel
theorem d_fl_chartCell_85 : decode b_fl_chartCell 85 = .ok (.iload_n 2, 1) := by decide +kernel
theorem d_fl_chartCell_86 : decode b_fl_chartCell 86 = .ok (.iload_n 2, 1) := by decide +kernel
theorem d_fl_chartCell_87 : decode b_fl_chartCell 87 = .ok (.aload_n 0, 1) := by decide +kernel
theorem d_fl_chartCell_88 : decode b_fl_chartCell 88 = .ok (.getfield 31, 3) := by decide +kernel
theorem d_fl_chartCell_91 : decode b_fl_chartCell 91 = .ok (.iadd, 1) := by decide +kernel
theorem d_fl_chartCell_92 : decode b_fl_chartCell 92 = .ok (.invokevirtual 54, 3) := by decide +kernel
theorem d_fl_chartCell_95 : decode b_fl_chartCell 95 = .ok (.return_, 1) := by decide +kernel
theorem d_fl_addStep_0 : decode b_fl_addStep 0 = .ok (.aload_n 0, 1) := by decide +kernel
theorem d_fl_addStep_1 : decode b_fl_addStep 1 = .ok (.iload_n 2, 1) := by decide +kernel
theorem d_fl_addStep_2 : decode b_fl_addStep 2 = .ok (.invokevirtual 45, 3) := by decide +kernel
theorem d_fl_addStep_5 : decode b_fl_addStep 5 = .ok (.ifCond .eq 27, 3) := by decide +kernel
theorem d_fl_addStep_8 : decode b_fl_addStep 8 = .ok (.aload_n 0, 1) := by decide +kernel
theorem d_fl_addStep_9 : decode b_fl_addStep 9 = .ok (.getfield 24, 3) := by decide +kernel
theorem d_fl_addStep_12 : decode b_fl_addStep 12 = .ok (.iload_n 1, 1) := by decide +kernel
theorem d_fl_addStep_13 : decode b_fl_addStep 13 = .ok (.aaload, 1) := by decide +kernel
theorem d_fl_addStep_14 : decode b_fl_addStep 14 = .ok (.aload_n 0, 1) := by decide +kernel
theorem d_fl_addStep_15 : decode b_fl_addStep 15 = .ok (.getfield 19, 3) := by decide +kernel
theorem d_fl_addStep_18 : decode b_fl_addStep 18 = .ok (.iload_n 1, 1) := by decide +kernel
theorem d_fl_addStep_19 : decode b_fl_addStep 19 = .ok (.iaload, 1) := by decide +kernel
theorem d_fl_addStep_20 : decode b_fl_addStep 20 = .ok (.iload_n 2, 1) := by decide +kernel
theorem d_fl_addStep_21 : decode b_fl_addStep 21 = .ok (.iastore, 1) := by decide +kernel
theorem d_fl_addStep_22 : decode b_fl_addStep 22 = .ok (.aload_n 0, 1) := by decide +kernel
theorem d_fl_addStep_23 : decode b_fl_addStep 23 = .ok (.getfield 19, 3) := by decide +kernel
theorem d_fl_addStep_26 : decode b_fl_addStep 26 = .ok (.iload_n 1, 1) := by decide +kernel
theorem d_fl_addStep_27 : decode b_fl_addStep 27 = .ok (.dup2, 1) := by decide +kernel
theorem d_fl_addStep_28 : decode b_fl_addStep 28 = .ok (.iaload, 1) := by decide +kernel
theorem d_fl_addStep_29 : decode b_fl_addStep 29 = .ok (.iconst 1, 1) := by decide +kernel
theorem d_fl_addStep_30 : decode b_fl_addStep 30 = .ok (.iadd, 1) := by decide +kernel
theorem d_fl_addStep_31 : decode b_fl_addStep 31 = .ok (.iastore, 1) := by decide +kernel
theorem d_fl_addStep_32 : decode b_fl_addStep 32 = .ok (.return_, 1) := by decide +kernel
theorem d_cr_init_0 : decode b_cr_init 0 = .ok (.aload_n 0, 1) := by decide +kernel
theorem d_cr_init_1 : decode b_cr_init 1 = .ok (.invokespecial 3, 3) := by decide +kernel
theorem d_cr_init_4 : decode b_cr_init 4 = .ok (.aload_n 0, 1) := by decide +kernel
theorem d_cr_init_5 : decode b_cr_init 5 = .ok (.iconst 5, 1) := by decide +kernel
theorem d_cr_init_6 : decode b_cr_init 6 = .ok (.newarray .int, 2) := by decide +kernel
theorem d_cr_init_8 : decode b_cr_init 8 = .ok (.putfield 9, 3) := by decide +kernel
theorem d_cr_init_11 : decode b_cr_init 11 = .ok (.aload_n 0, 1) := by decide +kernel
theorem d_cr_init_12 : decode b_cr_init 12 = .ok (.iconst 5, 1) := by decide +kernel
theorem d_cr_init_13 : decode b_cr_init 13 = .ok (.newarray .int, 2) := by decide +kernel
theorem d_cr_init_15 : decode b_cr_init 15 = .ok (.putfield 15, 3) := by decide +kernel
theorem d_cr_init_18 : decode b_cr_init 18 = .ok (.aload_n 0, 1) := by decide +kernel
theorem d_cr_init_19 : decode b_cr_init 19 = .ok (.iconst 5, 1) := by decide +kernel
theorem d_cr_init_20 : decode b_cr_init 20 = .ok (.bipush 25, 2) := by decide +kernel
theorem d_cr_init_22 : decode b_cr_init 22 = .ok (.multianewarray 18 2, 4) := by decide +kernel
theorem d_cr_init_26 : decode b_cr_init 26 = .ok (.putfield 20, 3) := by decide +kernel
theorem d_cr_init_29 : decode b_cr_init 29 = .ok (.aload_n 0, 1) := by decide +kernel
theorem d_cr_init_30 : decode b_cr_init 30 = .ok (.bipush 25, 2) := by decide +kernel
theorem d_cr_init_32 : decode b_cr_init 32 = .ok (.newarray .int, 2) := by decide +kernel
theorem d_cr_init_34 : decode b_cr_init 34 = .ok (.putfield 23, 3) := by decide +kernel
theorem d_cr_init_37 : decode b_cr_init 37 = .ok (.aload_n 0, 1) := by decide +kernel
theorem d_cr_init_38 : decode b_cr_init 38 = .ok (.bipush 25, 2) := by decide +kernel
theorem d_cr_init_40 : decode b_cr_init 40 = .ok (.newarray .long, 2) := by decide +kernel
theorem d_cr_init_42 : decode b_cr_init 42 = .ok (.putfield 26, 3) := by decide +kernel
theorem d_cr_init_45 : decode b_cr_init 45 = .ok (.aload_n 0, 1) := by decide +kernel
theorem d_cr_init_46 : decode b_cr_init 46 = .ok (.bipush 25, 2) := by decide +kernel
theorem d_cr_init_48 : decode b_cr_init 48 = .ok (.newarray .long, 2) := by decide +kernel
theorem d_cr_init_50 : decode b_cr_init 50 = .ok (.putfield 30, 3) := by decide +kernel
theorem d_cr_init_53 : decode b_cr_init 53 = .ok (.aload_n 0, 1) := by decide +kernel
theorem d_cr_init_54 : decode b_cr_init 54 = .ok (.aload_n 1, 1) := by decide +kernel
theorem d_cr_init_55 : decode b_cr_init 55 = .ok (.putfield 33, 3) := by decide +kernel
theorem d_cr_init_58 : decode b_cr_init 58 = .ok (.return_, 1) := by decide +kernel
theorem d_cr_has_0 : decode b_cr_has 0 = .ok (.iload_n 1, 1) := by decide +kernel
theorem d_cr_has_1 : decode b_cr_has 1 = .ok (.ifCond .lt 15, 3) := by decide +kernel
theorem d_cr_has_4 : decode b_cr_has 4 = .ok (.iload_n 1, 1) := by decide +kernel
theorem d_cr_has_5 : decode b_cr_has 5 = .ok (.aload_n 0, 1) := by decide +kernel
theorem d_cr_has_6 : decode b_cr_has 6 = .ok (.getfield 37, 3) := by decide +kernel
theorem d_cr_has_9 : decode b_cr_has 9 = .ok (.if_icmp .ge 7, 3) := by decide +kernel
theorem d_cr_has_12 : decode b_cr_has 12 = .ok (.iconst 1, 1) := by decide +kernel
theorem d_cr_has_13 : decode b_cr_has 13 = .ok (.goto 4, 3) := by decide +kernel
theorem d_cr_has_16 : decode b_cr_has 16 = .ok (.iconst 0, 1) := by decide +kernel
theorem d_cr_has_17 : decode b_cr_has 17 = .ok (.ireturn, 1) := by decide +kernel
theorem d_cr_dismiss_0 : decode b_cr_dismiss 0 = .ok (.aload_n 0, 1) := by decide +kernel
theorem d_cr_dismiss_1 : decode b_cr_dismiss 1 = .ok (.iconst 0, 1) := by decide +kernel
theorem d_cr_dismiss_2 : decode b_cr_dismiss 2 = .ok (.putfield 37, 3) := by decide +kernel
theorem d_cr_dismiss_5 : decode b_cr_dismiss 5 = .ok (.return_, 1) := by decide +kernel
theorem d_cr_canTake_0 : decode b_cr_canTake 0 = .ok (.aload_n 0, 1) := by decide +kernel
theorem d_cr_canTake_1 : decode b_cr_canTake 1 = .ok (.getfield 37, 3) := by decide +kernel
theorem d_cr_canTake_4 : decode b_cr_canTake 4 = .ok (.iconst 5, 1) := by decide +kernel
theorem d_cr_canTake_5 : decode b_cr_canTake 5 = .ok (.if_icmp .lt 5, 3) := by decide +kernel
theorem d_cr_canTake_8 : decode b_cr_canTake 8 = .ok (.iconst 0, 1) := by decide +kernel
theorem d_cr_canTake_9 : decode b_cr_canTake 9 = .ok (.ireturn, 1) := by decide +kernel
theorem d_cr_canTake_10 : decode b_cr_canTake 10 = .ok (.aload_n 0, 1) := by decide +kernel
theorem d_cr_canTake_11 : decode b_cr_canTake 11 = .ok (.getfield 33, 3) := by decide +kernel
theorem d_cr_canTake_14 : decode b_cr_canTake 14 = .ok (.getfield 41, 3) := by decide +kernel
theorem d_cr_canTake_17 : decode b_cr_canTake 17 = .ok (.istore_n 3, 1) := by decide +kernel
theorem d_cr_canTake_18 : decode b_cr_canTake 18 = .ok (.iconst 0, 1) := by decide +kernel
theorem d_cr_canTake_19 : decode b_cr_canTake 19 = .ok (.istore 4, 2) := by decide +kernel
theorem d_cr_canTake_21 : decode b_cr_canTake 21 = .ok (.iload 4, 2) := by decide +kernel
theorem d_cr_canTake_23 : decode b_cr_canTake 23 = .ok (.aload_n 0, 1) := by decide +kernel
theorem d_cr_canTake_24 : decode b_cr_canTake 24 = .ok (.getfield 37, 3) := by decide +kernel
theorem d_cr_canTake_27 : decode b_cr_canTake 27 = .ok (.if_icmp .ge 43, 3) := by decide +kernel
theorem d_cr_canTake_30 : decode b_cr_canTake 30 = .ok (.aload_n 0, 1) := by decide +kernel
theorem d_cr_canTake_31 : decode b_cr_canTake 31 = .ok (.getfield 9, 3) := by decide +kernel
theorem d_cr_canTake_34 : decode b_cr_canTake 34 = .ok (.iload 4, 2) := by decide +kernel
theorem d_cr_canTake_36 : decode b_cr_canTake 36 = .ok (.iaload, 1) := by decide +kernel
theorem d_cr_canTake_37 : decode b_cr_canTake 37 = .ok (.iload_n 1, 1) := by decide +kernel
theorem d_cr_canTake_38 : decode b_cr_canTake 38 = .ok (.if_icmp .eq 14, 3) := by decide +kernel
theorem d_cr_canTake_41 : decode b_cr_canTake 41 = .ok (.aload_n 0, 1) := by decide +kernel
theorem d_cr_canTake_42 : decode b_cr_canTake 42 = .ok (.getfield 15, 3) := by decide +kernel
theorem d_cr_canTake_45 : decode b_cr_canTake 45 = .ok (.iload 4, 2) := by decide +kernel
theorem d_cr_canTake_47 : decode b_cr_canTake 47 = .ok (.iaload, 1) := by decide +kernel
theorem d_cr_canTake_48 : decode b_cr_canTake 48 = .ok (.iload_n 2, 1) := by decide +kernel
theorem d_cr_canTake_49 : decode b_cr_canTake 49 = .ok (.if_icmp .ne 5, 3) := by decide +kernel
theorem d_cr_canTake_52 : decode b_cr_canTake 52 = .ok (.iconst 0, 1) := by decide +kernel
theorem d_cr_canTake_53 : decode b_cr_canTake 53 = .ok (.ireturn, 1) := by decide +kernel
theorem d_cr_canTake_54 : decode b_cr_canTake 54 = .ok (.iload_n 3, 1) := by decide +kernel
theorem d_cr_canTake_55 : decode b_cr_canTake 55 = .ok (.aload_n 0, 1) := by decide +kernel
theorem d_cr_canTake_56 : decode b_cr_canTake 56 = .ok (.getfield 33, 3) := by decide +kernel
theorem d_cr_canTake_59 : decode b_cr_canTake 59 = .ok (.getfield 41, 3) := by decide +kernel
theorem d_cr_canTake_62 : decode b_cr_canTake 62 = .ok (.imul, 1) := by decide +kernel
theorem d_cr_canTake_63 : decode b_cr_canTake 63 = .ok (.istore_n 3, 1) := by decide +kernel
theorem d_cr_canTake_64 : decode b_cr_canTake 64 = .ok (.iinc 4 1, 3) := by decide +kernel
theorem d_cr_canTake_67 : decode b_cr_canTake 67 = .ok (.goto (-46), 3) := by decide +kernel
theorem d_cr_canTake_70 : decode b_cr_canTake 70 = .ok (.iload_n 3, 1) := by decide +kernel
theorem d_cr_canTake_71 : decode b_cr_canTake 71 = .ok (.sipush 16000, 3) := by decide +kernel
theorem d_cr_canTake_74 : decode b_cr_canTake 74 = .ok (.if_icmp .gt 7, 3) := by decide +kernel
theorem d_cr_canTake_77 : decode b_cr_canTake 77 = .ok (.iconst 1, 1) := by decide +kernel
theorem d_cr_canTake_78 : decode b_cr_canTake 78 = .ok (.goto 4, 3) := by decide +kernel
theorem d_cr_canTake_81 : decode b_cr_canTake 81 = .ok (.iconst 0, 1) := by decide +kernel
theorem d_cr_canTake_82 : decode b_cr_canTake 82 = .ok (.ireturn, 1) := by decide +kernel
theorem d_cr_take_0 : decode b_cr_take 0 = .ok (.aload_n 0, 1) := by decide +kernel
theorem d_cr_take_1 : decode b_cr_take 1 = .ok (.getfield 37, 3) := by decide +kernel
theorem d_cr_take_4 : decode b_cr_take 4 = .ok (.istore_n 3, 1) := by decide +kernel
theorem d_cr_take_5 : decode b_cr_take 5 = .ok (.aload_n 0, 1) := by decide +kernel
theorem d_cr_take_6 : decode b_cr_take 6 = .ok (.getfield 9, 3) := by decide +kernel
theorem d_cr_take_9 : decode b_cr_take 9 = .ok (.iload_n 3, 1) := by decide +kernel
theorem d_cr_take_10 : decode b_cr_take 10 = .ok (.iload_n 1, 1) := by decide +kernel
theorem d_cr_take_11 : decode b_cr_take 11 = .ok (.iastore, 1) := by decide +kernel
theorem d_cr_take_12 : decode b_cr_take 12 = .ok (.aload_n 0, 1) := by decide +kernel
theorem d_cr_take_13 : decode b_cr_take 13 = .ok (.getfield 15, 3) := by decide +kernel
theorem d_cr_take_16 : decode b_cr_take 16 = .ok (.iload_n 3, 1) := by decide +kernel
theorem d_cr_take_17 : decode b_cr_take 17 = .ok (.iload_n 2, 1) := by decide +kernel
theorem d_cr_take_18 : decode b_cr_take 18 = .ok (.iastore, 1) := by decide +kernel
theorem d_cr_take_19 : decode b_cr_take 19 = .ok (.aload_n 0, 1) := by decide +kernel
theorem d_cr_take_20 : decode b_cr_take 20 = .ok (.dup, 1) := by decide +kernel
theorem d_cr_take_21 : decode b_cr_take 21 = .ok (.getfield 37, 3) := by decide +kernel
theorem d_cr_take_24 : decode b_cr_take 24 = .ok (.iconst 1, 1) := by decide +kernel
theorem d_cr_take_25 : decode b_cr_take 25 = .ok (.iadd, 1) := by decide +kernel
theorem d_cr_take_26 : decode b_cr_take 26 = .ok (.putfield 37, 3) := by decide +kernel
theorem d_cr_take_29 : decode b_cr_take 29 = .ok (.aload_n 0, 1) := by decide +kernel
theorem d_cr_take_30 : decode b_cr_take 30 = .ok (.iload_n 2, 1) := by decide +kernel
theorem d_cr_take_31 : decode b_cr_take 31 = .ok (.aload_n 0, 1) := by decide +kernel
theorem d_cr_take_32 : decode b_cr_take 32 = .ok (.getfield 20, 3) := by decide +kernel
theorem d_cr_take_35 : decode b_cr_take 35 = .ok (.iload_n 3, 1) := by decide +kernel
theorem d_cr_take_36 : decode b_cr_take 36 = .ok (.aaload, 1) := by decide +kernel
theorem d_cr_take_37 : decode b_cr_take 37 = .ok (.invokevirtual 46, 3) := by decide +kernel
theorem d_cr_take_40 : decode b_cr_take 40 = .ok (.iload_n 3, 1) := by decide +kernel
theorem d_cr_take_41 : decode b_cr_take 41 = .ok (.ireturn, 1) := by decide +kernel
theorem d_cr_sumOfWays_0 : decode b_cr_sumOfWays 0 = .ok (.iconst 0, 1) := by decide +kernel
theorem d_cr_sumOfWays_1 : decode b_cr_sumOfWays 1 = .ok (.istore_n 1, 1) := by decide +kernel
theorem d_cr_sumOfWays_2 : decode b_cr_sumOfWays 2 = .ok (.iconst 0, 1) := by decide +kernel
theorem d_cr_sumOfWays_3 : decode b_cr_sumOfWays 3 = .ok (.istore_n 2, 1) := by decide +kernel
theorem d_cr_sumOfWays_4 : decode b_cr_sumOfWays 4 = .ok (.iload_n 2, 1) := by decide +kernel
theorem d_cr_sumOfWays_5 : decode b_cr_sumOfWays 5 = .ok (.aload_n 0, 1) := by decide +kernel
theorem d_cr_sumOfWays_6 : decode b_cr_sumOfWays 6 = .ok (.getfield 37, 3) := by decide +kernel
theorem d_cr_sumOfWays_9 : decode b_cr_sumOfWays 9 = .ok (.if_icmp .ge 26, 3) := by decide +kernel
theorem d_cr_sumOfWays_12 : decode b_cr_sumOfWays 12 = .ok (.aload_n 0, 1) := by decide +kernel
theorem d_cr_sumOfWays_13 : decode b_cr_sumOfWays 13 = .ok (.iload_n 2, 1) := by decide +kernel
theorem d_cr_sumOfWays_14 : decode b_cr_sumOfWays 14 = .ok (.invokevirtual 50, 3) := by decide +kernel
theorem d_cr_sumOfWays_17 : decode b_cr_sumOfWays 17 = .ok (.istore_n 3, 1) := by decide +kernel
theorem d_cr_sumOfWays_18 : decode b_cr_sumOfWays 18 = .ok (.iload_n 3, 1) := by decide +kernel
theorem d_cr_sumOfWays_19 : decode b_cr_sumOfWays 19 = .ok (.iconst (-1), 1) := by decide +kernel
theorem d_cr_sumOfWays_20 : decode b_cr_sumOfWays 20 = .ok (.if_icmp .ne 5, 3) := by decide +kernel
theorem d_cr_sumOfWays_23 : decode b_cr_sumOfWays 23 = .ok (.iconst (-1), 1) := by decide +kernel
theorem d_cr_sumOfWays_24 : decode b_cr_sumOfWays 24 = .ok (.ireturn, 1) := by decide +kernel
theorem d_cr_sumOfWays_25 : decode b_cr_sumOfWays 25 = .ok (.iload_n 1, 1) := by decide +kernel
theorem d_cr_sumOfWays_26 : decode b_cr_sumOfWays 26 = .ok (.iload_n 3, 1) := by decide +kernel
theorem d_cr_sumOfWays_27 : decode b_cr_sumOfWays 27 = .ok (.iadd, 1) := by decide +kernel
theorem d_cr_sumOfWays_28 : decode b_cr_sumOfWays 28 = .ok (.istore_n 1, 1) := by decide +kernel
theorem d_cr_sumOfWays_29 : decode b_cr_sumOfWays 29 = .ok (.iinc 2 1, 3) := by decide +kernel
theorem d_cr_sumOfWays_32 : decode b_cr_sumOfWays 32 = .ok (.goto (-28), 3) := by decide +kernel
theorem d_cr_sumOfWays_35 : decode b_cr_sumOfWays 35 = .ok (.iload_n 1, 1) := by decide +kernel
theorem d_cr_sumOfWays_36 : decode b_cr_sumOfWays 36 = .ok (.ireturn, 1) := by decide +kernel
theorem d_cr_measure_0 : decode b_cr_measure 0 = .ok (.aload_n 2, 1) := by decide +kernel
theorem d_cr_measure_1 : decode b_cr_measure 1 = .ok (.iconst (-1), 1) := by decide +kernel
theorem d_cr_measure_2 : decode b_cr_measure 2 = .ok (.invokestatic 77, 3) := by decide +kernel
theorem d_cr_measure_5 : decode b_cr_measure 5 = .ok (.aload_n 2, 1) := by decide +kernel
theorem d_cr_measure_6 : decode b_cr_measure 6 = .ok (.iload_n 1, 1) := by decide +kernel
theorem d_cr_measure_7 : decode b_cr_measure 7 = .ok (.iconst 0, 1) := by decide +kernel
theorem d_cr_measure_8 : decode b_cr_measure 8 = .ok (.iastore, 1) := by decide +kernel
theorem d_cr_measure_9 : decode b_cr_measure 9 = .ok (.aload_n 0, 1) := by decide +kernel
theorem d_cr_measure_10 : decode b_cr_measure 10 = .ok (.getfield 23, 3) := by decide +kernel
theorem d_cr_measure_13 : decode b_cr_measure 13 = .ok (.iconst 0, 1) := by decide +kernel
theorem d_cr_measure_14 : decode b_cr_measure 14 = .ok (.iload_n 1, 1) := by decide +kernel
theorem d_cr_measure_15 : decode b_cr_measure 15 = .ok (.iastore, 1) := by decide +kernel
theorem d_cr_measure_16 : decode b_cr_measure 16 = .ok (.iconst 1, 1) := by decide +kernel
theorem d_cr_measure_17 : decode b_cr_measure 17 = .ok (.istore_n 3, 1) := by decide +kernel
theorem d_cr_measure_18 : decode b_cr_measure 18 = .ok (.iconst 0, 1) := by decide +kernel
theorem d_cr_measure_19 : decode b_cr_measure 19 = .ok (.istore 4, 2) := by decide +kernel
theorem d_cr_measure_21 : decode b_cr_measure 21 = .ok (.iload 4, 2) := by decide +kernel
theorem d_cr_measure_23 : decode b_cr_measure 23 = .ok (.iload_n 3, 1) := by decide +kernel
theorem d_cr_measure_24 : decode b_cr_measure 24 = .ok (.if_icmp .ge 93, 3) := by decide +kernel
theorem d_cr_measure_27 : decode b_cr_measure 27 = .ok (.iload 4, 2) := by decide +kernel
theorem d_cr_measure_29 : decode b_cr_measure 29 = .ok (.bipush 25, 2) := by decide +kernel
theorem d_cr_measure_31 : decode b_cr_measure 31 = .ok (.if_icmp .ge 86, 3) := by decide +kernel
theorem d_cr_measure_34 : decode b_cr_measure 34 = .ok (.aload_n 0, 1) := by decide +kernel
theorem d_cr_measure_35 : decode b_cr_measure 35 = .ok (.getfield 23, 3) := by decide +kernel
theorem d_cr_measure_38 : decode b_cr_measure 38 = .ok (.iload 4, 2) := by decide +kernel
theorem d_cr_measure_40 : decode b_cr_measure 40 = .ok (.iaload, 1) := by decide +kernel
theorem d_cr_measure_41 : decode b_cr_measure 41 = .ok (.istore 5, 2) := by decide +kernel
theorem d_cr_measure_43 : decode b_cr_measure 43 = .ok (.iconst 0, 1) := by decide +kernel
theorem d_cr_measure_44 : decode b_cr_measure 44 = .ok (.istore 6, 2) := by decide +kernel
theorem d_cr_measure_46 : decode b_cr_measure 46 = .ok (.iload 6, 2) := by decide +kernel
theorem d_cr_measure_48 : decode b_cr_measure 48 = .ok (.aload_n 0, 1) := by decide +kernel
theorem d_cr_measure_49 : decode b_cr_measure 49 = .ok (.getfield 33, 3) := by decide +kernel
theorem d_cr_measure_52 : decode b_cr_measure 52 = .ok (.getfield 71, 3) := by decide +kernel
theorem d_cr_measure_55 : decode b_cr_measure 55 = .ok (.iload 5, 2) := by decide +kernel
theorem d_cr_measure_57 : decode b_cr_measure 57 = .ok (.iaload, 1) := by decide +kernel
theorem d_cr_measure_58 : decode b_cr_measure 58 = .ok (.if_icmp .ge 53, 3) := by decide +kernel
theorem d_cr_measure_61 : decode b_cr_measure 61 = .ok (.aload_n 0, 1) := by decide +kernel
theorem d_cr_measure_62 : decode b_cr_measure 62 = .ok (.getfield 33, 3) := by decide +kernel
theorem d_cr_measure_65 : decode b_cr_measure 65 = .ok (.getfield 74, 3) := by decide +kernel
theorem d_cr_measure_68 : decode b_cr_measure 68 = .ok (.iload 5, 2) := by decide +kernel
theorem d_cr_measure_70 : decode b_cr_measure 70 = .ok (.aaload, 1) := by decide +kernel
theorem d_cr_measure_71 : decode b_cr_measure 71 = .ok (.iload 6, 2) := by decide +kernel
theorem d_cr_measure_73 : decode b_cr_measure 73 = .ok (.iaload, 1) := by decide +kernel
theorem d_cr_measure_74 : decode b_cr_measure 74 = .ok (.istore 7, 2) := by decide +kernel
theorem d_cr_measure_76 : decode b_cr_measure 76 = .ok (.aload_n 2, 1) := by decide +kernel
theorem d_cr_measure_77 : decode b_cr_measure 77 = .ok (.iload 7, 2) := by decide +kernel
theorem d_cr_measure_79 : decode b_cr_measure 79 = .ok (.iaload, 1) := by decide +kernel
theorem d_cr_measure_80 : decode b_cr_measure 80 = .ok (.iconst (-1), 1) := by decide +kernel
theorem d_cr_measure_81 : decode b_cr_measure 81 = .ok (.if_icmp .ne 24, 3) := by decide +kernel
theorem d_cr_measure_84 : decode b_cr_measure 84 = .ok (.aload_n 2, 1) := by decide +kernel
theorem d_cr_measure_85 : decode b_cr_measure 85 = .ok (.iload 7, 2) := by decide +kernel
theorem d_cr_measure_87 : decode b_cr_measure 87 = .ok (.aload_n 2, 1) := by decide +kernel
theorem d_cr_measure_88 : decode b_cr_measure 88 = .ok (.iload 5, 2) := by decide +kernel
theorem d_cr_measure_90 : decode b_cr_measure 90 = .ok (.iaload, 1) := by decide +kernel
theorem d_cr_measure_91 : decode b_cr_measure 91 = .ok (.iconst 1, 1) := by decide +kernel
theorem d_cr_measure_92 : decode b_cr_measure 92 = .ok (.iadd, 1) := by decide +kernel
theorem d_cr_measure_93 : decode b_cr_measure 93 = .ok (.iastore, 1) := by decide +kernel
