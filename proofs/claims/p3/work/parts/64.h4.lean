theorem dX3_teach_0 : decode cX3_teach 0 = .ok (.aload_n 0, 1) := by decide +kernel
theorem dX3_teach_1 : decode cX3_teach 1 = .ok (.iload_n 1, 1) := by decide +kernel
theorem dX3_teach_2 : decode cX3_teach 2 = .ok (.putfield 18, 3) := by decide +kernel
theorem dX3_teach_5 : decode cX3_teach 5 = .ok (.aload_n 0, 1) := by decide +kernel
theorem dX3_teach_6 : decode cX3_teach 6 = .ok (.iconst 1, 1) := by decide +kernel
theorem dX3_teach_7 : decode cX3_teach 7 = .ok (.iload_n 2, 1) := by decide +kernel
theorem dX3_teach_8 : decode cX3_teach 8 = .ok (.ishl, 1) := by decide +kernel
theorem dX3_teach_9 : decode cX3_teach 9 = .ok (.putfield 22, 3) := by decide +kernel
theorem dX3_teach_12 : decode cX3_teach 12 = .ok (.return_, 1) := by decide +kernel
theorem dX3_begin_0 : decode cX3_begin 0 = .ok (.aload_n 0, 1) := by decide +kernel
theorem dX3_begin_1 : decode cX3_begin 1 = .ok (.getfield 12, 3) := by decide +kernel
theorem dX3_begin_4 : decode cX3_begin 4 = .ok (.aload_n 0, 1) := by decide +kernel
theorem dX3_begin_5 : decode cX3_begin 5 = .ok (.getfield 25, 3) := by decide +kernel
theorem dX3_begin_8 : decode cX3_begin 8 = .ok (.invokevirtual 28, 3) := by decide +kernel
theorem dX3_begin_11 : decode cX3_begin 11 = .ok (.aload_n 0, 1) := by decide +kernel
theorem dX3_begin_12 : decode cX3_begin 12 = .ok (.getfield 12, 3) := by decide +kernel
theorem dX3_begin_15 : decode cX3_begin 15 = .ok (.getfield 32, 3) := by decide +kernel
theorem dX3_begin_18 : decode cX3_begin 18 = .ok (.iconst (-1), 1) := by decide +kernel
theorem dX3_begin_19 : decode cX3_begin 19 = .ok (.invokestatic 36, 3) := by decide +kernel
theorem dX3_begin_22 : decode cX3_begin 22 = .ok (.aload_n 0, 1) := by decide +kernel
theorem dX3_begin_23 : decode cX3_begin 23 = .ok (.getfield 12, 3) := by decide +kernel
theorem dX3_begin_26 : decode cX3_begin 26 = .ok (.aload_n 0, 1) := by decide +kernel
theorem dX3_begin_27 : decode cX3_begin 27 = .ok (.getfield 18, 3) := by decide +kernel
theorem dX3_begin_30 : decode cX3_begin 30 = .ok (.invokevirtual 42, 3) := by decide +kernel
theorem dX3_begin_33 : decode cX3_begin 33 = .ok (.ifCond .eq 22, 3) := by decide +kernel
theorem dX3_begin_36 : decode cX3_begin 36 = .ok (.aload_n 0, 1) := by decide +kernel
theorem dX3_begin_37 : decode cX3_begin 37 = .ok (.getfield 12, 3) := by decide +kernel
theorem dX3_begin_40 : decode cX3_begin 40 = .ok (.getfield 46, 3) := by decide +kernel
theorem dX3_begin_43 : decode cX3_begin 43 = .ok (.aload_n 0, 1) := by decide +kernel
theorem dX3_begin_44 : decode cX3_begin 44 = .ok (.getfield 18, 3) := by decide +kernel
theorem dX3_begin_47 : decode cX3_begin 47 = .ok (.dup2, 1) := by decide +kernel
theorem dX3_begin_48 : decode cX3_begin 48 = .ok (.iaload, 1) := by decide +kernel
theorem dX3_begin_49 : decode cX3_begin 49 = .ok (.aload_n 0, 1) := by decide +kernel
theorem dX3_begin_50 : decode cX3_begin 50 = .ok (.getfield 22, 3) := by decide +kernel
theorem dX3_begin_53 : decode cX3_begin 53 = .ok (.ior, 1) := by decide +kernel
theorem dX3_begin_54 : decode cX3_begin 54 = .ok (.iastore, 1) := by decide +kernel
theorem dX3_begin_55 : decode cX3_begin 55 = .ok (.return_, 1) := by decide +kernel
theorem dX3_run_0 : decode cX3_run 0 = .ok (.iload 4, 2) := by decide +kernel
theorem dX3_run_2 : decode cX3_run 2 = .ok (.ifCond .lt 13, 3) := by decide +kernel
theorem dX3_run_5 : decode cX3_run 5 = .ok (.iload 4, 2) := by decide +kernel
theorem dX3_run_7 : decode cX3_run 7 = .ok (.bipush 11, 2) := by decide +kernel
theorem dX3_run_9 : decode cX3_run 9 = .ok (.iadd, 1) := by decide +kernel
theorem dX3_run_10 : decode cX3_run 10 = .ok (.aload_n 3, 1) := by decide +kernel
theorem dX3_run_11 : decode cX3_run 11 = .ok (.arraylength, 1) := by decide +kernel
theorem dX3_run_12 : decode cX3_run 12 = .ok (.if_icmp .le 5, 3) := by decide +kernel
theorem dX3_run_17 : decode cX3_run 17 = .ok (.aload_n 3, 1) := by decide +kernel
theorem dX3_run_18 : decode cX3_run 18 = .ok (.iload 4, 2) := by decide +kernel
theorem dX3_run_20 : decode cX3_run 20 = .ok (.iaload, 1) := by decide +kernel
theorem dX3_run_21 : decode cX3_run 21 = .ok (.bipush (-2), 2) := by decide +kernel
theorem dX3_run_23 : decode cX3_run 23 = .ok (.if_icmp .eq 8, 3) := by decide +kernel
theorem dX3_run_26 : decode cX3_run 26 = .ok (.aload_n 3, 1) := by decide +kernel
theorem dX3_run_27 : decode cX3_run 27 = .ok (.iload 4, 2) := by decide +kernel
theorem dX3_run_29 : decode cX3_run 29 = .ok (.iaload, 1) := by decide +kernel
theorem dX3_run_30 : decode cX3_run 30 = .ok (.ireturn, 1) := by decide +kernel
theorem dX3_run_31 : decode cX3_run 31 = .ok (.iconst 0, 1) := by decide +kernel
theorem dX3_run_32 : decode cX3_run 32 = .ok (.istore 5, 2) := by decide +kernel
theorem dX3_run_34 : decode cX3_run 34 = .ok (.iload 5, 2) := by decide +kernel
theorem dX3_run_36 : decode cX3_run 36 = .ok (.bipush 11, 2) := by decide +kernel
theorem dX3_run_38 : decode cX3_run 38 = .ok (.if_icmp .ge 17, 3) := by decide +kernel
theorem dX3_run_41 : decode cX3_run 41 = .ok (.aload_n 3, 1) := by decide +kernel
theorem dX3_run_42 : decode cX3_run 42 = .ok (.iload 4, 2) := by decide +kernel
theorem dX3_run_44 : decode cX3_run 44 = .ok (.iload 5, 2) := by decide +kernel
theorem dX3_run_46 : decode cX3_run 46 = .ok (.iadd, 1) := by decide +kernel
theorem dX3_run_47 : decode cX3_run 47 = .ok (.iconst (-1), 1) := by decide +kernel
theorem dX3_run_48 : decode cX3_run 48 = .ok (.iastore, 1) := by decide +kernel
theorem dX3_run_49 : decode cX3_run 49 = .ok (.iinc 5 1, 3) := by decide +kernel
theorem dX3_run_52 : decode cX3_run 52 = .ok (.goto (-18), 3) := by decide +kernel
theorem dX3_run_55 : decode cX3_run 55 = .ok (.aload_n 0, 1) := by decide +kernel
theorem dX3_run_56 : decode cX3_run 56 = .ok (.invokevirtual 49, 3) := by decide +kernel
theorem dX3_run_59 : decode cX3_run 59 = .ok (.iconst 0, 1) := by decide +kernel
theorem dX3_run_60 : decode cX3_run 60 = .ok (.istore 5, 2) := by decide +kernel
theorem dX3_run_62 : decode cX3_run 62 = .ok (.iload 5, 2) := by decide +kernel
theorem dX3_run_64 : decode cX3_run 64 = .ok (.iload_n 2, 1) := by decide +kernel
theorem dX3_run_65 : decode cX3_run 65 = .ok (.if_icmp .gt 67, 3) := by decide +kernel
theorem dX3_run_68 : decode cX3_run 68 = .ok (.aload_n 0, 1) := by decide +kernel
theorem dX3_run_69 : decode cX3_run 69 = .ok (.iload 5, 2) := by decide +kernel
theorem dX3_run_71 : decode cX3_run 71 = .ok (.aload_n 3, 1) := by decide +kernel
theorem dX3_run_72 : decode cX3_run 72 = .ok (.iload 4, 2) := by decide +kernel
theorem dX3_run_74 : decode cX3_run 74 = .ok (.invokevirtual 52, 3) := by decide +kernel
theorem dX3_run_77 : decode cX3_run 77 = .ok (.ifCond .eq 12, 3) := by decide +kernel
theorem dX3_run_80 : decode cX3_run 80 = .ok (.aload_n 3, 1) := by decide +kernel
theorem dX3_run_81 : decode cX3_run 81 = .ok (.iload 4, 2) := by decide +kernel
theorem dX3_run_83 : decode cX3_run 83 = .ok (.iload 5, 2) := by decide +kernel
theorem dX3_run_85 : decode cX3_run 85 = .ok (.iastore, 1) := by decide +kernel
theorem dX3_run_86 : decode cX3_run 86 = .ok (.iload 5, 2) := by decide +kernel
theorem dX3_run_88 : decode cX3_run 88 = .ok (.ireturn, 1) := by decide +kernel
theorem dX3_run_89 : decode cX3_run 89 = .ok (.iload 5, 2) := by decide +kernel
theorem dX3_run_91 : decode cX3_run 91 = .ok (.iload_n 2, 1) := by decide +kernel
theorem dX3_run_92 : decode cX3_run 92 = .ok (.if_icmp .eq 10, 3) := by decide +kernel
theorem dX3_run_95 : decode cX3_run 95 = .ok (.aload_n 0, 1) := by decide +kernel
theorem dX3_run_96 : decode cX3_run 96 = .ok (.invokevirtual 56, 3) := by decide +kernel
theorem dX3_run_99 : decode cX3_run 99 = .ok (.ifCond .ne 5, 3) := by decide +kernel
theorem dX3_run_102 : decode cX3_run 102 = .ok (.iconst (-1), 1) := by decide +kernel
theorem dX3_run_103 : decode cX3_run 103 = .ok (.ireturn, 1) := by decide +kernel
theorem dX3_run_104 : decode cX3_run 104 = .ok (.aload_n 0, 1) := by decide +kernel
theorem dX3_run_105 : decode cX3_run 105 = .ok (.iload_n 1, 1) := by decide +kernel
theorem dX3_run_106 : decode cX3_run 106 = .ok (.invokevirtual 60, 3) := by decide +kernel
theorem dX3_run_109 : decode cX3_run 109 = .ok (.aload_n 0, 1) := by decide +kernel
theorem dX3_run_110 : decode cX3_run 110 = .ok (.invokevirtual 64, 3) := by decide +kernel
theorem dX3_run_113 : decode cX3_run 113 = .ok (.ifCond .eq 5, 3) := by decide +kernel
theorem dX3_run_116 : decode cX3_run 116 = .ok (.iconst (-1), 1) := by decide +kernel
theorem dX3_run_117 : decode cX3_run 117 = .ok (.ireturn, 1) := by decide +kernel
theorem dX3_run_118 : decode cX3_run 118 = .ok (.aload_n 0, 1) := by decide +kernel
theorem dX3_run_119 : decode cX3_run 119 = .ok (.getfield 12, 3) := by decide +kernel
theorem dX3_run_122 : decode cX3_run 122 = .ok (.invokevirtual 67, 3) := by decide +kernel
theorem dX3_run_125 : decode cX3_run 125 = .ok (.pop, 1) := by decide +kernel
theorem dX3_run_126 : decode cX3_run 126 = .ok (.iinc 5 1, 3) := by decide +kernel
theorem dX3_run_129 : decode cX3_run 129 = .ok (.goto (-67), 3) := by decide +kernel
theorem dX3_run_132 : decode cX3_run 132 = .ok (.iconst (-1), 1) := by decide +kernel
theorem dX3_run_133 : decode cX3_run 133 = .ok (.ireturn, 1) := by decide +kernel
theorem dX3_isStuck_0 : decode cX3_isStuck 0 = .ok (.aload_n 0, 1) := by decide +kernel
theorem dX3_isStuck_1 : decode cX3_isStuck 1 = .ok (.getfield 12, 3) := by decide +kernel
theorem dX3_isStuck_4 : decode cX3_isStuck 4 = .ok (.getfield 71, 3) := by decide +kernel
theorem dX3_isStuck_7 : decode cX3_isStuck 7 = .ok (.iconst (-1), 1) := by decide +kernel
theorem dX3_isStuck_8 : decode cX3_isStuck 8 = .ok (.if_icmp .eq 5, 3) := by decide +kernel
theorem dX3_isStuck_11 : decode cX3_isStuck 11 = .ok (.iconst 0, 1) := by decide +kernel
theorem dX3_isStuck_12 : decode cX3_isStuck 12 = .ok (.ireturn, 1) := by decide +kernel
theorem dX3_isStuck_13 : decode cX3_isStuck 13 = .ok (.iconst 0, 1) := by decide +kernel
theorem dX3_isStuck_14 : decode cX3_isStuck 14 = .ok (.istore_n 1, 1) := by decide +kernel
theorem dX3_isStuck_15 : decode cX3_isStuck 15 = .ok (.iload_n 1, 1) := by decide +kernel
theorem dX3_isStuck_16 : decode cX3_isStuck 16 = .ok (.aload_n 0, 1) := by decide +kernel
theorem dX3_isStuck_17 : decode cX3_isStuck 17 = .ok (.getfield 12, 3) := by decide +kernel
theorem dX3_isStuck_20 : decode cX3_isStuck 20 = .ok (.getfield 74, 3) := by decide +kernel
theorem dX3_isStuck_23 : decode cX3_isStuck 23 = .ok (.if_icmp .ge 30, 3) := by decide +kernel
theorem dX3_isStuck_26 : decode cX3_isStuck 26 = .ok (.iload_n 1, 1) := by decide +kernel
theorem dX3_isStuck_27 : decode cX3_isStuck 27 = .ok (.bipush 6, 2) := by decide +kernel
theorem dX3_isStuck_29 : decode cX3_isStuck 29 = .ok (.if_icmp .ge 24, 3) := by decide +kernel
theorem dX3_isStuck_32 : decode cX3_isStuck 32 = .ok (.aload_n 0, 1) := by decide +kernel
theorem dX3_isStuck_33 : decode cX3_isStuck 33 = .ok (.getfield 12, 3) := by decide +kernel
theorem dX3_isStuck_36 : decode cX3_isStuck 36 = .ok (.getfield 32, 3) := by decide +kernel
theorem dX3_isStuck_39 : decode cX3_isStuck 39 = .ok (.iload_n 1, 1) := by decide +kernel
theorem dX3_isStuck_40 : decode cX3_isStuck 40 = .ok (.iaload, 1) := by decide +kernel
theorem dX3_isStuck_41 : decode cX3_isStuck 41 = .ok (.iconst (-1), 1) := by decide +kernel
theorem dX3_isStuck_42 : decode cX3_isStuck 42 = .ok (.if_icmp .eq 5, 3) := by decide +kernel
theorem dX3_isStuck_45 : decode cX3_isStuck 45 = .ok (.iconst 0, 1) := by decide +kernel
theorem dX3_isStuck_46 : decode cX3_isStuck 46 = .ok (.ireturn, 1) := by decide +kernel
theorem dX3_isStuck_47 : decode cX3_isStuck 47 = .ok (.iinc 1 1, 3) := by decide +kernel
theorem dX3_isStuck_50 : decode cX3_isStuck 50 = .ok (.goto (-35), 3) := by decide +kernel
theorem dX3_isStuck_53 : decode cX3_isStuck 53 = .ok (.iconst 1, 1) := by decide +kernel
theorem dX3_isStuck_54 : decode cX3_isStuck 54 = .ok (.ireturn, 1) := by decide +kernel
theorem dX3_canTick_0 : decode cX3_canTick 0 = .ok (.aload_n 0, 1) := by decide +kernel
theorem dX3_canTick_1 : decode cX3_canTick 1 = .ok (.getfield 12, 3) := by decide +kernel
theorem dX3_canTick_4 : decode cX3_canTick 4 = .ok (.getfield 77, 3) := by decide +kernel
theorem dX3_canTick_7 : decode cX3_canTick 7 = .ok (.iconst 0, 1) := by decide +kernel
theorem dX3_canTick_8 : decode cX3_canTick 8 = .ok (.iaload, 1) := by decide +kernel
theorem dX3_canTick_9 : decode cX3_canTick 9 = .ok (.sipush 999, 3) := by decide +kernel
theorem dX3_canTick_12 : decode cX3_canTick 12 = .ok (.if_icmp .ge 7, 3) := by decide +kernel
theorem dX3_canTick_15 : decode cX3_canTick 15 = .ok (.iconst 1, 1) := by decide +kernel
theorem dX3_canTick_16 : decode cX3_canTick 16 = .ok (.goto 4, 3) := by decide +kernel
theorem dX3_canTick_19 : decode cX3_canTick 19 = .ok (.iconst 0, 1) := by decide +kernel
theorem dX3_canTick_20 : decode cX3_canTick 20 = .ok (.ireturn, 1) := by decide +kernel
theorem dX3_allStand_0 : decode cX3_allStand 0 = .ok (.aload_n 0, 1) := by decide +kernel
theorem dX3_allStand_1 : decode cX3_allStand 1 = .ok (.getfield 12, 3) := by decide +kernel
theorem dX3_allStand_4 : decode cX3_allStand 4 = .ok (.invokevirtual 80, 3) := by decide +kernel
theorem dX3_allStand_7 : decode cX3_allStand 7 = .ok (.iconst 1, 1) := by decide +kernel
theorem dX3_allStand_8 : decode cX3_allStand 8 = .ok (.aload_n 0, 1) := by decide +kernel
theorem dX3_allStand_9 : decode cX3_allStand 9 = .ok (.getfield 12, 3) := by decide +kernel
theorem dX3_allStand_12 : decode cX3_allStand 12 = .ok (.getfield 83, 3) := by decide +kernel
theorem dX3_allStand_15 : decode cX3_allStand 15 = .ok (.ishl, 1) := by decide +kernel
theorem dX3_allStand_16 : decode cX3_allStand 16 = .ok (.iconst 1, 1) := by decide +kernel
theorem dX3_allStand_17 : decode cX3_allStand 17 = .ok (.isub, 1) := by decide +kernel
theorem dX3_allStand_18 : decode cX3_allStand 18 = .ok (.if_icmp .ne 7, 3) := by decide +kernel
theorem dX3_allStand_21 : decode cX3_allStand 21 = .ok (.iconst 1, 1) := by decide +kernel
theorem dX3_allStand_22 : decode cX3_allStand 22 = .ok (.goto 4, 3) := by decide +kernel
theorem dX3_allStand_25 : decode cX3_allStand 25 = .ok (.iconst 0, 1) := by decide +kernel
theorem dX3_allStand_26 : decode cX3_allStand 26 = .ok (.ireturn, 1) := by decide +kernel
theorem dX3_noteStanding_0 : decode cX3_noteStanding 0 = .ok (.iconst 0, 1) := by decide +kernel
theorem dX3_noteStanding_1 : decode cX3_noteStanding 1 = .ok (.istore 4, 2) := by decide +kernel
theorem dX3_noteStanding_3 : decode cX3_noteStanding 3 = .ok (.iconst 0, 1) := by decide +kernel
theorem dX3_noteStanding_4 : decode cX3_noteStanding 4 = .ok (.istore 5, 2) := by decide +kernel
theorem dX3_noteStanding_6 : decode cX3_noteStanding 6 = .ok (.iload 5, 2) := by decide +kernel
theorem dX3_noteStanding_8 : decode cX3_noteStanding 8 = .ok (.aload_n 0, 1) := by decide +kernel
theorem dX3_noteStanding_9 : decode cX3_noteStanding 9 = .ok (.getfield 12, 3) := by decide +kernel
theorem dX3_noteStanding_12 : decode cX3_noteStanding 12 = .ok (.getfield 83, 3) := by decide +kernel
theorem dX3_noteStanding_15 : decode cX3_noteStanding 15 = .ok (.if_icmp .ge 53, 3) := by decide +kernel
theorem dX3_noteStanding_18 : decode cX3_noteStanding 18 = .ok (.iload 5, 2) := by decide +kernel
theorem dX3_noteStanding_20 : decode cX3_noteStanding 20 = .ok (.bipush 10, 2) := by decide +kernel
theorem dX3_noteStanding_22 : decode cX3_noteStanding 22 = .ok (.if_icmp .ge 46, 3) := by decide +kernel
theorem dX3_noteStanding_25 : decode cX3_noteStanding 25 = .ok (.aload_n 0, 1) := by decide +kernel
theorem dX3_noteStanding_26 : decode cX3_noteStanding 26 = .ok (.getfield 12, 3) := by decide +kernel
theorem dX3_noteStanding_29 : decode cX3_noteStanding 29 = .ok (.getfield 86, 3) := by decide +kernel
theorem dX3_noteStanding_32 : decode cX3_noteStanding 32 = .ok (.iload 5, 2) := by decide +kernel
theorem dX3_noteStanding_34 : decode cX3_noteStanding 34 = .ok (.iaload, 1) := by decide +kernel
theorem dX3_noteStanding_35 : decode cX3_noteStanding 35 = .ok (.ifCond .ne 27, 3) := by decide +kernel
theorem dX3_noteStanding_38 : decode cX3_noteStanding 38 = .ok (.iinc 4 1, 3) := by decide +kernel
theorem dX3_noteStanding_41 : decode cX3_noteStanding 41 = .ok (.aload_n 2, 1) := by decide +kernel
theorem dX3_noteStanding_42 : decode cX3_noteStanding 42 = .ok (.iload_n 3, 1) := by decide +kernel
theorem dX3_noteStanding_43 : decode cX3_noteStanding 43 = .ok (.iconst 1, 1) := by decide +kernel
theorem dX3_noteStanding_44 : decode cX3_noteStanding 44 = .ok (.iadd, 1) := by decide +kernel
theorem dX3_noteStanding_45 : decode cX3_noteStanding 45 = .ok (.iload 5, 2) := by decide +kernel
theorem dX3_noteStanding_47 : decode cX3_noteStanding 47 = .ok (.iadd, 1) := by decide +kernel
theorem dX3_noteStanding_48 : decode cX3_noteStanding 48 = .ok (.iaload, 1) := by decide +kernel
theorem dX3_noteStanding_49 : decode cX3_noteStanding 49 = .ok (.iconst (-1), 1) := by decide +kernel
theorem dX3_noteStanding_50 : decode cX3_noteStanding 50 = .ok (.if_icmp .ne 12, 3) := by decide +kernel
theorem dX3_noteStanding_53 : decode cX3_noteStanding 53 = .ok (.aload_n 2, 1) := by decide +kernel
theorem dX3_noteStanding_54 : decode cX3_noteStanding 54 = .ok (.iload_n 3, 1) := by decide +kernel
theorem dX3_noteStanding_55 : decode cX3_noteStanding 55 = .ok (.iconst 1, 1) := by decide +kernel
theorem dX3_noteStanding_56 : decode cX3_noteStanding 56 = .ok (.iadd, 1) := by decide +kernel
theorem dX3_noteStanding_57 : decode cX3_noteStanding 57 = .ok (.iload 5, 2) := by decide +kernel
theorem dX3_noteStanding_59 : decode cX3_noteStanding 59 = .ok (.iadd, 1) := by decide +kernel
theorem dX3_noteStanding_60 : decode cX3_noteStanding 60 = .ok (.iload_n 1, 1) := by decide +kernel
theorem dX3_noteStanding_61 : decode cX3_noteStanding 61 = .ok (.iastore, 1) := by decide +kernel
theorem dX3_noteStanding_62 : decode cX3_noteStanding 62 = .ok (.iinc 5 1, 3) := by decide +kernel
theorem dX3_noteStanding_65 : decode cX3_noteStanding 65 = .ok (.goto (-59), 3) := by decide +kernel
theorem dX3_noteStanding_68 : decode cX3_noteStanding 68 = .ok (.iload 4, 2) := by decide +kernel
theorem dX3_noteStanding_70 : decode cX3_noteStanding 70 = .ok (.aload_n 0, 1) := by decide +kernel
theorem dX3_noteStanding_71 : decode cX3_noteStanding 71 = .ok (.getfield 12, 3) := by decide +kernel
theorem dX3_noteStanding_74 : decode cX3_noteStanding 74 = .ok (.getfield 83, 3) := by decide +kernel
theorem dX3_noteStanding_77 : decode cX3_noteStanding 77 = .ok (.if_icmp .ne 7, 3) := by decide +kernel
theorem dX3_noteStanding_80 : decode cX3_noteStanding 80 = .ok (.iconst 1, 1) := by decide +kernel
theorem dX3_noteStanding_81 : decode cX3_noteStanding 81 = .ok (.goto 4, 3) := by decide +kernel
theorem dX3_noteStanding_84 : decode cX3_noteStanding 84 = .ok (.iconst 0, 1) := by decide +kernel
theorem dX3_noteStanding_85 : decode cX3_noteStanding 85 = .ok (.ireturn, 1) := by decide +kernel
theorem dX3_sendFree_0 : decode cX3_sendFree 0 = .ok (.aload_n 0, 1) := by decide +kernel
theorem dX3_sendFree_1 : decode cX3_sendFree 1 = .ok (.getfield 12, 3) := by decide +kernel
theorem dX3_sendFree_4 : decode cX3_sendFree 4 = .ok (.getfield 89, 3) := by decide +kernel
theorem dX3_sendFree_7 : decode cX3_sendFree 7 = .ok (.getfield 93, 3) := by decide +kernel
theorem dX3_sendFree_10 : decode cX3_sendFree 10 = .ok (.astore_n 2, 1) := by decide +kernel
theorem dX3_sendFree_11 : decode cX3_sendFree 11 = .ok (.iconst (-1), 1) := by decide +kernel
theorem dX3_sendFree_12 : decode cX3_sendFree 12 = .ok (.istore_n 3, 1) := by decide +kernel
theorem dX3_sendFree_13 : decode cX3_sendFree 13 = .ok (.iconst 0, 1) := by decide +kernel
theorem dX3_sendFree_14 : decode cX3_sendFree 14 = .ok (.istore 4, 2) := by decide +kernel
theorem dX3_sendFree_16 : decode cX3_sendFree 16 = .ok (.iload 4, 2) := by decide +kernel
theorem dX3_sendFree_18 : decode cX3_sendFree 18 = .ok (.aload_n 0, 1) := by decide +kernel
theorem dX3_sendFree_19 : decode cX3_sendFree 19 = .ok (.getfield 12, 3) := by decide +kernel
theorem dX3_sendFree_22 : decode cX3_sendFree 22 = .ok (.getfield 74, 3) := by decide +kernel
theorem dX3_sendFree_25 : decode cX3_sendFree 25 = .ok (.if_icmp .ge 179, 3) := by decide +kernel
theorem dX3_sendFree_28 : decode cX3_sendFree 28 = .ok (.iload 4, 2) := by decide +kernel
theorem dX3_sendFree_30 : decode cX3_sendFree 30 = .ok (.bipush 6, 2) := by decide +kernel
theorem dX3_sendFree_32 : decode cX3_sendFree 32 = .ok (.if_icmp .ge 172, 3) := by decide +kernel
theorem dX3_sendFree_35 : decode cX3_sendFree 35 = .ok (.iload_n 1, 1) := by decide +kernel
theorem dX3_sendFree_36 : decode cX3_sendFree 36 = .ok (.iload 4, 2) := by decide +kernel
theorem dX3_sendFree_38 : decode cX3_sendFree 38 = .ok (.ishr, 1) := by decide +kernel
theorem dX3_sendFree_39 : decode cX3_sendFree 39 = .ok (.iconst 1, 1) := by decide +kernel
theorem dX3_sendFree_40 : decode cX3_sendFree 40 = .ok (.iand, 1) := by decide +kernel
theorem dX3_sendFree_41 : decode cX3_sendFree 41 = .ok (.ifCond .eq 157, 3) := by decide +kernel
theorem dX3_sendFree_44 : decode cX3_sendFree 44 = .ok (.aload_n 0, 1) := by decide +kernel
theorem dX3_sendFree_45 : decode cX3_sendFree 45 = .ok (.getfield 12, 3) := by decide +kernel
theorem dX3_sendFree_48 : decode cX3_sendFree 48 = .ok (.getfield 32, 3) := by decide +kernel
theorem dX3_sendFree_51 : decode cX3_sendFree 51 = .ok (.iload 4, 2) := by decide +kernel
theorem dX3_sendFree_53 : decode cX3_sendFree 53 = .ok (.iaload, 1) := by decide +kernel
theorem dX3_sendFree_54 : decode cX3_sendFree 54 = .ok (.iconst (-1), 1) := by decide +kernel
theorem dX3_sendFree_55 : decode cX3_sendFree 55 = .ok (.if_icmp .eq 6, 3) := by decide +kernel
theorem dX3_sendFree_58 : decode cX3_sendFree 58 = .ok (.goto 140, 3) := by decide +kernel
theorem dX3_sendFree_61 : decode cX3_sendFree 61 = .ok (.iload_n 3, 1) := by decide +kernel
theorem dX3_sendFree_62 : decode cX3_sendFree 62 = .ok (.iconst (-1), 1) := by decide +kernel
theorem dX3_sendFree_63 : decode cX3_sendFree 63 = .ok (.if_icmp .ne 19, 3) := by decide +kernel
theorem dX3_sendFree_66 : decode cX3_sendFree 66 = .ok (.aload_n 0, 1) := by decide +kernel
theorem dX3_sendFree_67 : decode cX3_sendFree 67 = .ok (.getfield 12, 3) := by decide +kernel
theorem dX3_sendFree_70 : decode cX3_sendFree 70 = .ok (.invokevirtual 98, 3) := by decide +kernel
theorem dX3_sendFree_73 : decode cX3_sendFree 73 = .ok (.istore_n 3, 1) := by decide +kernel
theorem dX3_sendFree_74 : decode cX3_sendFree 74 = .ok (.aload_n 0, 1) := by decide +kernel
theorem dX3_sendFree_75 : decode cX3_sendFree 75 = .ok (.getfield 12, 3) := by decide +kernel
theorem dX3_sendFree_78 : decode cX3_sendFree 78 = .ok (.invokevirtual 101, 3) := by decide +kernel
theorem dX3_sendFree_81 : decode cX3_sendFree 81 = .ok (.pop, 1) := by decide +kernel
theorem dX3_sendFree_82 : decode cX3_sendFree 82 = .ok (.iconst (-1), 1) := by decide +kernel
theorem dX3_sendFree_83 : decode cX3_sendFree 83 = .ok (.istore 5, 2) := by decide +kernel
theorem dX3_sendFree_85 : decode cX3_sendFree 85 = .ok (.iconst 0, 1) := by decide +kernel
theorem dX3_sendFree_86 : decode cX3_sendFree 86 = .ok (.istore 6, 2) := by decide +kernel
theorem dX3_sendFree_88 : decode cX3_sendFree 88 = .ok (.iload 6, 2) := by decide +kernel
theorem dX3_sendFree_90 : decode cX3_sendFree 90 = .ok (.aload_n 0, 1) := by decide +kernel
theorem dX3_sendFree_91 : decode cX3_sendFree 91 = .ok (.getfield 12, 3) := by decide +kernel
theorem dX3_sendFree_94 : decode cX3_sendFree 94 = .ok (.getfield 83, 3) := by decide +kernel
theorem dX3_sendFree_97 : decode cX3_sendFree 97 = .ok (.if_icmp .ge 89, 3) := by decide +kernel
theorem dX3_sendFree_100 : decode cX3_sendFree 100 = .ok (.iload 6, 2) := by decide +kernel
theorem dX3_sendFree_102 : decode cX3_sendFree 102 = .ok (.bipush 10, 2) := by decide +kernel
theorem dX3_sendFree_104 : decode cX3_sendFree 104 = .ok (.if_icmp .ge 82, 3) := by decide +kernel
theorem dX3_sendFree_107 : decode cX3_sendFree 107 = .ok (.iload_n 3, 1) := by decide +kernel
theorem dX3_sendFree_108 : decode cX3_sendFree 108 = .ok (.iload 6, 2) := by decide +kernel
theorem dX3_sendFree_110 : decode cX3_sendFree 110 = .ok (.ishr, 1) := by decide +kernel
theorem dX3_sendFree_111 : decode cX3_sendFree 111 = .ok (.iconst 1, 1) := by decide +kernel
theorem dX3_sendFree_112 : decode cX3_sendFree 112 = .ok (.iand, 1) := by decide +kernel
theorem dX3_sendFree_113 : decode cX3_sendFree 113 = .ok (.iconst 1, 1) := by decide +kernel
theorem dX3_sendFree_114 : decode cX3_sendFree 114 = .ok (.if_icmp .ne 24, 3) := by decide +kernel
theorem dX3_sendFree_117 : decode cX3_sendFree 117 = .ok (.iload 5, 2) := by decide +kernel
theorem dX3_sendFree_119 : decode cX3_sendFree 119 = .ok (.iconst (-1), 1) := by decide +kernel
theorem dX3_sendFree_120 : decode cX3_sendFree 120 = .ok (.if_icmp .eq 14, 3) := by decide +kernel
theorem dX3_sendFree_123 : decode cX3_sendFree 123 = .ok (.aload_n 2, 1) := by decide +kernel
theorem dX3_sendFree_124 : decode cX3_sendFree 124 = .ok (.iload 6, 2) := by decide +kernel
theorem dX3_sendFree_126 : decode cX3_sendFree 126 = .ok (.iaload, 1) := by decide +kernel
theorem dX3_sendFree_127 : decode cX3_sendFree 127 = .ok (.aload_n 2, 1) := by decide +kernel
theorem dX3_sendFree_128 : decode cX3_sendFree 128 = .ok (.iload 5, 2) := by decide +kernel
theorem dX3_sendFree_130 : decode cX3_sendFree 130 = .ok (.iaload, 1) := by decide +kernel
theorem dX3_sendFree_131 : decode cX3_sendFree 131 = .ok (.if_icmp .le 7, 3) := by decide +kernel
theorem dX3_sendFree_134 : decode cX3_sendFree 134 = .ok (.iconst 1, 1) := by decide +kernel
theorem dX3_sendFree_135 : decode cX3_sendFree 135 = .ok (.goto 4, 3) := by decide +kernel
theorem dX3_sendFree_138 : decode cX3_sendFree 138 = .ok (.iconst 0, 1) := by decide +kernel
theorem dX3_sendFree_139 : decode cX3_sendFree 139 = .ok (.istore 7, 2) := by decide +kernel
theorem dX3_sendFree_141 : decode cX3_sendFree 141 = .ok (.iload 7, 2) := by decide +kernel
theorem dX3_sendFree_143 : decode cX3_sendFree 143 = .ok (.ifCond .eq 37, 3) := by decide +kernel
theorem dX3_sendFree_146 : decode cX3_sendFree 146 = .ok (.aload_n 0, 1) := by decide +kernel
theorem dX3_sendFree_147 : decode cX3_sendFree 147 = .ok (.getfield 12, 3) := by decide +kernel
theorem dX3_sendFree_150 : decode cX3_sendFree 150 = .ok (.iconst 3, 1) := by decide +kernel
theorem dX3_sendFree_151 : decode cX3_sendFree 151 = .ok (.iload 4, 2) := by decide +kernel
theorem dX3_sendFree_153 : decode cX3_sendFree 153 = .ok (.iload 6, 2) := by decide +kernel
theorem dX3_sendFree_155 : decode cX3_sendFree 155 = .ok (.invokevirtual 104, 3) := by decide +kernel
theorem dX3_sendFree_158 : decode cX3_sendFree 158 = .ok (.ifCond .ne 22, 3) := by decide +kernel
theorem dX3_sendFree_161 : decode cX3_sendFree 161 = .ok (.aload_n 0, 1) := by decide +kernel
theorem dX3_sendFree_162 : decode cX3_sendFree 162 = .ok (.getfield 12, 3) := by decide +kernel
theorem dX3_sendFree_165 : decode cX3_sendFree 165 = .ok (.iconst 0, 1) := by decide +kernel
theorem dX3_sendFree_166 : decode cX3_sendFree 166 = .ok (.iload 4, 2) := by decide +kernel
theorem dX3_sendFree_168 : decode cX3_sendFree 168 = .ok (.iload 6, 2) := by decide +kernel
theorem dX3_sendFree_170 : decode cX3_sendFree 170 = .ok (.invokevirtual 104, 3) := by decide +kernel
theorem dX3_sendFree_173 : decode cX3_sendFree 173 = .ok (.ifCond .le 7, 3) := by decide +kernel
theorem dX3_sendFree_176 : decode cX3_sendFree 176 = .ok (.iload 6, 2) := by decide +kernel
theorem dX3_sendFree_178 : decode cX3_sendFree 178 = .ok (.istore 5, 2) := by decide +kernel
theorem dX3_sendFree_180 : decode cX3_sendFree 180 = .ok (.iinc 6 1, 3) := by decide +kernel
theorem dX3_sendFree_183 : decode cX3_sendFree 183 = .ok (.goto (-95), 3) := by decide +kernel
theorem dX3_sendFree_186 : decode cX3_sendFree 186 = .ok (.aload_n 0, 1) := by decide +kernel
theorem dX3_sendFree_187 : decode cX3_sendFree 187 = .ok (.getfield 12, 3) := by decide +kernel
theorem dX3_sendFree_190 : decode cX3_sendFree 190 = .ok (.getfield 32, 3) := by decide +kernel
theorem dX3_sendFree_193 : decode cX3_sendFree 193 = .ok (.iload 4, 2) := by decide +kernel
theorem dX3_sendFree_195 : decode cX3_sendFree 195 = .ok (.iload 5, 2) := by decide +kernel
theorem dX3_sendFree_197 : decode cX3_sendFree 197 = .ok (.iastore, 1) := by decide +kernel
theorem dX3_sendFree_198 : decode cX3_sendFree 198 = .ok (.iinc 4 1, 3) := by decide +kernel
theorem dX3_sendFree_201 : decode cX3_sendFree 201 = .ok (.goto (-185), 3) := by decide +kernel
theorem dX3_sendFree_204 : decode cX3_sendFree 204 = .ok (.return_, 1) := by decide +kernel
theorem dX3_chanceUnseen_0 : decode cX3_chanceUnseen 0 = .ok (.aload_n 0, 1) := by decide +kernel
theorem dX3_chanceUnseen_1 : decode cX3_chanceUnseen 1 = .ok (.invokevirtual 49, 3) := by decide +kernel
theorem dX3_chanceUnseen_4 : decode cX3_chanceUnseen 4 = .ok (.ldc2_w 108, 3) := by decide +kernel
theorem dX3_chanceUnseen_7 : decode cX3_chanceUnseen 7 = .ok (.lstore_n 2, 1) := by decide +kernel
theorem dX3_chanceUnseen_8 : decode cX3_chanceUnseen 8 = .ok (.iconst 0, 1) := by decide +kernel
theorem dX3_chanceUnseen_9 : decode cX3_chanceUnseen 9 = .ok (.istore 4, 2) := by decide +kernel
theorem dX3_chanceUnseen_11 : decode cX3_chanceUnseen 11 = .ok (.iload 4, 2) := by decide +kernel
theorem dX3_chanceUnseen_13 : decode cX3_chanceUnseen 13 = .ok (.iload_n 1, 1) := by decide +kernel
theorem dX3_chanceUnseen_14 : decode cX3_chanceUnseen 14 = .ok (.if_icmp .ge 116, 3) := by decide +kernel
theorem dX3_chanceUnseen_17 : decode cX3_chanceUnseen 17 = .ok (.aload_n 0, 1) := by decide +kernel
theorem dX3_chanceUnseen_18 : decode cX3_chanceUnseen 18 = .ok (.invokevirtual 56, 3) := by decide +kernel
theorem dX3_chanceUnseen_21 : decode cX3_chanceUnseen 21 = .ok (.ifCond .eq 109, 3) := by decide +kernel
theorem dX3_chanceUnseen_24 : decode cX3_chanceUnseen 24 = .ok (.aload_n 0, 1) := by decide +kernel
theorem dX3_chanceUnseen_25 : decode cX3_chanceUnseen 25 = .ok (.invokevirtual 110, 3) := by decide +kernel
theorem dX3_chanceUnseen_28 : decode cX3_chanceUnseen 28 = .ok (.ifCond .ne 102, 3) := by decide +kernel
theorem dX3_chanceUnseen_31 : decode cX3_chanceUnseen 31 = .ok (.aload_n 0, 1) := by decide +kernel
theorem dX3_chanceUnseen_32 : decode cX3_chanceUnseen 32 = .ok (.bipush 63, 2) := by decide +kernel
theorem dX3_chanceUnseen_34 : decode cX3_chanceUnseen 34 = .ok (.invokevirtual 60, 3) := by decide +kernel
theorem dX3_chanceUnseen_37 : decode cX3_chanceUnseen 37 = .ok (.iconst 0, 1) := by decide +kernel
theorem dX3_chanceUnseen_38 : decode cX3_chanceUnseen 38 = .ok (.istore 5, 2) := by decide +kernel
theorem dX3_chanceUnseen_40 : decode cX3_chanceUnseen 40 = .ok (.iload 5, 2) := by decide +kernel
theorem dX3_chanceUnseen_42 : decode cX3_chanceUnseen 42 = .ok (.aload_n 0, 1) := by decide +kernel
theorem dX3_chanceUnseen_43 : decode cX3_chanceUnseen 43 = .ok (.getfield 12, 3) := by decide +kernel
theorem dX3_chanceUnseen_46 : decode cX3_chanceUnseen 46 = .ok (.getfield 74, 3) := by decide +kernel
theorem dX3_chanceUnseen_49 : decode cX3_chanceUnseen 49 = .ok (.if_icmp .ge 67, 3) := by decide +kernel
theorem dX3_chanceUnseen_52 : decode cX3_chanceUnseen 52 = .ok (.iload 5, 2) := by decide +kernel
theorem dX3_chanceUnseen_54 : decode cX3_chanceUnseen 54 = .ok (.bipush 6, 2) := by decide +kernel
theorem dX3_chanceUnseen_56 : decode cX3_chanceUnseen 56 = .ok (.if_icmp .ge 60, 3) := by decide +kernel
theorem dX3_chanceUnseen_59 : decode cX3_chanceUnseen 59 = .ok (.aload_n 0, 1) := by decide +kernel
theorem dX3_chanceUnseen_60 : decode cX3_chanceUnseen 60 = .ok (.getfield 12, 3) := by decide +kernel
theorem dX3_chanceUnseen_63 : decode cX3_chanceUnseen 63 = .ok (.aload_n 0, 1) := by decide +kernel
theorem dX3_chanceUnseen_64 : decode cX3_chanceUnseen 64 = .ok (.getfield 12, 3) := by decide +kernel
theorem dX3_chanceUnseen_67 : decode cX3_chanceUnseen 67 = .ok (.getfield 32, 3) := by decide +kernel
theorem dX3_chanceUnseen_70 : decode cX3_chanceUnseen 70 = .ok (.iload 5, 2) := by decide +kernel
theorem dX3_chanceUnseen_72 : decode cX3_chanceUnseen 72 = .ok (.iaload, 1) := by decide +kernel
theorem dX3_chanceUnseen_73 : decode cX3_chanceUnseen 73 = .ok (.invokevirtual 113, 3) := by decide +kernel
theorem dX3_chanceUnseen_76 : decode cX3_chanceUnseen 76 = .ok (.ifCond .eq 34, 3) := by decide +kernel
theorem dX3_chanceUnseen_79 : decode cX3_chanceUnseen 79 = .ok (.lload_n 2, 1) := by decide +kernel
theorem dX3_chanceUnseen_80 : decode cX3_chanceUnseen 80 = .ok (.bipush 10, 2) := by decide +kernel
theorem dX3_chanceUnseen_82 : decode cX3_chanceUnseen 82 = .ok (.aload_n 0, 1) := by decide +kernel
theorem dX3_chanceUnseen_83 : decode cX3_chanceUnseen 83 = .ok (.getfield 12, 3) := by decide +kernel
theorem dX3_chanceUnseen_86 : decode cX3_chanceUnseen 86 = .ok (.iconst 2, 1) := by decide +kernel
theorem dX3_chanceUnseen_87 : decode cX3_chanceUnseen 87 = .ok (.iload 5, 2) := by decide +kernel
theorem dX3_chanceUnseen_89 : decode cX3_chanceUnseen 89 = .ok (.aload_n 0, 1) := by decide +kernel
theorem dX3_chanceUnseen_90 : decode cX3_chanceUnseen 90 = .ok (.getfield 12, 3) := by decide +kernel
theorem dX3_chanceUnseen_93 : decode cX3_chanceUnseen 93 = .ok (.getfield 32, 3) := by decide +kernel
theorem dX3_chanceUnseen_96 : decode cX3_chanceUnseen 96 = .ok (.iload 5, 2) := by decide +kernel
theorem dX3_chanceUnseen_98 : decode cX3_chanceUnseen 98 = .ok (.iaload, 1) := by decide +kernel
theorem dX3_chanceUnseen_99 : decode cX3_chanceUnseen 99 = .ok (.invokevirtual 104, 3) := by decide +kernel
theorem dX3_chanceUnseen_102 : decode cX3_chanceUnseen 102 = .ok (.isub, 1) := by decide +kernel
theorem dX3_chanceUnseen_103 : decode cX3_chanceUnseen 103 = .ok (.i2l, 1) := by decide +kernel
theorem dX3_chanceUnseen_104 : decode cX3_chanceUnseen 104 = .ok (.lmul, 1) := by decide +kernel
theorem dX3_chanceUnseen_105 : decode cX3_chanceUnseen 105 = .ok (.ldc2_w 116, 3) := by decide +kernel
theorem dX3_chanceUnseen_108 : decode cX3_chanceUnseen 108 = .ok (.ldiv, 1) := by decide +kernel
theorem dX3_chanceUnseen_109 : decode cX3_chanceUnseen 109 = .ok (.lstore_n 2, 1) := by decide +kernel
theorem dX3_chanceUnseen_110 : decode cX3_chanceUnseen 110 = .ok (.iinc 5 1, 3) := by decide +kernel
theorem dX3_chanceUnseen_113 : decode cX3_chanceUnseen 113 = .ok (.goto (-73), 3) := by decide +kernel
theorem dX3_chanceUnseen_116 : decode cX3_chanceUnseen 116 = .ok (.aload_n 0, 1) := by decide +kernel
theorem dX3_chanceUnseen_117 : decode cX3_chanceUnseen 117 = .ok (.getfield 12, 3) := by decide +kernel
theorem dX3_chanceUnseen_120 : decode cX3_chanceUnseen 120 = .ok (.invokevirtual 67, 3) := by decide +kernel
theorem dX3_chanceUnseen_123 : decode cX3_chanceUnseen 123 = .ok (.pop, 1) := by decide +kernel
theorem dX3_chanceUnseen_124 : decode cX3_chanceUnseen 124 = .ok (.iinc 4 1, 3) := by decide +kernel
theorem dX3_chanceUnseen_127 : decode cX3_chanceUnseen 127 = .ok (.goto (-116), 3) := by decide +kernel
theorem dX3_chanceUnseen_130 : decode cX3_chanceUnseen 130 = .ok (.lload_n 2, 1) := by decide +kernel
theorem dX3_chanceUnseen_131 : decode cX3_chanceUnseen 131 = .ok (.lreturn, 1) := by decide +kernel
theorem dX5_runAll_0 : decode cX5_runAll 0 = .ok (.aload_n 0, 1) := by decide +kernel
theorem dX5_runAll_1 : decode cX5_runAll 1 = .ok (.getfield 12, 3) := by decide +kernel
theorem dX5_runAll_4 : decode cX5_runAll 4 = .ok (.aload_n 0, 1) := by decide +kernel
theorem dX5_runAll_5 : decode cX5_runAll 5 = .ok (.getfield 38, 3) := by decide +kernel
theorem dX5_runAll_8 : decode cX5_runAll 8 = .ok (.invokevirtual 48, 3) := by decide +kernel
theorem dX5_runAll_11 : decode cX5_runAll 11 = .ok (.aload_n 0, 1) := by decide +kernel
theorem dX5_runAll_12 : decode cX5_runAll 12 = .ok (.getfield 21, 3) := by decide +kernel
theorem dX5_runAll_15 : decode cX5_runAll 15 = .ok (.aload_n 0, 1) := by decide +kernel
theorem dX5_runAll_16 : decode cX5_runAll 16 = .ok (.getfield 41, 3) := by decide +kernel
theorem dX5_runAll_19 : decode cX5_runAll 19 = .ok (.invokevirtual 52, 3) := by decide +kernel
theorem dX5_runAll_22 : decode cX5_runAll 22 = .ok (.aload_n 0, 1) := by decide +kernel
theorem dX5_runAll_23 : decode cX5_runAll 23 = .ok (.iconst 0, 1) := by decide +kernel
theorem dX5_runAll_24 : decode cX5_runAll 24 = .ok (.putfield 31, 3) := by decide +kernel
theorem dX5_runAll_27 : decode cX5_runAll 27 = .ok (.aload_n 0, 1) := by decide +kernel
theorem dX5_runAll_28 : decode cX5_runAll 28 = .ok (.iconst (-1), 1) := by decide +kernel
theorem dX5_runAll_29 : decode cX5_runAll 29 = .ok (.putfield 35, 3) := by decide +kernel
theorem dX5_runAll_32 : decode cX5_runAll 32 = .ok (.iconst 0, 1) := by decide +kernel
theorem dX5_runAll_33 : decode cX5_runAll 33 = .ok (.istore_n 2, 1) := by decide +kernel
theorem dX5_runAll_34 : decode cX5_runAll 34 = .ok (.iload_n 2, 1) := by decide +kernel
theorem dX5_runAll_35 : decode cX5_runAll 35 = .ok (.aload_n 1, 1) := by decide +kernel
theorem dX5_runAll_36 : decode cX5_runAll 36 = .ok (.getfield 55, 3) := by decide +kernel
theorem dX5_runAll_39 : decode cX5_runAll 39 = .ok (.if_icmp .ge 66, 3) := by decide +kernel
theorem dX5_runAll_42 : decode cX5_runAll 42 = .ok (.iload_n 2, 1) := by decide +kernel
theorem dX5_runAll_43 : decode cX5_runAll 43 = .ok (.bipush 12, 2) := by decide +kernel
theorem dX5_runAll_45 : decode cX5_runAll 45 = .ok (.if_icmp .ge 60, 3) := by decide +kernel
theorem dX5_runAll_48 : decode cX5_runAll 48 = .ok (.iconst 0, 1) := by decide +kernel
theorem dX5_runAll_49 : decode cX5_runAll 49 = .ok (.istore_n 3, 1) := by decide +kernel
theorem dX5_runAll_50 : decode cX5_runAll 50 = .ok (.iload_n 3, 1) := by decide +kernel
theorem dX5_runAll_51 : decode cX5_runAll 51 = .ok (.aload_n 1, 1) := by decide +kernel
theorem dX5_runAll_52 : decode cX5_runAll 52 = .ok (.getfield 60, 3) := by decide +kernel
theorem dX5_runAll_55 : decode cX5_runAll 55 = .ok (.iload_n 2, 1) := by decide +kernel
theorem dX5_runAll_56 : decode cX5_runAll 56 = .ok (.iaload, 1) := by decide +kernel
theorem dX5_runAll_57 : decode cX5_runAll 57 = .ok (.if_icmp .ge 42, 3) := by decide +kernel
theorem dX5_runAll_60 : decode cX5_runAll 60 = .ok (.aload_n 0, 1) := by decide +kernel
theorem dX5_runAll_61 : decode cX5_runAll 61 = .ok (.aload_n 1, 1) := by decide +kernel
theorem dX5_runAll_62 : decode cX5_runAll 62 = .ok (.iload_n 2, 1) := by decide +kernel
theorem dX5_runAll_63 : decode cX5_runAll 63 = .ok (.invokevirtual 64, 3) := by decide +kernel
theorem dX5_runAll_66 : decode cX5_runAll 66 = .ok (.ifCond .ne 27, 3) := by decide +kernel
theorem dX5_runAll_69 : decode cX5_runAll 69 = .ok (.aload_n 0, 1) := by decide +kernel
theorem dX5_runAll_70 : decode cX5_runAll 70 = .ok (.getfield 38, 3) := by decide +kernel
theorem dX5_runAll_73 : decode cX5_runAll 73 = .ok (.aload_n 0, 1) := by decide +kernel
theorem dX5_runAll_74 : decode cX5_runAll 74 = .ok (.getfield 12, 3) := by decide +kernel
theorem dX5_runAll_77 : decode cX5_runAll 77 = .ok (.invokevirtual 48, 3) := by decide +kernel
theorem dX5_runAll_80 : decode cX5_runAll 80 = .ok (.aload_n 0, 1) := by decide +kernel
theorem dX5_runAll_81 : decode cX5_runAll 81 = .ok (.getfield 41, 3) := by decide +kernel
theorem dX5_runAll_84 : decode cX5_runAll 84 = .ok (.aload_n 0, 1) := by decide +kernel
theorem dX5_runAll_85 : decode cX5_runAll 85 = .ok (.getfield 21, 3) := by decide +kernel
theorem dX5_runAll_88 : decode cX5_runAll 88 = .ok (.invokevirtual 52, 3) := by decide +kernel
theorem dX5_runAll_91 : decode cX5_runAll 91 = .ok (.iload_n 2, 1) := by decide +kernel
theorem dX5_runAll_92 : decode cX5_runAll 92 = .ok (.ireturn, 1) := by decide +kernel
theorem dX5_runAll_93 : decode cX5_runAll 93 = .ok (.iinc 3 1, 3) := by decide +kernel
theorem dX5_runAll_96 : decode cX5_runAll 96 = .ok (.goto (-46), 3) := by decide +kernel
theorem dX5_runAll_99 : decode cX5_runAll 99 = .ok (.iinc 2 1, 3) := by decide +kernel
theorem dX5_runAll_102 : decode cX5_runAll 102 = .ok (.goto (-68), 3) := by decide +kernel
theorem dX5_runAll_105 : decode cX5_runAll 105 = .ok (.iconst (-1), 1) := by decide +kernel
theorem dX5_runAll_106 : decode cX5_runAll 106 = .ok (.ireturn, 1) := by decide +kernel
theorem dX5_runOnce_0 : decode cX5_runOnce 0 = .ok (.aload_n 0, 1) := by decide +kernel
theorem dX5_runOnce_1 : decode cX5_runOnce 1 = .ok (.invokevirtual 68, 3) := by decide +kernel
theorem dX5_runOnce_4 : decode cX5_runOnce 4 = .ok (.aload_n 1, 1) := by decide +kernel
theorem dX5_runOnce_5 : decode cX5_runOnce 5 = .ok (.iload_n 2, 1) := by decide +kernel
theorem dX5_runOnce_6 : decode cX5_runOnce 6 = .ok (.iconst 2, 1) := by decide +kernel
theorem dX5_runOnce_7 : decode cX5_runOnce 7 = .ok (.aload_n 0, 1) := by decide +kernel
theorem dX5_runOnce_8 : decode cX5_runOnce 8 = .ok (.getfield 27, 3) := by decide +kernel
theorem dX5_runOnce_11 : decode cX5_runOnce 11 = .ok (.aload_n 0, 1) := by decide +kernel
theorem dX5_runOnce_12 : decode cX5_runOnce 12 = .ok (.getfield 38, 3) := by decide +kernel
theorem dX5_runOnce_15 : decode cX5_runOnce 15 = .ok (.getfield 71, 3) := by decide +kernel
theorem dX5_runOnce_18 : decode cX5_runOnce 18 = .ok (.getfield 75, 3) := by decide +kernel
theorem dX5_runOnce_21 : decode cX5_runOnce 21 = .ok (.invokevirtual 80, 3) := by decide +kernel
theorem dX5_runOnce_24 : decode cX5_runOnce 24 = .ok (.lconst 1, 1) := by decide +kernel
theorem dX5_runOnce_25 : decode cX5_runOnce 25 = .ok (.lcmp, 1) := by decide +kernel
theorem dX5_runOnce_26 : decode cX5_runOnce 26 = .ok (.ifCond .eq 5, 3) := by decide +kernel
theorem dX5_runOnce_29 : decode cX5_runOnce 29 = .ok (.iconst 1, 1) := by decide +kernel
theorem dX5_runOnce_30 : decode cX5_runOnce 30 = .ok (.ireturn, 1) := by decide +kernel
theorem dX5_runOnce_31 : decode cX5_runOnce 31 = .ok (.aload_n 1, 1) := by decide +kernel
theorem dX5_runOnce_32 : decode cX5_runOnce 32 = .ok (.iload_n 2, 1) := by decide +kernel
theorem dX5_runOnce_33 : decode cX5_runOnce 33 = .ok (.iconst 0, 1) := by decide +kernel
theorem dX5_runOnce_34 : decode cX5_runOnce 34 = .ok (.aload_n 0, 1) := by decide +kernel
theorem dX5_runOnce_35 : decode cX5_runOnce 35 = .ok (.getfield 27, 3) := by decide +kernel
theorem dX5_runOnce_38 : decode cX5_runOnce 38 = .ok (.aload_n 0, 1) := by decide +kernel
theorem dX5_runOnce_39 : decode cX5_runOnce 39 = .ok (.getfield 38, 3) := by decide +kernel
theorem dX5_runOnce_42 : decode cX5_runOnce 42 = .ok (.getfield 71, 3) := by decide +kernel
theorem dX5_runOnce_45 : decode cX5_runOnce 45 = .ok (.getfield 75, 3) := by decide +kernel
theorem dX5_runOnce_48 : decode cX5_runOnce 48 = .ok (.invokevirtual 80, 3) := by decide +kernel
theorem dX5_runOnce_51 : decode cX5_runOnce 51 = .ok (.lstore_n 3, 1) := by decide +kernel
theorem dX5_runOnce_52 : decode cX5_runOnce 52 = .ok (.aload_n 1, 1) := by decide +kernel
theorem dX5_runOnce_53 : decode cX5_runOnce 53 = .ok (.iload_n 2, 1) := by decide +kernel
theorem dX5_runOnce_54 : decode cX5_runOnce 54 = .ok (.iconst 1, 1) := by decide +kernel
theorem dX5_runOnce_55 : decode cX5_runOnce 55 = .ok (.aload_n 0, 1) := by decide +kernel
theorem dX5_runOnce_56 : decode cX5_runOnce 56 = .ok (.getfield 27, 3) := by decide +kernel
theorem dX5_runOnce_59 : decode cX5_runOnce 59 = .ok (.aload_n 0, 1) := by decide +kernel
theorem dX5_runOnce_60 : decode cX5_runOnce 60 = .ok (.getfield 38, 3) := by decide +kernel
theorem dX5_runOnce_63 : decode cX5_runOnce 63 = .ok (.getfield 71, 3) := by decide +kernel
theorem dX5_runOnce_66 : decode cX5_runOnce 66 = .ok (.getfield 75, 3) := by decide +kernel
theorem dX5_runOnce_69 : decode cX5_runOnce 69 = .ok (.invokevirtual 80, 3) := by decide +kernel
theorem dX5_runOnce_72 : decode cX5_runOnce 72 = .ok (.lstore 5, 2) := by decide +kernel
theorem dX5_runOnce_74 : decode cX5_runOnce 74 = .ok (.lload_n 3, 1) := by decide +kernel
theorem dX5_runOnce_75 : decode cX5_runOnce 75 = .ok (.ldc2_w 84, 3) := by decide +kernel
theorem dX5_runOnce_78 : decode cX5_runOnce 78 = .ok (.lcmp, 1) := by decide +kernel
theorem dX5_runOnce_79 : decode cX5_runOnce 79 = .ok (.ifCond .eq 12, 3) := by decide +kernel
theorem dX5_runOnce_82 : decode cX5_runOnce 82 = .ok (.lload 5, 2) := by decide +kernel
theorem dX5_runOnce_84 : decode cX5_runOnce 84 = .ok (.ldc2_w 84, 3) := by decide +kernel
theorem dX5_runOnce_87 : decode cX5_runOnce 87 = .ok (.lcmp, 1) := by decide +kernel
theorem dX5_runOnce_88 : decode cX5_runOnce 88 = .ok (.ifCond .ne 5, 3) := by decide +kernel
theorem dX5_runOnce_91 : decode cX5_runOnce 91 = .ok (.iconst 0, 1) := by decide +kernel
theorem dX5_runOnce_92 : decode cX5_runOnce 92 = .ok (.ireturn, 1) := by decide +kernel
theorem dX5_runOnce_93 : decode cX5_runOnce 93 = .ok (.aload_n 1, 1) := by decide +kernel
theorem dX5_runOnce_94 : decode cX5_runOnce 94 = .ok (.getfield 86, 3) := by decide +kernel
theorem dX5_runOnce_97 : decode cX5_runOnce 97 = .ok (.iload_n 2, 1) := by decide +kernel
theorem dX5_runOnce_98 : decode cX5_runOnce 98 = .ok (.iaload, 1) := by decide +kernel
theorem dX5_runOnce_99 : decode cX5_runOnce 99 = .ok (.istore 7, 2) := by decide +kernel
theorem dX5_runOnce_101 : decode cX5_runOnce 101 = .ok (.iload 7, 2) := by decide +kernel
theorem dX5_runOnce_103 : decode cX5_runOnce 103 = .ok (.ifCond .ne 20, 3) := by decide +kernel
theorem dX5_runOnce_106 : decode cX5_runOnce 106 = .ok (.aload_n 0, 1) := by decide +kernel
theorem dX5_runOnce_107 : decode cX5_runOnce 107 = .ok (.getfield 44, 3) := by decide +kernel
theorem dX5_runOnce_110 : decode cX5_runOnce 110 = .ok (.lload_n 3, 1) := by decide +kernel
theorem dX5_runOnce_111 : decode cX5_runOnce 111 = .ok (.l2i, 1) := by decide +kernel
theorem dX5_runOnce_112 : decode cX5_runOnce 112 = .ok (.lload 5, 2) := by decide +kernel
theorem dX5_runOnce_114 : decode cX5_runOnce 114 = .ok (.l2i, 1) := by decide +kernel
theorem dX5_runOnce_115 : decode cX5_runOnce 115 = .ok (.invokevirtual 89, 3) := by decide +kernel
theorem dX5_runOnce_118 : decode cX5_runOnce 118 = .ok (.istore 8, 2) := by decide +kernel
theorem dX5_runOnce_120 : decode cX5_runOnce 120 = .ok (.goto 58, 3) := by decide +kernel
theorem dX5_runOnce_123 : decode cX5_runOnce 123 = .ok (.iload 7, 2) := by decide +kernel
theorem dX5_runOnce_125 : decode cX5_runOnce 125 = .ok (.iconst 1, 1) := by decide +kernel
theorem dX5_runOnce_126 : decode cX5_runOnce 126 = .ok (.if_icmp .ne 17, 3) := by decide +kernel
theorem dX5_runOnce_129 : decode cX5_runOnce 129 = .ok (.aload_n 0, 1) := by decide +kernel
theorem dX5_runOnce_130 : decode cX5_runOnce 130 = .ok (.getfield 44, 3) := by decide +kernel
theorem dX5_runOnce_133 : decode cX5_runOnce 133 = .ok (.lload_n 3, 1) := by decide +kernel
theorem dX5_runOnce_134 : decode cX5_runOnce 134 = .ok (.l2i, 1) := by decide +kernel
theorem dX5_runOnce_135 : decode cX5_runOnce 135 = .ok (.invokevirtual 95, 3) := by decide +kernel
theorem dX5_runOnce_138 : decode cX5_runOnce 138 = .ok (.istore 8, 2) := by decide +kernel
theorem dX5_runOnce_140 : decode cX5_runOnce 140 = .ok (.goto 38, 3) := by decide +kernel
theorem dX5_runOnce_143 : decode cX5_runOnce 143 = .ok (.iload 7, 2) := by decide +kernel
theorem dX5_runOnce_145 : decode cX5_runOnce 145 = .ok (.iconst 2, 1) := by decide +kernel
theorem dX5_runOnce_146 : decode cX5_runOnce 146 = .ok (.if_icmp .ne 17, 3) := by decide +kernel
theorem dX5_runOnce_149 : decode cX5_runOnce 149 = .ok (.aload_n 0, 1) := by decide +kernel
theorem dX5_runOnce_150 : decode cX5_runOnce 150 = .ok (.getfield 44, 3) := by decide +kernel
theorem dX5_runOnce_153 : decode cX5_runOnce 153 = .ok (.lload_n 3, 1) := by decide +kernel
theorem dX5_runOnce_154 : decode cX5_runOnce 154 = .ok (.l2i, 1) := by decide +kernel
theorem dX5_runOnce_155 : decode cX5_runOnce 155 = .ok (.invokevirtual 99, 3) := by decide +kernel
theorem dX5_runOnce_158 : decode cX5_runOnce 158 = .ok (.istore 8, 2) := by decide +kernel
theorem dX5_runOnce_160 : decode cX5_runOnce 160 = .ok (.goto 18, 3) := by decide +kernel
theorem dX5_runOnce_163 : decode cX5_runOnce 163 = .ok (.aload_n 0, 1) := by decide +kernel
theorem dX5_runOnce_164 : decode cX5_runOnce 164 = .ok (.getfield 44, 3) := by decide +kernel
theorem dX5_runOnce_167 : decode cX5_runOnce 167 = .ok (.invokevirtual 102, 3) := by decide +kernel
theorem dX5_runOnce_170 : decode cX5_runOnce 170 = .ok (.istore 8, 2) := by decide +kernel
theorem dX5_runOnce_172 : decode cX5_runOnce 172 = .ok (.aload_n 0, 1) := by decide +kernel
theorem dX5_runOnce_173 : decode cX5_runOnce 173 = .ok (.iload 8, 2) := by decide +kernel
theorem dX5_runOnce_175 : decode cX5_runOnce 175 = .ok (.putfield 35, 3) := by decide +kernel
theorem dX5_runOnce_178 : decode cX5_runOnce 178 = .ok (.aload_n 0, 1) := by decide +kernel
theorem dX5_runOnce_179 : decode cX5_runOnce 179 = .ok (.dup, 1) := by decide +kernel
theorem dX5_runOnce_180 : decode cX5_runOnce 180 = .ok (.getfield 31, 3) := by decide +kernel
theorem dX5_runOnce_183 : decode cX5_runOnce 183 = .ok (.iconst 1, 1) := by decide +kernel
theorem dX5_runOnce_184 : decode cX5_runOnce 184 = .ok (.iadd, 1) := by decide +kernel
theorem dX5_runOnce_185 : decode cX5_runOnce 185 = .ok (.putfield 31, 3) := by decide +kernel
theorem dX5_runOnce_188 : decode cX5_runOnce 188 = .ok (.iload 8, 2) := by decide +kernel
theorem dX5_runOnce_190 : decode cX5_runOnce 190 = .ok (.ifCond .lt 7, 3) := by decide +kernel
theorem dX5_runOnce_193 : decode cX5_runOnce 193 = .ok (.iconst 1, 1) := by decide +kernel
theorem dX5_runOnce_194 : decode cX5_runOnce 194 = .ok (.goto 4, 3) := by decide +kernel
theorem dX5_runOnce_197 : decode cX5_runOnce 197 = .ok (.iconst 0, 1) := by decide +kernel
theorem dX5_runOnce_198 : decode cX5_runOnce 198 = .ok (.ireturn, 1) := by decide +kernel
theorem dX5_writeWords_0 : decode cX5_writeWords 0 = .ok (.aload_n 0, 1) := by decide +kernel
theorem dX5_writeWords_1 : decode cX5_writeWords 1 = .ok (.getfield 27, 3) := by decide +kernel
theorem dX5_writeWords_4 : decode cX5_writeWords 4 = .ok (.iconst 0, 1) := by decide +kernel
theorem dX5_writeWords_5 : decode cX5_writeWords 5 = .ok (.aload_n 0, 1) := by decide +kernel
theorem dX5_writeWords_6 : decode cX5_writeWords 6 = .ok (.getfield 38, 3) := by decide +kernel
theorem dX5_writeWords_9 : decode cX5_writeWords 9 = .ok (.getfield 106, 3) := by decide +kernel
theorem dX5_writeWords_12 : decode cX5_writeWords 12 = .ok (.iconst 0, 1) := by decide +kernel
theorem dX5_writeWords_13 : decode cX5_writeWords 13 = .ok (.iaload, 1) := by decide +kernel
theorem dX5_writeWords_14 : decode cX5_writeWords 14 = .ok (.i2l, 1) := by decide +kernel
theorem dX5_writeWords_15 : decode cX5_writeWords 15 = .ok (.lastore, 1) := by decide +kernel
theorem dX5_writeWords_16 : decode cX5_writeWords 16 = .ok (.aload_n 0, 1) := by decide +kernel
theorem dX5_writeWords_17 : decode cX5_writeWords 17 = .ok (.getfield 27, 3) := by decide +kernel
theorem dX5_writeWords_20 : decode cX5_writeWords 20 = .ok (.iconst 1, 1) := by decide +kernel
theorem dX5_writeWords_21 : decode cX5_writeWords 21 = .ok (.aload_n 0, 1) := by decide +kernel
theorem dX5_writeWords_22 : decode cX5_writeWords 22 = .ok (.getfield 31, 3) := by decide +kernel
theorem dX5_writeWords_25 : decode cX5_writeWords 25 = .ok (.i2l, 1) := by decide +kernel
theorem dX5_writeWords_26 : decode cX5_writeWords 26 = .ok (.lastore, 1) := by decide +kernel
theorem dX5_writeWords_27 : decode cX5_writeWords 27 = .ok (.aload_n 0, 1) := by decide +kernel
theorem dX5_writeWords_28 : decode cX5_writeWords 28 = .ok (.getfield 27, 3) := by decide +kernel
theorem dX5_writeWords_31 : decode cX5_writeWords 31 = .ok (.iconst 2, 1) := by decide +kernel
theorem dX5_writeWords_32 : decode cX5_writeWords 32 = .ok (.aload_n 0, 1) := by decide +kernel
theorem dX5_writeWords_33 : decode cX5_writeWords 33 = .ok (.getfield 35, 3) := by decide +kernel
theorem dX5_writeWords_36 : decode cX5_writeWords 36 = .ok (.i2l, 1) := by decide +kernel
theorem dX5_writeWords_37 : decode cX5_writeWords 37 = .ok (.lastore, 1) := by decide +kernel
theorem dX5_writeWords_38 : decode cX5_writeWords 38 = .ok (.aload_n 0, 1) := by decide +kernel
theorem dX5_writeWords_39 : decode cX5_writeWords 39 = .ok (.getfield 27, 3) := by decide +kernel
theorem dX5_writeWords_42 : decode cX5_writeWords 42 = .ok (.iconst 3, 1) := by decide +kernel
theorem dX5_writeWords_43 : decode cX5_writeWords 43 = .ok (.aload_n 0, 1) := by decide +kernel
theorem dX5_writeWords_44 : decode cX5_writeWords 44 = .ok (.getfield 38, 3) := by decide +kernel
theorem dX5_writeWords_47 : decode cX5_writeWords 47 = .ok (.invokevirtual 109, 3) := by decide +kernel
theorem dX5_writeWords_50 : decode cX5_writeWords 50 = .ok (.invokestatic 112, 3) := by decide +kernel
theorem dX5_writeWords_53 : decode cX5_writeWords 53 = .ok (.i2l, 1) := by decide +kernel
theorem dX5_writeWords_54 : decode cX5_writeWords 54 = .ok (.lastore, 1) := by decide +kernel
theorem dX5_writeWords_55 : decode cX5_writeWords 55 = .ok (.iconst 0, 1) := by decide +kernel
theorem dX5_writeWords_56 : decode cX5_writeWords 56 = .ok (.istore_n 1, 1) := by decide +kernel
theorem dX5_writeWords_57 : decode cX5_writeWords 57 = .ok (.iload_n 1, 1) := by decide +kernel
theorem dX5_writeWords_58 : decode cX5_writeWords 58 = .ok (.bipush 10, 2) := by decide +kernel
theorem dX5_writeWords_60 : decode cX5_writeWords 60 = .ok (.if_icmp .ge 44, 3) := by decide +kernel
theorem dX5_writeWords_63 : decode cX5_writeWords 63 = .ok (.aload_n 0, 1) := by decide +kernel
theorem dX5_writeWords_64 : decode cX5_writeWords 64 = .ok (.getfield 27, 3) := by decide +kernel
theorem dX5_writeWords_67 : decode cX5_writeWords 67 = .ok (.iconst 4, 1) := by decide +kernel
theorem dX5_writeWords_68 : decode cX5_writeWords 68 = .ok (.iload_n 1, 1) := by decide +kernel
theorem dX5_writeWords_69 : decode cX5_writeWords 69 = .ok (.iadd, 1) := by decide +kernel
theorem dX5_writeWords_70 : decode cX5_writeWords 70 = .ok (.aload_n 0, 1) := by decide +kernel
theorem dX5_writeWords_71 : decode cX5_writeWords 71 = .ok (.getfield 38, 3) := by decide +kernel
theorem dX5_writeWords_74 : decode cX5_writeWords 74 = .ok (.iload_n 1, 1) := by decide +kernel
theorem dX5_writeWords_75 : decode cX5_writeWords 75 = .ok (.invokevirtual 117, 3) := by decide +kernel
theorem dX5_writeWords_78 : decode cX5_writeWords 78 = .ok (.ifCond .eq 16, 3) := by decide +kernel
theorem dX5_writeWords_81 : decode cX5_writeWords 81 = .ok (.aload_n 0, 1) := by decide +kernel
theorem dX5_writeWords_82 : decode cX5_writeWords 82 = .ok (.getfield 38, 3) := by decide +kernel
theorem dX5_writeWords_85 : decode cX5_writeWords 85 = .ok (.getfield 121, 3) := by decide +kernel
theorem dX5_writeWords_88 : decode cX5_writeWords 88 = .ok (.iload_n 1, 1) := by decide +kernel
theorem dX5_writeWords_89 : decode cX5_writeWords 89 = .ok (.iaload, 1) := by decide +kernel
theorem dX5_writeWords_90 : decode cX5_writeWords 90 = .ok (.i2l, 1) := by decide +kernel
theorem dX5_writeWords_91 : decode cX5_writeWords 91 = .ok (.goto 6, 3) := by decide +kernel
theorem dX5_writeWords_94 : decode cX5_writeWords 94 = .ok (.ldc2_w 124, 3) := by decide +kernel
theorem dX5_writeWords_97 : decode cX5_writeWords 97 = .ok (.lastore, 1) := by decide +kernel
theorem dX5_writeWords_98 : decode cX5_writeWords 98 = .ok (.iinc 1 1, 3) := by decide +kernel
theorem dX5_writeWords_101 : decode cX5_writeWords 101 = .ok (.goto (-44), 3) := by decide +kernel
theorem dX5_writeWords_104 : decode cX5_writeWords 104 = .ok (.iconst 0, 1) := by decide +kernel
theorem dX5_writeWords_105 : decode cX5_writeWords 105 = .ok (.istore_n 1, 1) := by decide +kernel
theorem dX5_writeWords_106 : decode cX5_writeWords 106 = .ok (.iload_n 1, 1) := by decide +kernel
theorem dX5_writeWords_107 : decode cX5_writeWords 107 = .ok (.bipush 6, 2) := by decide +kernel
theorem dX5_writeWords_109 : decode cX5_writeWords 109 = .ok (.if_icmp .ge 81, 3) := by decide +kernel
theorem dX5_writeWords_112 : decode cX5_writeWords 112 = .ok (.aload_n 0, 1) := by decide +kernel
theorem dX5_writeWords_113 : decode cX5_writeWords 113 = .ok (.getfield 27, 3) := by decide +kernel
theorem dX5_writeWords_116 : decode cX5_writeWords 116 = .ok (.bipush 14, 2) := by decide +kernel
theorem dX5_writeWords_118 : decode cX5_writeWords 118 = .ok (.iload_n 1, 1) := by decide +kernel
theorem dX5_writeWords_119 : decode cX5_writeWords 119 = .ok (.iadd, 1) := by decide +kernel
theorem dX5_writeWords_120 : decode cX5_writeWords 120 = .ok (.aload_n 0, 1) := by decide +kernel
theorem dX5_writeWords_121 : decode cX5_writeWords 121 = .ok (.getfield 38, 3) := by decide +kernel
theorem dX5_writeWords_124 : decode cX5_writeWords 124 = .ok (.iload_n 1, 1) := by decide +kernel
theorem dX5_writeWords_125 : decode cX5_writeWords 125 = .ok (.invokevirtual 126, 3) := by decide +kernel
theorem dX5_writeWords_128 : decode cX5_writeWords 128 = .ok (.ifCond .eq 16, 3) := by decide +kernel
theorem dX5_writeWords_131 : decode cX5_writeWords 131 = .ok (.aload_n 0, 1) := by decide +kernel
theorem dX5_writeWords_132 : decode cX5_writeWords 132 = .ok (.getfield 38, 3) := by decide +kernel
theorem dX5_writeWords_135 : decode cX5_writeWords 135 = .ok (.getfield 129, 3) := by decide +kernel
theorem dX5_writeWords_138 : decode cX5_writeWords 138 = .ok (.iload_n 1, 1) := by decide +kernel
theorem dX5_writeWords_139 : decode cX5_writeWords 139 = .ok (.iaload, 1) := by decide +kernel
theorem dX5_writeWords_140 : decode cX5_writeWords 140 = .ok (.i2l, 1) := by decide +kernel
theorem dX5_writeWords_141 : decode cX5_writeWords 141 = .ok (.goto 6, 3) := by decide +kernel
theorem dX5_writeWords_144 : decode cX5_writeWords 144 = .ok (.ldc2_w 124, 3) := by decide +kernel
theorem dX5_writeWords_147 : decode cX5_writeWords 147 = .ok (.lastore, 1) := by decide +kernel
theorem dX5_writeWords_148 : decode cX5_writeWords 148 = .ok (.aload_n 0, 1) := by decide +kernel
theorem dX5_writeWords_149 : decode cX5_writeWords 149 = .ok (.getfield 27, 3) := by decide +kernel
theorem dX5_writeWords_152 : decode cX5_writeWords 152 = .ok (.bipush 20, 2) := by decide +kernel
theorem dX5_writeWords_154 : decode cX5_writeWords 154 = .ok (.iload_n 1, 1) := by decide +kernel
theorem dX5_writeWords_155 : decode cX5_writeWords 155 = .ok (.iadd, 1) := by decide +kernel
theorem dX5_writeWords_156 : decode cX5_writeWords 156 = .ok (.aload_n 0, 1) := by decide +kernel
theorem dX5_writeWords_157 : decode cX5_writeWords 157 = .ok (.getfield 38, 3) := by decide +kernel
theorem dX5_writeWords_160 : decode cX5_writeWords 160 = .ok (.iload_n 1, 1) := by decide +kernel
theorem dX5_writeWords_161 : decode cX5_writeWords 161 = .ok (.invokevirtual 126, 3) := by decide +kernel
theorem dX5_writeWords_164 : decode cX5_writeWords 164 = .ok (.ifCond .eq 16, 3) := by decide +kernel
theorem dX5_writeWords_167 : decode cX5_writeWords 167 = .ok (.aload_n 0, 1) := by decide +kernel
theorem dX5_writeWords_168 : decode cX5_writeWords 168 = .ok (.getfield 38, 3) := by decide +kernel
theorem dX5_writeWords_171 : decode cX5_writeWords 171 = .ok (.getfield 132, 3) := by decide +kernel
theorem dX5_writeWords_174 : decode cX5_writeWords 174 = .ok (.iload_n 1, 1) := by decide +kernel
theorem dX5_writeWords_175 : decode cX5_writeWords 175 = .ok (.iaload, 1) := by decide +kernel
theorem dX5_writeWords_176 : decode cX5_writeWords 176 = .ok (.i2l, 1) := by decide +kernel
theorem dX5_writeWords_177 : decode cX5_writeWords 177 = .ok (.goto 6, 3) := by decide +kernel
theorem dX5_writeWords_180 : decode cX5_writeWords 180 = .ok (.ldc2_w 124, 3) := by decide +kernel
theorem dX5_writeWords_183 : decode cX5_writeWords 183 = .ok (.lastore, 1) := by decide +kernel
theorem dX5_writeWords_184 : decode cX5_writeWords 184 = .ok (.iinc 1 1, 3) := by decide +kernel
theorem dX5_writeWords_187 : decode cX5_writeWords 187 = .ok (.goto (-81), 3) := by decide +kernel
theorem dX5_writeWords_190 : decode cX5_writeWords 190 = .ok (.return_, 1) := by decide +kernel
theorem wt3_233 : Cond.code yJ7_fill_53178 cJ7_fill_53178 4 none ∈ kG := kt3 233 rfl rfl
theorem wt3_50 : Cond.code yX7_reckonChains cX7_reckonChains 5 (some .int) ∈ kG := kt3 50 rfl rfl
theorem wt4_82 : Cond.code yX7_copyFrom cX7_copyFrom 3 none ∈ kG := kt4 82 rfl rfl
theorem wt4_87 : Cond.code yX2_copyFrom cX2_copyFrom 2 none ∈ kG := kt4 87 rfl rfl
theorem wt4_112 : Cond.code yX0_sendBuilder cX0_sendBuilder 3 (some .int) ∈ kG := kt4 112 rfl rfl
theorem wt4_125 : Cond.code yX0_restBuilder cX0_restBuilder 3 (some .int) ∈ kG := kt4 125 rfl rfl
theorem wt4_129 : Cond.code yX0_razePart cX0_razePart 2 (some .int) ∈ kG := kt4 129 rfl rfl
theorem wt4_141 : Cond.code yX0_passTick cX0_passTick 1 (some .int) ∈ kG := kt4 141 rfl rfl
theorem wt1_129 : Cond.fieldLink RX5 106 "SunriseRoof$Site" "term" "[I" ∈ kG := kt1 129 rfl rfl
theorem wt4_97 : Cond.methodLink RX5 109 yX7_upMask ∈ kG := kt4 97 rfl rfl
theorem wt4_98 : Cond.methodLink RX5 112 yJ6_bitCount_0f7a4 ∈ kG := kt4 98 rfl rfl
theorem wt4_106 : Cond.methodLink RX5 126 yX7_hasBuilder ∈ kG := kt4 106 rfl rfl
theorem wt4_105 : Cond.constantLong RX5 124 (-1) ∈ kG := kt4 105 rfl rfl
theorem wt1_119 : Cond.fieldLink RX5 129 "SunriseRoof$Site" "tired" "[I" ∈ kG := kt1 119 rfl rfl
theorem wt1_125 : Cond.fieldLink RX5 132 "SunriseRoof$Site" "place" "[I" ∈ kG := kt1 125 rfl rfl
theorem wt4_104 : Cond.methodLink RX5 117 yX7_hasPart ∈ kG := kt4 104 rfl rfl
theorem wt1_102 : Cond.fieldLink RX5 121 "SunriseRoof$Site" "left" "[I" ∈ kG := kt1 102 rfl rfl
theorem wt4_96 : Cond.code yX5_writeWords cX5_writeWords 2 none ∈ kG := kt4 96 rfl rfl
theorem wt4_93 : Cond.methodLink RX5 68 yX5_writeWords ∈ kG := kt4 93 rfl rfl
theorem wt4_95 : Cond.instanceMethod yX5_writeWords ∈ kG := kt4 95 rfl rfl
theorem wp2_8 : Cond.selects RX5 yX5_writeWords yX5_writeWords ∈ kG := kp2 8 rfl rfl
theorem wt1_155 : Cond.fieldLink RX5 71 "SunriseRoof$Site" "slate" "LSunriseRoof$Slate;" ∈ kG := kt1 155 rfl rfl
theorem wt1_56 : Cond.fieldLink RX5 75 "SunriseRoof$Slate" "stack" "[J" ∈ kG := kt1 56 rfl rfl
theorem wt4_107 : Cond.methodLink RX5 80 yX10_reckon ∈ kG := kt4 107 rfl rfl
theorem wt4_108 : Cond.constantLong RX5 84 (-1000000000000) ∈ kG := kt4 108 rfl rfl
theorem wt2_44 : Cond.fieldLink RX5 86 "SunriseRoof$Text" "kinds" "[I" ∈ kG := kt2 44 rfl rfl
theorem wt4_138 : Cond.methodLink RX5 102 yX0_passTick ∈ kG := kt4 138 rfl rfl
theorem wt4_139 : Cond.instanceMethod yX0_passTick ∈ kG := kt4 139 rfl rfl
theorem wt4_140 : Cond.selects RX0 yX0_passTick yX0_passTick ∈ kG := kt4 140 rfl rfl
theorem wt4_126 : Cond.methodLink RX5 99 yX0_razePart ∈ kG := kt4 126 rfl rfl
theorem wt4_127 : Cond.instanceMethod yX0_razePart ∈ kG := kt4 127 rfl rfl
theorem wt4_128 : Cond.selects RX0 yX0_razePart yX0_razePart ∈ kG := kt4 128 rfl rfl
theorem wt4_122 : Cond.methodLink RX5 95 yX0_restBuilder ∈ kG := kt4 122 rfl rfl
theorem wt4_123 : Cond.instanceMethod yX0_restBuilder ∈ kG := kt4 123 rfl rfl
theorem wt4_124 : Cond.selects RX0 yX0_restBuilder yX0_restBuilder ∈ kG := kt4 124 rfl rfl
theorem wt4_109 : Cond.methodLink RX5 89 yX0_sendBuilder ∈ kG := kt4 109 rfl rfl
theorem wt4_110 : Cond.instanceMethod yX0_sendBuilder ∈ kG := kt4 110 rfl rfl
theorem wt4_111 : Cond.selects RX0 yX0_sendBuilder yX0_sendBuilder ∈ kG := kt4 111 rfl rfl
theorem wt4_92 : Cond.code yX5_runOnce cX5_runOnce 9 (some .boolean) ∈ kG := kt4 92 rfl rfl
theorem wt4_79 : Cond.methodLink RX5 48 yX7_copyFrom ∈ kG := kt4 79 rfl rfl
theorem wt4_80 : Cond.instanceMethod yX7_copyFrom ∈ kG := kt4 80 rfl rfl
theorem wt4_81 : Cond.selects RX7 yX7_copyFrom yX7_copyFrom ∈ kG := kt4 81 rfl rfl
theorem wt4_84 : Cond.methodLink RX5 52 yX2_copyFrom ∈ kG := kt4 84 rfl rfl
theorem wt4_85 : Cond.instanceMethod yX2_copyFrom ∈ kG := kt4 85 rfl rfl
theorem wt4_86 : Cond.selects RX2 yX2_copyFrom yX2_copyFrom ∈ kG := kt4 86 rfl rfl
theorem wt2_41 : Cond.fieldLink RX5 55 "SunriseRoof$Text" "clauses" "I" ∈ kG := kt2 41 rfl rfl
theorem wt2_47 : Cond.fieldLink RX5 60 "SunriseRoof$Text" "times" "[I" ∈ kG := kt2 47 rfl rfl
theorem wt4_89 : Cond.methodLink RX5 64 yX5_runOnce ∈ kG := kt4 89 rfl rfl
theorem wt4_91 : Cond.instanceMethod yX5_runOnce ∈ kG := kt4 91 rfl rfl
theorem wp2_7 : Cond.selects RX5 yX5_runOnce yX5_runOnce ∈ kG := kp2 7 rfl rfl
theorem wt5_0 : Cond.methodLink RX3 28 yX7_copyFrom ∈ kG := kt5 0 rfl rfl
theorem wt1_123 : Cond.fieldLink RX3 32 "SunriseRoof$Site" "place" "[I" ∈ kG := kt1 123 rfl rfl
theorem wt5_1 : Cond.methodLink RX3 36 yJ7_fill_53178 ∈ kG := kt5 1 rfl rfl
theorem wt3_232 : Cond.static yJ7_fill_53178 ∈ kG := kt3 232 rfl rfl
theorem wt1_19 : Cond.initialized "java/util/Arrays" ∈ kG := kt1 19 rfl rfl
theorem wt5_2 : Cond.methodLink RX3 42 yX7_hasBuilder ∈ kG := kt5 2 rfl rfl
theorem wt1_111 : Cond.fieldLink RX3 46 "SunriseRoof$Site" "crafts" "[I" ∈ kG := kt1 111 rfl rfl
theorem wt4_239 : Cond.code yX3_begin cX3_begin 1 none ∈ kG := kt4 239 rfl rfl
theorem wt1_152 : Cond.fieldLink RX3 71 "SunriseRoof$Site" "inForce" "I" ∈ kG := kt1 152 rfl rfl
theorem wt1_106 : Cond.fieldLink RX3 74 "SunriseRoof$Site" "builders" "I" ∈ kG := kt1 106 rfl rfl
theorem wt5_21 : Cond.code yX3_isStuck cX3_isStuck 2 (some .boolean) ∈ kG := kt5 21 rfl rfl
theorem wt1_132 : Cond.fieldLink RX3 77 "SunriseRoof$Site" "term" "[I" ∈ kG := kt1 132 rfl rfl
theorem wt5_10 : Cond.code yX3_canTick cX3_canTick 1 (some .boolean) ∈ kG := kt5 10 rfl rfl
theorem wt5_74 : Cond.methodLink RX3 80 yX7_upMask ∈ kG := kt5 74 rfl rfl
theorem wt1_83 : Cond.fieldLink RX3 83 "SunriseRoof$Site" "parts" "I" ∈ kG := kt1 83 rfl rfl
theorem wt5_73 : Cond.code yX3_allStand cX3_allStand 1 (some .boolean) ∈ kG := kt5 73 rfl rfl
theorem wt1_103 : Cond.fieldLink RX3 86 "SunriseRoof$Site" "left" "[I" ∈ kG := kt1 103 rfl rfl
theorem wt5_6 : Cond.code yX3_noteStanding cX3_noteStanding 6 (some .boolean) ∈ kG := kt5 6 rfl rfl
theorem wt1_157 : Cond.fieldLink RX3 89 "SunriseRoof$Site" "slate" "LSunriseRoof$Slate;" ∈ kG := kt1 157 rfl rfl
theorem wt1_64 : Cond.fieldLink RX3 93 "SunriseRoof$Slate" "chain" "[I" ∈ kG := kt1 64 rfl rfl
theorem wt5_15 : Cond.methodLink RX3 98 yX7_readyMask ∈ kG := kt5 15 rfl rfl
theorem wt5_16 : Cond.methodLink RX3 101 yX7_reckonChains ∈ kG := kt5 16 rfl rfl
theorem wt3_48 : Cond.instanceMethod yX7_reckonChains ∈ kG := kt3 48 rfl rfl
theorem wt3_49 : Cond.selects RX7 yX7_reckonChains yX7_reckonChains ∈ kG := kt3 49 rfl rfl
theorem wt5_17 : Cond.methodLink RX3 104 yX7_asked ∈ kG := kt5 17 rfl rfl
theorem wt5_14 : Cond.code yX3_sendFree cX3_sendFree 8 none ∈ kG := kt5 14 rfl rfl
theorem wt4_236 : Cond.methodLink RX3 49 yX3_begin ∈ kG := kt4 236 rfl rfl
theorem wt4_237 : Cond.instanceMethod yX3_begin ∈ kG := kt4 237 rfl rfl
theorem wt4_238 : Cond.selects RX3 yX3_begin yX3_begin ∈ kG := kt4 238 rfl rfl
theorem wt5_3 : Cond.methodLink RX3 52 yX3_noteStanding ∈ kG := kt5 3 rfl rfl
theorem wt5_5 : Cond.instanceMethod yX3_noteStanding ∈ kG := kt5 5 rfl rfl
theorem wp2_14 : Cond.selects RX3 yX3_noteStanding yX3_noteStanding ∈ kG := kp2 14 rfl rfl
theorem wt5_7 : Cond.methodLink RX3 56 yX3_canTick ∈ kG := kt5 7 rfl rfl
theorem wt5_8 : Cond.instanceMethod yX3_canTick ∈ kG := kt5 8 rfl rfl
theorem wt5_9 : Cond.selects RX3 yX3_canTick yX3_canTick ∈ kG := kt5 9 rfl rfl
theorem wt5_11 : Cond.methodLink RX3 60 yX3_sendFree ∈ kG := kt5 11 rfl rfl
theorem wt5_12 : Cond.instanceMethod yX3_sendFree ∈ kG := kt5 12 rfl rfl
theorem wt5_13 : Cond.selects RX3 yX3_sendFree yX3_sendFree ∈ kG := kt5 13 rfl rfl
theorem wt5_18 : Cond.methodLink RX3 64 yX3_isStuck ∈ kG := kt5 18 rfl rfl
theorem wt5_20 : Cond.instanceMethod yX3_isStuck ∈ kG := kt5 20 rfl rfl
theorem wp2_15 : Cond.selects RX3 yX3_isStuck yX3_isStuck ∈ kG := kp2 15 rfl rfl
theorem wt5_22 : Cond.methodLink RX3 67 yX7_workOneTick ∈ kG := kt5 22 rfl rfl
theorem wt5_69 : Cond.constantLong RX3 108 (1000000000000) ∈ kG := kt5 69 rfl rfl
theorem wt5_70 : Cond.methodLink RX3 110 yX3_allStand ∈ kG := kt5 70 rfl rfl
theorem wt5_71 : Cond.instanceMethod yX3_allStand ∈ kG := kt5 71 rfl rfl
theorem wt5_72 : Cond.selects RX3 yX3_allStand yX3_allStand ∈ kG := kt5 72 rfl rfl
theorem wt5_75 : Cond.methodLink RX3 113 yX7_hasPart ∈ kG := kt5 75 rfl rfl
theorem wt5_76 : Cond.constantLong RX3 116 (10) ∈ kG := kt5 76 rfl rfl
theorem kc_704 : kb 704 704 704 := ⟨by decide +kernel, by decide +kernel⟩
set_option maxHeartbeats 4000000 in
set_option maxRecDepth 100000 in
theorem x_3_teach  (l : Launch) {D : va_G} {K : Nat → ClassId} (r : Nat → Nat) (f : Nat → Int32) (a : Nat → Nat → Int32) (g : xG) (tx tt : va_W) (hT : ∀ c ∈ tt, c ∈ tx) (hI : xI f a) (hG : gOK K g.2 tt) (x : Int32) (y : Int32)    : kVG l yX3_teach (Cond.code yX3_teach cX3_teach 3 none :: kG) (rmD 1 0 0) D K [.ref (r 58), .int x, .int y] (xX K r f a g tx) (fun (u : xS) => xI u.1 u.2.1 ∧ gOK K u.2.2.2 tt ∧ xEk ([1858, 1859], [], []) f a g u.1 u.2.1 u.2.2) (fun u => xX K r u.1 u.2.1 u.2.2 tx) 0 0 := by
  refine kVG.of (cc := cX3_teach) (maxL := 3) (ret := none) (by decide) rfl (Nat.le_of_ble_eq_true rfl) ?_
  intro p e s m below meth c A hx hb hr hml hown hts hlocks hnm hK hP hD hS hA hV ls hl
  have hE : xEk ([1858, 1859], [], []) f a g f a g := xEk_rf
  have hg : ∀ w ∈ kG, w.before _ s = true := fun w h => hts w (List.mem_cons_of_mem _ h)
  have hown : s.vm.findClass RX3 = some m.cls := hown
  have hl : lv_has ls 3 [(0, .ref (r 58)), (1, .int x), (2, .int y)] := hl
  refine lv_aload_n hx hb dX3_teach_0 rfl (lv_at hl 0 rfl) ?_
  refine lv_iload_n hx hb dX3_teach_1 rfl (lv_at hl 1 rfl) ?_
  refine va_put (D := D) (ci := 3) (v := .int x) (ty := .int) (C := RX3) (T := TX3) (N := 4) hx hb hg inC3 tyX3 tyX3_ok nmX3 hown hK hP hD hS 58 rfl rfl 2 (by decide) (hg _ wt2_98) (fun _ h9 => h9) rfl (by decide +kernel) rfl rfl (Nat.le_of_ble_eq_true rfl) dX3_teach_2 (fun H locs hP hD hS => ?_)
  have hP : va_P D vwCl (xX K r (upd f 1858 x) a g tx) H := hP
  have hD : va_D A (xX K r (upd f 1858 x) a g tx) := hD
  refine k_gen (P := fun z => va_P D vwCl (xX K r z a g tx) H ∧ va_D A (xX K r z a g tx) ∧ (xI z a) ∧ (gOK K g.2 tt) ∧ (xEk ([1858, 1859], [], []) f a g z a g)) (upd f 1858 x) ⟨hP, hD, (xI_f hI (fI_st hI.1 1858 (kb_any _) (by decide) (by decide))), hG, (xEk_f hE rfl)⟩ (fun f_1 ef_1 hq => ?_)
  obtain ⟨hP, hD, hI, hG, hE⟩ := hq
  refine lv_aload_n hx hb dX3_teach_5 rfl (lv_at hl 0 rfl) ?_
  refine lv_iconst (v := 1) hx hb dX3_teach_6 (by decide) ?_
  refine lv_iload_n hx hb dX3_teach_7 rfl (lv_at hl 2 rfl) ?_
  refine lv_ishl hx hb dX3_teach_8 ?_
  refine lv_topi (fun t2 et2 => ?_)
  refine va_put (D := D) (ci := 3) (v := .int t2) (ty := .int) (C := RX3) (T := TX3) (N := 4) hx hb hg inC3 tyX3 tyX3_ok nmX3 hown hK hP hD hS 58 rfl rfl 3 (by decide) (hg _ wt2_99) (fun _ h9 => h9) rfl (by decide +kernel) rfl rfl (Nat.le_of_ble_eq_true rfl) dX3_teach_9 (fun H locs hP hD hS => ?_)
  have hP : va_P D vwCl (xX K r (upd f_1 1859 t2) a g tx) H := hP
  have hD : va_D A (xX K r (upd f_1 1859 t2) a g tx) := hD
  refine k_gen (P := fun z => va_P D vwCl (xX K r z a g tx) H ∧ va_D A (xX K r z a g tx) ∧ (xI z a) ∧ (gOK K g.2 tt) ∧ (xEk ([1858, 1859], [], []) f a g z a g)) (upd f_1 1859 t2) ⟨hP, hD, (xI_f hI (fI_st hI.1 1859 (kb_any _) (by decide) (by decide))), hG, (xEk_f hE rfl)⟩ (fun f_3 ef_3 hq => ?_)
  obtain ⟨hP, hD, hI, hG, hE⟩ := hq
  exact kV_ret hx hb hr hlocks hK hS dX3_teach_12 (f_3, a, g) hP hD ⟨hI, hG, hE⟩
set_option maxHeartbeats 4000000 in
set_option maxRecDepth 100000 in
theorem x_3_begin  (l : Launch) {D : va_G} {K : Nat → ClassId} (r : Nat → Nat) (f : Nat → Int32) (a : Nat → Nat → Int32) (g : xG) (tx tt : va_W) (hT : ∀ c ∈ tt, c ∈ tx) (hI : xI f a) (hG : gOK K g.2 tt)     : kVG l yX3_begin (Cond.code yX3_begin cX3_begin 1 none :: kG) (rmD 3 0 0) D K [.ref (r 58)] (xX K r f a g tx) (fun (u : xS) => xI u.1 u.2.1 ∧ gOK K u.2.2.2 tt ∧ xEk ([1888, 1894, 1900, 1905, 1906], [60, 61, 62, 63, 64, 65, 66, 67, 68, 69, 70, 71, 72], [73]) f a g u.1 u.2.1 u.2.2) (fun u => xX K r u.1 u.2.1 u.2.2 tx) 0 0 := by
  refine kVG.of (cc := cX3_begin) (maxL := 1) (ret := none) (by decide) rfl (Nat.le_of_ble_eq_true rfl) ?_
  intro p e s m below meth c A hx hb hr hml hown hts hlocks hnm hK hP hD hS hA hV ls hl
  have hE : xEk ([1888, 1894, 1900, 1905, 1906], [60, 61, 62, 63, 64, 65, 66, 67, 68, 69, 70, 71, 72], [73]) f a g f a g := xEk_rf
  have hg : ∀ w ∈ kG, w.before _ s = true := fun w h => hts w (List.mem_cons_of_mem _ h)
  have hown : s.vm.findClass RX3 = some m.cls := hown
  have hl : lv_has ls 1 [(0, .ref (r 58))] := hl
  refine lv_aload_n hx hb dX3_begin_0 rfl (lv_at hl 0 rfl) ?_
  refine va_get (D := D) (ci := 3) (v := .ref (r 59)) (C := RX3) (T := TX3) (N := 4) hx hb hg inC3 hown hK hP 58 rfl rfl 0 (by decide) (hg _ wt2_95) (fun _ h9 => h9) rfl dX3_begin_1 ?_
  refine lv_aload_n hx hb dX3_begin_4 rfl (lv_at hl 0 rfl) ?_
  refine va_get (D := D) (ci := 3) (v := .ref (r 1)) (C := RX3) (T := TX3) (N := 4) hx hb hg inC3 hown hK hP 58 rfl rfl 1 (by decide) (hg _ wt2_97) (fun _ h9 => h9) rfl dX3_begin_5 ?_
  refine kVG.callW (As := [.ref (r 1)]) (rest := []) ⟨hx, hb, hml, hown, hg⟩ (x_7_copyFromP l r f a g tx tt hT hI hG   ) (cwV 1 hg (kgV wt5_0 wt4_80 wt4_81 wt1_2 wt4_82) rfl rfl rfl (by decide +kernel) ⟨by decide, by decide⟩) hV hK hP hD hS hA (59) 7 rfl rfl rfl hl.1 rfl (Nat.le_of_ble_eq_true rfl) dX3_begin_8 ⟨Nat.le_refl _, Nat.le_refl _⟩ (fun u3 H locs hw1 hP hD hS => ?_)
  obtain ⟨f4, a5, g6⟩ := u3
  have hP : va_P D vwCl (xX K r f4 a5 g6 tx) H := hP
  have hD : va_D A (xX K r f4 a5 g6 tx) := hD
  have hI : xI f4 a5 := hw1.1
  have hG : gOK K g6.2 tt := hw1.2.1
  have eE7 : xEk ([1888, 1894, 1900, 1905, 1906], [60, 61, 62, 63, 64, 65, 66, 67, 68, 69, 70, 71, 72], [73]) f a g f4 a5 g6 := hw1.2.2.1
  have hE : xEk ([1888, 1894, 1900, 1905, 1906], [60, 61, 62, 63, 64, 65, 66, 67, 68, 69, 70, 71, 72], [73]) f a g f4 a5 g6 := xEk_tr hE eE7
  refine lv_aload_n hx hb dX3_begin_11 rfl (lv_at hl 0 rfl) ?_
  refine va_get (D := D) (ci := 3) (v := .ref (r 59)) (C := RX3) (T := TX3) (N := 4) hx hb hg inC3 hown hK hP 58 rfl rfl 0 (by decide) (hg _ wt2_95) (fun _ h9 => h9) rfl dX3_begin_12 ?_
  refine va_get (D := D) (ci := 7) (v := .ref (r 68)) (C := RX7) (T := TX7) (N := 20) hx hb hg inC7 hown hK hP 59 rfl rfl 10 (by decide) (hg _ wt1_123) (fun _ h9 => h9) rfl dX3_begin_15 ?_
  refine lv_iconst (v := (-1)) hx hb dX3_begin_18 (by decide) ?_
  refine kV.callA (q0 := 68) (As := [.ref (r 68), .int (-1)]) (rest := []) ⟨hx, hb, hml, hown, hg⟩ (x_fill l (r 68) 6 (a5 68) (-1) (by decide)) (va_cwS 2 hg (kgS wt5_1 wt3_232 wt1_19 wt3_233) rfl rfl rfl (by decide +kernel) ⟨by decide, by decide⟩) hK hP hD hS hA rfl rfl hl.1 rfl (Nat.le_of_ble_eq_true rfl) dX3_begin_19 ⟨by decide, by decide⟩ (fun u8 H locs hw9 hP hD hS => ?_)
  have hP : va_P D vwCl (xX K r f4 (va_up a5 68 u8) g6 tx) H := hP
  have hD : va_D A (xX K r f4 (va_up a5 68 u8) g6 tx) := hD
  refine k_gen (P := fun z => va_P D vwCl (xX K r f4 z g6 tx) H ∧ va_D A (xX K r f4 z g6 tx) ∧ (xI f4 z) ∧ (gOK K g6.2 tt) ∧ (xEk ([1888, 1894, 1900, 1905, 1906], [60, 61, 62, 63, 64, 65, 66, 67, 68, 69, 70, 71, 72], [73]) f a g f4 z g6)) (va_up a5 68 u8) ⟨hP, hD, (xI_a hI (by decide)), hG, (xEk_a hE rfl)⟩ (fun a_10 ea_10 hq => ?_)
  obtain ⟨hP, hD, hI, hG, hE⟩ := hq
  refine lv_aload_n hx hb dX3_begin_22 rfl (lv_at hl 0 rfl) ?_
  refine va_get (D := D) (ci := 3) (v := .ref (r 59)) (C := RX3) (T := TX3) (N := 4) hx hb hg inC3 hown hK hP 58 rfl rfl 0 (by decide) (hg _ wt2_95) (fun _ h9 => h9) rfl dX3_begin_23 ?_
  refine lv_aload_n hx hb dX3_begin_26 rfl (lv_at hl 0 rfl) ?_
  refine va_get (D := D) (ci := 3) (v := .int (f4 1858)) (C := RX3) (T := TX3) (N := 4) hx hb hg inC3 hown hK hP 58 rfl rfl 2 (by decide) (hg _ wt2_98) (fun _ h9 => h9) rfl dX3_begin_27 ?_
  refine lv_topi (fun t11 et11 => ?_)
  refine kIG.callW (As := [.int t11]) (rest := []) ⟨hx, hb, hml, hown, hg⟩ (x_7_hasBuilderP l r f4 a_10 g6 tx tt hT hI hG t11  ) (cwV 1 hg (kgV wt5_2 wt3_68 wt3_69 wt1_2 wt3_70) rfl rfl rfl (by decide +kernel) ⟨by decide, by decide⟩) hV hK hP hD hS hA (59) 7 rfl rfl rfl hl.1 rfl (Nat.le_of_ble_eq_true rfl) dX3_begin_30 ⟨Nat.le_refl _, Nat.le_refl _⟩ (fun v13 u14 H locs hw12 hP hD hS => ?_)
  have hP : va_P D vwCl (xX K r f4 a_10 g6 tx) H := hP
  have hD : va_D A (xX K r f4 a_10 g6 tx) := hD
  refine lv_if_eq (tgt := 55) hx hb dX3_begin_33 (by decide) (fun c15 => ?_) (fun c15 => ?_)
  · have b16 : kb 0 v13 0 := kb_eq c15 kc_0
    exact kV_ret hx hb hr hlocks hK hS dX3_begin_55 (f4, a_10, g6) hP hD ⟨hI, hG, hE⟩
  · have b17 : kb 1 v13 1 := kr_nel c15 hw12.1 kc_0 (by decide)
    have h18 := hw12.2 c15
    have b19 : kb 0 t11 5 := ⟨h18.1, h18.2⟩
    refine lv_aload_n hx hb dX3_begin_36 rfl (lv_at hl 0 rfl) ?_
    refine va_get (D := D) (ci := 3) (v := .ref (r 59)) (C := RX3) (T := TX3) (N := 4) hx hb hg inC3 hown hK hP 58 rfl rfl 0 (by decide) (hg _ wt2_95) (fun _ h9 => h9) rfl dX3_begin_37 ?_
    refine va_get (D := D) (ci := 7) (v := .ref (r 65)) (C := RX7) (T := TX7) (N := 20) hx hb hg inC7 hown hK hP 59 rfl rfl 7 (by decide) (hg _ wt1_111) (fun _ h9 => h9) rfl dX3_begin_40 ?_
    refine lv_aload_n hx hb dX3_begin_43 rfl (lv_at hl 0 rfl) ?_
    refine va_get (D := D) (ci := 3) (v := .int (f4 1858)) (C := RX3) (T := TX3) (N := 4) hx hb hg inC3 hown hK hP 58 rfl rfl 2 (by decide) (hg _ wt2_98) (fun _ h9 => h9) rfl dX3_begin_44 ?_
    refine k_top (z := t11) et11.symm ?_
    refine lv_dup2_11 hx hb dX3_begin_47 rfl rfl ?_
    refine va_iald hx hb hK hP 65 0 rfl rfl (kb_in b19 (by decide) (by decide)) dX3_begin_48 ?_
    refine lv_topi (fun t20 et20 => ?_)
    refine lv_aload_n hx hb dX3_begin_49 rfl (lv_at hl 0 rfl) ?_
    refine va_get (D := D) (ci := 3) (v := .int (f4 1859)) (C := RX3) (T := TX3) (N := 4) hx hb hg inC3 hown hK hP 58 rfl rfl 3 (by decide) (hg _ wt2_99) (fun _ h9 => h9) rfl dX3_begin_50 ?_
    refine lv_topi (fun t21 et21 => ?_)
    refine lv_ior hx hb dX3_begin_53 ?_
    refine lv_topi (fun t22 et22 => ?_)
    refine va_iast hx hb hK hP hD hS 65 0 rfl rfl (kb_in b19 (by decide) (by decide)) dX3_begin_54 (fun H locs hP hD hS => ?_)
    have hP : va_P D vwCl (xX K r f4 (va_up a_10 65 (upd (a_10 65) t11.toNatClampNeg t22)) g6 tx) H := hP
    have hD : va_D A (xX K r f4 (va_up a_10 65 (upd (a_10 65) t11.toNatClampNeg t22)) g6 tx) := hD
    refine k_gen (P := fun z => va_P D vwCl (xX K r f4 z g6 tx) H ∧ va_D A (xX K r f4 z g6 tx) ∧ (xI f4 z) ∧ (gOK K g6.2 tt) ∧ (xEk ([1888, 1894, 1900, 1905, 1906], [60, 61, 62, 63, 64, 65, 66, 67, 68, 69, 70, 71, 72], [73]) f a g f4 z g6)) (va_up a_10 65 (upd (a_10 65) t11.toNatClampNeg t22)) ⟨hP, hD, (xI_a hI (by decide)), hG, (xEk_a hE rfl)⟩ (fun a_23 ea_23 hq => ?_)
    obtain ⟨hP, hD, hI, hG, hE⟩ := hq
    exact kV_ret hx hb hr hlocks hK hS dX3_begin_55 (f4, a_23, g6) hP hD ⟨hI, hG, hE⟩
set_option maxHeartbeats 4000000 in
set_option maxRecDepth 100000 in
theorem x_3_isStuck  (l : Launch) {D : va_G} {K : Nat → ClassId} (r : Nat → Nat) (f : Nat → Int32) (a : Nat → Nat → Int32) (g : xG) (tx tt : va_W) (hT : ∀ c ∈ tt, c ∈ tx) (hI : xI f a) (hG : gOK K g.2 tt)     : kIG l yX3_isStuck (Cond.code yX3_isStuck cX3_isStuck 2 (some .boolean) :: kG) (rmD 1 0 0) D K [.ref (r 58)] (xX K r f a g tx) (fun v (_ : Unit) => kb 0 v 1) (fun _ => xX K r f a g tx) 0 0 := by
  refine kIE.of (cc := cX3_isStuck) (maxL := 2) (ret := (some .boolean)) (by decide) rfl (Nat.le_of_ble_eq_true rfl) ?_
  intro p e s m below meth c A hx hb hr hml hown hts hlocks hnm hK hP hD hS hA hV ls hl
  have hg : ∀ w ∈ kG, w.before _ s = true := fun w h => hts w (List.mem_cons_of_mem _ h)
  have hown : s.vm.findClass RX3 = some m.cls := hown
  have hl : lv_has ls 2 [(0, .ref (r 58))] := hl
  refine lv_aload_n hx hb dX3_isStuck_0 rfl (lv_at hl 0 rfl) ?_
  refine va_get (D := D) (ci := 3) (v := .ref (r 59)) (C := RX3) (T := TX3) (N := 4) hx hb hg inC3 hown hK hP 58 rfl rfl 0 (by decide) (hg _ wt2_95) (fun _ h9 => h9) rfl dX3_isStuck_1 ?_
  refine va_get (D := D) (ci := 7) (v := .int (f 1906)) (C := RX7) (T := TX7) (N := 20) hx hb hg inC7 hown hK hP 59 rfl rfl 18 (by decide) (hg _ wt1_152) (fun _ h9 => h9) rfl dX3_isStuck_4 ?_
  refine lv_topi (fun t1 et1 => ?_)
  refine lv_iconst (v := (-1)) hx hb dX3_isStuck_7 (by decide) ?_
  refine lv_icmp_eq (tgt := 13) hx hb dX3_isStuck_8 (by decide) (fun c2 => ?_) (fun c2 => ?_)
  · have b3 : kb (-1) t1 (-1) := kb_eq c2 kc_m1
    refine lv_iconst (v := 0) hx hb dX3_isStuck_13 (by decide) ?_
    refine lv_istore_n (lv' := [(1, .int 0), (0, .ref (r 58))]) hx hb dX3_isStuck_14 rfl hl (by decide) rfl (fun ls hl => ?_)
    have lp5 : ∀ (n6 : Nat) (H : Heap) (locs : List Loc) (ls : Array Slot) (y4 : Int32), (6 < y4.toInt + (n6 : Int)) → (kb 0 y4 6) → va_P D vwCl (xX K r f a g tx) H → va_D A (xX K r f a g tx) → va_S A s.heap H locs → lv_has ls 2 [(1, .int y4), (0, .ref (r 58))] → W p l e (rmD 1 0 0) s m ([.ref (r 58)] : List Value).toArray below meth c H locs 0 0 (kQi D (tysK K) (fun v (_ : Unit) => kb 0 v 1) (fun _ => xX K r f a g tx) A below ([.ref (r 58)] : List Value).toArray s 0 0) (F0 m 15 ls []) := by
      intro n6
      induction n6 with
      | zero =>
        intro   H locs ls y4 hmlp5 b7 hP hD hS hl
        exact (by have h1 := b7.2; have h2 := hmlp5; omega : False).elim
      | succ n6 ihlp5 =>
        intro   H locs ls y4 hmlp5 b7 hP hD hS hl
        refine lv_iload_n hx hb dX3_isStuck_15 rfl (lv_at hl 0 rfl) ?_
        refine lv_aload_n hx hb dX3_isStuck_16 rfl (lv_at hl 1 rfl) ?_
        refine va_get (D := D) (ci := 3) (v := .ref (r 59)) (C := RX3) (T := TX3) (N := 4) hx hb hg inC3 hown hK hP 58 rfl rfl 0 (by decide) (hg _ wt2_95) (fun _ h9 => h9) rfl dX3_isStuck_17 ?_
        refine va_get (D := D) (ci := 7) (v := .int (f 1894)) (C := RX7) (T := TX7) (N := 20) hx hb hg inC7 hown hK hP 59 rfl rfl 6 (by decide) (hg _ wt1_106) (fun _ h9 => h9) rfl dX3_isStuck_20 ?_
        refine lv_topi (fun t8 et8 => ?_)
        refine lv_icmp_ge (tgt := 53) hx hb dX3_isStuck_23 (by decide) (fun c9 => ?_) (fun c9 => ?_)
        · have h10 := (kc_le c9)
          have b11 : kb (-2147483648) t8 6 := kr_le1 h10 (kb_any t8) b7
          refine lv_iconst (v := 1) hx hb dX3_isStuck_53 (by decide) ?_
          exact kI_ret (v := 1) hx hb hr hlocks (by decide +kernel) hK hS dX3_isStuck_54 () hP hD (kb_w kc_1 (by decide) (by decide))
        · have h12 := (kc_nle c9)
          have b13 : kb 1 t8 2147483647 := kr_lt2 h12 b7 (kb_any t8) (by decide)
          refine lv_iload_n hx hb dX3_isStuck_26 rfl (lv_at hl 0 rfl) ?_
          refine lv_bipush (v := 6) hx hb dX3_isStuck_27 (by decide) ?_
          refine lv_icmp_ge (tgt := 53) hx hb dX3_isStuck_29 (by decide) (fun c14 => ?_) (fun c14 => ?_)
          · have h15 := (kc_le c14)
            have b16 : kb 6 y4 6 := kr_le2 h15 kc_6 b7
            refine lv_iconst (v := 1) hx hb dX3_isStuck_53 (by decide) ?_
            exact kI_ret (v := 1) hx hb hr hlocks (by decide +kernel) hK hS dX3_isStuck_54 () hP hD (kb_w kc_1 (by decide) (by decide))
          · have h17 := (kc_nle c14)
            have b18 : kb 0 y4 5 := kr_lt1 h17 b7 kc_6 (by decide)
            refine lv_aload_n hx hb dX3_isStuck_32 rfl (lv_at hl 1 rfl) ?_
            refine va_get (D := D) (ci := 3) (v := .ref (r 59)) (C := RX3) (T := TX3) (N := 4) hx hb hg inC3 hown hK hP 58 rfl rfl 0 (by decide) (hg _ wt2_95) (fun _ h9 => h9) rfl dX3_isStuck_33 ?_
            refine va_get (D := D) (ci := 7) (v := .ref (r 68)) (C := RX7) (T := TX7) (N := 20) hx hb hg inC7 hown hK hP 59 rfl rfl 10 (by decide) (hg _ wt1_123) (fun _ h9 => h9) rfl dX3_isStuck_36 ?_
            refine lv_iload_n hx hb dX3_isStuck_39 rfl (lv_at hl 0 rfl) ?_
            refine va_iald hx hb hK hP 68 0 rfl rfl (kb_in b18 (by decide) (by decide)) dX3_isStuck_40 ?_
            refine lv_topi (fun t19 et19 => ?_)
            refine lv_iconst (v := (-1)) hx hb dX3_isStuck_41 (by decide) ?_
            refine lv_icmp_eq (tgt := 47) hx hb dX3_isStuck_42 (by decide) (fun c20 => ?_) (fun c20 => ?_)
            · have b21 : kb (-1) t19 (-1) := kb_eq c20 kc_m1
              obtain ⟨t22, et22⟩ : ∃ z : Int32, z = y4 + Int32.ofInt 1 := ⟨_, rfl⟩
              have qt22 : t22.toInt = y4.toInt + 1 := by rw [et22]; exact km_inc b18 (by decide) (by decide)
              have b23 : kb 1 t22 6 := kb_inc (k := 1) qt22 b18
              refine lv_iinc (v := t22) (lv' := [(1, .int t22), (0, .ref (r 58))]) hx hb dX3_isStuck_47 hl (k := 0) rfl et22.symm (by decide) rfl (fun ls hl => ?_)
              refine lv_goto (tgt := 15) hx hb dX3_isStuck_50 (by decide) ?_
              exact ihlp5  _ _ _ t22 (km_up hmlp5 qt22) (kb_w b23 (by decide) (by decide)) hP hD hS (lv_sub hl [0, 1] rfl)
            · refine lv_iconst (v := 0) hx hb dX3_isStuck_45 (by decide) ?_
              exact kI_ret (v := 0) hx hb hr hlocks (by decide +kernel) hK hS dX3_isStuck_46 () hP hD (kb_w kc_0 (by decide) (by decide))
    exact lp5 (7)  _ _ _ 0 (by have h1 := (kc_0); unfold kb at h1; omega) (kb_w kc_0 (by decide) (by decide)) hP hD hS (lv_sub hl [0, 1] rfl)
  · refine lv_iconst (v := 0) hx hb dX3_isStuck_11 (by decide) ?_
    exact kI_ret (v := 0) hx hb hr hlocks (by decide +kernel) hK hS dX3_isStuck_12 () hP hD (kb_w kc_0 (by decide) (by decide))
set_option maxHeartbeats 4000000 in
set_option maxRecDepth 100000 in
theorem x_3_canTick  (l : Launch) {D : va_G} {K : Nat → ClassId} (r : Nat → Nat) (f : Nat → Int32) (a : Nat → Nat → Int32) (g : xG) (tx tt : va_W) (hT : ∀ c ∈ tt, c ∈ tx) (hI : xI f a) (hG : gOK K g.2 tt)     : kIG l yX3_canTick (Cond.code yX3_canTick cX3_canTick 1 (some .boolean) :: kG) (rmD 1 0 0) D K [.ref (r 58)] (xX K r f a g tx) (fun v (_ : Unit) => kb 0 v 1) (fun _ => xX K r f a g tx) 0 0 := by
  refine kIE.of (cc := cX3_canTick) (maxL := 1) (ret := (some .boolean)) (by decide) rfl (Nat.le_of_ble_eq_true rfl) ?_
  intro p e s m below meth c A hx hb hr hml hown hts hlocks hnm hK hP hD hS hA hV ls hl
  have hg : ∀ w ∈ kG, w.before _ s = true := fun w h => hts w (List.mem_cons_of_mem _ h)
  have hown : s.vm.findClass RX3 = some m.cls := hown
  have hl : lv_has ls 1 [(0, .ref (r 58))] := hl
  refine lv_aload_n hx hb dX3_canTick_0 rfl (lv_at hl 0 rfl) ?_
  refine va_get (D := D) (ci := 3) (v := .ref (r 59)) (C := RX3) (T := TX3) (N := 4) hx hb hg inC3 hown hK hP 58 rfl rfl 0 (by decide) (hg _ wt2_95) (fun _ h9 => h9) rfl dX3_canTick_1 ?_
  refine va_get (D := D) (ci := 7) (v := .ref (r 69)) (C := RX7) (T := TX7) (N := 20) hx hb hg inC7 hown hK hP 59 rfl rfl 11 (by decide) (hg _ wt1_132) (fun _ h9 => h9) rfl dX3_canTick_4 ?_
  refine lv_iconst (v := 0) hx hb dX3_canTick_7 (by decide) ?_
  refine va_iald hx hb hK hP 69 0 rfl rfl (kb_in kc_0 (by decide) (by decide)) dX3_canTick_8 ?_
  refine lv_topi (fun t1 et1 => ?_)
  rw [cl_0] at et1
  refine lv_sipush (v := 999) hx hb dX3_canTick_9 (by decide) ?_
  refine lv_icmp_ge (tgt := 19) hx hb dX3_canTick_12 (by decide) (fun c2 => ?_) (fun c2 => ?_)
  · have h3 := (kc_le c2)
    have b4 : kb 999 t1 2147483647 := kr_le2 h3 kc_999 (kb_any t1)
    refine lv_iconst (v := 0) hx hb dX3_canTick_19 (by decide) ?_
    exact kI_ret (v := 0) hx hb hr hlocks (by decide +kernel) hK hS dX3_canTick_20 () hP hD (kb_w kc_0 (by decide) (by decide))
  · have h5 := (kc_nle c2)
    have b6 : kb (-2147483648) t1 998 := kr_lt1 h5 (kb_any t1) kc_999 (by decide)
    refine lv_iconst (v := 1) hx hb dX3_canTick_15 (by decide) ?_
    refine lv_goto (tgt := 20) hx hb dX3_canTick_16 (by decide) ?_
    exact kI_ret (v := 1) hx hb hr hlocks (by decide +kernel) hK hS dX3_canTick_20 () hP hD (kb_w kc_1 (by decide) (by decide))
set_option maxHeartbeats 4000000 in
set_option maxRecDepth 100000 in
theorem x_3_allStand  (l : Launch) {D : va_G} {K : Nat → ClassId} (r : Nat → Nat) (f : Nat → Int32) (a : Nat → Nat → Int32) (g : xG) (tx tt : va_W) (hT : ∀ c ∈ tt, c ∈ tx) (hI : xI f a) (hG : gOK K g.2 tt)     : kIG l yX3_allStand (Cond.code yX3_allStand cX3_allStand 1 (some .boolean) :: kG) (rmD 2 0 0) D K [.ref (r 58)] (xX K r f a g tx) (fun v (_ : Unit) => kb 0 v 1) (fun _ => xX K r f a g tx) 0 0 := by
  refine kIE.of (cc := cX3_allStand) (maxL := 1) (ret := (some .boolean)) (by decide) rfl (Nat.le_of_ble_eq_true rfl) ?_
  intro p e s m below meth c A hx hb hr hml hown hts hlocks hnm hK hP hD hS hA hV ls hl
  have hg : ∀ w ∈ kG, w.before _ s = true := fun w h => hts w (List.mem_cons_of_mem _ h)
  have hown : s.vm.findClass RX3 = some m.cls := hown
  have hl : lv_has ls 1 [(0, .ref (r 58))] := hl
  refine lv_aload_n hx hb dX3_allStand_0 rfl (lv_at hl 0 rfl) ?_
  refine va_get (D := D) (ci := 3) (v := .ref (r 59)) (C := RX3) (T := TX3) (N := 4) hx hb hg inC3 hown hK hP 58 rfl rfl 0 (by decide) (hg _ wt2_95) (fun _ h9 => h9) rfl dX3_allStand_1 ?_
  refine kIG.callW (As := []) (rest := []) ⟨hx, hb, hml, hown, hg⟩ (x_7_upMaskP l r f a g tx tt hT hI hG   ) (cwV 0 hg (kgV wt5_74 wt3_44 wt3_45 wt1_2 wt3_46) rfl rfl rfl (by decide +kernel) ⟨by decide, by decide⟩) hV hK hP hD hS hA (59) 7 rfl rfl rfl hl.1 rfl (Nat.le_of_ble_eq_true rfl) dX3_allStand_4 ⟨Nat.le_refl _, Nat.le_refl _⟩ (fun v2 u3 H locs hw1 hP hD hS => ?_)
  have hP : va_P D vwCl (xX K r f a g tx) H := hP
  have hD : va_D A (xX K r f a g tx) := hD
  refine lv_iconst (v := 1) hx hb dX3_allStand_7 (by decide) ?_
  refine lv_aload_n hx hb dX3_allStand_8 rfl (lv_at hl 0 rfl) ?_
  refine va_get (D := D) (ci := 3) (v := .ref (r 59)) (C := RX3) (T := TX3) (N := 4) hx hb hg inC3 hown hK hP 58 rfl rfl 0 (by decide) (hg _ wt2_95) (fun _ h9 => h9) rfl dX3_allStand_9 ?_
  refine va_get (D := D) (ci := 7) (v := .int (f 1888)) (C := RX7) (T := TX7) (N := 20) hx hb hg inC7 hown hK hP 59 rfl rfl 0 (by decide) (hg _ wt1_83) (fun _ h9 => h9) rfl dX3_allStand_12 ?_
  refine lv_topi (fun t4 et4 => ?_)
  have b5 : kb 0 t4 10 := kb_eq et4 (fI_at hI.1 1888 (by decide) (by decide))
  refine lv_ishl hx hb dX3_allStand_15 ?_
  refine lv_topi (fun t6 et6 => ?_)
  have b7 : kb 1 t6 1024 := kb_eq et6 (kb_shl (l := 0) (h := 10) b5 (by decide))
  refine lv_iconst (v := 1) hx hb dX3_allStand_16 (by decide) ?_
  refine lv_isub hx hb dX3_allStand_17 ?_
  refine lv_topi (fun t8 et8 => ?_)
  have b9 : kb 0 t8 1023 := kb_eq et8 (kb_sub b7 kc_1 (by decide) (by decide))
  have qt8 : t8.toInt = t6.toInt - 1 := by rw [et8]; exact kt_subc b7 kc_1 (by decide) (by decide)
  refine lv_icmp_ne (tgt := 25) hx hb dX3_allStand_18 (by decide) (fun c10 => ?_) (fun c10 => ?_)
  · refine lv_iconst (v := 0) hx hb dX3_allStand_25 (by decide) ?_
    exact kI_ret (v := 0) hx hb hr hlocks (by decide +kernel) hK hS dX3_allStand_26 () hP hD (kb_w kc_0 (by decide) (by decide))
  · have b11 : kb 0 v2 1023 := kb_eq c10 b9
    refine lv_iconst (v := 1) hx hb dX3_allStand_21 (by decide) ?_
    refine lv_goto (tgt := 26) hx hb dX3_allStand_22 (by decide) ?_
    exact kI_ret (v := 1) hx hb hr hlocks (by decide +kernel) hK hS dX3_allStand_26 () hP hD (kb_w kc_1 (by decide) (by decide))
set_option maxHeartbeats 4000000 in
set_option maxRecDepth 100000 in
theorem x_3_noteStanding  (l : Launch) {D : va_G} {K : Nat → ClassId} (r : Nat → Nat) (f : Nat → Int32) (a : Nat → Nat → Int32) (g : xG) (tx tt : va_W) (hT : ∀ c ∈ tt, c ∈ tx) (hI : xI f a) (hG : gOK K g.2 tt) (tik : Int32) (fr : Int32) (bfr : kb 0 fr 0)   : kIG l yX3_noteStanding (Cond.code yX3_noteStanding cX3_noteStanding 6 (some .boolean) :: kG) (rmD 1 0 0) D K [.ref (r 58), .int tik, .ref (r 81), .int fr] (xX K r f a g tx) (fun v (u : xS) => kb 0 v 1 ∧ xI u.1 u.2.1 ∧ gOK K u.2.2.2 tt ∧ xEk ([], [81], []) f a g u.1 u.2.1 u.2.2) (fun u => xX K r u.1 u.2.1 u.2.2 tx) 0 0 := by
  refine kIE.of (cc := cX3_noteStanding) (maxL := 6) (ret := (some .boolean)) (by decide) rfl (Nat.le_of_ble_eq_true rfl) ?_
  intro p e s m below meth c A hx hb hr hml hown hts hlocks hnm hK hP hD hS hA hV ls hl
  have hE : xEk ([], [81], []) f a g f a g := xEk_rf
  have hg : ∀ w ∈ kG, w.before _ s = true := fun w h => hts w (List.mem_cons_of_mem _ h)
  have hown : s.vm.findClass RX3 = some m.cls := hown
  have hl : lv_has ls 6 [(0, .ref (r 58)), (1, .int tik), (2, .ref (r 81)), (3, .int fr)] := hl
  refine lv_iconst (v := 0) hx hb dX3_noteStanding_0 (by decide) ?_
  refine lv_istore (lv' := [(4, .int 0), (0, .ref (r 58)), (1, .int tik), (2, .ref (r 81)), (3, .int fr)]) hx hb dX3_noteStanding_1 hl (by decide) rfl (fun ls hl => ?_)
  refine lv_iconst (v := 0) hx hb dX3_noteStanding_3 (by decide) ?_
  refine lv_istore (lv' := [(5, .int 0), (4, .int 0), (0, .ref (r 58)), (1, .int tik), (2, .ref (r 81)), (3, .int fr)]) hx hb dX3_noteStanding_4 hl (by decide) rfl (fun ls hl => ?_)
  have lp4 : ∀ (n5 : Nat) (B3 : Nat → Nat → Int32) (H : Heap) (locs : List Loc) (ls : Array Slot) (y1 : Int32) (y2 : Int32), (10 < y1.toInt + (n5 : Int)) → (xI f B3) → (gOK K g.2 tt) → (xEk ([], [81], []) f a g f B3 g) → (kb 0 y1 10) → va_P D vwCl (xX K r f B3 g tx) H → va_D A (xX K r f B3 g tx) → va_S A s.heap H locs → lv_has ls 6 [(5, .int y1), (4, .int y2), (0, .ref (r 58)), (1, .int tik), (2, .ref (r 81)), (3, .int fr)] → W p l e (rmD 1 0 0) s m ([.ref (r 58), .int tik, .ref (r 81), .int fr] : List Value).toArray below meth c H locs 0 0 (kQi D (tysK K) (fun v (u : xS) => kb 0 v 1 ∧ xI u.1 u.2.1 ∧ gOK K u.2.2.2 tt ∧ xEk ([], [81], []) f a g u.1 u.2.1 u.2.2) (fun u => xX K r u.1 u.2.1 u.2.2 tx) A below ([.ref (r 58), .int tik, .ref (r 81), .int fr] : List Value).toArray s 0 0) (F0 m 6 ls []) := by
    intro n5
    induction n5 with
    | zero =>
      intro  B3  H locs ls y1 y2 hmlp4 hI hG hE b6 hP hD hS hl
      exact (by have h1 := b6.2; have h2 := hmlp4; omega : False).elim
    | succ n5 ihlp4 =>
      intro  B3  H locs ls y1 y2 hmlp4 hI hG hE b6 hP hD hS hl
      refine lv_iload hx hb dX3_noteStanding_6 (lv_at hl 0 rfl) ?_
      refine lv_aload_n hx hb dX3_noteStanding_8 rfl (lv_at hl 2 rfl) ?_
      refine va_get (D := D) (ci := 3) (v := .ref (r 59)) (C := RX3) (T := TX3) (N := 4) hx hb hg inC3 hown hK hP 58 rfl rfl 0 (by decide) (hg _ wt2_95) (fun _ h9 => h9) rfl dX3_noteStanding_9 ?_
      refine va_get (D := D) (ci := 7) (v := .int (f 1888)) (C := RX7) (T := TX7) (N := 20) hx hb hg inC7 hown hK hP 59 rfl rfl 0 (by decide) (hg _ wt1_83) (fun _ h9 => h9) rfl dX3_noteStanding_12 ?_
      refine lv_topi (fun t7 et7 => ?_)
      have b8 : kb 0 t7 10 := kb_eq et7 (fI_at hI.1 1888 (by decide) (by decide))
      refine lv_icmp_ge (tgt := 68) hx hb dX3_noteStanding_15 (by decide) (fun c43 => ?_) (fun c43 => ?_)
      · have h44 := (kc_le c43)
        refine lv_iload hx hb dX3_noteStanding_68 (lv_at hl 1 rfl) ?_
        refine lv_aload_n hx hb dX3_noteStanding_70 rfl (lv_at hl 2 rfl) ?_
        refine va_get (D := D) (ci := 3) (v := .ref (r 59)) (C := RX3) (T := TX3) (N := 4) hx hb hg inC3 hown hK hP 58 rfl rfl 0 (by decide) (hg _ wt2_95) (fun _ h9 => h9) rfl dX3_noteStanding_71 ?_
        refine va_get (D := D) (ci := 7) (v := .int (f 1888)) (C := RX7) (T := TX7) (N := 20) hx hb hg inC7 hown hK hP 59 rfl rfl 0 (by decide) (hg _ wt1_83) (fun _ h9 => h9) rfl dX3_noteStanding_74 ?_
        refine k_top (z := t7) et7.symm ?_
        refine lv_icmp_ne (tgt := 84) hx hb dX3_noteStanding_77 (by decide) (fun c45 => ?_) (fun c45 => ?_)
        · refine lv_iconst (v := 0) hx hb dX3_noteStanding_84 (by decide) ?_
          exact kI_ret (v := 0) hx hb hr hlocks (by decide +kernel) hK hS dX3_noteStanding_85 (f, B3, g) hP hD ⟨(kb_w kc_0 (by decide) (by decide)), hI, hG, hE⟩
        · have b46 : kb 0 y2 10 := kb_eq c45 b8
          refine lv_iconst (v := 1) hx hb dX3_noteStanding_80 (by decide) ?_
          refine lv_goto (tgt := 85) hx hb dX3_noteStanding_81 (by decide) ?_
          exact kI_ret (v := 1) hx hb hr hlocks (by decide +kernel) hK hS dX3_noteStanding_85 (f, B3, g) hP hD ⟨(kb_w kc_1 (by decide) (by decide)), hI, hG, hE⟩
      · have h47 := (kc_nle c43)
        have b48 : kb 0 y1 9 := kr_lt1 h47 b6 b8 (by decide)
        have b49 : kb 1 t7 10 := kr_lt2 h47 b6 b8 (by decide)
        refine lv_iload hx hb dX3_noteStanding_18 (lv_at hl 0 rfl) ?_
        refine lv_bipush (v := 10) hx hb dX3_noteStanding_20 (by decide) ?_
        refine lv_icmp_ge (tgt := 68) hx hb dX3_noteStanding_22 (by decide) (fun c50 => ?_) (fun c50 => ?_)
        · have h51 := (kc_le c50)
          exact kb_no (kr_le1 h51 kc_10 b48) (by decide)
        · have h52 := (kc_nle c50)
          refine lv_aload_n hx hb dX3_noteStanding_25 rfl (lv_at hl 2 rfl) ?_
          refine va_get (D := D) (ci := 3) (v := .ref (r 59)) (C := RX3) (T := TX3) (N := 4) hx hb hg inC3 hown hK hP 58 rfl rfl 0 (by decide) (hg _ wt2_95) (fun _ h9 => h9) rfl dX3_noteStanding_26 ?_
          refine va_get (D := D) (ci := 7) (v := .ref (r 64)) (C := RX7) (T := TX7) (N := 20) hx hb hg inC7 hown hK hP 59 rfl rfl 5 (by decide) (hg _ wt1_103) (fun _ h9 => h9) rfl dX3_noteStanding_29 ?_
          refine lv_iload hx hb dX3_noteStanding_32 (lv_at hl 0 rfl) ?_
          refine va_iald hx hb hK hP 64 0 rfl rfl (kb_in b48 (by decide) (by decide)) dX3_noteStanding_34 ?_
          refine lv_topi (fun t53 et53 => ?_)
          have jn66 : ∀ (B65 : Nat → Nat → Int32) (H : Heap) (locs : List Loc) (ls : Array Slot) (y64 : Int32), (xI f B65) → (gOK K g.2 tt) → (xEk ([], [81], []) f a g f B65 g) → va_P D vwCl (xX K r f B65 g tx) H → va_D A (xX K r f B65 g tx) → va_S A s.heap H locs → lv_has ls 6 [(5, .int y1), (4, .int y64), (0, .ref (r 58)), (1, .int tik), (2, .ref (r 81)), (3, .int fr)] → W p l e (rmD 1 0 0) s m ([.ref (r 58), .int tik, .ref (r 81), .int fr] : List Value).toArray below meth c H locs 0 0 (kQi D (tysK K) (fun v (u : xS) => kb 0 v 1 ∧ xI u.1 u.2.1 ∧ gOK K u.2.2.2 tt ∧ xEk ([], [81], []) f a g u.1 u.2.1 u.2.2) (fun u => xX K r u.1 u.2.1 u.2.2 tx) A below ([.ref (r 58), .int tik, .ref (r 81), .int fr] : List Value).toArray s 0 0) (F0 m 62 ls []) := by
            intro B65  H locs ls y64 hI hG hE hP hD hS hl
            obtain ⟨t67, et67⟩ : ∃ z : Int32, z = y1 + Int32.ofInt 1 := ⟨_, rfl⟩
            have qt67 : t67.toInt = y1.toInt + 1 := by rw [et67]; exact km_inc b48 (by decide) (by decide)
            have b68 : kb 1 t67 10 := kb_inc (k := 1) qt67 b48
            refine lv_iinc (v := t67) (lv' := [(5, .int t67), (4, .int y64), (0, .ref (r 58)), (1, .int tik), (2, .ref (r 81)), (3, .int fr)]) hx hb dX3_noteStanding_62 hl (k := 0) rfl et67.symm (by decide) rfl (fun ls hl => ?_)
            refine lv_goto (tgt := 6) hx hb dX3_noteStanding_65 (by decide) ?_
            exact ihlp4  B65 _ _ _ t67 y64 (km_up hmlp4 qt67) hI hG hE (kb_w b68 (by decide) (by decide)) hP hD hS (lv_sub hl [0, 1, 2, 3, 4, 5] rfl)
          refine lv_if_ne (tgt := 62) hx hb dX3_noteStanding_35 (by decide) (fun c69 => ?_) (fun c69 => ?_)
          · exact jn66 B3 _ _ _ y2 hI hG hE hP hD hS (lv_sub hl [0, 1, 2, 3, 4, 5] rfl)
          · have b70 : kb 0 t53 0 := kb_eq c69 kc_0
            obtain ⟨t71, et71⟩ : ∃ z : Int32, z = y2 + Int32.ofInt 1 := ⟨_, rfl⟩
            refine lv_iinc (v := t71) (lv' := [(4, .int t71), (5, .int y1), (0, .ref (r 58)), (1, .int tik), (2, .ref (r 81)), (3, .int fr)]) hx hb dX3_noteStanding_38 hl (k := 1) rfl et71.symm (by decide) rfl (fun ls hl => ?_)
            refine lv_aload_n hx hb dX3_noteStanding_41 rfl (lv_at hl 4 rfl) ?_
            refine lv_iload_n hx hb dX3_noteStanding_42 rfl (lv_at hl 5 rfl) ?_
            refine lv_iconst (v := 1) hx hb dX3_noteStanding_43 (by decide) ?_
            refine lv_iadd hx hb dX3_noteStanding_44 ?_
            refine lv_topi (fun t72 et72 => ?_)
            have b73 : kb 1 t72 1 := kb_eq et72 (kb_add bfr kc_1 (by decide) (by decide))
            have qt72 : t72.toInt = fr.toInt + 1 := by rw [et72]; exact kt_addc bfr kc_1 (by decide) (by decide)
            refine lv_iload hx hb dX3_noteStanding_45 (lv_at hl 1 rfl) ?_
            refine lv_iadd hx hb dX3_noteStanding_47 ?_
            refine lv_topi (fun t74 et74 => ?_)
            have b75 : kb 1 t74 10 := kb_eq et74 (kb_add b73 b48 (by decide) (by decide))
            have qt74 : t74.toInt = t72.toInt + y1.toInt := by rw [et74]; exact kt_add b73 b48 (by decide) (by decide)
            refine va_iald hx hb hK hP 81 0 rfl rfl (kb_in b75 (by decide) (by decide)) dX3_noteStanding_48 ?_
            refine lv_topi (fun t76 et76 => ?_)
            refine lv_iconst (v := (-1)) hx hb dX3_noteStanding_49 (by decide) ?_
            refine lv_icmp_ne (tgt := 62) hx hb dX3_noteStanding_50 (by decide) (fun c77 => ?_) (fun c77 => ?_)
            · exact jn66 B3 _ _ _ t71 hI hG hE hP hD hS (lv_sub hl [1, 0, 2, 3, 4, 5] rfl)
            · have b78 : kb (-1) t76 (-1) := kb_eq c77 kc_m1
              refine lv_aload_n hx hb dX3_noteStanding_53 rfl (lv_at hl 4 rfl) ?_
              refine lv_iload_n hx hb dX3_noteStanding_54 rfl (lv_at hl 5 rfl) ?_
              refine lv_iconst (v := 1) hx hb dX3_noteStanding_55 (by decide) ?_
              refine lv_iadd hx hb dX3_noteStanding_56 ?_
              refine k_top (z := t72) et72.symm ?_
              refine lv_iload hx hb dX3_noteStanding_57 (lv_at hl 1 rfl) ?_
              refine lv_iadd hx hb dX3_noteStanding_59 ?_
              refine k_top (z := t74) et74.symm ?_
              refine lv_iload_n hx hb dX3_noteStanding_60 rfl (lv_at hl 3 rfl) ?_
              refine va_iast hx hb hK hP hD hS 81 0 rfl rfl (kb_in b75 (by decide) (by decide)) dX3_noteStanding_61 (fun H locs hP hD hS => ?_)
              have hP : va_P D vwCl (xX K r f (va_up B3 81 (upd (B3 81) t74.toNatClampNeg tik)) g tx) H := hP
              have hD : va_D A (xX K r f (va_up B3 81 (upd (B3 81) t74.toNatClampNeg tik)) g tx) := hD
              refine k_gen (P := fun z => va_P D vwCl (xX K r f z g tx) H ∧ va_D A (xX K r f z g tx) ∧ (xI f z) ∧ (gOK K g.2 tt) ∧ (xEk ([], [81], []) f a g f z g)) (va_up B3 81 (upd (B3 81) t74.toNatClampNeg tik)) ⟨hP, hD, (xI_a hI (by decide)), hG, (xEk_a hE rfl)⟩ (fun a_79 ea_79 hq => ?_)
              obtain ⟨hP, hD, hI, hG, hE⟩ := hq
              exact jn66 a_79 _ _ _ t71 hI hG hE hP hD hS (lv_sub hl [1, 0, 2, 3, 4, 5] rfl)
  exact lp4 (11)  a _ _ _ 0 0 (by have h1 := (kc_0); unfold kb at h1; omega) hI hG hE (kb_w kc_0 (by decide) (by decide)) hP hD hS (lv_sub hl [0, 1, 2, 3, 4, 5] rfl)
set_option maxHeartbeats 4000000 in
set_option maxRecDepth 100000 in
theorem x_3_noteStandingL  (l : Launch) {D : va_G} {K : Nat → ClassId} (r : Nat → Nat) (f : Nat → Int32) (a : Nat → Nat → Int32) (g : xG) (tx tt : va_W) (hT : ∀ c ∈ tt, c ∈ tx) (hI : xI f a) (hG : gOK K g.2 tt) (tik : Int32) (fr : Int32) (bfr : kb 0 fr 0)   : kIG l yX3_noteStanding (Cond.code yX3_noteStanding cX3_noteStanding 6 (some .boolean) :: kG) (rmD 1 0 0) D K [.ref (r 58), .int tik, .ref (r 82), .int fr] (xX K r f a g tx) (fun v (u : xS) => kb 0 v 1 ∧ xI u.1 u.2.1 ∧ gOK K u.2.2.2 tt ∧ xEk ([], [82], []) f a g u.1 u.2.1 u.2.2) (fun u => xX K r u.1 u.2.1 u.2.2 tx) 0 0 := by
  refine kIE.of (cc := cX3_noteStanding) (maxL := 6) (ret := (some .boolean)) (by decide) rfl (Nat.le_of_ble_eq_true rfl) ?_
  intro p e s m below meth c A hx hb hr hml hown hts hlocks hnm hK hP hD hS hA hV ls hl
  have hE : xEk ([], [82], []) f a g f a g := xEk_rf
  have hg : ∀ w ∈ kG, w.before _ s = true := fun w h => hts w (List.mem_cons_of_mem _ h)
  have hown : s.vm.findClass RX3 = some m.cls := hown
  have hl : lv_has ls 6 [(0, .ref (r 58)), (1, .int tik), (2, .ref (r 82)), (3, .int fr)] := hl
  refine lv_iconst (v := 0) hx hb dX3_noteStanding_0 (by decide) ?_
  refine lv_istore (lv' := [(4, .int 0), (0, .ref (r 58)), (1, .int tik), (2, .ref (r 82)), (3, .int fr)]) hx hb dX3_noteStanding_1 hl (by decide) rfl (fun ls hl => ?_)
  refine lv_iconst (v := 0) hx hb dX3_noteStanding_3 (by decide) ?_
  refine lv_istore (lv' := [(5, .int 0), (4, .int 0), (0, .ref (r 58)), (1, .int tik), (2, .ref (r 82)), (3, .int fr)]) hx hb dX3_noteStanding_4 hl (by decide) rfl (fun ls hl => ?_)
  have lp4 : ∀ (n5 : Nat) (B3 : Nat → Nat → Int32) (H : Heap) (locs : List Loc) (ls : Array Slot) (y1 : Int32) (y2 : Int32), (10 < y1.toInt + (n5 : Int)) → (xI f B3) → (gOK K g.2 tt) → (xEk ([], [82], []) f a g f B3 g) → (kb 0 y1 10) → va_P D vwCl (xX K r f B3 g tx) H → va_D A (xX K r f B3 g tx) → va_S A s.heap H locs → lv_has ls 6 [(5, .int y1), (4, .int y2), (0, .ref (r 58)), (1, .int tik), (2, .ref (r 82)), (3, .int fr)] → W p l e (rmD 1 0 0) s m ([.ref (r 58), .int tik, .ref (r 82), .int fr] : List Value).toArray below meth c H locs 0 0 (kQi D (tysK K) (fun v (u : xS) => kb 0 v 1 ∧ xI u.1 u.2.1 ∧ gOK K u.2.2.2 tt ∧ xEk ([], [82], []) f a g u.1 u.2.1 u.2.2) (fun u => xX K r u.1 u.2.1 u.2.2 tx) A below ([.ref (r 58), .int tik, .ref (r 82), .int fr] : List Value).toArray s 0 0) (F0 m 6 ls []) := by
    intro n5
    induction n5 with
    | zero =>
      intro  B3  H locs ls y1 y2 hmlp4 hI hG hE b6 hP hD hS hl
      exact (by have h1 := b6.2; have h2 := hmlp4; omega : False).elim
    | succ n5 ihlp4 =>
      intro  B3  H locs ls y1 y2 hmlp4 hI hG hE b6 hP hD hS hl
      refine lv_iload hx hb dX3_noteStanding_6 (lv_at hl 0 rfl) ?_
      refine lv_aload_n hx hb dX3_noteStanding_8 rfl (lv_at hl 2 rfl) ?_
      refine va_get (D := D) (ci := 3) (v := .ref (r 59)) (C := RX3) (T := TX3) (N := 4) hx hb hg inC3 hown hK hP 58 rfl rfl 0 (by decide) (hg _ wt2_95) (fun _ h9 => h9) rfl dX3_noteStanding_9 ?_
      refine va_get (D := D) (ci := 7) (v := .int (f 1888)) (C := RX7) (T := TX7) (N := 20) hx hb hg inC7 hown hK hP 59 rfl rfl 0 (by decide) (hg _ wt1_83) (fun _ h9 => h9) rfl dX3_noteStanding_12 ?_
      refine lv_topi (fun t7 et7 => ?_)
      have b8 : kb 0 t7 10 := kb_eq et7 (fI_at hI.1 1888 (by decide) (by decide))
      refine lv_icmp_ge (tgt := 68) hx hb dX3_noteStanding_15 (by decide) (fun c43 => ?_) (fun c43 => ?_)
      · have h44 := (kc_le c43)
        refine lv_iload hx hb dX3_noteStanding_68 (lv_at hl 1 rfl) ?_
        refine lv_aload_n hx hb dX3_noteStanding_70 rfl (lv_at hl 2 rfl) ?_
        refine va_get (D := D) (ci := 3) (v := .ref (r 59)) (C := RX3) (T := TX3) (N := 4) hx hb hg inC3 hown hK hP 58 rfl rfl 0 (by decide) (hg _ wt2_95) (fun _ h9 => h9) rfl dX3_noteStanding_71 ?_
        refine va_get (D := D) (ci := 7) (v := .int (f 1888)) (C := RX7) (T := TX7) (N := 20) hx hb hg inC7 hown hK hP 59 rfl rfl 0 (by decide) (hg _ wt1_83) (fun _ h9 => h9) rfl dX3_noteStanding_74 ?_
        refine k_top (z := t7) et7.symm ?_
        refine lv_icmp_ne (tgt := 84) hx hb dX3_noteStanding_77 (by decide) (fun c45 => ?_) (fun c45 => ?_)
        · refine lv_iconst (v := 0) hx hb dX3_noteStanding_84 (by decide) ?_
          exact kI_ret (v := 0) hx hb hr hlocks (by decide +kernel) hK hS dX3_noteStanding_85 (f, B3, g) hP hD ⟨(kb_w kc_0 (by decide) (by decide)), hI, hG, hE⟩
        · have b46 : kb 0 y2 10 := kb_eq c45 b8
          refine lv_iconst (v := 1) hx hb dX3_noteStanding_80 (by decide) ?_
          refine lv_goto (tgt := 85) hx hb dX3_noteStanding_81 (by decide) ?_
          exact kI_ret (v := 1) hx hb hr hlocks (by decide +kernel) hK hS dX3_noteStanding_85 (f, B3, g) hP hD ⟨(kb_w kc_1 (by decide) (by decide)), hI, hG, hE⟩
      · have h47 := (kc_nle c43)
        have b48 : kb 0 y1 9 := kr_lt1 h47 b6 b8 (by decide)
        have b49 : kb 1 t7 10 := kr_lt2 h47 b6 b8 (by decide)
        refine lv_iload hx hb dX3_noteStanding_18 (lv_at hl 0 rfl) ?_
        refine lv_bipush (v := 10) hx hb dX3_noteStanding_20 (by decide) ?_
        refine lv_icmp_ge (tgt := 68) hx hb dX3_noteStanding_22 (by decide) (fun c50 => ?_) (fun c50 => ?_)
        · have h51 := (kc_le c50)
          exact kb_no (kr_le1 h51 kc_10 b48) (by decide)
        · have h52 := (kc_nle c50)
          refine lv_aload_n hx hb dX3_noteStanding_25 rfl (lv_at hl 2 rfl) ?_
          refine va_get (D := D) (ci := 3) (v := .ref (r 59)) (C := RX3) (T := TX3) (N := 4) hx hb hg inC3 hown hK hP 58 rfl rfl 0 (by decide) (hg _ wt2_95) (fun _ h9 => h9) rfl dX3_noteStanding_26 ?_
          refine va_get (D := D) (ci := 7) (v := .ref (r 64)) (C := RX7) (T := TX7) (N := 20) hx hb hg inC7 hown hK hP 59 rfl rfl 5 (by decide) (hg _ wt1_103) (fun _ h9 => h9) rfl dX3_noteStanding_29 ?_
          refine lv_iload hx hb dX3_noteStanding_32 (lv_at hl 0 rfl) ?_
          refine va_iald hx hb hK hP 64 0 rfl rfl (kb_in b48 (by decide) (by decide)) dX3_noteStanding_34 ?_
          refine lv_topi (fun t53 et53 => ?_)
          have jn66 : ∀ (B65 : Nat → Nat → Int32) (H : Heap) (locs : List Loc) (ls : Array Slot) (y64 : Int32), (xI f B65) → (gOK K g.2 tt) → (xEk ([], [82], []) f a g f B65 g) → va_P D vwCl (xX K r f B65 g tx) H → va_D A (xX K r f B65 g tx) → va_S A s.heap H locs → lv_has ls 6 [(5, .int y1), (4, .int y64), (0, .ref (r 58)), (1, .int tik), (2, .ref (r 82)), (3, .int fr)] → W p l e (rmD 1 0 0) s m ([.ref (r 58), .int tik, .ref (r 82), .int fr] : List Value).toArray below meth c H locs 0 0 (kQi D (tysK K) (fun v (u : xS) => kb 0 v 1 ∧ xI u.1 u.2.1 ∧ gOK K u.2.2.2 tt ∧ xEk ([], [82], []) f a g u.1 u.2.1 u.2.2) (fun u => xX K r u.1 u.2.1 u.2.2 tx) A below ([.ref (r 58), .int tik, .ref (r 82), .int fr] : List Value).toArray s 0 0) (F0 m 62 ls []) := by
            intro B65  H locs ls y64 hI hG hE hP hD hS hl
            obtain ⟨t67, et67⟩ : ∃ z : Int32, z = y1 + Int32.ofInt 1 := ⟨_, rfl⟩
            have qt67 : t67.toInt = y1.toInt + 1 := by rw [et67]; exact km_inc b48 (by decide) (by decide)
            have b68 : kb 1 t67 10 := kb_inc (k := 1) qt67 b48
            refine lv_iinc (v := t67) (lv' := [(5, .int t67), (4, .int y64), (0, .ref (r 58)), (1, .int tik), (2, .ref (r 82)), (3, .int fr)]) hx hb dX3_noteStanding_62 hl (k := 0) rfl et67.symm (by decide) rfl (fun ls hl => ?_)
            refine lv_goto (tgt := 6) hx hb dX3_noteStanding_65 (by decide) ?_
            exact ihlp4  B65 _ _ _ t67 y64 (km_up hmlp4 qt67) hI hG hE (kb_w b68 (by decide) (by decide)) hP hD hS (lv_sub hl [0, 1, 2, 3, 4, 5] rfl)
          refine lv_if_ne (tgt := 62) hx hb dX3_noteStanding_35 (by decide) (fun c69 => ?_) (fun c69 => ?_)
          · exact jn66 B3 _ _ _ y2 hI hG hE hP hD hS (lv_sub hl [0, 1, 2, 3, 4, 5] rfl)
          · have b70 : kb 0 t53 0 := kb_eq c69 kc_0
            obtain ⟨t71, et71⟩ : ∃ z : Int32, z = y2 + Int32.ofInt 1 := ⟨_, rfl⟩
            refine lv_iinc (v := t71) (lv' := [(4, .int t71), (5, .int y1), (0, .ref (r 58)), (1, .int tik), (2, .ref (r 82)), (3, .int fr)]) hx hb dX3_noteStanding_38 hl (k := 1) rfl et71.symm (by decide) rfl (fun ls hl => ?_)
            refine lv_aload_n hx hb dX3_noteStanding_41 rfl (lv_at hl 4 rfl) ?_
            refine lv_iload_n hx hb dX3_noteStanding_42 rfl (lv_at hl 5 rfl) ?_
            refine lv_iconst (v := 1) hx hb dX3_noteStanding_43 (by decide) ?_
            refine lv_iadd hx hb dX3_noteStanding_44 ?_
            refine lv_topi (fun t72 et72 => ?_)
            have b73 : kb 1 t72 1 := kb_eq et72 (kb_add bfr kc_1 (by decide) (by decide))
            have qt72 : t72.toInt = fr.toInt + 1 := by rw [et72]; exact kt_addc bfr kc_1 (by decide) (by decide)
            refine lv_iload hx hb dX3_noteStanding_45 (lv_at hl 1 rfl) ?_
            refine lv_iadd hx hb dX3_noteStanding_47 ?_
            refine lv_topi (fun t74 et74 => ?_)
            have b75 : kb 1 t74 10 := kb_eq et74 (kb_add b73 b48 (by decide) (by decide))
            have qt74 : t74.toInt = t72.toInt + y1.toInt := by rw [et74]; exact kt_add b73 b48 (by decide) (by decide)
            refine va_iald hx hb hK hP 82 0 rfl rfl (kb_in b75 (by decide) (by decide)) dX3_noteStanding_48 ?_
            refine lv_topi (fun t76 et76 => ?_)
            refine lv_iconst (v := (-1)) hx hb dX3_noteStanding_49 (by decide) ?_
            refine lv_icmp_ne (tgt := 62) hx hb dX3_noteStanding_50 (by decide) (fun c77 => ?_) (fun c77 => ?_)
            · exact jn66 B3 _ _ _ t71 hI hG hE hP hD hS (lv_sub hl [1, 0, 2, 3, 4, 5] rfl)
            · have b78 : kb (-1) t76 (-1) := kb_eq c77 kc_m1
              refine lv_aload_n hx hb dX3_noteStanding_53 rfl (lv_at hl 4 rfl) ?_
              refine lv_iload_n hx hb dX3_noteStanding_54 rfl (lv_at hl 5 rfl) ?_
              refine lv_iconst (v := 1) hx hb dX3_noteStanding_55 (by decide) ?_
              refine lv_iadd hx hb dX3_noteStanding_56 ?_
              refine k_top (z := t72) et72.symm ?_
              refine lv_iload hx hb dX3_noteStanding_57 (lv_at hl 1 rfl) ?_
              refine lv_iadd hx hb dX3_noteStanding_59 ?_
              refine k_top (z := t74) et74.symm ?_
              refine lv_iload_n hx hb dX3_noteStanding_60 rfl (lv_at hl 3 rfl) ?_
              refine va_iast hx hb hK hP hD hS 82 0 rfl rfl (kb_in b75 (by decide) (by decide)) dX3_noteStanding_61 (fun H locs hP hD hS => ?_)
              have hP : va_P D vwCl (xX K r f (va_up B3 82 (upd (B3 82) t74.toNatClampNeg tik)) g tx) H := hP
              have hD : va_D A (xX K r f (va_up B3 82 (upd (B3 82) t74.toNatClampNeg tik)) g tx) := hD
              refine k_gen (P := fun z => va_P D vwCl (xX K r f z g tx) H ∧ va_D A (xX K r f z g tx) ∧ (xI f z) ∧ (gOK K g.2 tt) ∧ (xEk ([], [82], []) f a g f z g)) (va_up B3 82 (upd (B3 82) t74.toNatClampNeg tik)) ⟨hP, hD, (xI_a hI (by decide)), hG, (xEk_a hE rfl)⟩ (fun a_79 ea_79 hq => ?_)
              obtain ⟨hP, hD, hI, hG, hE⟩ := hq
              exact jn66 a_79 _ _ _ t71 hI hG hE hP hD hS (lv_sub hl [1, 0, 2, 3, 4, 5] rfl)
  exact lp4 (11)  a _ _ _ 0 0 (by have h1 := (kc_0); unfold kb at h1; omega) hI hG hE (kb_w kc_0 (by decide) (by decide)) hP hD hS (lv_sub hl [0, 1, 2, 3, 4, 5] rfl)
set_option maxHeartbeats 4000000 in
set_option maxRecDepth 100000 in
theorem x_3_noteStandingS  (l : Launch) {D : va_G} {K : Nat → ClassId} (r : Nat → Nat) (f : Nat → Int32) (a : Nat → Nat → Int32) (g : xG) (tx tt : va_W) (hT : ∀ c ∈ tt, c ∈ tx) (hI : xI f a) (hG : gOK K g.2 tt) (tik : Int32) (fr : Int32) (bfr : kb 0 fr 693)   : kIG l yX3_noteStanding (Cond.code yX3_noteStanding cX3_noteStanding 6 (some .boolean) :: kG) (rmD 1 0 0) D K [.ref (r 58), .int tik, .ref (r 83), .int fr] (xX K r f a g tx) (fun v (u : xS) => kb 0 v 1 ∧ xI u.1 u.2.1 ∧ gOK K u.2.2.2 tt ∧ xEk ([], [83], []) f a g u.1 u.2.1 u.2.2) (fun u => xX K r u.1 u.2.1 u.2.2 tx) 0 0 := by
  refine kIE.of (cc := cX3_noteStanding) (maxL := 6) (ret := (some .boolean)) (by decide) rfl (Nat.le_of_ble_eq_true rfl) ?_
  intro p e s m below meth c A hx hb hr hml hown hts hlocks hnm hK hP hD hS hA hV ls hl
  have hE : xEk ([], [83], []) f a g f a g := xEk_rf
  have hg : ∀ w ∈ kG, w.before _ s = true := fun w h => hts w (List.mem_cons_of_mem _ h)
  have hown : s.vm.findClass RX3 = some m.cls := hown
  have hl : lv_has ls 6 [(0, .ref (r 58)), (1, .int tik), (2, .ref (r 83)), (3, .int fr)] := hl
  refine lv_iconst (v := 0) hx hb dX3_noteStanding_0 (by decide) ?_
  refine lv_istore (lv' := [(4, .int 0), (0, .ref (r 58)), (1, .int tik), (2, .ref (r 83)), (3, .int fr)]) hx hb dX3_noteStanding_1 hl (by decide) rfl (fun ls hl => ?_)
  refine lv_iconst (v := 0) hx hb dX3_noteStanding_3 (by decide) ?_
  refine lv_istore (lv' := [(5, .int 0), (4, .int 0), (0, .ref (r 58)), (1, .int tik), (2, .ref (r 83)), (3, .int fr)]) hx hb dX3_noteStanding_4 hl (by decide) rfl (fun ls hl => ?_)
  have lp4 : ∀ (n5 : Nat) (B3 : Nat → Nat → Int32) (H : Heap) (locs : List Loc) (ls : Array Slot) (y1 : Int32) (y2 : Int32), (10 < y1.toInt + (n5 : Int)) → (xI f B3) → (gOK K g.2 tt) → (xEk ([], [83], []) f a g f B3 g) → (kb 0 y1 10) → va_P D vwCl (xX K r f B3 g tx) H → va_D A (xX K r f B3 g tx) → va_S A s.heap H locs → lv_has ls 6 [(5, .int y1), (4, .int y2), (0, .ref (r 58)), (1, .int tik), (2, .ref (r 83)), (3, .int fr)] → W p l e (rmD 1 0 0) s m ([.ref (r 58), .int tik, .ref (r 83), .int fr] : List Value).toArray below meth c H locs 0 0 (kQi D (tysK K) (fun v (u : xS) => kb 0 v 1 ∧ xI u.1 u.2.1 ∧ gOK K u.2.2.2 tt ∧ xEk ([], [83], []) f a g u.1 u.2.1 u.2.2) (fun u => xX K r u.1 u.2.1 u.2.2 tx) A below ([.ref (r 58), .int tik, .ref (r 83), .int fr] : List Value).toArray s 0 0) (F0 m 6 ls []) := by
    intro n5
    induction n5 with
    | zero =>
      intro  B3  H locs ls y1 y2 hmlp4 hI hG hE b6 hP hD hS hl
      exact (by have h1 := b6.2; have h2 := hmlp4; omega : False).elim
    | succ n5 ihlp4 =>
      intro  B3  H locs ls y1 y2 hmlp4 hI hG hE b6 hP hD hS hl
      refine lv_iload hx hb dX3_noteStanding_6 (lv_at hl 0 rfl) ?_
      refine lv_aload_n hx hb dX3_noteStanding_8 rfl (lv_at hl 2 rfl) ?_
      refine va_get (D := D) (ci := 3) (v := .ref (r 59)) (C := RX3) (T := TX3) (N := 4) hx hb hg inC3 hown hK hP 58 rfl rfl 0 (by decide) (hg _ wt2_95) (fun _ h9 => h9) rfl dX3_noteStanding_9 ?_
      refine va_get (D := D) (ci := 7) (v := .int (f 1888)) (C := RX7) (T := TX7) (N := 20) hx hb hg inC7 hown hK hP 59 rfl rfl 0 (by decide) (hg _ wt1_83) (fun _ h9 => h9) rfl dX3_noteStanding_12 ?_
      refine lv_topi (fun t7 et7 => ?_)
      have b8 : kb 0 t7 10 := kb_eq et7 (fI_at hI.1 1888 (by decide) (by decide))
      refine lv_icmp_ge (tgt := 68) hx hb dX3_noteStanding_15 (by decide) (fun c43 => ?_) (fun c43 => ?_)
      · have h44 := (kc_le c43)
        refine lv_iload hx hb dX3_noteStanding_68 (lv_at hl 1 rfl) ?_
        refine lv_aload_n hx hb dX3_noteStanding_70 rfl (lv_at hl 2 rfl) ?_
        refine va_get (D := D) (ci := 3) (v := .ref (r 59)) (C := RX3) (T := TX3) (N := 4) hx hb hg inC3 hown hK hP 58 rfl rfl 0 (by decide) (hg _ wt2_95) (fun _ h9 => h9) rfl dX3_noteStanding_71 ?_
        refine va_get (D := D) (ci := 7) (v := .int (f 1888)) (C := RX7) (T := TX7) (N := 20) hx hb hg inC7 hown hK hP 59 rfl rfl 0 (by decide) (hg _ wt1_83) (fun _ h9 => h9) rfl dX3_noteStanding_74 ?_
        refine k_top (z := t7) et7.symm ?_
        refine lv_icmp_ne (tgt := 84) hx hb dX3_noteStanding_77 (by decide) (fun c45 => ?_) (fun c45 => ?_)
        · refine lv_iconst (v := 0) hx hb dX3_noteStanding_84 (by decide) ?_
          exact kI_ret (v := 0) hx hb hr hlocks (by decide +kernel) hK hS dX3_noteStanding_85 (f, B3, g) hP hD ⟨(kb_w kc_0 (by decide) (by decide)), hI, hG, hE⟩
        · have b46 : kb 0 y2 10 := kb_eq c45 b8
          refine lv_iconst (v := 1) hx hb dX3_noteStanding_80 (by decide) ?_
          refine lv_goto (tgt := 85) hx hb dX3_noteStanding_81 (by decide) ?_
          exact kI_ret (v := 1) hx hb hr hlocks (by decide +kernel) hK hS dX3_noteStanding_85 (f, B3, g) hP hD ⟨(kb_w kc_1 (by decide) (by decide)), hI, hG, hE⟩
      · have h47 := (kc_nle c43)
        have b48 : kb 0 y1 9 := kr_lt1 h47 b6 b8 (by decide)
        have b49 : kb 1 t7 10 := kr_lt2 h47 b6 b8 (by decide)
        refine lv_iload hx hb dX3_noteStanding_18 (lv_at hl 0 rfl) ?_
        refine lv_bipush (v := 10) hx hb dX3_noteStanding_20 (by decide) ?_
        refine lv_icmp_ge (tgt := 68) hx hb dX3_noteStanding_22 (by decide) (fun c50 => ?_) (fun c50 => ?_)
        · have h51 := (kc_le c50)
          exact kb_no (kr_le1 h51 kc_10 b48) (by decide)
        · have h52 := (kc_nle c50)
          refine lv_aload_n hx hb dX3_noteStanding_25 rfl (lv_at hl 2 rfl) ?_
          refine va_get (D := D) (ci := 3) (v := .ref (r 59)) (C := RX3) (T := TX3) (N := 4) hx hb hg inC3 hown hK hP 58 rfl rfl 0 (by decide) (hg _ wt2_95) (fun _ h9 => h9) rfl dX3_noteStanding_26 ?_
          refine va_get (D := D) (ci := 7) (v := .ref (r 64)) (C := RX7) (T := TX7) (N := 20) hx hb hg inC7 hown hK hP 59 rfl rfl 5 (by decide) (hg _ wt1_103) (fun _ h9 => h9) rfl dX3_noteStanding_29 ?_
          refine lv_iload hx hb dX3_noteStanding_32 (lv_at hl 0 rfl) ?_
          refine va_iald hx hb hK hP 64 0 rfl rfl (kb_in b48 (by decide) (by decide)) dX3_noteStanding_34 ?_
          refine lv_topi (fun t53 et53 => ?_)
          have jn66 : ∀ (B65 : Nat → Nat → Int32) (H : Heap) (locs : List Loc) (ls : Array Slot) (y64 : Int32), (xI f B65) → (gOK K g.2 tt) → (xEk ([], [83], []) f a g f B65 g) → va_P D vwCl (xX K r f B65 g tx) H → va_D A (xX K r f B65 g tx) → va_S A s.heap H locs → lv_has ls 6 [(5, .int y1), (4, .int y64), (0, .ref (r 58)), (1, .int tik), (2, .ref (r 83)), (3, .int fr)] → W p l e (rmD 1 0 0) s m ([.ref (r 58), .int tik, .ref (r 83), .int fr] : List Value).toArray below meth c H locs 0 0 (kQi D (tysK K) (fun v (u : xS) => kb 0 v 1 ∧ xI u.1 u.2.1 ∧ gOK K u.2.2.2 tt ∧ xEk ([], [83], []) f a g u.1 u.2.1 u.2.2) (fun u => xX K r u.1 u.2.1 u.2.2 tx) A below ([.ref (r 58), .int tik, .ref (r 83), .int fr] : List Value).toArray s 0 0) (F0 m 62 ls []) := by
            intro B65  H locs ls y64 hI hG hE hP hD hS hl
            obtain ⟨t67, et67⟩ : ∃ z : Int32, z = y1 + Int32.ofInt 1 := ⟨_, rfl⟩
            have qt67 : t67.toInt = y1.toInt + 1 := by rw [et67]; exact km_inc b48 (by decide) (by decide)
            have b68 : kb 1 t67 10 := kb_inc (k := 1) qt67 b48
            refine lv_iinc (v := t67) (lv' := [(5, .int t67), (4, .int y64), (0, .ref (r 58)), (1, .int tik), (2, .ref (r 83)), (3, .int fr)]) hx hb dX3_noteStanding_62 hl (k := 0) rfl et67.symm (by decide) rfl (fun ls hl => ?_)
            refine lv_goto (tgt := 6) hx hb dX3_noteStanding_65 (by decide) ?_
            exact ihlp4  B65 _ _ _ t67 y64 (km_up hmlp4 qt67) hI hG hE (kb_w b68 (by decide) (by decide)) hP hD hS (lv_sub hl [0, 1, 2, 3, 4, 5] rfl)
          refine lv_if_ne (tgt := 62) hx hb dX3_noteStanding_35 (by decide) (fun c69 => ?_) (fun c69 => ?_)
          · exact jn66 B3 _ _ _ y2 hI hG hE hP hD hS (lv_sub hl [0, 1, 2, 3, 4, 5] rfl)
          · have b70 : kb 0 t53 0 := kb_eq c69 kc_0
            obtain ⟨t71, et71⟩ : ∃ z : Int32, z = y2 + Int32.ofInt 1 := ⟨_, rfl⟩
            refine lv_iinc (v := t71) (lv' := [(4, .int t71), (5, .int y1), (0, .ref (r 58)), (1, .int tik), (2, .ref (r 83)), (3, .int fr)]) hx hb dX3_noteStanding_38 hl (k := 1) rfl et71.symm (by decide) rfl (fun ls hl => ?_)
            refine lv_aload_n hx hb dX3_noteStanding_41 rfl (lv_at hl 4 rfl) ?_
            refine lv_iload_n hx hb dX3_noteStanding_42 rfl (lv_at hl 5 rfl) ?_
            refine lv_iconst (v := 1) hx hb dX3_noteStanding_43 (by decide) ?_
            refine lv_iadd hx hb dX3_noteStanding_44 ?_
            refine lv_topi (fun t72 et72 => ?_)
            have b73 : kb 1 t72 694 := kb_eq et72 (kb_add bfr kc_1 (by decide) (by decide))
            have qt72 : t72.toInt = fr.toInt + 1 := by rw [et72]; exact kt_addc bfr kc_1 (by decide) (by decide)
            refine lv_iload hx hb dX3_noteStanding_45 (lv_at hl 1 rfl) ?_
            refine lv_iadd hx hb dX3_noteStanding_47 ?_
            refine lv_topi (fun t74 et74 => ?_)
            have b75 : kb 1 t74 703 := kb_eq et74 (kb_add b73 b48 (by decide) (by decide))
            have qt74 : t74.toInt = t72.toInt + y1.toInt := by rw [et74]; exact kt_add b73 b48 (by decide) (by decide)
            refine va_iald hx hb hK hP 83 0 rfl rfl (kb_in b75 (by decide) (by decide)) dX3_noteStanding_48 ?_
            refine lv_topi (fun t76 et76 => ?_)
            refine lv_iconst (v := (-1)) hx hb dX3_noteStanding_49 (by decide) ?_
            refine lv_icmp_ne (tgt := 62) hx hb dX3_noteStanding_50 (by decide) (fun c77 => ?_) (fun c77 => ?_)
            · exact jn66 B3 _ _ _ t71 hI hG hE hP hD hS (lv_sub hl [1, 0, 2, 3, 4, 5] rfl)
            · have b78 : kb (-1) t76 (-1) := kb_eq c77 kc_m1
              refine lv_aload_n hx hb dX3_noteStanding_53 rfl (lv_at hl 4 rfl) ?_
              refine lv_iload_n hx hb dX3_noteStanding_54 rfl (lv_at hl 5 rfl) ?_
              refine lv_iconst (v := 1) hx hb dX3_noteStanding_55 (by decide) ?_
              refine lv_iadd hx hb dX3_noteStanding_56 ?_
              refine k_top (z := t72) et72.symm ?_
              refine lv_iload hx hb dX3_noteStanding_57 (lv_at hl 1 rfl) ?_
              refine lv_iadd hx hb dX3_noteStanding_59 ?_
              refine k_top (z := t74) et74.symm ?_
              refine lv_iload_n hx hb dX3_noteStanding_60 rfl (lv_at hl 3 rfl) ?_
              refine va_iast hx hb hK hP hD hS 83 0 rfl rfl (kb_in b75 (by decide) (by decide)) dX3_noteStanding_61 (fun H locs hP hD hS => ?_)
              have hP : va_P D vwCl (xX K r f (va_up B3 83 (upd (B3 83) t74.toNatClampNeg tik)) g tx) H := hP
              have hD : va_D A (xX K r f (va_up B3 83 (upd (B3 83) t74.toNatClampNeg tik)) g tx) := hD
              refine k_gen (P := fun z => va_P D vwCl (xX K r f z g tx) H ∧ va_D A (xX K r f z g tx) ∧ (xI f z) ∧ (gOK K g.2 tt) ∧ (xEk ([], [83], []) f a g f z g)) (va_up B3 83 (upd (B3 83) t74.toNatClampNeg tik)) ⟨hP, hD, (xI_a hI (by decide)), hG, (xEk_a hE rfl)⟩ (fun a_79 ea_79 hq => ?_)
              obtain ⟨hP, hD, hI, hG, hE⟩ := hq
              exact jn66 a_79 _ _ _ t71 hI hG hE hP hD hS (lv_sub hl [1, 0, 2, 3, 4, 5] rfl)
  exact lp4 (11)  a _ _ _ 0 0 (by have h1 := (kc_0); unfold kb at h1; omega) hI hG hE (kb_w kc_0 (by decide) (by decide)) hP hD hS (lv_sub hl [0, 1, 2, 3, 4, 5] rfl)
set_option maxHeartbeats 4000000 in
set_option maxRecDepth 100000 in
theorem x_3_sendFree  (l : Launch) {D : va_G} {K : Nat → ClassId} (r : Nat → Nat) (f : Nat → Int32) (a : Nat → Nat → Int32) (g : xG) (tx tt : va_W) (hT : ∀ c ∈ tt, c ∈ tx) (hI : xI f a) (hG : gOK K g.2 tt) (who : Int32)    : kVG l yX3_sendFree (Cond.code yX3_sendFree cX3_sendFree 8 none :: kG) (rmD 4 0 0) D K [.ref (r 58), .int who] (xX K r f a g tx) (fun (u : xS) => xI u.1 u.2.1 ∧ gOK K u.2.2.2 tt ∧ xEk ([], [68, 79], []) f a g u.1 u.2.1 u.2.2) (fun u => xX K r u.1 u.2.1 u.2.2 tx) 0 0 := by
  refine kVG.of (cc := cX3_sendFree) (maxL := 8) (ret := none) (by decide) rfl (Nat.le_of_ble_eq_true rfl) ?_
  intro p e s m below meth c A hx hb hr hml hown hts hlocks hnm hK hP hD hS hA hV ls hl
  have hE : xEk ([], [68, 79], []) f a g f a g := xEk_rf
  have hg : ∀ w ∈ kG, w.before _ s = true := fun w h => hts w (List.mem_cons_of_mem _ h)
  have hown : s.vm.findClass RX3 = some m.cls := hown
  have hl : lv_has ls 8 [(0, .ref (r 58)), (1, .int who)] := hl
  refine lv_aload_n hx hb dX3_sendFree_0 rfl (lv_at hl 0 rfl) ?_
  refine va_get (D := D) (ci := 3) (v := .ref (r 59)) (C := RX3) (T := TX3) (N := 4) hx hb hg inC3 hown hK hP 58 rfl rfl 0 (by decide) (hg _ wt2_95) (fun _ h9 => h9) rfl dX3_sendFree_1 ?_
  refine va_get (D := D) (ci := 7) (v := .ref (r 74)) (C := RX7) (T := TX7) (N := 20) hx hb hg inC7 hown hK hP 59 rfl rfl 19 (by decide) (hg _ wt1_157) (fun _ h9 => h9) rfl dX3_sendFree_4 ?_
  refine va_get (D := D) (ci := 8) (v := .ref (r 79)) (C := RX8) (T := TX8) (N := 5) hx hb hg inC8 hown hK hP 74 rfl rfl 4 (by decide) (hg _ wt1_64) (fun _ h9 => h9) rfl dX3_sendFree_7 ?_
  refine lv_astore_n (lv' := [(2, .ref (r 79)), (0, .ref (r 58)), (1, .int who)]) hx hb dX3_sendFree_10 rfl hl (by decide) rfl (fun ls hl => ?_)
  refine lv_iconst (v := (-1)) hx hb dX3_sendFree_11 (by decide) ?_
  refine lv_istore_n (lv' := [(3, .int (-1)), (2, .ref (r 79)), (0, .ref (r 58)), (1, .int who)]) hx hb dX3_sendFree_12 rfl hl (by decide) rfl (fun ls hl => ?_)
  refine lv_iconst (v := 0) hx hb dX3_sendFree_13 (by decide) ?_
  refine lv_istore (lv' := [(4, .int 0), (3, .int (-1)), (2, .ref (r 79)), (0, .ref (r 58)), (1, .int who)]) hx hb dX3_sendFree_14 hl (by decide) rfl (fun ls hl => ?_)
  have lp6 : ∀ (n7 : Nat) (F3 : Nat → Int32) (B4 : Nat → Nat → Int32) (G5 : xG) (H : Heap) (locs : List Loc) (ls : Array Slot) (y1 : Int32) (y2 : Int32), (6 < y1.toInt + (n7 : Int)) → (xI F3 B4) → (gOK K G5.2 tt) → (xEk ([], [68, 79], []) f a g F3 B4 G5) → (kb 0 y1 6) → va_P D vwCl (xX K r F3 B4 G5 tx) H → va_D A (xX K r F3 B4 G5 tx) → va_S A s.heap H locs → lv_has ls 8 [(4, .int y1), (3, .int y2), (2, .ref (r 79)), (0, .ref (r 58)), (1, .int who)] → W p l e (rmD 4 0 0) s m ([.ref (r 58), .int who] : List Value).toArray below meth c H locs 0 0 (kQv D (tysK K) (fun (u : xS) => xI u.1 u.2.1 ∧ gOK K u.2.2.2 tt ∧ xEk ([], [68, 79], []) f a g u.1 u.2.1 u.2.2) (fun u => xX K r u.1 u.2.1 u.2.2 tx) A below ([.ref (r 58), .int who] : List Value).toArray s 0 0) (F0 m 16 ls []) := by
    intro n7
    induction n7 with
    | zero =>
      intro  F3 B4 G5  H locs ls y1 y2 hmlp6 hI hG hE b8 hP hD hS hl
      exact (by have h1 := b8.2; have h2 := hmlp6; omega : False).elim
    | succ n7 ihlp6 =>
      intro  F3 B4 G5  H locs ls y1 y2 hmlp6 hI hG hE b8 hP hD hS hl
      refine lv_iload hx hb dX3_sendFree_16 (lv_at hl 0 rfl) ?_
      refine lv_aload_n hx hb dX3_sendFree_18 rfl (lv_at hl 3 rfl) ?_
      refine va_get (D := D) (ci := 3) (v := .ref (r 59)) (C := RX3) (T := TX3) (N := 4) hx hb hg inC3 hown hK hP 58 rfl rfl 0 (by decide) (hg _ wt2_95) (fun _ h9 => h9) rfl dX3_sendFree_19 ?_
      refine va_get (D := D) (ci := 7) (v := .int (F3 1894)) (C := RX7) (T := TX7) (N := 20) hx hb hg inC7 hown hK hP 59 rfl rfl 6 (by decide) (hg _ wt1_106) (fun _ h9 => h9) rfl dX3_sendFree_22 ?_
      refine lv_topi (fun t9 et9 => ?_)
      refine lv_icmp_ge (tgt := 204) hx hb dX3_sendFree_25 (by decide) (fun c10 => ?_) (fun c10 => ?_)
      · have h11 := (kc_le c10)
        have b12 : kb (-2147483648) t9 6 := kr_le1 h11 (kb_any t9) b8
        exact kV_ret hx hb hr hlocks hK hS dX3_sendFree_204 (F3, B4, G5) hP hD ⟨hI, hG, hE⟩
      · have h13 := (kc_nle c10)
        have b14 : kb 1 t9 2147483647 := kr_lt2 h13 b8 (kb_any t9) (by decide)
        refine lv_iload hx hb dX3_sendFree_28 (lv_at hl 0 rfl) ?_
        refine lv_bipush (v := 6) hx hb dX3_sendFree_30 (by decide) ?_
        refine lv_icmp_ge (tgt := 204) hx hb dX3_sendFree_32 (by decide) (fun c15 => ?_) (fun c15 => ?_)
        · have h16 := (kc_le c15)
          have b17 : kb 6 y1 6 := kr_le2 h16 kc_6 b8
          exact kV_ret hx hb hr hlocks hK hS dX3_sendFree_204 (F3, B4, G5) hP hD ⟨hI, hG, hE⟩
        · have h18 := (kc_nle c15)
          have b19 : kb 0 y1 5 := kr_lt1 h18 b8 kc_6 (by decide)
          refine lv_iload_n hx hb dX3_sendFree_35 rfl (lv_at hl 4 rfl) ?_
          refine lv_iload hx hb dX3_sendFree_36 (lv_at hl 0 rfl) ?_
          refine lv_ishr hx hb dX3_sendFree_38 ?_
          refine lv_topi (fun t20 et20 => ?_)
          refine lv_iconst (v := 1) hx hb dX3_sendFree_39 (by decide) ?_
          refine lv_iand hx hb dX3_sendFree_40 ?_
          refine lv_topi (fun t21 et21 => ?_)
          have b22 : kb 0 t21 1 := kb_eq et21 (kb_and 1 (by decide) (by decide))
          have jn427 : ∀ (F424 : Nat → Int32) (B425 : Nat → Nat → Int32) (G426 : xG) (H : Heap) (locs : List Loc) (ls : Array Slot) (y423 : Int32), (xI F424 B425) → (gOK K G426.2 tt) → (xEk ([], [68, 79], []) f a g F424 B425 G426) → va_P D vwCl (xX K r F424 B425 G426 tx) H → va_D A (xX K r F424 B425 G426 tx) → va_S A s.heap H locs → lv_has ls 8 [(4, .int y1), (3, .int y423), (2, .ref (r 79)), (0, .ref (r 58)), (1, .int who)] → W p l e (rmD 4 0 0) s m ([.ref (r 58), .int who] : List Value).toArray below meth c H locs 0 0 (kQv D (tysK K) (fun (u : xS) => xI u.1 u.2.1 ∧ gOK K u.2.2.2 tt ∧ xEk ([], [68, 79], []) f a g u.1 u.2.1 u.2.2) (fun u => xX K r u.1 u.2.1 u.2.2 tx) A below ([.ref (r 58), .int who] : List Value).toArray s 0 0) (F0 m 198 ls []) := by
            intro F424 B425 G426  H locs ls y423 hI hG hE hP hD hS hl
            obtain ⟨t428, et428⟩ : ∃ z : Int32, z = y1 + Int32.ofInt 1 := ⟨_, rfl⟩
            have qt428 : t428.toInt = y1.toInt + 1 := by rw [et428]; exact km_inc b19 (by decide) (by decide)
            have b429 : kb 1 t428 6 := kb_inc (k := 1) qt428 b19
            refine lv_iinc (v := t428) (lv' := [(4, .int t428), (3, .int y423), (2, .ref (r 79)), (0, .ref (r 58)), (1, .int who)]) hx hb dX3_sendFree_198 hl (k := 0) rfl et428.symm (by decide) rfl (fun ls hl => ?_)
            refine lv_goto (tgt := 16) hx hb dX3_sendFree_201 (by decide) ?_
            exact ihlp6  F424 B425 G426 _ _ _ t428 y423 (km_up hmlp6 qt428) hI hG hE (kb_w b429 (by decide) (by decide)) hP hD hS (lv_sub hl [0, 1, 2, 3, 4] rfl)
          refine lv_if_eq (tgt := 198) hx hb dX3_sendFree_41 (by decide) (fun c430 => ?_) (fun c430 => ?_)
          · have b431 : kb 0 t21 0 := kb_eq c430 kc_0
            exact jn427 F3 B4 G5 _ _ _ y2 hI hG hE hP hD hS (lv_sub hl [0, 1, 2, 3, 4] rfl)
          · have b432 : kb 1 t21 1 := kr_nel c430 b22 kc_0 (by decide)
            refine lv_aload_n hx hb dX3_sendFree_44 rfl (lv_at hl 3 rfl) ?_
            refine va_get (D := D) (ci := 3) (v := .ref (r 59)) (C := RX3) (T := TX3) (N := 4) hx hb hg inC3 hown hK hP 58 rfl rfl 0 (by decide) (hg _ wt2_95) (fun _ h9 => h9) rfl dX3_sendFree_45 ?_
            refine va_get (D := D) (ci := 7) (v := .ref (r 68)) (C := RX7) (T := TX7) (N := 20) hx hb hg inC7 hown hK hP 59 rfl rfl 10 (by decide) (hg _ wt1_123) (fun _ h9 => h9) rfl dX3_sendFree_48 ?_
            refine lv_iload hx hb dX3_sendFree_51 (lv_at hl 0 rfl) ?_
            refine va_iald hx hb hK hP 68 0 rfl rfl (kb_in b19 (by decide) (by decide)) dX3_sendFree_53 ?_
            refine lv_topi (fun t433 et433 => ?_)
            refine lv_iconst (v := (-1)) hx hb dX3_sendFree_54 (by decide) ?_
            refine lv_icmp_eq (tgt := 61) hx hb dX3_sendFree_55 (by decide) (fun c434 => ?_) (fun c434 => ?_)
            · have b435 : kb (-1) t433 (-1) := kb_eq c434 kc_m1
              refine lv_iload_n hx hb dX3_sendFree_61 rfl (lv_at hl 1 rfl) ?_
              refine lv_iconst (v := (-1)) hx hb dX3_sendFree_62 (by decide) ?_
              have jn451 : ∀ (F448 : Nat → Int32) (B449 : Nat → Nat → Int32) (G450 : xG) (H : Heap) (locs : List Loc) (ls : Array Slot) (y447 : Int32), (xI F448 B449) → (gOK K G450.2 tt) → (xEk ([], [68, 79], []) f a g F448 B449 G450) → va_P D vwCl (xX K r F448 B449 G450 tx) H → va_D A (xX K r F448 B449 G450 tx) → va_S A s.heap H locs → lv_has ls 8 [(4, .int y1), (3, .int y447), (2, .ref (r 79)), (0, .ref (r 58)), (1, .int who)] → W p l e (rmD 4 0 0) s m ([.ref (r 58), .int who] : List Value).toArray below meth c H locs 0 0 (kQv D (tysK K) (fun (u : xS) => xI u.1 u.2.1 ∧ gOK K u.2.2.2 tt ∧ xEk ([], [68, 79], []) f a g u.1 u.2.1 u.2.2) (fun u => xX K r u.1 u.2.1 u.2.2 tx) A below ([.ref (r 58), .int who] : List Value).toArray s 0 0) (F0 m 82 ls []) := by
                intro F448 B449 G450  H locs ls y447 hI hG hE hP hD hS hl
                refine lv_iconst (v := (-1)) hx hb dX3_sendFree_82 (by decide) ?_
                refine lv_istore (lv' := [(5, .int (-1)), (4, .int y1), (3, .int y447), (2, .ref (r 79)), (0, .ref (r 58)), (1, .int who)]) hx hb dX3_sendFree_83 hl (by decide) rfl (fun ls hl => ?_)
                refine lv_iconst (v := 0) hx hb dX3_sendFree_85 (by decide) ?_
                refine lv_istore (lv' := [(6, .int 0), (5, .int (-1)), (4, .int y1), (3, .int y447), (2, .ref (r 79)), (0, .ref (r 58)), (1, .int who)]) hx hb dX3_sendFree_86 hl (by decide) rfl (fun ls hl => ?_)
                have lp457 : ∀ (n458 : Nat) (F454 : Nat → Int32) (B455 : Nat → Nat → Int32) (G456 : xG) (H : Heap) (locs : List Loc) (ls : Array Slot) (y452 : Int32) (y453 : Int32), (10 < y452.toInt + (n458 : Int)) → (xI F454 B455) → (gOK K G456.2 tt) → (xEk ([], [68, 79], []) f a g F454 B455 G456) → (kb 0 y452 10) → (kb (-1) y453 9) → va_P D vwCl (xX K r F454 B455 G456 tx) H → va_D A (xX K r F454 B455 G456 tx) → va_S A s.heap H locs → lv_has ls 8 [(6, .int y452), (5, .int y453), (4, .int y1), (3, .int y447), (2, .ref (r 79)), (0, .ref (r 58)), (1, .int who)] → W p l e (rmD 4 0 0) s m ([.ref (r 58), .int who] : List Value).toArray below meth c H locs 0 0 (kQv D (tysK K) (fun (u : xS) => xI u.1 u.2.1 ∧ gOK K u.2.2.2 tt ∧ xEk ([], [68, 79], []) f a g u.1 u.2.1 u.2.2) (fun u => xX K r u.1 u.2.1 u.2.2 tx) A below ([.ref (r 58), .int who] : List Value).toArray s 0 0) (F0 m 88 ls []) := by
                  intro n458
                  induction n458 with
                  | zero =>
                    intro  F454 B455 G456  H locs ls y452 y453 hmlp457 hI hG hE b459 b460 hP hD hS hl
                    exact (by have h1 := b459.2; have h2 := hmlp457; omega : False).elim
                  | succ n458 ihlp457 =>
                    intro  F454 B455 G456  H locs ls y452 y453 hmlp457 hI hG hE b459 b460 hP hD hS hl
                    refine lv_iload hx hb dX3_sendFree_88 (lv_at hl 0 rfl) ?_
                    refine lv_aload_n hx hb dX3_sendFree_90 rfl (lv_at hl 5 rfl) ?_
                    refine va_get (D := D) (ci := 3) (v := .ref (r 59)) (C := RX3) (T := TX3) (N := 4) hx hb hg inC3 hown hK hP 58 rfl rfl 0 (by decide) (hg _ wt2_95) (fun _ h9 => h9) rfl dX3_sendFree_91 ?_
                    refine va_get (D := D) (ci := 7) (v := .int (F454 1888)) (C := RX7) (T := TX7) (N := 20) hx hb hg inC7 hown hK hP 59 rfl rfl 0 (by decide) (hg _ wt1_83) (fun _ h9 => h9) rfl dX3_sendFree_94 ?_
                    refine lv_topi (fun t461 et461 => ?_)
                    have b462 : kb 0 t461 10 := kb_eq et461 (fI_at hI.1 1888 (by decide) (by decide))
                    refine lv_icmp_ge (tgt := 186) hx hb dX3_sendFree_97 (by decide) (fun c640 => ?_) (fun c640 => ?_)
                    · have h641 := (kc_le c640)
                      refine lv_aload_n hx hb dX3_sendFree_186 rfl (lv_at hl 5 rfl) ?_
                      refine va_get (D := D) (ci := 3) (v := .ref (r 59)) (C := RX3) (T := TX3) (N := 4) hx hb hg inC3 hown hK hP 58 rfl rfl 0 (by decide) (hg _ wt2_95) (fun _ h9 => h9) rfl dX3_sendFree_187 ?_
                      refine va_get (D := D) (ci := 7) (v := .ref (r 68)) (C := RX7) (T := TX7) (N := 20) hx hb hg inC7 hown hK hP 59 rfl rfl 10 (by decide) (hg _ wt1_123) (fun _ h9 => h9) rfl dX3_sendFree_190 ?_
                      refine lv_iload hx hb dX3_sendFree_193 (lv_at hl 2 rfl) ?_
                      refine lv_iload hx hb dX3_sendFree_195 (lv_at hl 1 rfl) ?_
                      refine va_iast hx hb hK hP hD hS 68 0 rfl rfl (kb_in b19 (by decide) (by decide)) dX3_sendFree_197 (fun H locs hP hD hS => ?_)
                      have hP : va_P D vwCl (xX K r F454 (va_up B455 68 (upd (B455 68) y1.toNatClampNeg y453)) G456 tx) H := hP
                      have hD : va_D A (xX K r F454 (va_up B455 68 (upd (B455 68) y1.toNatClampNeg y453)) G456 tx) := hD
                      refine k_gen (P := fun z => va_P D vwCl (xX K r F454 z G456 tx) H ∧ va_D A (xX K r F454 z G456 tx) ∧ (xI F454 z) ∧ (gOK K G456.2 tt) ∧ (xEk ([], [68, 79], []) f a g F454 z G456)) (va_up B455 68 (upd (B455 68) y1.toNatClampNeg y453)) ⟨hP, hD, (xI_a hI (by decide)), hG, (xEk_a hE rfl)⟩ (fun a_642 ea_642 hq => ?_)
                      obtain ⟨hP, hD, hI, hG, hE⟩ := hq
                      exact jn427 F454 a_642 G456 _ _ _ y447 hI hG hE hP hD hS (lv_sub hl [2, 3, 4, 5, 6] rfl)
                    · have h643 := (kc_nle c640)
                      have b644 : kb 0 y452 9 := kr_lt1 h643 b459 b462 (by decide)
                      have b645 : kb 1 t461 10 := kr_lt2 h643 b459 b462 (by decide)
                      refine lv_iload hx hb dX3_sendFree_100 (lv_at hl 0 rfl) ?_
                      refine lv_bipush (v := 10) hx hb dX3_sendFree_102 (by decide) ?_
                      refine lv_icmp_ge (tgt := 186) hx hb dX3_sendFree_104 (by decide) (fun c646 => ?_) (fun c646 => ?_)
                      · have h647 := (kc_le c646)
                        exact kb_no (kr_le1 h647 kc_10 b644) (by decide)
                      · have h648 := (kc_nle c646)
                        refine lv_iload_n hx hb dX3_sendFree_107 rfl (lv_at hl 3 rfl) ?_
                        refine lv_iload hx hb dX3_sendFree_108 (lv_at hl 0 rfl) ?_
                        refine lv_ishr hx hb dX3_sendFree_110 ?_
                        refine lv_topi (fun t649 et649 => ?_)
                        refine lv_iconst (v := 1) hx hb dX3_sendFree_111 (by decide) ?_
                        refine lv_iand hx hb dX3_sendFree_112 ?_
                        refine lv_topi (fun t650 et650 => ?_)
                        have b651 : kb 0 t650 1 := kb_eq et650 (kb_and 1 (by decide) (by decide))
                        refine lv_iconst (v := 1) hx hb dX3_sendFree_113 (by decide) ?_
                        have jn733 : ∀ (H : Heap) (locs : List Loc) (ls : Array Slot), va_P D vwCl (xX K r F454 B455 G456 tx) H → va_D A (xX K r F454 B455 G456 tx) → va_S A s.heap H locs → lv_has ls 8 [(6, .int y452), (5, .int y453), (4, .int y1), (3, .int y447), (2, .ref (r 79)), (0, .ref (r 58)), (1, .int who)] → W p l e (rmD 4 0 0) s m ([.ref (r 58), .int who] : List Value).toArray below meth c H locs 0 0 (kQv D (tysK K) (fun (u : xS) => xI u.1 u.2.1 ∧ gOK K u.2.2.2 tt ∧ xEk ([], [68, 79], []) f a g u.1 u.2.1 u.2.2) (fun u => xX K r u.1 u.2.1 u.2.2 tx) A below ([.ref (r 58), .int who] : List Value).toArray s 0 0) (F0 m 138 ls []) := by
                          intro  H locs ls   hP hD hS hl
                          refine lv_iconst (v := 0) hx hb dX3_sendFree_138 (by decide) ?_
                          refine lv_istore (lv' := [(7, .int 0), (6, .int y452), (5, .int y453), (4, .int y1), (3, .int y447), (2, .ref (r 79)), (0, .ref (r 58)), (1, .int who)]) hx hb dX3_sendFree_139 hl (by decide) rfl (fun ls hl => ?_)
                          refine lv_iload hx hb dX3_sendFree_141 (lv_at hl 0 rfl) ?_
                          refine lv_if_eq (tgt := 180) hx hb dX3_sendFree_143 (by decide) (fun c734 => ?_) (fun c734 => ?_)
                          · obtain ⟨t735, et735⟩ : ∃ z : Int32, z = y452 + Int32.ofInt 1 := ⟨_, rfl⟩
                            have qt735 : t735.toInt = y452.toInt + 1 := by rw [et735]; exact km_inc b644 (by decide) (by decide)
                            have b736 : kb 1 t735 10 := kb_inc (k := 1) qt735 b644
                            refine lv_iinc (v := t735) (lv' := [(6, .int t735), (7, .int 0), (5, .int y453), (4, .int y1), (3, .int y447), (2, .ref (r 79)), (0, .ref (r 58)), (1, .int who)]) hx hb dX3_sendFree_180 hl (k := 1) rfl et735.symm (by decide) rfl (fun ls hl => ?_)
                            refine lv_goto (tgt := 88) hx hb dX3_sendFree_183 (by decide) ?_
                            exact ihlp457  F454 B455 G456 _ _ _ t735 y453 (km_up hmlp457 qt735) hI hG hE (kb_w b736 (by decide) (by decide)) b460 hP hD hS (lv_sub hl [0, 2, 3, 4, 5, 6, 7] rfl)
                          · exact kb_nsame c734 kc_0 kc_0
                        refine lv_icmp_ne (tgt := 138) hx hb dX3_sendFree_114 (by decide) (fun c737 => ?_) (fun c737 => ?_)
                        · have b738 : kb 0 t650 0 := kr_neh c737 b651 kc_1 (by decide)
                          exact jn733 _ _ _   hP hD hS (lv_sub hl [0, 1, 2, 3, 4, 5, 6] rfl)
                        · have b739 : kb 1 t650 1 := kb_eq c737 kc_1
                          refine lv_iload hx hb dX3_sendFree_117 (lv_at hl 1 rfl) ?_
                          refine lv_iconst (v := (-1)) hx hb dX3_sendFree_119 (by decide) ?_
                          have jn753 : ∀ (H : Heap) (locs : List Loc) (ls : Array Slot), va_P D vwCl (xX K r F454 B455 G456 tx) H → va_D A (xX K r F454 B455 G456 tx) → va_S A s.heap H locs → lv_has ls 8 [(6, .int y452), (5, .int y453), (4, .int y1), (3, .int y447), (2, .ref (r 79)), (0, .ref (r 58)), (1, .int who)] → W p l e (rmD 4 0 0) s m ([.ref (r 58), .int who] : List Value).toArray below meth c H locs 0 0 (kQv D (tysK K) (fun (u : xS) => xI u.1 u.2.1 ∧ gOK K u.2.2.2 tt ∧ xEk ([], [68, 79], []) f a g u.1 u.2.1 u.2.2) (fun u => xX K r u.1 u.2.1 u.2.2 tx) A below ([.ref (r 58), .int who] : List Value).toArray s 0 0) (F0 m 134 ls []) := by
                            intro  H locs ls   hP hD hS hl
                            refine lv_iconst (v := 1) hx hb dX3_sendFree_134 (by decide) ?_
                            refine lv_goto (tgt := 139) hx hb dX3_sendFree_135 (by decide) ?_
                            refine lv_istore (lv' := [(7, .int 1), (6, .int y452), (5, .int y453), (4, .int y1), (3, .int y447), (2, .ref (r 79)), (0, .ref (r 58)), (1, .int who)]) hx hb dX3_sendFree_139 hl (by decide) rfl (fun ls hl => ?_)
                            refine lv_iload hx hb dX3_sendFree_141 (lv_at hl 0 rfl) ?_
                            have jn779 : ∀ (F776 : Nat → Int32) (B777 : Nat → Nat → Int32) (G778 : xG) (H : Heap) (locs : List Loc) (ls : Array Slot) (y775 : Int32), (xI F776 B777) → (gOK K G778.2 tt) → (xEk ([], [68, 79], []) f a g F776 B777 G778) → (kb (-1) y775 9) → va_P D vwCl (xX K r F776 B777 G778 tx) H → va_D A (xX K r F776 B777 G778 tx) → va_S A s.heap H locs → lv_has ls 8 [(7, .int 1), (6, .int y452), (5, .int y775), (4, .int y1), (3, .int y447), (2, .ref (r 79)), (0, .ref (r 58)), (1, .int who)] → W p l e (rmD 4 0 0) s m ([.ref (r 58), .int who] : List Value).toArray below meth c H locs 0 0 (kQv D (tysK K) (fun (u : xS) => xI u.1 u.2.1 ∧ gOK K u.2.2.2 tt ∧ xEk ([], [68, 79], []) f a g u.1 u.2.1 u.2.2) (fun u => xX K r u.1 u.2.1 u.2.2 tx) A below ([.ref (r 58), .int who] : List Value).toArray s 0 0) (F0 m 180 ls []) := by
                              intro F776 B777 G778  H locs ls y775 hI hG hE b780 hP hD hS hl
                              obtain ⟨t781, et781⟩ : ∃ z : Int32, z = y452 + Int32.ofInt 1 := ⟨_, rfl⟩
                              have qt781 : t781.toInt = y452.toInt + 1 := by rw [et781]; exact km_inc b644 (by decide) (by decide)
                              have b782 : kb 1 t781 10 := kb_inc (k := 1) qt781 b644
                              refine lv_iinc (v := t781) (lv' := [(6, .int t781), (7, .int 1), (5, .int y775), (4, .int y1), (3, .int y447), (2, .ref (r 79)), (0, .ref (r 58)), (1, .int who)]) hx hb dX3_sendFree_180 hl (k := 1) rfl et781.symm (by decide) rfl (fun ls hl => ?_)
                              refine lv_goto (tgt := 88) hx hb dX3_sendFree_183 (by decide) ?_
                              exact ihlp457  F776 B777 G778 _ _ _ t781 y775 (km_up hmlp457 qt781) hI hG hE (kb_w b782 (by decide) (by decide)) b780 hP hD hS (lv_sub hl [0, 2, 3, 4, 5, 6, 7] rfl)
                            refine lv_if_eq (tgt := 180) hx hb dX3_sendFree_143 (by decide) (fun c783 => ?_) (fun c783 => ?_)
                            · exact kb_dj c783 kc_1 kc_0 (by decide)
                            · refine lv_aload_n hx hb dX3_sendFree_146 rfl (lv_at hl 6 rfl) ?_
                              refine va_get (D := D) (ci := 3) (v := .ref (r 59)) (C := RX3) (T := TX3) (N := 4) hx hb hg inC3 hown hK hP 58 rfl rfl 0 (by decide) (hg _ wt2_95) (fun _ h9 => h9) rfl dX3_sendFree_147 ?_
                              refine lv_iconst (v := 3) hx hb dX3_sendFree_150 (by decide) ?_
                              refine lv_iload hx hb dX3_sendFree_151 (lv_at hl 3 rfl) ?_
                              refine lv_iload hx hb dX3_sendFree_153 (lv_at hl 1 rfl) ?_
                              refine kIG.callW (As := [.int 3, .int y1, .int y452]) (rest := []) ⟨hx, hb, hml, hown, hg⟩ (x_7_askedP l r F454 B455 G456 tx tt hT hI hG 3 y1 y452  ) (cwV 3 hg (kgV wt5_17 wt3_78 wt3_79 wt1_2 wt3_80) rfl rfl rfl (by decide +kernel) ⟨by decide, by decide⟩) hV hK hP hD hS hA (59) 7 rfl rfl rfl hl.1 rfl (Nat.le_of_ble_eq_true rfl) dX3_sendFree_155 ⟨Nat.le_refl _, Nat.le_refl _⟩ (fun v785 u786 H locs hw784 hP hD hS => ?_)
                              obtain ⟨f787, a788, g789⟩ := u786
                              have hP : va_P D vwCl (xX K r f787 a788 g789 tx) H := hP
                              have hD : va_D A (xX K r f787 a788 g789 tx) := hD
                              have hI : xI f787 a788 := hw784.2.1
                              have hG : gOK K g789.2 tt := hw784.2.2.1
                              have eE790 : xEk ([], [], []) F454 B455 G456 f787 a788 g789 := hw784.2.2.2
                              have hE : xEk ([], [68, 79], []) f a g f787 a788 g789 := xEk_tr hE (xEk_w (by decide +kernel) eE790)
                              refine lv_if_ne (tgt := 180) hx hb dX3_sendFree_158 (by decide) (fun c791 => ?_) (fun c791 => ?_)
                              · exact jn779 f787 a788 g789 _ _ _ y453 hI hG hE b460 hP hD hS (lv_sub hl [0, 1, 2, 3, 4, 5, 6, 7] rfl)
                              · have b792 : kb 0 v785 0 := kb_eq c791 kc_0
                                refine lv_aload_n hx hb dX3_sendFree_161 rfl (lv_at hl 6 rfl) ?_
                                refine va_get (D := D) (ci := 3) (v := .ref (r 59)) (C := RX3) (T := TX3) (N := 4) hx hb hg inC3 hown hK hP 58 rfl rfl 0 (by decide) (hg _ wt2_95) (fun _ h9 => h9) rfl dX3_sendFree_162 ?_
                                refine lv_iconst (v := 0) hx hb dX3_sendFree_165 (by decide) ?_
                                refine lv_iload hx hb dX3_sendFree_166 (lv_at hl 3 rfl) ?_
                                refine lv_iload hx hb dX3_sendFree_168 (lv_at hl 1 rfl) ?_
                                refine kIG.callW (As := [.int 0, .int y1, .int y452]) (rest := []) ⟨hx, hb, hml, hown, hg⟩ (x_7_askedP l r f787 a788 g789 tx tt hT hI hG 0 y1 y452  ) (cwV 3 hg (kgV wt5_17 wt3_78 wt3_79 wt1_2 wt3_80) rfl rfl rfl (by decide +kernel) ⟨by decide, by decide⟩) hV hK hP hD hS hA (59) 7 rfl rfl rfl hl.1 rfl (Nat.le_of_ble_eq_true rfl) dX3_sendFree_170 ⟨Nat.le_refl _, Nat.le_refl _⟩ (fun v794 u795 H locs hw793 hP hD hS => ?_)
                                obtain ⟨f796, a797, g798⟩ := u795
                                have hP : va_P D vwCl (xX K r f796 a797 g798 tx) H := hP
                                have hD : va_D A (xX K r f796 a797 g798 tx) := hD
                                have hI : xI f796 a797 := hw793.2.1
                                have hG : gOK K g798.2 tt := hw793.2.2.1
                                have eE799 : xEk ([], [], []) f787 a788 g789 f796 a797 g798 := hw793.2.2.2
                                have hE : xEk ([], [68, 79], []) f a g f796 a797 g798 := xEk_tr hE (xEk_w (by decide +kernel) eE799)
                                refine lv_if_le (tgt := 180) hx hb dX3_sendFree_173 (by decide) (fun c800 => ?_) (fun c800 => ?_)
                                · have h801 := (kc_le c800)
                                  have b802 : kb (-2147483648) v794 0 := kr_le1 h801 (kb_any v794) kc_0
                                  exact jn779 f796 a797 g798 _ _ _ y453 hI hG hE b460 hP hD hS (lv_sub hl [0, 1, 2, 3, 4, 5, 6, 7] rfl)
                                · have h803 := (kc_nle c800)
                                  have b804 : kb 1 v794 2147483647 := kr_lt2 h803 kc_0 (kb_any v794) (by decide)
                                  refine lv_iload hx hb dX3_sendFree_176 (lv_at hl 1 rfl) ?_
                                  refine lv_istore (lv' := [(5, .int y452), (7, .int 1), (6, .int y452), (4, .int y1), (3, .int y447), (2, .ref (r 79)), (0, .ref (r 58)), (1, .int who)]) hx hb dX3_sendFree_178 hl (by decide) rfl (fun ls hl => ?_)
                                  exact jn779 f796 a797 g798 _ _ _ y452 hI hG hE (kb_w b644 (by decide) (by decide)) hP hD hS (lv_sub hl [1, 2, 0, 3, 4, 5, 6, 7] rfl)
                          refine lv_icmp_eq (tgt := 134) hx hb dX3_sendFree_120 (by decide) (fun c805 => ?_) (fun c805 => ?_)
                          · have b806 : kb (-1) y453 (-1) := kb_eq c805 kc_m1
                            exact jn753 _ _ _   hP hD hS (lv_sub hl [0, 1, 2, 3, 4, 5, 6] rfl)
                          · have b807 : kb 0 y453 9 := kr_nel c805 b460 kc_m1 (by decide)
                            refine lv_aload_n hx hb dX3_sendFree_123 rfl (lv_at hl 4 rfl) ?_
                            refine lv_iload hx hb dX3_sendFree_124 (lv_at hl 0 rfl) ?_
                            refine va_iald hx hb hK hP 79 0 rfl rfl (kb_in b644 (by decide) (by decide)) dX3_sendFree_126 ?_
                            refine lv_topi (fun t808 et808 => ?_)
                            refine lv_aload_n hx hb dX3_sendFree_127 rfl (lv_at hl 4 rfl) ?_
                            refine lv_iload hx hb dX3_sendFree_128 (lv_at hl 1 rfl) ?_
                            refine va_iald hx hb hK hP 79 0 rfl rfl (kb_in b807 (by decide) (by decide)) dX3_sendFree_130 ?_
                            refine lv_topi (fun t809 et809 => ?_)
                            refine lv_icmp_le (tgt := 138) hx hb dX3_sendFree_131 (by decide) (fun c814 => ?_) (fun c814 => ?_)
                            · have h815 := (kc_le c814)
                              exact jn733 _ _ _   hP hD hS (lv_sub hl [0, 1, 2, 3, 4, 5, 6] rfl)
                            · have h816 := (kc_nle c814)
                              have b817 : kb (-2147483648) t809 2147483646 := kr_lt1 h816 (kb_any t809) (kb_any t808) (by decide)
                              have b818 : kb (-2147483647) t808 2147483647 := kr_lt2 h816 (kb_any t809) (kb_any t808) (by decide)
                              exact jn753 _ _ _   hP hD hS (lv_sub hl [0, 1, 2, 3, 4, 5, 6] rfl)
                exact lp457 (11)  F448 B449 G450 _ _ _ 0 (-1) (by have h1 := (kc_0); unfold kb at h1; omega) hI hG hE (kb_w kc_0 (by decide) (by decide)) (kb_w kc_m1 (by decide) (by decide)) hP hD hS (lv_sub hl [0, 1, 2, 3, 4, 5, 6] rfl)
              refine lv_icmp_ne (tgt := 82) hx hb dX3_sendFree_63 (by decide) (fun c819 => ?_) (fun c819 => ?_)
              · exact jn451 F3 B4 G5 _ _ _ y2 hI hG hE hP hD hS (lv_sub hl [0, 1, 2, 3, 4] rfl)
              · have b820 : kb (-1) y2 (-1) := kb_eq c819 kc_m1
                refine lv_aload_n hx hb dX3_sendFree_66 rfl (lv_at hl 3 rfl) ?_
                refine va_get (D := D) (ci := 3) (v := .ref (r 59)) (C := RX3) (T := TX3) (N := 4) hx hb hg inC3 hown hK hP 58 rfl rfl 0 (by decide) (hg _ wt2_95) (fun _ h9 => h9) rfl dX3_sendFree_67 ?_
                refine kIG.callW (As := []) (rest := []) ⟨hx, hb, hml, hown, hg⟩ (x_7_readyMaskP l r F3 B4 G5 tx tt hT hI hG   ) (cwV 0 hg (kgV wt5_15 wt3_40 wt3_41 wt1_2 wt3_42) rfl rfl rfl (by decide +kernel) ⟨by decide, by decide⟩) hV hK hP hD hS hA (59) 7 rfl rfl rfl hl.1 rfl (Nat.le_of_ble_eq_true rfl) dX3_sendFree_70 ⟨Nat.le_refl _, Nat.le_refl _⟩ (fun v822 u823 H locs hw821 hP hD hS => ?_)
                have hP : va_P D vwCl (xX K r F3 B4 G5 tx) H := hP
                have hD : va_D A (xX K r F3 B4 G5 tx) := hD
                refine lv_istore_n (lv' := [(3, .int v822), (4, .int y1), (2, .ref (r 79)), (0, .ref (r 58)), (1, .int who)]) hx hb dX3_sendFree_73 rfl hl (by decide) rfl (fun ls hl => ?_)
                refine lv_aload_n hx hb dX3_sendFree_74 rfl (lv_at hl 3 rfl) ?_
                refine va_get (D := D) (ci := 3) (v := .ref (r 59)) (C := RX3) (T := TX3) (N := 4) hx hb hg inC3 hown hK hP 58 rfl rfl 0 (by decide) (hg _ wt2_95) (fun _ h9 => h9) rfl dX3_sendFree_75 ?_
                refine kIG.callW (As := []) (rest := []) ⟨hx, hb, hml, hown, hg⟩ (x_7_reckonChainsP l r F3 B4 G5 tx tt hT hI hG   ) (cwV 0 hg (kgV wt5_16 wt3_48 wt3_49 wt1_2 wt3_50) rfl rfl rfl (by decide +kernel) ⟨by decide, by decide⟩) hV hK hP hD hS hA (59) 7 rfl rfl rfl hl.1 rfl (Nat.le_of_ble_eq_true rfl) dX3_sendFree_78 ⟨Nat.le_refl _, Nat.le_refl _⟩ (fun v825 u826 H locs hw824 hP hD hS => ?_)
                obtain ⟨f827, a828, g829⟩ := u826
                have hP : va_P D vwCl (xX K r f827 a828 g829 tx) H := hP
                have hD : va_D A (xX K r f827 a828 g829 tx) := hD
                have hI : xI f827 a828 := hw824.2.1
                have hG : gOK K g829.2 tt := hw824.2.2.1
                have eE830 : xEk ([], [79], []) F3 B4 G5 f827 a828 g829 := hw824.2.2.2
                have hE : xEk ([], [68, 79], []) f a g f827 a828 g829 := xEk_tr hE (xEk_w (by decide +kernel) eE830)
                refine lv_pop hx hb dX3_sendFree_81 rfl ?_
                exact jn451 f827 a828 g829 _ _ _ v822 hI hG hE hP hD hS (lv_sub hl [1, 0, 2, 3, 4] rfl)
            · refine lv_goto (tgt := 198) hx hb dX3_sendFree_58 (by decide) ?_
              exact jn427 F3 B4 G5 _ _ _ y2 hI hG hE hP hD hS (lv_sub hl [0, 1, 2, 3, 4] rfl)
  exact lp6 (7)  f a g _ _ _ 0 (-1) (by have h1 := (kc_0); unfold kb at h1; omega) hI hG hE (kb_w kc_0 (by decide) (by decide)) hP hD hS (lv_sub hl [0, 1, 2, 3, 4] rfl)
set_option maxHeartbeats 4000000 in
set_option maxRecDepth 100000 in
theorem x_3_run  (l : Launch) {D : va_G} {K : Nat → ClassId} (r : Nat → Nat) (f : Nat → Int32) (a : Nat → Nat → Int32) (g : xG) (tx tt : va_W) (hT : ∀ c ∈ tt, c ∈ tx) (hI : xI f a) (hG : gOK K g.2 tt) (who : Int32) (lim : Int32) (fr : Int32) (bfr : kb 0 fr 0)   : kIG l yX3_run (Cond.code yX3_run cX3_run 6 (some .int) :: kG) (rmD 5 0 0) D K [.ref (r 58), .int who, .int lim, .ref (r 81), .int fr] (xX K r f a g tx) (fun v (u : xS) => kb (-2147483648) v 2147483647 ∧ xI u.1 u.2.1 ∧ gOK K u.2.2.2 tt ∧ xEk ([1888, 1894, 1900, 1905, 1906], [60, 61, 62, 63, 64, 65, 66, 67, 68, 69, 70, 71, 72, 77, 78, 79, 81], [73]) f a g u.1 u.2.1 u.2.2) (fun u => xX K r u.1 u.2.1 u.2.2 tx) 0 0 := by
  refine kIE.of (cc := cX3_run) (maxL := 6) (ret := (some .int)) (by decide) rfl (Nat.le_of_ble_eq_true rfl) ?_
  intro p e s m below meth c A hx hb hr hml hown hts hlocks hnm hK hP hD hS hA hV ls hl
  have hE : xEk ([1888, 1894, 1900, 1905, 1906], [60, 61, 62, 63, 64, 65, 66, 67, 68, 69, 70, 71, 72, 77, 78, 79, 81], [73]) f a g f a g := xEk_rf
  have hg : ∀ w ∈ kG, w.before _ s = true := fun w h => hts w (List.mem_cons_of_mem _ h)
  have hown : s.vm.findClass RX3 = some m.cls := hown
  have hl : lv_has ls 6 [(0, .ref (r 58)), (1, .int who), (2, .int lim), (3, .ref (r 81)), (4, .int fr)] := hl
  refine lv_iload hx hb dX3_run_0 (lv_at hl 4 rfl) ?_
  refine lv_if_lt (tgt := 15) hx hb dX3_run_2 (by decide) (fun c1 => ?_) (fun c1 => ?_)
  · have h2 := (kc_lt c1)
    exact kb_no (kr_lt1 h2 bfr kc_0 (H := (-1)) (by decide)) (by decide)
  · have h3 := (kc_nlt c1)
    refine lv_iload hx hb dX3_run_5 (lv_at hl 4 rfl) ?_
    refine lv_bipush (v := 11) hx hb dX3_run_7 (by decide) ?_
    refine lv_iadd hx hb dX3_run_9 ?_
    refine lv_topi (fun t4 et4 => ?_)
    have b5 : kb 11 t4 11 := kb_eq et4 (kb_add bfr kc_11 (by decide) (by decide))
    have qt4 : t4.toInt = fr.toInt + 11 := by rw [et4]; exact kt_addc bfr kc_11 (by decide) (by decide)
    refine lv_aload_n hx hb dX3_run_10 rfl (lv_at hl 3 rfl) ?_
    refine va_alen (v := 11) hx hb hK hP 81 0 rfl rfl rfl dX3_run_11 ?_
    refine lv_icmp_le (tgt := 17) hx hb dX3_run_12 (by decide) (fun c6 => ?_) (fun c6 => ?_)
    · have h7 := (kc_le c6)
      refine lv_aload_n hx hb dX3_run_17 rfl (lv_at hl 3 rfl) ?_
      refine lv_iload hx hb dX3_run_18 (lv_at hl 4 rfl) ?_
      refine va_iald hx hb hK hP 81 0 rfl rfl (kb_in bfr (by decide) (by decide)) dX3_run_20 ?_
      refine lv_topi (fun t8 et8 => ?_)
      refine lv_bipush (v := (-2)) hx hb dX3_run_21 (by decide) ?_
      refine lv_icmp_eq (tgt := 31) hx hb dX3_run_23 (by decide) (fun c9 => ?_) (fun c9 => ?_)
      · have b10 : kb (-2) t8 (-2) := kb_eq c9 kc_m2
        refine lv_iconst (v := 0) hx hb dX3_run_31 (by decide) ?_
        refine lv_istore (lv' := [(5, .int 0), (0, .ref (r 58)), (1, .int who), (2, .int lim), (3, .ref (r 81)), (4, .int fr)]) hx hb dX3_run_32 hl (by decide) rfl (fun ls hl => ?_)
        have lp13 : ∀ (n14 : Nat) (B12 : Nat → Nat → Int32) (H : Heap) (locs : List Loc) (ls : Array Slot) (y11 : Int32), (11 < y11.toInt + (n14 : Int)) → (xI f B12) → (gOK K g.2 tt) → (xEk ([1888, 1894, 1900, 1905, 1906], [60, 61, 62, 63, 64, 65, 66, 67, 68, 69, 70, 71, 72, 77, 78, 79, 81], [73]) f a g f B12 g) → (kb 0 y11 11) → va_P D vwCl (xX K r f B12 g tx) H → va_D A (xX K r f B12 g tx) → va_S A s.heap H locs → lv_has ls 6 [(5, .int y11), (0, .ref (r 58)), (1, .int who), (2, .int lim), (3, .ref (r 81)), (4, .int fr)] → W p l e (rmD 5 0 0) s m ([.ref (r 58), .int who, .int lim, .ref (r 81), .int fr] : List Value).toArray below meth c H locs 0 0 (kQi D (tysK K) (fun v (u : xS) => kb (-2147483648) v 2147483647 ∧ xI u.1 u.2.1 ∧ gOK K u.2.2.2 tt ∧ xEk ([1888, 1894, 1900, 1905, 1906], [60, 61, 62, 63, 64, 65, 66, 67, 68, 69, 70, 71, 72, 77, 78, 79, 81], [73]) f a g u.1 u.2.1 u.2.2) (fun u => xX K r u.1 u.2.1 u.2.2 tx) A below ([.ref (r 58), .int who, .int lim, .ref (r 81), .int fr] : List Value).toArray s 0 0) (F0 m 34 ls []) := by
          intro n14
          induction n14 with
          | zero =>
            intro  B12  H locs ls y11 hmlp13 hI hG hE b15 hP hD hS hl
            exact (by have h1 := b15.2; have h2 := hmlp13; omega : False).elim
          | succ n14 ihlp13 =>
            intro  B12  H locs ls y11 hmlp13 hI hG hE b15 hP hD hS hl
            refine lv_iload hx hb dX3_run_34 (lv_at hl 0 rfl) ?_
            refine lv_bipush (v := 11) hx hb dX3_run_36 (by decide) ?_
            refine lv_icmp_ge (tgt := 55) hx hb dX3_run_38 (by decide) (fun c16 => ?_) (fun c16 => ?_)
            · have h17 := (kc_le c16)
              have b18 : kb 11 y11 11 := kr_le2 h17 kc_11 b15
              refine lv_aload_n hx hb dX3_run_55 rfl (lv_at hl 1 rfl) ?_
              refine kVG.callW (As := []) (rest := []) ⟨hx, hb, hml, hown, hg⟩ (x_3_begin l r f B12 g tx tt hT hI hG   ) (cwV 0 hg (kgV wt4_236 wt4_237 wt4_238 wt1_10 wt4_239) rfl rfl rfl (by decide +kernel) ⟨by decide, by decide⟩) hV hK hP hD hS hA (58) 3 rfl rfl rfl hl.1 rfl (Nat.le_of_ble_eq_true rfl) dX3_run_56 ⟨Nat.le_refl _, Nat.le_refl _⟩ (fun u21 H locs hw19 hP hD hS => ?_)
              obtain ⟨f22, a23, g24⟩ := u21
              have hP : va_P D vwCl (xX K r f22 a23 g24 tx) H := hP
              have hD : va_D A (xX K r f22 a23 g24 tx) := hD
              have hI : xI f22 a23 := hw19.1
              have hG : gOK K g24.2 tt := hw19.2.1
              have eE25 : xEk ([1888, 1894, 1900, 1905, 1906], [60, 61, 62, 63, 64, 65, 66, 67, 68, 69, 70, 71, 72], [73]) f B12 g f22 a23 g24 := hw19.2.2
              have hE : xEk ([1888, 1894, 1900, 1905, 1906], [60, 61, 62, 63, 64, 65, 66, 67, 68, 69, 70, 71, 72, 77, 78, 79, 81], [73]) f a g f22 a23 g24 := xEk_tr hE (xEk_w (by decide +kernel) eE25)
              refine lv_iconst (v := 0) hx hb dX3_run_59 (by decide) ?_
              refine lv_istore (lv' := [(5, .int 0), (0, .ref (r 58)), (1, .int who), (2, .int lim), (3, .ref (r 81)), (4, .int fr)]) hx hb dX3_run_60 hl (by decide) rfl (fun ls hl => ?_)
              have lp30 : ∀ (n31 : Nat) (F27 : Nat → Int32) (B28 : Nat → Nat → Int32) (G29 : xG) (H : Heap) (locs : List Loc) (ls : Array Slot) (y26 : Int32), (2147483647 < y26.toInt + (n31 : Int)) → (xI F27 B28) → (gOK K G29.2 tt) → (xEk ([1888, 1894, 1900, 1905, 1906], [60, 61, 62, 63, 64, 65, 66, 67, 68, 69, 70, 71, 72, 77, 78, 79, 81], [73]) f a g F27 B28 G29) → (kb 0 y26 2147483647) → va_P D vwCl (xX K r F27 B28 G29 tx) H → va_D A (xX K r F27 B28 G29 tx) → va_S A s.heap H locs → lv_has ls 6 [(5, .int y26), (0, .ref (r 58)), (1, .int who), (2, .int lim), (3, .ref (r 81)), (4, .int fr)] → W p l e (rmD 5 0 0) s m ([.ref (r 58), .int who, .int lim, .ref (r 81), .int fr] : List Value).toArray below meth c H locs 0 0 (kQi D (tysK K) (fun v (u : xS) => kb (-2147483648) v 2147483647 ∧ xI u.1 u.2.1 ∧ gOK K u.2.2.2 tt ∧ xEk ([1888, 1894, 1900, 1905, 1906], [60, 61, 62, 63, 64, 65, 66, 67, 68, 69, 70, 71, 72, 77, 78, 79, 81], [73]) f a g u.1 u.2.1 u.2.2) (fun u => xX K r u.1 u.2.1 u.2.2 tx) A below ([.ref (r 58), .int who, .int lim, .ref (r 81), .int fr] : List Value).toArray s 0 0) (F0 m 62 ls []) := by
                intro n31
                induction n31 with
                | zero =>
                  intro  F27 B28 G29  H locs ls y26 hmlp30 hI hG hE b32 hP hD hS hl
                  exact (by have h1 := b32.2; have h2 := hmlp30; omega : False).elim
                | succ n31 ihlp30 =>
                  intro  F27 B28 G29  H locs ls y26 hmlp30 hI hG hE b32 hP hD hS hl
                  refine lv_iload hx hb dX3_run_62 (lv_at hl 0 rfl) ?_
                  refine lv_iload_n hx hb dX3_run_64 rfl (lv_at hl 3 rfl) ?_
                  refine lv_icmp_gt (tgt := 132) hx hb dX3_run_65 (by decide) (fun c33 => ?_) (fun c33 => ?_)
                  · have h34 := (kc_lt c33)
                    have b35 : kb (-2147483648) lim 2147483646 := kr_lt1 h34 (kb_any lim) b32 (by decide)
                    refine lv_iconst (v := (-1)) hx hb dX3_run_132 (by decide) ?_
                    exact kI_ret (v := (-1)) hx hb hr hlocks rfl hK hS dX3_run_133 (F27, B28, G29) hP hD ⟨(kb_w kc_m1 (by decide) (by decide)), hI, hG, hE⟩
                  · have h36 := (kc_nlt c33)
                    have b37 : kb 0 lim 2147483647 := kr_le2 h36 b32 (kb_any lim)
                    refine lv_aload_n hx hb dX3_run_68 rfl (lv_at hl 1 rfl) ?_
                    refine lv_iload hx hb dX3_run_69 (lv_at hl 0 rfl) ?_
                    refine lv_aload_n hx hb dX3_run_71 rfl (lv_at hl 4 rfl) ?_
                    refine lv_iload hx hb dX3_run_72 (lv_at hl 5 rfl) ?_
                    refine kIG.callW (As := [.int y26, .ref (r 81), .int fr]) (rest := []) ⟨hx, hb, hml, hown, hg⟩ (x_3_noteStanding l r F27 B28 G29 tx tt hT hI hG y26 fr bfr ) (cwV 3 hg (kgV wt5_3 wt5_5 wp2_14 wt1_10 wt5_6) rfl rfl rfl (by decide +kernel) ⟨by decide, by decide⟩) hV hK hP hD hS hA (58) 3 rfl rfl rfl hl.1 rfl (Nat.le_of_ble_eq_true rfl) dX3_run_74 ⟨Nat.le_refl _, Nat.le_refl _⟩ (fun v39 u40 H locs hw38 hP hD hS => ?_)
                    obtain ⟨f41, a42, g43⟩ := u40
                    have hP : va_P D vwCl (xX K r f41 a42 g43 tx) H := hP
                    have hD : va_D A (xX K r f41 a42 g43 tx) := hD
                    have hI : xI f41 a42 := hw38.2.1
                    have hG : gOK K g43.2 tt := hw38.2.2.1
                    have eE44 : xEk ([], [81], []) F27 B28 G29 f41 a42 g43 := hw38.2.2.2
                    have hE : xEk ([1888, 1894, 1900, 1905, 1906], [60, 61, 62, 63, 64, 65, 66, 67, 68, 69, 70, 71, 72, 77, 78, 79, 81], [73]) f a g f41 a42 g43 := xEk_tr hE (xEk_w (by decide +kernel) eE44)
                    refine lv_if_eq (tgt := 89) hx hb dX3_run_77 (by decide) (fun c45 => ?_) (fun c45 => ?_)
                    · have b46 : kb 0 v39 0 := kb_eq c45 kc_0
                      refine lv_iload hx hb dX3_run_89 (lv_at hl 0 rfl) ?_
                      refine lv_iload_n hx hb dX3_run_91 rfl (lv_at hl 3 rfl) ?_
                      refine lv_icmp_eq (tgt := 102) hx hb dX3_run_92 (by decide) (fun c47 => ?_) (fun c47 => ?_)
                      · refine lv_iconst (v := (-1)) hx hb dX3_run_102 (by decide) ?_
                        exact kI_ret (v := (-1)) hx hb hr hlocks rfl hK hS dX3_run_103 (f41, a42, g43) hP hD ⟨(kb_w kc_m1 (by decide) (by decide)), hI, hG, hE⟩
                      · refine lv_aload_n hx hb dX3_run_95 rfl (lv_at hl 1 rfl) ?_
                        refine kIG.callW (As := []) (rest := []) ⟨hx, hb, hml, hown, hg⟩ (x_3_canTick l r f41 a42 g43 tx tt hT hI hG   ) (cwV 0 hg (kgV wt5_7 wt5_8 wt5_9 wt1_10 wt5_10) rfl rfl rfl (by decide +kernel) ⟨by decide, by decide⟩) hV hK hP hD hS hA (58) 3 rfl rfl rfl hl.1 rfl (Nat.le_of_ble_eq_true rfl) dX3_run_96 ⟨Nat.le_refl _, Nat.le_refl _⟩ (fun v49 u50 H locs hw48 hP hD hS => ?_)
                        have hP : va_P D vwCl (xX K r f41 a42 g43 tx) H := hP
                        have hD : va_D A (xX K r f41 a42 g43 tx) := hD
                        refine lv_if_ne (tgt := 104) hx hb dX3_run_99 (by decide) (fun c51 => ?_) (fun c51 => ?_)
                        · have b52 : kb 1 v49 1 := kr_nel c51 hw48 kc_0 (by decide)
                          refine lv_aload_n hx hb dX3_run_104 rfl (lv_at hl 1 rfl) ?_
                          refine lv_iload_n hx hb dX3_run_105 rfl (lv_at hl 2 rfl) ?_
                          refine kVG.callW (As := [.int who]) (rest := []) ⟨hx, hb, hml, hown, hg⟩ (x_3_sendFree l r f41 a42 g43 tx tt hT hI hG who  ) (cwV 1 hg (kgV wt5_11 wt5_12 wt5_13 wt1_10 wt5_14) rfl rfl rfl (by decide +kernel) ⟨by decide, by decide⟩) hV hK hP hD hS hA (58) 3 rfl rfl rfl hl.1 rfl (Nat.le_of_ble_eq_true rfl) dX3_run_106 ⟨Nat.le_refl _, Nat.le_refl _⟩ (fun u55 H locs hw53 hP hD hS => ?_)
                          obtain ⟨f56, a57, g58⟩ := u55
                          have hP : va_P D vwCl (xX K r f56 a57 g58 tx) H := hP
                          have hD : va_D A (xX K r f56 a57 g58 tx) := hD
                          have hI : xI f56 a57 := hw53.1
                          have hG : gOK K g58.2 tt := hw53.2.1
                          have eE59 : xEk ([], [68, 79], []) f41 a42 g43 f56 a57 g58 := hw53.2.2
                          have hE : xEk ([1888, 1894, 1900, 1905, 1906], [60, 61, 62, 63, 64, 65, 66, 67, 68, 69, 70, 71, 72, 77, 78, 79, 81], [73]) f a g f56 a57 g58 := xEk_tr hE (xEk_w (by decide +kernel) eE59)
                          refine lv_aload_n hx hb dX3_run_109 rfl (lv_at hl 1 rfl) ?_
                          refine kIG.callW (As := []) (rest := []) ⟨hx, hb, hml, hown, hg⟩ (x_3_isStuck l r f56 a57 g58 tx tt hT hI hG   ) (cwV 0 hg (kgV wt5_18 wt5_20 wp2_15 wt1_10 wt5_21) rfl rfl rfl (by decide +kernel) ⟨by decide, by decide⟩) hV hK hP hD hS hA (58) 3 rfl rfl rfl hl.1 rfl (Nat.le_of_ble_eq_true rfl) dX3_run_110 ⟨Nat.le_refl _, Nat.le_refl _⟩ (fun v61 u62 H locs hw60 hP hD hS => ?_)
                          have hP : va_P D vwCl (xX K r f56 a57 g58 tx) H := hP
                          have hD : va_D A (xX K r f56 a57 g58 tx) := hD
                          refine lv_if_eq (tgt := 118) hx hb dX3_run_113 (by decide) (fun c63 => ?_) (fun c63 => ?_)
                          · have b64 : kb 0 v61 0 := kb_eq c63 kc_0
                            refine lv_aload_n hx hb dX3_run_118 rfl (lv_at hl 1 rfl) ?_
                            refine va_get (D := D) (ci := 3) (v := .ref (r 59)) (C := RX3) (T := TX3) (N := 4) hx hb hg inC3 hown hK hP 58 rfl rfl 0 (by decide) (hg _ wt2_95) (fun _ h9 => h9) rfl dX3_run_119 ?_
                            refine kIG.callW (As := []) (rest := []) ⟨hx, hb, hml, hown, hg⟩ (x_7_workOneTickP l r f56 a57 g58 tx tt hT hI hG   ) (cwV 0 hg (kgV wt5_22 wt4_143 wt4_144 wt1_2 wt4_145) rfl rfl rfl (by decide +kernel) ⟨by decide, by decide⟩) hV hK hP hD hS hA (59) 7 rfl rfl rfl hl.1 rfl (Nat.le_of_ble_eq_true rfl) dX3_run_122 ⟨Nat.le_refl _, Nat.le_refl _⟩ (fun v66 u67 H locs hw65 hP hD hS => ?_)
                            obtain ⟨f68, a69, g70⟩ := u67
                            have hP : va_P D vwCl (xX K r f68 a69 g70 tx) H := hP
                            have hD : va_D A (xX K r f68 a69 g70 tx) := hD
                            have hI : xI f68 a69 := hw65.2.1
                            have hG : gOK K g70.2 tt := hw65.2.2.1
                            have eE71 : xEk ([], [64, 67, 68, 69, 77, 78], []) f56 a57 g58 f68 a69 g70 := hw65.2.2.2
                            have hE : xEk ([1888, 1894, 1900, 1905, 1906], [60, 61, 62, 63, 64, 65, 66, 67, 68, 69, 70, 71, 72, 77, 78, 79, 81], [73]) f a g f68 a69 g70 := xEk_tr hE (xEk_w (by decide +kernel) eE71)
                            refine lv_pop hx hb dX3_run_125 rfl ?_
                            have b72 : kb 0 y26 2147483646 := ⟨(b32).1, by have w1 : y26.toInt ≠ lim.toInt := (fun q => c47 (Int32.toInt_inj.mp q)); have w2 := (b37).2; omega⟩
                            obtain ⟨t73, et73⟩ : ∃ z : Int32, z = y26 + Int32.ofInt 1 := ⟨_, rfl⟩
                            have qt73 : t73.toInt = y26.toInt + 1 := by rw [et73]; exact km_inc b72 (by decide) (by decide)
                            have b74 : kb 1 t73 2147483647 := kb_inc (k := 1) qt73 b72
                            refine lv_iinc (v := t73) (lv' := [(5, .int t73), (0, .ref (r 58)), (1, .int who), (2, .int lim), (3, .ref (r 81)), (4, .int fr)]) hx hb dX3_run_126 hl (k := 0) rfl et73.symm (by decide) rfl (fun ls hl => ?_)
                            refine lv_goto (tgt := 62) hx hb dX3_run_129 (by decide) ?_
                            exact ihlp30  f68 a69 g70 _ _ _ t73 (km_up hmlp30 qt73) hI hG hE (kb_w b74 (by decide) (by decide)) hP hD hS (lv_sub hl [0, 1, 2, 3, 4, 5] rfl)
                          · have b75 : kb 1 v61 1 := kr_nel c63 hw60 kc_0 (by decide)
                            refine lv_iconst (v := (-1)) hx hb dX3_run_116 (by decide) ?_
                            exact kI_ret (v := (-1)) hx hb hr hlocks rfl hK hS dX3_run_117 (f56, a57, g58) hP hD ⟨(kb_w kc_m1 (by decide) (by decide)), hI, hG, hE⟩
                        · have b76 : kb 0 v49 0 := kb_eq c51 kc_0
                          refine lv_iconst (v := (-1)) hx hb dX3_run_102 (by decide) ?_
                          exact kI_ret (v := (-1)) hx hb hr hlocks rfl hK hS dX3_run_103 (f41, a42, g43) hP hD ⟨(kb_w kc_m1 (by decide) (by decide)), hI, hG, hE⟩
                    · have b77 : kb 1 v39 1 := kr_nel c45 hw38.1 kc_0 (by decide)
                      refine lv_aload_n hx hb dX3_run_80 rfl (lv_at hl 4 rfl) ?_
                      refine lv_iload hx hb dX3_run_81 (lv_at hl 5 rfl) ?_
                      refine lv_iload hx hb dX3_run_83 (lv_at hl 0 rfl) ?_
                      refine va_iast hx hb hK hP hD hS 81 0 rfl rfl (kb_in bfr (by decide) (by decide)) dX3_run_85 (fun H locs hP hD hS => ?_)
                      have hP : va_P D vwCl (xX K r f41 (va_up a42 81 (upd (a42 81) fr.toNatClampNeg y26)) g43 tx) H := hP
                      have hD : va_D A (xX K r f41 (va_up a42 81 (upd (a42 81) fr.toNatClampNeg y26)) g43 tx) := hD
                      refine k_gen (P := fun z => va_P D vwCl (xX K r f41 z g43 tx) H ∧ va_D A (xX K r f41 z g43 tx) ∧ (xI f41 z) ∧ (gOK K g43.2 tt) ∧ (xEk ([1888, 1894, 1900, 1905, 1906], [60, 61, 62, 63, 64, 65, 66, 67, 68, 69, 70, 71, 72, 77, 78, 79, 81], [73]) f a g f41 z g43)) (va_up a42 81 (upd (a42 81) fr.toNatClampNeg y26)) ⟨hP, hD, (xI_a hI (by decide)), hG, (xEk_a hE rfl)⟩ (fun a_78 ea_78 hq => ?_)
                      obtain ⟨hP, hD, hI, hG, hE⟩ := hq
                      refine lv_iload hx hb dX3_run_86 (lv_at hl 0 rfl) ?_
                      exact kI_ret (v := y26) hx hb hr hlocks rfl hK hS dX3_run_88 (f41, a_78, g43) hP hD ⟨(kb_w b32 (by decide) (by decide)), hI, hG, hE⟩
              exact lp30 (2147483648)  f22 a23 g24 _ _ _ 0 (by have h1 := (kc_0); unfold kb at h1; omega) hI hG hE (kb_w kc_0 (by decide) (by decide)) hP hD hS (lv_sub hl [0, 1, 2, 3, 4, 5] rfl)
            · have h79 := (kc_nle c16)
              have b80 : kb 0 y11 10 := kr_lt1 h79 b15 kc_11 (by decide)
              refine lv_aload_n hx hb dX3_run_41 rfl (lv_at hl 4 rfl) ?_
              refine lv_iload hx hb dX3_run_42 (lv_at hl 5 rfl) ?_
              refine lv_iload hx hb dX3_run_44 (lv_at hl 0 rfl) ?_
              refine lv_iadd hx hb dX3_run_46 ?_
              refine lv_topi (fun t81 et81 => ?_)
              have b82 : kb 0 t81 10 := kb_eq et81 (kb_add bfr b80 (by decide) (by decide))
              have qt81 : t81.toInt = fr.toInt + y11.toInt := by rw [et81]; exact kt_add bfr b80 (by decide) (by decide)
              refine lv_iconst (v := (-1)) hx hb dX3_run_47 (by decide) ?_
              refine va_iast hx hb hK hP hD hS 81 0 rfl rfl (kb_in b82 (by decide) (by decide)) dX3_run_48 (fun H locs hP hD hS => ?_)
              have hP : va_P D vwCl (xX K r f (va_up B12 81 (upd (B12 81) t81.toNatClampNeg (-1))) g tx) H := hP
              have hD : va_D A (xX K r f (va_up B12 81 (upd (B12 81) t81.toNatClampNeg (-1))) g tx) := hD
              refine k_gen (P := fun z => va_P D vwCl (xX K r f z g tx) H ∧ va_D A (xX K r f z g tx) ∧ (xI f z) ∧ (gOK K g.2 tt) ∧ (xEk ([1888, 1894, 1900, 1905, 1906], [60, 61, 62, 63, 64, 65, 66, 67, 68, 69, 70, 71, 72, 77, 78, 79, 81], [73]) f a g f z g)) (va_up B12 81 (upd (B12 81) t81.toNatClampNeg (-1))) ⟨hP, hD, (xI_a hI (by decide)), hG, (xEk_a hE rfl)⟩ (fun a_83 ea_83 hq => ?_)
              obtain ⟨hP, hD, hI, hG, hE⟩ := hq
              obtain ⟨t84, et84⟩ : ∃ z : Int32, z = y11 + Int32.ofInt 1 := ⟨_, rfl⟩
              have qt84 : t84.toInt = y11.toInt + 1 := by rw [et84]; exact km_inc b80 (by decide) (by decide)
              have b85 : kb 1 t84 11 := kb_inc (k := 1) qt84 b80
              refine lv_iinc (v := t84) (lv' := [(5, .int t84), (0, .ref (r 58)), (1, .int who), (2, .int lim), (3, .ref (r 81)), (4, .int fr)]) hx hb dX3_run_49 hl (k := 0) rfl et84.symm (by decide) rfl (fun ls hl => ?_)
              refine lv_goto (tgt := 34) hx hb dX3_run_52 (by decide) ?_
              exact ihlp13  a_83 _ _ _ t84 (km_up hmlp13 qt84) hI hG hE (kb_w b85 (by decide) (by decide)) hP hD hS (lv_sub hl [0, 1, 2, 3, 4, 5] rfl)
        exact lp13 (12)  a _ _ _ 0 (by have h1 := (kc_0); unfold kb at h1; omega) hI hG hE (kb_w kc_0 (by decide) (by decide)) hP hD hS (lv_sub hl [0, 1, 2, 3, 4, 5] rfl)
      · refine lv_aload_n hx hb dX3_run_26 rfl (lv_at hl 3 rfl) ?_
        refine lv_iload hx hb dX3_run_27 (lv_at hl 4 rfl) ?_
        refine va_iald hx hb hK hP 81 0 rfl rfl (kb_in bfr (by decide) (by decide)) dX3_run_29 ?_
        refine k_top (z := t8) et8.symm ?_
        exact kI_ret (v := t8) hx hb hr hlocks rfl hK hS dX3_run_30 (f, a, g) hP hD ⟨(kb_any t8), hI, hG, hE⟩
    · have h86 := (kc_nle c6)
      exact kb_no (kr_lt1 h86 kc_11 b5 (H := 10) (by decide)) (by decide)
set_option maxHeartbeats 4000000 in
set_option maxRecDepth 100000 in
theorem x_3_runL  (l : Launch) {D : va_G} {K : Nat → ClassId} (r : Nat → Nat) (f : Nat → Int32) (a : Nat → Nat → Int32) (g : xG) (tx tt : va_W) (hT : ∀ c ∈ tt, c ∈ tx) (hI : xI f a) (hG : gOK K g.2 tt) (who : Int32) (lim : Int32) (fr : Int32) (bfr : kb 0 fr 0)   : kIG l yX3_run (Cond.code yX3_run cX3_run 6 (some .int) :: kG) (rmD 5 0 0) D K [.ref (r 58), .int who, .int lim, .ref (r 82), .int fr] (xX K r f a g tx) (fun v (u : xS) => kb (-2147483648) v 2147483647 ∧ xI u.1 u.2.1 ∧ gOK K u.2.2.2 tt ∧ xEk ([1888, 1894, 1900, 1905, 1906], [60, 61, 62, 63, 64, 65, 66, 67, 68, 69, 70, 71, 72, 77, 78, 79, 82], [73]) f a g u.1 u.2.1 u.2.2) (fun u => xX K r u.1 u.2.1 u.2.2 tx) 0 0 := by
  refine kIE.of (cc := cX3_run) (maxL := 6) (ret := (some .int)) (by decide) rfl (Nat.le_of_ble_eq_true rfl) ?_
  intro p e s m below meth c A hx hb hr hml hown hts hlocks hnm hK hP hD hS hA hV ls hl
  have hE : xEk ([1888, 1894, 1900, 1905, 1906], [60, 61, 62, 63, 64, 65, 66, 67, 68, 69, 70, 71, 72, 77, 78, 79, 82], [73]) f a g f a g := xEk_rf
  have hg : ∀ w ∈ kG, w.before _ s = true := fun w h => hts w (List.mem_cons_of_mem _ h)
  have hown : s.vm.findClass RX3 = some m.cls := hown
  have hl : lv_has ls 6 [(0, .ref (r 58)), (1, .int who), (2, .int lim), (3, .ref (r 82)), (4, .int fr)] := hl
  refine lv_iload hx hb dX3_run_0 (lv_at hl 4 rfl) ?_
  refine lv_if_lt (tgt := 15) hx hb dX3_run_2 (by decide) (fun c1 => ?_) (fun c1 => ?_)
  · have h2 := (kc_lt c1)
    exact kb_no (kr_lt1 h2 bfr kc_0 (H := (-1)) (by decide)) (by decide)
  · have h3 := (kc_nlt c1)
    refine lv_iload hx hb dX3_run_5 (lv_at hl 4 rfl) ?_
    refine lv_bipush (v := 11) hx hb dX3_run_7 (by decide) ?_
    refine lv_iadd hx hb dX3_run_9 ?_
    refine lv_topi (fun t4 et4 => ?_)
    have b5 : kb 11 t4 11 := kb_eq et4 (kb_add bfr kc_11 (by decide) (by decide))
    have qt4 : t4.toInt = fr.toInt + 11 := by rw [et4]; exact kt_addc bfr kc_11 (by decide) (by decide)
    refine lv_aload_n hx hb dX3_run_10 rfl (lv_at hl 3 rfl) ?_
    refine va_alen (v := 11) hx hb hK hP 82 0 rfl rfl rfl dX3_run_11 ?_
    refine lv_icmp_le (tgt := 17) hx hb dX3_run_12 (by decide) (fun c6 => ?_) (fun c6 => ?_)
    · have h7 := (kc_le c6)
      refine lv_aload_n hx hb dX3_run_17 rfl (lv_at hl 3 rfl) ?_
      refine lv_iload hx hb dX3_run_18 (lv_at hl 4 rfl) ?_
      refine va_iald hx hb hK hP 82 0 rfl rfl (kb_in bfr (by decide) (by decide)) dX3_run_20 ?_
      refine lv_topi (fun t8 et8 => ?_)
      refine lv_bipush (v := (-2)) hx hb dX3_run_21 (by decide) ?_
      refine lv_icmp_eq (tgt := 31) hx hb dX3_run_23 (by decide) (fun c9 => ?_) (fun c9 => ?_)
      · have b10 : kb (-2) t8 (-2) := kb_eq c9 kc_m2
        refine lv_iconst (v := 0) hx hb dX3_run_31 (by decide) ?_
        refine lv_istore (lv' := [(5, .int 0), (0, .ref (r 58)), (1, .int who), (2, .int lim), (3, .ref (r 82)), (4, .int fr)]) hx hb dX3_run_32 hl (by decide) rfl (fun ls hl => ?_)
        have lp13 : ∀ (n14 : Nat) (B12 : Nat → Nat → Int32) (H : Heap) (locs : List Loc) (ls : Array Slot) (y11 : Int32), (11 < y11.toInt + (n14 : Int)) → (xI f B12) → (gOK K g.2 tt) → (xEk ([1888, 1894, 1900, 1905, 1906], [60, 61, 62, 63, 64, 65, 66, 67, 68, 69, 70, 71, 72, 77, 78, 79, 82], [73]) f a g f B12 g) → (kb 0 y11 11) → va_P D vwCl (xX K r f B12 g tx) H → va_D A (xX K r f B12 g tx) → va_S A s.heap H locs → lv_has ls 6 [(5, .int y11), (0, .ref (r 58)), (1, .int who), (2, .int lim), (3, .ref (r 82)), (4, .int fr)] → W p l e (rmD 5 0 0) s m ([.ref (r 58), .int who, .int lim, .ref (r 82), .int fr] : List Value).toArray below meth c H locs 0 0 (kQi D (tysK K) (fun v (u : xS) => kb (-2147483648) v 2147483647 ∧ xI u.1 u.2.1 ∧ gOK K u.2.2.2 tt ∧ xEk ([1888, 1894, 1900, 1905, 1906], [60, 61, 62, 63, 64, 65, 66, 67, 68, 69, 70, 71, 72, 77, 78, 79, 82], [73]) f a g u.1 u.2.1 u.2.2) (fun u => xX K r u.1 u.2.1 u.2.2 tx) A below ([.ref (r 58), .int who, .int lim, .ref (r 82), .int fr] : List Value).toArray s 0 0) (F0 m 34 ls []) := by
          intro n14
          induction n14 with
          | zero =>
            intro  B12  H locs ls y11 hmlp13 hI hG hE b15 hP hD hS hl
            exact (by have h1 := b15.2; have h2 := hmlp13; omega : False).elim
          | succ n14 ihlp13 =>
            intro  B12  H locs ls y11 hmlp13 hI hG hE b15 hP hD hS hl
            refine lv_iload hx hb dX3_run_34 (lv_at hl 0 rfl) ?_
            refine lv_bipush (v := 11) hx hb dX3_run_36 (by decide) ?_
            refine lv_icmp_ge (tgt := 55) hx hb dX3_run_38 (by decide) (fun c16 => ?_) (fun c16 => ?_)
            · have h17 := (kc_le c16)
              have b18 : kb 11 y11 11 := kr_le2 h17 kc_11 b15
              refine lv_aload_n hx hb dX3_run_55 rfl (lv_at hl 1 rfl) ?_
              refine kVG.callW (As := []) (rest := []) ⟨hx, hb, hml, hown, hg⟩ (x_3_begin l r f B12 g tx tt hT hI hG   ) (cwV 0 hg (kgV wt4_236 wt4_237 wt4_238 wt1_10 wt4_239) rfl rfl rfl (by decide +kernel) ⟨by decide, by decide⟩) hV hK hP hD hS hA (58) 3 rfl rfl rfl hl.1 rfl (Nat.le_of_ble_eq_true rfl) dX3_run_56 ⟨Nat.le_refl _, Nat.le_refl _⟩ (fun u21 H locs hw19 hP hD hS => ?_)
              obtain ⟨f22, a23, g24⟩ := u21
              have hP : va_P D vwCl (xX K r f22 a23 g24 tx) H := hP
              have hD : va_D A (xX K r f22 a23 g24 tx) := hD
              have hI : xI f22 a23 := hw19.1
              have hG : gOK K g24.2 tt := hw19.2.1
              have eE25 : xEk ([1888, 1894, 1900, 1905, 1906], [60, 61, 62, 63, 64, 65, 66, 67, 68, 69, 70, 71, 72], [73]) f B12 g f22 a23 g24 := hw19.2.2
              have hE : xEk ([1888, 1894, 1900, 1905, 1906], [60, 61, 62, 63, 64, 65, 66, 67, 68, 69, 70, 71, 72, 77, 78, 79, 82], [73]) f a g f22 a23 g24 := xEk_tr hE (xEk_w (by decide +kernel) eE25)
              refine lv_iconst (v := 0) hx hb dX3_run_59 (by decide) ?_
              refine lv_istore (lv' := [(5, .int 0), (0, .ref (r 58)), (1, .int who), (2, .int lim), (3, .ref (r 82)), (4, .int fr)]) hx hb dX3_run_60 hl (by decide) rfl (fun ls hl => ?_)
              have lp30 : ∀ (n31 : Nat) (F27 : Nat → Int32) (B28 : Nat → Nat → Int32) (G29 : xG) (H : Heap) (locs : List Loc) (ls : Array Slot) (y26 : Int32), (2147483647 < y26.toInt + (n31 : Int)) → (xI F27 B28) → (gOK K G29.2 tt) → (xEk ([1888, 1894, 1900, 1905, 1906], [60, 61, 62, 63, 64, 65, 66, 67, 68, 69, 70, 71, 72, 77, 78, 79, 82], [73]) f a g F27 B28 G29) → (kb 0 y26 2147483647) → va_P D vwCl (xX K r F27 B28 G29 tx) H → va_D A (xX K r F27 B28 G29 tx) → va_S A s.heap H locs → lv_has ls 6 [(5, .int y26), (0, .ref (r 58)), (1, .int who), (2, .int lim), (3, .ref (r 82)), (4, .int fr)] → W p l e (rmD 5 0 0) s m ([.ref (r 58), .int who, .int lim, .ref (r 82), .int fr] : List Value).toArray below meth c H locs 0 0 (kQi D (tysK K) (fun v (u : xS) => kb (-2147483648) v 2147483647 ∧ xI u.1 u.2.1 ∧ gOK K u.2.2.2 tt ∧ xEk ([1888, 1894, 1900, 1905, 1906], [60, 61, 62, 63, 64, 65, 66, 67, 68, 69, 70, 71, 72, 77, 78, 79, 82], [73]) f a g u.1 u.2.1 u.2.2) (fun u => xX K r u.1 u.2.1 u.2.2 tx) A below ([.ref (r 58), .int who, .int lim, .ref (r 82), .int fr] : List Value).toArray s 0 0) (F0 m 62 ls []) := by
                intro n31
                induction n31 with
                | zero =>
                  intro  F27 B28 G29  H locs ls y26 hmlp30 hI hG hE b32 hP hD hS hl
                  exact (by have h1 := b32.2; have h2 := hmlp30; omega : False).elim
                | succ n31 ihlp30 =>
                  intro  F27 B28 G29  H locs ls y26 hmlp30 hI hG hE b32 hP hD hS hl
                  refine lv_iload hx hb dX3_run_62 (lv_at hl 0 rfl) ?_
                  refine lv_iload_n hx hb dX3_run_64 rfl (lv_at hl 3 rfl) ?_
                  refine lv_icmp_gt (tgt := 132) hx hb dX3_run_65 (by decide) (fun c33 => ?_) (fun c33 => ?_)
                  · have h34 := (kc_lt c33)
                    have b35 : kb (-2147483648) lim 2147483646 := kr_lt1 h34 (kb_any lim) b32 (by decide)
                    refine lv_iconst (v := (-1)) hx hb dX3_run_132 (by decide) ?_
                    exact kI_ret (v := (-1)) hx hb hr hlocks rfl hK hS dX3_run_133 (F27, B28, G29) hP hD ⟨(kb_w kc_m1 (by decide) (by decide)), hI, hG, hE⟩
                  · have h36 := (kc_nlt c33)
                    have b37 : kb 0 lim 2147483647 := kr_le2 h36 b32 (kb_any lim)
                    refine lv_aload_n hx hb dX3_run_68 rfl (lv_at hl 1 rfl) ?_
                    refine lv_iload hx hb dX3_run_69 (lv_at hl 0 rfl) ?_
                    refine lv_aload_n hx hb dX3_run_71 rfl (lv_at hl 4 rfl) ?_
                    refine lv_iload hx hb dX3_run_72 (lv_at hl 5 rfl) ?_
                    refine kIG.callW (As := [.int y26, .ref (r 82), .int fr]) (rest := []) ⟨hx, hb, hml, hown, hg⟩ (x_3_noteStandingL l r F27 B28 G29 tx tt hT hI hG y26 fr bfr ) (cwV 3 hg (kgV wt5_3 wt5_5 wp2_14 wt1_10 wt5_6) rfl rfl rfl (by decide +kernel) ⟨by decide, by decide⟩) hV hK hP hD hS hA (58) 3 rfl rfl rfl hl.1 rfl (Nat.le_of_ble_eq_true rfl) dX3_run_74 ⟨Nat.le_refl _, Nat.le_refl _⟩ (fun v39 u40 H locs hw38 hP hD hS => ?_)
                    obtain ⟨f41, a42, g43⟩ := u40
                    have hP : va_P D vwCl (xX K r f41 a42 g43 tx) H := hP
                    have hD : va_D A (xX K r f41 a42 g43 tx) := hD
                    have hI : xI f41 a42 := hw38.2.1
                    have hG : gOK K g43.2 tt := hw38.2.2.1
                    have eE44 : xEk ([], [82], []) F27 B28 G29 f41 a42 g43 := hw38.2.2.2
                    have hE : xEk ([1888, 1894, 1900, 1905, 1906], [60, 61, 62, 63, 64, 65, 66, 67, 68, 69, 70, 71, 72, 77, 78, 79, 82], [73]) f a g f41 a42 g43 := xEk_tr hE (xEk_w (by decide +kernel) eE44)
                    refine lv_if_eq (tgt := 89) hx hb dX3_run_77 (by decide) (fun c45 => ?_) (fun c45 => ?_)
                    · have b46 : kb 0 v39 0 := kb_eq c45 kc_0
                      refine lv_iload hx hb dX3_run_89 (lv_at hl 0 rfl) ?_
                      refine lv_iload_n hx hb dX3_run_91 rfl (lv_at hl 3 rfl) ?_
                      refine lv_icmp_eq (tgt := 102) hx hb dX3_run_92 (by decide) (fun c47 => ?_) (fun c47 => ?_)
                      · refine lv_iconst (v := (-1)) hx hb dX3_run_102 (by decide) ?_
                        exact kI_ret (v := (-1)) hx hb hr hlocks rfl hK hS dX3_run_103 (f41, a42, g43) hP hD ⟨(kb_w kc_m1 (by decide) (by decide)), hI, hG, hE⟩
                      · refine lv_aload_n hx hb dX3_run_95 rfl (lv_at hl 1 rfl) ?_
                        refine kIG.callW (As := []) (rest := []) ⟨hx, hb, hml, hown, hg⟩ (x_3_canTick l r f41 a42 g43 tx tt hT hI hG   ) (cwV 0 hg (kgV wt5_7 wt5_8 wt5_9 wt1_10 wt5_10) rfl rfl rfl (by decide +kernel) ⟨by decide, by decide⟩) hV hK hP hD hS hA (58) 3 rfl rfl rfl hl.1 rfl (Nat.le_of_ble_eq_true rfl) dX3_run_96 ⟨Nat.le_refl _, Nat.le_refl _⟩ (fun v49 u50 H locs hw48 hP hD hS => ?_)
                        have hP : va_P D vwCl (xX K r f41 a42 g43 tx) H := hP
                        have hD : va_D A (xX K r f41 a42 g43 tx) := hD
                        refine lv_if_ne (tgt := 104) hx hb dX3_run_99 (by decide) (fun c51 => ?_) (fun c51 => ?_)
                        · have b52 : kb 1 v49 1 := kr_nel c51 hw48 kc_0 (by decide)
                          refine lv_aload_n hx hb dX3_run_104 rfl (lv_at hl 1 rfl) ?_
                          refine lv_iload_n hx hb dX3_run_105 rfl (lv_at hl 2 rfl) ?_
                          refine kVG.callW (As := [.int who]) (rest := []) ⟨hx, hb, hml, hown, hg⟩ (x_3_sendFree l r f41 a42 g43 tx tt hT hI hG who  ) (cwV 1 hg (kgV wt5_11 wt5_12 wt5_13 wt1_10 wt5_14) rfl rfl rfl (by decide +kernel) ⟨by decide, by decide⟩) hV hK hP hD hS hA (58) 3 rfl rfl rfl hl.1 rfl (Nat.le_of_ble_eq_true rfl) dX3_run_106 ⟨Nat.le_refl _, Nat.le_refl _⟩ (fun u55 H locs hw53 hP hD hS => ?_)
                          obtain ⟨f56, a57, g58⟩ := u55
                          have hP : va_P D vwCl (xX K r f56 a57 g58 tx) H := hP
                          have hD : va_D A (xX K r f56 a57 g58 tx) := hD
                          have hI : xI f56 a57 := hw53.1
                          have hG : gOK K g58.2 tt := hw53.2.1
                          have eE59 : xEk ([], [68, 79], []) f41 a42 g43 f56 a57 g58 := hw53.2.2
                          have hE : xEk ([1888, 1894, 1900, 1905, 1906], [60, 61, 62, 63, 64, 65, 66, 67, 68, 69, 70, 71, 72, 77, 78, 79, 82], [73]) f a g f56 a57 g58 := xEk_tr hE (xEk_w (by decide +kernel) eE59)
                          refine lv_aload_n hx hb dX3_run_109 rfl (lv_at hl 1 rfl) ?_
                          refine kIG.callW (As := []) (rest := []) ⟨hx, hb, hml, hown, hg⟩ (x_3_isStuck l r f56 a57 g58 tx tt hT hI hG   ) (cwV 0 hg (kgV wt5_18 wt5_20 wp2_15 wt1_10 wt5_21) rfl rfl rfl (by decide +kernel) ⟨by decide, by decide⟩) hV hK hP hD hS hA (58) 3 rfl rfl rfl hl.1 rfl (Nat.le_of_ble_eq_true rfl) dX3_run_110 ⟨Nat.le_refl _, Nat.le_refl _⟩ (fun v61 u62 H locs hw60 hP hD hS => ?_)
                          have hP : va_P D vwCl (xX K r f56 a57 g58 tx) H := hP
                          have hD : va_D A (xX K r f56 a57 g58 tx) := hD
                          refine lv_if_eq (tgt := 118) hx hb dX3_run_113 (by decide) (fun c63 => ?_) (fun c63 => ?_)
                          · have b64 : kb 0 v61 0 := kb_eq c63 kc_0
                            refine lv_aload_n hx hb dX3_run_118 rfl (lv_at hl 1 rfl) ?_
                            refine va_get (D := D) (ci := 3) (v := .ref (r 59)) (C := RX3) (T := TX3) (N := 4) hx hb hg inC3 hown hK hP 58 rfl rfl 0 (by decide) (hg _ wt2_95) (fun _ h9 => h9) rfl dX3_run_119 ?_
                            refine kIG.callW (As := []) (rest := []) ⟨hx, hb, hml, hown, hg⟩ (x_7_workOneTickP l r f56 a57 g58 tx tt hT hI hG   ) (cwV 0 hg (kgV wt5_22 wt4_143 wt4_144 wt1_2 wt4_145) rfl rfl rfl (by decide +kernel) ⟨by decide, by decide⟩) hV hK hP hD hS hA (59) 7 rfl rfl rfl hl.1 rfl (Nat.le_of_ble_eq_true rfl) dX3_run_122 ⟨Nat.le_refl _, Nat.le_refl _⟩ (fun v66 u67 H locs hw65 hP hD hS => ?_)
                            obtain ⟨f68, a69, g70⟩ := u67
                            have hP : va_P D vwCl (xX K r f68 a69 g70 tx) H := hP
                            have hD : va_D A (xX K r f68 a69 g70 tx) := hD
                            have hI : xI f68 a69 := hw65.2.1
                            have hG : gOK K g70.2 tt := hw65.2.2.1
                            have eE71 : xEk ([], [64, 67, 68, 69, 77, 78], []) f56 a57 g58 f68 a69 g70 := hw65.2.2.2
                            have hE : xEk ([1888, 1894, 1900, 1905, 1906], [60, 61, 62, 63, 64, 65, 66, 67, 68, 69, 70, 71, 72, 77, 78, 79, 82], [73]) f a g f68 a69 g70 := xEk_tr hE (xEk_w (by decide +kernel) eE71)
                            refine lv_pop hx hb dX3_run_125 rfl ?_
                            have b72 : kb 0 y26 2147483646 := ⟨(b32).1, by have w1 : y26.toInt ≠ lim.toInt := (fun q => c47 (Int32.toInt_inj.mp q)); have w2 := (b37).2; omega⟩
                            obtain ⟨t73, et73⟩ : ∃ z : Int32, z = y26 + Int32.ofInt 1 := ⟨_, rfl⟩
                            have qt73 : t73.toInt = y26.toInt + 1 := by rw [et73]; exact km_inc b72 (by decide) (by decide)
                            have b74 : kb 1 t73 2147483647 := kb_inc (k := 1) qt73 b72
                            refine lv_iinc (v := t73) (lv' := [(5, .int t73), (0, .ref (r 58)), (1, .int who), (2, .int lim), (3, .ref (r 82)), (4, .int fr)]) hx hb dX3_run_126 hl (k := 0) rfl et73.symm (by decide) rfl (fun ls hl => ?_)
                            refine lv_goto (tgt := 62) hx hb dX3_run_129 (by decide) ?_
                            exact ihlp30  f68 a69 g70 _ _ _ t73 (km_up hmlp30 qt73) hI hG hE (kb_w b74 (by decide) (by decide)) hP hD hS (lv_sub hl [0, 1, 2, 3, 4, 5] rfl)
                          · have b75 : kb 1 v61 1 := kr_nel c63 hw60 kc_0 (by decide)
                            refine lv_iconst (v := (-1)) hx hb dX3_run_116 (by decide) ?_
                            exact kI_ret (v := (-1)) hx hb hr hlocks rfl hK hS dX3_run_117 (f56, a57, g58) hP hD ⟨(kb_w kc_m1 (by decide) (by decide)), hI, hG, hE⟩
                        · have b76 : kb 0 v49 0 := kb_eq c51 kc_0
                          refine lv_iconst (v := (-1)) hx hb dX3_run_102 (by decide) ?_
                          exact kI_ret (v := (-1)) hx hb hr hlocks rfl hK hS dX3_run_103 (f41, a42, g43) hP hD ⟨(kb_w kc_m1 (by decide) (by decide)), hI, hG, hE⟩
                    · have b77 : kb 1 v39 1 := kr_nel c45 hw38.1 kc_0 (by decide)
                      refine lv_aload_n hx hb dX3_run_80 rfl (lv_at hl 4 rfl) ?_
                      refine lv_iload hx hb dX3_run_81 (lv_at hl 5 rfl) ?_
                      refine lv_iload hx hb dX3_run_83 (lv_at hl 0 rfl) ?_
                      refine va_iast hx hb hK hP hD hS 82 0 rfl rfl (kb_in bfr (by decide) (by decide)) dX3_run_85 (fun H locs hP hD hS => ?_)
                      have hP : va_P D vwCl (xX K r f41 (va_up a42 82 (upd (a42 82) fr.toNatClampNeg y26)) g43 tx) H := hP
                      have hD : va_D A (xX K r f41 (va_up a42 82 (upd (a42 82) fr.toNatClampNeg y26)) g43 tx) := hD
                      refine k_gen (P := fun z => va_P D vwCl (xX K r f41 z g43 tx) H ∧ va_D A (xX K r f41 z g43 tx) ∧ (xI f41 z) ∧ (gOK K g43.2 tt) ∧ (xEk ([1888, 1894, 1900, 1905, 1906], [60, 61, 62, 63, 64, 65, 66, 67, 68, 69, 70, 71, 72, 77, 78, 79, 82], [73]) f a g f41 z g43)) (va_up a42 82 (upd (a42 82) fr.toNatClampNeg y26)) ⟨hP, hD, (xI_a hI (by decide)), hG, (xEk_a hE rfl)⟩ (fun a_78 ea_78 hq => ?_)
                      obtain ⟨hP, hD, hI, hG, hE⟩ := hq
                      refine lv_iload hx hb dX3_run_86 (lv_at hl 0 rfl) ?_
                      exact kI_ret (v := y26) hx hb hr hlocks rfl hK hS dX3_run_88 (f41, a_78, g43) hP hD ⟨(kb_w b32 (by decide) (by decide)), hI, hG, hE⟩
              exact lp30 (2147483648)  f22 a23 g24 _ _ _ 0 (by have h1 := (kc_0); unfold kb at h1; omega) hI hG hE (kb_w kc_0 (by decide) (by decide)) hP hD hS (lv_sub hl [0, 1, 2, 3, 4, 5] rfl)
            · have h79 := (kc_nle c16)
              have b80 : kb 0 y11 10 := kr_lt1 h79 b15 kc_11 (by decide)
              refine lv_aload_n hx hb dX3_run_41 rfl (lv_at hl 4 rfl) ?_
              refine lv_iload hx hb dX3_run_42 (lv_at hl 5 rfl) ?_
              refine lv_iload hx hb dX3_run_44 (lv_at hl 0 rfl) ?_
              refine lv_iadd hx hb dX3_run_46 ?_
              refine lv_topi (fun t81 et81 => ?_)
              have b82 : kb 0 t81 10 := kb_eq et81 (kb_add bfr b80 (by decide) (by decide))
              have qt81 : t81.toInt = fr.toInt + y11.toInt := by rw [et81]; exact kt_add bfr b80 (by decide) (by decide)
              refine lv_iconst (v := (-1)) hx hb dX3_run_47 (by decide) ?_
              refine va_iast hx hb hK hP hD hS 82 0 rfl rfl (kb_in b82 (by decide) (by decide)) dX3_run_48 (fun H locs hP hD hS => ?_)
              have hP : va_P D vwCl (xX K r f (va_up B12 82 (upd (B12 82) t81.toNatClampNeg (-1))) g tx) H := hP
              have hD : va_D A (xX K r f (va_up B12 82 (upd (B12 82) t81.toNatClampNeg (-1))) g tx) := hD
              refine k_gen (P := fun z => va_P D vwCl (xX K r f z g tx) H ∧ va_D A (xX K r f z g tx) ∧ (xI f z) ∧ (gOK K g.2 tt) ∧ (xEk ([1888, 1894, 1900, 1905, 1906], [60, 61, 62, 63, 64, 65, 66, 67, 68, 69, 70, 71, 72, 77, 78, 79, 82], [73]) f a g f z g)) (va_up B12 82 (upd (B12 82) t81.toNatClampNeg (-1))) ⟨hP, hD, (xI_a hI (by decide)), hG, (xEk_a hE rfl)⟩ (fun a_83 ea_83 hq => ?_)
              obtain ⟨hP, hD, hI, hG, hE⟩ := hq
              obtain ⟨t84, et84⟩ : ∃ z : Int32, z = y11 + Int32.ofInt 1 := ⟨_, rfl⟩
              have qt84 : t84.toInt = y11.toInt + 1 := by rw [et84]; exact km_inc b80 (by decide) (by decide)
              have b85 : kb 1 t84 11 := kb_inc (k := 1) qt84 b80
              refine lv_iinc (v := t84) (lv' := [(5, .int t84), (0, .ref (r 58)), (1, .int who), (2, .int lim), (3, .ref (r 82)), (4, .int fr)]) hx hb dX3_run_49 hl (k := 0) rfl et84.symm (by decide) rfl (fun ls hl => ?_)
              refine lv_goto (tgt := 34) hx hb dX3_run_52 (by decide) ?_
              exact ihlp13  a_83 _ _ _ t84 (km_up hmlp13 qt84) hI hG hE (kb_w b85 (by decide) (by decide)) hP hD hS (lv_sub hl [0, 1, 2, 3, 4, 5] rfl)
        exact lp13 (12)  a _ _ _ 0 (by have h1 := (kc_0); unfold kb at h1; omega) hI hG hE (kb_w kc_0 (by decide) (by decide)) hP hD hS (lv_sub hl [0, 1, 2, 3, 4, 5] rfl)
      · refine lv_aload_n hx hb dX3_run_26 rfl (lv_at hl 3 rfl) ?_
        refine lv_iload hx hb dX3_run_27 (lv_at hl 4 rfl) ?_
        refine va_iald hx hb hK hP 82 0 rfl rfl (kb_in bfr (by decide) (by decide)) dX3_run_29 ?_
        refine k_top (z := t8) et8.symm ?_
        exact kI_ret (v := t8) hx hb hr hlocks rfl hK hS dX3_run_30 (f, a, g) hP hD ⟨(kb_any t8), hI, hG, hE⟩
    · have h86 := (kc_nle c6)
      exact kb_no (kr_lt1 h86 kc_11 b5 (H := 10) (by decide)) (by decide)
set_option maxHeartbeats 4000000 in
set_option maxRecDepth 100000 in
theorem x_3_runS  (l : Launch) {D : va_G} {K : Nat → ClassId} (r : Nat → Nat) (f : Nat → Int32) (a : Nat → Nat → Int32) (g : xG) (tx tt : va_W) (hT : ∀ c ∈ tt, c ∈ tx) (hI : xI f a) (hG : gOK K g.2 tt) (who : Int32) (lim : Int32) (fr : Int32) (bfr : kb 0 fr 693)   : kIG l yX3_run (Cond.code yX3_run cX3_run 6 (some .int) :: kG) (rmD 5 0 0) D K [.ref (r 58), .int who, .int lim, .ref (r 83), .int fr] (xX K r f a g tx) (fun v (u : xS) => kb (-2147483648) v 2147483647 ∧ xI u.1 u.2.1 ∧ gOK K u.2.2.2 tt ∧ xEk ([1888, 1894, 1900, 1905, 1906], [60, 61, 62, 63, 64, 65, 66, 67, 68, 69, 70, 71, 72, 77, 78, 79, 83], [73]) f a g u.1 u.2.1 u.2.2) (fun u => xX K r u.1 u.2.1 u.2.2 tx) 0 0 := by
  refine kIE.of (cc := cX3_run) (maxL := 6) (ret := (some .int)) (by decide) rfl (Nat.le_of_ble_eq_true rfl) ?_
  intro p e s m below meth c A hx hb hr hml hown hts hlocks hnm hK hP hD hS hA hV ls hl
  have hE : xEk ([1888, 1894, 1900, 1905, 1906], [60, 61, 62, 63, 64, 65, 66, 67, 68, 69, 70, 71, 72, 77, 78, 79, 83], [73]) f a g f a g := xEk_rf
  have hg : ∀ w ∈ kG, w.before _ s = true := fun w h => hts w (List.mem_cons_of_mem _ h)
  have hown : s.vm.findClass RX3 = some m.cls := hown
  have hl : lv_has ls 6 [(0, .ref (r 58)), (1, .int who), (2, .int lim), (3, .ref (r 83)), (4, .int fr)] := hl
  refine lv_iload hx hb dX3_run_0 (lv_at hl 4 rfl) ?_
  refine lv_if_lt (tgt := 15) hx hb dX3_run_2 (by decide) (fun c1 => ?_) (fun c1 => ?_)
  · have h2 := (kc_lt c1)
    exact kb_no (kr_lt1 h2 bfr kc_0 (H := (-1)) (by decide)) (by decide)
  · have h3 := (kc_nlt c1)
    refine lv_iload hx hb dX3_run_5 (lv_at hl 4 rfl) ?_
    refine lv_bipush (v := 11) hx hb dX3_run_7 (by decide) ?_
    refine lv_iadd hx hb dX3_run_9 ?_
    refine lv_topi (fun t4 et4 => ?_)
    have b5 : kb 11 t4 704 := kb_eq et4 (kb_add bfr kc_11 (by decide) (by decide))
    have qt4 : t4.toInt = fr.toInt + 11 := by rw [et4]; exact kt_addc bfr kc_11 (by decide) (by decide)
    refine lv_aload_n hx hb dX3_run_10 rfl (lv_at hl 3 rfl) ?_
    refine va_alen (v := 704) hx hb hK hP 83 0 rfl rfl rfl dX3_run_11 ?_
    refine lv_icmp_le (tgt := 17) hx hb dX3_run_12 (by decide) (fun c6 => ?_) (fun c6 => ?_)
    · have h7 := (kc_le c6)
      refine lv_aload_n hx hb dX3_run_17 rfl (lv_at hl 3 rfl) ?_
      refine lv_iload hx hb dX3_run_18 (lv_at hl 4 rfl) ?_
      refine va_iald hx hb hK hP 83 0 rfl rfl (kb_in bfr (by decide) (by decide)) dX3_run_20 ?_
      refine lv_topi (fun t8 et8 => ?_)
      refine lv_bipush (v := (-2)) hx hb dX3_run_21 (by decide) ?_
      refine lv_icmp_eq (tgt := 31) hx hb dX3_run_23 (by decide) (fun c9 => ?_) (fun c9 => ?_)
      · have b10 : kb (-2) t8 (-2) := kb_eq c9 kc_m2
        refine lv_iconst (v := 0) hx hb dX3_run_31 (by decide) ?_
        refine lv_istore (lv' := [(5, .int 0), (0, .ref (r 58)), (1, .int who), (2, .int lim), (3, .ref (r 83)), (4, .int fr)]) hx hb dX3_run_32 hl (by decide) rfl (fun ls hl => ?_)
        have lp13 : ∀ (n14 : Nat) (B12 : Nat → Nat → Int32) (H : Heap) (locs : List Loc) (ls : Array Slot) (y11 : Int32), (11 < y11.toInt + (n14 : Int)) → (xI f B12) → (gOK K g.2 tt) → (xEk ([1888, 1894, 1900, 1905, 1906], [60, 61, 62, 63, 64, 65, 66, 67, 68, 69, 70, 71, 72, 77, 78, 79, 83], [73]) f a g f B12 g) → (kb 0 y11 11) → va_P D vwCl (xX K r f B12 g tx) H → va_D A (xX K r f B12 g tx) → va_S A s.heap H locs → lv_has ls 6 [(5, .int y11), (0, .ref (r 58)), (1, .int who), (2, .int lim), (3, .ref (r 83)), (4, .int fr)] → W p l e (rmD 5 0 0) s m ([.ref (r 58), .int who, .int lim, .ref (r 83), .int fr] : List Value).toArray below meth c H locs 0 0 (kQi D (tysK K) (fun v (u : xS) => kb (-2147483648) v 2147483647 ∧ xI u.1 u.2.1 ∧ gOK K u.2.2.2 tt ∧ xEk ([1888, 1894, 1900, 1905, 1906], [60, 61, 62, 63, 64, 65, 66, 67, 68, 69, 70, 71, 72, 77, 78, 79, 83], [73]) f a g u.1 u.2.1 u.2.2) (fun u => xX K r u.1 u.2.1 u.2.2 tx) A below ([.ref (r 58), .int who, .int lim, .ref (r 83), .int fr] : List Value).toArray s 0 0) (F0 m 34 ls []) := by
          intro n14
          induction n14 with
          | zero =>
            intro  B12  H locs ls y11 hmlp13 hI hG hE b15 hP hD hS hl
            exact (by have h1 := b15.2; have h2 := hmlp13; omega : False).elim
          | succ n14 ihlp13 =>
            intro  B12  H locs ls y11 hmlp13 hI hG hE b15 hP hD hS hl
            refine lv_iload hx hb dX3_run_34 (lv_at hl 0 rfl) ?_
            refine lv_bipush (v := 11) hx hb dX3_run_36 (by decide) ?_
            refine lv_icmp_ge (tgt := 55) hx hb dX3_run_38 (by decide) (fun c16 => ?_) (fun c16 => ?_)
            · have h17 := (kc_le c16)
              have b18 : kb 11 y11 11 := kr_le2 h17 kc_11 b15
              refine lv_aload_n hx hb dX3_run_55 rfl (lv_at hl 1 rfl) ?_
              refine kVG.callW (As := []) (rest := []) ⟨hx, hb, hml, hown, hg⟩ (x_3_begin l r f B12 g tx tt hT hI hG   ) (cwV 0 hg (kgV wt4_236 wt4_237 wt4_238 wt1_10 wt4_239) rfl rfl rfl (by decide +kernel) ⟨by decide, by decide⟩) hV hK hP hD hS hA (58) 3 rfl rfl rfl hl.1 rfl (Nat.le_of_ble_eq_true rfl) dX3_run_56 ⟨Nat.le_refl _, Nat.le_refl _⟩ (fun u21 H locs hw19 hP hD hS => ?_)
              obtain ⟨f22, a23, g24⟩ := u21
              have hP : va_P D vwCl (xX K r f22 a23 g24 tx) H := hP
              have hD : va_D A (xX K r f22 a23 g24 tx) := hD
              have hI : xI f22 a23 := hw19.1
              have hG : gOK K g24.2 tt := hw19.2.1
              have eE25 : xEk ([1888, 1894, 1900, 1905, 1906], [60, 61, 62, 63, 64, 65, 66, 67, 68, 69, 70, 71, 72], [73]) f B12 g f22 a23 g24 := hw19.2.2
              have hE : xEk ([1888, 1894, 1900, 1905, 1906], [60, 61, 62, 63, 64, 65, 66, 67, 68, 69, 70, 71, 72, 77, 78, 79, 83], [73]) f a g f22 a23 g24 := xEk_tr hE (xEk_w (by decide +kernel) eE25)
              refine lv_iconst (v := 0) hx hb dX3_run_59 (by decide) ?_
              refine lv_istore (lv' := [(5, .int 0), (0, .ref (r 58)), (1, .int who), (2, .int lim), (3, .ref (r 83)), (4, .int fr)]) hx hb dX3_run_60 hl (by decide) rfl (fun ls hl => ?_)
              have lp30 : ∀ (n31 : Nat) (F27 : Nat → Int32) (B28 : Nat → Nat → Int32) (G29 : xG) (H : Heap) (locs : List Loc) (ls : Array Slot) (y26 : Int32), (2147483647 < y26.toInt + (n31 : Int)) → (xI F27 B28) → (gOK K G29.2 tt) → (xEk ([1888, 1894, 1900, 1905, 1906], [60, 61, 62, 63, 64, 65, 66, 67, 68, 69, 70, 71, 72, 77, 78, 79, 83], [73]) f a g F27 B28 G29) → (kb 0 y26 2147483647) → va_P D vwCl (xX K r F27 B28 G29 tx) H → va_D A (xX K r F27 B28 G29 tx) → va_S A s.heap H locs → lv_has ls 6 [(5, .int y26), (0, .ref (r 58)), (1, .int who), (2, .int lim), (3, .ref (r 83)), (4, .int fr)] → W p l e (rmD 5 0 0) s m ([.ref (r 58), .int who, .int lim, .ref (r 83), .int fr] : List Value).toArray below meth c H locs 0 0 (kQi D (tysK K) (fun v (u : xS) => kb (-2147483648) v 2147483647 ∧ xI u.1 u.2.1 ∧ gOK K u.2.2.2 tt ∧ xEk ([1888, 1894, 1900, 1905, 1906], [60, 61, 62, 63, 64, 65, 66, 67, 68, 69, 70, 71, 72, 77, 78, 79, 83], [73]) f a g u.1 u.2.1 u.2.2) (fun u => xX K r u.1 u.2.1 u.2.2 tx) A below ([.ref (r 58), .int who, .int lim, .ref (r 83), .int fr] : List Value).toArray s 0 0) (F0 m 62 ls []) := by
                intro n31
                induction n31 with
                | zero =>
                  intro  F27 B28 G29  H locs ls y26 hmlp30 hI hG hE b32 hP hD hS hl
                  exact (by have h1 := b32.2; have h2 := hmlp30; omega : False).elim
                | succ n31 ihlp30 =>
                  intro  F27 B28 G29  H locs ls y26 hmlp30 hI hG hE b32 hP hD hS hl
                  refine lv_iload hx hb dX3_run_62 (lv_at hl 0 rfl) ?_
                  refine lv_iload_n hx hb dX3_run_64 rfl (lv_at hl 3 rfl) ?_
                  refine lv_icmp_gt (tgt := 132) hx hb dX3_run_65 (by decide) (fun c33 => ?_) (fun c33 => ?_)
                  · have h34 := (kc_lt c33)
                    have b35 : kb (-2147483648) lim 2147483646 := kr_lt1 h34 (kb_any lim) b32 (by decide)
                    refine lv_iconst (v := (-1)) hx hb dX3_run_132 (by decide) ?_
                    exact kI_ret (v := (-1)) hx hb hr hlocks rfl hK hS dX3_run_133 (F27, B28, G29) hP hD ⟨(kb_w kc_m1 (by decide) (by decide)), hI, hG, hE⟩
                  · have h36 := (kc_nlt c33)
                    have b37 : kb 0 lim 2147483647 := kr_le2 h36 b32 (kb_any lim)
                    refine lv_aload_n hx hb dX3_run_68 rfl (lv_at hl 1 rfl) ?_
                    refine lv_iload hx hb dX3_run_69 (lv_at hl 0 rfl) ?_
                    refine lv_aload_n hx hb dX3_run_71 rfl (lv_at hl 4 rfl) ?_
                    refine lv_iload hx hb dX3_run_72 (lv_at hl 5 rfl) ?_
                    refine kIG.callW (As := [.int y26, .ref (r 83), .int fr]) (rest := []) ⟨hx, hb, hml, hown, hg⟩ (x_3_noteStandingS l r F27 B28 G29 tx tt hT hI hG y26 fr bfr ) (cwV 3 hg (kgV wt5_3 wt5_5 wp2_14 wt1_10 wt5_6) rfl rfl rfl (by decide +kernel) ⟨by decide, by decide⟩) hV hK hP hD hS hA (58) 3 rfl rfl rfl hl.1 rfl (Nat.le_of_ble_eq_true rfl) dX3_run_74 ⟨Nat.le_refl _, Nat.le_refl _⟩ (fun v39 u40 H locs hw38 hP hD hS => ?_)
                    obtain ⟨f41, a42, g43⟩ := u40
                    have hP : va_P D vwCl (xX K r f41 a42 g43 tx) H := hP
                    have hD : va_D A (xX K r f41 a42 g43 tx) := hD
                    have hI : xI f41 a42 := hw38.2.1
                    have hG : gOK K g43.2 tt := hw38.2.2.1
                    have eE44 : xEk ([], [83], []) F27 B28 G29 f41 a42 g43 := hw38.2.2.2
                    have hE : xEk ([1888, 1894, 1900, 1905, 1906], [60, 61, 62, 63, 64, 65, 66, 67, 68, 69, 70, 71, 72, 77, 78, 79, 83], [73]) f a g f41 a42 g43 := xEk_tr hE (xEk_w (by decide +kernel) eE44)
                    refine lv_if_eq (tgt := 89) hx hb dX3_run_77 (by decide) (fun c45 => ?_) (fun c45 => ?_)
                    · have b46 : kb 0 v39 0 := kb_eq c45 kc_0
                      refine lv_iload hx hb dX3_run_89 (lv_at hl 0 rfl) ?_
                      refine lv_iload_n hx hb dX3_run_91 rfl (lv_at hl 3 rfl) ?_
                      refine lv_icmp_eq (tgt := 102) hx hb dX3_run_92 (by decide) (fun c47 => ?_) (fun c47 => ?_)
                      · refine lv_iconst (v := (-1)) hx hb dX3_run_102 (by decide) ?_
                        exact kI_ret (v := (-1)) hx hb hr hlocks rfl hK hS dX3_run_103 (f41, a42, g43) hP hD ⟨(kb_w kc_m1 (by decide) (by decide)), hI, hG, hE⟩
                      · refine lv_aload_n hx hb dX3_run_95 rfl (lv_at hl 1 rfl) ?_
                        refine kIG.callW (As := []) (rest := []) ⟨hx, hb, hml, hown, hg⟩ (x_3_canTick l r f41 a42 g43 tx tt hT hI hG   ) (cwV 0 hg (kgV wt5_7 wt5_8 wt5_9 wt1_10 wt5_10) rfl rfl rfl (by decide +kernel) ⟨by decide, by decide⟩) hV hK hP hD hS hA (58) 3 rfl rfl rfl hl.1 rfl (Nat.le_of_ble_eq_true rfl) dX3_run_96 ⟨Nat.le_refl _, Nat.le_refl _⟩ (fun v49 u50 H locs hw48 hP hD hS => ?_)
                        have hP : va_P D vwCl (xX K r f41 a42 g43 tx) H := hP
                        have hD : va_D A (xX K r f41 a42 g43 tx) := hD
                        refine lv_if_ne (tgt := 104) hx hb dX3_run_99 (by decide) (fun c51 => ?_) (fun c51 => ?_)
                        · have b52 : kb 1 v49 1 := kr_nel c51 hw48 kc_0 (by decide)
                          refine lv_aload_n hx hb dX3_run_104 rfl (lv_at hl 1 rfl) ?_
                          refine lv_iload_n hx hb dX3_run_105 rfl (lv_at hl 2 rfl) ?_
                          refine kVG.callW (As := [.int who]) (rest := []) ⟨hx, hb, hml, hown, hg⟩ (x_3_sendFree l r f41 a42 g43 tx tt hT hI hG who  ) (cwV 1 hg (kgV wt5_11 wt5_12 wt5_13 wt1_10 wt5_14) rfl rfl rfl (by decide +kernel) ⟨by decide, by decide⟩) hV hK hP hD hS hA (58) 3 rfl rfl rfl hl.1 rfl (Nat.le_of_ble_eq_true rfl) dX3_run_106 ⟨Nat.le_refl _, Nat.le_refl _⟩ (fun u55 H locs hw53 hP hD hS => ?_)
                          obtain ⟨f56, a57, g58⟩ := u55
                          have hP : va_P D vwCl (xX K r f56 a57 g58 tx) H := hP
                          have hD : va_D A (xX K r f56 a57 g58 tx) := hD
                          have hI : xI f56 a57 := hw53.1
                          have hG : gOK K g58.2 tt := hw53.2.1
                          have eE59 : xEk ([], [68, 79], []) f41 a42 g43 f56 a57 g58 := hw53.2.2
                          have hE : xEk ([1888, 1894, 1900, 1905, 1906], [60, 61, 62, 63, 64, 65, 66, 67, 68, 69, 70, 71, 72, 77, 78, 79, 83], [73]) f a g f56 a57 g58 := xEk_tr hE (xEk_w (by decide +kernel) eE59)
                          refine lv_aload_n hx hb dX3_run_109 rfl (lv_at hl 1 rfl) ?_
                          refine kIG.callW (As := []) (rest := []) ⟨hx, hb, hml, hown, hg⟩ (x_3_isStuck l r f56 a57 g58 tx tt hT hI hG   ) (cwV 0 hg (kgV wt5_18 wt5_20 wp2_15 wt1_10 wt5_21) rfl rfl rfl (by decide +kernel) ⟨by decide, by decide⟩) hV hK hP hD hS hA (58) 3 rfl rfl rfl hl.1 rfl (Nat.le_of_ble_eq_true rfl) dX3_run_110 ⟨Nat.le_refl _, Nat.le_refl _⟩ (fun v61 u62 H locs hw60 hP hD hS => ?_)
                          have hP : va_P D vwCl (xX K r f56 a57 g58 tx) H := hP
                          have hD : va_D A (xX K r f56 a57 g58 tx) := hD
                          refine lv_if_eq (tgt := 118) hx hb dX3_run_113 (by decide) (fun c63 => ?_) (fun c63 => ?_)
                          · have b64 : kb 0 v61 0 := kb_eq c63 kc_0
                            refine lv_aload_n hx hb dX3_run_118 rfl (lv_at hl 1 rfl) ?_
                            refine va_get (D := D) (ci := 3) (v := .ref (r 59)) (C := RX3) (T := TX3) (N := 4) hx hb hg inC3 hown hK hP 58 rfl rfl 0 (by decide) (hg _ wt2_95) (fun _ h9 => h9) rfl dX3_run_119 ?_
                            refine kIG.callW (As := []) (rest := []) ⟨hx, hb, hml, hown, hg⟩ (x_7_workOneTickP l r f56 a57 g58 tx tt hT hI hG   ) (cwV 0 hg (kgV wt5_22 wt4_143 wt4_144 wt1_2 wt4_145) rfl rfl rfl (by decide +kernel) ⟨by decide, by decide⟩) hV hK hP hD hS hA (59) 7 rfl rfl rfl hl.1 rfl (Nat.le_of_ble_eq_true rfl) dX3_run_122 ⟨Nat.le_refl _, Nat.le_refl _⟩ (fun v66 u67 H locs hw65 hP hD hS => ?_)
                            obtain ⟨f68, a69, g70⟩ := u67
                            have hP : va_P D vwCl (xX K r f68 a69 g70 tx) H := hP
                            have hD : va_D A (xX K r f68 a69 g70 tx) := hD
                            have hI : xI f68 a69 := hw65.2.1
                            have hG : gOK K g70.2 tt := hw65.2.2.1
                            have eE71 : xEk ([], [64, 67, 68, 69, 77, 78], []) f56 a57 g58 f68 a69 g70 := hw65.2.2.2
                            have hE : xEk ([1888, 1894, 1900, 1905, 1906], [60, 61, 62, 63, 64, 65, 66, 67, 68, 69, 70, 71, 72, 77, 78, 79, 83], [73]) f a g f68 a69 g70 := xEk_tr hE (xEk_w (by decide +kernel) eE71)
                            refine lv_pop hx hb dX3_run_125 rfl ?_
                            have b72 : kb 0 y26 2147483646 := ⟨(b32).1, by have w1 : y26.toInt ≠ lim.toInt := (fun q => c47 (Int32.toInt_inj.mp q)); have w2 := (b37).2; omega⟩
                            obtain ⟨t73, et73⟩ : ∃ z : Int32, z = y26 + Int32.ofInt 1 := ⟨_, rfl⟩
                            have qt73 : t73.toInt = y26.toInt + 1 := by rw [et73]; exact km_inc b72 (by decide) (by decide)
                            have b74 : kb 1 t73 2147483647 := kb_inc (k := 1) qt73 b72
                            refine lv_iinc (v := t73) (lv' := [(5, .int t73), (0, .ref (r 58)), (1, .int who), (2, .int lim), (3, .ref (r 83)), (4, .int fr)]) hx hb dX3_run_126 hl (k := 0) rfl et73.symm (by decide) rfl (fun ls hl => ?_)
                            refine lv_goto (tgt := 62) hx hb dX3_run_129 (by decide) ?_
                            exact ihlp30  f68 a69 g70 _ _ _ t73 (km_up hmlp30 qt73) hI hG hE (kb_w b74 (by decide) (by decide)) hP hD hS (lv_sub hl [0, 1, 2, 3, 4, 5] rfl)
                          · have b75 : kb 1 v61 1 := kr_nel c63 hw60 kc_0 (by decide)
                            refine lv_iconst (v := (-1)) hx hb dX3_run_116 (by decide) ?_
                            exact kI_ret (v := (-1)) hx hb hr hlocks rfl hK hS dX3_run_117 (f56, a57, g58) hP hD ⟨(kb_w kc_m1 (by decide) (by decide)), hI, hG, hE⟩
                        · have b76 : kb 0 v49 0 := kb_eq c51 kc_0
                          refine lv_iconst (v := (-1)) hx hb dX3_run_102 (by decide) ?_
                          exact kI_ret (v := (-1)) hx hb hr hlocks rfl hK hS dX3_run_103 (f41, a42, g43) hP hD ⟨(kb_w kc_m1 (by decide) (by decide)), hI, hG, hE⟩
                    · have b77 : kb 1 v39 1 := kr_nel c45 hw38.1 kc_0 (by decide)
                      refine lv_aload_n hx hb dX3_run_80 rfl (lv_at hl 4 rfl) ?_
                      refine lv_iload hx hb dX3_run_81 (lv_at hl 5 rfl) ?_
                      refine lv_iload hx hb dX3_run_83 (lv_at hl 0 rfl) ?_
                      refine va_iast hx hb hK hP hD hS 83 0 rfl rfl (kb_in bfr (by decide) (by decide)) dX3_run_85 (fun H locs hP hD hS => ?_)
                      have hP : va_P D vwCl (xX K r f41 (va_up a42 83 (upd (a42 83) fr.toNatClampNeg y26)) g43 tx) H := hP
                      have hD : va_D A (xX K r f41 (va_up a42 83 (upd (a42 83) fr.toNatClampNeg y26)) g43 tx) := hD
                      refine k_gen (P := fun z => va_P D vwCl (xX K r f41 z g43 tx) H ∧ va_D A (xX K r f41 z g43 tx) ∧ (xI f41 z) ∧ (gOK K g43.2 tt) ∧ (xEk ([1888, 1894, 1900, 1905, 1906], [60, 61, 62, 63, 64, 65, 66, 67, 68, 69, 70, 71, 72, 77, 78, 79, 83], [73]) f a g f41 z g43)) (va_up a42 83 (upd (a42 83) fr.toNatClampNeg y26)) ⟨hP, hD, (xI_a hI (by decide)), hG, (xEk_a hE rfl)⟩ (fun a_78 ea_78 hq => ?_)
                      obtain ⟨hP, hD, hI, hG, hE⟩ := hq
                      refine lv_iload hx hb dX3_run_86 (lv_at hl 0 rfl) ?_
                      exact kI_ret (v := y26) hx hb hr hlocks rfl hK hS dX3_run_88 (f41, a_78, g43) hP hD ⟨(kb_w b32 (by decide) (by decide)), hI, hG, hE⟩
              exact lp30 (2147483648)  f22 a23 g24 _ _ _ 0 (by have h1 := (kc_0); unfold kb at h1; omega) hI hG hE (kb_w kc_0 (by decide) (by decide)) hP hD hS (lv_sub hl [0, 1, 2, 3, 4, 5] rfl)
            · have h79 := (kc_nle c16)
              have b80 : kb 0 y11 10 := kr_lt1 h79 b15 kc_11 (by decide)
              refine lv_aload_n hx hb dX3_run_41 rfl (lv_at hl 4 rfl) ?_
              refine lv_iload hx hb dX3_run_42 (lv_at hl 5 rfl) ?_
              refine lv_iload hx hb dX3_run_44 (lv_at hl 0 rfl) ?_
              refine lv_iadd hx hb dX3_run_46 ?_
              refine lv_topi (fun t81 et81 => ?_)
              have b82 : kb 0 t81 703 := kb_eq et81 (kb_add bfr b80 (by decide) (by decide))
              have qt81 : t81.toInt = fr.toInt + y11.toInt := by rw [et81]; exact kt_add bfr b80 (by decide) (by decide)
              refine lv_iconst (v := (-1)) hx hb dX3_run_47 (by decide) ?_
              refine va_iast hx hb hK hP hD hS 83 0 rfl rfl (kb_in b82 (by decide) (by decide)) dX3_run_48 (fun H locs hP hD hS => ?_)
              have hP : va_P D vwCl (xX K r f (va_up B12 83 (upd (B12 83) t81.toNatClampNeg (-1))) g tx) H := hP
              have hD : va_D A (xX K r f (va_up B12 83 (upd (B12 83) t81.toNatClampNeg (-1))) g tx) := hD
              refine k_gen (P := fun z => va_P D vwCl (xX K r f z g tx) H ∧ va_D A (xX K r f z g tx) ∧ (xI f z) ∧ (gOK K g.2 tt) ∧ (xEk ([1888, 1894, 1900, 1905, 1906], [60, 61, 62, 63, 64, 65, 66, 67, 68, 69, 70, 71, 72, 77, 78, 79, 83], [73]) f a g f z g)) (va_up B12 83 (upd (B12 83) t81.toNatClampNeg (-1))) ⟨hP, hD, (xI_a hI (by decide)), hG, (xEk_a hE rfl)⟩ (fun a_83 ea_83 hq => ?_)
              obtain ⟨hP, hD, hI, hG, hE⟩ := hq
              obtain ⟨t84, et84⟩ : ∃ z : Int32, z = y11 + Int32.ofInt 1 := ⟨_, rfl⟩
              have qt84 : t84.toInt = y11.toInt + 1 := by rw [et84]; exact km_inc b80 (by decide) (by decide)
              have b85 : kb 1 t84 11 := kb_inc (k := 1) qt84 b80
              refine lv_iinc (v := t84) (lv' := [(5, .int t84), (0, .ref (r 58)), (1, .int who), (2, .int lim), (3, .ref (r 83)), (4, .int fr)]) hx hb dX3_run_49 hl (k := 0) rfl et84.symm (by decide) rfl (fun ls hl => ?_)
              refine lv_goto (tgt := 34) hx hb dX3_run_52 (by decide) ?_
              exact ihlp13  a_83 _ _ _ t84 (km_up hmlp13 qt84) hI hG hE (kb_w b85 (by decide) (by decide)) hP hD hS (lv_sub hl [0, 1, 2, 3, 4, 5] rfl)
        exact lp13 (12)  a _ _ _ 0 (by have h1 := (kc_0); unfold kb at h1; omega) hI hG hE (kb_w kc_0 (by decide) (by decide)) hP hD hS (lv_sub hl [0, 1, 2, 3, 4, 5] rfl)
      · refine lv_aload_n hx hb dX3_run_26 rfl (lv_at hl 3 rfl) ?_
        refine lv_iload hx hb dX3_run_27 (lv_at hl 4 rfl) ?_
        refine va_iald hx hb hK hP 83 0 rfl rfl (kb_in bfr (by decide) (by decide)) dX3_run_29 ?_
        refine k_top (z := t8) et8.symm ?_
        exact kI_ret (v := t8) hx hb hr hlocks rfl hK hS dX3_run_30 (f, a, g) hP hD ⟨(kb_any t8), hI, hG, hE⟩
    · have h86 := (kc_nle c6)
      exact kb_no (kr_lt1 h86 kc_704 b5 (H := 703) (by decide)) (by decide)
set_option maxHeartbeats 4000000 in
set_option maxRecDepth 100000 in
theorem x_3_chanceUnseen  (l : Launch) {D : va_G} {K : Nat → ClassId} (r : Nat → Nat) (f : Nat → Int32) (a : Nat → Nat → Int32) (g : xG) (tx tt : va_W) (hT : ∀ c ∈ tt, c ∈ tx) (hI : xI f a) (hG : gOK K g.2 tt) (n_ : Int32) (bn_ : kb 0 n_ 99)   : kLG l yX3_chanceUnseen (Cond.code yX3_chanceUnseen cX3_chanceUnseen 6 (some .long) :: kG) (rmD 5 0 0) D K [.ref (r 58), .int n_] (xX K r f a g tx) (fun v (u : xS) => kbl (-9223372036854775808) v 9223372036854775807 ∧ xI u.1 u.2.1 ∧ gOK K u.2.2.2 tt ∧ xEk ([1888, 1894, 1900, 1905, 1906], [60, 61, 62, 63, 64, 65, 66, 67, 68, 69, 70, 71, 72, 77, 78, 79], [73]) f a g u.1 u.2.1 u.2.2) (fun u => xX K r u.1 u.2.1 u.2.2 tx) 0 0 := by
  refine kLG.of (cc := cX3_chanceUnseen) (maxL := 6) (ret := (some .long)) (by decide) rfl (Nat.le_of_ble_eq_true rfl) ?_
  intro p e s m below meth c A hx hb hr hml hown hts hlocks hnm hK hP hD hS hA hV ls hl
  have hE : xEk ([1888, 1894, 1900, 1905, 1906], [60, 61, 62, 63, 64, 65, 66, 67, 68, 69, 70, 71, 72, 77, 78, 79], [73]) f a g f a g := xEk_rf
  have hg : ∀ w ∈ kG, w.before _ s = true := fun w h => hts w (List.mem_cons_of_mem _ h)
  have hown : s.vm.findClass RX3 = some m.cls := hown
  have hl : lv_has ls 6 [(0, .ref (r 58)), (1, .int n_)] := hl
  refine lv_aload_n hx hb dX3_chanceUnseen_0 rfl (lv_at hl 0 rfl) ?_
  refine kVG.callW (As := []) (rest := []) ⟨hx, hb, hml, hown, hg⟩ (x_3_begin l r f a g tx tt hT hI hG   ) (cwV 0 hg (kgV wt4_236 wt4_237 wt4_238 wt1_10 wt4_239) rfl rfl rfl (by decide +kernel) ⟨by decide, by decide⟩) hV hK hP hD hS hA (58) 3 rfl rfl rfl hl.1 rfl (Nat.le_of_ble_eq_true rfl) dX3_chanceUnseen_1 ⟨Nat.le_refl _, Nat.le_refl _⟩ (fun u3 H locs hw1 hP hD hS => ?_)
  obtain ⟨f4, a5, g6⟩ := u3
  have hP : va_P D vwCl (xX K r f4 a5 g6 tx) H := hP
  have hD : va_D A (xX K r f4 a5 g6 tx) := hD
  have hI : xI f4 a5 := hw1.1
  have hG : gOK K g6.2 tt := hw1.2.1
  have eE7 : xEk ([1888, 1894, 1900, 1905, 1906], [60, 61, 62, 63, 64, 65, 66, 67, 68, 69, 70, 71, 72], [73]) f a g f4 a5 g6 := hw1.2.2
  have hE : xEk ([1888, 1894, 1900, 1905, 1906], [60, 61, 62, 63, 64, 65, 66, 67, 68, 69, 70, 71, 72, 77, 78, 79], [73]) f a g f4 a5 g6 := xEk_tr hE (xEk_w (by decide +kernel) eE7)
  refine lv_ldc2 (v := (1000000000000)) hx hb hown (hg _ wt5_69) dX3_chanceUnseen_4 ?_
  refine lv_lstore_n (lv' := [(2, .long (1000000000000)), (0, .ref (r 58)), (1, .int n_)]) hx hb dX3_chanceUnseen_7 rfl hl (by decide) rfl (fun ls hl => ?_)
  refine lv_iconst (v := 0) hx hb dX3_chanceUnseen_8 (by decide) ?_
  refine lv_istore (lv' := [(4, .int 0), (2, .long (1000000000000)), (0, .ref (r 58)), (1, .int n_)]) hx hb dX3_chanceUnseen_9 hl (by decide) rfl (fun ls hl => ?_)
  have lp13 : ∀ (n14 : Nat) (F10 : Nat → Int32) (B11 : Nat → Nat → Int32) (G12 : xG) (H : Heap) (locs : List Loc) (ls : Array Slot) (y8 : Int32) (y9 : Int64), (99 < y8.toInt + (n14 : Int)) → (xI F10 B11) → (gOK K G12.2 tt) → (xEk ([1888, 1894, 1900, 1905, 1906], [60, 61, 62, 63, 64, 65, 66, 67, 68, 69, 70, 71, 72, 77, 78, 79], [73]) f a g F10 B11 G12) → (kb 0 y8 99) → va_P D vwCl (xX K r F10 B11 G12 tx) H → va_D A (xX K r F10 B11 G12 tx) → va_S A s.heap H locs → lv_has ls 6 [(4, .int y8), (2, .long y9), (0, .ref (r 58)), (1, .int n_)] → W p l e (rmD 5 0 0) s m ([.ref (r 58), .int n_] : List Value).toArray below meth c H locs 0 0 (kQl D (tysK K) (fun v (u : xS) => kbl (-9223372036854775808) v 9223372036854775807 ∧ xI u.1 u.2.1 ∧ gOK K u.2.2.2 tt ∧ xEk ([1888, 1894, 1900, 1905, 1906], [60, 61, 62, 63, 64, 65, 66, 67, 68, 69, 70, 71, 72, 77, 78, 79], [73]) f a g u.1 u.2.1 u.2.2) (fun u => xX K r u.1 u.2.1 u.2.2 tx) A below ([.ref (r 58), .int n_] : List Value).toArray s 0 0) (F0 m 11 ls []) := by
    intro n14
    induction n14 with
    | zero =>
      intro  F10 B11 G12  H locs ls y8 y9 hmlp13 hI hG hE b15 hP hD hS hl
      exact (by have h1 := b15.2; have h2 := hmlp13; omega : False).elim
    | succ n14 ihlp13 =>
      intro  F10 B11 G12  H locs ls y8 y9 hmlp13 hI hG hE b15 hP hD hS hl
      refine lv_iload hx hb dX3_chanceUnseen_11 (lv_at hl 0 rfl) ?_
      refine lv_iload_n hx hb dX3_chanceUnseen_13 rfl (lv_at hl 3 rfl) ?_
      refine lv_icmp_ge (tgt := 130) hx hb dX3_chanceUnseen_14 (by decide) (fun c16 => ?_) (fun c16 => ?_)
      · have h17 := (kc_le c16)
        refine lv_lload_n hx hb dX3_chanceUnseen_130 rfl (lv_at hl 1 rfl) ?_
        exact kL_ret (v := y9) hx hb hr hlocks hK hS dX3_chanceUnseen_131 (F10, B11, G12) hP hD ⟨(kbl_any y9), hI, hG, hE⟩
      · have h18 := (kc_nle c16)
        have b19 : kb 0 y8 98 := kr_lt1 h18 b15 bn_ (by decide)
        have b20 : kb 1 n_ 99 := kr_lt2 h18 b15 bn_ (by decide)
        refine lv_aload_n hx hb dX3_chanceUnseen_17 rfl (lv_at hl 2 rfl) ?_
        refine kIG.callW (As := []) (rest := []) ⟨hx, hb, hml, hown, hg⟩ (x_3_canTick l r F10 B11 G12 tx tt hT hI hG   ) (cwV 0 hg (kgV wt5_7 wt5_8 wt5_9 wt1_10 wt5_10) rfl rfl rfl (by decide +kernel) ⟨by decide, by decide⟩) hV hK hP hD hS hA (58) 3 rfl rfl rfl hl.1 rfl (Nat.le_of_ble_eq_true rfl) dX3_chanceUnseen_18 ⟨Nat.le_refl _, Nat.le_refl _⟩ (fun v22 u23 H locs hw21 hP hD hS => ?_)
        have hP : va_P D vwCl (xX K r F10 B11 G12 tx) H := hP
        have hD : va_D A (xX K r F10 B11 G12 tx) := hD
        refine lv_if_eq (tgt := 130) hx hb dX3_chanceUnseen_21 (by decide) (fun c24 => ?_) (fun c24 => ?_)
        · have b25 : kb 0 v22 0 := kb_eq c24 kc_0
          refine lv_lload_n hx hb dX3_chanceUnseen_130 rfl (lv_at hl 1 rfl) ?_
          exact kL_ret (v := y9) hx hb hr hlocks hK hS dX3_chanceUnseen_131 (F10, B11, G12) hP hD ⟨(kbl_any y9), hI, hG, hE⟩
        · have b26 : kb 1 v22 1 := kr_nel c24 hw21 kc_0 (by decide)
          refine lv_aload_n hx hb dX3_chanceUnseen_24 rfl (lv_at hl 2 rfl) ?_
          refine kIG.callW (As := []) (rest := []) ⟨hx, hb, hml, hown, hg⟩ (x_3_allStand l r F10 B11 G12 tx tt hT hI hG   ) (cwV 0 hg (kgV wt5_70 wt5_71 wt5_72 wt1_10 wt5_73) rfl rfl rfl (by decide +kernel) ⟨by decide, by decide⟩) hV hK hP hD hS hA (58) 3 rfl rfl rfl hl.1 rfl (Nat.le_of_ble_eq_true rfl) dX3_chanceUnseen_25 ⟨Nat.le_refl _, Nat.le_refl _⟩ (fun v28 u29 H locs hw27 hP hD hS => ?_)
          have hP : va_P D vwCl (xX K r F10 B11 G12 tx) H := hP
          have hD : va_D A (xX K r F10 B11 G12 tx) := hD
          refine lv_if_ne (tgt := 130) hx hb dX3_chanceUnseen_28 (by decide) (fun c30 => ?_) (fun c30 => ?_)
          · have b31 : kb 1 v28 1 := kr_nel c30 hw27 kc_0 (by decide)
            refine lv_lload_n hx hb dX3_chanceUnseen_130 rfl (lv_at hl 1 rfl) ?_
            exact kL_ret (v := y9) hx hb hr hlocks hK hS dX3_chanceUnseen_131 (F10, B11, G12) hP hD ⟨(kbl_any y9), hI, hG, hE⟩
          · have b32 : kb 0 v28 0 := kb_eq c30 kc_0
            refine lv_aload_n hx hb dX3_chanceUnseen_31 rfl (lv_at hl 2 rfl) ?_
            refine lv_bipush (v := 63) hx hb dX3_chanceUnseen_32 (by decide) ?_
            refine kVG.callW (As := [.int 63]) (rest := []) ⟨hx, hb, hml, hown, hg⟩ (x_3_sendFree l r F10 B11 G12 tx tt hT hI hG 63  ) (cwV 1 hg (kgV wt5_11 wt5_12 wt5_13 wt1_10 wt5_14) rfl rfl rfl (by decide +kernel) ⟨by decide, by decide⟩) hV hK hP hD hS hA (58) 3 rfl rfl rfl hl.1 rfl (Nat.le_of_ble_eq_true rfl) dX3_chanceUnseen_34 ⟨Nat.le_refl _, Nat.le_refl _⟩ (fun u35 H locs hw33 hP hD hS => ?_)
            obtain ⟨f36, a37, g38⟩ := u35
            have hP : va_P D vwCl (xX K r f36 a37 g38 tx) H := hP
            have hD : va_D A (xX K r f36 a37 g38 tx) := hD
            have hI : xI f36 a37 := hw33.1
            have hG : gOK K g38.2 tt := hw33.2.1
            have eE39 : xEk ([], [68, 79], []) F10 B11 G12 f36 a37 g38 := hw33.2.2
            have hE : xEk ([1888, 1894, 1900, 1905, 1906], [60, 61, 62, 63, 64, 65, 66, 67, 68, 69, 70, 71, 72, 77, 78, 79], [73]) f a g f36 a37 g38 := xEk_tr hE (xEk_w (by decide +kernel) eE39)
            refine lv_iconst (v := 0) hx hb dX3_chanceUnseen_37 (by decide) ?_
            refine lv_istore (lv' := [(5, .int 0), (4, .int y8), (2, .long y9), (0, .ref (r 58)), (1, .int n_)]) hx hb dX3_chanceUnseen_38 hl (by decide) rfl (fun ls hl => ?_)
            have lp45 : ∀ (n46 : Nat) (F42 : Nat → Int32) (B43 : Nat → Nat → Int32) (G44 : xG) (H : Heap) (locs : List Loc) (ls : Array Slot) (y40 : Int32) (y41 : Int64), (6 < y40.toInt + (n46 : Int)) → (xI F42 B43) → (gOK K G44.2 tt) → (xEk ([1888, 1894, 1900, 1905, 1906], [60, 61, 62, 63, 64, 65, 66, 67, 68, 69, 70, 71, 72, 77, 78, 79], [73]) f a g F42 B43 G44) → (kb 0 y40 6) → va_P D vwCl (xX K r F42 B43 G44 tx) H → va_D A (xX K r F42 B43 G44 tx) → va_S A s.heap H locs → lv_has ls 6 [(5, .int y40), (4, .int y8), (2, .long y41), (0, .ref (r 58)), (1, .int n_)] → W p l e (rmD 5 0 0) s m ([.ref (r 58), .int n_] : List Value).toArray below meth c H locs 0 0 (kQl D (tysK K) (fun v (u : xS) => kbl (-9223372036854775808) v 9223372036854775807 ∧ xI u.1 u.2.1 ∧ gOK K u.2.2.2 tt ∧ xEk ([1888, 1894, 1900, 1905, 1906], [60, 61, 62, 63, 64, 65, 66, 67, 68, 69, 70, 71, 72, 77, 78, 79], [73]) f a g u.1 u.2.1 u.2.2) (fun u => xX K r u.1 u.2.1 u.2.2 tx) A below ([.ref (r 58), .int n_] : List Value).toArray s 0 0) (F0 m 40 ls []) := by
              intro n46
              induction n46 with
              | zero =>
                intro  F42 B43 G44  H locs ls y40 y41 hmlp45 hI hG hE b47 hP hD hS hl
                exact (by have h1 := b47.2; have h2 := hmlp45; omega : False).elim
              | succ n46 ihlp45 =>
                intro  F42 B43 G44  H locs ls y40 y41 hmlp45 hI hG hE b47 hP hD hS hl
                refine lv_iload hx hb dX3_chanceUnseen_40 (lv_at hl 0 rfl) ?_
                refine lv_aload_n hx hb dX3_chanceUnseen_42 rfl (lv_at hl 3 rfl) ?_
                refine va_get (D := D) (ci := 3) (v := .ref (r 59)) (C := RX3) (T := TX3) (N := 4) hx hb hg inC3 hown hK hP 58 rfl rfl 0 (by decide) (hg _ wt2_95) (fun _ h9 => h9) rfl dX3_chanceUnseen_43 ?_
                refine va_get (D := D) (ci := 7) (v := .int (F42 1894)) (C := RX7) (T := TX7) (N := 20) hx hb hg inC7 hown hK hP 59 rfl rfl 6 (by decide) (hg _ wt1_106) (fun _ h9 => h9) rfl dX3_chanceUnseen_46 ?_
                refine lv_topi (fun t48 et48 => ?_)
                have jn100 : ∀ (H : Heap) (locs : List Loc) (ls : Array Slot), va_P D vwCl (xX K r F42 B43 G44 tx) H → va_D A (xX K r F42 B43 G44 tx) → va_S A s.heap H locs → lv_has ls 6 [(5, .int y40), (4, .int y8), (2, .long y41), (0, .ref (r 58)), (1, .int n_)] → W p l e (rmD 5 0 0) s m ([.ref (r 58), .int n_] : List Value).toArray below meth c H locs 0 0 (kQl D (tysK K) (fun v (u : xS) => kbl (-9223372036854775808) v 9223372036854775807 ∧ xI u.1 u.2.1 ∧ gOK K u.2.2.2 tt ∧ xEk ([1888, 1894, 1900, 1905, 1906], [60, 61, 62, 63, 64, 65, 66, 67, 68, 69, 70, 71, 72, 77, 78, 79], [73]) f a g u.1 u.2.1 u.2.2) (fun u => xX K r u.1 u.2.1 u.2.2 tx) A below ([.ref (r 58), .int n_] : List Value).toArray s 0 0) (F0 m 116 ls []) := by
                  intro  H locs ls   hP hD hS hl
                  refine lv_aload_n hx hb dX3_chanceUnseen_116 rfl (lv_at hl 3 rfl) ?_
                  refine va_get (D := D) (ci := 3) (v := .ref (r 59)) (C := RX3) (T := TX3) (N := 4) hx hb hg inC3 hown hK hP 58 rfl rfl 0 (by decide) (hg _ wt2_95) (fun _ h9 => h9) rfl dX3_chanceUnseen_117 ?_
                  refine kIG.callW (As := []) (rest := []) ⟨hx, hb, hml, hown, hg⟩ (x_7_workOneTickP l r F42 B43 G44 tx tt hT hI hG   ) (cwV 0 hg (kgV wt5_22 wt4_143 wt4_144 wt1_2 wt4_145) rfl rfl rfl (by decide +kernel) ⟨by decide, by decide⟩) hV hK hP hD hS hA (59) 7 rfl rfl rfl hl.1 rfl (Nat.le_of_ble_eq_true rfl) dX3_chanceUnseen_120 ⟨Nat.le_refl _, Nat.le_refl _⟩ (fun v102 u103 H locs hw101 hP hD hS => ?_)
                  obtain ⟨f104, a105, g106⟩ := u103
                  have hP : va_P D vwCl (xX K r f104 a105 g106 tx) H := hP
                  have hD : va_D A (xX K r f104 a105 g106 tx) := hD
                  have hI : xI f104 a105 := hw101.2.1
                  have hG : gOK K g106.2 tt := hw101.2.2.1
                  have eE107 : xEk ([], [64, 67, 68, 69, 77, 78], []) F42 B43 G44 f104 a105 g106 := hw101.2.2.2
                  have hE : xEk ([1888, 1894, 1900, 1905, 1906], [60, 61, 62, 63, 64, 65, 66, 67, 68, 69, 70, 71, 72, 77, 78, 79], [73]) f a g f104 a105 g106 := xEk_tr hE (xEk_w (by decide +kernel) eE107)
                  refine lv_pop hx hb dX3_chanceUnseen_123 rfl ?_
                  obtain ⟨t108, et108⟩ : ∃ z : Int32, z = y8 + Int32.ofInt 1 := ⟨_, rfl⟩
                  have qt108 : t108.toInt = y8.toInt + 1 := by rw [et108]; exact km_inc b19 (by decide) (by decide)
                  have b109 : kb 1 t108 99 := kb_inc (k := 1) qt108 b19
                  refine lv_iinc (v := t108) (lv' := [(4, .int t108), (5, .int y40), (2, .long y41), (0, .ref (r 58)), (1, .int n_)]) hx hb dX3_chanceUnseen_124 hl (k := 1) rfl et108.symm (by decide) rfl (fun ls hl => ?_)
                  refine lv_goto (tgt := 11) hx hb dX3_chanceUnseen_127 (by decide) ?_
                  exact ihlp13  f104 a105 g106 _ _ _ t108 y41 (km_up hmlp13 qt108) hI hG hE (kb_w b109 (by decide) (by decide)) hP hD hS (lv_sub hl [0, 2, 3, 4] rfl)
                refine lv_icmp_ge (tgt := 116) hx hb dX3_chanceUnseen_49 (by decide) (fun c110 => ?_) (fun c110 => ?_)
                · have h111 := (kc_le c110)
                  have b112 : kb (-2147483648) t48 6 := kr_le1 h111 (kb_any t48) b47
                  exact jn100 _ _ _   hP hD hS (lv_sub hl [0, 1, 2, 3, 4] rfl)
                · have h113 := (kc_nle c110)
                  have b114 : kb 1 t48 2147483647 := kr_lt2 h113 b47 (kb_any t48) (by decide)
                  refine lv_iload hx hb dX3_chanceUnseen_52 (lv_at hl 0 rfl) ?_
                  refine lv_bipush (v := 6) hx hb dX3_chanceUnseen_54 (by decide) ?_
                  refine lv_icmp_ge (tgt := 116) hx hb dX3_chanceUnseen_56 (by decide) (fun c115 => ?_) (fun c115 => ?_)
                  · have h116 := (kc_le c115)
                    have b117 : kb 6 y40 6 := kr_le2 h116 kc_6 b47
                    exact jn100 _ _ _   hP hD hS (lv_sub hl [0, 1, 2, 3, 4] rfl)
                  · have h118 := (kc_nle c115)
                    have b119 : kb 0 y40 5 := kr_lt1 h118 b47 kc_6 (by decide)
                    refine lv_aload_n hx hb dX3_chanceUnseen_59 rfl (lv_at hl 3 rfl) ?_
                    refine va_get (D := D) (ci := 3) (v := .ref (r 59)) (C := RX3) (T := TX3) (N := 4) hx hb hg inC3 hown hK hP 58 rfl rfl 0 (by decide) (hg _ wt2_95) (fun _ h9 => h9) rfl dX3_chanceUnseen_60 ?_
                    refine lv_aload_n hx hb dX3_chanceUnseen_63 rfl (lv_at hl 3 rfl) ?_
                    refine va_get (D := D) (ci := 3) (v := .ref (r 59)) (C := RX3) (T := TX3) (N := 4) hx hb hg inC3 hown hK hP 58 rfl rfl 0 (by decide) (hg _ wt2_95) (fun _ h9 => h9) rfl dX3_chanceUnseen_64 ?_
                    refine va_get (D := D) (ci := 7) (v := .ref (r 68)) (C := RX7) (T := TX7) (N := 20) hx hb hg inC7 hown hK hP 59 rfl rfl 10 (by decide) (hg _ wt1_123) (fun _ h9 => h9) rfl dX3_chanceUnseen_67 ?_
                    refine lv_iload hx hb dX3_chanceUnseen_70 (lv_at hl 0 rfl) ?_
                    refine va_iald hx hb hK hP 68 0 rfl rfl (kb_in b119 (by decide) (by decide)) dX3_chanceUnseen_72 ?_
                    refine lv_topi (fun t120 et120 => ?_)
                    refine kIG.callW (As := [.int t120]) (rest := []) ⟨hx, hb, hml, hown, hg⟩ (x_7_hasPartP l r F42 B43 G44 tx tt hT hI hG t120  ) (cwV 1 hg (kgV wt5_75 wt3_36 wt3_37 wt1_2 wt3_38) rfl rfl rfl (by decide +kernel) ⟨by decide, by decide⟩) hV hK hP hD hS hA (59) 7 rfl rfl rfl hl.1 rfl (Nat.le_of_ble_eq_true rfl) dX3_chanceUnseen_73 ⟨Nat.le_refl _, Nat.le_refl _⟩ (fun v122 u123 H locs hw121 hP hD hS => ?_)
                    have hP : va_P D vwCl (xX K r F42 B43 G44 tx) H := hP
                    have hD : va_D A (xX K r F42 B43 G44 tx) := hD
                    have jn143 : ∀ (F140 : Nat → Int32) (B141 : Nat → Nat → Int32) (G142 : xG) (H : Heap) (locs : List Loc) (ls : Array Slot) (y139 : Int64), (xI F140 B141) → (gOK K G142.2 tt) → (xEk ([1888, 1894, 1900, 1905, 1906], [60, 61, 62, 63, 64, 65, 66, 67, 68, 69, 70, 71, 72, 77, 78, 79], [73]) f a g F140 B141 G142) → va_P D vwCl (xX K r F140 B141 G142 tx) H → va_D A (xX K r F140 B141 G142 tx) → va_S A s.heap H locs → lv_has ls 6 [(5, .int y40), (4, .int y8), (2, .long y139), (0, .ref (r 58)), (1, .int n_)] → W p l e (rmD 5 0 0) s m ([.ref (r 58), .int n_] : List Value).toArray below meth c H locs 0 0 (kQl D (tysK K) (fun v (u : xS) => kbl (-9223372036854775808) v 9223372036854775807 ∧ xI u.1 u.2.1 ∧ gOK K u.2.2.2 tt ∧ xEk ([1888, 1894, 1900, 1905, 1906], [60, 61, 62, 63, 64, 65, 66, 67, 68, 69, 70, 71, 72, 77, 78, 79], [73]) f a g u.1 u.2.1 u.2.2) (fun u => xX K r u.1 u.2.1 u.2.2 tx) A below ([.ref (r 58), .int n_] : List Value).toArray s 0 0) (F0 m 110 ls []) := by
                      intro F140 B141 G142  H locs ls y139 hI hG hE hP hD hS hl
                      obtain ⟨t144, et144⟩ : ∃ z : Int32, z = y40 + Int32.ofInt 1 := ⟨_, rfl⟩
                      have qt144 : t144.toInt = y40.toInt + 1 := by rw [et144]; exact km_inc b119 (by decide) (by decide)
                      have b145 : kb 1 t144 6 := kb_inc (k := 1) qt144 b119
                      refine lv_iinc (v := t144) (lv' := [(5, .int t144), (4, .int y8), (2, .long y139), (0, .ref (r 58)), (1, .int n_)]) hx hb dX3_chanceUnseen_110 hl (k := 0) rfl et144.symm (by decide) rfl (fun ls hl => ?_)
                      refine lv_goto (tgt := 40) hx hb dX3_chanceUnseen_113 (by decide) ?_
                      exact ihlp45  F140 B141 G142 _ _ _ t144 y139 (km_up hmlp45 qt144) hI hG hE (kb_w b145 (by decide) (by decide)) hP hD hS (lv_sub hl [0, 1, 2, 3, 4] rfl)
                    refine lv_if_eq (tgt := 110) hx hb dX3_chanceUnseen_76 (by decide) (fun c146 => ?_) (fun c146 => ?_)
                    · have b147 : kb 0 v122 0 := kb_eq c146 kc_0
                      exact jn143 F42 B43 G44 _ _ _ y41 hI hG hE hP hD hS (lv_sub hl [0, 1, 2, 3, 4] rfl)
                    · have b148 : kb 1 v122 1 := kr_nel c146 hw121.1 kc_0 (by decide)
                      have h149 := hw121.2.1 c146
                      have b150 : kb 0 t120 9 := ⟨h149.1, h149.2⟩
                      refine lv_lload_n hx hb dX3_chanceUnseen_79 rfl (lv_at hl 2 rfl) ?_
                      refine lv_bipush (v := 10) hx hb dX3_chanceUnseen_80 (by decide) ?_
                      refine lv_aload_n hx hb dX3_chanceUnseen_82 rfl (lv_at hl 3 rfl) ?_
                      refine va_get (D := D) (ci := 3) (v := .ref (r 59)) (C := RX3) (T := TX3) (N := 4) hx hb hg inC3 hown hK hP 58 rfl rfl 0 (by decide) (hg _ wt2_95) (fun _ h9 => h9) rfl dX3_chanceUnseen_83 ?_
                      refine lv_iconst (v := 2) hx hb dX3_chanceUnseen_86 (by decide) ?_
                      refine lv_iload hx hb dX3_chanceUnseen_87 (lv_at hl 0 rfl) ?_
                      refine lv_aload_n hx hb dX3_chanceUnseen_89 rfl (lv_at hl 3 rfl) ?_
                      refine va_get (D := D) (ci := 3) (v := .ref (r 59)) (C := RX3) (T := TX3) (N := 4) hx hb hg inC3 hown hK hP 58 rfl rfl 0 (by decide) (hg _ wt2_95) (fun _ h9 => h9) rfl dX3_chanceUnseen_90 ?_
                      refine va_get (D := D) (ci := 7) (v := .ref (r 68)) (C := RX7) (T := TX7) (N := 20) hx hb hg inC7 hown hK hP 59 rfl rfl 10 (by decide) (hg _ wt1_123) (fun _ h9 => h9) rfl dX3_chanceUnseen_93 ?_
                      refine lv_iload hx hb dX3_chanceUnseen_96 (lv_at hl 0 rfl) ?_
                      refine va_iald hx hb hK hP 68 0 rfl rfl (kb_in b119 (by decide) (by decide)) dX3_chanceUnseen_98 ?_
                      refine k_top (z := t120) et120.symm ?_
                      refine kIG.callW (As := [.int 2, .int y40, .int t120]) (rest := [.int 10, .long y41]) ⟨hx, hb, hml, hown, hg⟩ (x_7_askedP l r F42 B43 G44 tx tt hT hI hG 2 y40 t120  ) (cwV 3 hg (kgV wt5_17 wt3_78 wt3_79 wt1_2 wt3_80) rfl rfl rfl (by decide +kernel) ⟨by decide, by decide⟩) hV hK hP hD hS hA (59) 7 rfl rfl rfl hl.1 rfl (Nat.le_of_ble_eq_true rfl) dX3_chanceUnseen_99 ⟨Nat.le_refl _, Nat.le_refl _⟩ (fun v152 u153 H locs hw151 hP hD hS => ?_)
                      obtain ⟨f154, a155, g156⟩ := u153
                      have hP : va_P D vwCl (xX K r f154 a155 g156 tx) H := hP
                      have hD : va_D A (xX K r f154 a155 g156 tx) := hD
                      have hI : xI f154 a155 := hw151.2.1
                      have hG : gOK K g156.2 tt := hw151.2.2.1
                      have eE157 : xEk ([], [], []) F42 B43 G44 f154 a155 g156 := hw151.2.2.2
                      have hE : xEk ([1888, 1894, 1900, 1905, 1906], [60, 61, 62, 63, 64, 65, 66, 67, 68, 69, 70, 71, 72, 77, 78, 79], [73]) f a g f154 a155 g156 := xEk_tr hE (xEk_w (by decide +kernel) eE157)
                      refine lv_isub hx hb dX3_chanceUnseen_102 ?_
                      refine lv_topi (fun t158 et158 => ?_)
                      refine lv_i2l hx hb dX3_chanceUnseen_103 rfl ?_
                      refine lv_topl (fun t159 et159 => ?_)
                      refine lv_lmul hx hb dX3_chanceUnseen_104 ?_
                      refine lv_topl (fun t160 et160 => ?_)
                      refine lv_ldc2 (v := (10)) hx hb hown (hg _ wt5_76) dX3_chanceUnseen_105 ?_
                      refine lv_ldiv hx hb dX3_chanceUnseen_108 (by decide +kernel) ?_
                      refine lv_topl (fun t161 et161 => ?_)
                      refine lv_lstore_n (lv' := [(2, .long t161), (5, .int y40), (4, .int y8), (0, .ref (r 58)), (1, .int n_)]) hx hb dX3_chanceUnseen_109 rfl hl (by decide) rfl (fun ls hl => ?_)
                      exact jn143 f154 a155 g156 _ _ _ t161 hI hG hE hP hD hS (lv_sub hl [1, 2, 0, 3, 4] rfl)
            exact lp45 (7)  f36 a37 g38 _ _ _ 0 y9 (by have h1 := (kc_0); unfold kb at h1; omega) hI hG hE (kb_w kc_0 (by decide) (by decide)) hP hD hS (lv_sub hl [0, 1, 2, 3, 4] rfl)
  exact lp13 (100)  f4 a5 g6 _ _ _ 0 (1000000000000) (by have h1 := (kc_0); unfold kb at h1; omega) hI hG hE (kb_w kc_0 (by decide) (by decide)) hP hD hS (lv_sub hl [0, 1, 2, 3] rfl)
