theorem dX0_sendBuilder_0 : decode cX0_sendBuilder 0 = .ok (.aload_n 0, 1) := by decide +kernel
theorem dX0_sendBuilder_1 : decode cX0_sendBuilder 1 = .ok (.getfield 9, 3) := by decide +kernel
theorem dX0_sendBuilder_4 : decode cX0_sendBuilder 4 = .ok (.iload_n 1, 1) := by decide +kernel
theorem dX0_sendBuilder_5 : decode cX0_sendBuilder 5 = .ok (.invokevirtual 19, 3) := by decide +kernel
theorem dX0_sendBuilder_8 : decode cX0_sendBuilder 8 = .ok (.ifCond .eq 14, 3) := by decide +kernel
theorem dX0_sendBuilder_22 : decode cX0_sendBuilder 22 = .ok (.bipush (-2), 2) := by decide +kernel
theorem dX0_sendBuilder_24 : decode cX0_sendBuilder 24 = .ok (.ireturn, 1) := by decide +kernel
theorem dX0_restBuilder_0 : decode cX0_restBuilder 0 = .ok (.aload_n 0, 1) := by decide +kernel
theorem dX0_restBuilder_1 : decode cX0_restBuilder 1 = .ok (.getfield 9, 3) := by decide +kernel
theorem dX0_restBuilder_4 : decode cX0_restBuilder 4 = .ok (.iload_n 1, 1) := by decide +kernel
theorem dX0_restBuilder_5 : decode cX0_restBuilder 5 = .ok (.invokevirtual 19, 3) := by decide +kernel
theorem dX0_restBuilder_8 : decode cX0_restBuilder 8 = .ok (.ifCond .ne 6, 3) := by decide +kernel
theorem dX0_restBuilder_11 : decode cX0_restBuilder 11 = .ok (.bipush (-2), 2) := by decide +kernel
theorem dX0_restBuilder_13 : decode cX0_restBuilder 13 = .ok (.ireturn, 1) := by decide +kernel
theorem dX0_razePart_0 : decode cX0_razePart 0 = .ok (.aload_n 0, 1) := by decide +kernel
theorem dX0_razePart_1 : decode cX0_razePart 1 = .ok (.getfield 9, 3) := by decide +kernel
theorem dX0_razePart_4 : decode cX0_razePart 4 = .ok (.iload_n 1, 1) := by decide +kernel
theorem dX0_razePart_5 : decode cX0_razePart 5 = .ok (.invokevirtual 25, 3) := by decide +kernel
theorem dX0_razePart_8 : decode cX0_razePart 8 = .ok (.ifCond .ne 6, 3) := by decide +kernel
theorem dX0_razePart_11 : decode cX0_razePart 11 = .ok (.bipush (-2), 2) := by decide +kernel
theorem dX0_razePart_13 : decode cX0_razePart 13 = .ok (.ireturn, 1) := by decide +kernel
theorem dX1_endOf_0 : decode cX1_endOf 0 = .ok (.iload_n 2, 1) := by decide +kernel
theorem dX1_endOf_1 : decode cX1_endOf 1 = .ok (.ifCond .ne 28, 3) := by decide +kernel
theorem dX1_endOf_4 : decode cX1_endOf 4 = .ok (.iload_n 1, 1) := by decide +kernel
theorem dX1_endOf_5 : decode cX1_endOf 5 = .ok (.ifCond .lt 24, 3) := by decide +kernel
theorem dX1_endOf_8 : decode cX1_endOf 8 = .ok (.iload_n 1, 1) := by decide +kernel
theorem dX1_endOf_9 : decode cX1_endOf 9 = .ok (.aload_n 0, 1) := by decide +kernel
theorem dX1_endOf_10 : decode cX1_endOf 10 = .ok (.getfield 9, 3) := by decide +kernel
theorem dX1_endOf_13 : decode cX1_endOf 13 = .ok (.if_icmp .ge 16, 3) := by decide +kernel
theorem dX1_endOf_29 : decode cX1_endOf 29 = .ok (.iload_n 2, 1) := by decide +kernel
theorem dX1_endOf_30 : decode cX1_endOf 30 = .ok (.iconst 1, 1) := by decide +kernel
theorem dX1_endOf_31 : decode cX1_endOf 31 = .ok (.if_icmp .ne 30, 3) := by decide +kernel
theorem dX1_endOf_34 : decode cX1_endOf 34 = .ok (.iload_n 1, 1) := by decide +kernel
theorem dX1_endOf_35 : decode cX1_endOf 35 = .ok (.ifCond .lt 26, 3) := by decide +kernel
theorem dX1_endOf_38 : decode cX1_endOf 38 = .ok (.iload_n 1, 1) := by decide +kernel
theorem dX1_endOf_39 : decode cX1_endOf 39 = .ok (.aload_n 0, 1) := by decide +kernel
theorem dX1_endOf_40 : decode cX1_endOf 40 = .ok (.getfield 15, 3) := by decide +kernel
theorem dX1_endOf_43 : decode cX1_endOf 43 = .ok (.if_icmp .ge 18, 3) := by decide +kernel
theorem dX1_endOf_61 : decode cX1_endOf 61 = .ok (.iconst (-1), 1) := by decide +kernel
theorem dX1_endOf_62 : decode cX1_endOf 62 = .ok (.ireturn, 1) := by decide +kernel
theorem dX2_clear_0 : decode cX2_clear 0 = .ok (.aload_n 0, 1) := by decide +kernel
theorem dX2_clear_1 : decode cX2_clear 1 = .ok (.iconst 0, 1) := by decide +kernel
theorem dX2_clear_2 : decode cX2_clear 2 = .ok (.putfield 11, 3) := by decide +kernel
theorem dX2_clear_5 : decode cX2_clear 5 = .ok (.aload_n 0, 1) := by decide +kernel
theorem dX2_clear_6 : decode cX2_clear 6 = .ok (.iconst 0, 1) := by decide +kernel
theorem dX2_clear_7 : decode cX2_clear 7 = .ok (.putfield 15, 3) := by decide +kernel
theorem dX2_clear_10 : decode cX2_clear 10 = .ok (.return_, 1) := by decide +kernel
theorem dX2_restoreLatest_0 : decode cX2_restoreLatest 0 = .ok (.aload_n 0, 1) := by decide +kernel
theorem dX2_restoreLatest_1 : decode cX2_restoreLatest 1 = .ok (.getfield 11, 3) := by decide +kernel
theorem dX2_restoreLatest_4 : decode cX2_restoreLatest 4 = .ok (.ifCond .gt 6, 3) := by decide +kernel
theorem dX2_restoreLatest_7 : decode cX2_restoreLatest 7 = .ok (.bipush (-3), 2) := by decide +kernel
theorem dX2_restoreLatest_9 : decode cX2_restoreLatest 9 = .ok (.ireturn, 1) := by decide +kernel
theorem dX6_clear_0 : decode cX6_clear 0 = .ok (.aload_n 0, 1) := by decide +kernel
theorem dX6_clear_1 : decode cX6_clear 1 = .ok (.iconst 0, 1) := by decide +kernel
theorem dX6_clear_2 : decode cX6_clear 2 = .ok (.putfield 15, 3) := by decide +kernel
theorem dX6_clear_5 : decode cX6_clear 5 = .ok (.return_, 1) := by decide +kernel
theorem dX7_hasPart_0 : decode cX7_hasPart 0 = .ok (.iload_n 1, 1) := by decide +kernel
theorem dX7_hasPart_1 : decode cX7_hasPart 1 = .ok (.ifCond .lt 21, 3) := by decide +kernel
theorem dX7_hasPart_4 : decode cX7_hasPart 4 = .ok (.iload_n 1, 1) := by decide +kernel
theorem dX7_hasPart_5 : decode cX7_hasPart 5 = .ok (.aload_n 0, 1) := by decide +kernel
theorem dX7_hasPart_6 : decode cX7_hasPart 6 = .ok (.getfield 9, 3) := by decide +kernel
theorem dX7_hasPart_9 : decode cX7_hasPart 9 = .ok (.if_icmp .ge 13, 3) := by decide +kernel
theorem dX7_hasPart_22 : decode cX7_hasPart 22 = .ok (.iconst 0, 1) := by decide +kernel
theorem dX7_hasPart_23 : decode cX7_hasPart 23 = .ok (.ireturn, 1) := by decide +kernel
theorem dX7_hasBuilder_0 : decode cX7_hasBuilder 0 = .ok (.iload_n 1, 1) := by decide +kernel
theorem dX7_hasBuilder_1 : decode cX7_hasBuilder 1 = .ok (.ifCond .lt 21, 3) := by decide +kernel
theorem dX7_hasBuilder_4 : decode cX7_hasBuilder 4 = .ok (.iload_n 1, 1) := by decide +kernel
theorem dX7_hasBuilder_5 : decode cX7_hasBuilder 5 = .ok (.aload_n 0, 1) := by decide +kernel
theorem dX7_hasBuilder_6 : decode cX7_hasBuilder 6 = .ok (.getfield 31, 3) := by decide +kernel
theorem dX7_hasBuilder_9 : decode cX7_hasBuilder 9 = .ok (.if_icmp .ge 13, 3) := by decide +kernel
theorem dX7_hasBuilder_22 : decode cX7_hasBuilder 22 = .ok (.iconst 0, 1) := by decide +kernel
theorem dX7_hasBuilder_23 : decode cX7_hasBuilder 23 = .ok (.ireturn, 1) := by decide +kernel
theorem dX7_upMask_0 : decode cX7_upMask 0 = .ok (.iconst 0, 1) := by decide +kernel
theorem dX7_upMask_1 : decode cX7_upMask 1 = .ok (.istore_n 1, 1) := by decide +kernel
theorem dX7_upMask_2 : decode cX7_upMask 2 = .ok (.iconst 0, 1) := by decide +kernel
theorem dX7_upMask_3 : decode cX7_upMask 3 = .ok (.istore_n 2, 1) := by decide +kernel
theorem dX7_upMask_4 : decode cX7_upMask 4 = .ok (.iload_n 2, 1) := by decide +kernel
theorem dX7_upMask_5 : decode cX7_upMask 5 = .ok (.aload_n 0, 1) := by decide +kernel
theorem dX7_upMask_6 : decode cX7_upMask 6 = .ok (.getfield 9, 3) := by decide +kernel
theorem dX7_upMask_9 : decode cX7_upMask 9 = .ok (.if_icmp .ge 30, 3) := by decide +kernel
theorem dX7_upMask_39 : decode cX7_upMask 39 = .ok (.iload_n 1, 1) := by decide +kernel
theorem dX7_upMask_40 : decode cX7_upMask 40 = .ok (.ireturn, 1) := by decide +kernel
theorem dX7_readyMask_0 : decode cX7_readyMask 0 = .ok (.aload_n 0, 1) := by decide +kernel
theorem dX7_readyMask_1 : decode cX7_readyMask 1 = .ok (.invokevirtual 94, 3) := by decide +kernel
theorem dX7_readyMask_4 : decode cX7_readyMask 4 = .ok (.istore_n 1, 1) := by decide +kernel
theorem dX7_readyMask_5 : decode cX7_readyMask 5 = .ok (.iconst 0, 1) := by decide +kernel
theorem dX7_readyMask_6 : decode cX7_readyMask 6 = .ok (.istore_n 2, 1) := by decide +kernel
theorem dX7_readyMask_7 : decode cX7_readyMask 7 = .ok (.iconst 0, 1) := by decide +kernel
theorem dX7_readyMask_8 : decode cX7_readyMask 8 = .ok (.istore_n 3, 1) := by decide +kernel
theorem dX7_readyMask_9 : decode cX7_readyMask 9 = .ok (.iload_n 3, 1) := by decide +kernel
theorem dX7_readyMask_10 : decode cX7_readyMask 10 = .ok (.aload_n 0, 1) := by decide +kernel
theorem dX7_readyMask_11 : decode cX7_readyMask 11 = .ok (.getfield 9, 3) := by decide +kernel
theorem dX7_readyMask_14 : decode cX7_readyMask 14 = .ok (.if_icmp .ge 43, 3) := by decide +kernel
theorem dX7_readyMask_57 : decode cX7_readyMask 57 = .ok (.iload_n 2, 1) := by decide +kernel
theorem dX7_readyMask_58 : decode cX7_readyMask 58 = .ok (.ireturn, 1) := by decide +kernel
theorem dX7_reckonChains_0 : decode cX7_reckonChains 0 = .ok (.iconst 0, 1) := by decide +kernel
theorem dX7_reckonChains_1 : decode cX7_reckonChains 1 = .ok (.istore_n 1, 1) := by decide +kernel
theorem dX7_reckonChains_2 : decode cX7_reckonChains 2 = .ok (.aload_n 0, 1) := by decide +kernel
theorem dX7_reckonChains_3 : decode cX7_reckonChains 3 = .ok (.getfield 9, 3) := by decide +kernel
theorem dX7_reckonChains_6 : decode cX7_reckonChains 6 = .ok (.bipush 10, 2) := by decide +kernel
theorem dX7_reckonChains_8 : decode cX7_reckonChains 8 = .ok (.invokestatic 98, 3) := by decide +kernel
theorem dX7_reckonChains_11 : decode cX7_reckonChains 11 = .ok (.iconst 1, 1) := by decide +kernel
theorem dX7_reckonChains_12 : decode cX7_reckonChains 12 = .ok (.isub, 1) := by decide +kernel
theorem dX7_reckonChains_13 : decode cX7_reckonChains 13 = .ok (.istore_n 2, 1) := by decide +kernel
theorem dX7_reckonChains_14 : decode cX7_reckonChains 14 = .ok (.iload_n 2, 1) := by decide +kernel
theorem dX7_reckonChains_15 : decode cX7_reckonChains 15 = .ok (.ifCond .lt 119, 3) := by decide +kernel
theorem dX7_reckonChains_134 : decode cX7_reckonChains 134 = .ok (.iload_n 1, 1) := by decide +kernel
theorem dX7_reckonChains_135 : decode cX7_reckonChains 135 = .ok (.ireturn, 1) := by decide +kernel
theorem dX9_clear_0 : decode cX9_clear 0 = .ok (.aload_n 0, 1) := by decide +kernel
theorem dX9_clear_1 : decode cX9_clear 1 = .ok (.getfield 11, 3) := by decide +kernel
theorem dX9_clear_4 : decode cX9_clear 4 = .ok (.iconst 0, 1) := by decide +kernel
theorem dX9_clear_5 : decode cX9_clear 5 = .ok (.bipush (-2), 2) := by decide +kernel
theorem dX9_clear_7 : decode cX9_clear 7 = .ok (.iastore, 1) := by decide +kernel
theorem dX9_clear_8 : decode cX9_clear 8 = .ok (.aload_n 0, 1) := by decide +kernel
theorem dX9_clear_9 : decode cX9_clear 9 = .ok (.iconst 0, 1) := by decide +kernel
theorem dX9_clear_10 : decode cX9_clear 10 = .ok (.putfield 23, 3) := by decide +kernel
theorem dX9_clear_13 : decode cX9_clear 13 = .ok (.aload_n 0, 1) := by decide +kernel
theorem dX9_clear_14 : decode cX9_clear 14 = .ok (.iconst 0, 1) := by decide +kernel
theorem dX9_clear_15 : decode cX9_clear 15 = .ok (.putfield 27, 3) := by decide +kernel
theorem dX9_clear_18 : decode cX9_clear 18 = .ok (.return_, 1) := by decide +kernel
theorem dX11_of_0 : decode cX11_of 0 = .ok (.aload_n 0, 1) := by decide +kernel
theorem dX11_of_1 : decode cX11_of 1 = .ok (.getfield 10, 3) := by decide +kernel
theorem dX11_of_4 : decode cX11_of 4 = .ok (.iload_n 1, 1) := by decide +kernel
theorem dX11_of_5 : decode cX11_of 5 = .ok (.invokevirtual 124, 3) := by decide +kernel
theorem dX11_of_8 : decode cX11_of 8 = .ok (.ifCond .ne 5, 3) := by decide +kernel
theorem dX11_of_11 : decode cX11_of 11 = .ok (.iconst (-1), 1) := by decide +kernel
theorem dX11_of_12 : decode cX11_of 12 = .ok (.ireturn, 1) := by decide +kernel
theorem dX11_at_0 : decode cX11_at 0 = .ok (.aload_n 0, 1) := by decide +kernel
theorem dX11_at_1 : decode cX11_at 1 = .ok (.getfield 10, 3) := by decide +kernel
theorem dX11_at_4 : decode cX11_at 4 = .ok (.iload_n 1, 1) := by decide +kernel
theorem dX11_at_5 : decode cX11_at 5 = .ok (.invokevirtual 163, 3) := by decide +kernel
theorem dX11_at_8 : decode cX11_at 8 = .ok (.ifCond .ne 5, 3) := by decide +kernel
theorem dX11_at_11 : decode cX11_at 11 = .ok (.iconst (-1), 1) := by decide +kernel
theorem dX11_at_12 : decode cX11_at 12 = .ok (.ireturn, 1) := by decide +kernel
theorem dX11_asks_0 : decode cX11_asks 0 = .ok (.aload_n 0, 1) := by decide +kernel
theorem dX11_asks_1 : decode cX11_asks 1 = .ok (.getfield 10, 3) := by decide +kernel
theorem dX11_asks_4 : decode cX11_asks 4 = .ok (.iload_n 1, 1) := by decide +kernel
theorem dX11_asks_5 : decode cX11_asks 5 = .ok (.invokevirtual 163, 3) := by decide +kernel
theorem dX11_asks_8 : decode cX11_asks 8 = .ok (.ifCond .eq 26, 3) := by decide +kernel
theorem dX11_asks_34 : decode cX11_asks 34 = .ok (.iconst (-1), 1) := by decide +kernel
theorem dX11_asks_35 : decode cX11_asks 35 = .ok (.ireturn, 1) := by decide +kernel
theorem dX11_end_0 : decode cX11_end 0 = .ok (.iload_n 1, 1) := by decide +kernel
theorem dX11_end_1 : decode cX11_end 1 = .ok (.ifCond .lt 11, 3) := by decide +kernel
theorem dX11_end_4 : decode cX11_end 4 = .ok (.iload_n 1, 1) := by decide +kernel
theorem dX11_end_5 : decode cX11_end 5 = .ok (.aload_n 0, 1) := by decide +kernel
theorem dX11_end_6 : decode cX11_end 6 = .ok (.getfield 94, 3) := by decide +kernel
theorem dX11_end_9 : decode cX11_end 9 = .ok (.if_icmp .le 5, 3) := by decide +kernel
theorem dX11_end_12 : decode cX11_end 12 = .ok (.iconst (-1), 1) := by decide +kernel
theorem dX11_end_13 : decode cX11_end 13 = .ok (.ireturn, 1) := by decide +kernel
theorem dX11_end_14 : decode cX11_end 14 = .ok (.aload_n 0, 1) := by decide +kernel
theorem dX11_end_15 : decode cX11_end 15 = .ok (.iload_n 1, 1) := by decide +kernel
theorem dX11_end_16 : decode cX11_end 16 = .ok (.putfield 94, 3) := by decide +kernel
theorem dX11_end_19 : decode cX11_end 19 = .ok (.iload_n 1, 1) := by decide +kernel
theorem dX11_end_20 : decode cX11_end 20 = .ok (.ireturn, 1) := by decide +kernel
theorem dX11_row_0 : decode cX11_row 0 = .ok (.aload_n 0, 1) := by decide +kernel
theorem dX11_row_1 : decode cX11_row 1 = .ok (.invokevirtual 198, 3) := by decide +kernel
theorem dX11_row_4 : decode cX11_row 4 = .ok (.istore_n 1, 1) := by decide +kernel
theorem dX11_row_5 : decode cX11_row 5 = .ok (.iload_n 1, 1) := by decide +kernel
theorem dX11_row_6 : decode cX11_row 6 = .ok (.ifCond .ne 10, 3) := by decide +kernel
theorem dX11_row_9 : decode cX11_row 9 = .ok (.aload_n 0, 1) := by decide +kernel
theorem dX11_row_10 : decode cX11_row 10 = .ok (.bipush (-6), 2) := by decide +kernel
theorem dX11_row_12 : decode cX11_row 12 = .ok (.invokevirtual 114, 3) := by decide +kernel
theorem dX11_row_15 : decode cX11_row 15 = .ok (.ireturn, 1) := by decide +kernel
theorem dX11_chaff_0 : decode cX11_chaff 0 = .ok (.aload_n 0, 1) := by decide +kernel
theorem dX11_chaff_1 : decode cX11_chaff 1 = .ok (.getfield 101, 3) := by decide +kernel
theorem dX11_chaff_4 : decode cX11_chaff 4 = .ok (.ireturn, 1) := by decide +kernel
theorem dX11_fault_0 : decode cX11_fault 0 = .ok (.aload_n 0, 1) := by decide +kernel
theorem dX11_fault_1 : decode cX11_fault 1 = .ok (.getfield 98, 3) := by decide +kernel
theorem dX11_fault_4 : decode cX11_fault 4 = .ok (.ireturn, 1) := by decide +kernel
theorem dX11_stopped_0 : decode cX11_stopped 0 = .ok (.aload_n 0, 1) := by decide +kernel
theorem dX11_stopped_1 : decode cX11_stopped 1 = .ok (.getfield 104, 3) := by decide +kernel
theorem dX11_stopped_4 : decode cX11_stopped 4 = .ok (.ireturn, 1) := by decide +kernel
theorem dX11_stands_0 : decode cX11_stands 0 = .ok (.iload_n 1, 1) := by decide +kernel
theorem dX11_stands_1 : decode cX11_stands 1 = .ok (.lookupswitch 43 #[(0, 27), (1, 35)], 27) := by decide +kernel
theorem dX11_stands_28 : decode cX11_stands 28 = .ok (.aload_n 0, 1) := by decide +kernel
theorem dX11_stands_29 : decode cX11_stands 29 = .ok (.getfield 10, 3) := by decide +kernel
theorem dX11_stands_32 : decode cX11_stands 32 = .ok (.invokevirtual 238, 3) := by decide +kernel
theorem dX11_stands_35 : decode cX11_stands 35 = .ok (.ireturn, 1) := by decide +kernel
theorem dX11_stands_36 : decode cX11_stands 36 = .ok (.aload_n 0, 1) := by decide +kernel
theorem dX11_stands_37 : decode cX11_stands 37 = .ok (.getfield 10, 3) := by decide +kernel
theorem dX11_stands_40 : decode cX11_stands 40 = .ok (.invokevirtual 143, 3) := by decide +kernel
theorem dX11_stands_43 : decode cX11_stands 43 = .ok (.ireturn, 1) := by decide +kernel
theorem dX11_stands_44 : decode cX11_stands 44 = .ok (.iconst (-1), 1) := by decide +kernel
theorem dX11_stands_45 : decode cX11_stands 45 = .ok (.ireturn, 1) := by decide +kernel
theorem dX11_send_0 : decode cX11_send 0 = .ok (.aload_n 0, 1) := by decide +kernel
theorem dX11_send_1 : decode cX11_send 1 = .ok (.aload_n 0, 1) := by decide +kernel
theorem dX11_send_2 : decode cX11_send 2 = .ok (.getfield 28, 3) := by decide +kernel
theorem dX11_send_5 : decode cX11_send 5 = .ok (.iload_n 1, 1) := by decide +kernel
theorem dX11_send_6 : decode cX11_send 6 = .ok (.iload_n 2, 1) := by decide +kernel
theorem dX11_send_7 : decode cX11_send 7 = .ok (.invokevirtual 241, 3) := by decide +kernel
theorem dX11_send_10 : decode cX11_send 10 = .ok (.invokevirtual 244, 3) := by decide +kernel
theorem dX11_send_13 : decode cX11_send 13 = .ok (.ireturn, 1) := by decide +kernel
theorem dX11_rest_0 : decode cX11_rest 0 = .ok (.aload_n 0, 1) := by decide +kernel
theorem dX11_rest_1 : decode cX11_rest 1 = .ok (.aload_n 0, 1) := by decide +kernel
theorem dX11_rest_2 : decode cX11_rest 2 = .ok (.getfield 28, 3) := by decide +kernel
theorem dX11_rest_5 : decode cX11_rest 5 = .ok (.iload_n 1, 1) := by decide +kernel
theorem dX11_rest_6 : decode cX11_rest 6 = .ok (.invokevirtual 247, 3) := by decide +kernel
theorem dX11_rest_9 : decode cX11_rest 9 = .ok (.invokevirtual 244, 3) := by decide +kernel
theorem dX11_rest_12 : decode cX11_rest 12 = .ok (.ireturn, 1) := by decide +kernel
theorem dX11_throwDown_0 : decode cX11_throwDown 0 = .ok (.aload_n 0, 1) := by decide +kernel
theorem dX11_throwDown_1 : decode cX11_throwDown 1 = .ok (.aload_n 0, 1) := by decide +kernel
theorem dX11_throwDown_2 : decode cX11_throwDown 2 = .ok (.getfield 28, 3) := by decide +kernel
theorem dX11_throwDown_5 : decode cX11_throwDown 5 = .ok (.iload_n 1, 1) := by decide +kernel
theorem dX11_throwDown_6 : decode cX11_throwDown 6 = .ok (.invokevirtual 250, 3) := by decide +kernel
theorem dX11_throwDown_9 : decode cX11_throwDown 9 = .ok (.invokevirtual 244, 3) := by decide +kernel
theorem dX11_throwDown_12 : decode cX11_throwDown 12 = .ok (.ireturn, 1) := by decide +kernel
theorem dX11_undo_0 : decode cX11_undo 0 = .ok (.aload_n 0, 1) := by decide +kernel
theorem dX11_undo_1 : decode cX11_undo 1 = .ok (.aload_n 0, 1) := by decide +kernel
theorem dX11_undo_2 : decode cX11_undo 2 = .ok (.getfield 19, 3) := by decide +kernel
theorem dX11_undo_5 : decode cX11_undo 5 = .ok (.aload_n 0, 1) := by decide +kernel
theorem dX11_undo_6 : decode cX11_undo 6 = .ok (.getfield 10, 3) := by decide +kernel
theorem dX11_undo_9 : decode cX11_undo 9 = .ok (.invokevirtual 256, 3) := by decide +kernel
theorem dX11_undo_12 : decode cX11_undo 12 = .ok (.invokevirtual 244, 3) := by decide +kernel
theorem dX11_undo_15 : decode cX11_undo 15 = .ok (.ireturn, 1) := by decide +kernel
theorem dX11_longest_0 : decode cX11_longest 0 = .ok (.aload_n 0, 1) := by decide +kernel
theorem dX11_longest_1 : decode cX11_longest 1 = .ok (.getfield 10, 3) := by decide +kernel
theorem dX11_longest_4 : decode cX11_longest 4 = .ok (.invokevirtual 147, 3) := by decide +kernel
theorem dX11_longest_7 : decode cX11_longest 7 = .ok (.ireturn, 1) := by decide +kernel
theorem dX11_status_0 : decode cX11_status 0 = .ok (.aload_n 0, 1) := by decide +kernel
theorem dX11_status_1 : decode cX11_status 1 = .ok (.getfield 107, 3) := by decide +kernel
theorem dX11_status_4 : decode cX11_status 4 = .ok (.ireturn, 1) := by decide +kernel
theorem dX11_refuse_0 : decode cX11_refuse 0 = .ok (.iload_n 1, 1) := by decide +kernel
theorem dX11_refuse_1 : decode cX11_refuse 1 = .ok (.bipush (-5), 2) := by decide +kernel
theorem dX11_refuse_3 : decode cX11_refuse 3 = .ok (.if_icmp .ne 7, 3) := by decide +kernel
theorem dX11_refuse_10 : decode cX11_refuse 10 = .ok (.iload_n 1, 1) := by decide +kernel
theorem dX11_refuse_11 : decode cX11_refuse 11 = .ok (.bipush (-6), 2) := by decide +kernel
theorem dX11_refuse_13 : decode cX11_refuse 13 = .ok (.if_icmp .ne 7, 3) := by decide +kernel
theorem dX11_refuse_16 : decode cX11_refuse 16 = .ok (.iconst 4, 1) := by decide +kernel
theorem dX11_refuse_17 : decode cX11_refuse 17 = .ok (.goto 7, 3) := by decide +kernel
theorem dX11_refuse_20 : decode cX11_refuse 20 = .ok (.iload_n 1, 1) := by decide +kernel
theorem dX11_refuse_21 : decode cX11_refuse 21 = .ok (.ineg, 1) := by decide +kernel
theorem dX11_refuse_22 : decode cX11_refuse 22 = .ok (.iconst 1, 1) := by decide +kernel
theorem dX11_refuse_23 : decode cX11_refuse 23 = .ok (.isub, 1) := by decide +kernel
theorem dX11_refuse_24 : decode cX11_refuse 24 = .ok (.istore_n 2, 1) := by decide +kernel
theorem dX11_refuse_25 : decode cX11_refuse 25 = .ok (.iload_n 2, 1) := by decide +kernel
theorem dX11_refuse_26 : decode cX11_refuse 26 = .ok (.ifCond .lt 22, 3) := by decide +kernel
theorem dX11_refuse_29 : decode cX11_refuse 29 = .ok (.iload_n 2, 1) := by decide +kernel
theorem dX11_refuse_30 : decode cX11_refuse 30 = .ok (.aload_n 0, 1) := by decide +kernel
theorem dX11_refuse_31 : decode cX11_refuse 31 = .ok (.getfield 90, 3) := by decide +kernel
theorem dX11_refuse_34 : decode cX11_refuse 34 = .ok (.arraylength, 1) := by decide +kernel
theorem dX11_refuse_35 : decode cX11_refuse 35 = .ok (.if_icmp .ge 13, 3) := by decide +kernel
theorem dX11_refuse_38 : decode cX11_refuse 38 = .ok (.aload_n 0, 1) := by decide +kernel
theorem dX11_refuse_39 : decode cX11_refuse 39 = .ok (.getfield 90, 3) := by decide +kernel
theorem dX11_refuse_42 : decode cX11_refuse 42 = .ok (.iload_n 2, 1) := by decide +kernel
theorem dX11_refuse_43 : decode cX11_refuse 43 = .ok (.dup2, 1) := by decide +kernel
theorem dX11_refuse_44 : decode cX11_refuse 44 = .ok (.iaload, 1) := by decide +kernel
theorem dX11_refuse_45 : decode cX11_refuse 45 = .ok (.iconst 1, 1) := by decide +kernel
theorem dX11_refuse_46 : decode cX11_refuse 46 = .ok (.iadd, 1) := by decide +kernel
theorem dX11_refuse_47 : decode cX11_refuse 47 = .ok (.iastore, 1) := by decide +kernel
theorem dX11_refuse_48 : decode cX11_refuse 48 = .ok (.aload_n 0, 1) := by decide +kernel
theorem dX11_refuse_49 : decode cX11_refuse 49 = .ok (.iload_n 1, 1) := by decide +kernel
theorem dX11_refuse_50 : decode cX11_refuse 50 = .ok (.putfield 107, 3) := by decide +kernel
theorem dX11_refuse_53 : decode cX11_refuse 53 = .ok (.iload_n 1, 1) := by decide +kernel
theorem dX11_refuse_54 : decode cX11_refuse 54 = .ok (.ireturn, 1) := by decide +kernel
theorem dX11_agree_0 : decode cX11_agree 0 = .ok (.aload_n 0, 1) := by decide +kernel
theorem dX11_agree_1 : decode cX11_agree 1 = .ok (.iconst 0, 1) := by decide +kernel
theorem dX11_agree_2 : decode cX11_agree 2 = .ok (.putfield 107, 3) := by decide +kernel
theorem dX11_agree_5 : decode cX11_agree 5 = .ok (.iload_n 1, 1) := by decide +kernel
theorem dX11_agree_6 : decode cX11_agree 6 = .ok (.ireturn, 1) := by decide +kernel
theorem dX11_agreeChanged_0 : decode cX11_agreeChanged 0 = .ok (.aload_n 0, 1) := by decide +kernel
theorem dX11_agreeChanged_1 : decode cX11_agreeChanged 1 = .ok (.getfield 62, 3) := by decide +kernel
theorem dX11_agreeChanged_4 : decode cX11_agreeChanged 4 = .ok (.invokevirtual 326, 3) := by decide +kernel
theorem dX11_agreeChanged_7 : decode cX11_agreeChanged 7 = .ok (.aload_n 0, 1) := by decide +kernel
theorem dX11_agreeChanged_8 : decode cX11_agreeChanged 8 = .ok (.getfield 69, 3) := by decide +kernel
theorem dX11_agreeChanged_11 : decode cX11_agreeChanged 11 = .ok (.invokevirtual 327, 3) := by decide +kernel
theorem dX11_agreeChanged_14 : decode cX11_agreeChanged 14 = .ok (.aload_n 0, 1) := by decide +kernel
theorem dX11_agreeChanged_15 : decode cX11_agreeChanged 15 = .ok (.iload_n 1, 1) := by decide +kernel
theorem dX11_agreeChanged_16 : decode cX11_agreeChanged 16 = .ok (.invokevirtual 225, 3) := by decide +kernel
theorem dX11_agreeChanged_19 : decode cX11_agreeChanged 19 = .ok (.ireturn, 1) := by decide +kernel
theorem dX11_settle_0 : decode cX11_settle 0 = .ok (.iload_n 1, 1) := by decide +kernel
theorem dX11_settle_1 : decode cX11_settle 1 = .ok (.ifCond .ge 11, 3) := by decide +kernel
theorem dX11_settle_4 : decode cX11_settle 4 = .ok (.aload_n 0, 1) := by decide +kernel
theorem dX11_settle_5 : decode cX11_settle 5 = .ok (.iload_n 1, 1) := by decide +kernel
theorem dX11_settle_6 : decode cX11_settle 6 = .ok (.invokevirtual 114, 3) := by decide +kernel
theorem dX11_settle_9 : decode cX11_settle 9 = .ok (.goto 8, 3) := by decide +kernel
theorem dX11_settle_12 : decode cX11_settle 12 = .ok (.aload_n 0, 1) := by decide +kernel
theorem dX11_settle_13 : decode cX11_settle 13 = .ok (.iload_n 1, 1) := by decide +kernel
theorem dX11_settle_14 : decode cX11_settle 14 = .ok (.invokevirtual 121, 3) := by decide +kernel
theorem dX11_settle_17 : decode cX11_settle 17 = .ok (.ireturn, 1) := by decide +kernel
theorem dX11_emptyTape_0 : decode cX11_emptyTape 0 = .ok (.aload_n 0, 1) := by decide +kernel
theorem dX11_emptyTape_1 : decode cX11_emptyTape 1 = .ok (.getfield 94, 3) := by decide +kernel
theorem dX11_emptyTape_4 : decode cX11_emptyTape 4 = .ok (.istore_n 1, 1) := by decide +kernel
theorem dX11_emptyTape_5 : decode cX11_emptyTape 5 = .ok (.aload_n 0, 1) := by decide +kernel
theorem dX11_emptyTape_6 : decode cX11_emptyTape 6 = .ok (.iconst 0, 1) := by decide +kernel
theorem dX11_emptyTape_7 : decode cX11_emptyTape 7 = .ok (.putfield 94, 3) := by decide +kernel
theorem dX11_emptyTape_10 : decode cX11_emptyTape 10 = .ok (.iload_n 1, 1) := by decide +kernel
theorem dX11_emptyTape_11 : decode cX11_emptyTape 11 = .ok (.ireturn, 1) := by decide +kernel
theorem dJ6_bitCount_0f7a4_0 : decode cJ6_bitCount_0f7a4 0 = .ok (.iload_n 0, 1) := by decide +kernel
theorem dJ6_bitCount_0f7a4_1 : decode cJ6_bitCount_0f7a4 1 = .ok (.iload_n 0, 1) := by decide +kernel
theorem dJ6_bitCount_0f7a4_2 : decode cJ6_bitCount_0f7a4 2 = .ok (.iconst 1, 1) := by decide +kernel
theorem dJ6_bitCount_0f7a4_3 : decode cJ6_bitCount_0f7a4 3 = .ok (.iushr, 1) := by decide +kernel
theorem dJ6_bitCount_0f7a4_4 : decode cJ6_bitCount_0f7a4 4 = .ok (.ldc_w 265, 3) := by decide +kernel
theorem dJ6_bitCount_0f7a4_7 : decode cJ6_bitCount_0f7a4 7 = .ok (.iand, 1) := by decide +kernel
theorem dJ6_bitCount_0f7a4_8 : decode cJ6_bitCount_0f7a4 8 = .ok (.isub, 1) := by decide +kernel
theorem dJ6_bitCount_0f7a4_9 : decode cJ6_bitCount_0f7a4 9 = .ok (.istore_n 0, 1) := by decide +kernel
theorem dJ6_bitCount_0f7a4_10 : decode cJ6_bitCount_0f7a4 10 = .ok (.iload_n 0, 1) := by decide +kernel
theorem dJ6_bitCount_0f7a4_11 : decode cJ6_bitCount_0f7a4 11 = .ok (.ldc_w 266, 3) := by decide +kernel
theorem dJ6_bitCount_0f7a4_14 : decode cJ6_bitCount_0f7a4 14 = .ok (.iand, 1) := by decide +kernel
theorem dJ6_bitCount_0f7a4_15 : decode cJ6_bitCount_0f7a4 15 = .ok (.iload_n 0, 1) := by decide +kernel
theorem dJ6_bitCount_0f7a4_16 : decode cJ6_bitCount_0f7a4 16 = .ok (.iconst 2, 1) := by decide +kernel
theorem dJ6_bitCount_0f7a4_17 : decode cJ6_bitCount_0f7a4 17 = .ok (.iushr, 1) := by decide +kernel
theorem dJ6_bitCount_0f7a4_18 : decode cJ6_bitCount_0f7a4 18 = .ok (.ldc_w 266, 3) := by decide +kernel
theorem dJ6_bitCount_0f7a4_21 : decode cJ6_bitCount_0f7a4 21 = .ok (.iand, 1) := by decide +kernel
theorem dJ6_bitCount_0f7a4_22 : decode cJ6_bitCount_0f7a4 22 = .ok (.iadd, 1) := by decide +kernel
theorem dJ6_bitCount_0f7a4_23 : decode cJ6_bitCount_0f7a4 23 = .ok (.istore_n 0, 1) := by decide +kernel
theorem dJ6_bitCount_0f7a4_24 : decode cJ6_bitCount_0f7a4 24 = .ok (.iload_n 0, 1) := by decide +kernel
theorem dJ6_bitCount_0f7a4_25 : decode cJ6_bitCount_0f7a4 25 = .ok (.iload_n 0, 1) := by decide +kernel
theorem dJ6_bitCount_0f7a4_26 : decode cJ6_bitCount_0f7a4 26 = .ok (.iconst 4, 1) := by decide +kernel
theorem dJ6_bitCount_0f7a4_27 : decode cJ6_bitCount_0f7a4 27 = .ok (.iushr, 1) := by decide +kernel
theorem dJ6_bitCount_0f7a4_28 : decode cJ6_bitCount_0f7a4 28 = .ok (.iadd, 1) := by decide +kernel
theorem dJ6_bitCount_0f7a4_29 : decode cJ6_bitCount_0f7a4 29 = .ok (.ldc_w 267, 3) := by decide +kernel
theorem dJ6_bitCount_0f7a4_32 : decode cJ6_bitCount_0f7a4 32 = .ok (.iand, 1) := by decide +kernel
theorem dJ6_bitCount_0f7a4_33 : decode cJ6_bitCount_0f7a4 33 = .ok (.istore_n 0, 1) := by decide +kernel
theorem dJ6_bitCount_0f7a4_34 : decode cJ6_bitCount_0f7a4 34 = .ok (.iload_n 0, 1) := by decide +kernel
theorem dJ6_bitCount_0f7a4_35 : decode cJ6_bitCount_0f7a4 35 = .ok (.iload_n 0, 1) := by decide +kernel
theorem dJ6_bitCount_0f7a4_36 : decode cJ6_bitCount_0f7a4 36 = .ok (.bipush 8, 2) := by decide +kernel
theorem dJ6_bitCount_0f7a4_38 : decode cJ6_bitCount_0f7a4 38 = .ok (.iushr, 1) := by decide +kernel
theorem dJ6_bitCount_0f7a4_39 : decode cJ6_bitCount_0f7a4 39 = .ok (.iadd, 1) := by decide +kernel
theorem dJ6_bitCount_0f7a4_40 : decode cJ6_bitCount_0f7a4 40 = .ok (.istore_n 0, 1) := by decide +kernel
theorem dJ6_bitCount_0f7a4_41 : decode cJ6_bitCount_0f7a4 41 = .ok (.iload_n 0, 1) := by decide +kernel
theorem dJ6_bitCount_0f7a4_42 : decode cJ6_bitCount_0f7a4 42 = .ok (.iload_n 0, 1) := by decide +kernel
theorem dJ6_bitCount_0f7a4_43 : decode cJ6_bitCount_0f7a4 43 = .ok (.bipush 16, 2) := by decide +kernel
theorem dJ6_bitCount_0f7a4_45 : decode cJ6_bitCount_0f7a4 45 = .ok (.iushr, 1) := by decide +kernel
theorem dJ6_bitCount_0f7a4_46 : decode cJ6_bitCount_0f7a4 46 = .ok (.iadd, 1) := by decide +kernel
theorem dJ6_bitCount_0f7a4_47 : decode cJ6_bitCount_0f7a4 47 = .ok (.istore_n 0, 1) := by decide +kernel
theorem dJ6_bitCount_0f7a4_48 : decode cJ6_bitCount_0f7a4 48 = .ok (.iload_n 0, 1) := by decide +kernel
theorem dJ6_bitCount_0f7a4_49 : decode cJ6_bitCount_0f7a4 49 = .ok (.bipush 63, 2) := by decide +kernel
theorem dJ6_bitCount_0f7a4_51 : decode cJ6_bitCount_0f7a4 51 = .ok (.iand, 1) := by decide +kernel
theorem dJ6_bitCount_0f7a4_52 : decode cJ6_bitCount_0f7a4 52 = .ok (.ireturn, 1) := by decide +kernel
