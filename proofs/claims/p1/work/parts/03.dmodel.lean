theorem dX12_lies_0 : decode cX12_lies 0 = .ok (.iload_n 0, 1) := by decide +kernel
theorem dX12_lies_1 : decode cX12_lies 1 = .ok (.iload_n 1, 1) := by decide +kernel
theorem dX12_lies_2 : decode cX12_lies 2 = .ok (.if_icmp .lt 12, 3) := by decide +kernel
theorem dX12_lies_5 : decode cX12_lies 5 = .ok (.iload_n 0, 1) := by decide +kernel
theorem dX12_lies_6 : decode cX12_lies 6 = .ok (.iload_n 2, 1) := by decide +kernel
theorem dX12_lies_7 : decode cX12_lies 7 = .ok (.if_icmp .gt 7, 3) := by decide +kernel
theorem dX12_lies_10 : decode cX12_lies 10 = .ok (.iconst 1, 1) := by decide +kernel
theorem dX12_lies_11 : decode cX12_lies 11 = .ok (.goto 4, 3) := by decide +kernel
theorem dX12_lies_14 : decode cX12_lies 14 = .ok (.iconst 0, 1) := by decide +kernel
theorem dX12_lies_15 : decode cX12_lies 15 = .ok (.ireturn, 1) := by decide +kernel
theorem dX12_refuses_0 : decode cX12_refuses 0 = .ok (.aload_n 0, 1) := by decide +kernel
theorem dX12_refuses_1 : decode cX12_refuses 1 = .ok (.iload_n 1, 1) := by decide +kernel
theorem dX12_refuses_2 : decode cX12_refuses 2 = .ok (.putfield 3, 3) := by decide +kernel
theorem dX12_refuses_5 : decode cX12_refuses 5 = .ok (.aload_n 0, 1) := by decide +kernel
theorem dX12_refuses_6 : decode cX12_refuses 6 = .ok (.getfield 7, 3) := by decide +kernel
theorem dX12_refuses_9 : decode cX12_refuses 9 = .ok (.iload_n 1, 1) := by decide +kernel
theorem dX12_refuses_10 : decode cX12_refuses 10 = .ok (.ineg, 1) := by decide +kernel
theorem dX12_refuses_11 : decode cX12_refuses 11 = .ok (.dup2, 1) := by decide +kernel
theorem dX12_refuses_12 : decode cX12_refuses 12 = .ok (.iaload, 1) := by decide +kernel
theorem dX12_refuses_13 : decode cX12_refuses 13 = .ok (.iconst 1, 1) := by decide +kernel
theorem dX12_refuses_14 : decode cX12_refuses 14 = .ok (.iadd, 1) := by decide +kernel
theorem dX12_refuses_15 : decode cX12_refuses 15 = .ok (.iastore, 1) := by decide +kernel
theorem dX12_refuses_16 : decode cX12_refuses 16 = .ok (.iload_n 1, 1) := by decide +kernel
theorem dX12_refuses_17 : decode cX12_refuses 17 = .ok (.ireturn, 1) := by decide +kernel
theorem dX12_good_0 : decode cX12_good 0 = .ok (.aload_n 0, 1) := by decide +kernel
theorem dX12_good_1 : decode cX12_good 1 = .ok (.iconst 0, 1) := by decide +kernel
theorem dX12_good_2 : decode cX12_good 2 = .ok (.putfield 3, 3) := by decide +kernel
theorem dX12_good_5 : decode cX12_good 5 = .ok (.iload_n 1, 1) := by decide +kernel
theorem dX12_good_6 : decode cX12_good 6 = .ok (.ireturn, 1) := by decide +kernel
theorem dX12_settled_0 : decode cX12_settled 0 = .ok (.aload_n 0, 1) := by decide +kernel
theorem dX12_settled_1 : decode cX12_settled 1 = .ok (.iconst 0, 1) := by decide +kernel
theorem dX12_settled_2 : decode cX12_settled 2 = .ok (.putfield 11, 3) := by decide +kernel
theorem dX12_settled_5 : decode cX12_settled 5 = .ok (.aload_n 0, 1) := by decide +kernel
theorem dX12_settled_6 : decode cX12_settled 6 = .ok (.iload_n 1, 1) := by decide +kernel
theorem dX12_settled_7 : decode cX12_settled 7 = .ok (.invokevirtual 14, 3) := by decide +kernel
theorem dX12_settled_10 : decode cX12_settled 10 = .ok (.ireturn, 1) := by decide +kernel
theorem dX12_ones_0 : decode cX12_ones 0 = .ok (.iconst 0, 1) := by decide +kernel
theorem dX12_ones_1 : decode cX12_ones 1 = .ok (.istore_n 1, 1) := by decide +kernel
theorem dX12_ones_2 : decode cX12_ones 2 = .ok (.iconst 0, 1) := by decide +kernel
theorem dX12_ones_3 : decode cX12_ones 3 = .ok (.istore_n 2, 1) := by decide +kernel
theorem dX12_ones_4 : decode cX12_ones 4 = .ok (.iload_n 2, 1) := by decide +kernel
theorem dX12_ones_5 : decode cX12_ones 5 = .ok (.bipush 10, 2) := by decide +kernel
theorem dX12_ones_7 : decode cX12_ones 7 = .ok (.if_icmp .ge 17, 3) := by decide +kernel
theorem dX12_ones_10 : decode cX12_ones 10 = .ok (.iload_n 1, 1) := by decide +kernel
theorem dX12_ones_11 : decode cX12_ones 11 = .ok (.iload_n 0, 1) := by decide +kernel
theorem dX12_ones_12 : decode cX12_ones 12 = .ok (.iload_n 2, 1) := by decide +kernel
theorem dX12_ones_13 : decode cX12_ones 13 = .ok (.ishr, 1) := by decide +kernel
theorem dX12_ones_14 : decode cX12_ones 14 = .ok (.iconst 1, 1) := by decide +kernel
theorem dX12_ones_15 : decode cX12_ones 15 = .ok (.iand, 1) := by decide +kernel
theorem dX12_ones_16 : decode cX12_ones 16 = .ok (.iadd, 1) := by decide +kernel
theorem dX12_ones_17 : decode cX12_ones 17 = .ok (.istore_n 1, 1) := by decide +kernel
theorem dX12_ones_18 : decode cX12_ones 18 = .ok (.iinc 2 1, 3) := by decide +kernel
theorem dX12_ones_21 : decode cX12_ones 21 = .ok (.goto (-17), 3) := by decide +kernel
theorem dX12_ones_24 : decode cX12_ones 24 = .ok (.iload_n 1, 1) := by decide +kernel
theorem dX12_ones_25 : decode cX12_ones 25 = .ok (.ireturn, 1) := by decide +kernel
theorem dX12_greater_0 : decode cX12_greater 0 = .ok (.iload_n 0, 1) := by decide +kernel
theorem dX12_greater_1 : decode cX12_greater 1 = .ok (.iload_n 1, 1) := by decide +kernel
theorem dX12_greater_2 : decode cX12_greater 2 = .ok (.if_icmp .le 7, 3) := by decide +kernel
theorem dX12_greater_5 : decode cX12_greater 5 = .ok (.iload_n 0, 1) := by decide +kernel
theorem dX12_greater_6 : decode cX12_greater 6 = .ok (.goto 4, 3) := by decide +kernel
theorem dX12_greater_9 : decode cX12_greater 9 = .ok (.iload_n 1, 1) := by decide +kernel
theorem dX12_greater_10 : decode cX12_greater 10 = .ok (.ireturn, 1) := by decide +kernel
theorem dX12_laysAside_0 : decode cX12_laysAside 0 = .ok (.iconst 0, 1) := by decide +kernel
theorem dX12_laysAside_1 : decode cX12_laysAside 1 = .ok (.istore_n 2, 1) := by decide +kernel
theorem dX12_laysAside_2 : decode cX12_laysAside 2 = .ok (.iload_n 2, 1) := by decide +kernel
theorem dX12_laysAside_3 : decode cX12_laysAside 3 = .ok (.bipush 23, 2) := by decide +kernel
theorem dX12_laysAside_5 : decode cX12_laysAside 5 = .ok (.if_icmp .ge 26, 3) := by decide +kernel
theorem dX12_laysAside_8 : decode cX12_laysAside 8 = .ok (.aload_n 0, 1) := by decide +kernel
theorem dX12_laysAside_9 : decode cX12_laysAside 9 = .ok (.getfield 34, 3) := by decide +kernel
theorem dX12_laysAside_12 : decode cX12_laysAside 12 = .ok (.bipush 23, 2) := by decide +kernel
theorem dX12_laysAside_14 : decode cX12_laysAside 14 = .ok (.iload_n 1, 1) := by decide +kernel
theorem dX12_laysAside_15 : decode cX12_laysAside 15 = .ok (.imul, 1) := by decide +kernel
theorem dX12_laysAside_16 : decode cX12_laysAside 16 = .ok (.iload_n 2, 1) := by decide +kernel
theorem dX12_laysAside_17 : decode cX12_laysAside 17 = .ok (.iadd, 1) := by decide +kernel
theorem dX12_laysAside_18 : decode cX12_laysAside 18 = .ok (.aload_n 0, 1) := by decide +kernel
theorem dX12_laysAside_19 : decode cX12_laysAside 19 = .ok (.getfield 24, 3) := by decide +kernel
theorem dX12_laysAside_22 : decode cX12_laysAside 22 = .ok (.iload_n 2, 1) := by decide +kernel
theorem dX12_laysAside_23 : decode cX12_laysAside 23 = .ok (.iaload, 1) := by decide +kernel
theorem dX12_laysAside_24 : decode cX12_laysAside 24 = .ok (.iastore, 1) := by decide +kernel
theorem dX12_laysAside_25 : decode cX12_laysAside 25 = .ok (.iinc 2 1, 3) := by decide +kernel
theorem dX12_laysAside_28 : decode cX12_laysAside 28 = .ok (.goto (-26), 3) := by decide +kernel
theorem dX12_laysAside_31 : decode cX12_laysAside 31 = .ok (.return_, 1) := by decide +kernel
theorem dX12_takesBack_0 : decode cX12_takesBack 0 = .ok (.iconst 0, 1) := by decide +kernel
theorem dX12_takesBack_1 : decode cX12_takesBack 1 = .ok (.istore_n 2, 1) := by decide +kernel
theorem dX12_takesBack_2 : decode cX12_takesBack 2 = .ok (.iload_n 2, 1) := by decide +kernel
theorem dX12_takesBack_3 : decode cX12_takesBack 3 = .ok (.bipush 23, 2) := by decide +kernel
theorem dX12_takesBack_5 : decode cX12_takesBack 5 = .ok (.if_icmp .ge 26, 3) := by decide +kernel
theorem dX12_takesBack_8 : decode cX12_takesBack 8 = .ok (.aload_n 0, 1) := by decide +kernel
theorem dX12_takesBack_9 : decode cX12_takesBack 9 = .ok (.getfield 24, 3) := by decide +kernel
theorem dX12_takesBack_12 : decode cX12_takesBack 12 = .ok (.iload_n 2, 1) := by decide +kernel
theorem dX12_takesBack_13 : decode cX12_takesBack 13 = .ok (.aload_n 0, 1) := by decide +kernel
theorem dX12_takesBack_14 : decode cX12_takesBack 14 = .ok (.getfield 34, 3) := by decide +kernel
theorem dX12_takesBack_17 : decode cX12_takesBack 17 = .ok (.bipush 23, 2) := by decide +kernel
theorem dX12_takesBack_19 : decode cX12_takesBack 19 = .ok (.iload_n 1, 1) := by decide +kernel
theorem dX12_takesBack_20 : decode cX12_takesBack 20 = .ok (.imul, 1) := by decide +kernel
theorem dX12_takesBack_21 : decode cX12_takesBack 21 = .ok (.iload_n 2, 1) := by decide +kernel
theorem dX12_takesBack_22 : decode cX12_takesBack 22 = .ok (.iadd, 1) := by decide +kernel
theorem dX12_takesBack_23 : decode cX12_takesBack 23 = .ok (.iaload, 1) := by decide +kernel
theorem dX12_takesBack_24 : decode cX12_takesBack 24 = .ok (.iastore, 1) := by decide +kernel
theorem dX12_takesBack_25 : decode cX12_takesBack 25 = .ok (.iinc 2 1, 3) := by decide +kernel
theorem dX12_takesBack_28 : decode cX12_takesBack 28 = .ok (.goto (-26), 3) := by decide +kernel
theorem dX12_takesBack_31 : decode cX12_takesBack 31 = .ok (.return_, 1) := by decide +kernel
theorem dX12_image_0 : decode cX12_image 0 = .ok (.iload_n 1, 1) := by decide +kernel
theorem dX12_image_1 : decode cX12_image 1 = .ok (.iconst 0, 1) := by decide +kernel
theorem dX12_image_2 : decode cX12_image 2 = .ok (.iconst 1, 1) := by decide +kernel
theorem dX12_image_3 : decode cX12_image 3 = .ok (.invokestatic 96, 3) := by decide +kernel
theorem dX12_image_6 : decode cX12_image 6 = .ok (.ifCond .ne 9, 3) := by decide +kernel
theorem dX12_image_9 : decode cX12_image 9 = .ok (.aload_n 0, 1) := by decide +kernel
theorem dX12_image_10 : decode cX12_image 10 = .ok (.iconst (-1), 1) := by decide +kernel
theorem dX12_image_11 : decode cX12_image 11 = .ok (.invokevirtual 100, 3) := by decide +kernel
theorem dX12_image_14 : decode cX12_image 14 = .ok (.ireturn, 1) := by decide +kernel
theorem dX12_image_15 : decode cX12_image 15 = .ok (.iconst 0, 1) := by decide +kernel
theorem dX12_image_16 : decode cX12_image 16 = .ok (.istore_n 2, 1) := by decide +kernel
theorem dX12_image_17 : decode cX12_image 17 = .ok (.iload_n 2, 1) := by decide +kernel
theorem dX12_image_18 : decode cX12_image 18 = .ok (.sipush 5714, 3) := by decide +kernel
theorem dX12_image_21 : decode cX12_image 21 = .ok (.if_icmp .ge 27, 3) := by decide +kernel
theorem dX12_image_24 : decode cX12_image 24 = .ok (.aload_n 0, 1) := by decide +kernel
theorem dX12_image_25 : decode cX12_image 25 = .ok (.getfield 27, 3) := by decide +kernel
theorem dX12_image_28 : decode cX12_image 28 = .ok (.sipush 5714, 3) := by decide +kernel
theorem dX12_image_31 : decode cX12_image 31 = .ok (.iload_n 1, 1) := by decide +kernel
theorem dX12_image_32 : decode cX12_image 32 = .ok (.imul, 1) := by decide +kernel
theorem dX12_image_33 : decode cX12_image 33 = .ok (.iload_n 2, 1) := by decide +kernel
theorem dX12_image_34 : decode cX12_image 34 = .ok (.iadd, 1) := by decide +kernel
theorem dX12_image_35 : decode cX12_image 35 = .ok (.aload_n 0, 1) := by decide +kernel
theorem dX12_image_36 : decode cX12_image 36 = .ok (.getfield 24, 3) := by decide +kernel
theorem dX12_image_39 : decode cX12_image 39 = .ok (.iload_n 2, 1) := by decide +kernel
theorem dX12_image_40 : decode cX12_image 40 = .ok (.iaload, 1) := by decide +kernel
theorem dX12_image_41 : decode cX12_image 41 = .ok (.iastore, 1) := by decide +kernel
theorem dX12_image_42 : decode cX12_image 42 = .ok (.iinc 2 1, 3) := by decide +kernel
theorem dX12_image_45 : decode cX12_image 45 = .ok (.goto (-28), 3) := by decide +kernel
theorem dX12_image_48 : decode cX12_image 48 = .ok (.aload_n 0, 1) := by decide +kernel
theorem dX12_image_49 : decode cX12_image 49 = .ok (.getfield 30, 3) := by decide +kernel
theorem dX12_image_52 : decode cX12_image 52 = .ok (.iload_n 1, 1) := by decide +kernel
theorem dX12_image_53 : decode cX12_image 53 = .ok (.iconst 1, 1) := by decide +kernel
theorem dX12_image_54 : decode cX12_image 54 = .ok (.bastore, 1) := by decide +kernel
theorem dX12_image_55 : decode cX12_image 55 = .ok (.aload_n 0, 1) := by decide +kernel
theorem dX12_image_56 : decode cX12_image 56 = .ok (.iconst 0, 1) := by decide +kernel
theorem dX12_image_57 : decode cX12_image 57 = .ok (.invokevirtual 14, 3) := by decide +kernel
theorem dX12_image_60 : decode cX12_image 60 = .ok (.ireturn, 1) := by decide +kernel
theorem dX12_back_0 : decode cX12_back 0 = .ok (.iload_n 1, 1) := by decide +kernel
theorem dX12_back_1 : decode cX12_back 1 = .ok (.iconst 0, 1) := by decide +kernel
theorem dX12_back_2 : decode cX12_back 2 = .ok (.iconst 1, 1) := by decide +kernel
theorem dX12_back_3 : decode cX12_back 3 = .ok (.invokestatic 96, 3) := by decide +kernel
theorem dX12_back_6 : decode cX12_back 6 = .ok (.ifCond .ne 9, 3) := by decide +kernel
theorem dX12_back_9 : decode cX12_back 9 = .ok (.aload_n 0, 1) := by decide +kernel
theorem dX12_back_10 : decode cX12_back 10 = .ok (.iconst (-1), 1) := by decide +kernel
theorem dX12_back_11 : decode cX12_back 11 = .ok (.invokevirtual 100, 3) := by decide +kernel
theorem dX12_back_14 : decode cX12_back 14 = .ok (.ireturn, 1) := by decide +kernel
theorem dX12_back_15 : decode cX12_back 15 = .ok (.aload_n 0, 1) := by decide +kernel
theorem dX12_back_16 : decode cX12_back 16 = .ok (.getfield 30, 3) := by decide +kernel
theorem dX12_back_19 : decode cX12_back 19 = .ok (.iload_n 1, 1) := by decide +kernel
theorem dX12_back_20 : decode cX12_back 20 = .ok (.baload, 1) := by decide +kernel
theorem dX12_back_21 : decode cX12_back 21 = .ok (.ifCond .ne 10, 3) := by decide +kernel
theorem dX12_back_24 : decode cX12_back 24 = .ok (.aload_n 0, 1) := by decide +kernel
theorem dX12_back_25 : decode cX12_back 25 = .ok (.bipush (-2), 2) := by decide +kernel
theorem dX12_back_27 : decode cX12_back 27 = .ok (.invokevirtual 100, 3) := by decide +kernel
theorem dX12_back_30 : decode cX12_back 30 = .ok (.ireturn, 1) := by decide +kernel
theorem dX12_isPart_0 : decode cX12_isPart 0 = .ok (.iload_n 1, 1) := by decide +kernel
theorem dX12_isPart_1 : decode cX12_isPart 1 = .ok (.iconst 0, 1) := by decide +kernel
theorem dX12_isPart_2 : decode cX12_isPart 2 = .ok (.aload_n 0, 1) := by decide +kernel
theorem dX12_isPart_3 : decode cX12_isPart 3 = .ok (.getfield 24, 3) := by decide +kernel
theorem dX12_isPart_6 : decode cX12_isPart 6 = .ok (.bipush 102, 2) := by decide +kernel
theorem dX12_isPart_8 : decode cX12_isPart 8 = .ok (.iaload, 1) := by decide +kernel
theorem dX12_isPart_9 : decode cX12_isPart 9 = .ok (.iconst 1, 1) := by decide +kernel
theorem dX12_isPart_10 : decode cX12_isPart 10 = .ok (.isub, 1) := by decide +kernel
theorem dX12_isPart_11 : decode cX12_isPart 11 = .ok (.invokestatic 96, 3) := by decide +kernel
theorem dX12_isPart_14 : decode cX12_isPart 14 = .ok (.ireturn, 1) := by decide +kernel
theorem dX12_isBuilder_0 : decode cX12_isBuilder 0 = .ok (.iload_n 1, 1) := by decide +kernel
theorem dX12_isBuilder_1 : decode cX12_isBuilder 1 = .ok (.iconst 0, 1) := by decide +kernel
theorem dX12_isBuilder_2 : decode cX12_isBuilder 2 = .ok (.aload_n 0, 1) := by decide +kernel
theorem dX12_isBuilder_3 : decode cX12_isBuilder 3 = .ok (.getfield 24, 3) := by decide +kernel
theorem dX12_isBuilder_6 : decode cX12_isBuilder 6 = .ok (.bipush 103, 2) := by decide +kernel
theorem dX12_isBuilder_8 : decode cX12_isBuilder 8 = .ok (.iaload, 1) := by decide +kernel
theorem dX12_isBuilder_9 : decode cX12_isBuilder 9 = .ok (.iconst 1, 1) := by decide +kernel
theorem dX12_isBuilder_10 : decode cX12_isBuilder 10 = .ok (.isub, 1) := by decide +kernel
theorem dX12_isBuilder_11 : decode cX12_isBuilder 11 = .ok (.invokestatic 96, 3) := by decide +kernel
theorem dX12_isBuilder_14 : decode cX12_isBuilder 14 = .ok (.ireturn, 1) := by decide +kernel
theorem dX12_canPart_0 : decode cX12_canPart 0 = .ok (.iload_n 1, 1) := by decide +kernel
theorem dX12_canPart_1 : decode cX12_canPart 1 = .ok (.iconst 1, 1) := by decide +kernel
theorem dX12_canPart_2 : decode cX12_canPart 2 = .ok (.bipush 99, 2) := by decide +kernel
theorem dX12_canPart_4 : decode cX12_canPart 4 = .ok (.invokestatic 96, 3) := by decide +kernel
theorem dX12_canPart_7 : decode cX12_canPart 7 = .ok (.ifCond .eq 46, 3) := by decide +kernel
theorem dX12_canPart_10 : decode cX12_canPart 10 = .ok (.iload_n 2, 1) := by decide +kernel
theorem dX12_canPart_11 : decode cX12_canPart 11 = .ok (.iconst 0, 1) := by decide +kernel
theorem dX12_canPart_12 : decode cX12_canPart 12 = .ok (.iconst 1, 1) := by decide +kernel
theorem dX12_canPart_13 : decode cX12_canPart 13 = .ok (.aload_n 0, 1) := by decide +kernel
theorem dX12_canPart_14 : decode cX12_canPart 14 = .ok (.getfield 24, 3) := by decide +kernel
theorem dX12_canPart_17 : decode cX12_canPart 17 = .ok (.bipush 102, 2) := by decide +kernel
theorem dX12_canPart_19 : decode cX12_canPart 19 = .ok (.iaload, 1) := by decide +kernel
theorem dX12_canPart_20 : decode cX12_canPart 20 = .ok (.ishl, 1) := by decide +kernel
theorem dX12_canPart_21 : decode cX12_canPart 21 = .ok (.iconst 1, 1) := by decide +kernel
theorem dX12_canPart_22 : decode cX12_canPart 22 = .ok (.isub, 1) := by decide +kernel
theorem dX12_canPart_23 : decode cX12_canPart 23 = .ok (.invokestatic 96, 3) := by decide +kernel
theorem dX12_canPart_26 : decode cX12_canPart 26 = .ok (.ifCond .eq 27, 3) := by decide +kernel
theorem dX12_canPart_29 : decode cX12_canPart 29 = .ok (.iload_n 3, 1) := by decide +kernel
theorem dX12_canPart_30 : decode cX12_canPart 30 = .ok (.iconst 0, 1) := by decide +kernel
theorem dX12_canPart_31 : decode cX12_canPart 31 = .ok (.iconst 3, 1) := by decide +kernel
theorem dX12_canPart_32 : decode cX12_canPart 32 = .ok (.invokestatic 96, 3) := by decide +kernel
theorem dX12_canPart_35 : decode cX12_canPart 35 = .ok (.ifCond .eq 18, 3) := by decide +kernel
theorem dX12_canPart_38 : decode cX12_canPart 38 = .ok (.iload 4, 2) := by decide +kernel
theorem dX12_canPart_40 : decode cX12_canPart 40 = .ok (.iconst 0, 1) := by decide +kernel
theorem dX12_canPart_41 : decode cX12_canPart 41 = .ok (.bipush 9, 2) := by decide +kernel
theorem dX12_canPart_43 : decode cX12_canPart 43 = .ok (.invokestatic 96, 3) := by decide +kernel
theorem dX12_canPart_46 : decode cX12_canPart 46 = .ok (.ifCond .eq 7, 3) := by decide +kernel
theorem dX12_canPart_49 : decode cX12_canPart 49 = .ok (.iconst 1, 1) := by decide +kernel
theorem dX12_canPart_50 : decode cX12_canPart 50 = .ok (.goto 4, 3) := by decide +kernel
theorem dX12_canPart_53 : decode cX12_canPart 53 = .ok (.iconst 0, 1) := by decide +kernel
theorem dX12_canPart_54 : decode cX12_canPart 54 = .ok (.ireturn, 1) := by decide +kernel
theorem dX12_addsPart_0 : decode cX12_addsPart 0 = .ok (.aload_n 0, 1) := by decide +kernel
theorem dX12_addsPart_1 : decode cX12_addsPart 1 = .ok (.getfield 24, 3) := by decide +kernel
theorem dX12_addsPart_4 : decode cX12_addsPart 4 = .ok (.bipush 102, 2) := by decide +kernel
theorem dX12_addsPart_6 : decode cX12_addsPart 6 = .ok (.iaload, 1) := by decide +kernel
theorem dX12_addsPart_7 : decode cX12_addsPart 7 = .ok (.istore 5, 2) := by decide +kernel
theorem dX12_addsPart_9 : decode cX12_addsPart 9 = .ok (.aload_n 0, 1) := by decide +kernel
theorem dX12_addsPart_10 : decode cX12_addsPart 10 = .ok (.getfield 24, 3) := by decide +kernel
theorem dX12_addsPart_13 : decode cX12_addsPart 13 = .ok (.bipush 23, 2) := by decide +kernel
theorem dX12_addsPart_15 : decode cX12_addsPart 15 = .ok (.iload 5, 2) := by decide +kernel
theorem dX12_addsPart_17 : decode cX12_addsPart 17 = .ok (.iadd, 1) := by decide +kernel
theorem dX12_addsPart_18 : decode cX12_addsPart 18 = .ok (.iload_n 1, 1) := by decide +kernel
theorem dX12_addsPart_19 : decode cX12_addsPart 19 = .ok (.iastore, 1) := by decide +kernel
theorem dX12_addsPart_20 : decode cX12_addsPart 20 = .ok (.aload_n 0, 1) := by decide +kernel
theorem dX12_addsPart_21 : decode cX12_addsPart 21 = .ok (.getfield 24, 3) := by decide +kernel
theorem dX12_addsPart_24 : decode cX12_addsPart 24 = .ok (.bipush 33, 2) := by decide +kernel
theorem dX12_addsPart_26 : decode cX12_addsPart 26 = .ok (.iload 5, 2) := by decide +kernel
theorem dX12_addsPart_28 : decode cX12_addsPart 28 = .ok (.iadd, 1) := by decide +kernel
theorem dX12_addsPart_29 : decode cX12_addsPart 29 = .ok (.iload_n 2, 1) := by decide +kernel
theorem dX12_addsPart_30 : decode cX12_addsPart 30 = .ok (.iastore, 1) := by decide +kernel
theorem dX12_addsPart_31 : decode cX12_addsPart 31 = .ok (.aload_n 0, 1) := by decide +kernel
theorem dX12_addsPart_32 : decode cX12_addsPart 32 = .ok (.getfield 24, 3) := by decide +kernel
theorem dX12_addsPart_35 : decode cX12_addsPart 35 = .ok (.bipush 43, 2) := by decide +kernel
theorem dX12_addsPart_37 : decode cX12_addsPart 37 = .ok (.iload 5, 2) := by decide +kernel
theorem dX12_addsPart_39 : decode cX12_addsPart 39 = .ok (.iadd, 1) := by decide +kernel
theorem dX12_addsPart_40 : decode cX12_addsPart 40 = .ok (.iload_n 3, 1) := by decide +kernel
theorem dX12_addsPart_41 : decode cX12_addsPart 41 = .ok (.iastore, 1) := by decide +kernel
theorem dX12_addsPart_42 : decode cX12_addsPart 42 = .ok (.aload_n 0, 1) := by decide +kernel
theorem dX12_addsPart_43 : decode cX12_addsPart 43 = .ok (.getfield 24, 3) := by decide +kernel
theorem dX12_addsPart_46 : decode cX12_addsPart 46 = .ok (.bipush 53, 2) := by decide +kernel
theorem dX12_addsPart_48 : decode cX12_addsPart 48 = .ok (.iload 5, 2) := by decide +kernel
theorem dX12_addsPart_50 : decode cX12_addsPart 50 = .ok (.iadd, 1) := by decide +kernel
theorem dX12_addsPart_51 : decode cX12_addsPart 51 = .ok (.iload 4, 2) := by decide +kernel
theorem dX12_addsPart_53 : decode cX12_addsPart 53 = .ok (.iastore, 1) := by decide +kernel
theorem dX12_addsPart_54 : decode cX12_addsPart 54 = .ok (.aload_n 0, 1) := by decide +kernel
theorem dX12_addsPart_55 : decode cX12_addsPart 55 = .ok (.getfield 24, 3) := by decide +kernel
theorem dX12_addsPart_58 : decode cX12_addsPart 58 = .ok (.iconst 0, 1) := by decide +kernel
theorem dX12_addsPart_59 : decode cX12_addsPart 59 = .ok (.iload 5, 2) := by decide +kernel
theorem dX12_addsPart_61 : decode cX12_addsPart 61 = .ok (.iadd, 1) := by decide +kernel
theorem dX12_addsPart_62 : decode cX12_addsPart 62 = .ok (.iload_n 1, 1) := by decide +kernel
theorem dX12_addsPart_63 : decode cX12_addsPart 63 = .ok (.iastore, 1) := by decide +kernel
theorem dX12_addsPart_64 : decode cX12_addsPart 64 = .ok (.aload_n 0, 1) := by decide +kernel
theorem dX12_addsPart_65 : decode cX12_addsPart 65 = .ok (.getfield 24, 3) := by decide +kernel
theorem dX12_addsPart_68 : decode cX12_addsPart 68 = .ok (.bipush 102, 2) := by decide +kernel
theorem dX12_addsPart_70 : decode cX12_addsPart 70 = .ok (.dup2, 1) := by decide +kernel
theorem dX12_addsPart_71 : decode cX12_addsPart 71 = .ok (.iaload, 1) := by decide +kernel
theorem dX12_addsPart_72 : decode cX12_addsPart 72 = .ok (.iconst 1, 1) := by decide +kernel
theorem dX12_addsPart_73 : decode cX12_addsPart 73 = .ok (.iadd, 1) := by decide +kernel
theorem dX12_addsPart_74 : decode cX12_addsPart 74 = .ok (.iastore, 1) := by decide +kernel
theorem dX12_addsPart_75 : decode cX12_addsPart 75 = .ok (.return_, 1) := by decide +kernel
theorem dX12_part_0 : decode cX12_part 0 = .ok (.aload_n 0, 1) := by decide +kernel
theorem dX12_part_1 : decode cX12_part 1 = .ok (.iload_n 1, 1) := by decide +kernel
theorem dX12_part_2 : decode cX12_part 2 = .ok (.iload_n 2, 1) := by decide +kernel
theorem dX12_part_3 : decode cX12_part 3 = .ok (.iload_n 3, 1) := by decide +kernel
theorem dX12_part_4 : decode cX12_part 4 = .ok (.iload 4, 2) := by decide +kernel
theorem dX12_part_6 : decode cX12_part 6 = .ok (.invokevirtual 106, 3) := by decide +kernel
theorem dX12_part_9 : decode cX12_part 9 = .ok (.ifCond .ne 9, 3) := by decide +kernel
theorem dX12_part_12 : decode cX12_part 12 = .ok (.aload_n 0, 1) := by decide +kernel
theorem dX12_part_13 : decode cX12_part 13 = .ok (.iconst (-1), 1) := by decide +kernel
theorem dX12_part_14 : decode cX12_part 14 = .ok (.invokevirtual 100, 3) := by decide +kernel
theorem dX12_part_17 : decode cX12_part 17 = .ok (.ireturn, 1) := by decide +kernel
theorem dX12_part_18 : decode cX12_part 18 = .ok (.aload_n 0, 1) := by decide +kernel
theorem dX12_part_19 : decode cX12_part 19 = .ok (.getfield 24, 3) := by decide +kernel
theorem dX12_part_22 : decode cX12_part 22 = .ok (.bipush 102, 2) := by decide +kernel
theorem dX12_part_24 : decode cX12_part 24 = .ok (.iaload, 1) := by decide +kernel
theorem dX12_part_25 : decode cX12_part 25 = .ok (.bipush 10, 2) := by decide +kernel
theorem dX12_part_27 : decode cX12_part 27 = .ok (.if_icmp .ne 10, 3) := by decide +kernel
theorem dX12_part_37 : decode cX12_part 37 = .ok (.aload_n 0, 1) := by decide +kernel
theorem dX12_part_38 : decode cX12_part 38 = .ok (.iload_n 1, 1) := by decide +kernel
theorem dX12_part_39 : decode cX12_part 39 = .ok (.iload_n 2, 1) := by decide +kernel
theorem dX12_part_40 : decode cX12_part 40 = .ok (.iload_n 3, 1) := by decide +kernel
theorem dX12_part_41 : decode cX12_part 41 = .ok (.iload 4, 2) := by decide +kernel
theorem dX12_part_43 : decode cX12_part 43 = .ok (.invokevirtual 110, 3) := by decide +kernel
theorem dX12_part_46 : decode cX12_part 46 = .ok (.aload_n 0, 1) := by decide +kernel
theorem dX12_part_47 : decode cX12_part 47 = .ok (.aload_n 0, 1) := by decide +kernel
theorem dX12_part_48 : decode cX12_part 48 = .ok (.getfield 24, 3) := by decide +kernel
theorem dX12_part_51 : decode cX12_part 51 = .ok (.bipush 102, 2) := by decide +kernel
theorem dX12_part_53 : decode cX12_part 53 = .ok (.iaload, 1) := by decide +kernel
theorem dX12_part_54 : decode cX12_part 54 = .ok (.iconst 1, 1) := by decide +kernel
theorem dX12_part_55 : decode cX12_part 55 = .ok (.isub, 1) := by decide +kernel
theorem dX12_part_56 : decode cX12_part 56 = .ok (.invokevirtual 103, 3) := by decide +kernel
theorem dX12_part_59 : decode cX12_part 59 = .ok (.ireturn, 1) := by decide +kernel
theorem dX12_standing_0 : decode cX12_standing 0 = .ok (.iconst 0, 1) := by decide +kernel
theorem dX12_standing_1 : decode cX12_standing 1 = .ok (.istore_n 1, 1) := by decide +kernel
theorem dX12_standing_2 : decode cX12_standing 2 = .ok (.iconst 0, 1) := by decide +kernel
theorem dX12_standing_3 : decode cX12_standing 3 = .ok (.istore_n 2, 1) := by decide +kernel
theorem dX12_standing_4 : decode cX12_standing 4 = .ok (.iload_n 2, 1) := by decide +kernel
theorem dX12_standing_5 : decode cX12_standing 5 = .ok (.aload_n 0, 1) := by decide +kernel
theorem dX12_standing_6 : decode cX12_standing 6 = .ok (.getfield 24, 3) := by decide +kernel
theorem dX12_standing_9 : decode cX12_standing 9 = .ok (.bipush 102, 2) := by decide +kernel
theorem dX12_standing_11 : decode cX12_standing 11 = .ok (.iaload, 1) := by decide +kernel
theorem dX12_standing_12 : decode cX12_standing 12 = .ok (.if_icmp .ge 27, 3) := by decide +kernel
theorem dX12_standing_39 : decode cX12_standing 39 = .ok (.iload_n 1, 1) := by decide +kernel
theorem dX12_standing_40 : decode cX12_standing 40 = .ok (.ireturn, 1) := by decide +kernel
theorem dX12_allParts_0 : decode cX12_allParts 0 = .ok (.iconst 1, 1) := by decide +kernel
theorem dX12_allParts_1 : decode cX12_allParts 1 = .ok (.aload_n 0, 1) := by decide +kernel
theorem dX12_allParts_2 : decode cX12_allParts 2 = .ok (.getfield 24, 3) := by decide +kernel
theorem dX12_allParts_5 : decode cX12_allParts 5 = .ok (.bipush 102, 2) := by decide +kernel
theorem dX12_allParts_7 : decode cX12_allParts 7 = .ok (.iaload, 1) := by decide +kernel
theorem dX12_allParts_8 : decode cX12_allParts 8 = .ok (.ishl, 1) := by decide +kernel
theorem dX12_allParts_9 : decode cX12_allParts 9 = .ok (.iconst 1, 1) := by decide +kernel
theorem dX12_allParts_10 : decode cX12_allParts 10 = .ok (.isub, 1) := by decide +kernel
theorem dX12_allParts_11 : decode cX12_allParts 11 = .ok (.ireturn, 1) := by decide +kernel
theorem dX12_of_0 : decode cX12_of 0 = .ok (.aload_n 0, 1) := by decide +kernel
theorem dX12_of_1 : decode cX12_of 1 = .ok (.iload_n 1, 1) := by decide +kernel
theorem dX12_of_2 : decode cX12_of 2 = .ok (.invokevirtual 122, 3) := by decide +kernel
theorem dX12_of_5 : decode cX12_of 5 = .ok (.ifCond .ne 5, 3) := by decide +kernel
theorem dX12_of_8 : decode cX12_of 8 = .ok (.iconst (-1), 1) := by decide +kernel
theorem dX12_of_9 : decode cX12_of 9 = .ok (.ireturn, 1) := by decide +kernel
theorem dX12_builder_0 : decode cX12_builder 0 = .ok (.iload_n 1, 1) := by decide +kernel
theorem dX12_builder_1 : decode cX12_builder 1 = .ok (.iconst 1, 1) := by decide +kernel
theorem dX12_builder_2 : decode cX12_builder 2 = .ok (.bipush 15, 2) := by decide +kernel
theorem dX12_builder_4 : decode cX12_builder 4 = .ok (.invokestatic 96, 3) := by decide +kernel
theorem dX12_builder_7 : decode cX12_builder 7 = .ok (.ifCond .eq 13, 3) := by decide +kernel
theorem dX12_builder_10 : decode cX12_builder 10 = .ok (.iload_n 2, 1) := by decide +kernel
theorem dX12_builder_11 : decode cX12_builder 11 = .ok (.iconst 1, 1) := by decide +kernel
theorem dX12_builder_12 : decode cX12_builder 12 = .ok (.bipush 9, 2) := by decide +kernel
theorem dX12_builder_14 : decode cX12_builder 14 = .ok (.invokestatic 96, 3) := by decide +kernel
theorem dX12_builder_17 : decode cX12_builder 17 = .ok (.ifCond .ne 9, 3) := by decide +kernel
theorem dX12_builder_20 : decode cX12_builder 20 = .ok (.aload_n 0, 1) := by decide +kernel
theorem dX12_builder_21 : decode cX12_builder 21 = .ok (.iconst (-1), 1) := by decide +kernel
theorem dX12_builder_22 : decode cX12_builder 22 = .ok (.invokevirtual 100, 3) := by decide +kernel
theorem dX12_builder_25 : decode cX12_builder 25 = .ok (.ireturn, 1) := by decide +kernel
theorem dX12_builder_26 : decode cX12_builder 26 = .ok (.aload_n 0, 1) := by decide +kernel
theorem dX12_builder_27 : decode cX12_builder 27 = .ok (.getfield 24, 3) := by decide +kernel
theorem dX12_builder_30 : decode cX12_builder 30 = .ok (.bipush 103, 2) := by decide +kernel
theorem dX12_builder_32 : decode cX12_builder 32 = .ok (.iaload, 1) := by decide +kernel
theorem dX12_builder_33 : decode cX12_builder 33 = .ok (.istore_n 3, 1) := by decide +kernel
theorem dX12_builder_34 : decode cX12_builder 34 = .ok (.iload_n 3, 1) := by decide +kernel
theorem dX12_builder_35 : decode cX12_builder 35 = .ok (.bipush 6, 2) := by decide +kernel
theorem dX12_builder_37 : decode cX12_builder 37 = .ok (.if_icmp .ne 10, 3) := by decide +kernel
theorem dX12_builder_47 : decode cX12_builder 47 = .ok (.aload_n 0, 1) := by decide +kernel
theorem dX12_builder_48 : decode cX12_builder 48 = .ok (.getfield 24, 3) := by decide +kernel
theorem dX12_builder_51 : decode cX12_builder 51 = .ok (.bipush 63, 2) := by decide +kernel
theorem dX12_builder_53 : decode cX12_builder 53 = .ok (.iload_n 3, 1) := by decide +kernel
theorem dX12_builder_54 : decode cX12_builder 54 = .ok (.iadd, 1) := by decide +kernel
theorem dX12_builder_55 : decode cX12_builder 55 = .ok (.iload_n 1, 1) := by decide +kernel
theorem dX12_builder_56 : decode cX12_builder 56 = .ok (.iastore, 1) := by decide +kernel
theorem dX12_builder_57 : decode cX12_builder 57 = .ok (.aload_n 0, 1) := by decide +kernel
theorem dX12_builder_58 : decode cX12_builder 58 = .ok (.getfield 24, 3) := by decide +kernel
theorem dX12_builder_61 : decode cX12_builder 61 = .ok (.bipush 69, 2) := by decide +kernel
theorem dX12_builder_63 : decode cX12_builder 63 = .ok (.iload_n 3, 1) := by decide +kernel
theorem dX12_builder_64 : decode cX12_builder 64 = .ok (.iadd, 1) := by decide +kernel
theorem dX12_builder_65 : decode cX12_builder 65 = .ok (.iload_n 2, 1) := by decide +kernel
theorem dX12_builder_66 : decode cX12_builder 66 = .ok (.iastore, 1) := by decide +kernel
theorem dX12_builder_67 : decode cX12_builder 67 = .ok (.aload_n 0, 1) := by decide +kernel
theorem dX12_builder_68 : decode cX12_builder 68 = .ok (.getfield 24, 3) := by decide +kernel
theorem dX12_builder_71 : decode cX12_builder 71 = .ok (.bipush 10, 2) := by decide +kernel
theorem dX12_builder_73 : decode cX12_builder 73 = .ok (.iload_n 3, 1) := by decide +kernel
theorem dX12_builder_74 : decode cX12_builder 74 = .ok (.iadd, 1) := by decide +kernel
theorem dX12_builder_75 : decode cX12_builder 75 = .ok (.iconst 0, 1) := by decide +kernel
theorem dX12_builder_76 : decode cX12_builder 76 = .ok (.iastore, 1) := by decide +kernel
theorem dX12_builder_77 : decode cX12_builder 77 = .ok (.aload_n 0, 1) := by decide +kernel
theorem dX12_builder_78 : decode cX12_builder 78 = .ok (.getfield 24, 3) := by decide +kernel
theorem dX12_builder_81 : decode cX12_builder 81 = .ok (.bipush 16, 2) := by decide +kernel
theorem dX12_builder_83 : decode cX12_builder 83 = .ok (.iload_n 3, 1) := by decide +kernel
theorem dX12_builder_84 : decode cX12_builder 84 = .ok (.iadd, 1) := by decide +kernel
theorem dX12_builder_85 : decode cX12_builder 85 = .ok (.iconst (-1), 1) := by decide +kernel
theorem dX12_builder_86 : decode cX12_builder 86 = .ok (.iastore, 1) := by decide +kernel
theorem dX12_builder_87 : decode cX12_builder 87 = .ok (.aload_n 0, 1) := by decide +kernel
theorem dX12_builder_88 : decode cX12_builder 88 = .ok (.getfield 24, 3) := by decide +kernel
theorem dX12_builder_91 : decode cX12_builder 91 = .ok (.bipush 103, 2) := by decide +kernel
theorem dX12_builder_93 : decode cX12_builder 93 = .ok (.dup2, 1) := by decide +kernel
theorem dX12_builder_94 : decode cX12_builder 94 = .ok (.iaload, 1) := by decide +kernel
theorem dX12_builder_95 : decode cX12_builder 95 = .ok (.iconst 1, 1) := by decide +kernel
theorem dX12_builder_96 : decode cX12_builder 96 = .ok (.iadd, 1) := by decide +kernel
theorem dX12_builder_97 : decode cX12_builder 97 = .ok (.iastore, 1) := by decide +kernel
theorem dX12_builder_98 : decode cX12_builder 98 = .ok (.aload_n 0, 1) := by decide +kernel
theorem dX12_builder_99 : decode cX12_builder 99 = .ok (.iload_n 3, 1) := by decide +kernel
theorem dX12_builder_100 : decode cX12_builder 100 = .ok (.invokevirtual 103, 3) := by decide +kernel
theorem dX12_builder_103 : decode cX12_builder 103 = .ok (.ireturn, 1) := by decide +kernel
theorem dX12_at_0 : decode cX12_at 0 = .ok (.aload_n 0, 1) := by decide +kernel
theorem dX12_at_1 : decode cX12_at 1 = .ok (.iload_n 1, 1) := by decide +kernel
theorem dX12_at_2 : decode cX12_at 2 = .ok (.invokevirtual 131, 3) := by decide +kernel
theorem dX12_at_5 : decode cX12_at 5 = .ok (.ifCond .ne 5, 3) := by decide +kernel
theorem dX12_at_8 : decode cX12_at 8 = .ok (.iconst (-1), 1) := by decide +kernel
theorem dX12_at_9 : decode cX12_at 9 = .ok (.ireturn, 1) := by decide +kernel
theorem dX12_isTerm_0 : decode cX12_isTerm 0 = .ok (.iload_n 0, 1) := by decide +kernel
theorem dX12_isTerm_1 : decode cX12_isTerm 1 = .ok (.tableswitch 64 0 3 #[31, 40, 48, 56], 31) := by decide +kernel
theorem dX12_isTerm_32 : decode cX12_isTerm 32 = .ok (.iload_n 1, 1) := by decide +kernel
theorem dX12_isTerm_33 : decode cX12_isTerm 33 = .ok (.iconst 0, 1) := by decide +kernel
theorem dX12_isTerm_34 : decode cX12_isTerm 34 = .ok (.sipush 999, 3) := by decide +kernel
theorem dX12_isTerm_37 : decode cX12_isTerm 37 = .ok (.invokestatic 96, 3) := by decide +kernel
theorem dX12_isTerm_40 : decode cX12_isTerm 40 = .ok (.ireturn, 1) := by decide +kernel
theorem dX12_isTerm_41 : decode cX12_isTerm 41 = .ok (.iload_n 1, 1) := by decide +kernel
theorem dX12_isTerm_42 : decode cX12_isTerm 42 = .ok (.iconst 1, 1) := by decide +kernel
theorem dX12_isTerm_43 : decode cX12_isTerm 43 = .ok (.bipush 99, 2) := by decide +kernel
theorem dX12_isTerm_45 : decode cX12_isTerm 45 = .ok (.invokestatic 96, 3) := by decide +kernel
theorem dX12_isTerm_48 : decode cX12_isTerm 48 = .ok (.ireturn, 1) := by decide +kernel
theorem dX12_isTerm_49 : decode cX12_isTerm 49 = .ok (.iload_n 1, 1) := by decide +kernel
theorem dX12_isTerm_50 : decode cX12_isTerm 50 = .ok (.iconst 0, 1) := by decide +kernel
theorem dX12_isTerm_51 : decode cX12_isTerm 51 = .ok (.bipush 10, 2) := by decide +kernel
theorem dX12_isTerm_53 : decode cX12_isTerm 53 = .ok (.invokestatic 96, 3) := by decide +kernel
theorem dX12_isTerm_56 : decode cX12_isTerm 56 = .ok (.ireturn, 1) := by decide +kernel
theorem dX12_isTerm_57 : decode cX12_isTerm 57 = .ok (.iload_n 1, 1) := by decide +kernel
theorem dX12_isTerm_58 : decode cX12_isTerm 58 = .ok (.iconst 0, 1) := by decide +kernel
theorem dX12_isTerm_59 : decode cX12_isTerm 59 = .ok (.bipush 9, 2) := by decide +kernel
theorem dX12_isTerm_61 : decode cX12_isTerm 61 = .ok (.invokestatic 96, 3) := by decide +kernel
theorem dX12_isTerm_64 : decode cX12_isTerm 64 = .ok (.ireturn, 1) := by decide +kernel
theorem dX12_isTerm_65 : decode cX12_isTerm 65 = .ok (.iconst 0, 1) := by decide +kernel
theorem dX12_isTerm_66 : decode cX12_isTerm 66 = .ok (.ireturn, 1) := by decide +kernel
theorem dX12_terms_0 : decode cX12_terms 0 = .ok (.iload_n 1, 1) := by decide +kernel
theorem dX12_terms_1 : decode cX12_terms 1 = .ok (.iload_n 2, 1) := by decide +kernel
theorem dX12_terms_2 : decode cX12_terms 2 = .ok (.invokestatic 134, 3) := by decide +kernel
theorem dX12_terms_5 : decode cX12_terms 5 = .ok (.ifCond .ne 9, 3) := by decide +kernel
theorem dX12_terms_8 : decode cX12_terms 8 = .ok (.aload_n 0, 1) := by decide +kernel
theorem dX12_terms_9 : decode cX12_terms 9 = .ok (.iconst (-1), 1) := by decide +kernel
theorem dX12_terms_10 : decode cX12_terms 10 = .ok (.invokevirtual 100, 3) := by decide +kernel
theorem dX12_terms_13 : decode cX12_terms 13 = .ok (.ireturn, 1) := by decide +kernel
theorem dX12_terms_14 : decode cX12_terms 14 = .ok (.iload_n 1, 1) := by decide +kernel
theorem dX12_terms_15 : decode cX12_terms 15 = .ok (.ifCond .ne 8, 3) := by decide +kernel
theorem dX12_terms_18 : decode cX12_terms 18 = .ok (.bipush 22, 2) := by decide +kernel
theorem dX12_terms_20 : decode cX12_terms 20 = .ok (.goto 9, 3) := by decide +kernel
theorem dX12_terms_23 : decode cX12_terms 23 = .ok (.bipush 99, 2) := by decide +kernel
theorem dX12_terms_25 : decode cX12_terms 25 = .ok (.iload_n 1, 1) := by decide +kernel
theorem dX12_terms_26 : decode cX12_terms 26 = .ok (.iadd, 1) := by decide +kernel
theorem dX12_terms_27 : decode cX12_terms 27 = .ok (.iconst 1, 1) := by decide +kernel
theorem dX12_terms_28 : decode cX12_terms 28 = .ok (.isub, 1) := by decide +kernel
theorem dX12_terms_29 : decode cX12_terms 29 = .ok (.istore_n 3, 1) := by decide +kernel
theorem dX12_terms_30 : decode cX12_terms 30 = .ok (.aload_n 0, 1) := by decide +kernel
theorem dX12_terms_31 : decode cX12_terms 31 = .ok (.getfield 24, 3) := by decide +kernel
theorem dX12_terms_34 : decode cX12_terms 34 = .ok (.iload_n 3, 1) := by decide +kernel
theorem dX12_terms_35 : decode cX12_terms 35 = .ok (.iaload, 1) := by decide +kernel
theorem dX12_terms_36 : decode cX12_terms 36 = .ok (.istore 4, 2) := by decide +kernel
theorem dX12_terms_38 : decode cX12_terms 38 = .ok (.aload_n 0, 1) := by decide +kernel
theorem dX12_terms_39 : decode cX12_terms 39 = .ok (.getfield 24, 3) := by decide +kernel
theorem dX12_terms_42 : decode cX12_terms 42 = .ok (.iload_n 3, 1) := by decide +kernel
theorem dX12_terms_43 : decode cX12_terms 43 = .ok (.iload_n 2, 1) := by decide +kernel
theorem dX12_terms_44 : decode cX12_terms 44 = .ok (.iastore, 1) := by decide +kernel
theorem dX12_terms_45 : decode cX12_terms 45 = .ok (.aload_n 0, 1) := by decide +kernel
theorem dX12_terms_46 : decode cX12_terms 46 = .ok (.iload 4, 2) := by decide +kernel
theorem dX12_terms_48 : decode cX12_terms 48 = .ok (.invokevirtual 103, 3) := by decide +kernel
theorem dX12_terms_51 : decode cX12_terms 51 = .ok (.ireturn, 1) := by decide +kernel
theorem dX12_row_0 : decode cX12_row 0 = .ok (.aload_n 0, 1) := by decide +kernel
theorem dX12_row_1 : decode cX12_row 1 = .ok (.getfield 138, 3) := by decide +kernel
theorem dX12_row_4 : decode cX12_row 4 = .ok (.istore_n 1, 1) := by decide +kernel
theorem dX12_row_5 : decode cX12_row 5 = .ok (.aload_n 0, 1) := by decide +kernel
theorem dX12_row_6 : decode cX12_row 6 = .ok (.iconst 0, 1) := by decide +kernel
theorem dX12_row_7 : decode cX12_row 7 = .ok (.putfield 138, 3) := by decide +kernel
theorem dX12_row_10 : decode cX12_row 10 = .ok (.iload_n 1, 1) := by decide +kernel
theorem dX12_row_11 : decode cX12_row 11 = .ok (.ifCond .ne 10, 3) := by decide +kernel
theorem dX12_row_14 : decode cX12_row 14 = .ok (.aload_n 0, 1) := by decide +kernel
theorem dX12_row_15 : decode cX12_row 15 = .ok (.bipush (-6), 2) := by decide +kernel
theorem dX12_row_17 : decode cX12_row 17 = .ok (.invokevirtual 100, 3) := by decide +kernel
theorem dX12_row_20 : decode cX12_row 20 = .ok (.ireturn, 1) := by decide +kernel
theorem dX12_chaff_0 : decode cX12_chaff 0 = .ok (.aload_n 0, 1) := by decide +kernel
theorem dX12_chaff_1 : decode cX12_chaff 1 = .ok (.getfield 141, 3) := by decide +kernel
theorem dX12_chaff_4 : decode cX12_chaff 4 = .ok (.ireturn, 1) := by decide +kernel
theorem dX12_feed_0 : decode cX12_feed 0 = .ok (.aload_n 0, 1) := by decide +kernel
theorem dX12_feed_1 : decode cX12_feed 1 = .ok (.getfield 138, 3) := by decide +kernel
theorem dX12_feed_4 : decode cX12_feed 4 = .ok (.bipush 20, 2) := by decide +kernel
theorem dX12_feed_6 : decode cX12_feed 6 = .ok (.iadd, 1) := by decide +kernel
theorem dX12_feed_7 : decode cX12_feed 7 = .ok (.sipush 400, 3) := by decide +kernel
theorem dX12_feed_10 : decode cX12_feed 10 = .ok (.if_icmp .le 5, 3) := by decide +kernel
theorem dX12_feed_15 : decode cX12_feed 15 = .ok (.aload_n 0, 1) := by decide +kernel
theorem dX12_feed_16 : decode cX12_feed 16 = .ok (.getfield 44, 3) := by decide +kernel
theorem dX12_feed_19 : decode cX12_feed 19 = .ok (.iconst 0, 1) := by decide +kernel
theorem dX12_feed_20 : decode cX12_feed 20 = .ok (.iload_n 1, 1) := by decide +kernel
theorem dX12_feed_21 : decode cX12_feed 21 = .ok (.iastore, 1) := by decide +kernel
theorem dX12_feed_22 : decode cX12_feed 22 = .ok (.aload_n 0, 1) := by decide +kernel
theorem dX12_feed_23 : decode cX12_feed 23 = .ok (.getfield 44, 3) := by decide +kernel
theorem dX12_feed_26 : decode cX12_feed 26 = .ok (.iconst 1, 1) := by decide +kernel
theorem dX12_feed_27 : decode cX12_feed 27 = .ok (.iload_n 2, 1) := by decide +kernel
theorem dX12_feed_28 : decode cX12_feed 28 = .ok (.iastore, 1) := by decide +kernel
theorem dX12_feed_29 : decode cX12_feed 29 = .ok (.aload_n 0, 1) := by decide +kernel
theorem dX12_feed_30 : decode cX12_feed 30 = .ok (.getfield 44, 3) := by decide +kernel
theorem dX12_feed_33 : decode cX12_feed 33 = .ok (.iconst 2, 1) := by decide +kernel
theorem dX12_feed_34 : decode cX12_feed 34 = .ok (.iload_n 3, 1) := by decide +kernel
theorem dX12_feed_35 : decode cX12_feed 35 = .ok (.iastore, 1) := by decide +kernel
theorem dX12_feed_36 : decode cX12_feed 36 = .ok (.aload_n 0, 1) := by decide +kernel
theorem dX12_feed_37 : decode cX12_feed 37 = .ok (.getfield 44, 3) := by decide +kernel
theorem dX12_feed_40 : decode cX12_feed 40 = .ok (.iconst 3, 1) := by decide +kernel
theorem dX12_feed_41 : decode cX12_feed 41 = .ok (.iload 4, 2) := by decide +kernel
theorem dX12_feed_43 : decode cX12_feed 43 = .ok (.iastore, 1) := by decide +kernel
theorem dX12_feed_44 : decode cX12_feed 44 = .ok (.aload_n 0, 1) := by decide +kernel
theorem dX12_feed_45 : decode cX12_feed 45 = .ok (.getfield 44, 3) := by decide +kernel
theorem dX12_feed_48 : decode cX12_feed 48 = .ok (.iconst 4, 1) := by decide +kernel
theorem dX12_feed_49 : decode cX12_feed 49 = .ok (.iload 5, 2) := by decide +kernel
theorem dX12_feed_51 : decode cX12_feed 51 = .ok (.iastore, 1) := by decide +kernel
theorem dX12_feed_52 : decode cX12_feed 52 = .ok (.iconst 0, 1) := by decide +kernel
theorem dX12_feed_53 : decode cX12_feed 53 = .ok (.istore 6, 2) := by decide +kernel
theorem dX12_feed_55 : decode cX12_feed 55 = .ok (.iload 6, 2) := by decide +kernel
theorem dX12_feed_57 : decode cX12_feed 57 = .ok (.bipush 20, 2) := by decide +kernel
theorem dX12_feed_59 : decode cX12_feed 59 = .ok (.if_icmp .ge 42, 3) := by decide +kernel
theorem dX12_feed_62 : decode cX12_feed 62 = .ok (.aload_n 0, 1) := by decide +kernel
theorem dX12_feed_63 : decode cX12_feed 63 = .ok (.getfield 41, 3) := by decide +kernel
theorem dX12_feed_66 : decode cX12_feed 66 = .ok (.aload_n 0, 1) := by decide +kernel
theorem dX12_feed_67 : decode cX12_feed 67 = .ok (.getfield 138, 3) := by decide +kernel
theorem dX12_feed_70 : decode cX12_feed 70 = .ok (.iload 6, 2) := by decide +kernel
theorem dX12_feed_72 : decode cX12_feed 72 = .ok (.iadd, 1) := by decide +kernel
theorem dX12_feed_73 : decode cX12_feed 73 = .ok (.aload_n 0, 1) := by decide +kernel
theorem dX12_feed_74 : decode cX12_feed 74 = .ok (.getfield 44, 3) := by decide +kernel
theorem dX12_feed_77 : decode cX12_feed 77 = .ok (.iload 6, 2) := by decide +kernel
theorem dX12_feed_79 : decode cX12_feed 79 = .ok (.iconst 4, 1) := by decide +kernel
theorem dX12_feed_80 : decode cX12_feed 80 = .ok (.idiv, 1) := by decide +kernel
theorem dX12_feed_81 : decode cX12_feed 81 = .ok (.iaload, 1) := by decide +kernel
theorem dX12_feed_82 : decode cX12_feed 82 = .ok (.bipush 24, 2) := by decide +kernel
theorem dX12_feed_84 : decode cX12_feed 84 = .ok (.bipush 8, 2) := by decide +kernel
theorem dX12_feed_86 : decode cX12_feed 86 = .ok (.iload 6, 2) := by decide +kernel
theorem dX12_feed_88 : decode cX12_feed 88 = .ok (.iconst 4, 1) := by decide +kernel
theorem dX12_feed_89 : decode cX12_feed 89 = .ok (.irem, 1) := by decide +kernel
theorem dX12_feed_90 : decode cX12_feed 90 = .ok (.imul, 1) := by decide +kernel
theorem dX12_feed_91 : decode cX12_feed 91 = .ok (.isub, 1) := by decide +kernel
theorem dX12_feed_92 : decode cX12_feed 92 = .ok (.ishr, 1) := by decide +kernel
theorem dX12_feed_93 : decode cX12_feed 93 = .ok (.i2b, 1) := by decide +kernel
theorem dX12_feed_94 : decode cX12_feed 94 = .ok (.bastore, 1) := by decide +kernel
theorem dX12_feed_95 : decode cX12_feed 95 = .ok (.iinc 6 1, 3) := by decide +kernel
theorem dX12_feed_98 : decode cX12_feed 98 = .ok (.goto (-43), 3) := by decide +kernel
theorem dX12_feed_101 : decode cX12_feed 101 = .ok (.aload_n 0, 1) := by decide +kernel
theorem dX12_feed_102 : decode cX12_feed 102 = .ok (.dup, 1) := by decide +kernel
theorem dX12_feed_103 : decode cX12_feed 103 = .ok (.getfield 138, 3) := by decide +kernel
theorem dX12_feed_106 : decode cX12_feed 106 = .ok (.bipush 20, 2) := by decide +kernel
theorem dX12_feed_108 : decode cX12_feed 108 = .ok (.iadd, 1) := by decide +kernel
theorem dX12_feed_109 : decode cX12_feed 109 = .ok (.putfield 138, 3) := by decide +kernel
theorem dX12_feed_112 : decode cX12_feed 112 = .ok (.aload_n 0, 1) := by decide +kernel
theorem dX12_feed_113 : decode cX12_feed 113 = .ok (.getfield 138, 3) := by decide +kernel
theorem dX12_feed_116 : decode cX12_feed 116 = .ok (.ireturn, 1) := by decide +kernel
theorem dX12_end_0 : decode cX12_end 0 = .ok (.iload_n 1, 1) := by decide +kernel
theorem dX12_end_1 : decode cX12_end 1 = .ok (.iconst 0, 1) := by decide +kernel
theorem dX12_end_2 : decode cX12_end 2 = .ok (.aload_n 0, 1) := by decide +kernel
theorem dX12_end_3 : decode cX12_end 3 = .ok (.getfield 138, 3) := by decide +kernel
theorem dX12_end_6 : decode cX12_end 6 = .ok (.invokestatic 96, 3) := by decide +kernel
theorem dX12_end_9 : decode cX12_end 9 = .ok (.ifCond .ne 5, 3) := by decide +kernel
theorem dX12_end_12 : decode cX12_end 12 = .ok (.iconst (-1), 1) := by decide +kernel
theorem dX12_end_13 : decode cX12_end 13 = .ok (.ireturn, 1) := by decide +kernel
theorem dX12_end_14 : decode cX12_end 14 = .ok (.aload_n 0, 1) := by decide +kernel
theorem dX12_end_15 : decode cX12_end 15 = .ok (.iload_n 1, 1) := by decide +kernel
theorem dX12_end_16 : decode cX12_end 16 = .ok (.putfield 138, 3) := by decide +kernel
theorem dX12_end_19 : decode cX12_end 19 = .ok (.iload_n 1, 1) := by decide +kernel
theorem dX12_end_20 : decode cX12_end 20 = .ok (.ireturn, 1) := by decide +kernel
theorem dX12_splits_0 : decode cX12_splits 0 = .ok (.aload_n 0, 1) := by decide +kernel
theorem dX12_splits_1 : decode cX12_splits 1 = .ok (.iconst 0, 1) := by decide +kernel
theorem dX12_splits_2 : decode cX12_splits 2 = .ok (.putfield 144, 3) := by decide +kernel
theorem dX12_splits_5 : decode cX12_splits 5 = .ok (.iconst 0, 1) := by decide +kernel
theorem dX12_splits_6 : decode cX12_splits 6 = .ok (.istore_n 2, 1) := by decide +kernel
theorem dX12_splits_7 : decode cX12_splits 7 = .ok (.iload_n 2, 1) := by decide +kernel
theorem dX12_splits_8 : decode cX12_splits 8 = .ok (.iload_n 1, 1) := by decide +kernel
theorem dX12_splits_9 : decode cX12_splits 9 = .ok (.if_icmp .ge 254, 3) := by decide +kernel
theorem dX12_splits_263 : decode cX12_splits 263 = .ok (.aload_n 0, 1) := by decide +kernel
theorem dX12_splits_264 : decode cX12_splits 264 = .ok (.getfield 56, 3) := by decide +kernel
theorem dX12_splits_267 : decode cX12_splits 267 = .ok (.aload_n 0, 1) := by decide +kernel
theorem dX12_splits_268 : decode cX12_splits 268 = .ok (.getfield 144, 3) := by decide +kernel
theorem dX12_splits_271 : decode cX12_splits 271 = .ok (.iload_n 1, 1) := by decide +kernel
theorem dX12_splits_272 : decode cX12_splits 272 = .ok (.iastore, 1) := by decide +kernel
theorem dX12_splits_273 : decode cX12_splits 273 = .ok (.aload_n 0, 1) := by decide +kernel
theorem dX12_splits_274 : decode cX12_splits 274 = .ok (.getfield 50, 3) := by decide +kernel
theorem dX12_splits_277 : decode cX12_splits 277 = .ok (.aload_n 0, 1) := by decide +kernel
theorem dX12_splits_278 : decode cX12_splits 278 = .ok (.getfield 144, 3) := by decide +kernel
theorem dX12_splits_281 : decode cX12_splits 281 = .ok (.iconst 0, 1) := by decide +kernel
theorem dX12_splits_282 : decode cX12_splits 282 = .ok (.iastore, 1) := by decide +kernel
theorem dX12_splits_283 : decode cX12_splits 283 = .ok (.aload_n 0, 1) := by decide +kernel
theorem dX12_splits_284 : decode cX12_splits 284 = .ok (.getfield 53, 3) := by decide +kernel
theorem dX12_splits_287 : decode cX12_splits 287 = .ok (.aload_n 0, 1) := by decide +kernel
theorem dX12_splits_288 : decode cX12_splits 288 = .ok (.getfield 144, 3) := by decide +kernel
theorem dX12_splits_291 : decode cX12_splits 291 = .ok (.iconst 0, 1) := by decide +kernel
theorem dX12_splits_292 : decode cX12_splits 292 = .ok (.iastore, 1) := by decide +kernel
theorem dX12_splits_293 : decode cX12_splits 293 = .ok (.return_, 1) := by decide +kernel
theorem dX12_fine_0 : decode cX12_fine 0 = .ok (.aload_n 0, 1) := by decide +kernel
theorem dX12_fine_1 : decode cX12_fine 1 = .ok (.getfield 158, 3) := by decide +kernel
theorem dX12_fine_4 : decode cX12_fine 4 = .ok (.iconst (-1), 1) := by decide +kernel
theorem dX12_fine_5 : decode cX12_fine 5 = .ok (.if_icmp .ne 7, 3) := by decide +kernel
theorem dX12_fine_8 : decode cX12_fine 8 = .ok (.iconst 1, 1) := by decide +kernel
theorem dX12_fine_9 : decode cX12_fine 9 = .ok (.goto 4, 3) := by decide +kernel
theorem dX12_fine_12 : decode cX12_fine 12 = .ok (.iconst 0, 1) := by decide +kernel
theorem dX12_fine_13 : decode cX12_fine 13 = .ok (.ireturn, 1) := by decide +kernel
theorem dX12_faults_0 : decode cX12_faults 0 = .ok (.aload_n 0, 1) := by decide +kernel
theorem dX12_faults_1 : decode cX12_faults 1 = .ok (.invokevirtual 161, 3) := by decide +kernel
theorem dX12_faults_4 : decode cX12_faults 4 = .ok (.ifCond .eq 16, 3) := by decide +kernel
theorem dX12_faults_7 : decode cX12_faults 7 = .ok (.aload_n 0, 1) := by decide +kernel
theorem dX12_faults_8 : decode cX12_faults 8 = .ok (.aload_n 0, 1) := by decide +kernel
theorem dX12_faults_9 : decode cX12_faults 9 = .ok (.getfield 56, 3) := by decide +kernel
theorem dX12_faults_12 : decode cX12_faults 12 = .ok (.aload_n 0, 1) := by decide +kernel
theorem dX12_faults_13 : decode cX12_faults 13 = .ok (.getfield 165, 3) := by decide +kernel
theorem dX12_faults_16 : decode cX12_faults 16 = .ok (.iaload, 1) := by decide +kernel
theorem dX12_faults_17 : decode cX12_faults 17 = .ok (.putfield 158, 3) := by decide +kernel
theorem dX12_faults_20 : decode cX12_faults 20 = .ok (.return_, 1) := by decide +kernel
theorem dX12_takes0_0 : decode cX12_takes0 0 = .ok (.aload_n 0, 1) := by decide +kernel
theorem dX12_takes0_1 : decode cX12_takes0 1 = .ok (.invokevirtual 161, 3) := by decide +kernel
theorem dX12_takes0_4 : decode cX12_takes0 4 = .ok (.ifCond .eq 20, 3) := by decide +kernel
theorem dX12_takes0_7 : decode cX12_takes0 7 = .ok (.aload_n 0, 1) := by decide +kernel
theorem dX12_takes0_8 : decode cX12_takes0 8 = .ok (.getfield 50, 3) := by decide +kernel
theorem dX12_takes0_11 : decode cX12_takes0 11 = .ok (.aload_n 0, 1) := by decide +kernel
theorem dX12_takes0_12 : decode cX12_takes0 12 = .ok (.getfield 165, 3) := by decide +kernel
theorem dX12_takes0_15 : decode cX12_takes0 15 = .ok (.iaload, 1) := by decide +kernel
theorem dX12_takes0_16 : decode cX12_takes0 16 = .ok (.iload_n 1, 1) := by decide +kernel
theorem dX12_takes0_17 : decode cX12_takes0 17 = .ok (.if_icmp .ne 7, 3) := by decide +kernel
theorem dX12_takes0_24 : decode cX12_takes0 24 = .ok (.iconst 0, 1) := by decide +kernel
theorem dX12_takes0_25 : decode cX12_takes0 25 = .ok (.istore_n 2, 1) := by decide +kernel
theorem dX12_takes0_26 : decode cX12_takes0 26 = .ok (.iload_n 2, 1) := by decide +kernel
theorem dX12_takes0_27 : decode cX12_takes0 27 = .ok (.ifCond .eq 13, 3) := by decide +kernel
theorem dX12_takes0_40 : decode cX12_takes0 40 = .ok (.iload_n 2, 1) := by decide +kernel
theorem dX12_takes0_41 : decode cX12_takes0 41 = .ok (.ireturn, 1) := by decide +kernel
theorem dX12_must_0 : decode cX12_must 0 = .ok (.aload_n 0, 1) := by decide +kernel
theorem dX12_must_1 : decode cX12_must 1 = .ok (.iload_n 1, 1) := by decide +kernel
theorem dX12_must_2 : decode cX12_must 2 = .ok (.invokevirtual 168, 3) := by decide +kernel
theorem dX12_must_5 : decode cX12_must 5 = .ok (.ifCond .ne 7, 3) := by decide +kernel
theorem dX12_must_8 : decode cX12_must 8 = .ok (.aload_n 0, 1) := by decide +kernel
theorem dX12_must_9 : decode cX12_must 9 = .ok (.invokevirtual 171, 3) := by decide +kernel
theorem dX12_must_12 : decode cX12_must 12 = .ok (.return_, 1) := by decide +kernel
theorem dX12_sign_0 : decode cX12_sign 0 = .ok (.bipush 100, 2) := by decide +kernel
theorem dX12_sign_2 : decode cX12_sign 2 = .ok (.iload_n 0, 1) := by decide +kernel
theorem dX12_sign_3 : decode cX12_sign 3 = .ok (.iadd, 1) := by decide +kernel
theorem dX12_sign_4 : decode cX12_sign 4 = .ok (.ireturn, 1) := by decide +kernel
theorem dX12_readClause_0 : decode cX12_readClause 0 = .ok (.aload_n 0, 1) := by decide +kernel
theorem dX12_readClause_1 : decode cX12_readClause 1 = .ok (.iconst 1, 1) := by decide +kernel
theorem dX12_readClause_2 : decode cX12_readClause 2 = .ok (.invokevirtual 168, 3) := by decide +kernel
theorem dX12_readClause_5 : decode cX12_readClause 5 = .ok (.ifCond .ne 19, 3) := by decide +kernel
theorem dX12_readClause_8 : decode cX12_readClause 8 = .ok (.aload_n 0, 1) := by decide +kernel
theorem dX12_readClause_9 : decode cX12_readClause 9 = .ok (.iconst 2, 1) := by decide +kernel
theorem dX12_readClause_10 : decode cX12_readClause 10 = .ok (.invokevirtual 168, 3) := by decide +kernel
theorem dX12_readClause_13 : decode cX12_readClause 13 = .ok (.ifCond .ne 11, 3) := by decide +kernel
theorem dX12_readClause_16 : decode cX12_readClause 16 = .ok (.aload_n 0, 1) := by decide +kernel
theorem dX12_readClause_17 : decode cX12_readClause 17 = .ok (.iconst 3, 1) := by decide +kernel
theorem dX12_readClause_18 : decode cX12_readClause 18 = .ok (.invokevirtual 168, 3) := by decide +kernel
theorem dX12_readClause_21 : decode cX12_readClause 21 = .ok (.ifCond .eq 11, 3) := by decide +kernel
theorem dX12_readClause_32 : decode cX12_readClause 32 = .ok (.aload_n 0, 1) := by decide +kernel
theorem dX12_readClause_33 : decode cX12_readClause 33 = .ok (.iconst 4, 1) := by decide +kernel
theorem dX12_readClause_34 : decode cX12_readClause 34 = .ok (.invokevirtual 181, 3) := by decide +kernel
theorem dX12_readClause_37 : decode cX12_readClause 37 = .ok (.aload_n 0, 1) := by decide +kernel
theorem dX12_readClause_38 : decode cX12_readClause 38 = .ok (.iconst 5, 1) := by decide +kernel
theorem dX12_readClause_39 : decode cX12_readClause 39 = .ok (.invokevirtual 168, 3) := by decide +kernel
theorem dX12_readClause_42 : decode cX12_readClause 42 = .ok (.ifCond .eq 8, 3) := by decide +kernel
theorem dX12_readClause_50 : decode cX12_readClause 50 = .ok (.return_, 1) := by decide +kernel
theorem dX12_readOrder_0 : decode cX12_readOrder 0 = .ok (.aload_n 0, 1) := by decide +kernel
theorem dX12_readOrder_1 : decode cX12_readOrder 1 = .ok (.bipush 23, 2) := by decide +kernel
theorem dX12_readOrder_3 : decode cX12_readOrder 3 = .ok (.invokevirtual 168, 3) := by decide +kernel
theorem dX12_readOrder_6 : decode cX12_readOrder 6 = .ok (.ifCond .eq 22, 3) := by decide +kernel
theorem dX12_readOrder_28 : decode cX12_readOrder 28 = .ok (.aload_n 0, 1) := by decide +kernel
theorem dX12_readOrder_29 : decode cX12_readOrder 29 = .ok (.bipush 25, 2) := by decide +kernel
theorem dX12_readOrder_31 : decode cX12_readOrder 31 = .ok (.invokevirtual 168, 3) := by decide +kernel
theorem dX12_readOrder_34 : decode cX12_readOrder 34 = .ok (.ifCond .ne 12, 3) := by decide +kernel
theorem dX12_readOrder_37 : decode cX12_readOrder 37 = .ok (.aload_n 0, 1) := by decide +kernel
theorem dX12_readOrder_38 : decode cX12_readOrder 38 = .ok (.bipush 26, 2) := by decide +kernel
theorem dX12_readOrder_40 : decode cX12_readOrder 40 = .ok (.invokevirtual 168, 3) := by decide +kernel
theorem dX12_readOrder_43 : decode cX12_readOrder 43 = .ok (.ifCond .eq 11, 3) := by decide +kernel
theorem dX12_readOrder_54 : decode cX12_readOrder 54 = .ok (.aload_n 0, 1) := by decide +kernel
theorem dX12_readOrder_55 : decode cX12_readOrder 55 = .ok (.bipush 27, 2) := by decide +kernel
theorem dX12_readOrder_57 : decode cX12_readOrder 57 = .ok (.invokevirtual 181, 3) := by decide +kernel
theorem dX12_readOrder_60 : decode cX12_readOrder 60 = .ok (.aload_n 0, 1) := by decide +kernel
theorem dX12_readOrder_61 : decode cX12_readOrder 61 = .ok (.bipush 28, 2) := by decide +kernel
theorem dX12_readOrder_63 : decode cX12_readOrder 63 = .ok (.invokevirtual 168, 3) := by decide +kernel
theorem dX12_readOrder_66 : decode cX12_readOrder 66 = .ok (.ifCond .eq 10, 3) := by decide +kernel
theorem dX12_readOrder_76 : decode cX12_readOrder 76 = .ok (.aload_n 0, 1) := by decide +kernel
theorem dX12_readOrder_77 : decode cX12_readOrder 77 = .ok (.iconst 5, 1) := by decide +kernel
theorem dX12_readOrder_78 : decode cX12_readOrder 78 = .ok (.invokevirtual 168, 3) := by decide +kernel
theorem dX12_readOrder_81 : decode cX12_readOrder 81 = .ok (.ifCond .eq 8, 3) := by decide +kernel
theorem dX12_readOrder_89 : decode cX12_readOrder 89 = .ok (.return_, 1) := by decide +kernel
theorem dX12_readOne_0 : decode cX12_readOne 0 = .ok (.aload_n 0, 1) := by decide +kernel
theorem dX12_readOne_1 : decode cX12_readOne 1 = .ok (.getfield 191, 3) := by decide +kernel
theorem dX12_readOne_4 : decode cX12_readOne 4 = .ok (.ifCond .eq 10, 3) := by decide +kernel
theorem dX12_readOne_7 : decode cX12_readOne 7 = .ok (.aload_n 0, 1) := by decide +kernel
theorem dX12_readOne_8 : decode cX12_readOne 8 = .ok (.invokevirtual 195, 3) := by decide +kernel
theorem dX12_readOne_11 : decode cX12_readOne 11 = .ok (.goto 7, 3) := by decide +kernel
theorem dX12_readOne_14 : decode cX12_readOne 14 = .ok (.aload_n 0, 1) := by decide +kernel
theorem dX12_readOne_15 : decode cX12_readOne 15 = .ok (.invokevirtual 198, 3) := by decide +kernel
theorem dX12_readOne_18 : decode cX12_readOne 18 = .ok (.return_, 1) := by decide +kernel
theorem dX12_reads_0 : decode cX12_reads 0 = .ok (.aload_n 0, 1) := by decide +kernel
theorem dX12_reads_1 : decode cX12_reads 1 = .ok (.aload_n 0, 1) := by decide +kernel
theorem dX12_reads_2 : decode cX12_reads 2 = .ok (.getfield 138, 3) := by decide +kernel
theorem dX12_reads_5 : decode cX12_reads 5 = .ok (.invokevirtual 226, 3) := by decide +kernel
theorem dX12_reads_8 : decode cX12_reads 8 = .ok (.aload_n 0, 1) := by decide +kernel
theorem dX12_reads_9 : decode cX12_reads 9 = .ok (.iconst 0, 1) := by decide +kernel
theorem dX12_reads_10 : decode cX12_reads 10 = .ok (.putfield 138, 3) := by decide +kernel
theorem dX12_reads_13 : decode cX12_reads 13 = .ok (.aload_n 0, 1) := by decide +kernel
theorem dX12_reads_14 : decode cX12_reads 14 = .ok (.iconst 0, 1) := by decide +kernel
theorem dX12_reads_15 : decode cX12_reads 15 = .ok (.putfield 165, 3) := by decide +kernel
theorem dX12_reads_18 : decode cX12_reads 18 = .ok (.aload_n 0, 1) := by decide +kernel
theorem dX12_reads_19 : decode cX12_reads 19 = .ok (.iconst 0, 1) := by decide +kernel
theorem dX12_reads_20 : decode cX12_reads 20 = .ok (.putfield 174, 3) := by decide +kernel
theorem dX12_reads_23 : decode cX12_reads 23 = .ok (.aload_n 0, 1) := by decide +kernel
theorem dX12_reads_24 : decode cX12_reads 24 = .ok (.iconst (-1), 1) := by decide +kernel
theorem dX12_reads_25 : decode cX12_reads 25 = .ok (.putfield 158, 3) := by decide +kernel
theorem dX12_reads_28 : decode cX12_reads 28 = .ok (.aload_n 0, 1) := by decide +kernel
theorem dX12_reads_29 : decode cX12_reads 29 = .ok (.invokevirtual 229, 3) := by decide +kernel
theorem dX12_reads_32 : decode cX12_reads 32 = .ok (.iconst 1, 1) := by decide +kernel
theorem dX12_reads_33 : decode cX12_reads 33 = .ok (.istore_n 1, 1) := by decide +kernel
theorem dX12_reads_34 : decode cX12_reads 34 = .ok (.aload_n 0, 1) := by decide +kernel
theorem dX12_reads_35 : decode cX12_reads 35 = .ok (.bipush 59, 2) := by decide +kernel
theorem dX12_reads_37 : decode cX12_reads 37 = .ok (.invokestatic 207, 3) := by decide +kernel
theorem dX12_reads_40 : decode cX12_reads 40 = .ok (.invokevirtual 168, 3) := by decide +kernel
theorem dX12_reads_43 : decode cX12_reads 43 = .ok (.ifCond .eq 30, 3) := by decide +kernel
theorem dX12_reads_73 : decode cX12_reads 73 = .ok (.aload_n 0, 1) := by decide +kernel
theorem dX12_reads_74 : decode cX12_reads 74 = .ok (.invokevirtual 161, 3) := by decide +kernel
theorem dX12_reads_77 : decode cX12_reads 77 = .ok (.ifCond .eq 18, 3) := by decide +kernel
theorem dX12_reads_95 : decode cX12_reads 95 = .ok (.aload_n 0, 1) := by decide +kernel
theorem dX12_reads_96 : decode cX12_reads 96 = .ok (.aload_n 0, 1) := by decide +kernel
theorem dX12_reads_97 : decode cX12_reads 97 = .ok (.getfield 158, 3) := by decide +kernel
theorem dX12_reads_100 : decode cX12_reads 100 = .ok (.putfield 47, 3) := by decide +kernel
theorem dX12_reads_103 : decode cX12_reads 103 = .ok (.aload_n 0, 1) := by decide +kernel
theorem dX12_reads_104 : decode cX12_reads 104 = .ok (.invokevirtual 161, 3) := by decide +kernel
theorem dX12_reads_107 : decode cX12_reads 107 = .ok (.ireturn, 1) := by decide +kernel
theorem dX12_readsAs_0 : decode cX12_readsAs 0 = .ok (.aload_n 0, 1) := by decide +kernel
theorem dX12_readsAs_1 : decode cX12_readsAs 1 = .ok (.iload_n 1, 1) := by decide +kernel
theorem dX12_readsAs_2 : decode cX12_readsAs 2 = .ok (.putfield 191, 3) := by decide +kernel
theorem dX12_readsAs_5 : decode cX12_readsAs 5 = .ok (.aload_n 0, 1) := by decide +kernel
theorem dX12_readsAs_6 : decode cX12_readsAs 6 = .ok (.iload_n 1, 1) := by decide +kernel
theorem dX12_readsAs_7 : decode cX12_readsAs 7 = .ok (.ifCond .eq 8, 3) := by decide +kernel
theorem dX12_readsAs_10 : decode cX12_readsAs 10 = .ok (.bipush 16, 2) := by decide +kernel
theorem dX12_readsAs_12 : decode cX12_readsAs 12 = .ok (.goto 5, 3) := by decide +kernel
theorem dX12_readsAs_15 : decode cX12_readsAs 15 = .ok (.bipush 9, 2) := by decide +kernel
theorem dX12_readsAs_17 : decode cX12_readsAs 17 = .ok (.putfield 217, 3) := by decide +kernel
theorem dX12_readsAs_20 : decode cX12_readsAs 20 = .ok (.aload_n 0, 1) := by decide +kernel
theorem dX12_readsAs_21 : decode cX12_readsAs 21 = .ok (.iload_n 1, 1) := by decide +kernel
theorem dX12_readsAs_22 : decode cX12_readsAs 22 = .ok (.ifCond .eq 8, 3) := by decide +kernel
theorem dX12_readsAs_25 : decode cX12_readsAs 25 = .ok (.bipush 22, 2) := by decide +kernel
theorem dX12_readsAs_27 : decode cX12_readsAs 27 = .ok (.goto 5, 3) := by decide +kernel
theorem dX12_readsAs_30 : decode cX12_readsAs 30 = .ok (.bipush 18, 2) := by decide +kernel
theorem dX12_readsAs_32 : decode cX12_readsAs 32 = .ok (.putfield 220, 3) := by decide +kernel
theorem dX12_readsAs_35 : decode cX12_readsAs 35 = .ok (.aload_n 0, 1) := by decide +kernel
theorem dX12_readsAs_36 : decode cX12_readsAs 36 = .ok (.invokevirtual 232, 3) := by decide +kernel
theorem dX12_readsAs_39 : decode cX12_readsAs 39 = .ok (.ireturn, 1) := by decide +kernel
theorem dX12_law_0 : decode cX12_law 0 = .ok (.aload_n 0, 1) := by decide +kernel
theorem dX12_law_1 : decode cX12_law 1 = .ok (.getfield 24, 3) := by decide +kernel
theorem dX12_law_4 : decode cX12_law 4 = .ok (.bipush 105, 2) := by decide +kernel
theorem dX12_law_6 : decode cX12_law 6 = .ok (.iaload, 1) := by decide +kernel
theorem dX12_law_7 : decode cX12_law 7 = .ok (.bipush 6, 2) := by decide +kernel
theorem dX12_law_9 : decode cX12_law 9 = .ok (.if_icmp .ne 15, 3) := by decide +kernel
theorem dX12_law_24 : decode cX12_law 24 = .ok (.aload_n 0, 1) := by decide +kernel
theorem dX12_law_25 : decode cX12_law 25 = .ok (.iconst 0, 1) := by decide +kernel
theorem dX12_law_26 : decode cX12_law 26 = .ok (.invokevirtual 235, 3) := by decide +kernel
theorem dX12_law_29 : decode cX12_law 29 = .ok (.ifCond .ne 10, 3) := by decide +kernel
theorem dX12_law_32 : decode cX12_law 32 = .ok (.aload_n 0, 1) := by decide +kernel
theorem dX12_law_33 : decode cX12_law 33 = .ok (.bipush (-6), 2) := by decide +kernel
theorem dX12_law_35 : decode cX12_law 35 = .ok (.invokevirtual 100, 3) := by decide +kernel
theorem dX12_law_38 : decode cX12_law 38 = .ok (.ireturn, 1) := by decide +kernel
theorem dX12_fault_0 : decode cX12_fault 0 = .ok (.aload_n 0, 1) := by decide +kernel
theorem dX12_fault_1 : decode cX12_fault 1 = .ok (.getfield 47, 3) := by decide +kernel
theorem dX12_fault_4 : decode cX12_fault 4 = .ok (.ireturn, 1) := by decide +kernel
theorem dX12_force_0 : decode cX12_force 0 = .ok (.iload_n 1, 1) := by decide +kernel
theorem dX12_force_1 : decode cX12_force 1 = .ok (.iconst (-1), 1) := by decide +kernel
theorem dX12_force_2 : decode cX12_force 2 = .ok (.aload_n 0, 1) := by decide +kernel
theorem dX12_force_3 : decode cX12_force 3 = .ok (.getfield 24, 3) := by decide +kernel
theorem dX12_force_6 : decode cX12_force 6 = .ok (.bipush 105, 2) := by decide +kernel
theorem dX12_force_8 : decode cX12_force 8 = .ok (.iaload, 1) := by decide +kernel
theorem dX12_force_9 : decode cX12_force 9 = .ok (.iconst 1, 1) := by decide +kernel
theorem dX12_force_10 : decode cX12_force 10 = .ok (.isub, 1) := by decide +kernel
theorem dX12_force_11 : decode cX12_force 11 = .ok (.invokestatic 96, 3) := by decide +kernel
theorem dX12_force_14 : decode cX12_force 14 = .ok (.ifCond .ne 10, 3) := by decide +kernel
theorem dX12_force_17 : decode cX12_force 17 = .ok (.aload_n 0, 1) := by decide +kernel
theorem dX12_force_18 : decode cX12_force 18 = .ok (.bipush (-2), 2) := by decide +kernel
theorem dX12_force_20 : decode cX12_force 20 = .ok (.invokevirtual 100, 3) := by decide +kernel
theorem dX12_force_23 : decode cX12_force 23 = .ok (.ireturn, 1) := by decide +kernel
theorem dX12_force_24 : decode cX12_force 24 = .ok (.aload_n 0, 1) := by decide +kernel
theorem dX12_force_25 : decode cX12_force 25 = .ok (.getfield 24, 3) := by decide +kernel
theorem dX12_force_28 : decode cX12_force 28 = .ok (.bipush 106, 2) := by decide +kernel
theorem dX12_force_30 : decode cX12_force 30 = .ok (.iaload, 1) := by decide +kernel
theorem dX12_force_31 : decode cX12_force 31 = .ok (.istore_n 2, 1) := by decide +kernel
theorem dX12_force_32 : decode cX12_force 32 = .ok (.aload_n 0, 1) := by decide +kernel
theorem dX12_force_33 : decode cX12_force 33 = .ok (.getfield 24, 3) := by decide +kernel
theorem dX12_force_36 : decode cX12_force 36 = .ok (.bipush 106, 2) := by decide +kernel
theorem dX12_force_38 : decode cX12_force 38 = .ok (.iload_n 1, 1) := by decide +kernel
theorem dX12_force_39 : decode cX12_force 39 = .ok (.iastore, 1) := by decide +kernel
theorem dX12_force_40 : decode cX12_force 40 = .ok (.aload_n 0, 1) := by decide +kernel
theorem dX12_force_41 : decode cX12_force 41 = .ok (.iload_n 2, 1) := by decide +kernel
theorem dX12_force_42 : decode cX12_force 42 = .ok (.invokevirtual 14, 3) := by decide +kernel
theorem dX12_force_45 : decode cX12_force 45 = .ok (.ireturn, 1) := by decide +kernel
theorem dX12_asks_0 : decode cX12_asks 0 = .ok (.aload_n 0, 1) := by decide +kernel
theorem dX12_asks_1 : decode cX12_asks 1 = .ok (.iload_n 1, 1) := by decide +kernel
theorem dX12_asks_2 : decode cX12_asks 2 = .ok (.invokevirtual 131, 3) := by decide +kernel
theorem dX12_asks_5 : decode cX12_asks 5 = .ok (.ifCond .eq 11, 3) := by decide +kernel
theorem dX12_asks_16 : decode cX12_asks 16 = .ok (.iconst (-1), 1) := by decide +kernel
theorem dX12_asks_17 : decode cX12_asks 17 = .ok (.ireturn, 1) := by decide +kernel
theorem dX12_stands_0 : decode cX12_stands 0 = .ok (.iload_n 1, 1) := by decide +kernel
theorem dX12_stands_1 : decode cX12_stands 1 = .ok (.iconst 0, 1) := by decide +kernel
theorem dX12_stands_2 : decode cX12_stands 2 = .ok (.iconst 1, 1) := by decide +kernel
theorem dX12_stands_3 : decode cX12_stands 3 = .ok (.invokestatic 96, 3) := by decide +kernel
theorem dX12_stands_6 : decode cX12_stands 6 = .ok (.ifCond .ne 5, 3) := by decide +kernel
theorem dX12_stands_9 : decode cX12_stands 9 = .ok (.iconst (-1), 1) := by decide +kernel
theorem dX12_stands_10 : decode cX12_stands 10 = .ok (.ireturn, 1) := by decide +kernel
theorem dX12_stands_11 : decode cX12_stands 11 = .ok (.iload_n 1, 1) := by decide +kernel
theorem dX12_stands_12 : decode cX12_stands 12 = .ok (.ifCond .ne 8, 3) := by decide +kernel
theorem dX12_stands_15 : decode cX12_stands 15 = .ok (.aload_n 0, 1) := by decide +kernel
theorem dX12_stands_16 : decode cX12_stands 16 = .ok (.invokevirtual 118, 3) := by decide +kernel
theorem dX12_stands_19 : decode cX12_stands 19 = .ok (.ireturn, 1) := by decide +kernel
theorem dX12_stands_20 : decode cX12_stands 20 = .ok (.iconst 0, 1) := by decide +kernel
theorem dX12_stands_21 : decode cX12_stands 21 = .ok (.istore_n 2, 1) := by decide +kernel
theorem dX12_stands_22 : decode cX12_stands 22 = .ok (.iconst 0, 1) := by decide +kernel
theorem dX12_stands_23 : decode cX12_stands 23 = .ok (.istore_n 3, 1) := by decide +kernel
theorem dX12_stands_24 : decode cX12_stands 24 = .ok (.iload_n 3, 1) := by decide +kernel
theorem dX12_stands_25 : decode cX12_stands 25 = .ok (.aload_n 0, 1) := by decide +kernel
theorem dX12_stands_26 : decode cX12_stands 26 = .ok (.getfield 24, 3) := by decide +kernel
theorem dX12_stands_29 : decode cX12_stands 29 = .ok (.bipush 102, 2) := by decide +kernel
theorem dX12_stands_31 : decode cX12_stands 31 = .ok (.iaload, 1) := by decide +kernel
theorem dX12_stands_32 : decode cX12_stands 32 = .ok (.if_icmp .ge 27, 3) := by decide +kernel
theorem dX12_stands_59 : decode cX12_stands 59 = .ok (.iload_n 2, 1) := by decide +kernel
theorem dX12_stands_60 : decode cX12_stands 60 = .ok (.ireturn, 1) := by decide +kernel
theorem dX12_ticks_0 : decode cX12_ticks 0 = .ok (.aload_n 0, 1) := by decide +kernel
theorem dX12_ticks_1 : decode cX12_ticks 1 = .ok (.invokevirtual 118, 3) := by decide +kernel
theorem dX12_ticks_4 : decode cX12_ticks 4 = .ok (.istore_n 2, 1) := by decide +kernel
theorem dX12_ticks_5 : decode cX12_ticks 5 = .ok (.iconst 0, 1) := by decide +kernel
theorem dX12_ticks_6 : decode cX12_ticks 6 = .ok (.istore_n 3, 1) := by decide +kernel
theorem dX12_ticks_7 : decode cX12_ticks 7 = .ok (.iload_n 3, 1) := by decide +kernel
theorem dX12_ticks_8 : decode cX12_ticks 8 = .ok (.aload_n 0, 1) := by decide +kernel
theorem dX12_ticks_9 : decode cX12_ticks 9 = .ok (.getfield 24, 3) := by decide +kernel
theorem dX12_ticks_12 : decode cX12_ticks 12 = .ok (.bipush 103, 2) := by decide +kernel
theorem dX12_ticks_14 : decode cX12_ticks 14 = .ok (.iaload, 1) := by decide +kernel
theorem dX12_ticks_15 : decode cX12_ticks 15 = .ok (.if_icmp .ge 96, 3) := by decide +kernel
theorem dX12_ticks_111 : decode cX12_ticks 111 = .ok (.iconst 0, 1) := by decide +kernel
theorem dX12_ticks_112 : decode cX12_ticks 112 = .ok (.istore_n 3, 1) := by decide +kernel
theorem dX12_ticks_113 : decode cX12_ticks 113 = .ok (.iload_n 3, 1) := by decide +kernel
theorem dX12_ticks_114 : decode cX12_ticks 114 = .ok (.aload_n 0, 1) := by decide +kernel
theorem dX12_ticks_115 : decode cX12_ticks 115 = .ok (.getfield 24, 3) := by decide +kernel
theorem dX12_ticks_118 : decode cX12_ticks 118 = .ok (.bipush 103, 2) := by decide +kernel
theorem dX12_ticks_120 : decode cX12_ticks 120 = .ok (.iaload, 1) := by decide +kernel
theorem dX12_ticks_121 : decode cX12_ticks 121 = .ok (.if_icmp .ge 100, 3) := by decide +kernel
theorem dX12_ticks_221 : decode cX12_ticks 221 = .ok (.iconst 0, 1) := by decide +kernel
theorem dX12_ticks_222 : decode cX12_ticks 222 = .ok (.istore_n 3, 1) := by decide +kernel
theorem dX12_ticks_223 : decode cX12_ticks 223 = .ok (.iload_n 3, 1) := by decide +kernel
theorem dX12_ticks_224 : decode cX12_ticks 224 = .ok (.aload_n 0, 1) := by decide +kernel
theorem dX12_ticks_225 : decode cX12_ticks 225 = .ok (.getfield 24, 3) := by decide +kernel
theorem dX12_ticks_228 : decode cX12_ticks 228 = .ok (.bipush 103, 2) := by decide +kernel
theorem dX12_ticks_230 : decode cX12_ticks 230 = .ok (.iaload, 1) := by decide +kernel
theorem dX12_ticks_231 : decode cX12_ticks 231 = .ok (.if_icmp .ge 48, 3) := by decide +kernel
theorem dX12_ticks_279 : decode cX12_ticks 279 = .ok (.aload_n 0, 1) := by decide +kernel
theorem dX12_ticks_280 : decode cX12_ticks 280 = .ok (.getfield 24, 3) := by decide +kernel
theorem dX12_ticks_283 : decode cX12_ticks 283 = .ok (.bipush 22, 2) := by decide +kernel
theorem dX12_ticks_285 : decode cX12_ticks 285 = .ok (.dup2, 1) := by decide +kernel
theorem dX12_ticks_286 : decode cX12_ticks 286 = .ok (.iaload, 1) := by decide +kernel
theorem dX12_ticks_287 : decode cX12_ticks 287 = .ok (.iconst 1, 1) := by decide +kernel
theorem dX12_ticks_288 : decode cX12_ticks 288 = .ok (.iadd, 1) := by decide +kernel
theorem dX12_ticks_289 : decode cX12_ticks 289 = .ok (.iastore, 1) := by decide +kernel
theorem dX12_ticks_290 : decode cX12_ticks 290 = .ok (.aload_n 0, 1) := by decide +kernel
theorem dX12_ticks_291 : decode cX12_ticks 291 = .ok (.invokevirtual 118, 3) := by decide +kernel
theorem dX12_ticks_294 : decode cX12_ticks 294 = .ok (.iload_n 2, 1) := by decide +kernel
theorem dX12_ticks_295 : decode cX12_ticks 295 = .ok (.iconst (-1), 1) := by decide +kernel
theorem dX12_ticks_296 : decode cX12_ticks 296 = .ok (.ixor, 1) := by decide +kernel
theorem dX12_ticks_297 : decode cX12_ticks 297 = .ok (.iand, 1) := by decide +kernel
theorem dX12_ticks_298 : decode cX12_ticks 298 = .ok (.invokestatic 287, 3) := by decide +kernel
theorem dX12_ticks_301 : decode cX12_ticks 301 = .ok (.ireturn, 1) := by decide +kernel
theorem dX12_keeps_0 : decode cX12_keeps 0 = .ok (.bipush 24, 2) := by decide +kernel
theorem dX12_keeps_2 : decode cX12_keeps 2 = .ok (.istore_n 2, 1) := by decide +kernel
theorem dX12_keeps_3 : decode cX12_keeps 3 = .ok (.aload_n 0, 1) := by decide +kernel
theorem dX12_keeps_4 : decode cX12_keeps 4 = .ok (.getfield 11, 3) := by decide +kernel
theorem dX12_keeps_7 : decode cX12_keeps 7 = .ok (.bipush 16, 2) := by decide +kernel
theorem dX12_keeps_9 : decode cX12_keeps 9 = .ok (.if_icmp .ne 43, 3) := by decide +kernel
theorem dX12_keeps_52 : decode cX12_keeps 52 = .ok (.iconst 0, 1) := by decide +kernel
theorem dX12_keeps_53 : decode cX12_keeps 53 = .ok (.istore_n 3, 1) := by decide +kernel
theorem dX12_keeps_54 : decode cX12_keeps 54 = .ok (.iload_n 3, 1) := by decide +kernel
theorem dX12_keeps_55 : decode cX12_keeps 55 = .ok (.bipush 23, 2) := by decide +kernel
theorem dX12_keeps_57 : decode cX12_keeps 57 = .ok (.if_icmp .ge 28, 3) := by decide +kernel
theorem dX12_keeps_60 : decode cX12_keeps 60 = .ok (.aload_n 0, 1) := by decide +kernel
theorem dX12_keeps_61 : decode cX12_keeps 61 = .ok (.getfield 68, 3) := by decide +kernel
theorem dX12_keeps_64 : decode cX12_keeps 64 = .ok (.iload_n 2, 1) := by decide +kernel
theorem dX12_keeps_65 : decode cX12_keeps 65 = .ok (.aload_n 0, 1) := by decide +kernel
theorem dX12_keeps_66 : decode cX12_keeps 66 = .ok (.getfield 11, 3) := by decide +kernel
theorem dX12_keeps_69 : decode cX12_keeps 69 = .ok (.imul, 1) := by decide +kernel
theorem dX12_keeps_70 : decode cX12_keeps 70 = .ok (.iload_n 3, 1) := by decide +kernel
theorem dX12_keeps_71 : decode cX12_keeps 71 = .ok (.iadd, 1) := by decide +kernel
theorem dX12_keeps_72 : decode cX12_keeps 72 = .ok (.aload_n 0, 1) := by decide +kernel
theorem dX12_keeps_73 : decode cX12_keeps 73 = .ok (.getfield 24, 3) := by decide +kernel
theorem dX12_keeps_76 : decode cX12_keeps 76 = .ok (.iload_n 3, 1) := by decide +kernel
theorem dX12_keeps_77 : decode cX12_keeps 77 = .ok (.iaload, 1) := by decide +kernel
theorem dX12_keeps_78 : decode cX12_keeps 78 = .ok (.iastore, 1) := by decide +kernel
theorem dX12_keeps_79 : decode cX12_keeps 79 = .ok (.iinc 3 1, 3) := by decide +kernel
theorem dX12_keeps_82 : decode cX12_keeps 82 = .ok (.goto (-28), 3) := by decide +kernel
theorem dX12_keeps_85 : decode cX12_keeps 85 = .ok (.aload_n 0, 1) := by decide +kernel
theorem dX12_keeps_86 : decode cX12_keeps 86 = .ok (.getfield 68, 3) := by decide +kernel
theorem dX12_keeps_89 : decode cX12_keeps 89 = .ok (.iload_n 2, 1) := by decide +kernel
theorem dX12_keeps_90 : decode cX12_keeps 90 = .ok (.aload_n 0, 1) := by decide +kernel
theorem dX12_keeps_91 : decode cX12_keeps 91 = .ok (.getfield 11, 3) := by decide +kernel
theorem dX12_keeps_94 : decode cX12_keeps 94 = .ok (.imul, 1) := by decide +kernel
theorem dX12_keeps_95 : decode cX12_keeps 95 = .ok (.bipush 23, 2) := by decide +kernel
theorem dX12_keeps_97 : decode cX12_keeps 97 = .ok (.iadd, 1) := by decide +kernel
theorem dX12_keeps_98 : decode cX12_keeps 98 = .ok (.iload_n 1, 1) := by decide +kernel
theorem dX12_keeps_99 : decode cX12_keeps 99 = .ok (.iastore, 1) := by decide +kernel
theorem dX12_keeps_100 : decode cX12_keeps 100 = .ok (.aload_n 0, 1) := by decide +kernel
theorem dX12_keeps_101 : decode cX12_keeps 101 = .ok (.dup, 1) := by decide +kernel
theorem dX12_keeps_102 : decode cX12_keeps 102 = .ok (.getfield 11, 3) := by decide +kernel
theorem dX12_keeps_105 : decode cX12_keeps 105 = .ok (.iconst 1, 1) := by decide +kernel
theorem dX12_keeps_106 : decode cX12_keeps 106 = .ok (.iadd, 1) := by decide +kernel
theorem dX12_keeps_107 : decode cX12_keeps 107 = .ok (.putfield 11, 3) := by decide +kernel
theorem dX12_keeps_110 : decode cX12_keeps 110 = .ok (.return_, 1) := by decide +kernel
theorem dX12_undo_0 : decode cX12_undo 0 = .ok (.aload_n 0, 1) := by decide +kernel
theorem dX12_undo_1 : decode cX12_undo 1 = .ok (.getfield 11, 3) := by decide +kernel
theorem dX12_undo_4 : decode cX12_undo 4 = .ok (.ifCond .ne 10, 3) := by decide +kernel
theorem dX12_undo_7 : decode cX12_undo 7 = .ok (.aload_n 0, 1) := by decide +kernel
theorem dX12_undo_8 : decode cX12_undo 8 = .ok (.bipush (-3), 2) := by decide +kernel
theorem dX12_undo_10 : decode cX12_undo 10 = .ok (.invokevirtual 100, 3) := by decide +kernel
theorem dX12_undo_13 : decode cX12_undo 13 = .ok (.ireturn, 1) := by decide +kernel
theorem dX12_goodOr_0 : decode cX12_goodOr 0 = .ok (.iload_n 1, 1) := by decide +kernel
theorem dX12_goodOr_1 : decode cX12_goodOr 1 = .ok (.ifCond .ge 11, 3) := by decide +kernel
theorem dX12_goodOr_4 : decode cX12_goodOr 4 = .ok (.aload_n 0, 1) := by decide +kernel
theorem dX12_goodOr_5 : decode cX12_goodOr 5 = .ok (.iload_n 1, 1) := by decide +kernel
theorem dX12_goodOr_6 : decode cX12_goodOr 6 = .ok (.invokevirtual 100, 3) := by decide +kernel
theorem dX12_goodOr_9 : decode cX12_goodOr 9 = .ok (.goto 8, 3) := by decide +kernel
theorem dX12_goodOr_12 : decode cX12_goodOr 12 = .ok (.aload_n 0, 1) := by decide +kernel
theorem dX12_goodOr_13 : decode cX12_goodOr 13 = .ok (.iload_n 1, 1) := by decide +kernel
theorem dX12_goodOr_14 : decode cX12_goodOr 14 = .ok (.invokevirtual 14, 3) := by decide +kernel
theorem dX12_goodOr_17 : decode cX12_goodOr 17 = .ok (.ireturn, 1) := by decide +kernel
theorem dX12_sendsKept_0 : decode cX12_sendsKept 0 = .ok (.aload_n 0, 1) := by decide +kernel
theorem dX12_sendsKept_1 : decode cX12_sendsKept 1 = .ok (.iload_n 1, 1) := by decide +kernel
theorem dX12_sendsKept_2 : decode cX12_sendsKept 2 = .ok (.invokevirtual 131, 3) := by decide +kernel
theorem dX12_sendsKept_5 : decode cX12_sendsKept 5 = .ok (.ifCond .eq 11, 3) := by decide +kernel
theorem dX12_sendsKept_16 : decode cX12_sendsKept 16 = .ok (.bipush (-2), 2) := by decide +kernel
theorem dX12_sendsKept_18 : decode cX12_sendsKept 18 = .ok (.ireturn, 1) := by decide +kernel
theorem dX12_restsKept_0 : decode cX12_restsKept 0 = .ok (.aload_n 0, 1) := by decide +kernel
theorem dX12_restsKept_1 : decode cX12_restsKept 1 = .ok (.iload_n 1, 1) := by decide +kernel
theorem dX12_restsKept_2 : decode cX12_restsKept 2 = .ok (.invokevirtual 131, 3) := by decide +kernel
theorem dX12_restsKept_5 : decode cX12_restsKept 5 = .ok (.ifCond .ne 6, 3) := by decide +kernel
theorem dX12_restsKept_8 : decode cX12_restsKept 8 = .ok (.bipush (-2), 2) := by decide +kernel
theorem dX12_restsKept_10 : decode cX12_restsKept 10 = .ok (.ireturn, 1) := by decide +kernel
theorem dX12_throwsKept_0 : decode cX12_throwsKept 0 = .ok (.aload_n 0, 1) := by decide +kernel
theorem dX12_throwsKept_1 : decode cX12_throwsKept 1 = .ok (.iload_n 1, 1) := by decide +kernel
theorem dX12_throwsKept_2 : decode cX12_throwsKept 2 = .ok (.invokevirtual 122, 3) := by decide +kernel
theorem dX12_throwsKept_5 : decode cX12_throwsKept 5 = .ok (.ifCond .ne 6, 3) := by decide +kernel
theorem dX12_throwsKept_8 : decode cX12_throwsKept 8 = .ok (.bipush (-2), 2) := by decide +kernel
theorem dX12_throwsKept_10 : decode cX12_throwsKept 10 = .ok (.ireturn, 1) := by decide +kernel
theorem dX12_ticksKept_0 : decode cX12_ticksKept 0 = .ok (.aload_n 0, 1) := by decide +kernel
theorem dX12_ticksKept_1 : decode cX12_ticksKept 1 = .ok (.getfield 24, 3) := by decide +kernel
theorem dX12_ticksKept_4 : decode cX12_ticksKept 4 = .ok (.bipush 22, 2) := by decide +kernel
theorem dX12_ticksKept_6 : decode cX12_ticksKept 6 = .ok (.iaload, 1) := by decide +kernel
theorem dX12_ticksKept_7 : decode cX12_ticksKept 7 = .ok (.sipush 999, 3) := by decide +kernel
theorem dX12_ticksKept_10 : decode cX12_ticksKept 10 = .ok (.if_icmp .ne 6, 3) := by decide +kernel
theorem dX12_ticksKept_16 : decode cX12_ticksKept 16 = .ok (.aload_n 0, 1) := by decide +kernel
theorem dX12_ticksKept_17 : decode cX12_ticksKept 17 = .ok (.iconst 3, 1) := by decide +kernel
theorem dX12_ticksKept_18 : decode cX12_ticksKept 18 = .ok (.invokevirtual 333, 3) := by decide +kernel
theorem dX12_ticksKept_21 : decode cX12_ticksKept 21 = .ok (.aload_n 0, 1) := by decide +kernel
theorem dX12_ticksKept_22 : decode cX12_ticksKept 22 = .ok (.aload_n 0, 1) := by decide +kernel
theorem dX12_ticksKept_23 : decode cX12_ticksKept 23 = .ok (.invokevirtual 342, 3) := by decide +kernel
theorem dX12_ticksKept_26 : decode cX12_ticksKept 26 = .ok (.invokevirtual 345, 3) := by decide +kernel
theorem dX12_ticksKept_29 : decode cX12_ticksKept 29 = .ok (.ireturn, 1) := by decide +kernel
theorem dX12_allBuilders_0 : decode cX12_allBuilders 0 = .ok (.iconst 1, 1) := by decide +kernel
theorem dX12_allBuilders_1 : decode cX12_allBuilders 1 = .ok (.aload_n 0, 1) := by decide +kernel
theorem dX12_allBuilders_2 : decode cX12_allBuilders 2 = .ok (.getfield 24, 3) := by decide +kernel
theorem dX12_allBuilders_5 : decode cX12_allBuilders 5 = .ok (.bipush 103, 2) := by decide +kernel
theorem dX12_allBuilders_7 : decode cX12_allBuilders 7 = .ok (.iaload, 1) := by decide +kernel
theorem dX12_allBuilders_8 : decode cX12_allBuilders 8 = .ok (.ishl, 1) := by decide +kernel
theorem dX12_allBuilders_9 : decode cX12_allBuilders 9 = .ok (.iconst 1, 1) := by decide +kernel
theorem dX12_allBuilders_10 : decode cX12_allBuilders 10 = .ok (.isub, 1) := by decide +kernel
theorem dX12_allBuilders_11 : decode cX12_allBuilders 11 = .ok (.ireturn, 1) := by decide +kernel
theorem dX12_send_0 : decode cX12_send 0 = .ok (.aload_n 0, 1) := by decide +kernel
theorem dX12_send_1 : decode cX12_send 1 = .ok (.aload_n 0, 1) := by decide +kernel
theorem dX12_send_2 : decode cX12_send 2 = .ok (.iload_n 1, 1) := by decide +kernel
theorem dX12_send_3 : decode cX12_send 3 = .ok (.iload_n 2, 1) := by decide +kernel
theorem dX12_send_4 : decode cX12_send 4 = .ok (.invokevirtual 348, 3) := by decide +kernel
theorem dX12_send_7 : decode cX12_send 7 = .ok (.invokevirtual 351, 3) := by decide +kernel
theorem dX12_send_10 : decode cX12_send 10 = .ok (.ireturn, 1) := by decide +kernel
theorem dX12_rest_0 : decode cX12_rest 0 = .ok (.aload_n 0, 1) := by decide +kernel
theorem dX12_rest_1 : decode cX12_rest 1 = .ok (.aload_n 0, 1) := by decide +kernel
theorem dX12_rest_2 : decode cX12_rest 2 = .ok (.iload_n 1, 1) := by decide +kernel
theorem dX12_rest_3 : decode cX12_rest 3 = .ok (.invokevirtual 354, 3) := by decide +kernel
theorem dX12_rest_6 : decode cX12_rest 6 = .ok (.invokevirtual 351, 3) := by decide +kernel
theorem dX12_rest_9 : decode cX12_rest 9 = .ok (.ireturn, 1) := by decide +kernel
theorem dX12_throwDown_0 : decode cX12_throwDown 0 = .ok (.aload_n 0, 1) := by decide +kernel
theorem dX12_throwDown_1 : decode cX12_throwDown 1 = .ok (.aload_n 0, 1) := by decide +kernel
theorem dX12_throwDown_2 : decode cX12_throwDown 2 = .ok (.iload_n 1, 1) := by decide +kernel
theorem dX12_throwDown_3 : decode cX12_throwDown 3 = .ok (.invokevirtual 357, 3) := by decide +kernel
theorem dX12_throwDown_6 : decode cX12_throwDown 6 = .ok (.invokevirtual 351, 3) := by decide +kernel
theorem dX12_throwDown_9 : decode cX12_throwDown 9 = .ok (.ireturn, 1) := by decide +kernel
theorem dX12_tick_0 : decode cX12_tick 0 = .ok (.aload_n 0, 1) := by decide +kernel
theorem dX12_tick_1 : decode cX12_tick 1 = .ok (.aload_n 0, 1) := by decide +kernel
theorem dX12_tick_2 : decode cX12_tick 2 = .ok (.invokevirtual 360, 3) := by decide +kernel
theorem dX12_tick_5 : decode cX12_tick 5 = .ok (.invokevirtual 351, 3) := by decide +kernel
theorem dX12_tick_8 : decode cX12_tick 8 = .ok (.ireturn, 1) := by decide +kernel
theorem dX12_laysChains_0 : decode cX12_laysChains 0 = .ok (.aload_n 0, 1) := by decide +kernel
theorem dX12_laysChains_1 : decode cX12_laysChains 1 = .ok (.getfield 24, 3) := by decide +kernel
theorem dX12_laysChains_4 : decode cX12_laysChains 4 = .ok (.bipush 102, 2) := by decide +kernel
theorem dX12_laysChains_6 : decode cX12_laysChains 6 = .ok (.iaload, 1) := by decide +kernel
theorem dX12_laysChains_7 : decode cX12_laysChains 7 = .ok (.iconst 1, 1) := by decide +kernel
theorem dX12_laysChains_8 : decode cX12_laysChains 8 = .ok (.isub, 1) := by decide +kernel
theorem dX12_laysChains_9 : decode cX12_laysChains 9 = .ok (.istore_n 1, 1) := by decide +kernel
theorem dX12_laysChains_10 : decode cX12_laysChains 10 = .ok (.iload_n 1, 1) := by decide +kernel
theorem dX12_laysChains_11 : decode cX12_laysChains 11 = .ok (.ifCond .lt 83, 3) := by decide +kernel
theorem dX12_laysChains_94 : decode cX12_laysChains 94 = .ok (.return_, 1) := by decide +kernel
theorem dX12_longest_0 : decode cX12_longest 0 = .ok (.aload_n 0, 1) := by decide +kernel
theorem dX12_longest_1 : decode cX12_longest 1 = .ok (.invokevirtual 128, 3) := by decide +kernel
theorem dX12_longest_4 : decode cX12_longest 4 = .ok (.iconst 0, 1) := by decide +kernel
theorem dX12_longest_5 : decode cX12_longest 5 = .ok (.istore_n 1, 1) := by decide +kernel
theorem dX12_longest_6 : decode cX12_longest 6 = .ok (.iconst 0, 1) := by decide +kernel
theorem dX12_longest_7 : decode cX12_longest 7 = .ok (.istore_n 2, 1) := by decide +kernel
theorem dX12_longest_8 : decode cX12_longest 8 = .ok (.iload_n 2, 1) := by decide +kernel
theorem dX12_longest_9 : decode cX12_longest 9 = .ok (.aload_n 0, 1) := by decide +kernel
theorem dX12_longest_10 : decode cX12_longest 10 = .ok (.getfield 24, 3) := by decide +kernel
theorem dX12_longest_13 : decode cX12_longest 13 = .ok (.bipush 102, 2) := by decide +kernel
theorem dX12_longest_15 : decode cX12_longest 15 = .ok (.iaload, 1) := by decide +kernel
theorem dX12_longest_16 : decode cX12_longest 16 = .ok (.if_icmp .ge 20, 3) := by decide +kernel
theorem dX12_longest_36 : decode cX12_longest 36 = .ok (.iload_n 1, 1) := by decide +kernel
theorem dX12_longest_37 : decode cX12_longest 37 = .ok (.ireturn, 1) := by decide +kernel
theorem dX12_laysOrders_0 : decode cX12_laysOrders 0 = .ok (.aload_n 0, 1) := by decide +kernel
theorem dX12_laysOrders_1 : decode cX12_laysOrders 1 = .ok (.invokevirtual 363, 3) := by decide +kernel
theorem dX12_laysOrders_4 : decode cX12_laysOrders 4 = .ok (.istore_n 1, 1) := by decide +kernel
theorem dX12_laysOrders_5 : decode cX12_laysOrders 5 = .ok (.aload_n 0, 1) := by decide +kernel
theorem dX12_laysOrders_6 : decode cX12_laysOrders 6 = .ok (.getfield 77, 3) := by decide +kernel
theorem dX12_laysOrders_9 : decode cX12_laysOrders 9 = .ok (.iload_n 1, 1) := by decide +kernel
theorem dX12_laysOrders_10 : decode cX12_laysOrders 10 = .ok (.iconst 1, 1) := by decide +kernel
theorem dX12_laysOrders_11 : decode cX12_laysOrders 11 = .ok (.iastore, 1) := by decide +kernel
theorem dX12_laysOrders_12 : decode cX12_laysOrders 12 = .ok (.iload_n 1, 1) := by decide +kernel
theorem dX12_laysOrders_13 : decode cX12_laysOrders 13 = .ok (.iconst 1, 1) := by decide +kernel
theorem dX12_laysOrders_14 : decode cX12_laysOrders 14 = .ok (.isub, 1) := by decide +kernel
theorem dX12_laysOrders_15 : decode cX12_laysOrders 15 = .ok (.istore_n 2, 1) := by decide +kernel
theorem dX12_laysOrders_16 : decode cX12_laysOrders 16 = .ok (.iload_n 2, 1) := by decide +kernel
theorem dX12_laysOrders_17 : decode cX12_laysOrders 17 = .ok (.ifCond .lt 67, 3) := by decide +kernel
theorem dX12_laysOrders_84 : decode cX12_laysOrders 84 = .ok (.return_, 1) := by decide +kernel
theorem dX12_rows_0 : decode cX12_rows 0 = .ok (.iload_n 1, 1) := by decide +kernel
theorem dX12_rows_1 : decode cX12_rows 1 = .ok (.iconst (-1), 1) := by decide +kernel
theorem dX12_rows_2 : decode cX12_rows 2 = .ok (.if_icmp .ge 5, 3) := by decide +kernel
theorem dX12_rows_5 : decode cX12_rows 5 = .ok (.iconst (-1), 1) := by decide +kernel
theorem dX12_rows_6 : decode cX12_rows 6 = .ok (.ireturn, 1) := by decide +kernel
theorem dX12_rows_7 : decode cX12_rows 7 = .ok (.aload_n 0, 1) := by decide +kernel
theorem dX12_rows_8 : decode cX12_rows 8 = .ok (.invokevirtual 369, 3) := by decide +kernel
theorem dX12_rows_11 : decode cX12_rows 11 = .ok (.aload_n 0, 1) := by decide +kernel
theorem dX12_rows_12 : decode cX12_rows 12 = .ok (.invokevirtual 118, 3) := by decide +kernel
theorem dX12_rows_15 : decode cX12_rows 15 = .ok (.istore_n 3, 1) := by decide +kernel
theorem dX12_rows_16 : decode cX12_rows 16 = .ok (.iload_n 1, 1) := by decide +kernel
theorem dX12_rows_17 : decode cX12_rows 17 = .ok (.iconst (-1), 1) := by decide +kernel
theorem dX12_rows_18 : decode cX12_rows 18 = .ok (.if_icmp .ne 10, 3) := by decide +kernel
theorem dX12_rows_21 : decode cX12_rows 21 = .ok (.aload_n 0, 1) := by decide +kernel
theorem dX12_rows_22 : decode cX12_rows 22 = .ok (.getfield 77, 3) := by decide +kernel
theorem dX12_rows_25 : decode cX12_rows 25 = .ok (.iload_n 3, 1) := by decide +kernel
theorem dX12_rows_26 : decode cX12_rows 26 = .ok (.iaload, 1) := by decide +kernel
theorem dX12_rows_27 : decode cX12_rows 27 = .ok (.ireturn, 1) := by decide +kernel
theorem dX12_rows_28 : decode cX12_rows 28 = .ok (.iload_n 1, 1) := by decide +kernel
theorem dX12_rows_29 : decode cX12_rows 29 = .ok (.istore 4, 2) := by decide +kernel
theorem dX12_rows_31 : decode cX12_rows 31 = .ok (.iload_n 1, 1) := by decide +kernel
theorem dX12_rows_32 : decode cX12_rows 32 = .ok (.aload_n 0, 1) := by decide +kernel
theorem dX12_rows_33 : decode cX12_rows 33 = .ok (.getfield 77, 3) := by decide +kernel
theorem dX12_rows_36 : decode cX12_rows 36 = .ok (.iload_n 3, 1) := by decide +kernel
theorem dX12_rows_37 : decode cX12_rows 37 = .ok (.iaload, 1) := by decide +kernel
theorem dX12_rows_38 : decode cX12_rows 38 = .ok (.if_icmp .ge 25, 3) := by decide +kernel
theorem dX12_rows_41 : decode cX12_rows 41 = .ok (.iload_n 2, 1) := by decide +kernel
theorem dX12_rows_42 : decode cX12_rows 42 = .ok (.iconst 0, 1) := by decide +kernel
theorem dX12_rows_43 : decode cX12_rows 43 = .ok (.aload_n 0, 1) := by decide +kernel
theorem dX12_rows_44 : decode cX12_rows 44 = .ok (.getfield 24, 3) := by decide +kernel
theorem dX12_rows_47 : decode cX12_rows 47 = .ok (.bipush 102, 2) := by decide +kernel
theorem dX12_rows_49 : decode cX12_rows 49 = .ok (.iaload, 1) := by decide +kernel
theorem dX12_rows_50 : decode cX12_rows 50 = .ok (.iload_n 3, 1) := by decide +kernel
theorem dX12_rows_51 : decode cX12_rows 51 = .ok (.invokestatic 287, 3) := by decide +kernel
theorem dX12_rows_54 : decode cX12_rows 54 = .ok (.isub, 1) := by decide +kernel
theorem dX12_rows_55 : decode cX12_rows 55 = .ok (.iconst 1, 1) := by decide +kernel
theorem dX12_rows_56 : decode cX12_rows 56 = .ok (.isub, 1) := by decide +kernel
theorem dX12_rows_57 : decode cX12_rows 57 = .ok (.invokestatic 96, 3) := by decide +kernel
theorem dX12_rows_60 : decode cX12_rows 60 = .ok (.ifCond .ne 5, 3) := by decide +kernel
theorem dX12_rows_63 : decode cX12_rows 63 = .ok (.iconst (-1), 1) := by decide +kernel
theorem dX12_rows_64 : decode cX12_rows 64 = .ok (.ireturn, 1) := by decide +kernel
theorem dX12_begins_0 : decode cX12_begins 0 = .ok (.aload_n 0, 1) := by decide +kernel
theorem dX12_begins_1 : decode cX12_begins 1 = .ok (.iconst 0, 1) := by decide +kernel
theorem dX12_begins_2 : decode cX12_begins 2 = .ok (.invokevirtual 372, 3) := by decide +kernel
theorem dX12_begins_5 : decode cX12_begins 5 = .ok (.iconst 0, 1) := by decide +kernel
theorem dX12_begins_6 : decode cX12_begins 6 = .ok (.istore_n 1, 1) := by decide +kernel
theorem dX12_begins_7 : decode cX12_begins 7 = .ok (.iload_n 1, 1) := by decide +kernel
theorem dX12_begins_8 : decode cX12_begins 8 = .ok (.bipush 6, 2) := by decide +kernel
theorem dX12_begins_10 : decode cX12_begins 10 = .ok (.if_icmp .ge 19, 3) := by decide +kernel
theorem dX12_begins_13 : decode cX12_begins 13 = .ok (.aload_n 0, 1) := by decide +kernel
theorem dX12_begins_14 : decode cX12_begins 14 = .ok (.getfield 24, 3) := by decide +kernel
theorem dX12_begins_17 : decode cX12_begins 17 = .ok (.bipush 16, 2) := by decide +kernel
theorem dX12_begins_19 : decode cX12_begins 19 = .ok (.iload_n 1, 1) := by decide +kernel
theorem dX12_begins_20 : decode cX12_begins 20 = .ok (.iadd, 1) := by decide +kernel
theorem dX12_begins_21 : decode cX12_begins 21 = .ok (.iconst (-1), 1) := by decide +kernel
theorem dX12_begins_22 : decode cX12_begins 22 = .ok (.iastore, 1) := by decide +kernel
theorem dX12_begins_23 : decode cX12_begins 23 = .ok (.iinc 1 1, 3) := by decide +kernel
theorem dX12_begins_26 : decode cX12_begins 26 = .ok (.goto (-19), 3) := by decide +kernel
theorem dX12_begins_29 : decode cX12_begins 29 = .ok (.return_, 1) := by decide +kernel
theorem dX12_sendsAll_0 : decode cX12_sendsAll 0 = .ok (.aload_n 0, 1) := by decide +kernel
theorem dX12_sendsAll_1 : decode cX12_sendsAll 1 = .ok (.invokevirtual 128, 3) := by decide +kernel
theorem dX12_sendsAll_4 : decode cX12_sendsAll 4 = .ok (.iconst 0, 1) := by decide +kernel
theorem dX12_sendsAll_5 : decode cX12_sendsAll 5 = .ok (.istore_n 2, 1) := by decide +kernel
theorem dX12_sendsAll_6 : decode cX12_sendsAll 6 = .ok (.iload_n 2, 1) := by decide +kernel
theorem dX12_sendsAll_7 : decode cX12_sendsAll 7 = .ok (.aload_n 0, 1) := by decide +kernel
theorem dX12_sendsAll_8 : decode cX12_sendsAll 8 = .ok (.getfield 24, 3) := by decide +kernel
theorem dX12_sendsAll_11 : decode cX12_sendsAll 11 = .ok (.bipush 103, 2) := by decide +kernel
theorem dX12_sendsAll_13 : decode cX12_sendsAll 13 = .ok (.iaload, 1) := by decide +kernel
theorem dX12_sendsAll_14 : decode cX12_sendsAll 14 = .ok (.if_icmp .ge 44, 3) := by decide +kernel
theorem dX12_sendsAll_58 : decode cX12_sendsAll 58 = .ok (.return_, 1) := by decide +kernel
theorem dX12_areStanding_0 : decode cX12_areStanding 0 = .ok (.iload_n 1, 1) := by decide +kernel
theorem dX12_areStanding_1 : decode cX12_areStanding 1 = .ok (.aload_n 0, 1) := by decide +kernel
theorem dX12_areStanding_2 : decode cX12_areStanding 2 = .ok (.invokevirtual 118, 3) := by decide +kernel
theorem dX12_areStanding_5 : decode cX12_areStanding 5 = .ok (.iconst (-1), 1) := by decide +kernel
theorem dX12_areStanding_6 : decode cX12_areStanding 6 = .ok (.ixor, 1) := by decide +kernel
theorem dX12_areStanding_7 : decode cX12_areStanding 7 = .ok (.iand, 1) := by decide +kernel
theorem dX12_areStanding_8 : decode cX12_areStanding 8 = .ok (.ifCond .ne 7, 3) := by decide +kernel
theorem dX12_areStanding_11 : decode cX12_areStanding 11 = .ok (.iconst 1, 1) := by decide +kernel
theorem dX12_areStanding_12 : decode cX12_areStanding 12 = .ok (.goto 4, 3) := by decide +kernel
theorem dX12_areStanding_16 : decode cX12_areStanding 16 = .ok (.ireturn, 1) := by decide +kernel
theorem dX12_planned_0 : decode cX12_planned 0 = .ok (.aload_n 0, 1) := by decide +kernel
theorem dX12_planned_1 : decode cX12_planned 1 = .ok (.invokevirtual 378, 3) := by decide +kernel
theorem dX12_planned_4 : decode cX12_planned 4 = .ok (.iconst 0, 1) := by decide +kernel
theorem dX12_planned_5 : decode cX12_planned 5 = .ok (.istore 4, 2) := by decide +kernel
theorem dX12_planned_7 : decode cX12_planned 7 = .ok (.iload 4, 2) := by decide +kernel
theorem dX12_planned_9 : decode cX12_planned 9 = .ok (.iload_n 3, 1) := by decide +kernel
theorem dX12_planned_10 : decode cX12_planned 10 = .ok (.if_icmp .ge 28, 3) := by decide +kernel
theorem dX12_planned_13 : decode cX12_planned 13 = .ok (.aload_n 0, 1) := by decide +kernel
theorem dX12_planned_14 : decode cX12_planned 14 = .ok (.iload_n 2, 1) := by decide +kernel
theorem dX12_planned_15 : decode cX12_planned 15 = .ok (.invokevirtual 381, 3) := by decide +kernel
theorem dX12_planned_18 : decode cX12_planned 18 = .ok (.ifCond .ne 20, 3) := by decide +kernel
theorem dX12_planned_38 : decode cX12_planned 38 = .ok (.aload_n 0, 1) := by decide +kernel
theorem dX12_planned_39 : decode cX12_planned 39 = .ok (.iload_n 2, 1) := by decide +kernel
theorem dX12_planned_40 : decode cX12_planned 40 = .ok (.invokevirtual 381, 3) := by decide +kernel
theorem dX12_planned_43 : decode cX12_planned 43 = .ok (.ifCond .eq 8, 3) := by decide +kernel
theorem dX12_planned_46 : decode cX12_planned 46 = .ok (.iload 4, 2) := by decide +kernel
theorem dX12_planned_48 : decode cX12_planned 48 = .ok (.goto 4, 3) := by decide +kernel
theorem dX12_planned_52 : decode cX12_planned 52 = .ok (.istore 5, 2) := by decide +kernel
theorem dX12_planned_54 : decode cX12_planned 54 = .ok (.aload_n 0, 1) := by decide +kernel
theorem dX12_planned_55 : decode cX12_planned 55 = .ok (.iconst 0, 1) := by decide +kernel
theorem dX12_planned_56 : decode cX12_planned 56 = .ok (.invokevirtual 387, 3) := by decide +kernel
theorem dX12_planned_59 : decode cX12_planned 59 = .ok (.iload 5, 2) := by decide +kernel
theorem dX12_planned_61 : decode cX12_planned 61 = .ok (.ireturn, 1) := by decide +kernel
theorem dX12_plan_0 : decode cX12_plan 0 = .ok (.iload_n 1, 1) := by decide +kernel
theorem dX12_plan_1 : decode cX12_plan 1 = .ok (.iconst (-1), 1) := by decide +kernel
theorem dX12_plan_2 : decode cX12_plan 2 = .ok (.if_icmp .eq 13, 3) := by decide +kernel
theorem dX12_plan_5 : decode cX12_plan 5 = .ok (.aload_n 0, 1) := by decide +kernel
theorem dX12_plan_6 : decode cX12_plan 6 = .ok (.iload_n 1, 1) := by decide +kernel
theorem dX12_plan_7 : decode cX12_plan 7 = .ok (.invokevirtual 122, 3) := by decide +kernel
theorem dX12_plan_10 : decode cX12_plan 10 = .ok (.ifCond .ne 5, 3) := by decide +kernel
theorem dX12_plan_13 : decode cX12_plan 13 = .ok (.iconst (-1), 1) := by decide +kernel
theorem dX12_plan_14 : decode cX12_plan 14 = .ok (.ireturn, 1) := by decide +kernel
theorem dX12_plan_15 : decode cX12_plan 15 = .ok (.aload_n 0, 1) := by decide +kernel
theorem dX12_plan_16 : decode cX12_plan 16 = .ok (.aload_n 0, 1) := by decide +kernel
theorem dX12_plan_17 : decode cX12_plan 17 = .ok (.invokevirtual 342, 3) := by decide +kernel
theorem dX12_plan_20 : decode cX12_plan 20 = .ok (.iload_n 1, 1) := by decide +kernel
theorem dX12_plan_21 : decode cX12_plan 21 = .ok (.iconst (-1), 1) := by decide +kernel
theorem dX12_plan_22 : decode cX12_plan 22 = .ok (.if_icmp .ne 10, 3) := by decide +kernel
theorem dX12_plan_25 : decode cX12_plan 25 = .ok (.aload_n 0, 1) := by decide +kernel
theorem dX12_plan_26 : decode cX12_plan 26 = .ok (.invokevirtual 363, 3) := by decide +kernel
theorem dX12_plan_29 : decode cX12_plan 29 = .ok (.goto 6, 3) := by decide +kernel
theorem dX12_plan_35 : decode cX12_plan 35 = .ok (.sipush 200, 3) := by decide +kernel
theorem dX12_plan_38 : decode cX12_plan 38 = .ok (.invokevirtual 390, 3) := by decide +kernel
theorem dX12_plan_41 : decode cX12_plan 41 = .ok (.ireturn, 1) := by decide +kernel
theorem dX12_hands_0 : decode cX12_hands 0 = .ok (.iload_n 1, 1) := by decide +kernel
theorem dX12_hands_1 : decode cX12_hands 1 = .ok (.iconst 0, 1) := by decide +kernel
theorem dX12_hands_2 : decode cX12_hands 2 = .ok (.iconst 1, 1) := by decide +kernel
theorem dX12_hands_3 : decode cX12_hands 3 = .ok (.invokestatic 96, 3) := by decide +kernel
theorem dX12_hands_6 : decode cX12_hands 6 = .ok (.ifCond .ne 5, 3) := by decide +kernel
theorem dX12_hands_9 : decode cX12_hands 9 = .ok (.iconst (-1), 1) := by decide +kernel
theorem dX12_hands_10 : decode cX12_hands 10 = .ok (.ireturn, 1) := by decide +kernel
theorem dX12_hands_11 : decode cX12_hands 11 = .ok (.iconst (-1), 1) := by decide +kernel
theorem dX12_hands_12 : decode cX12_hands 12 = .ok (.istore_n 2, 1) := by decide +kernel
theorem dX12_hands_13 : decode cX12_hands 13 = .ok (.iconst 0, 1) := by decide +kernel
theorem dX12_hands_14 : decode cX12_hands 14 = .ok (.istore_n 3, 1) := by decide +kernel
theorem dX12_hands_15 : decode cX12_hands 15 = .ok (.iload_n 3, 1) := by decide +kernel
theorem dX12_hands_16 : decode cX12_hands 16 = .ok (.aload_n 0, 1) := by decide +kernel
theorem dX12_hands_17 : decode cX12_hands 17 = .ok (.invokevirtual 342, 3) := by decide +kernel
theorem dX12_hands_20 : decode cX12_hands 20 = .ok (.if_icmp .gt 50, 3) := by decide +kernel
theorem dX12_hands_23 : decode cX12_hands 23 = .ok (.iload_n 2, 1) := by decide +kernel
theorem dX12_hands_24 : decode cX12_hands 24 = .ok (.iconst (-1), 1) := by decide +kernel
theorem dX12_hands_25 : decode cX12_hands 25 = .ok (.if_icmp .eq 17, 3) := by decide +kernel
theorem dX12_hands_42 : decode cX12_hands 42 = .ok (.aload_n 0, 1) := by decide +kernel
theorem dX12_hands_43 : decode cX12_hands 43 = .ok (.iload_n 3, 1) := by decide +kernel
theorem dX12_hands_44 : decode cX12_hands 44 = .ok (.aload_n 0, 1) := by decide +kernel
theorem dX12_hands_45 : decode cX12_hands 45 = .ok (.invokevirtual 363, 3) := by decide +kernel
theorem dX12_hands_48 : decode cX12_hands 48 = .ok (.aload_n 0, 1) := by decide +kernel
theorem dX12_hands_49 : decode cX12_hands 49 = .ok (.getfield 24, 3) := by decide +kernel
theorem dX12_hands_52 : decode cX12_hands 52 = .ok (.bipush 99, 2) := by decide +kernel
theorem dX12_hands_54 : decode cX12_hands 54 = .ok (.iaload, 1) := by decide +kernel
theorem dX12_hands_55 : decode cX12_hands 55 = .ok (.invokevirtual 390, 3) := by decide +kernel
theorem dX12_hands_58 : decode cX12_hands 58 = .ok (.iconst (-1), 1) := by decide +kernel
theorem dX12_hands_59 : decode cX12_hands 59 = .ok (.if_icmp .eq 5, 3) := by decide +kernel
theorem dX12_hands_62 : decode cX12_hands 62 = .ok (.iload_n 3, 1) := by decide +kernel
theorem dX12_hands_63 : decode cX12_hands 63 = .ok (.istore_n 2, 1) := by decide +kernel
theorem dX12_hands_64 : decode cX12_hands 64 = .ok (.iinc 3 1, 3) := by decide +kernel
theorem dX12_hands_67 : decode cX12_hands 67 = .ok (.goto (-52), 3) := by decide +kernel
theorem dX12_hands_70 : decode cX12_hands 70 = .ok (.iload_n 2, 1) := by decide +kernel
theorem dX12_hands_71 : decode cX12_hands 71 = .ok (.iconst (-1), 1) := by decide +kernel
theorem dX12_hands_72 : decode cX12_hands 72 = .ok (.if_icmp .eq 8, 3) := by decide +kernel
theorem dX12_hands_75 : decode cX12_hands 75 = .ok (.iload_n 1, 1) := by decide +kernel
theorem dX12_hands_76 : decode cX12_hands 76 = .ok (.iconst 1, 1) := by decide +kernel
theorem dX12_hands_77 : decode cX12_hands 77 = .ok (.if_icmp .ne 7, 3) := by decide +kernel
theorem dX12_hands_80 : decode cX12_hands 80 = .ok (.iload_n 2, 1) := by decide +kernel
theorem dX12_hands_81 : decode cX12_hands 81 = .ok (.goto 7, 3) := by decide +kernel
theorem dX12_hands_84 : decode cX12_hands 84 = .ok (.iload_n 2, 1) := by decide +kernel
theorem dX12_hands_85 : decode cX12_hands 85 = .ok (.invokestatic 287, 3) := by decide +kernel
theorem dX12_hands_88 : decode cX12_hands 88 = .ok (.ireturn, 1) := by decide +kernel
theorem dX12_taught_0 : decode cX12_taught 0 = .ok (.iload_n 1, 1) := by decide +kernel
theorem dX12_taught_1 : decode cX12_taught 1 = .ok (.iconst 0, 1) := by decide +kernel
theorem dX12_taught_2 : decode cX12_taught 2 = .ok (.iconst 2, 1) := by decide +kernel
theorem dX12_taught_3 : decode cX12_taught 3 = .ok (.invokestatic 96, 3) := by decide +kernel
theorem dX12_taught_6 : decode cX12_taught 6 = .ok (.ifCond .ne 5, 3) := by decide +kernel
theorem dX12_taught_9 : decode cX12_taught 9 = .ok (.iconst (-1), 1) := by decide +kernel
theorem dX12_taught_10 : decode cX12_taught 10 = .ok (.ireturn, 1) := by decide +kernel
theorem dX12_taught_11 : decode cX12_taught 11 = .ok (.aload_n 0, 1) := by decide +kernel
theorem dX12_taught_12 : decode cX12_taught 12 = .ok (.iconst (-1), 1) := by decide +kernel
theorem dX12_taught_13 : decode cX12_taught 13 = .ok (.invokevirtual 394, 3) := by decide +kernel
theorem dX12_taught_16 : decode cX12_taught 16 = .ok (.istore_n 2, 1) := by decide +kernel
theorem dX12_taught_17 : decode cX12_taught 17 = .ok (.iload_n 2, 1) := by decide +kernel
theorem dX12_taught_18 : decode cX12_taught 18 = .ok (.iconst (-1), 1) := by decide +kernel
theorem dX12_taught_19 : decode cX12_taught 19 = .ok (.if_icmp .ne 8, 3) := by decide +kernel
theorem dX12_taught_27 : decode cX12_taught 27 = .ok (.iload_n 2, 1) := by decide +kernel
theorem dX12_taught_28 : decode cX12_taught 28 = .ok (.istore_n 3, 1) := by decide +kernel
theorem dX12_taught_29 : decode cX12_taught 29 = .ok (.iconst (-1), 1) := by decide +kernel
theorem dX12_taught_30 : decode cX12_taught 30 = .ok (.istore 4, 2) := by decide +kernel
theorem dX12_taught_32 : decode cX12_taught 32 = .ok (.iconst 0, 1) := by decide +kernel
theorem dX12_taught_33 : decode cX12_taught 33 = .ok (.istore 5, 2) := by decide +kernel
theorem dX12_taught_35 : decode cX12_taught 35 = .ok (.iload 5, 2) := by decide +kernel
theorem dX12_taught_37 : decode cX12_taught 37 = .ok (.aload_n 0, 1) := by decide +kernel
theorem dX12_taught_38 : decode cX12_taught 38 = .ok (.getfield 24, 3) := by decide +kernel
theorem dX12_taught_41 : decode cX12_taught 41 = .ok (.bipush 103, 2) := by decide +kernel
theorem dX12_taught_43 : decode cX12_taught 43 = .ok (.iaload, 1) := by decide +kernel
theorem dX12_taught_44 : decode cX12_taught 44 = .ok (.if_icmp .ge 76, 3) := by decide +kernel
theorem dX12_taught_120 : decode cX12_taught 120 = .ok (.iload 4, 2) := by decide +kernel
theorem dX12_taught_122 : decode cX12_taught 122 = .ok (.iconst (-1), 1) := by decide +kernel
theorem dX12_taught_123 : decode cX12_taught 123 = .ok (.if_icmp .ne 5, 3) := by decide +kernel
theorem dX12_taught_126 : decode cX12_taught 126 = .ok (.iconst (-1), 1) := by decide +kernel
theorem dX12_taught_127 : decode cX12_taught 127 = .ok (.ireturn, 1) := by decide +kernel
theorem dX12_unseen_0 : decode cX12_unseen 0 = .ok (.iload_n 1, 1) := by decide +kernel
theorem dX12_unseen_1 : decode cX12_unseen 1 = .ok (.iconst 0, 1) := by decide +kernel
theorem dX12_unseen_2 : decode cX12_unseen 2 = .ok (.bipush 99, 2) := by decide +kernel
theorem dX12_unseen_4 : decode cX12_unseen 4 = .ok (.invokestatic 96, 3) := by decide +kernel
theorem dX12_unseen_7 : decode cX12_unseen 7 = .ok (.ifCond .ne 7, 3) := by decide +kernel
theorem dX12_unseen_10 : decode cX12_unseen 10 = .ok (.ldc2_w 400, 3) := by decide +kernel
theorem dX12_unseen_13 : decode cX12_unseen 13 = .ok (.lreturn, 1) := by decide +kernel
theorem dX12_unseen_14 : decode cX12_unseen 14 = .ok (.aload_n 0, 1) := by decide +kernel
theorem dX12_unseen_15 : decode cX12_unseen 15 = .ok (.invokevirtual 378, 3) := by decide +kernel
theorem dX12_unseen_18 : decode cX12_unseen 18 = .ok (.ldc2_w 402, 3) := by decide +kernel
theorem dX12_unseen_21 : decode cX12_unseen 21 = .ok (.lstore_n 2, 1) := by decide +kernel
theorem dX12_unseen_22 : decode cX12_unseen 22 = .ok (.iconst 0, 1) := by decide +kernel
theorem dX12_unseen_23 : decode cX12_unseen 23 = .ok (.istore 4, 2) := by decide +kernel
theorem dX12_unseen_25 : decode cX12_unseen 25 = .ok (.iload 4, 2) := by decide +kernel
theorem dX12_unseen_27 : decode cX12_unseen 27 = .ok (.iload_n 1, 1) := by decide +kernel
theorem dX12_unseen_28 : decode cX12_unseen 28 = .ok (.if_icmp .ge 99, 3) := by decide +kernel
theorem dX12_unseen_31 : decode cX12_unseen 31 = .ok (.aload_n 0, 1) := by decide +kernel
theorem dX12_unseen_32 : decode cX12_unseen 32 = .ok (.aload_n 0, 1) := by decide +kernel
theorem dX12_unseen_33 : decode cX12_unseen 33 = .ok (.invokevirtual 363, 3) := by decide +kernel
theorem dX12_unseen_36 : decode cX12_unseen 36 = .ok (.invokevirtual 381, 3) := by decide +kernel
theorem dX12_unseen_39 : decode cX12_unseen 39 = .ok (.ifCond .ne 88, 3) := by decide +kernel
theorem dX12_unseen_127 : decode cX12_unseen 127 = .ok (.aload_n 0, 1) := by decide +kernel
theorem dX12_unseen_128 : decode cX12_unseen 128 = .ok (.iconst 0, 1) := by decide +kernel
theorem dX12_unseen_129 : decode cX12_unseen 129 = .ok (.invokevirtual 387, 3) := by decide +kernel
theorem dX12_unseen_132 : decode cX12_unseen 132 = .ok (.lload_n 2, 1) := by decide +kernel
theorem dX12_unseen_133 : decode cX12_unseen 133 = .ok (.lreturn, 1) := by decide +kernel
theorem dX12_sight_0 : decode cX12_sight 0 = .ok (.iload_n 1, 1) := by decide +kernel
theorem dX12_sight_1 : decode cX12_sight 1 = .ok (.iconst 0, 1) := by decide +kernel
theorem dX12_sight_2 : decode cX12_sight 2 = .ok (.bipush 99, 2) := by decide +kernel
theorem dX12_sight_4 : decode cX12_sight 4 = .ok (.invokestatic 96, 3) := by decide +kernel
theorem dX12_sight_7 : decode cX12_sight 7 = .ok (.ifCond .eq 12, 3) := by decide +kernel
theorem dX12_sight_10 : decode cX12_sight 10 = .ok (.iload_n 3, 1) := by decide +kernel
theorem dX12_sight_11 : decode cX12_sight 11 = .ok (.iconst 0, 1) := by decide +kernel
theorem dX12_sight_12 : decode cX12_sight 12 = .ok (.iconst 1, 1) := by decide +kernel
theorem dX12_sight_13 : decode cX12_sight 13 = .ok (.invokestatic 96, 3) := by decide +kernel
theorem dX12_sight_16 : decode cX12_sight 16 = .ok (.ifCond .ne 9, 3) := by decide +kernel
theorem dX12_sight_19 : decode cX12_sight 19 = .ok (.aload_n 0, 1) := by decide +kernel
theorem dX12_sight_20 : decode cX12_sight 20 = .ok (.iconst (-1), 1) := by decide +kernel
theorem dX12_sight_21 : decode cX12_sight 21 = .ok (.invokevirtual 100, 3) := by decide +kernel
theorem dX12_sight_24 : decode cX12_sight 24 = .ok (.ireturn, 1) := by decide +kernel
theorem dX12_sight_25 : decode cX12_sight 25 = .ok (.aload_n 0, 1) := by decide +kernel
theorem dX12_sight_26 : decode cX12_sight 26 = .ok (.iload_n 2, 1) := by decide +kernel
theorem dX12_sight_27 : decode cX12_sight 27 = .ok (.invokevirtual 122, 3) := by decide +kernel
theorem dX12_sight_30 : decode cX12_sight 30 = .ok (.ifCond .ne 10, 3) := by decide +kernel
theorem dX12_sight_33 : decode cX12_sight 33 = .ok (.aload_n 0, 1) := by decide +kernel
theorem dX12_sight_34 : decode cX12_sight 34 = .ok (.bipush (-2), 2) := by decide +kernel
theorem dX12_sight_36 : decode cX12_sight 36 = .ok (.invokevirtual 100, 3) := by decide +kernel
theorem dX12_sight_39 : decode cX12_sight 39 = .ok (.ireturn, 1) := by decide +kernel
theorem dX12_forget_0 : decode cX12_forget 0 = .ok (.aload_n 0, 1) := by decide +kernel
theorem dX12_forget_1 : decode cX12_forget 1 = .ok (.getfield 24, 3) := by decide +kernel
theorem dX12_forget_4 : decode cX12_forget 4 = .ok (.bipush 104, 2) := by decide +kernel
theorem dX12_forget_6 : decode cX12_forget 6 = .ok (.iaload, 1) := by decide +kernel
theorem dX12_forget_7 : decode cX12_forget 7 = .ok (.istore_n 1, 1) := by decide +kernel
theorem dX12_forget_8 : decode cX12_forget 8 = .ok (.aload_n 0, 1) := by decide +kernel
theorem dX12_forget_9 : decode cX12_forget 9 = .ok (.getfield 24, 3) := by decide +kernel
theorem dX12_forget_12 : decode cX12_forget 12 = .ok (.bipush 104, 2) := by decide +kernel
theorem dX12_forget_14 : decode cX12_forget 14 = .ok (.iconst 0, 1) := by decide +kernel
theorem dX12_forget_15 : decode cX12_forget 15 = .ok (.iastore, 1) := by decide +kernel
theorem dX12_forget_16 : decode cX12_forget 16 = .ok (.iload_n 1, 1) := by decide +kernel
theorem dX12_forget_17 : decode cX12_forget 17 = .ok (.ireturn, 1) := by decide +kernel
theorem dX12_areSo_0 : decode cX12_areSo 0 = .ok (.iconst 1, 1) := by decide +kernel
theorem dX12_areSo_1 : decode cX12_areSo 1 = .ok (.istore_n 2, 1) := by decide +kernel
theorem dX12_areSo_2 : decode cX12_areSo 2 = .ok (.iconst 0, 1) := by decide +kernel
theorem dX12_areSo_3 : decode cX12_areSo 3 = .ok (.istore_n 3, 1) := by decide +kernel
theorem dX12_areSo_4 : decode cX12_areSo 4 = .ok (.iload_n 3, 1) := by decide +kernel
theorem dX12_areSo_5 : decode cX12_areSo 5 = .ok (.aload_n 0, 1) := by decide +kernel
theorem dX12_areSo_6 : decode cX12_areSo 6 = .ok (.getfield 24, 3) := by decide +kernel
theorem dX12_areSo_9 : decode cX12_areSo 9 = .ok (.bipush 104, 2) := by decide +kernel
theorem dX12_areSo_11 : decode cX12_areSo 11 = .ok (.iaload, 1) := by decide +kernel
theorem dX12_areSo_12 : decode cX12_areSo 12 = .ok (.if_icmp .ge 76, 3) := by decide +kernel
theorem dX12_areSo_88 : decode cX12_areSo 88 = .ok (.iload_n 2, 1) := by decide +kernel
theorem dX12_areSo_89 : decode cX12_areSo 89 = .ok (.ireturn, 1) := by decide +kernel
theorem dX12_lastSight_0 : decode cX12_lastSight 0 = .ok (.iconst 0, 1) := by decide +kernel
theorem dX12_lastSight_1 : decode cX12_lastSight 1 = .ok (.istore_n 1, 1) := by decide +kernel
theorem dX12_lastSight_2 : decode cX12_lastSight 2 = .ok (.iconst 0, 1) := by decide +kernel
theorem dX12_lastSight_3 : decode cX12_lastSight 3 = .ok (.istore_n 2, 1) := by decide +kernel
theorem dX12_lastSight_4 : decode cX12_lastSight 4 = .ok (.iload_n 2, 1) := by decide +kernel
theorem dX12_lastSight_5 : decode cX12_lastSight 5 = .ok (.aload_n 0, 1) := by decide +kernel
theorem dX12_lastSight_6 : decode cX12_lastSight 6 = .ok (.getfield 24, 3) := by decide +kernel
theorem dX12_lastSight_9 : decode cX12_lastSight 9 = .ok (.bipush 104, 2) := by decide +kernel
theorem dX12_lastSight_11 : decode cX12_lastSight 11 = .ok (.iaload, 1) := by decide +kernel
theorem dX12_lastSight_12 : decode cX12_lastSight 12 = .ok (.if_icmp .ge 25, 3) := by decide +kernel
theorem dX12_lastSight_37 : decode cX12_lastSight 37 = .ok (.iload_n 1, 1) := by decide +kernel
theorem dX12_lastSight_38 : decode cX12_lastSight 38 = .ok (.ireturn, 1) := by decide +kernel
theorem dX12_goesOn_0 : decode cX12_goesOn 0 = .ok (.aload_n 0, 1) := by decide +kernel
theorem dX12_goesOn_1 : decode cX12_goesOn 1 = .ok (.aload_n 0, 1) := by decide +kernel
theorem dX12_goesOn_2 : decode cX12_goesOn 2 = .ok (.invokevirtual 363, 3) := by decide +kernel
theorem dX12_goesOn_5 : decode cX12_goesOn 5 = .ok (.invokevirtual 381, 3) := by decide +kernel
theorem dX12_goesOn_8 : decode cX12_goesOn 8 = .ok (.ifCond .eq 4, 3) := by decide +kernel
theorem dX12_goesOn_11 : decode cX12_goesOn 11 = .ok (.return_, 1) := by decide +kernel
theorem dX12_canBeWhose_0 : decode cX12_canBeWhose 0 = .ok (.aload_n 0, 1) := by decide +kernel
theorem dX12_canBeWhose_1 : decode cX12_canBeWhose 1 = .ok (.invokevirtual 378, 3) := by decide +kernel
theorem dX12_canBeWhose_4 : decode cX12_canBeWhose 4 = .ok (.aload_n 0, 1) := by decide +kernel
theorem dX12_canBeWhose_5 : decode cX12_canBeWhose 5 = .ok (.invokevirtual 406, 3) := by decide +kernel
theorem dX12_canBeWhose_8 : decode cX12_canBeWhose 8 = .ok (.istore_n 2, 1) := by decide +kernel
theorem dX12_canBeWhose_9 : decode cX12_canBeWhose 9 = .ok (.aload_n 0, 1) := by decide +kernel
theorem dX12_canBeWhose_10 : decode cX12_canBeWhose 10 = .ok (.iconst 0, 1) := by decide +kernel
theorem dX12_canBeWhose_11 : decode cX12_canBeWhose 11 = .ok (.invokevirtual 409, 3) := by decide +kernel
theorem dX12_canBeWhose_14 : decode cX12_canBeWhose 14 = .ok (.istore_n 3, 1) := by decide +kernel
theorem dX12_canBeWhose_15 : decode cX12_canBeWhose 15 = .ok (.iconst 1, 1) := by decide +kernel
theorem dX12_canBeWhose_16 : decode cX12_canBeWhose 16 = .ok (.istore 4, 2) := by decide +kernel
theorem dX12_canBeWhose_18 : decode cX12_canBeWhose 18 = .ok (.iload 4, 2) := by decide +kernel
theorem dX12_canBeWhose_20 : decode cX12_canBeWhose 20 = .ok (.iload_n 2, 1) := by decide +kernel
theorem dX12_canBeWhose_21 : decode cX12_canBeWhose 21 = .ok (.if_icmp .gt 25, 3) := by decide +kernel
theorem dX12_canBeWhose_46 : decode cX12_canBeWhose 46 = .ok (.aload_n 0, 1) := by decide +kernel
theorem dX12_canBeWhose_47 : decode cX12_canBeWhose 47 = .ok (.iconst 0, 1) := by decide +kernel
theorem dX12_canBeWhose_48 : decode cX12_canBeWhose 48 = .ok (.invokevirtual 387, 3) := by decide +kernel
theorem dX12_canBeWhose_51 : decode cX12_canBeWhose 51 = .ok (.iload_n 3, 1) := by decide +kernel
theorem dX12_canBeWhose_52 : decode cX12_canBeWhose 52 = .ok (.ireturn, 1) := by decide +kernel
theorem dX12_whose_0 : decode cX12_whose 0 = .ok (.iload_n 1, 1) := by decide +kernel
theorem dX12_whose_1 : decode cX12_whose 1 = .ok (.iconst (-1), 1) := by decide +kernel
theorem dX12_whose_2 : decode cX12_whose 2 = .ok (.if_icmp .ge 5, 3) := by decide +kernel
theorem dX12_whose_5 : decode cX12_whose 5 = .ok (.iconst (-1), 1) := by decide +kernel
theorem dX12_whose_6 : decode cX12_whose 6 = .ok (.ireturn, 1) := by decide +kernel
theorem dX12_whose_7 : decode cX12_whose 7 = .ok (.iconst 0, 1) := by decide +kernel
theorem dX12_whose_8 : decode cX12_whose 8 = .ok (.istore_n 2, 1) := by decide +kernel
theorem dX12_whose_9 : decode cX12_whose 9 = .ok (.iconst 0, 1) := by decide +kernel
theorem dX12_whose_10 : decode cX12_whose 10 = .ok (.istore_n 3, 1) := by decide +kernel
theorem dX12_whose_11 : decode cX12_whose 11 = .ok (.iload_n 3, 1) := by decide +kernel
theorem dX12_whose_12 : decode cX12_whose 12 = .ok (.aload_n 0, 1) := by decide +kernel
theorem dX12_whose_13 : decode cX12_whose 13 = .ok (.invokevirtual 342, 3) := by decide +kernel
theorem dX12_whose_16 : decode cX12_whose 16 = .ok (.if_icmp .gt 30, 3) := by decide +kernel
theorem dX12_whose_19 : decode cX12_whose 19 = .ok (.aload_n 0, 1) := by decide +kernel
theorem dX12_whose_20 : decode cX12_whose 20 = .ok (.iload_n 3, 1) := by decide +kernel
theorem dX12_whose_21 : decode cX12_whose 21 = .ok (.invokevirtual 415, 3) := by decide +kernel
theorem dX12_whose_24 : decode cX12_whose 24 = .ok (.ifCond .ne 6, 3) := by decide +kernel
theorem dX12_whose_30 : decode cX12_whose 30 = .ok (.iload_n 2, 1) := by decide +kernel
theorem dX12_whose_31 : decode cX12_whose 31 = .ok (.iload_n 1, 1) := by decide +kernel
theorem dX12_whose_32 : decode cX12_whose 32 = .ok (.if_icmp .ne 5, 3) := by decide +kernel
theorem dX12_whose_35 : decode cX12_whose 35 = .ok (.iload_n 3, 1) := by decide +kernel
theorem dX12_whose_36 : decode cX12_whose 36 = .ok (.ireturn, 1) := by decide +kernel
theorem dX12_whose_37 : decode cX12_whose 37 = .ok (.iinc 2 1, 3) := by decide +kernel
theorem dX12_whose_40 : decode cX12_whose 40 = .ok (.iinc 3 1, 3) := by decide +kernel
theorem dX12_whose_43 : decode cX12_whose 43 = .ok (.goto (-32), 3) := by decide +kernel
theorem dX12_whose_46 : decode cX12_whose 46 = .ok (.iload_n 1, 1) := by decide +kernel
theorem dX12_whose_47 : decode cX12_whose 47 = .ok (.iconst (-1), 1) := by decide +kernel
theorem dX12_whose_48 : decode cX12_whose 48 = .ok (.if_icmp .ne 7, 3) := by decide +kernel
theorem dX12_whose_51 : decode cX12_whose 51 = .ok (.iload_n 2, 1) := by decide +kernel
theorem dX12_whose_52 : decode cX12_whose 52 = .ok (.goto 4, 3) := by decide +kernel
theorem dX12_whose_55 : decode cX12_whose 55 = .ok (.iconst (-1), 1) := by decide +kernel
theorem dX12_whose_56 : decode cX12_whose 56 = .ok (.ireturn, 1) := by decide +kernel
theorem dX12_shows_0 : decode cX12_shows 0 = .ok (.aload_n 0, 1) := by decide +kernel
theorem dX12_shows_1 : decode cX12_shows 1 = .ok (.invokevirtual 378, 3) := by decide +kernel
theorem dX12_shows_4 : decode cX12_shows 4 = .ok (.iconst 0, 1) := by decide +kernel
theorem dX12_shows_5 : decode cX12_shows 5 = .ok (.istore_n 2, 1) := by decide +kernel
theorem dX12_shows_6 : decode cX12_shows 6 = .ok (.iload_n 2, 1) := by decide +kernel
theorem dX12_shows_7 : decode cX12_shows 7 = .ok (.bipush 40, 2) := by decide +kernel
theorem dX12_shows_9 : decode cX12_shows 9 = .ok (.if_icmp .gt 35, 3) := by decide +kernel
theorem dX12_shows_12 : decode cX12_shows 12 = .ok (.aload_n 0, 1) := by decide +kernel
theorem dX12_shows_13 : decode cX12_shows 13 = .ok (.getfield 80, 3) := by decide +kernel
theorem dX12_shows_16 : decode cX12_shows 16 = .ok (.bipush 11, 2) := by decide +kernel
theorem dX12_shows_18 : decode cX12_shows 18 = .ok (.iload_n 2, 1) := by decide +kernel
theorem dX12_shows_19 : decode cX12_shows 19 = .ok (.imul, 1) := by decide +kernel
theorem dX12_shows_20 : decode cX12_shows 20 = .ok (.aload_n 0, 1) := by decide +kernel
theorem dX12_shows_21 : decode cX12_shows 21 = .ok (.invokevirtual 118, 3) := by decide +kernel
theorem dX12_shows_24 : decode cX12_shows 24 = .ok (.invokestatic 287, 3) := by decide +kernel
theorem dX12_shows_27 : decode cX12_shows 27 = .ok (.iadd, 1) := by decide +kernel
theorem dX12_shows_28 : decode cX12_shows 28 = .ok (.dup2, 1) := by decide +kernel
theorem dX12_shows_29 : decode cX12_shows 29 = .ok (.iaload, 1) := by decide +kernel
theorem dX12_shows_30 : decode cX12_shows 30 = .ok (.iconst 1, 1) := by decide +kernel
theorem dX12_shows_31 : decode cX12_shows 31 = .ok (.iadd, 1) := by decide +kernel
theorem dX12_shows_32 : decode cX12_shows 32 = .ok (.iastore, 1) := by decide +kernel
theorem dX12_shows_33 : decode cX12_shows 33 = .ok (.aload_n 0, 1) := by decide +kernel
theorem dX12_shows_34 : decode cX12_shows 34 = .ok (.iload_n 1, 1) := by decide +kernel
theorem dX12_shows_35 : decode cX12_shows 35 = .ok (.invokevirtual 412, 3) := by decide +kernel
theorem dX12_shows_38 : decode cX12_shows 38 = .ok (.iinc 2 1, 3) := by decide +kernel
theorem dX12_shows_41 : decode cX12_shows 41 = .ok (.goto (-35), 3) := by decide +kernel
theorem dX12_shows_44 : decode cX12_shows 44 = .ok (.aload_n 0, 1) := by decide +kernel
theorem dX12_shows_45 : decode cX12_shows 45 = .ok (.iconst 0, 1) := by decide +kernel
theorem dX12_shows_46 : decode cX12_shows 46 = .ok (.invokevirtual 387, 3) := by decide +kernel
theorem dX12_shows_49 : decode cX12_shows 49 = .ok (.return_, 1) := by decide +kernel
theorem dX12_look_0 : decode cX12_look 0 = .ok (.iload_n 1, 1) := by decide +kernel
theorem dX12_look_1 : decode cX12_look 1 = .ok (.iconst 0, 1) := by decide +kernel
theorem dX12_look_2 : decode cX12_look 2 = .ok (.iconst 1, 1) := by decide +kernel
theorem dX12_look_3 : decode cX12_look 3 = .ok (.invokestatic 96, 3) := by decide +kernel
theorem dX12_look_6 : decode cX12_look 6 = .ok (.ifCond .ne 5, 3) := by decide +kernel
theorem dX12_look_9 : decode cX12_look 9 = .ok (.iconst (-1), 1) := by decide +kernel
theorem dX12_look_10 : decode cX12_look 10 = .ok (.ireturn, 1) := by decide +kernel
theorem dX12_look_11 : decode cX12_look 11 = .ok (.iconst 0, 1) := by decide +kernel
theorem dX12_look_12 : decode cX12_look 12 = .ok (.istore_n 2, 1) := by decide +kernel
theorem dX12_look_13 : decode cX12_look 13 = .ok (.iconst 0, 1) := by decide +kernel
theorem dX12_look_14 : decode cX12_look 14 = .ok (.istore_n 3, 1) := by decide +kernel
theorem dX12_look_15 : decode cX12_look 15 = .ok (.iload_n 3, 1) := by decide +kernel
theorem dX12_look_16 : decode cX12_look 16 = .ok (.sipush 451, 3) := by decide +kernel
theorem dX12_look_19 : decode cX12_look 19 = .ok (.if_icmp .ge 16, 3) := by decide +kernel
theorem dX12_look_22 : decode cX12_look 22 = .ok (.aload_n 0, 1) := by decide +kernel
theorem dX12_look_23 : decode cX12_look 23 = .ok (.getfield 80, 3) := by decide +kernel
theorem dX12_look_26 : decode cX12_look 26 = .ok (.iload_n 3, 1) := by decide +kernel
theorem dX12_look_27 : decode cX12_look 27 = .ok (.iconst 0, 1) := by decide +kernel
theorem dX12_look_28 : decode cX12_look 28 = .ok (.iastore, 1) := by decide +kernel
theorem dX12_look_29 : decode cX12_look 29 = .ok (.iinc 3 1, 3) := by decide +kernel
theorem dX12_look_32 : decode cX12_look 32 = .ok (.goto (-17), 3) := by decide +kernel
theorem dX12_look_35 : decode cX12_look 35 = .ok (.iconst 0, 1) := by decide +kernel
theorem dX12_look_36 : decode cX12_look 36 = .ok (.istore_n 3, 1) := by decide +kernel
theorem dX12_look_37 : decode cX12_look 37 = .ok (.iload_n 3, 1) := by decide +kernel
theorem dX12_look_38 : decode cX12_look 38 = .ok (.aload_n 0, 1) := by decide +kernel
theorem dX12_look_39 : decode cX12_look 39 = .ok (.invokevirtual 342, 3) := by decide +kernel
theorem dX12_look_42 : decode cX12_look 42 = .ok (.if_icmp .gt 28, 3) := by decide +kernel
theorem dX12_look_45 : decode cX12_look 45 = .ok (.aload_n 0, 1) := by decide +kernel
theorem dX12_look_46 : decode cX12_look 46 = .ok (.iload_n 3, 1) := by decide +kernel
theorem dX12_look_47 : decode cX12_look 47 = .ok (.invokevirtual 415, 3) := by decide +kernel
theorem dX12_look_50 : decode cX12_look 50 = .ok (.ifCond .ne 6, 3) := by decide +kernel
theorem dX12_look_56 : decode cX12_look 56 = .ok (.iinc 2 1, 3) := by decide +kernel
theorem dX12_look_59 : decode cX12_look 59 = .ok (.aload_n 0, 1) := by decide +kernel
theorem dX12_look_60 : decode cX12_look 60 = .ok (.iload_n 3, 1) := by decide +kernel
theorem dX12_look_61 : decode cX12_look 61 = .ok (.invokevirtual 418, 3) := by decide +kernel
theorem dX12_look_64 : decode cX12_look 64 = .ok (.iinc 3 1, 3) := by decide +kernel
theorem dX12_look_67 : decode cX12_look 67 = .ok (.goto (-30), 3) := by decide +kernel
theorem dX12_look_70 : decode cX12_look 70 = .ok (.iconst (-1), 1) := by decide +kernel
theorem dX12_look_71 : decode cX12_look 71 = .ok (.istore_n 3, 1) := by decide +kernel
theorem dX12_look_72 : decode cX12_look 72 = .ok (.ldc 157, 2) := by decide +kernel
theorem dX12_look_74 : decode cX12_look 74 = .ok (.istore 4, 2) := by decide +kernel
theorem dX12_look_76 : decode cX12_look 76 = .ok (.iconst 0, 1) := by decide +kernel
theorem dX12_look_77 : decode cX12_look 77 = .ok (.istore 5, 2) := by decide +kernel
theorem dX12_look_79 : decode cX12_look 79 = .ok (.iload 5, 2) := by decide +kernel
theorem dX12_look_81 : decode cX12_look 81 = .ok (.bipush 40, 2) := by decide +kernel
theorem dX12_look_83 : decode cX12_look 83 = .ok (.if_icmp .gt 69, 3) := by decide +kernel
theorem dX12_look_86 : decode cX12_look 86 = .ok (.iload_n 2, 1) := by decide +kernel
theorem dX12_look_87 : decode cX12_look 87 = .ok (.ifCond .le 65, 3) := by decide +kernel
theorem dX12_look_90 : decode cX12_look 90 = .ok (.iconst 0, 1) := by decide +kernel
theorem dX12_look_91 : decode cX12_look 91 = .ok (.istore 6, 2) := by decide +kernel
theorem dX12_look_93 : decode cX12_look 93 = .ok (.iconst 0, 1) := by decide +kernel
theorem dX12_look_94 : decode cX12_look 94 = .ok (.istore 7, 2) := by decide +kernel
theorem dX12_look_96 : decode cX12_look 96 = .ok (.iload 7, 2) := by decide +kernel
theorem dX12_look_98 : decode cX12_look 98 = .ok (.bipush 10, 2) := by decide +kernel
theorem dX12_look_100 : decode cX12_look 100 = .ok (.if_icmp .gt 29, 3) := by decide +kernel
theorem dX12_look_103 : decode cX12_look 103 = .ok (.iload 6, 2) := by decide +kernel
theorem dX12_look_105 : decode cX12_look 105 = .ok (.aload_n 0, 1) := by decide +kernel
theorem dX12_look_106 : decode cX12_look 106 = .ok (.getfield 80, 3) := by decide +kernel
theorem dX12_look_109 : decode cX12_look 109 = .ok (.bipush 11, 2) := by decide +kernel
theorem dX12_look_111 : decode cX12_look 111 = .ok (.iload 5, 2) := by decide +kernel
theorem dX12_look_113 : decode cX12_look 113 = .ok (.imul, 1) := by decide +kernel
theorem dX12_look_114 : decode cX12_look 114 = .ok (.iload 7, 2) := by decide +kernel
theorem dX12_look_116 : decode cX12_look 116 = .ok (.iadd, 1) := by decide +kernel
theorem dX12_look_117 : decode cX12_look 117 = .ok (.iaload, 1) := by decide +kernel
theorem dX12_look_118 : decode cX12_look 118 = .ok (.invokestatic 327, 3) := by decide +kernel
theorem dX12_look_121 : decode cX12_look 121 = .ok (.istore 6, 2) := by decide +kernel
theorem dX12_look_123 : decode cX12_look 123 = .ok (.iinc 7 1, 3) := by decide +kernel
theorem dX12_look_126 : decode cX12_look 126 = .ok (.goto (-30), 3) := by decide +kernel
theorem dX12_look_129 : decode cX12_look 129 = .ok (.iload 6, 2) := by decide +kernel
theorem dX12_look_131 : decode cX12_look 131 = .ok (.iload 4, 2) := by decide +kernel
theorem dX12_look_133 : decode cX12_look 133 = .ok (.if_icmp .lt 6, 3) := by decide +kernel
theorem dX12_look_136 : decode cX12_look 136 = .ok (.goto 10, 3) := by decide +kernel
theorem dX12_look_139 : decode cX12_look 139 = .ok (.iload 6, 2) := by decide +kernel
theorem dX12_look_141 : decode cX12_look 141 = .ok (.istore 4, 2) := by decide +kernel
theorem dX12_look_143 : decode cX12_look 143 = .ok (.iload 5, 2) := by decide +kernel
theorem dX12_look_145 : decode cX12_look 145 = .ok (.istore_n 3, 1) := by decide +kernel
theorem dX12_look_146 : decode cX12_look 146 = .ok (.iinc 5 1, 3) := by decide +kernel
theorem dX12_look_149 : decode cX12_look 149 = .ok (.goto (-70), 3) := by decide +kernel
theorem dX12_look_152 : decode cX12_look 152 = .ok (.iload_n 3, 1) := by decide +kernel
theorem dX12_look_153 : decode cX12_look 153 = .ok (.iconst (-1), 1) := by decide +kernel
theorem dX12_look_154 : decode cX12_look 154 = .ok (.if_icmp .eq 7, 3) := by decide +kernel
theorem dX12_look_157 : decode cX12_look 157 = .ok (.iload_n 1, 1) := by decide +kernel
theorem dX12_look_158 : decode cX12_look 158 = .ok (.ifCond .ne 7, 3) := by decide +kernel
theorem dX12_look_161 : decode cX12_look 161 = .ok (.iload_n 3, 1) := by decide +kernel
theorem dX12_look_162 : decode cX12_look 162 = .ok (.goto 5, 3) := by decide +kernel
theorem dX12_look_165 : decode cX12_look 165 = .ok (.iload 4, 2) := by decide +kernel
theorem dX12_look_167 : decode cX12_look 167 = .ok (.ireturn, 1) := by decide +kernel
theorem dX12_stopped_0 : decode cX12_stopped 0 = .ok (.aload_n 0, 1) := by decide +kernel
theorem dX12_stopped_1 : decode cX12_stopped 1 = .ok (.getfield 83, 3) := by decide +kernel
theorem dX12_stopped_4 : decode cX12_stopped 4 = .ok (.ireturn, 1) := by decide +kernel
theorem dX12_orders_0 : decode cX12_orders 0 = .ok (.aload_n 0, 1) := by decide +kernel
theorem dX12_orders_1 : decode cX12_orders 1 = .ok (.iconst (-1), 1) := by decide +kernel
theorem dX12_orders_2 : decode cX12_orders 2 = .ok (.putfield 83, 3) := by decide +kernel
theorem dX12_orders_5 : decode cX12_orders 5 = .ok (.aload_n 0, 1) := by decide +kernel
theorem dX12_orders_6 : decode cX12_orders 6 = .ok (.iconst 1, 1) := by decide +kernel
theorem dX12_orders_7 : decode cX12_orders 7 = .ok (.invokevirtual 235, 3) := by decide +kernel
theorem dX12_orders_10 : decode cX12_orders 10 = .ok (.ifCond .ne 10, 3) := by decide +kernel
theorem dX12_orders_13 : decode cX12_orders 13 = .ok (.aload_n 0, 1) := by decide +kernel
theorem dX12_orders_14 : decode cX12_orders 14 = .ok (.bipush (-6), 2) := by decide +kernel
theorem dX12_orders_16 : decode cX12_orders 16 = .ok (.invokevirtual 100, 3) := by decide +kernel
theorem dX12_orders_19 : decode cX12_orders 19 = .ok (.ireturn, 1) := by decide +kernel
theorem dX12_draws_0 : decode cX12_draws 0 = .ok (.aload_n 0, 1) := by decide +kernel
theorem dX12_draws_1 : decode cX12_draws 1 = .ok (.ldc2_w 452, 3) := by decide +kernel
theorem dX12_draws_4 : decode cX12_draws 4 = .ok (.aload_n 0, 1) := by decide +kernel
theorem dX12_draws_5 : decode cX12_draws 5 = .ok (.getfield 454, 3) := by decide +kernel
theorem dX12_draws_8 : decode cX12_draws 8 = .ok (.i2l, 1) := by decide +kernel
theorem dX12_draws_9 : decode cX12_draws 9 = .ok (.lmul, 1) := by decide +kernel
theorem dX12_draws_10 : decode cX12_draws 10 = .ok (.ldc2_w 457, 3) := by decide +kernel
theorem dX12_draws_13 : decode cX12_draws 13 = .ok (.ladd, 1) := by decide +kernel
theorem dX12_draws_14 : decode cX12_draws 14 = .ok (.ldc2_w 459, 3) := by decide +kernel
theorem dX12_draws_17 : decode cX12_draws 17 = .ok (.lrem, 1) := by decide +kernel
theorem dX12_draws_18 : decode cX12_draws 18 = .ok (.l2i, 1) := by decide +kernel
theorem dX12_draws_19 : decode cX12_draws 19 = .ok (.putfield 454, 3) := by decide +kernel
theorem dX12_draws_22 : decode cX12_draws 22 = .ok (.aload_n 0, 1) := by decide +kernel
theorem dX12_draws_23 : decode cX12_draws 23 = .ok (.getfield 454, 3) := by decide +kernel
theorem dX12_draws_26 : decode cX12_draws 26 = .ok (.iload_n 1, 1) := by decide +kernel
theorem dX12_draws_27 : decode cX12_draws 27 = .ok (.irem, 1) := by decide +kernel
theorem dX12_draws_28 : decode cX12_draws 28 = .ok (.ireturn, 1) := by decide +kernel
theorem dX12_nights_0 : decode cX12_nights 0 = .ok (.iload_n 1, 1) := by decide +kernel
theorem dX12_nights_1 : decode cX12_nights 1 = .ok (.iconst 0, 1) := by decide +kernel
theorem dX12_nights_2 : decode cX12_nights 2 = .ok (.ldc 157, 2) := by decide +kernel
theorem dX12_nights_4 : decode cX12_nights 4 = .ok (.invokestatic 96, 3) := by decide +kernel
theorem dX12_nights_7 : decode cX12_nights 7 = .ok (.ifCond .eq 13, 3) := by decide +kernel
theorem dX12_nights_10 : decode cX12_nights 10 = .ok (.iload_n 2, 1) := by decide +kernel
theorem dX12_nights_11 : decode cX12_nights 11 = .ok (.iconst 1, 1) := by decide +kernel
theorem dX12_nights_12 : decode cX12_nights 12 = .ok (.bipush 20, 2) := by decide +kernel
theorem dX12_nights_14 : decode cX12_nights 14 = .ok (.invokestatic 96, 3) := by decide +kernel
theorem dX12_nights_17 : decode cX12_nights 17 = .ok (.ifCond .ne 9, 3) := by decide +kernel
theorem dX12_nights_20 : decode cX12_nights 20 = .ok (.aload_n 0, 1) := by decide +kernel
theorem dX12_nights_21 : decode cX12_nights 21 = .ok (.iconst (-1), 1) := by decide +kernel
theorem dX12_nights_22 : decode cX12_nights 22 = .ok (.invokevirtual 100, 3) := by decide +kernel
theorem dX12_nights_25 : decode cX12_nights 25 = .ok (.ireturn, 1) := by decide +kernel
theorem dX12_nights_26 : decode cX12_nights 26 = .ok (.aload_n 0, 1) := by decide +kernel
theorem dX12_nights_27 : decode cX12_nights 27 = .ok (.iload_n 1, 1) := by decide +kernel
theorem dX12_nights_28 : decode cX12_nights 28 = .ok (.putfield 454, 3) := by decide +kernel
theorem dX12_nights_31 : decode cX12_nights 31 = .ok (.aload_n 0, 1) := by decide +kernel
theorem dX12_nights_32 : decode cX12_nights 32 = .ok (.aload_n 0, 1) := by decide +kernel
theorem dX12_nights_33 : decode cX12_nights 33 = .ok (.getfield 24, 3) := by decide +kernel
theorem dX12_nights_36 : decode cX12_nights 36 = .ok (.bipush 102, 2) := by decide +kernel
theorem dX12_nights_38 : decode cX12_nights 38 = .ok (.iaload, 1) := by decide +kernel
theorem dX12_nights_39 : decode cX12_nights 39 = .ok (.putfield 93, 3) := by decide +kernel
theorem dX12_nights_42 : decode cX12_nights 42 = .ok (.aload_n 0, 1) := by decide +kernel
theorem dX12_nights_43 : decode cX12_nights 43 = .ok (.aload_n 0, 1) := by decide +kernel
theorem dX12_nights_44 : decode cX12_nights 44 = .ok (.getfield 24, 3) := by decide +kernel
theorem dX12_nights_47 : decode cX12_nights 47 = .ok (.bipush 103, 2) := by decide +kernel
theorem dX12_nights_49 : decode cX12_nights 49 = .ok (.iaload, 1) := by decide +kernel
theorem dX12_nights_50 : decode cX12_nights 50 = .ok (.putfield 461, 3) := by decide +kernel
theorem dX12_nights_53 : decode cX12_nights 53 = .ok (.iconst 0, 1) := by decide +kernel
theorem dX12_nights_54 : decode cX12_nights 54 = .ok (.istore_n 3, 1) := by decide +kernel
theorem dX12_nights_55 : decode cX12_nights 55 = .ok (.iconst 0, 1) := by decide +kernel
theorem dX12_nights_56 : decode cX12_nights 56 = .ok (.istore 4, 2) := by decide +kernel
theorem dX12_nights_58 : decode cX12_nights 58 = .ok (.iload 4, 2) := by decide +kernel
theorem dX12_nights_60 : decode cX12_nights 60 = .ok (.iload_n 2, 1) := by decide +kernel
theorem dX12_nights_61 : decode cX12_nights 61 = .ok (.if_icmp .ge 135, 3) := by decide +kernel
theorem dX12_nights_64 : decode cX12_nights 64 = .ok (.aload_n 0, 1) := by decide +kernel
theorem dX12_nights_65 : decode cX12_nights 65 = .ok (.invokevirtual 378, 3) := by decide +kernel
theorem dX12_nights_68 : decode cX12_nights 68 = .ok (.iconst 0, 1) := by decide +kernel
theorem dX12_nights_69 : decode cX12_nights 69 = .ok (.istore 5, 2) := by decide +kernel
theorem dX12_nights_71 : decode cX12_nights 71 = .ok (.iload 5, 2) := by decide +kernel
theorem dX12_nights_73 : decode cX12_nights 73 = .ok (.aload_n 0, 1) := by decide +kernel
theorem dX12_nights_74 : decode cX12_nights 74 = .ok (.getfield 24, 3) := by decide +kernel
theorem dX12_nights_77 : decode cX12_nights 77 = .ok (.bipush 99, 2) := by decide +kernel
theorem dX12_nights_79 : decode cX12_nights 79 = .ok (.iaload, 1) := by decide +kernel
theorem dX12_nights_80 : decode cX12_nights 80 = .ok (.if_icmp .ge 56, 3) := by decide +kernel
theorem dX12_nights_83 : decode cX12_nights 83 = .ok (.aload_n 0, 1) := by decide +kernel
theorem dX12_nights_84 : decode cX12_nights 84 = .ok (.aload_n 0, 1) := by decide +kernel
theorem dX12_nights_85 : decode cX12_nights 85 = .ok (.invokevirtual 342, 3) := by decide +kernel
theorem dX12_nights_88 : decode cX12_nights 88 = .ok (.invokevirtual 384, 3) := by decide +kernel
theorem dX12_nights_91 : decode cX12_nights 91 = .ok (.aload_n 0, 1) := by decide +kernel
theorem dX12_nights_92 : decode cX12_nights 92 = .ok (.bipush 10, 2) := by decide +kernel
theorem dX12_nights_94 : decode cX12_nights 94 = .ok (.invokevirtual 464, 3) := by decide +kernel
theorem dX12_nights_97 : decode cX12_nights 97 = .ok (.aload_n 0, 1) := by decide +kernel
theorem dX12_nights_98 : decode cX12_nights 98 = .ok (.getfield 24, 3) := by decide +kernel
theorem dX12_nights_101 : decode cX12_nights 101 = .ok (.bipush 100, 2) := by decide +kernel
theorem dX12_nights_103 : decode cX12_nights 103 = .ok (.iaload, 1) := by decide +kernel
theorem dX12_nights_104 : decode cX12_nights 104 = .ok (.if_icmp .ge 17, 3) := by decide +kernel
theorem dX12_nights_107 : decode cX12_nights 107 = .ok (.aload_n 0, 1) := by decide +kernel
theorem dX12_nights_108 : decode cX12_nights 108 = .ok (.getfield 24, 3) := by decide +kernel
theorem dX12_nights_111 : decode cX12_nights 111 = .ok (.bipush 22, 2) := by decide +kernel
theorem dX12_nights_113 : decode cX12_nights 113 = .ok (.dup2, 1) := by decide +kernel
theorem dX12_nights_114 : decode cX12_nights 114 = .ok (.iaload, 1) := by decide +kernel
theorem dX12_nights_115 : decode cX12_nights 115 = .ok (.iconst 1, 1) := by decide +kernel
theorem dX12_nights_116 : decode cX12_nights 116 = .ok (.iadd, 1) := by decide +kernel
theorem dX12_nights_117 : decode cX12_nights 117 = .ok (.iastore, 1) := by decide +kernel
theorem dX12_nights_118 : decode cX12_nights 118 = .ok (.goto 12, 3) := by decide +kernel
theorem dX12_nights_121 : decode cX12_nights 121 = .ok (.aload_n 0, 1) := by decide +kernel
theorem dX12_nights_122 : decode cX12_nights 122 = .ok (.aload_n 0, 1) := by decide +kernel
theorem dX12_nights_123 : decode cX12_nights 123 = .ok (.invokevirtual 342, 3) := by decide +kernel
theorem dX12_nights_126 : decode cX12_nights 126 = .ok (.invokevirtual 345, 3) := by decide +kernel
theorem dX12_nights_129 : decode cX12_nights 129 = .ok (.pop, 1) := by decide +kernel
theorem dX12_nights_130 : decode cX12_nights 130 = .ok (.iinc 5 1, 3) := by decide +kernel
theorem dX12_nights_133 : decode cX12_nights 133 = .ok (.goto (-62), 3) := by decide +kernel
theorem dX12_nights_136 : decode cX12_nights 136 = .ok (.iload_n 3, 1) := by decide +kernel
theorem dX12_nights_137 : decode cX12_nights 137 = .ok (.aload_n 0, 1) := by decide +kernel
theorem dX12_nights_138 : decode cX12_nights 138 = .ok (.aload_n 0, 1) := by decide +kernel
theorem dX12_nights_139 : decode cX12_nights 139 = .ok (.invokevirtual 363, 3) := by decide +kernel
theorem dX12_nights_142 : decode cX12_nights 142 = .ok (.invokevirtual 381, 3) := by decide +kernel
theorem dX12_nights_145 : decode cX12_nights 145 = .ok (.ifCond .eq 7, 3) := by decide +kernel
theorem dX12_nights_148 : decode cX12_nights 148 = .ok (.iconst 1, 1) := by decide +kernel
theorem dX12_nights_149 : decode cX12_nights 149 = .ok (.goto 4, 3) := by decide +kernel
theorem dX12_nights_153 : decode cX12_nights 153 = .ok (.iadd, 1) := by decide +kernel
theorem dX12_nights_154 : decode cX12_nights 154 = .ok (.istore_n 3, 1) := by decide +kernel
theorem dX12_nights_155 : decode cX12_nights 155 = .ok (.iconst 0, 1) := by decide +kernel
theorem dX12_nights_156 : decode cX12_nights 156 = .ok (.istore 5, 2) := by decide +kernel
theorem dX12_nights_158 : decode cX12_nights 158 = .ok (.iload 5, 2) := by decide +kernel
theorem dX12_nights_160 : decode cX12_nights 160 = .ok (.bipush 23, 2) := by decide +kernel
theorem dX12_nights_162 : decode cX12_nights 162 = .ok (.if_icmp .ge 23, 3) := by decide +kernel
theorem dX12_nights_165 : decode cX12_nights 165 = .ok (.aload_n 0, 1) := by decide +kernel
theorem dX12_nights_166 : decode cX12_nights 166 = .ok (.getfield 90, 3) := by decide +kernel
theorem dX12_nights_169 : decode cX12_nights 169 = .ok (.iload 5, 2) := by decide +kernel
theorem dX12_nights_171 : decode cX12_nights 171 = .ok (.aload_n 0, 1) := by decide +kernel
theorem dX12_nights_172 : decode cX12_nights 172 = .ok (.getfield 24, 3) := by decide +kernel
theorem dX12_nights_175 : decode cX12_nights 175 = .ok (.iload 5, 2) := by decide +kernel
theorem dX12_nights_177 : decode cX12_nights 177 = .ok (.iaload, 1) := by decide +kernel
theorem dX12_nights_178 : decode cX12_nights 178 = .ok (.iastore, 1) := by decide +kernel
theorem dX12_nights_179 : decode cX12_nights 179 = .ok (.iinc 5 1, 3) := by decide +kernel
theorem dX12_nights_182 : decode cX12_nights 182 = .ok (.goto (-24), 3) := by decide +kernel
theorem dX12_nights_185 : decode cX12_nights 185 = .ok (.aload_n 0, 1) := by decide +kernel
theorem dX12_nights_186 : decode cX12_nights 186 = .ok (.iconst 0, 1) := by decide +kernel
theorem dX12_nights_187 : decode cX12_nights 187 = .ok (.invokevirtual 387, 3) := by decide +kernel
theorem dX12_nights_190 : decode cX12_nights 190 = .ok (.iinc 4 1, 3) := by decide +kernel
theorem dX12_nights_193 : decode cX12_nights 193 = .ok (.goto (-135), 3) := by decide +kernel
theorem dX12_nights_196 : decode cX12_nights 196 = .ok (.aload_n 0, 1) := by decide +kernel
theorem dX12_nights_197 : decode cX12_nights 197 = .ok (.iload_n 3, 1) := by decide +kernel
theorem dX12_nights_198 : decode cX12_nights 198 = .ok (.invokevirtual 14, 3) := by decide +kernel
theorem dX12_nights_201 : decode cX12_nights 201 = .ok (.ireturn, 1) := by decide +kernel
theorem dX12_drawn_0 : decode cX12_drawn 0 = .ok (.aload_n 0, 1) := by decide +kernel
theorem dX12_drawn_1 : decode cX12_drawn 1 = .ok (.getfield 93, 3) := by decide +kernel
theorem dX12_drawn_4 : decode cX12_drawn 4 = .ok (.iconst (-1), 1) := by decide +kernel
theorem dX12_drawn_5 : decode cX12_drawn 5 = .ok (.if_icmp .eq 37, 3) := by decide +kernel
theorem dX12_drawn_42 : decode cX12_drawn 42 = .ok (.iconst (-1), 1) := by decide +kernel
theorem dX12_drawn_43 : decode cX12_drawn 43 = .ok (.ireturn, 1) := by decide +kernel
theorem dX12_count_0 : decode cX12_count 0 = .ok (.iload_n 1, 1) := by decide +kernel
theorem dX12_count_1 : decode cX12_count 1 = .ok (.tableswitch 187 0 16 #[83, 91, 99, 107, 115, 123, 128, 133, 133, 133, 143, 150, 158, 166, 174, 174, 174], 83) := by decide +kernel
theorem dX12_count_84 : decode cX12_count 84 = .ok (.aload_n 0, 1) := by decide +kernel
theorem dX12_count_85 : decode cX12_count 85 = .ok (.getfield 24, 3) := by decide +kernel
theorem dX12_count_88 : decode cX12_count 88 = .ok (.bipush 102, 2) := by decide +kernel
theorem dX12_count_90 : decode cX12_count 90 = .ok (.iaload, 1) := by decide +kernel
theorem dX12_count_91 : decode cX12_count 91 = .ok (.ireturn, 1) := by decide +kernel
theorem dX12_count_92 : decode cX12_count 92 = .ok (.aload_n 0, 1) := by decide +kernel
theorem dX12_count_93 : decode cX12_count 93 = .ok (.invokevirtual 118, 3) := by decide +kernel
theorem dX12_count_96 : decode cX12_count 96 = .ok (.invokestatic 287, 3) := by decide +kernel
theorem dX12_count_99 : decode cX12_count 99 = .ok (.ireturn, 1) := by decide +kernel
theorem dX12_count_100 : decode cX12_count 100 = .ok (.aload_n 0, 1) := by decide +kernel
theorem dX12_count_101 : decode cX12_count 101 = .ok (.getfield 24, 3) := by decide +kernel
theorem dX12_count_104 : decode cX12_count 104 = .ok (.bipush 103, 2) := by decide +kernel
theorem dX12_count_106 : decode cX12_count 106 = .ok (.iaload, 1) := by decide +kernel
theorem dX12_count_107 : decode cX12_count 107 = .ok (.ireturn, 1) := by decide +kernel
theorem dX12_count_108 : decode cX12_count 108 = .ok (.aload_n 0, 1) := by decide +kernel
theorem dX12_count_109 : decode cX12_count 109 = .ok (.getfield 24, 3) := by decide +kernel
theorem dX12_count_112 : decode cX12_count 112 = .ok (.bipush 104, 2) := by decide +kernel
theorem dX12_count_114 : decode cX12_count 114 = .ok (.iaload, 1) := by decide +kernel
theorem dX12_count_115 : decode cX12_count 115 = .ok (.ireturn, 1) := by decide +kernel
theorem dX12_count_116 : decode cX12_count 116 = .ok (.aload_n 0, 1) := by decide +kernel
theorem dX12_count_117 : decode cX12_count 117 = .ok (.getfield 24, 3) := by decide +kernel
theorem dX12_count_120 : decode cX12_count 120 = .ok (.bipush 105, 2) := by decide +kernel
theorem dX12_count_122 : decode cX12_count 122 = .ok (.iaload, 1) := by decide +kernel
theorem dX12_count_123 : decode cX12_count 123 = .ok (.ireturn, 1) := by decide +kernel
theorem dX12_count_124 : decode cX12_count 124 = .ok (.aload_n 0, 1) := by decide +kernel
theorem dX12_count_125 : decode cX12_count 125 = .ok (.getfield 11, 3) := by decide +kernel
theorem dX12_count_128 : decode cX12_count 128 = .ok (.ireturn, 1) := by decide +kernel
theorem dX12_count_129 : decode cX12_count 129 = .ok (.aload_n 0, 1) := by decide +kernel
theorem dX12_count_130 : decode cX12_count 130 = .ok (.getfield 138, 3) := by decide +kernel
theorem dX12_count_133 : decode cX12_count 133 = .ok (.ireturn, 1) := by decide +kernel
theorem dX12_count_134 : decode cX12_count 134 = .ok (.aload_n 0, 1) := by decide +kernel
theorem dX12_count_135 : decode cX12_count 135 = .ok (.getfield 7, 3) := by decide +kernel
theorem dX12_count_138 : decode cX12_count 138 = .ok (.iload_n 1, 1) := by decide +kernel
theorem dX12_count_139 : decode cX12_count 139 = .ok (.bipush 6, 2) := by decide +kernel
theorem dX12_count_141 : decode cX12_count 141 = .ok (.isub, 1) := by decide +kernel
theorem dX12_count_142 : decode cX12_count 142 = .ok (.iaload, 1) := by decide +kernel
theorem dX12_count_143 : decode cX12_count 143 = .ok (.ireturn, 1) := by decide +kernel
theorem dX12_count_144 : decode cX12_count 144 = .ok (.aload_n 0, 1) := by decide +kernel
theorem dX12_count_145 : decode cX12_count 145 = .ok (.getfield 7, 3) := by decide +kernel
theorem dX12_count_148 : decode cX12_count 148 = .ok (.iconst 5, 1) := by decide +kernel
theorem dX12_count_149 : decode cX12_count 149 = .ok (.iaload, 1) := by decide +kernel
theorem dX12_count_150 : decode cX12_count 150 = .ok (.ireturn, 1) := by decide +kernel
theorem dX12_count_151 : decode cX12_count 151 = .ok (.aload_n 0, 1) := by decide +kernel
theorem dX12_count_152 : decode cX12_count 152 = .ok (.getfield 7, 3) := by decide +kernel
theorem dX12_count_155 : decode cX12_count 155 = .ok (.bipush 6, 2) := by decide +kernel
theorem dX12_count_157 : decode cX12_count 157 = .ok (.iaload, 1) := by decide +kernel
theorem dX12_count_158 : decode cX12_count 158 = .ok (.ireturn, 1) := by decide +kernel
theorem dX12_count_159 : decode cX12_count 159 = .ok (.aload_n 0, 1) := by decide +kernel
theorem dX12_count_160 : decode cX12_count 160 = .ok (.getfield 24, 3) := by decide +kernel
theorem dX12_count_163 : decode cX12_count 163 = .ok (.bipush 106, 2) := by decide +kernel
theorem dX12_count_165 : decode cX12_count 165 = .ok (.iaload, 1) := by decide +kernel
theorem dX12_count_166 : decode cX12_count 166 = .ok (.ireturn, 1) := by decide +kernel
theorem dX12_count_167 : decode cX12_count 167 = .ok (.aload_n 0, 1) := by decide +kernel
theorem dX12_count_168 : decode cX12_count 168 = .ok (.getfield 24, 3) := by decide +kernel
theorem dX12_count_171 : decode cX12_count 171 = .ok (.bipush 22, 2) := by decide +kernel
theorem dX12_count_173 : decode cX12_count 173 = .ok (.iaload, 1) := by decide +kernel
theorem dX12_count_174 : decode cX12_count 174 = .ok (.ireturn, 1) := by decide +kernel
theorem dX12_count_175 : decode cX12_count 175 = .ok (.aload_n 0, 1) := by decide +kernel
theorem dX12_count_176 : decode cX12_count 176 = .ok (.getfield 24, 3) := by decide +kernel
theorem dX12_count_179 : decode cX12_count 179 = .ok (.bipush 99, 2) := by decide +kernel
theorem dX12_count_181 : decode cX12_count 181 = .ok (.iload_n 1, 1) := by decide +kernel
theorem dX12_count_182 : decode cX12_count 182 = .ok (.iadd, 1) := by decide +kernel
theorem dX12_count_183 : decode cX12_count 183 = .ok (.bipush 14, 2) := by decide +kernel
theorem dX12_count_185 : decode cX12_count 185 = .ok (.isub, 1) := by decide +kernel
theorem dX12_count_186 : decode cX12_count 186 = .ok (.iaload, 1) := by decide +kernel
theorem dX12_count_187 : decode cX12_count 187 = .ok (.ireturn, 1) := by decide +kernel
theorem dX12_count_188 : decode cX12_count 188 = .ok (.iconst (-1), 1) := by decide +kernel
theorem dX12_count_189 : decode cX12_count 189 = .ok (.ireturn, 1) := by decide +kernel
theorem dX12_status_0 : decode cX12_status 0 = .ok (.aload_n 0, 1) := by decide +kernel
theorem dX12_status_1 : decode cX12_status 1 = .ok (.getfield 3, 3) := by decide +kernel
theorem dX12_status_4 : decode cX12_status 4 = .ok (.ireturn, 1) := by decide +kernel
