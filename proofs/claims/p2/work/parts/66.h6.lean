theorem dX4_inHand_0 : decode cX4_inHand 0 = .ok (.aload_n 0, 1) := by decide +kernel
theorem dX4_inHand_1 : decode cX4_inHand 1 = .ok (.getfield 31, 3) := by decide +kernel
theorem dX4_inHand_4 : decode cX4_inHand 4 = .ok (.ifCond .lt 38, 3) := by decide +kernel
theorem dX4_inHand_7 : decode cX4_inHand 7 = .ok (.aload_n 0, 1) := by decide +kernel
theorem dX4_inHand_8 : decode cX4_inHand 8 = .ok (.getfield 31, 3) := by decide +kernel
theorem dX4_inHand_11 : decode cX4_inHand 11 = .ok (.aload_n 0, 1) := by decide +kernel
theorem dX4_inHand_12 : decode cX4_inHand 12 = .ok (.getfield 27, 3) := by decide +kernel
theorem dX4_inHand_15 : decode cX4_inHand 15 = .ok (.if_icmp .ge 27, 3) := by decide +kernel
theorem dX4_inHand_18 : decode cX4_inHand 18 = .ok (.aload_n 0, 1) := by decide +kernel
theorem dX4_inHand_19 : decode cX4_inHand 19 = .ok (.getfield 31, 3) := by decide +kernel
theorem dX4_inHand_22 : decode cX4_inHand 22 = .ok (.aload_n 0, 1) := by decide +kernel
theorem dX4_inHand_23 : decode cX4_inHand 23 = .ok (.getfield 20, 3) := by decide +kernel
theorem dX4_inHand_26 : decode cX4_inHand 26 = .ok (.arraylength, 1) := by decide +kernel
theorem dX4_inHand_27 : decode cX4_inHand 27 = .ok (.if_icmp .ge 15, 3) := by decide +kernel
theorem dX4_inHand_30 : decode cX4_inHand 30 = .ok (.aload_n 0, 1) := by decide +kernel
theorem dX4_inHand_31 : decode cX4_inHand 31 = .ok (.getfield 20, 3) := by decide +kernel
theorem dX4_inHand_34 : decode cX4_inHand 34 = .ok (.aload_n 0, 1) := by decide +kernel
theorem dX4_inHand_35 : decode cX4_inHand 35 = .ok (.getfield 31, 3) := by decide +kernel
theorem dX4_inHand_38 : decode cX4_inHand 38 = .ok (.iaload, 1) := by decide +kernel
theorem dX4_inHand_39 : decode cX4_inHand 39 = .ok (.goto 6, 3) := by decide +kernel
theorem dX4_inHand_42 : decode cX4_inHand 42 = .ok (.sipush 4000, 3) := by decide +kernel
theorem dX4_inHand_45 : decode cX4_inHand 45 = .ok (.ireturn, 1) := by decide +kernel
theorem dX4_placeInHand_0 : decode cX4_placeInHand 0 = .ok (.aload_n 0, 1) := by decide +kernel
theorem dX4_placeInHand_1 : decode cX4_placeInHand 1 = .ok (.getfield 31, 3) := by decide +kernel
theorem dX4_placeInHand_4 : decode cX4_placeInHand 4 = .ok (.ifCond .lt 38, 3) := by decide +kernel
theorem dX4_placeInHand_7 : decode cX4_placeInHand 7 = .ok (.aload_n 0, 1) := by decide +kernel
theorem dX4_placeInHand_8 : decode cX4_placeInHand 8 = .ok (.getfield 31, 3) := by decide +kernel
theorem dX4_placeInHand_11 : decode cX4_placeInHand 11 = .ok (.aload_n 0, 1) := by decide +kernel
theorem dX4_placeInHand_12 : decode cX4_placeInHand 12 = .ok (.getfield 27, 3) := by decide +kernel
theorem dX4_placeInHand_15 : decode cX4_placeInHand 15 = .ok (.if_icmp .ge 27, 3) := by decide +kernel
theorem dX4_placeInHand_18 : decode cX4_placeInHand 18 = .ok (.aload_n 0, 1) := by decide +kernel
theorem dX4_placeInHand_19 : decode cX4_placeInHand 19 = .ok (.getfield 31, 3) := by decide +kernel
theorem dX4_placeInHand_22 : decode cX4_placeInHand 22 = .ok (.aload_n 0, 1) := by decide +kernel
theorem dX4_placeInHand_23 : decode cX4_placeInHand 23 = .ok (.getfield 24, 3) := by decide +kernel
theorem dX4_placeInHand_26 : decode cX4_placeInHand 26 = .ok (.arraylength, 1) := by decide +kernel
theorem dX4_placeInHand_27 : decode cX4_placeInHand 27 = .ok (.if_icmp .ge 15, 3) := by decide +kernel
theorem dX4_placeInHand_30 : decode cX4_placeInHand 30 = .ok (.aload_n 0, 1) := by decide +kernel
theorem dX4_placeInHand_31 : decode cX4_placeInHand 31 = .ok (.getfield 24, 3) := by decide +kernel
theorem dX4_placeInHand_34 : decode cX4_placeInHand 34 = .ok (.aload_n 0, 1) := by decide +kernel
theorem dX4_placeInHand_35 : decode cX4_placeInHand 35 = .ok (.getfield 31, 3) := by decide +kernel
theorem dX4_placeInHand_38 : decode cX4_placeInHand 38 = .ok (.iaload, 1) := by decide +kernel
theorem dX4_placeInHand_39 : decode cX4_placeInHand 39 = .ok (.goto 4, 3) := by decide +kernel
theorem dX4_placeInHand_42 : decode cX4_placeInHand 42 = .ok (.iconst 0, 1) := by decide +kernel
theorem dX4_placeInHand_43 : decode cX4_placeInHand 43 = .ok (.ireturn, 1) := by decide +kernel
theorem dX4_addToken_0 : decode cX4_addToken 0 = .ok (.aload_n 0, 1) := by decide +kernel
theorem dX4_addToken_1 : decode cX4_addToken 1 = .ok (.getfield 27, 3) := by decide +kernel
theorem dX4_addToken_4 : decode cX4_addToken 4 = .ok (.ifCond .lt 45, 3) := by decide +kernel
theorem dX4_addToken_7 : decode cX4_addToken 7 = .ok (.aload_n 0, 1) := by decide +kernel
theorem dX4_addToken_8 : decode cX4_addToken 8 = .ok (.getfield 27, 3) := by decide +kernel
theorem dX4_addToken_11 : decode cX4_addToken 11 = .ok (.aload_n 0, 1) := by decide +kernel
theorem dX4_addToken_12 : decode cX4_addToken 12 = .ok (.getfield 20, 3) := by decide +kernel
theorem dX4_addToken_15 : decode cX4_addToken 15 = .ok (.arraylength, 1) := by decide +kernel
theorem dX4_addToken_16 : decode cX4_addToken 16 = .ok (.if_icmp .ge 33, 3) := by decide +kernel
theorem dX4_addToken_19 : decode cX4_addToken 19 = .ok (.aload_n 0, 1) := by decide +kernel
theorem dX4_addToken_20 : decode cX4_addToken 20 = .ok (.getfield 20, 3) := by decide +kernel
theorem dX4_addToken_23 : decode cX4_addToken 23 = .ok (.aload_n 0, 1) := by decide +kernel
theorem dX4_addToken_24 : decode cX4_addToken 24 = .ok (.getfield 27, 3) := by decide +kernel
theorem dX4_addToken_27 : decode cX4_addToken 27 = .ok (.iload_n 1, 1) := by decide +kernel
theorem dX4_addToken_28 : decode cX4_addToken 28 = .ok (.iastore, 1) := by decide +kernel
theorem dX4_addToken_29 : decode cX4_addToken 29 = .ok (.aload_n 0, 1) := by decide +kernel
theorem dX4_addToken_30 : decode cX4_addToken 30 = .ok (.getfield 24, 3) := by decide +kernel
theorem dX4_addToken_33 : decode cX4_addToken 33 = .ok (.aload_n 0, 1) := by decide +kernel
theorem dX4_addToken_34 : decode cX4_addToken 34 = .ok (.getfield 27, 3) := by decide +kernel
theorem dX4_addToken_37 : decode cX4_addToken 37 = .ok (.iload_n 2, 1) := by decide +kernel
theorem dX4_addToken_38 : decode cX4_addToken 38 = .ok (.iastore, 1) := by decide +kernel
theorem dX4_addToken_39 : decode cX4_addToken 39 = .ok (.aload_n 0, 1) := by decide +kernel
theorem dX4_addToken_40 : decode cX4_addToken 40 = .ok (.dup, 1) := by decide +kernel
theorem dX4_addToken_41 : decode cX4_addToken 41 = .ok (.getfield 27, 3) := by decide +kernel
theorem dX4_addToken_44 : decode cX4_addToken 44 = .ok (.iconst 1, 1) := by decide +kernel
theorem dX4_addToken_45 : decode cX4_addToken 45 = .ok (.iadd, 1) := by decide +kernel
theorem dX4_addToken_46 : decode cX4_addToken 46 = .ok (.putfield 27, 3) := by decide +kernel
theorem dX4_addToken_49 : decode cX4_addToken 49 = .ok (.return_, 1) := by decide +kernel
theorem dX4_numberToken_0 : decode cX4_numberToken 0 = .ok (.iconst 0, 1) := by decide +kernel
theorem dX4_numberToken_1 : decode cX4_numberToken 1 = .ok (.istore_n 3, 1) := by decide +kernel
theorem dX4_numberToken_2 : decode cX4_numberToken 2 = .ok (.iload_n 1, 1) := by decide +kernel
theorem dX4_numberToken_3 : decode cX4_numberToken 3 = .ok (.istore 4, 2) := by decide +kernel
theorem dX4_numberToken_5 : decode cX4_numberToken 5 = .ok (.iload 4, 2) := by decide +kernel
theorem dX4_numberToken_7 : decode cX4_numberToken 7 = .ok (.iload_n 2, 1) := by decide +kernel
theorem dX4_numberToken_8 : decode cX4_numberToken 8 = .ok (.if_icmp .ge 29, 3) := by decide +kernel
theorem dX4_numberToken_11 : decode cX4_numberToken 11 = .ok (.iload_n 3, 1) := by decide +kernel
theorem dX4_numberToken_12 : decode cX4_numberToken 12 = .ok (.sipush 1000, 3) := by decide +kernel
theorem dX4_numberToken_15 : decode cX4_numberToken 15 = .ok (.if_icmp .gt 22, 3) := by decide +kernel
theorem dX4_numberToken_18 : decode cX4_numberToken 18 = .ok (.iload_n 3, 1) := by decide +kernel
theorem dX4_numberToken_19 : decode cX4_numberToken 19 = .ok (.bipush 10, 2) := by decide +kernel
theorem dX4_numberToken_21 : decode cX4_numberToken 21 = .ok (.imul, 1) := by decide +kernel
theorem dX4_numberToken_22 : decode cX4_numberToken 22 = .ok (.aload_n 0, 1) := by decide +kernel
theorem dX4_numberToken_23 : decode cX4_numberToken 23 = .ok (.iload 4, 2) := by decide +kernel
theorem dX4_numberToken_25 : decode cX4_numberToken 25 = .ok (.baload, 1) := by decide +kernel
theorem dX4_numberToken_26 : decode cX4_numberToken 26 = .ok (.iadd, 1) := by decide +kernel
theorem dX4_numberToken_27 : decode cX4_numberToken 27 = .ok (.bipush 48, 2) := by decide +kernel
theorem dX4_numberToken_29 : decode cX4_numberToken 29 = .ok (.isub, 1) := by decide +kernel
theorem dX4_numberToken_30 : decode cX4_numberToken 30 = .ok (.istore_n 3, 1) := by decide +kernel
theorem dX4_numberToken_31 : decode cX4_numberToken 31 = .ok (.iinc 4 1, 3) := by decide +kernel
theorem dX4_numberToken_34 : decode cX4_numberToken 34 = .ok (.goto (-29), 3) := by decide +kernel
theorem dX4_numberToken_37 : decode cX4_numberToken 37 = .ok (.iload_n 3, 1) := by decide +kernel
theorem dX4_numberToken_38 : decode cX4_numberToken 38 = .ok (.sipush 1000, 3) := by decide +kernel
theorem dX4_numberToken_41 : decode cX4_numberToken 41 = .ok (.if_icmp .le 9, 3) := by decide +kernel
theorem dX4_numberToken_44 : decode cX4_numberToken 44 = .ok (.sipush 1001, 3) := by decide +kernel
theorem dX4_numberToken_47 : decode cX4_numberToken 47 = .ok (.goto 4, 3) := by decide +kernel
theorem dX4_numberToken_50 : decode cX4_numberToken 50 = .ok (.iload_n 3, 1) := by decide +kernel
theorem dX4_numberToken_51 : decode cX4_numberToken 51 = .ok (.ireturn, 1) := by decide +kernel
theorem dX4_readRule_0 : decode cX4_readRule 0 = .ok (.aload_n 0, 1) := by decide +kernel
theorem dX4_readRule_1 : decode cX4_readRule 1 = .ok (.invokevirtual 65, 3) := by decide +kernel
theorem dX4_readRule_4 : decode cX4_readRule 4 = .ok (.sipush 2004, 3) := by decide +kernel
theorem dX4_readRule_7 : decode cX4_readRule 7 = .ok (.isub, 1) := by decide +kernel
theorem dX4_readRule_8 : decode cX4_readRule 8 = .ok (.istore_n 1, 1) := by decide +kernel
theorem dX4_readRule_9 : decode cX4_readRule 9 = .ok (.iload_n 1, 1) := by decide +kernel
theorem dX4_readRule_10 : decode cX4_readRule 10 = .ok (.ifCond .lt 19, 3) := by decide +kernel
theorem dX4_readRule_13 : decode cX4_readRule 13 = .ok (.iload_n 1, 1) := by decide +kernel
theorem dX4_readRule_14 : decode cX4_readRule 14 = .ok (.iconst 4, 1) := by decide +kernel
theorem dX4_readRule_15 : decode cX4_readRule 15 = .ok (.if_icmp .ge 14, 3) := by decide +kernel
theorem dX4_readRule_18 : decode cX4_readRule 18 = .ok (.aload_n 0, 1) := by decide +kernel
theorem dX4_readRule_19 : decode cX4_readRule 19 = .ok (.getfield 16, 3) := by decide +kernel
theorem dX4_readRule_22 : decode cX4_readRule 22 = .ok (.iload_n 1, 1) := by decide +kernel
theorem dX4_readRule_23 : decode cX4_readRule 23 = .ok (.invokevirtual 104, 3) := by decide +kernel
theorem dX4_readRule_26 : decode cX4_readRule 26 = .ok (.ifCond .ne 5, 3) := by decide +kernel
theorem dX4_readRule_29 : decode cX4_readRule 29 = .ok (.iconst 0, 1) := by decide +kernel
theorem dX4_readRule_30 : decode cX4_readRule 30 = .ok (.ireturn, 1) := by decide +kernel
theorem dX4_readRule_31 : decode cX4_readRule 31 = .ok (.aload_n 0, 1) := by decide +kernel
theorem dX4_readRule_32 : decode cX4_readRule 32 = .ok (.dup, 1) := by decide +kernel
theorem dX4_readRule_33 : decode cX4_readRule 33 = .ok (.getfield 31, 3) := by decide +kernel
theorem dX4_readRule_36 : decode cX4_readRule 36 = .ok (.iconst 1, 1) := by decide +kernel
theorem dX4_readRule_37 : decode cX4_readRule 37 = .ok (.iadd, 1) := by decide +kernel
theorem dX4_readRule_38 : decode cX4_readRule 38 = .ok (.putfield 31, 3) := by decide +kernel
theorem dX4_readRule_41 : decode cX4_readRule 41 = .ok (.iload_n 1, 1) := by decide +kernel
theorem dX4_readRule_42 : decode cX4_readRule 42 = .ok (.iconst 3, 1) := by decide +kernel
theorem dX4_readRule_43 : decode cX4_readRule 43 = .ok (.if_icmp .eq 13, 3) := by decide +kernel
theorem dX4_readRule_46 : decode cX4_readRule 46 = .ok (.aload_n 0, 1) := by decide +kernel
theorem dX4_readRule_47 : decode cX4_readRule 47 = .ok (.iconst 0, 1) := by decide +kernel
theorem dX4_readRule_48 : decode cX4_readRule 48 = .ok (.invokevirtual 107, 3) := by decide +kernel
theorem dX4_readRule_51 : decode cX4_readRule 51 = .ok (.ifCond .ne 5, 3) := by decide +kernel
theorem dX4_readRule_54 : decode cX4_readRule 54 = .ok (.iconst 0, 1) := by decide +kernel
theorem dX4_readRule_55 : decode cX4_readRule 55 = .ok (.ireturn, 1) := by decide +kernel
theorem dX4_readRule_56 : decode cX4_readRule 56 = .ok (.aload_n 0, 1) := by decide +kernel
theorem dX4_readRule_57 : decode cX4_readRule 57 = .ok (.getfield 16, 3) := by decide +kernel
theorem dX4_readRule_60 : decode cX4_readRule 60 = .ok (.iconst 0, 1) := by decide +kernel
theorem dX4_readRule_61 : decode cX4_readRule 61 = .ok (.invokevirtual 72, 3) := by decide +kernel
theorem dX4_readRule_64 : decode cX4_readRule 64 = .ok (.aload_n 0, 1) := by decide +kernel
theorem dX4_readRule_65 : decode cX4_readRule 65 = .ok (.getfield 16, 3) := by decide +kernel
theorem dX4_readRule_68 : decode cX4_readRule 68 = .ok (.iconst 1, 1) := by decide +kernel
theorem dX4_readRule_69 : decode cX4_readRule 69 = .ok (.invokevirtual 72, 3) := by decide +kernel
theorem dX4_readRule_72 : decode cX4_readRule 72 = .ok (.iconst 1, 1) := by decide +kernel
theorem dX4_readRule_73 : decode cX4_readRule 73 = .ok (.ireturn, 1) := by decide +kernel
theorem dX4_readOrder_0 : decode cX4_readOrder 0 = .ok (.aload_n 0, 1) := by decide +kernel
theorem dX4_readOrder_1 : decode cX4_readOrder 1 = .ok (.invokevirtual 65, 3) := by decide +kernel
theorem dX4_readOrder_4 : decode cX4_readOrder 4 = .ok (.sipush 2018, 3) := by decide +kernel
theorem dX4_readOrder_7 : decode cX4_readOrder 7 = .ok (.isub, 1) := by decide +kernel
theorem dX4_readOrder_8 : decode cX4_readOrder 8 = .ok (.istore_n 1, 1) := by decide +kernel
theorem dX4_readOrder_9 : decode cX4_readOrder 9 = .ok (.iload_n 1, 1) := by decide +kernel
theorem dX4_readOrder_10 : decode cX4_readOrder 10 = .ok (.ifCond .lt 19, 3) := by decide +kernel
theorem dX4_readOrder_13 : decode cX4_readOrder 13 = .ok (.iload_n 1, 1) := by decide +kernel
theorem dX4_readOrder_14 : decode cX4_readOrder 14 = .ok (.iconst 4, 1) := by decide +kernel
theorem dX4_readOrder_15 : decode cX4_readOrder 15 = .ok (.if_icmp .ge 14, 3) := by decide +kernel
theorem dX4_readOrder_18 : decode cX4_readOrder 18 = .ok (.aload_n 0, 1) := by decide +kernel
theorem dX4_readOrder_19 : decode cX4_readOrder 19 = .ok (.getfield 16, 3) := by decide +kernel
theorem dX4_readOrder_22 : decode cX4_readOrder 22 = .ok (.iload_n 1, 1) := by decide +kernel
theorem dX4_readOrder_23 : decode cX4_readOrder 23 = .ok (.invokevirtual 104, 3) := by decide +kernel
theorem dX4_readOrder_26 : decode cX4_readOrder 26 = .ok (.ifCond .ne 5, 3) := by decide +kernel
theorem dX4_readOrder_29 : decode cX4_readOrder 29 = .ok (.iconst 0, 1) := by decide +kernel
theorem dX4_readOrder_30 : decode cX4_readOrder 30 = .ok (.ireturn, 1) := by decide +kernel
theorem dX4_readOrder_31 : decode cX4_readOrder 31 = .ok (.aload_n 0, 1) := by decide +kernel
theorem dX4_readOrder_32 : decode cX4_readOrder 32 = .ok (.dup, 1) := by decide +kernel
theorem dX4_readOrder_33 : decode cX4_readOrder 33 = .ok (.getfield 31, 3) := by decide +kernel
theorem dX4_readOrder_36 : decode cX4_readOrder 36 = .ok (.iconst 1, 1) := by decide +kernel
theorem dX4_readOrder_37 : decode cX4_readOrder 37 = .ok (.iadd, 1) := by decide +kernel
theorem dX4_readOrder_38 : decode cX4_readOrder 38 = .ok (.putfield 31, 3) := by decide +kernel
theorem dX4_readOrder_41 : decode cX4_readOrder 41 = .ok (.iload_n 1, 1) := by decide +kernel
theorem dX4_readOrder_42 : decode cX4_readOrder 42 = .ok (.iconst 3, 1) := by decide +kernel
theorem dX4_readOrder_43 : decode cX4_readOrder 43 = .ok (.if_icmp .eq 13, 3) := by decide +kernel
theorem dX4_readOrder_46 : decode cX4_readOrder 46 = .ok (.aload_n 0, 1) := by decide +kernel
theorem dX4_readOrder_47 : decode cX4_readOrder 47 = .ok (.iconst 0, 1) := by decide +kernel
theorem dX4_readOrder_48 : decode cX4_readOrder 48 = .ok (.invokevirtual 107, 3) := by decide +kernel
theorem dX4_readOrder_51 : decode cX4_readOrder 51 = .ok (.ifCond .ne 5, 3) := by decide +kernel
theorem dX4_readOrder_54 : decode cX4_readOrder 54 = .ok (.iconst 0, 1) := by decide +kernel
theorem dX4_readOrder_55 : decode cX4_readOrder 55 = .ok (.ireturn, 1) := by decide +kernel
theorem dX4_readOrder_56 : decode cX4_readOrder 56 = .ok (.aload_n 0, 1) := by decide +kernel
theorem dX4_readOrder_57 : decode cX4_readOrder 57 = .ok (.getfield 16, 3) := by decide +kernel
theorem dX4_readOrder_60 : decode cX4_readOrder 60 = .ok (.iconst 0, 1) := by decide +kernel
theorem dX4_readOrder_61 : decode cX4_readOrder 61 = .ok (.invokevirtual 72, 3) := by decide +kernel
theorem dX4_readOrder_64 : decode cX4_readOrder 64 = .ok (.iload_n 1, 1) := by decide +kernel
theorem dX4_readOrder_65 : decode cX4_readOrder 65 = .ok (.ifCond .ne 35, 3) := by decide +kernel
theorem dX4_readOrder_68 : decode cX4_readOrder 68 = .ok (.aload_n 0, 1) := by decide +kernel
theorem dX4_readOrder_69 : decode cX4_readOrder 69 = .ok (.invokevirtual 65, 3) := by decide +kernel
theorem dX4_readOrder_72 : decode cX4_readOrder 72 = .ok (.sipush 2022, 3) := by decide +kernel
theorem dX4_readOrder_75 : decode cX4_readOrder 75 = .ok (.if_icmp .eq 5, 3) := by decide +kernel
theorem dX4_readOrder_78 : decode cX4_readOrder 78 = .ok (.iconst 0, 1) := by decide +kernel
theorem dX4_readOrder_79 : decode cX4_readOrder 79 = .ok (.ireturn, 1) := by decide +kernel
theorem dX4_readOrder_80 : decode cX4_readOrder 80 = .ok (.aload_n 0, 1) := by decide +kernel
theorem dX4_readOrder_81 : decode cX4_readOrder 81 = .ok (.dup, 1) := by decide +kernel
theorem dX4_readOrder_82 : decode cX4_readOrder 82 = .ok (.getfield 31, 3) := by decide +kernel
theorem dX4_readOrder_85 : decode cX4_readOrder 85 = .ok (.iconst 1, 1) := by decide +kernel
theorem dX4_readOrder_86 : decode cX4_readOrder 86 = .ok (.iadd, 1) := by decide +kernel
theorem dX4_readOrder_87 : decode cX4_readOrder 87 = .ok (.putfield 31, 3) := by decide +kernel
theorem dX4_readOrder_90 : decode cX4_readOrder 90 = .ok (.aload_n 0, 1) := by decide +kernel
theorem dX4_readOrder_91 : decode cX4_readOrder 91 = .ok (.iconst 0, 1) := by decide +kernel
theorem dX4_readOrder_92 : decode cX4_readOrder 92 = .ok (.invokevirtual 107, 3) := by decide +kernel
theorem dX4_readOrder_95 : decode cX4_readOrder 95 = .ok (.ifCond .ne 5, 3) := by decide +kernel
theorem dX4_readOrder_98 : decode cX4_readOrder 98 = .ok (.iconst 0, 1) := by decide +kernel
theorem dX4_readOrder_99 : decode cX4_readOrder 99 = .ok (.ireturn, 1) := by decide +kernel
theorem dX4_readOrder_100 : decode cX4_readOrder 100 = .ok (.aload_n 0, 1) := by decide +kernel
theorem dX4_readOrder_101 : decode cX4_readOrder 101 = .ok (.getfield 16, 3) := by decide +kernel
theorem dX4_readOrder_104 : decode cX4_readOrder 104 = .ok (.iconst 1, 1) := by decide +kernel
theorem dX4_readOrder_105 : decode cX4_readOrder 105 = .ok (.invokevirtual 72, 3) := by decide +kernel
theorem dX4_readOrder_108 : decode cX4_readOrder 108 = .ok (.aload_n 0, 1) := by decide +kernel
theorem dX4_readOrder_109 : decode cX4_readOrder 109 = .ok (.invokevirtual 110, 3) := by decide +kernel
theorem dX4_readOrder_112 : decode cX4_readOrder 112 = .ok (.ireturn, 1) := by decide +kernel
theorem dX4_readTimes_0 : decode cX4_readTimes 0 = .ok (.aload_n 0, 1) := by decide +kernel
theorem dX4_readTimes_1 : decode cX4_readTimes 1 = .ok (.invokevirtual 65, 3) := by decide +kernel
theorem dX4_readTimes_4 : decode cX4_readTimes 4 = .ok (.sipush 2023, 3) := by decide +kernel
theorem dX4_readTimes_7 : decode cX4_readTimes 7 = .ok (.if_icmp .eq 5, 3) := by decide +kernel
theorem dX4_readTimes_10 : decode cX4_readTimes 10 = .ok (.iconst 1, 1) := by decide +kernel
theorem dX4_readTimes_11 : decode cX4_readTimes 11 = .ok (.ireturn, 1) := by decide +kernel
theorem dX4_readTimes_12 : decode cX4_readTimes 12 = .ok (.aload_n 0, 1) := by decide +kernel
theorem dX4_readTimes_13 : decode cX4_readTimes 13 = .ok (.dup, 1) := by decide +kernel
theorem dX4_readTimes_14 : decode cX4_readTimes 14 = .ok (.getfield 31, 3) := by decide +kernel
theorem dX4_readTimes_17 : decode cX4_readTimes 17 = .ok (.iconst 1, 1) := by decide +kernel
theorem dX4_readTimes_18 : decode cX4_readTimes 18 = .ok (.iadd, 1) := by decide +kernel
theorem dX4_readTimes_19 : decode cX4_readTimes 19 = .ok (.putfield 31, 3) := by decide +kernel
theorem dX4_readTimes_22 : decode cX4_readTimes 22 = .ok (.aload_n 0, 1) := by decide +kernel
theorem dX4_readTimes_23 : decode cX4_readTimes 23 = .ok (.invokevirtual 65, 3) := by decide +kernel
theorem dX4_readTimes_26 : decode cX4_readTimes 26 = .ok (.istore_n 1, 1) := by decide +kernel
theorem dX4_readTimes_27 : decode cX4_readTimes 27 = .ok (.iload_n 1, 1) := by decide +kernel
theorem dX4_readTimes_28 : decode cX4_readTimes 28 = .ok (.iconst 1, 1) := by decide +kernel
theorem dX4_readTimes_29 : decode cX4_readTimes 29 = .ok (.if_icmp .lt 9, 3) := by decide +kernel
theorem dX4_readTimes_32 : decode cX4_readTimes 32 = .ok (.iload_n 1, 1) := by decide +kernel
theorem dX4_readTimes_33 : decode cX4_readTimes 33 = .ok (.bipush 20, 2) := by decide +kernel
theorem dX4_readTimes_35 : decode cX4_readTimes 35 = .ok (.if_icmp .le 5, 3) := by decide +kernel
theorem dX4_readTimes_38 : decode cX4_readTimes 38 = .ok (.iconst 0, 1) := by decide +kernel
theorem dX4_readTimes_39 : decode cX4_readTimes 39 = .ok (.ireturn, 1) := by decide +kernel
theorem dX4_readTimes_40 : decode cX4_readTimes 40 = .ok (.aload_n 0, 1) := by decide +kernel
theorem dX4_readTimes_41 : decode cX4_readTimes 41 = .ok (.dup, 1) := by decide +kernel
theorem dX4_readTimes_42 : decode cX4_readTimes 42 = .ok (.getfield 31, 3) := by decide +kernel
theorem dX4_readTimes_45 : decode cX4_readTimes 45 = .ok (.iconst 1, 1) := by decide +kernel
theorem dX4_readTimes_46 : decode cX4_readTimes 46 = .ok (.iadd, 1) := by decide +kernel
theorem dX4_readTimes_47 : decode cX4_readTimes 47 = .ok (.putfield 31, 3) := by decide +kernel
theorem dX4_readTimes_50 : decode cX4_readTimes 50 = .ok (.aload_n 0, 1) := by decide +kernel
theorem dX4_readTimes_51 : decode cX4_readTimes 51 = .ok (.getfield 16, 3) := by decide +kernel
theorem dX4_readTimes_54 : decode cX4_readTimes 54 = .ok (.iload_n 1, 1) := by decide +kernel
theorem dX4_readTimes_55 : decode cX4_readTimes 55 = .ok (.invokevirtual 113, 3) := by decide +kernel
theorem dX4_readTimes_58 : decode cX4_readTimes 58 = .ok (.iconst 1, 1) := by decide +kernel
theorem dX4_readTimes_59 : decode cX4_readTimes 59 = .ok (.ireturn, 1) := by decide +kernel
theorem dX4_readTest_0 : decode cX4_readTest 0 = .ok (.iconst (-1), 1) := by decide +kernel
theorem dX4_readTest_1 : decode cX4_readTest 1 = .ok (.istore_n 2, 1) := by decide +kernel
theorem dX4_readTest_2 : decode cX4_readTest 2 = .ok (.iconst 0, 1) := by decide +kernel
theorem dX4_readTest_3 : decode cX4_readTest 3 = .ok (.istore_n 3, 1) := by decide +kernel
theorem dX4_readTest_4 : decode cX4_readTest 4 = .ok (.iload_n 3, 1) := by decide +kernel
theorem dX4_readTest_5 : decode cX4_readTest 5 = .ok (.sipush 400, 3) := by decide +kernel
theorem dX4_readTest_8 : decode cX4_readTest 8 = .ok (.if_icmp .ge 122, 3) := by decide +kernel
theorem dX4_readTest_11 : decode cX4_readTest 11 = .ok (.iconst (-1), 1) := by decide +kernel
theorem dX4_readTest_12 : decode cX4_readTest 12 = .ok (.istore 4, 2) := by decide +kernel
theorem dX4_readTest_14 : decode cX4_readTest 14 = .ok (.iconst 0, 1) := by decide +kernel
theorem dX4_readTest_15 : decode cX4_readTest 15 = .ok (.istore 5, 2) := by decide +kernel
theorem dX4_readTest_17 : decode cX4_readTest 17 = .ok (.iload 5, 2) := by decide +kernel
theorem dX4_readTest_19 : decode cX4_readTest 19 = .ok (.sipush 400, 3) := by decide +kernel
theorem dX4_readTest_22 : decode cX4_readTest 22 = .ok (.if_icmp .ge 62, 3) := by decide +kernel
theorem dX4_readTest_25 : decode cX4_readTest 25 = .ok (.aload_n 0, 1) := by decide +kernel
theorem dX4_readTest_26 : decode cX4_readTest 26 = .ok (.iload_n 1, 1) := by decide +kernel
theorem dX4_readTest_27 : decode cX4_readTest 27 = .ok (.invokevirtual 116, 3) := by decide +kernel
theorem dX4_readTest_30 : decode cX4_readTest 30 = .ok (.ifCond .ne 5, 3) := by decide +kernel
theorem dX4_readTest_33 : decode cX4_readTest 33 = .ok (.iconst 0, 1) := by decide +kernel
theorem dX4_readTest_34 : decode cX4_readTest 34 = .ok (.ireturn, 1) := by decide +kernel
theorem dX4_readTest_35 : decode cX4_readTest 35 = .ok (.aload_n 0, 1) := by decide +kernel
theorem dX4_readTest_36 : decode cX4_readTest 36 = .ok (.getfield 16, 3) := by decide +kernel
theorem dX4_readTest_39 : decode cX4_readTest 39 = .ok (.iload 4, 2) := by decide +kernel
theorem dX4_readTest_41 : decode cX4_readTest 41 = .ok (.invokevirtual 119, 3) := by decide +kernel
theorem dX4_readTest_44 : decode cX4_readTest 44 = .ok (.aload_n 0, 1) := by decide +kernel
theorem dX4_readTest_45 : decode cX4_readTest 45 = .ok (.invokevirtual 65, 3) := by decide +kernel
theorem dX4_readTest_48 : decode cX4_readTest 48 = .ok (.sipush 2001, 3) := by decide +kernel
theorem dX4_readTest_51 : decode cX4_readTest 51 = .ok (.if_icmp .eq 6, 3) := by decide +kernel
theorem dX4_readTest_54 : decode cX4_readTest 54 = .ok (.goto 30, 3) := by decide +kernel
theorem dX4_readTest_57 : decode cX4_readTest 57 = .ok (.aload_n 0, 1) := by decide +kernel
theorem dX4_readTest_58 : decode cX4_readTest 58 = .ok (.dup, 1) := by decide +kernel
theorem dX4_readTest_59 : decode cX4_readTest 59 = .ok (.getfield 31, 3) := by decide +kernel
theorem dX4_readTest_62 : decode cX4_readTest 62 = .ok (.iconst 1, 1) := by decide +kernel
theorem dX4_readTest_63 : decode cX4_readTest 63 = .ok (.iadd, 1) := by decide +kernel
theorem dX4_readTest_64 : decode cX4_readTest 64 = .ok (.putfield 31, 3) := by decide +kernel
theorem dX4_readTest_67 : decode cX4_readTest 67 = .ok (.aload_n 0, 1) := by decide +kernel
theorem dX4_readTest_68 : decode cX4_readTest 68 = .ok (.getfield 16, 3) := by decide +kernel
theorem dX4_readTest_71 : decode cX4_readTest 71 = .ok (.iconst 4, 1) := by decide +kernel
theorem dX4_readTest_72 : decode cX4_readTest 72 = .ok (.iconst 0, 1) := by decide +kernel
theorem dX4_readTest_73 : decode cX4_readTest 73 = .ok (.invokevirtual 122, 3) := by decide +kernel
theorem dX4_readTest_76 : decode cX4_readTest 76 = .ok (.istore 4, 2) := by decide +kernel
theorem dX4_readTest_78 : decode cX4_readTest 78 = .ok (.iinc 5 1, 3) := by decide +kernel
theorem dX4_readTest_81 : decode cX4_readTest 81 = .ok (.goto (-64), 3) := by decide +kernel
theorem dX4_readTest_84 : decode cX4_readTest 84 = .ok (.aload_n 0, 1) := by decide +kernel
theorem dX4_readTest_85 : decode cX4_readTest 85 = .ok (.getfield 16, 3) := by decide +kernel
theorem dX4_readTest_88 : decode cX4_readTest 88 = .ok (.iload_n 2, 1) := by decide +kernel
theorem dX4_readTest_89 : decode cX4_readTest 89 = .ok (.invokevirtual 119, 3) := by decide +kernel
theorem dX4_readTest_92 : decode cX4_readTest 92 = .ok (.aload_n 0, 1) := by decide +kernel
theorem dX4_readTest_93 : decode cX4_readTest 93 = .ok (.invokevirtual 65, 3) := by decide +kernel
theorem dX4_readTest_96 : decode cX4_readTest 96 = .ok (.sipush 2000, 3) := by decide +kernel
theorem dX4_readTest_99 : decode cX4_readTest 99 = .ok (.if_icmp .eq 5, 3) := by decide +kernel
theorem dX4_readTest_102 : decode cX4_readTest 102 = .ok (.iconst 1, 1) := by decide +kernel
theorem dX4_readTest_103 : decode cX4_readTest 103 = .ok (.ireturn, 1) := by decide +kernel
theorem dX4_readTest_104 : decode cX4_readTest 104 = .ok (.aload_n 0, 1) := by decide +kernel
theorem dX4_readTest_105 : decode cX4_readTest 105 = .ok (.dup, 1) := by decide +kernel
theorem dX4_readTest_106 : decode cX4_readTest 106 = .ok (.getfield 31, 3) := by decide +kernel
theorem dX4_readTest_109 : decode cX4_readTest 109 = .ok (.iconst 1, 1) := by decide +kernel
theorem dX4_readTest_110 : decode cX4_readTest 110 = .ok (.iadd, 1) := by decide +kernel
theorem dX4_readTest_111 : decode cX4_readTest 111 = .ok (.putfield 31, 3) := by decide +kernel
theorem dX4_readTest_114 : decode cX4_readTest 114 = .ok (.aload_n 0, 1) := by decide +kernel
theorem dX4_readTest_115 : decode cX4_readTest 115 = .ok (.getfield 16, 3) := by decide +kernel
theorem dX4_readTest_118 : decode cX4_readTest 118 = .ok (.iconst 3, 1) := by decide +kernel
theorem dX4_readTest_119 : decode cX4_readTest 119 = .ok (.iconst 0, 1) := by decide +kernel
theorem dX4_readTest_120 : decode cX4_readTest 120 = .ok (.invokevirtual 122, 3) := by decide +kernel
theorem dX4_readTest_123 : decode cX4_readTest 123 = .ok (.istore_n 2, 1) := by decide +kernel
theorem dX4_readTest_124 : decode cX4_readTest 124 = .ok (.iinc 3 1, 3) := by decide +kernel
theorem dX4_readTest_127 : decode cX4_readTest 127 = .ok (.goto (-123), 3) := by decide +kernel
theorem dX4_readTest_130 : decode cX4_readTest 130 = .ok (.iconst 0, 1) := by decide +kernel
theorem dX4_readTest_131 : decode cX4_readTest 131 = .ok (.ireturn, 1) := by decide +kernel
theorem dX4_readPlain_0 : decode cX4_readPlain 0 = .ok (.iconst 0, 1) := by decide +kernel
theorem dX4_readPlain_1 : decode cX4_readPlain 1 = .ok (.istore_n 2, 1) := by decide +kernel
theorem dX4_readPlain_2 : decode cX4_readPlain 2 = .ok (.iconst 0, 1) := by decide +kernel
theorem dX4_readPlain_3 : decode cX4_readPlain 3 = .ok (.istore_n 3, 1) := by decide +kernel
theorem dX4_readPlain_4 : decode cX4_readPlain 4 = .ok (.iload_n 3, 1) := by decide +kernel
theorem dX4_readPlain_5 : decode cX4_readPlain 5 = .ok (.sipush 400, 3) := by decide +kernel
theorem dX4_readPlain_8 : decode cX4_readPlain 8 = .ok (.if_icmp .ge 39, 3) := by decide +kernel
theorem dX4_readPlain_11 : decode cX4_readPlain 11 = .ok (.aload_n 0, 1) := by decide +kernel
theorem dX4_readPlain_12 : decode cX4_readPlain 12 = .ok (.invokevirtual 65, 3) := by decide +kernel
theorem dX4_readPlain_15 : decode cX4_readPlain 15 = .ok (.sipush 2002, 3) := by decide +kernel
theorem dX4_readPlain_18 : decode cX4_readPlain 18 = .ok (.if_icmp .ne 29, 3) := by decide +kernel
theorem dX4_readPlain_21 : decode cX4_readPlain 21 = .ok (.aload_n 0, 1) := by decide +kernel
theorem dX4_readPlain_22 : decode cX4_readPlain 22 = .ok (.dup, 1) := by decide +kernel
theorem dX4_readPlain_23 : decode cX4_readPlain 23 = .ok (.getfield 31, 3) := by decide +kernel
theorem dX4_readPlain_26 : decode cX4_readPlain 26 = .ok (.iconst 1, 1) := by decide +kernel
theorem dX4_readPlain_27 : decode cX4_readPlain 27 = .ok (.iadd, 1) := by decide +kernel
theorem dX4_readPlain_28 : decode cX4_readPlain 28 = .ok (.putfield 31, 3) := by decide +kernel
theorem dX4_readPlain_31 : decode cX4_readPlain 31 = .ok (.iload_n 2, 1) := by decide +kernel
theorem dX4_readPlain_32 : decode cX4_readPlain 32 = .ok (.ifCond .ne 7, 3) := by decide +kernel
theorem dX4_readPlain_35 : decode cX4_readPlain 35 = .ok (.iconst 1, 1) := by decide +kernel
theorem dX4_readPlain_36 : decode cX4_readPlain 36 = .ok (.goto 4, 3) := by decide +kernel
theorem dX4_readPlain_39 : decode cX4_readPlain 39 = .ok (.iconst 0, 1) := by decide +kernel
theorem dX4_readPlain_40 : decode cX4_readPlain 40 = .ok (.istore_n 2, 1) := by decide +kernel
theorem dX4_readPlain_41 : decode cX4_readPlain 41 = .ok (.iinc 3 1, 3) := by decide +kernel
theorem dX4_readPlain_44 : decode cX4_readPlain 44 = .ok (.goto (-40), 3) := by decide +kernel
theorem dX4_readPlain_47 : decode cX4_readPlain 47 = .ok (.aload_n 0, 1) := by decide +kernel
theorem dX4_readPlain_48 : decode cX4_readPlain 48 = .ok (.invokevirtual 65, 3) := by decide +kernel
theorem dX4_readPlain_51 : decode cX4_readPlain 51 = .ok (.sipush 3040, 3) := by decide +kernel
theorem dX4_readPlain_54 : decode cX4_readPlain 54 = .ok (.if_icmp .ne 56, 3) := by decide +kernel
theorem dX4_readPlain_57 : decode cX4_readPlain 57 = .ok (.iload_n 1, 1) := by decide +kernel
theorem dX4_readPlain_58 : decode cX4_readPlain 58 = .ok (.bipush 8, 2) := by decide +kernel
theorem dX4_readPlain_60 : decode cX4_readPlain 60 = .ok (.if_icmp .lt 5, 3) := by decide +kernel
theorem dX4_readPlain_63 : decode cX4_readPlain 63 = .ok (.iconst 0, 1) := by decide +kernel
theorem dX4_readPlain_64 : decode cX4_readPlain 64 = .ok (.ireturn, 1) := by decide +kernel
theorem dX4_readPlain_65 : decode cX4_readPlain 65 = .ok (.aload_n 0, 1) := by decide +kernel
theorem dX4_readPlain_66 : decode cX4_readPlain 66 = .ok (.dup, 1) := by decide +kernel
theorem dX4_readPlain_67 : decode cX4_readPlain 67 = .ok (.getfield 31, 3) := by decide +kernel
theorem dX4_readPlain_70 : decode cX4_readPlain 70 = .ok (.iconst 1, 1) := by decide +kernel
theorem dX4_readPlain_71 : decode cX4_readPlain 71 = .ok (.iadd, 1) := by decide +kernel
theorem dX4_readPlain_72 : decode cX4_readPlain 72 = .ok (.putfield 31, 3) := by decide +kernel
theorem dX4_readPlain_75 : decode cX4_readPlain 75 = .ok (.aload_n 0, 1) := by decide +kernel
theorem dX4_readPlain_76 : decode cX4_readPlain 76 = .ok (.iload_n 1, 1) := by decide +kernel
theorem dX4_readPlain_77 : decode cX4_readPlain 77 = .ok (.iconst 1, 1) := by decide +kernel
theorem dX4_readPlain_78 : decode cX4_readPlain 78 = .ok (.iadd, 1) := by decide +kernel
theorem dX4_readPlain_79 : decode cX4_readPlain 79 = .ok (.invokevirtual 68, 3) := by decide +kernel
theorem dX4_readPlain_82 : decode cX4_readPlain 82 = .ok (.ifCond .eq 13, 3) := by decide +kernel
theorem dX4_readPlain_85 : decode cX4_readPlain 85 = .ok (.aload_n 0, 1) := by decide +kernel
theorem dX4_readPlain_86 : decode cX4_readPlain 86 = .ok (.invokevirtual 65, 3) := by decide +kernel
theorem dX4_readPlain_89 : decode cX4_readPlain 89 = .ok (.sipush 3041, 3) := by decide +kernel
theorem dX4_readPlain_92 : decode cX4_readPlain 92 = .ok (.if_icmp .eq 5, 3) := by decide +kernel
theorem dX4_readPlain_95 : decode cX4_readPlain 95 = .ok (.iconst 0, 1) := by decide +kernel
theorem dX4_readPlain_96 : decode cX4_readPlain 96 = .ok (.ireturn, 1) := by decide +kernel
theorem dX4_readPlain_97 : decode cX4_readPlain 97 = .ok (.aload_n 0, 1) := by decide +kernel
theorem dX4_readPlain_98 : decode cX4_readPlain 98 = .ok (.dup, 1) := by decide +kernel
theorem dX4_readPlain_99 : decode cX4_readPlain 99 = .ok (.getfield 31, 3) := by decide +kernel
theorem dX4_readPlain_102 : decode cX4_readPlain 102 = .ok (.iconst 1, 1) := by decide +kernel
theorem dX4_readPlain_103 : decode cX4_readPlain 103 = .ok (.iadd, 1) := by decide +kernel
theorem dX4_readPlain_104 : decode cX4_readPlain 104 = .ok (.putfield 31, 3) := by decide +kernel
theorem dX4_readPlain_107 : decode cX4_readPlain 107 = .ok (.goto 97, 3) := by decide +kernel
theorem dX4_readPlain_110 : decode cX4_readPlain 110 = .ok (.aload_n 0, 1) := by decide +kernel
theorem dX4_readPlain_111 : decode cX4_readPlain 111 = .ok (.iload_n 1, 1) := by decide +kernel
theorem dX4_readPlain_112 : decode cX4_readPlain 112 = .ok (.invokevirtual 107, 3) := by decide +kernel
theorem dX4_readPlain_115 : decode cX4_readPlain 115 = .ok (.ifCond .ne 5, 3) := by decide +kernel
theorem dX4_readPlain_118 : decode cX4_readPlain 118 = .ok (.iconst 0, 1) := by decide +kernel
theorem dX4_readPlain_119 : decode cX4_readPlain 119 = .ok (.ireturn, 1) := by decide +kernel
theorem dX4_readPlain_120 : decode cX4_readPlain 120 = .ok (.aload_n 0, 1) := by decide +kernel
theorem dX4_readPlain_121 : decode cX4_readPlain 121 = .ok (.invokevirtual 65, 3) := by decide +kernel
theorem dX4_readPlain_124 : decode cX4_readPlain 124 = .ok (.sipush 3060, 3) := by decide +kernel
theorem dX4_readPlain_127 : decode cX4_readPlain 127 = .ok (.if_icmp .ne 8, 3) := by decide +kernel
theorem dX4_readPlain_130 : decode cX4_readPlain 130 = .ok (.bipush 10, 2) := by decide +kernel
theorem dX4_readPlain_132 : decode cX4_readPlain 132 = .ok (.goto 34, 3) := by decide +kernel
theorem dX4_readPlain_135 : decode cX4_readPlain 135 = .ok (.aload_n 0, 1) := by decide +kernel
theorem dX4_readPlain_136 : decode cX4_readPlain 136 = .ok (.invokevirtual 65, 3) := by decide +kernel
theorem dX4_readPlain_139 : decode cX4_readPlain 139 = .ok (.sipush 3062, 3) := by decide +kernel
theorem dX4_readPlain_142 : decode cX4_readPlain 142 = .ok (.if_icmp .ne 8, 3) := by decide +kernel
theorem dX4_readPlain_145 : decode cX4_readPlain 145 = .ok (.bipush 11, 2) := by decide +kernel
theorem dX4_readPlain_147 : decode cX4_readPlain 147 = .ok (.goto 19, 3) := by decide +kernel
theorem dX4_readPlain_150 : decode cX4_readPlain 150 = .ok (.aload_n 0, 1) := by decide +kernel
theorem dX4_readPlain_151 : decode cX4_readPlain 151 = .ok (.invokevirtual 65, 3) := by decide +kernel
theorem dX4_readPlain_154 : decode cX4_readPlain 154 = .ok (.sipush 3061, 3) := by decide +kernel
theorem dX4_readPlain_157 : decode cX4_readPlain 157 = .ok (.if_icmp .ne 8, 3) := by decide +kernel
theorem dX4_readPlain_160 : decode cX4_readPlain 160 = .ok (.bipush 12, 2) := by decide +kernel
theorem dX4_readPlain_162 : decode cX4_readPlain 162 = .ok (.goto 4, 3) := by decide +kernel
theorem dX4_readPlain_165 : decode cX4_readPlain 165 = .ok (.iconst (-1), 1) := by decide +kernel
theorem dX4_readPlain_166 : decode cX4_readPlain 166 = .ok (.istore_n 3, 1) := by decide +kernel
theorem dX4_readPlain_167 : decode cX4_readPlain 167 = .ok (.iload_n 3, 1) := by decide +kernel
theorem dX4_readPlain_168 : decode cX4_readPlain 168 = .ok (.iconst (-1), 1) := by decide +kernel
theorem dX4_readPlain_169 : decode cX4_readPlain 169 = .ok (.if_icmp .ne 5, 3) := by decide +kernel
theorem dX4_readPlain_172 : decode cX4_readPlain 172 = .ok (.iconst 0, 1) := by decide +kernel
theorem dX4_readPlain_173 : decode cX4_readPlain 173 = .ok (.ireturn, 1) := by decide +kernel
theorem dX4_readPlain_174 : decode cX4_readPlain 174 = .ok (.aload_n 0, 1) := by decide +kernel
theorem dX4_readPlain_175 : decode cX4_readPlain 175 = .ok (.dup, 1) := by decide +kernel
theorem dX4_readPlain_176 : decode cX4_readPlain 176 = .ok (.getfield 31, 3) := by decide +kernel
theorem dX4_readPlain_179 : decode cX4_readPlain 179 = .ok (.iconst 1, 1) := by decide +kernel
theorem dX4_readPlain_180 : decode cX4_readPlain 180 = .ok (.iadd, 1) := by decide +kernel
theorem dX4_readPlain_181 : decode cX4_readPlain 181 = .ok (.putfield 31, 3) := by decide +kernel
theorem dX4_readPlain_184 : decode cX4_readPlain 184 = .ok (.aload_n 0, 1) := by decide +kernel
theorem dX4_readPlain_185 : decode cX4_readPlain 185 = .ok (.iload_n 1, 1) := by decide +kernel
theorem dX4_readPlain_186 : decode cX4_readPlain 186 = .ok (.invokevirtual 107, 3) := by decide +kernel
theorem dX4_readPlain_189 : decode cX4_readPlain 189 = .ok (.ifCond .ne 5, 3) := by decide +kernel
theorem dX4_readPlain_192 : decode cX4_readPlain 192 = .ok (.iconst 0, 1) := by decide +kernel
theorem dX4_readPlain_193 : decode cX4_readPlain 193 = .ok (.ireturn, 1) := by decide +kernel
theorem dX4_readPlain_194 : decode cX4_readPlain 194 = .ok (.aload_n 0, 1) := by decide +kernel
theorem dX4_readPlain_195 : decode cX4_readPlain 195 = .ok (.getfield 16, 3) := by decide +kernel
theorem dX4_readPlain_198 : decode cX4_readPlain 198 = .ok (.iload_n 3, 1) := by decide +kernel
theorem dX4_readPlain_199 : decode cX4_readPlain 199 = .ok (.iconst 0, 1) := by decide +kernel
theorem dX4_readPlain_200 : decode cX4_readPlain 200 = .ok (.invokevirtual 122, 3) := by decide +kernel
theorem dX4_readPlain_203 : decode cX4_readPlain 203 = .ok (.pop, 1) := by decide +kernel
theorem dX4_readPlain_204 : decode cX4_readPlain 204 = .ok (.aload_n 0, 1) := by decide +kernel
theorem dX4_readPlain_205 : decode cX4_readPlain 205 = .ok (.iload_n 2, 1) := by decide +kernel
theorem dX4_readPlain_206 : decode cX4_readPlain 206 = .ok (.ifCond .eq 7, 3) := by decide +kernel
theorem dX4_readPlain_209 : decode cX4_readPlain 209 = .ok (.iconst 2, 1) := by decide +kernel
theorem dX4_readPlain_210 : decode cX4_readPlain 210 = .ok (.goto 4, 3) := by decide +kernel
theorem dX4_readPlain_213 : decode cX4_readPlain 213 = .ok (.iconst (-1), 1) := by decide +kernel
theorem dX4_readPlain_214 : decode cX4_readPlain 214 = .ok (.invokevirtual 125, 3) := by decide +kernel
theorem dX4_readPlain_217 : decode cX4_readPlain 217 = .ok (.iconst 1, 1) := by decide +kernel
theorem dX4_readPlain_218 : decode cX4_readPlain 218 = .ok (.ireturn, 1) := by decide +kernel
theorem dX4_readSum_0 : decode cX4_readSum 0 = .ok (.iconst (-1), 1) := by decide +kernel
theorem dX4_readSum_1 : decode cX4_readSum 1 = .ok (.istore_n 2, 1) := by decide +kernel
theorem dX4_readSum_2 : decode cX4_readSum 2 = .ok (.iconst 0, 1) := by decide +kernel
theorem dX4_readSum_3 : decode cX4_readSum 3 = .ok (.istore_n 3, 1) := by decide +kernel
theorem dX4_readSum_4 : decode cX4_readSum 4 = .ok (.iload_n 3, 1) := by decide +kernel
theorem dX4_readSum_5 : decode cX4_readSum 5 = .ok (.sipush 400, 3) := by decide +kernel
theorem dX4_readSum_8 : decode cX4_readSum 8 = .ok (.if_icmp .ge 165, 3) := by decide +kernel
theorem dX4_readSum_11 : decode cX4_readSum 11 = .ok (.iconst (-1), 1) := by decide +kernel
theorem dX4_readSum_12 : decode cX4_readSum 12 = .ok (.istore 4, 2) := by decide +kernel
theorem dX4_readSum_14 : decode cX4_readSum 14 = .ok (.iconst 0, 1) := by decide +kernel
theorem dX4_readSum_15 : decode cX4_readSum 15 = .ok (.istore 5, 2) := by decide +kernel
theorem dX4_readSum_17 : decode cX4_readSum 17 = .ok (.iload 5, 2) := by decide +kernel
theorem dX4_readSum_19 : decode cX4_readSum 19 = .ok (.sipush 400, 3) := by decide +kernel
theorem dX4_readSum_22 : decode cX4_readSum 22 = .ok (.if_icmp .ge 92, 3) := by decide +kernel
theorem dX4_readSum_25 : decode cX4_readSum 25 = .ok (.aload_n 0, 1) := by decide +kernel
theorem dX4_readSum_26 : decode cX4_readSum 26 = .ok (.iload_n 1, 1) := by decide +kernel
theorem dX4_readSum_27 : decode cX4_readSum 27 = .ok (.invokevirtual 128, 3) := by decide +kernel
theorem dX4_readSum_30 : decode cX4_readSum 30 = .ok (.ifCond .ne 5, 3) := by decide +kernel
theorem dX4_readSum_33 : decode cX4_readSum 33 = .ok (.iconst 0, 1) := by decide +kernel
theorem dX4_readSum_34 : decode cX4_readSum 34 = .ok (.ireturn, 1) := by decide +kernel
theorem dX4_readSum_35 : decode cX4_readSum 35 = .ok (.aload_n 0, 1) := by decide +kernel
theorem dX4_readSum_36 : decode cX4_readSum 36 = .ok (.iload 4, 2) := by decide +kernel
theorem dX4_readSum_38 : decode cX4_readSum 38 = .ok (.invokevirtual 125, 3) := by decide +kernel
theorem dX4_readSum_41 : decode cX4_readSum 41 = .ok (.aload_n 0, 1) := by decide +kernel
theorem dX4_readSum_42 : decode cX4_readSum 42 = .ok (.invokevirtual 65, 3) := by decide +kernel
theorem dX4_readSum_45 : decode cX4_readSum 45 = .ok (.sipush 3042, 3) := by decide +kernel
theorem dX4_readSum_48 : decode cX4_readSum 48 = .ok (.if_icmp .ne 8, 3) := by decide +kernel
theorem dX4_readSum_51 : decode cX4_readSum 51 = .ok (.bipush 7, 2) := by decide +kernel
theorem dX4_readSum_53 : decode cX4_readSum 53 = .ok (.goto 34, 3) := by decide +kernel
theorem dX4_readSum_56 : decode cX4_readSum 56 = .ok (.aload_n 0, 1) := by decide +kernel
theorem dX4_readSum_57 : decode cX4_readSum 57 = .ok (.invokevirtual 65, 3) := by decide +kernel
theorem dX4_readSum_60 : decode cX4_readSum 60 = .ok (.sipush 3047, 3) := by decide +kernel
theorem dX4_readSum_63 : decode cX4_readSum 63 = .ok (.if_icmp .ne 8, 3) := by decide +kernel
theorem dX4_readSum_66 : decode cX4_readSum 66 = .ok (.bipush 8, 2) := by decide +kernel
theorem dX4_readSum_68 : decode cX4_readSum 68 = .ok (.goto 19, 3) := by decide +kernel
theorem dX4_readSum_71 : decode cX4_readSum 71 = .ok (.aload_n 0, 1) := by decide +kernel
theorem dX4_readSum_72 : decode cX4_readSum 72 = .ok (.invokevirtual 65, 3) := by decide +kernel
theorem dX4_readSum_75 : decode cX4_readSum 75 = .ok (.sipush 3037, 3) := by decide +kernel
theorem dX4_readSum_78 : decode cX4_readSum 78 = .ok (.if_icmp .ne 8, 3) := by decide +kernel
theorem dX4_readSum_81 : decode cX4_readSum 81 = .ok (.bipush 9, 2) := by decide +kernel
theorem dX4_readSum_83 : decode cX4_readSum 83 = .ok (.goto 4, 3) := by decide +kernel
theorem dX4_readSum_86 : decode cX4_readSum 86 = .ok (.iconst (-1), 1) := by decide +kernel
theorem dX4_readSum_87 : decode cX4_readSum 87 = .ok (.istore 4, 2) := by decide +kernel
theorem dX4_readSum_89 : decode cX4_readSum 89 = .ok (.iload 4, 2) := by decide +kernel
theorem dX4_readSum_91 : decode cX4_readSum 91 = .ok (.iconst (-1), 1) := by decide +kernel
theorem dX4_readSum_92 : decode cX4_readSum 92 = .ok (.if_icmp .ne 6, 3) := by decide +kernel
theorem dX4_readSum_95 : decode cX4_readSum 95 = .ok (.goto 19, 3) := by decide +kernel
theorem dX4_readSum_98 : decode cX4_readSum 98 = .ok (.aload_n 0, 1) := by decide +kernel
theorem dX4_readSum_99 : decode cX4_readSum 99 = .ok (.dup, 1) := by decide +kernel
theorem dX4_readSum_100 : decode cX4_readSum 100 = .ok (.getfield 31, 3) := by decide +kernel
theorem dX4_readSum_103 : decode cX4_readSum 103 = .ok (.iconst 1, 1) := by decide +kernel
theorem dX4_readSum_104 : decode cX4_readSum 104 = .ok (.iadd, 1) := by decide +kernel
theorem dX4_readSum_105 : decode cX4_readSum 105 = .ok (.putfield 31, 3) := by decide +kernel
theorem dX4_readSum_108 : decode cX4_readSum 108 = .ok (.iinc 5 1, 3) := by decide +kernel
theorem dX4_readSum_111 : decode cX4_readSum 111 = .ok (.goto (-94), 3) := by decide +kernel
theorem dX4_readSum_114 : decode cX4_readSum 114 = .ok (.aload_n 0, 1) := by decide +kernel
theorem dX4_readSum_115 : decode cX4_readSum 115 = .ok (.iload_n 2, 1) := by decide +kernel
theorem dX4_readSum_116 : decode cX4_readSum 116 = .ok (.invokevirtual 125, 3) := by decide +kernel
theorem dX4_readSum_119 : decode cX4_readSum 119 = .ok (.aload_n 0, 1) := by decide +kernel
theorem dX4_readSum_120 : decode cX4_readSum 120 = .ok (.invokevirtual 65, 3) := by decide +kernel
theorem dX4_readSum_123 : decode cX4_readSum 123 = .ok (.sipush 3043, 3) := by decide +kernel
theorem dX4_readSum_126 : decode cX4_readSum 126 = .ok (.if_icmp .ne 7, 3) := by decide +kernel
theorem dX4_readSum_129 : decode cX4_readSum 129 = .ok (.iconst 5, 1) := by decide +kernel
theorem dX4_readSum_130 : decode cX4_readSum 130 = .ok (.goto 19, 3) := by decide +kernel
theorem dX4_readSum_133 : decode cX4_readSum 133 = .ok (.aload_n 0, 1) := by decide +kernel
theorem dX4_readSum_134 : decode cX4_readSum 134 = .ok (.invokevirtual 65, 3) := by decide +kernel
theorem dX4_readSum_137 : decode cX4_readSum 137 = .ok (.sipush 3045, 3) := by decide +kernel
theorem dX4_readSum_140 : decode cX4_readSum 140 = .ok (.if_icmp .ne 8, 3) := by decide +kernel
theorem dX4_readSum_143 : decode cX4_readSum 143 = .ok (.bipush 6, 2) := by decide +kernel
theorem dX4_readSum_145 : decode cX4_readSum 145 = .ok (.goto 4, 3) := by decide +kernel
theorem dX4_readSum_148 : decode cX4_readSum 148 = .ok (.iconst (-1), 1) := by decide +kernel
theorem dX4_readSum_149 : decode cX4_readSum 149 = .ok (.istore_n 2, 1) := by decide +kernel
theorem dX4_readSum_150 : decode cX4_readSum 150 = .ok (.iload_n 2, 1) := by decide +kernel
theorem dX4_readSum_151 : decode cX4_readSum 151 = .ok (.iconst (-1), 1) := by decide +kernel
theorem dX4_readSum_152 : decode cX4_readSum 152 = .ok (.if_icmp .ne 5, 3) := by decide +kernel
theorem dX4_readSum_155 : decode cX4_readSum 155 = .ok (.iconst 1, 1) := by decide +kernel
theorem dX4_readSum_156 : decode cX4_readSum 156 = .ok (.ireturn, 1) := by decide +kernel
theorem dX4_readSum_157 : decode cX4_readSum 157 = .ok (.aload_n 0, 1) := by decide +kernel
theorem dX4_readSum_158 : decode cX4_readSum 158 = .ok (.dup, 1) := by decide +kernel
theorem dX4_readSum_159 : decode cX4_readSum 159 = .ok (.getfield 31, 3) := by decide +kernel
theorem dX4_readSum_162 : decode cX4_readSum 162 = .ok (.iconst 1, 1) := by decide +kernel
theorem dX4_readSum_163 : decode cX4_readSum 163 = .ok (.iadd, 1) := by decide +kernel
theorem dX4_readSum_164 : decode cX4_readSum 164 = .ok (.putfield 31, 3) := by decide +kernel
theorem dX4_readSum_167 : decode cX4_readSum 167 = .ok (.iinc 3 1, 3) := by decide +kernel
theorem dX4_readSum_170 : decode cX4_readSum 170 = .ok (.goto (-166), 3) := by decide +kernel
theorem dX4_readSum_173 : decode cX4_readSum 173 = .ok (.iconst 0, 1) := by decide +kernel
theorem dX4_readSum_174 : decode cX4_readSum 174 = .ok (.ireturn, 1) := by decide +kernel
theorem dX4_emitIfAny_0 : decode cX4_emitIfAny 0 = .ok (.iload_n 1, 1) := by decide +kernel
theorem dX4_emitIfAny_1 : decode cX4_emitIfAny 1 = .ok (.iconst (-1), 1) := by decide +kernel
theorem dX4_emitIfAny_2 : decode cX4_emitIfAny 2 = .ok (.if_icmp .eq 13, 3) := by decide +kernel
theorem dX4_emitIfAny_5 : decode cX4_emitIfAny 5 = .ok (.aload_n 0, 1) := by decide +kernel
theorem dX4_emitIfAny_6 : decode cX4_emitIfAny 6 = .ok (.getfield 16, 3) := by decide +kernel
theorem dX4_emitIfAny_9 : decode cX4_emitIfAny 9 = .ok (.iload_n 1, 1) := by decide +kernel
theorem dX4_emitIfAny_10 : decode cX4_emitIfAny 10 = .ok (.iconst 0, 1) := by decide +kernel
theorem dX4_emitIfAny_11 : decode cX4_emitIfAny 11 = .ok (.invokevirtual 122, 3) := by decide +kernel
theorem dX4_emitIfAny_14 : decode cX4_emitIfAny 14 = .ok (.pop, 1) := by decide +kernel
theorem dX4_emitIfAny_15 : decode cX4_emitIfAny 15 = .ok (.return_, 1) := by decide +kernel
theorem dX4_readOperand_0 : decode cX4_readOperand 0 = .ok (.aload_n 0, 1) := by decide +kernel
theorem dX4_readOperand_1 : decode cX4_readOperand 1 = .ok (.invokevirtual 65, 3) := by decide +kernel
theorem dX4_readOperand_4 : decode cX4_readOperand 4 = .ok (.istore_n 2, 1) := by decide +kernel
theorem dX4_readOperand_5 : decode cX4_readOperand 5 = .ok (.iload_n 2, 1) := by decide +kernel
theorem dX4_readOperand_6 : decode cX4_readOperand 6 = .ok (.sipush 3091, 3) := by decide +kernel
theorem dX4_readOperand_9 : decode cX4_readOperand 9 = .ok (.if_icmp .ne 55, 3) := by decide +kernel
theorem dX4_readOperand_12 : decode cX4_readOperand 12 = .ok (.iload_n 1, 1) := by decide +kernel
theorem dX4_readOperand_13 : decode cX4_readOperand 13 = .ok (.bipush 8, 2) := by decide +kernel
theorem dX4_readOperand_15 : decode cX4_readOperand 15 = .ok (.if_icmp .lt 5, 3) := by decide +kernel
theorem dX4_readOperand_18 : decode cX4_readOperand 18 = .ok (.iconst 0, 1) := by decide +kernel
theorem dX4_readOperand_19 : decode cX4_readOperand 19 = .ok (.ireturn, 1) := by decide +kernel
theorem dX4_readOperand_20 : decode cX4_readOperand 20 = .ok (.aload_n 0, 1) := by decide +kernel
theorem dX4_readOperand_21 : decode cX4_readOperand 21 = .ok (.dup, 1) := by decide +kernel
theorem dX4_readOperand_22 : decode cX4_readOperand 22 = .ok (.getfield 31, 3) := by decide +kernel
theorem dX4_readOperand_25 : decode cX4_readOperand 25 = .ok (.iconst 1, 1) := by decide +kernel
theorem dX4_readOperand_26 : decode cX4_readOperand 26 = .ok (.iadd, 1) := by decide +kernel
theorem dX4_readOperand_27 : decode cX4_readOperand 27 = .ok (.putfield 31, 3) := by decide +kernel
theorem dX4_readOperand_30 : decode cX4_readOperand 30 = .ok (.aload_n 0, 1) := by decide +kernel
theorem dX4_readOperand_31 : decode cX4_readOperand 31 = .ok (.iload_n 1, 1) := by decide +kernel
theorem dX4_readOperand_32 : decode cX4_readOperand 32 = .ok (.iconst 1, 1) := by decide +kernel
theorem dX4_readOperand_33 : decode cX4_readOperand 33 = .ok (.iadd, 1) := by decide +kernel
theorem dX4_readOperand_34 : decode cX4_readOperand 34 = .ok (.invokevirtual 107, 3) := by decide +kernel
theorem dX4_readOperand_37 : decode cX4_readOperand 37 = .ok (.ifCond .eq 13, 3) := by decide +kernel
theorem dX4_readOperand_40 : decode cX4_readOperand 40 = .ok (.aload_n 0, 1) := by decide +kernel
theorem dX4_readOperand_41 : decode cX4_readOperand 41 = .ok (.invokevirtual 65, 3) := by decide +kernel
theorem dX4_readOperand_44 : decode cX4_readOperand 44 = .ok (.sipush 3093, 3) := by decide +kernel
theorem dX4_readOperand_47 : decode cX4_readOperand 47 = .ok (.if_icmp .eq 5, 3) := by decide +kernel
theorem dX4_readOperand_50 : decode cX4_readOperand 50 = .ok (.iconst 0, 1) := by decide +kernel
theorem dX4_readOperand_51 : decode cX4_readOperand 51 = .ok (.ireturn, 1) := by decide +kernel
theorem dX4_readOperand_52 : decode cX4_readOperand 52 = .ok (.aload_n 0, 1) := by decide +kernel
theorem dX4_readOperand_53 : decode cX4_readOperand 53 = .ok (.dup, 1) := by decide +kernel
theorem dX4_readOperand_54 : decode cX4_readOperand 54 = .ok (.getfield 31, 3) := by decide +kernel
theorem dX4_readOperand_57 : decode cX4_readOperand 57 = .ok (.iconst 1, 1) := by decide +kernel
theorem dX4_readOperand_58 : decode cX4_readOperand 58 = .ok (.iadd, 1) := by decide +kernel
theorem dX4_readOperand_59 : decode cX4_readOperand 59 = .ok (.putfield 31, 3) := by decide +kernel
theorem dX4_readOperand_62 : decode cX4_readOperand 62 = .ok (.iconst 1, 1) := by decide +kernel
theorem dX4_readOperand_63 : decode cX4_readOperand 63 = .ok (.ireturn, 1) := by decide +kernel
theorem dX4_readOperand_64 : decode cX4_readOperand 64 = .ok (.aload_n 0, 1) := by decide +kernel
theorem dX4_readOperand_65 : decode cX4_readOperand 65 = .ok (.getfield 34, 3) := by decide +kernel
theorem dX4_readOperand_68 : decode cX4_readOperand 68 = .ok (.bipush 50, 2) := by decide +kernel
theorem dX4_readOperand_70 : decode cX4_readOperand 70 = .ok (.if_icmp .lt 5, 3) := by decide +kernel
theorem dX4_readOperand_73 : decode cX4_readOperand 73 = .ok (.iconst 0, 1) := by decide +kernel
theorem dX4_readOperand_74 : decode cX4_readOperand 74 = .ok (.ireturn, 1) := by decide +kernel
theorem dX4_readOperand_75 : decode cX4_readOperand 75 = .ok (.aload_n 0, 1) := by decide +kernel
theorem dX4_readOperand_76 : decode cX4_readOperand 76 = .ok (.dup, 1) := by decide +kernel
theorem dX4_readOperand_77 : decode cX4_readOperand 77 = .ok (.getfield 34, 3) := by decide +kernel
theorem dX4_readOperand_80 : decode cX4_readOperand 80 = .ok (.iconst 1, 1) := by decide +kernel
theorem dX4_readOperand_81 : decode cX4_readOperand 81 = .ok (.iadd, 1) := by decide +kernel
theorem dX4_readOperand_82 : decode cX4_readOperand 82 = .ok (.putfield 34, 3) := by decide +kernel
theorem dX4_readOperand_85 : decode cX4_readOperand 85 = .ok (.iload_n 2, 1) := by decide +kernel
theorem dX4_readOperand_86 : decode cX4_readOperand 86 = .ok (.ifCond .lt 32, 3) := by decide +kernel
theorem dX4_readOperand_89 : decode cX4_readOperand 89 = .ok (.iload_n 2, 1) := by decide +kernel
theorem dX4_readOperand_90 : decode cX4_readOperand 90 = .ok (.sipush 1000, 3) := by decide +kernel
theorem dX4_readOperand_93 : decode cX4_readOperand 93 = .ok (.if_icmp .gt 25, 3) := by decide +kernel
theorem dX4_readOperand_96 : decode cX4_readOperand 96 = .ok (.aload_n 0, 1) := by decide +kernel
theorem dX4_readOperand_97 : decode cX4_readOperand 97 = .ok (.dup, 1) := by decide +kernel
theorem dX4_readOperand_98 : decode cX4_readOperand 98 = .ok (.getfield 31, 3) := by decide +kernel
theorem dX4_readOperand_101 : decode cX4_readOperand 101 = .ok (.iconst 1, 1) := by decide +kernel
theorem dX4_readOperand_102 : decode cX4_readOperand 102 = .ok (.iadd, 1) := by decide +kernel
theorem dX4_readOperand_103 : decode cX4_readOperand 103 = .ok (.putfield 31, 3) := by decide +kernel
theorem dX4_readOperand_106 : decode cX4_readOperand 106 = .ok (.aload_n 0, 1) := by decide +kernel
theorem dX4_readOperand_107 : decode cX4_readOperand 107 = .ok (.getfield 16, 3) := by decide +kernel
theorem dX4_readOperand_110 : decode cX4_readOperand 110 = .ok (.iconst 0, 1) := by decide +kernel
theorem dX4_readOperand_111 : decode cX4_readOperand 111 = .ok (.iload_n 2, 1) := by decide +kernel
theorem dX4_readOperand_112 : decode cX4_readOperand 112 = .ok (.invokevirtual 122, 3) := by decide +kernel
theorem dX4_readOperand_115 : decode cX4_readOperand 115 = .ok (.pop, 1) := by decide +kernel
theorem dX4_readOperand_116 : decode cX4_readOperand 116 = .ok (.iconst 1, 1) := by decide +kernel
theorem dX4_readOperand_117 : decode cX4_readOperand 117 = .ok (.ireturn, 1) := by decide +kernel
theorem dX4_readOperand_118 : decode cX4_readOperand 118 = .ok (.aload_n 0, 1) := by decide +kernel
theorem dX4_readOperand_119 : decode cX4_readOperand 119 = .ok (.getfield 37, 3) := by decide +kernel
theorem dX4_readOperand_122 : decode cX4_readOperand 122 = .ok (.ifCond .eq 11, 3) := by decide +kernel
theorem dX4_readOperand_125 : decode cX4_readOperand 125 = .ok (.aload_n 0, 1) := by decide +kernel
theorem dX4_readOperand_126 : decode cX4_readOperand 126 = .ok (.iload_n 2, 1) := by decide +kernel
theorem dX4_readOperand_127 : decode cX4_readOperand 127 = .ok (.invokevirtual 131, 3) := by decide +kernel
theorem dX4_readOperand_130 : decode cX4_readOperand 130 = .ok (.goto 8, 3) := by decide +kernel
theorem dX4_readOperand_133 : decode cX4_readOperand 133 = .ok (.aload_n 0, 1) := by decide +kernel
theorem dX4_readOperand_134 : decode cX4_readOperand 134 = .ok (.iload_n 2, 1) := by decide +kernel
theorem dX4_readOperand_135 : decode cX4_readOperand 135 = .ok (.invokevirtual 135, 3) := by decide +kernel
theorem dX4_readOperand_138 : decode cX4_readOperand 138 = .ok (.istore_n 3, 1) := by decide +kernel
theorem dX4_readOperand_139 : decode cX4_readOperand 139 = .ok (.iload_n 3, 1) := by decide +kernel
theorem dX4_readOperand_140 : decode cX4_readOperand 140 = .ok (.iconst (-1), 1) := by decide +kernel
theorem dX4_readOperand_141 : decode cX4_readOperand 141 = .ok (.if_icmp .ne 5, 3) := by decide +kernel
theorem dX4_readOperand_144 : decode cX4_readOperand 144 = .ok (.iconst 0, 1) := by decide +kernel
theorem dX4_readOperand_145 : decode cX4_readOperand 145 = .ok (.ireturn, 1) := by decide +kernel
theorem dX4_readOperand_146 : decode cX4_readOperand 146 = .ok (.aload_n 0, 1) := by decide +kernel
theorem dX4_readOperand_147 : decode cX4_readOperand 147 = .ok (.getfield 16, 3) := by decide +kernel
theorem dX4_readOperand_150 : decode cX4_readOperand 150 = .ok (.iconst 1, 1) := by decide +kernel
theorem dX4_readOperand_151 : decode cX4_readOperand 151 = .ok (.iload_n 3, 1) := by decide +kernel
theorem dX4_readOperand_152 : decode cX4_readOperand 152 = .ok (.invokevirtual 122, 3) := by decide +kernel
theorem dX4_readOperand_155 : decode cX4_readOperand 155 = .ok (.pop, 1) := by decide +kernel
theorem dX4_readOperand_156 : decode cX4_readOperand 156 = .ok (.iconst 1, 1) := by decide +kernel
theorem dX4_readOperand_157 : decode cX4_readOperand 157 = .ok (.ireturn, 1) := by decide +kernel
theorem dX4_takeLawWord_0 : decode cX4_takeLawWord 0 = .ok (.iload_n 1, 1) := by decide +kernel
theorem dX4_takeLawWord_1 : decode cX4_takeLawWord 1 = .ok (.sipush 2008, 3) := by decide +kernel
theorem dX4_takeLawWord_4 : decode cX4_takeLawWord 4 = .ok (.isub, 1) := by decide +kernel
theorem dX4_takeLawWord_5 : decode cX4_takeLawWord 5 = .ok (.istore_n 2, 1) := by decide +kernel
theorem dX4_takeLawWord_6 : decode cX4_takeLawWord 6 = .ok (.iload_n 2, 1) := by decide +kernel
theorem dX4_takeLawWord_7 : decode cX4_takeLawWord 7 = .ok (.ifCond .lt 9, 3) := by decide +kernel
theorem dX4_takeLawWord_10 : decode cX4_takeLawWord 10 = .ok (.iload_n 2, 1) := by decide +kernel
theorem dX4_takeLawWord_11 : decode cX4_takeLawWord 11 = .ok (.bipush 10, 2) := by decide +kernel
theorem dX4_takeLawWord_13 : decode cX4_takeLawWord 13 = .ok (.if_icmp .lt 5, 3) := by decide +kernel
theorem dX4_takeLawWord_16 : decode cX4_takeLawWord 16 = .ok (.iconst (-1), 1) := by decide +kernel
theorem dX4_takeLawWord_17 : decode cX4_takeLawWord 17 = .ok (.ireturn, 1) := by decide +kernel
theorem dX4_takeLawWord_18 : decode cX4_takeLawWord 18 = .ok (.aload_n 0, 1) := by decide +kernel
theorem dX4_takeLawWord_19 : decode cX4_takeLawWord 19 = .ok (.dup, 1) := by decide +kernel
theorem dX4_takeLawWord_20 : decode cX4_takeLawWord 20 = .ok (.getfield 31, 3) := by decide +kernel
theorem dX4_takeLawWord_23 : decode cX4_takeLawWord 23 = .ok (.iconst 1, 1) := by decide +kernel
theorem dX4_takeLawWord_24 : decode cX4_takeLawWord 24 = .ok (.iadd, 1) := by decide +kernel
theorem dX4_takeLawWord_25 : decode cX4_takeLawWord 25 = .ok (.putfield 31, 3) := by decide +kernel
theorem dX4_takeLawWord_28 : decode cX4_takeLawWord 28 = .ok (.iload_n 2, 1) := by decide +kernel
theorem dX4_takeLawWord_29 : decode cX4_takeLawWord 29 = .ok (.ireturn, 1) := by decide +kernel
theorem dX4_takeOrderWord_0 : decode cX4_takeOrderWord 0 = .ok (.iload_n 1, 1) := by decide +kernel
theorem dX4_takeOrderWord_1 : decode cX4_takeOrderWord 1 = .ok (.sipush 2016, 3) := by decide +kernel
theorem dX4_takeOrderWord_4 : decode cX4_takeOrderWord 4 = .ok (.if_icmp .ne 7, 3) := by decide +kernel
theorem dX4_takeOrderWord_7 : decode cX4_takeOrderWord 7 = .ok (.iconst 0, 1) := by decide +kernel
theorem dX4_takeOrderWord_8 : decode cX4_takeOrderWord 8 = .ok (.goto 37, 3) := by decide +kernel
theorem dX4_takeOrderWord_11 : decode cX4_takeOrderWord 11 = .ok (.iload_n 1, 1) := by decide +kernel
theorem dX4_takeOrderWord_12 : decode cX4_takeOrderWord 12 = .ok (.sipush 2024, 3) := by decide +kernel
theorem dX4_takeOrderWord_15 : decode cX4_takeOrderWord 15 = .ok (.if_icmp .ne 7, 3) := by decide +kernel
theorem dX4_takeOrderWord_18 : decode cX4_takeOrderWord 18 = .ok (.iconst 1, 1) := by decide +kernel
theorem dX4_takeOrderWord_19 : decode cX4_takeOrderWord 19 = .ok (.goto 26, 3) := by decide +kernel
theorem dX4_takeOrderWord_22 : decode cX4_takeOrderWord 22 = .ok (.iload_n 1, 1) := by decide +kernel
theorem dX4_takeOrderWord_23 : decode cX4_takeOrderWord 23 = .ok (.sipush 2025, 3) := by decide +kernel
theorem dX4_takeOrderWord_26 : decode cX4_takeOrderWord 26 = .ok (.if_icmp .ne 7, 3) := by decide +kernel
theorem dX4_takeOrderWord_29 : decode cX4_takeOrderWord 29 = .ok (.iconst 2, 1) := by decide +kernel
theorem dX4_takeOrderWord_30 : decode cX4_takeOrderWord 30 = .ok (.goto 15, 3) := by decide +kernel
theorem dX4_takeOrderWord_33 : decode cX4_takeOrderWord 33 = .ok (.iload_n 1, 1) := by decide +kernel
theorem dX4_takeOrderWord_34 : decode cX4_takeOrderWord 34 = .ok (.sipush 2026, 3) := by decide +kernel
theorem dX4_takeOrderWord_37 : decode cX4_takeOrderWord 37 = .ok (.if_icmp .ne 7, 3) := by decide +kernel
theorem dX4_takeOrderWord_40 : decode cX4_takeOrderWord 40 = .ok (.iconst 3, 1) := by decide +kernel
theorem dX4_takeOrderWord_41 : decode cX4_takeOrderWord 41 = .ok (.goto 4, 3) := by decide +kernel
theorem dX4_takeOrderWord_44 : decode cX4_takeOrderWord 44 = .ok (.iconst (-1), 1) := by decide +kernel
theorem dX4_takeOrderWord_45 : decode cX4_takeOrderWord 45 = .ok (.istore_n 2, 1) := by decide +kernel
theorem dX4_takeOrderWord_46 : decode cX4_takeOrderWord 46 = .ok (.iload_n 2, 1) := by decide +kernel
theorem dX4_takeOrderWord_47 : decode cX4_takeOrderWord 47 = .ok (.iconst (-1), 1) := by decide +kernel
theorem dX4_takeOrderWord_48 : decode cX4_takeOrderWord 48 = .ok (.if_icmp .eq 15, 3) := by decide +kernel
theorem dX4_takeOrderWord_51 : decode cX4_takeOrderWord 51 = .ok (.aload_n 0, 1) := by decide +kernel
theorem dX4_takeOrderWord_52 : decode cX4_takeOrderWord 52 = .ok (.dup, 1) := by decide +kernel
theorem dX4_takeOrderWord_53 : decode cX4_takeOrderWord 53 = .ok (.getfield 31, 3) := by decide +kernel
theorem dX4_takeOrderWord_56 : decode cX4_takeOrderWord 56 = .ok (.iconst 1, 1) := by decide +kernel
theorem dX4_takeOrderWord_57 : decode cX4_takeOrderWord 57 = .ok (.iadd, 1) := by decide +kernel
theorem dX4_takeOrderWord_58 : decode cX4_takeOrderWord 58 = .ok (.putfield 31, 3) := by decide +kernel
theorem dX4_takeOrderWord_61 : decode cX4_takeOrderWord 61 = .ok (.iload_n 2, 1) := by decide +kernel
theorem dX4_takeOrderWord_62 : decode cX4_takeOrderWord 62 = .ok (.ireturn, 1) := by decide +kernel
theorem dX4_takeOrderWord_63 : decode cX4_takeOrderWord 63 = .ok (.iload_n 1, 1) := by decide +kernel
theorem dX4_takeOrderWord_64 : decode cX4_takeOrderWord 64 = .ok (.sipush 2014, 3) := by decide +kernel
theorem dX4_takeOrderWord_67 : decode cX4_takeOrderWord 67 = .ok (.if_icmp .ne 7, 3) := by decide +kernel
theorem dX4_takeOrderWord_70 : decode cX4_takeOrderWord 70 = .ok (.iconst 4, 1) := by decide +kernel
theorem dX4_takeOrderWord_71 : decode cX4_takeOrderWord 71 = .ok (.goto 28, 3) := by decide +kernel
theorem dX4_takeOrderWord_74 : decode cX4_takeOrderWord 74 = .ok (.iload_n 1, 1) := by decide +kernel
theorem dX4_takeOrderWord_75 : decode cX4_takeOrderWord 75 = .ok (.sipush 2010, 3) := by decide +kernel
theorem dX4_takeOrderWord_78 : decode cX4_takeOrderWord 78 = .ok (.if_icmp .ne 8, 3) := by decide +kernel
theorem dX4_takeOrderWord_81 : decode cX4_takeOrderWord 81 = .ok (.bipush 14, 2) := by decide +kernel
theorem dX4_takeOrderWord_83 : decode cX4_takeOrderWord 83 = .ok (.goto 16, 3) := by decide +kernel
theorem dX4_takeOrderWord_86 : decode cX4_takeOrderWord 86 = .ok (.iload_n 1, 1) := by decide +kernel
theorem dX4_takeOrderWord_87 : decode cX4_takeOrderWord 87 = .ok (.sipush 2027, 3) := by decide +kernel
theorem dX4_takeOrderWord_90 : decode cX4_takeOrderWord 90 = .ok (.if_icmp .ne 8, 3) := by decide +kernel
theorem dX4_takeOrderWord_93 : decode cX4_takeOrderWord 93 = .ok (.bipush 20, 2) := by decide +kernel
theorem dX4_takeOrderWord_95 : decode cX4_takeOrderWord 95 = .ok (.goto 4, 3) := by decide +kernel
theorem dX4_takeOrderWord_98 : decode cX4_takeOrderWord 98 = .ok (.iconst (-1), 1) := by decide +kernel
theorem dX4_takeOrderWord_99 : decode cX4_takeOrderWord 99 = .ok (.istore_n 3, 1) := by decide +kernel
theorem dX4_takeOrderWord_100 : decode cX4_takeOrderWord 100 = .ok (.iload_n 3, 1) := by decide +kernel
theorem dX4_takeOrderWord_101 : decode cX4_takeOrderWord 101 = .ok (.iconst (-1), 1) := by decide +kernel
theorem dX4_takeOrderWord_102 : decode cX4_takeOrderWord 102 = .ok (.if_icmp .ne 5, 3) := by decide +kernel
theorem dX4_takeOrderWord_105 : decode cX4_takeOrderWord 105 = .ok (.iconst (-1), 1) := by decide +kernel
theorem dX4_takeOrderWord_106 : decode cX4_takeOrderWord 106 = .ok (.ireturn, 1) := by decide +kernel
theorem dX4_takeOrderWord_107 : decode cX4_takeOrderWord 107 = .ok (.aload_n 0, 1) := by decide +kernel
theorem dX4_takeOrderWord_108 : decode cX4_takeOrderWord 108 = .ok (.dup, 1) := by decide +kernel
theorem dX4_takeOrderWord_109 : decode cX4_takeOrderWord 109 = .ok (.getfield 31, 3) := by decide +kernel
theorem dX4_takeOrderWord_112 : decode cX4_takeOrderWord 112 = .ok (.iconst 1, 1) := by decide +kernel
theorem dX4_takeOrderWord_113 : decode cX4_takeOrderWord 113 = .ok (.iadd, 1) := by decide +kernel
theorem dX4_takeOrderWord_114 : decode cX4_takeOrderWord 114 = .ok (.putfield 31, 3) := by decide +kernel
theorem dX4_takeOrderWord_117 : decode cX4_takeOrderWord 117 = .ok (.aload_n 0, 1) := by decide +kernel
theorem dX4_takeOrderWord_118 : decode cX4_takeOrderWord 118 = .ok (.invokevirtual 65, 3) := by decide +kernel
theorem dX4_takeOrderWord_121 : decode cX4_takeOrderWord 121 = .ok (.istore 4, 2) := by decide +kernel
theorem dX4_takeOrderWord_123 : decode cX4_takeOrderWord 123 = .ok (.iload 4, 2) := by decide +kernel
theorem dX4_takeOrderWord_125 : decode cX4_takeOrderWord 125 = .ok (.ifCond .lt 20, 3) := by decide +kernel
theorem dX4_takeOrderWord_128 : decode cX4_takeOrderWord 128 = .ok (.iload 4, 2) := by decide +kernel
theorem dX4_takeOrderWord_130 : decode cX4_takeOrderWord 130 = .ok (.iload_n 3, 1) := by decide +kernel
theorem dX4_takeOrderWord_131 : decode cX4_takeOrderWord 131 = .ok (.iconst 4, 1) := by decide +kernel
theorem dX4_takeOrderWord_132 : decode cX4_takeOrderWord 132 = .ok (.if_icmp .ne 8, 3) := by decide +kernel
theorem dX4_takeOrderWord_135 : decode cX4_takeOrderWord 135 = .ok (.bipush 10, 2) := by decide +kernel
theorem dX4_takeOrderWord_137 : decode cX4_takeOrderWord 137 = .ok (.goto 5, 3) := by decide +kernel
theorem dX4_takeOrderWord_140 : decode cX4_takeOrderWord 140 = .ok (.bipush 6, 2) := by decide +kernel
theorem dX4_takeOrderWord_142 : decode cX4_takeOrderWord 142 = .ok (.if_icmp .lt 5, 3) := by decide +kernel
theorem dX4_takeOrderWord_145 : decode cX4_takeOrderWord 145 = .ok (.iconst (-1), 1) := by decide +kernel
theorem dX4_takeOrderWord_146 : decode cX4_takeOrderWord 146 = .ok (.ireturn, 1) := by decide +kernel
theorem dX4_takeOrderWord_147 : decode cX4_takeOrderWord 147 = .ok (.aload_n 0, 1) := by decide +kernel
theorem dX4_takeOrderWord_148 : decode cX4_takeOrderWord 148 = .ok (.dup, 1) := by decide +kernel
theorem dX4_takeOrderWord_149 : decode cX4_takeOrderWord 149 = .ok (.getfield 31, 3) := by decide +kernel
theorem dX4_takeOrderWord_152 : decode cX4_takeOrderWord 152 = .ok (.iconst 1, 1) := by decide +kernel
theorem dX4_takeOrderWord_153 : decode cX4_takeOrderWord 153 = .ok (.iadd, 1) := by decide +kernel
theorem dX4_takeOrderWord_154 : decode cX4_takeOrderWord 154 = .ok (.putfield 31, 3) := by decide +kernel
theorem dX4_takeOrderWord_157 : decode cX4_takeOrderWord 157 = .ok (.iload_n 3, 1) := by decide +kernel
theorem dX4_takeOrderWord_158 : decode cX4_takeOrderWord 158 = .ok (.iload 4, 2) := by decide +kernel
theorem dX4_takeOrderWord_160 : decode cX4_takeOrderWord 160 = .ok (.iadd, 1) := by decide +kernel
theorem dX4_takeOrderWord_161 : decode cX4_takeOrderWord 161 = .ok (.ireturn, 1) := by decide +kernel
theorem dX10_clear_0 : decode cX10_clear 0 = .ok (.aload_n 0, 1) := by decide +kernel
theorem dX10_clear_1 : decode cX10_clear 1 = .ok (.iconst 0, 1) := by decide +kernel
theorem dX10_clear_2 : decode cX10_clear 2 = .ok (.putfield 9, 3) := by decide +kernel
theorem dX10_clear_5 : decode cX10_clear 5 = .ok (.aload_n 0, 1) := by decide +kernel
theorem dX10_clear_6 : decode cX10_clear 6 = .ok (.iconst 0, 1) := by decide +kernel
theorem dX10_clear_7 : decode cX10_clear 7 = .ok (.putfield 25, 3) := by decide +kernel
theorem dX10_clear_10 : decode cX10_clear 10 = .ok (.aload_n 0, 1) := by decide +kernel
theorem dX10_clear_11 : decode cX10_clear 11 = .ok (.getfield 22, 3) := by decide +kernel
theorem dX10_clear_14 : decode cX10_clear 14 = .ok (.iconst 0, 1) := by decide +kernel
theorem dX10_clear_15 : decode cX10_clear 15 = .ok (.invokestatic 46, 3) := by decide +kernel
theorem dX10_clear_18 : decode cX10_clear 18 = .ok (.return_, 1) := by decide +kernel
theorem dX10_open_0 : decode cX10_open 0 = .ok (.aload_n 0, 1) := by decide +kernel
theorem dX10_open_1 : decode cX10_open 1 = .ok (.getfield 9, 3) := by decide +kernel
theorem dX10_open_4 : decode cX10_open 4 = .ok (.ifCond .lt 12, 3) := by decide +kernel
theorem dX10_open_7 : decode cX10_open 7 = .ok (.aload_n 0, 1) := by decide +kernel
theorem dX10_open_8 : decode cX10_open 8 = .ok (.getfield 9, 3) := by decide +kernel
theorem dX10_open_11 : decode cX10_open 11 = .ok (.bipush 12, 2) := by decide +kernel
theorem dX10_open_13 : decode cX10_open 13 = .ok (.if_icmp .lt 5, 3) := by decide +kernel
theorem dX10_open_16 : decode cX10_open 16 = .ok (.iconst 0, 1) := by decide +kernel
theorem dX10_open_17 : decode cX10_open 17 = .ok (.ireturn, 1) := by decide +kernel
theorem dX10_open_18 : decode cX10_open 18 = .ok (.aload_n 0, 1) := by decide +kernel
theorem dX10_open_19 : decode cX10_open 19 = .ok (.getfield 15, 3) := by decide +kernel
theorem dX10_open_22 : decode cX10_open 22 = .ok (.aload_n 0, 1) := by decide +kernel
theorem dX10_open_23 : decode cX10_open 23 = .ok (.getfield 9, 3) := by decide +kernel
theorem dX10_open_26 : decode cX10_open 26 = .ok (.iload_n 1, 1) := by decide +kernel
theorem dX10_open_27 : decode cX10_open 27 = .ok (.iastore, 1) := by decide +kernel
theorem dX10_open_28 : decode cX10_open 28 = .ok (.aload_n 0, 1) := by decide +kernel
theorem dX10_open_29 : decode cX10_open 29 = .ok (.getfield 19, 3) := by decide +kernel
theorem dX10_open_32 : decode cX10_open 32 = .ok (.aload_n 0, 1) := by decide +kernel
theorem dX10_open_33 : decode cX10_open 33 = .ok (.getfield 9, 3) := by decide +kernel
theorem dX10_open_36 : decode cX10_open 36 = .ok (.iconst 1, 1) := by decide +kernel
theorem dX10_open_37 : decode cX10_open 37 = .ok (.iastore, 1) := by decide +kernel
theorem dX10_open_38 : decode cX10_open 38 = .ok (.aload_n 0, 1) := by decide +kernel
theorem dX10_open_39 : decode cX10_open 39 = .ok (.dup, 1) := by decide +kernel
theorem dX10_open_40 : decode cX10_open 40 = .ok (.getfield 9, 3) := by decide +kernel
theorem dX10_open_43 : decode cX10_open 43 = .ok (.iconst 1, 1) := by decide +kernel
theorem dX10_open_44 : decode cX10_open 44 = .ok (.iadd, 1) := by decide +kernel
theorem dX10_open_45 : decode cX10_open 45 = .ok (.putfield 9, 3) := by decide +kernel
theorem dX10_open_48 : decode cX10_open 48 = .ok (.iconst 1, 1) := by decide +kernel
theorem dX10_open_49 : decode cX10_open 49 = .ok (.ireturn, 1) := by decide +kernel
theorem dX10_repeat_0 : decode cX10_repeat 0 = .ok (.aload_n 0, 1) := by decide +kernel
theorem dX10_repeat_1 : decode cX10_repeat 1 = .ok (.getfield 9, 3) := by decide +kernel
theorem dX10_repeat_4 : decode cX10_repeat 4 = .ok (.ifCond .le 24, 3) := by decide +kernel
theorem dX10_repeat_7 : decode cX10_repeat 7 = .ok (.aload_n 0, 1) := by decide +kernel
theorem dX10_repeat_8 : decode cX10_repeat 8 = .ok (.getfield 9, 3) := by decide +kernel
theorem dX10_repeat_11 : decode cX10_repeat 11 = .ok (.bipush 12, 2) := by decide +kernel
theorem dX10_repeat_13 : decode cX10_repeat 13 = .ok (.if_icmp .gt 15, 3) := by decide +kernel
theorem dX10_repeat_16 : decode cX10_repeat 16 = .ok (.aload_n 0, 1) := by decide +kernel
theorem dX10_repeat_17 : decode cX10_repeat 17 = .ok (.getfield 19, 3) := by decide +kernel
theorem dX10_repeat_20 : decode cX10_repeat 20 = .ok (.aload_n 0, 1) := by decide +kernel
theorem dX10_repeat_21 : decode cX10_repeat 21 = .ok (.getfield 9, 3) := by decide +kernel
theorem dX10_repeat_24 : decode cX10_repeat 24 = .ok (.iconst 1, 1) := by decide +kernel
theorem dX10_repeat_25 : decode cX10_repeat 25 = .ok (.isub, 1) := by decide +kernel
theorem dX10_repeat_26 : decode cX10_repeat 26 = .ok (.iload_n 1, 1) := by decide +kernel
theorem dX10_repeat_27 : decode cX10_repeat 27 = .ok (.iastore, 1) := by decide +kernel
theorem dX10_repeat_28 : decode cX10_repeat 28 = .ok (.return_, 1) := by decide +kernel
theorem dX10_close_0 : decode cX10_close 0 = .ok (.aload_n 0, 1) := by decide +kernel
theorem dX10_close_1 : decode cX10_close 1 = .ok (.getfield 9, 3) := by decide +kernel
theorem dX10_close_4 : decode cX10_close 4 = .ok (.iconst 1, 1) := by decide +kernel
theorem dX10_close_5 : decode cX10_close 5 = .ok (.isub, 1) := by decide +kernel
theorem dX10_close_6 : decode cX10_close 6 = .ok (.iconst 3, 1) := by decide +kernel
theorem dX10_close_7 : decode cX10_close 7 = .ok (.imul, 1) := by decide +kernel
theorem dX10_close_8 : decode cX10_close 8 = .ok (.iload_n 1, 1) := by decide +kernel
theorem dX10_close_9 : decode cX10_close 9 = .ok (.iadd, 1) := by decide +kernel
theorem dX10_close_10 : decode cX10_close 10 = .ok (.iconst 1, 1) := by decide +kernel
theorem dX10_close_11 : decode cX10_close 11 = .ok (.iadd, 1) := by decide +kernel
theorem dX10_close_12 : decode cX10_close 12 = .ok (.istore_n 2, 1) := by decide +kernel
theorem dX10_close_13 : decode cX10_close 13 = .ok (.iload_n 2, 1) := by decide +kernel
theorem dX10_close_14 : decode cX10_close 14 = .ok (.ifCond .le 22, 3) := by decide +kernel
theorem dX10_close_17 : decode cX10_close 17 = .ok (.iload_n 2, 1) := by decide +kernel
theorem dX10_close_18 : decode cX10_close 18 = .ok (.aload_n 0, 1) := by decide +kernel
theorem dX10_close_19 : decode cX10_close 19 = .ok (.getfield 22, 3) := by decide +kernel
theorem dX10_close_22 : decode cX10_close 22 = .ok (.arraylength, 1) := by decide +kernel
theorem dX10_close_23 : decode cX10_close 23 = .ok (.if_icmp .ge 13, 3) := by decide +kernel
theorem dX10_close_26 : decode cX10_close 26 = .ok (.aload_n 0, 1) := by decide +kernel
theorem dX10_close_27 : decode cX10_close 27 = .ok (.getfield 22, 3) := by decide +kernel
theorem dX10_close_30 : decode cX10_close 30 = .ok (.iload_n 2, 1) := by decide +kernel
theorem dX10_close_31 : decode cX10_close 31 = .ok (.aload_n 0, 1) := by decide +kernel
theorem dX10_close_32 : decode cX10_close 32 = .ok (.getfield 25, 3) := by decide +kernel
theorem dX10_close_35 : decode cX10_close 35 = .ok (.iastore, 1) := by decide +kernel
theorem dX10_close_36 : decode cX10_close 36 = .ok (.return_, 1) := by decide +kernel
theorem dX10_emit_0 : decode cX10_emit 0 = .ok (.aload_n 0, 1) := by decide +kernel
theorem dX10_emit_1 : decode cX10_emit 1 = .ok (.getfield 25, 3) := by decide +kernel
theorem dX10_emit_4 : decode cX10_emit 4 = .ok (.ifCond .lt 15, 3) := by decide +kernel
theorem dX10_emit_7 : decode cX10_emit 7 = .ok (.aload_n 0, 1) := by decide +kernel
theorem dX10_emit_8 : decode cX10_emit 8 = .ok (.getfield 25, 3) := by decide +kernel
theorem dX10_emit_11 : decode cX10_emit 11 = .ok (.aload_n 0, 1) := by decide +kernel
theorem dX10_emit_12 : decode cX10_emit 12 = .ok (.getfield 34, 3) := by decide +kernel
theorem dX10_emit_15 : decode cX10_emit 15 = .ok (.arraylength, 1) := by decide +kernel
theorem dX10_emit_16 : decode cX10_emit 16 = .ok (.if_icmp .lt 5, 3) := by decide +kernel
theorem dX10_emit_19 : decode cX10_emit 19 = .ok (.iconst (-1), 1) := by decide +kernel
theorem dX10_emit_20 : decode cX10_emit 20 = .ok (.ireturn, 1) := by decide +kernel
theorem dX10_emit_21 : decode cX10_emit 21 = .ok (.aload_n 0, 1) := by decide +kernel
theorem dX10_emit_22 : decode cX10_emit 22 = .ok (.getfield 34, 3) := by decide +kernel
theorem dX10_emit_25 : decode cX10_emit 25 = .ok (.aload_n 0, 1) := by decide +kernel
theorem dX10_emit_26 : decode cX10_emit 26 = .ok (.getfield 25, 3) := by decide +kernel
theorem dX10_emit_29 : decode cX10_emit 29 = .ok (.iload_n 1, 1) := by decide +kernel
theorem dX10_emit_30 : decode cX10_emit 30 = .ok (.bipush 12, 2) := by decide +kernel
theorem dX10_emit_32 : decode cX10_emit 32 = .ok (.ishl, 1) := by decide +kernel
theorem dX10_emit_33 : decode cX10_emit 33 = .ok (.iload_n 2, 1) := by decide +kernel
theorem dX10_emit_34 : decode cX10_emit 34 = .ok (.sipush 4095, 3) := by decide +kernel
theorem dX10_emit_37 : decode cX10_emit 37 = .ok (.iand, 1) := by decide +kernel
theorem dX10_emit_38 : decode cX10_emit 38 = .ok (.ior, 1) := by decide +kernel
theorem dX10_emit_39 : decode cX10_emit 39 = .ok (.iastore, 1) := by decide +kernel
theorem dX10_emit_40 : decode cX10_emit 40 = .ok (.aload_n 0, 1) := by decide +kernel
theorem dX10_emit_41 : decode cX10_emit 41 = .ok (.dup, 1) := by decide +kernel
theorem dX10_emit_42 : decode cX10_emit 42 = .ok (.getfield 25, 3) := by decide +kernel
theorem dX10_emit_45 : decode cX10_emit 45 = .ok (.iconst 1, 1) := by decide +kernel
theorem dX10_emit_46 : decode cX10_emit 46 = .ok (.iadd, 1) := by decide +kernel
theorem dX10_emit_47 : decode cX10_emit 47 = .ok (.putfield 25, 3) := by decide +kernel
theorem dX10_emit_50 : decode cX10_emit 50 = .ok (.aload_n 0, 1) := by decide +kernel
theorem dX10_emit_51 : decode cX10_emit 51 = .ok (.getfield 25, 3) := by decide +kernel
theorem dX10_emit_54 : decode cX10_emit 54 = .ok (.iconst 1, 1) := by decide +kernel
theorem dX10_emit_55 : decode cX10_emit 55 = .ok (.isub, 1) := by decide +kernel
theorem dX10_emit_56 : decode cX10_emit 56 = .ok (.ireturn, 1) := by decide +kernel
theorem dX10_land_0 : decode cX10_land 0 = .ok (.iload_n 1, 1) := by decide +kernel
theorem dX10_land_1 : decode cX10_land 1 = .ok (.ifCond .lt 45, 3) := by decide +kernel
theorem dX10_land_4 : decode cX10_land 4 = .ok (.iload_n 1, 1) := by decide +kernel
theorem dX10_land_5 : decode cX10_land 5 = .ok (.aload_n 0, 1) := by decide +kernel
theorem dX10_land_6 : decode cX10_land 6 = .ok (.getfield 25, 3) := by decide +kernel
theorem dX10_land_9 : decode cX10_land 9 = .ok (.if_icmp .ge 37, 3) := by decide +kernel
theorem dX10_land_12 : decode cX10_land 12 = .ok (.iload_n 1, 1) := by decide +kernel
theorem dX10_land_13 : decode cX10_land 13 = .ok (.aload_n 0, 1) := by decide +kernel
theorem dX10_land_14 : decode cX10_land 14 = .ok (.getfield 34, 3) := by decide +kernel
theorem dX10_land_17 : decode cX10_land 17 = .ok (.arraylength, 1) := by decide +kernel
theorem dX10_land_18 : decode cX10_land 18 = .ok (.if_icmp .ge 28, 3) := by decide +kernel
theorem dX10_land_21 : decode cX10_land 21 = .ok (.aload_n 0, 1) := by decide +kernel
theorem dX10_land_22 : decode cX10_land 22 = .ok (.getfield 34, 3) := by decide +kernel
theorem dX10_land_25 : decode cX10_land 25 = .ok (.iload_n 1, 1) := by decide +kernel
theorem dX10_land_26 : decode cX10_land 26 = .ok (.aload_n 0, 1) := by decide +kernel
theorem dX10_land_27 : decode cX10_land 27 = .ok (.getfield 34, 3) := by decide +kernel
theorem dX10_land_30 : decode cX10_land 30 = .ok (.iload_n 1, 1) := by decide +kernel
theorem dX10_land_31 : decode cX10_land 31 = .ok (.iaload, 1) := by decide +kernel
theorem dX10_land_32 : decode cX10_land 32 = .ok (.sipush (-4096), 3) := by decide +kernel
theorem dX10_land_35 : decode cX10_land 35 = .ok (.iand, 1) := by decide +kernel
theorem dX10_land_36 : decode cX10_land 36 = .ok (.aload_n 0, 1) := by decide +kernel
theorem dX10_land_37 : decode cX10_land 37 = .ok (.getfield 25, 3) := by decide +kernel
theorem dX10_land_40 : decode cX10_land 40 = .ok (.sipush 4095, 3) := by decide +kernel
theorem dX10_land_43 : decode cX10_land 43 = .ok (.iand, 1) := by decide +kernel
theorem dX10_land_44 : decode cX10_land 44 = .ok (.ior, 1) := by decide +kernel
theorem dX10_land_45 : decode cX10_land 45 = .ok (.iastore, 1) := by decide +kernel
theorem dX10_land_46 : decode cX10_land 46 = .ok (.return_, 1) := by decide +kernel
theorem wt3_231 : Cond.methodLink RX10 46 yJ7_fill_53178 ∈ kG := kt3 231 rfl rfl
theorem wt4_5 : Cond.code yX10_open cX10_open 2 (some .boolean) ∈ kG := kt4 5 rfl rfl
theorem wt4_41 : Cond.code yX10_repeat cX10_repeat 2 none ∈ kG := kt4 41 rfl rfl
theorem wt4_33 : Cond.code yX10_close cX10_close 3 none ∈ kG := kt4 33 rfl rfl
theorem wt4_17 : Cond.code yX10_emit cX10_emit 3 (some .int) ∈ kG := kt4 17 rfl rfl
theorem wt4_61 : Cond.code yX10_land cX10_land 2 none ∈ kG := kt4 61 rfl rfl
theorem wt4_1 : Cond.code yX4_inHand cX4_inHand 1 (some .int) ∈ kG := kt4 1 rfl rfl
theorem wt4_14 : Cond.methodLink RX4 122 yX10_emit ∈ kG := kt4 14 rfl rfl
theorem wt4_15 : Cond.instanceMethod yX10_emit ∈ kG := kt4 15 rfl rfl
theorem wt4_16 : Cond.selects RX10 yX10_emit yX10_emit ∈ kG := kt4 16 rfl rfl
theorem wt4_29 : Cond.code yX4_emitIfAny cX4_emitIfAny 2 none ∈ kG := kt4 29 rfl rfl
theorem wt4_25 : Cond.code yX4_takeLawWord cX4_takeLawWord 3 (some .int) ∈ kG := kt4 25 rfl rfl
theorem wt3_238 : Cond.methodLink RX4 65 yX4_inHand ∈ kG := kt3 238 rfl rfl
theorem wt4_0 : Cond.instanceMethod yX4_inHand ∈ kG := kt4 0 rfl rfl
theorem wp1_12 : Cond.selects RX4 yX4_inHand yX4_inHand ∈ kG := kp1 12 rfl rfl
theorem wt4_21 : Cond.code yX4_takeOrderWord cX4_takeOrderWord 5 (some .int) ∈ kG := kt4 21 rfl rfl
theorem wt4_38 : Cond.methodLink RX4 113 yX10_repeat ∈ kG := kt4 38 rfl rfl
theorem wt4_39 : Cond.instanceMethod yX10_repeat ∈ kG := kt4 39 rfl rfl
theorem wt4_40 : Cond.selects RX10 yX10_repeat yX10_repeat ∈ kG := kt4 40 rfl rfl
theorem wt4_37 : Cond.code yX4_readTimes cX4_readTimes 2 (some .boolean) ∈ kG := kt4 37 rfl rfl
theorem wt4_9 : Cond.code yX4_readSum cX4_readSum 6 (some .boolean) ∈ kG := kt4 9 rfl rfl
theorem wt4_13 : Cond.code yX4_readOperand cX4_readOperand 4 (some .boolean) ∈ kG := kt4 13 rfl rfl
theorem wt4_53 : Cond.code yX4_readTest cX4_readTest 6 (some .boolean) ∈ kG := kt4 53 rfl rfl
theorem wt4_57 : Cond.code yX4_readPlain cX4_readPlain 4 (some .boolean) ∈ kG := kt4 57 rfl rfl
theorem wt4_22 : Cond.methodLink RX4 135 yX4_takeLawWord ∈ kG := kt4 22 rfl rfl
theorem wt4_24 : Cond.instanceMethod yX4_takeLawWord ∈ kG := kt4 24 rfl rfl
theorem wp2_0 : Cond.selects RX4 yX4_takeLawWord yX4_takeLawWord ∈ kG := kp2 0 rfl rfl
theorem wt4_18 : Cond.methodLink RX4 131 yX4_takeOrderWord ∈ kG := kt4 18 rfl rfl
theorem wt4_20 : Cond.instanceMethod yX4_takeOrderWord ∈ kG := kt4 20 rfl rfl
theorem wp1_15 : Cond.selects RX4 yX4_takeOrderWord yX4_takeOrderWord ∈ kG := kp1 15 rfl rfl
theorem wt4_6 : Cond.methodLink RX4 107 yX4_readSum ∈ kG := kt4 6 rfl rfl
theorem wt4_8 : Cond.instanceMethod yX4_readSum ∈ kG := kt4 8 rfl rfl
theorem wp1_13 : Cond.selects RX4 yX4_readSum yX4_readSum ∈ kG := kp1 13 rfl rfl
theorem wt4_10 : Cond.methodLink RX4 128 yX4_readOperand ∈ kG := kt4 10 rfl rfl
theorem wt4_12 : Cond.instanceMethod yX4_readOperand ∈ kG := kt4 12 rfl rfl
theorem wp1_14 : Cond.selects RX4 yX4_readOperand yX4_readOperand ∈ kG := kp1 14 rfl rfl
theorem wt4_26 : Cond.methodLink RX4 125 yX4_emitIfAny ∈ kG := kt4 26 rfl rfl
theorem wt4_28 : Cond.instanceMethod yX4_emitIfAny ∈ kG := kt4 28 rfl rfl
theorem wp2_1 : Cond.selects RX4 yX4_emitIfAny yX4_emitIfAny ∈ kG := kp2 1 rfl rfl
theorem wt4_50 : Cond.methodLink RX4 68 yX4_readTest ∈ kG := kt4 50 rfl rfl
theorem wt4_52 : Cond.instanceMethod yX4_readTest ∈ kG := kt4 52 rfl rfl
theorem wp2_5 : Cond.selects RX4 yX4_readTest yX4_readTest ∈ kG := kp2 5 rfl rfl
theorem wt4_54 : Cond.methodLink RX4 116 yX4_readPlain ∈ kG := kt4 54 rfl rfl
theorem wt4_56 : Cond.instanceMethod yX4_readPlain ∈ kG := kt4 56 rfl rfl
theorem wp2_6 : Cond.selects RX4 yX4_readPlain yX4_readPlain ∈ kG := kp2 6 rfl rfl
theorem wt4_58 : Cond.methodLink RX4 119 yX10_land ∈ kG := kt4 58 rfl rfl
theorem wt4_59 : Cond.instanceMethod yX10_land ∈ kG := kt4 59 rfl rfl
theorem wt4_60 : Cond.selects RX10 yX10_land yX10_land ∈ kG := kt4 60 rfl rfl
theorem wt4_2 : Cond.methodLink RX4 104 yX10_open ∈ kG := kt4 2 rfl rfl
theorem wt4_3 : Cond.instanceMethod yX10_open ∈ kG := kt4 3 rfl rfl
theorem wt4_4 : Cond.selects RX10 yX10_open yX10_open ∈ kG := kt4 4 rfl rfl
theorem wt4_30 : Cond.methodLink RX4 72 yX10_close ∈ kG := kt4 30 rfl rfl
theorem wt4_31 : Cond.instanceMethod yX10_close ∈ kG := kt4 31 rfl rfl
theorem wt4_32 : Cond.selects RX10 yX10_close yX10_close ∈ kG := kt4 32 rfl rfl
theorem wt4_34 : Cond.methodLink RX4 110 yX4_readTimes ∈ kG := kt4 34 rfl rfl
theorem wt4_36 : Cond.instanceMethod yX4_readTimes ∈ kG := kt4 36 rfl rfl
theorem wp2_2 : Cond.selects RX4 yX4_readTimes yX4_readTimes ∈ kG := kp2 2 rfl rfl
theorem kc_1001 : kb 1001 1001 1001 := ⟨by decide +kernel, by decide +kernel⟩
theorem kc_2000 : kb 2000 2000 2000 := ⟨by decide +kernel, by decide +kernel⟩
theorem kc_2001 : kb 2001 2001 2001 := ⟨by decide +kernel, by decide +kernel⟩
theorem kc_2002 : kb 2002 2002 2002 := ⟨by decide +kernel, by decide +kernel⟩
theorem kc_2010 : kb 2010 2010 2010 := ⟨by decide +kernel, by decide +kernel⟩
theorem kc_2014 : kb 2014 2014 2014 := ⟨by decide +kernel, by decide +kernel⟩
theorem kc_2016 : kb 2016 2016 2016 := ⟨by decide +kernel, by decide +kernel⟩
theorem kc_2022 : kb 2022 2022 2022 := ⟨by decide +kernel, by decide +kernel⟩
theorem kc_2023 : kb 2023 2023 2023 := ⟨by decide +kernel, by decide +kernel⟩
theorem kc_2024 : kb 2024 2024 2024 := ⟨by decide +kernel, by decide +kernel⟩
theorem kc_2025 : kb 2025 2025 2025 := ⟨by decide +kernel, by decide +kernel⟩
theorem kc_2026 : kb 2026 2026 2026 := ⟨by decide +kernel, by decide +kernel⟩
theorem kc_2027 : kb 2027 2027 2027 := ⟨by decide +kernel, by decide +kernel⟩
theorem kc_3037 : kb 3037 3037 3037 := ⟨by decide +kernel, by decide +kernel⟩
theorem kc_3040 : kb 3040 3040 3040 := ⟨by decide +kernel, by decide +kernel⟩
theorem kc_3041 : kb 3041 3041 3041 := ⟨by decide +kernel, by decide +kernel⟩
theorem kc_3042 : kb 3042 3042 3042 := ⟨by decide +kernel, by decide +kernel⟩
theorem kc_3043 : kb 3043 3043 3043 := ⟨by decide +kernel, by decide +kernel⟩
theorem kc_3045 : kb 3045 3045 3045 := ⟨by decide +kernel, by decide +kernel⟩
theorem kc_3047 : kb 3047 3047 3047 := ⟨by decide +kernel, by decide +kernel⟩
theorem kc_3060 : kb 3060 3060 3060 := ⟨by decide +kernel, by decide +kernel⟩
theorem kc_3061 : kb 3061 3061 3061 := ⟨by decide +kernel, by decide +kernel⟩
theorem kc_3062 : kb 3062 3062 3062 := ⟨by decide +kernel, by decide +kernel⟩
theorem kc_3091 : kb 3091 3091 3091 := ⟨by decide +kernel, by decide +kernel⟩
theorem kc_3093 : kb 3093 3093 3093 := ⟨by decide +kernel, by decide +kernel⟩
theorem kc_4000 : kb 4000 4000 4000 := ⟨by decide +kernel, by decide +kernel⟩
theorem kc_401 : kb 401 401 401 := ⟨by decide +kernel, by decide +kernel⟩
set_option maxHeartbeats 4000000 in
set_option maxRecDepth 100000 in
theorem x_10_clear  (l : Launch) {D : va_G} {K : Nat → ClassId} (r : Nat → Nat) (f : Nat → Int32) (a : Nat → Nat → Int32) (g : xG) (tx tt : va_W) (hT : ∀ c ∈ tt, c ∈ tx) (hI : xI f a) (hG : gOK K g.2 tt)     : kVG l yX10_clear (Cond.code yX10_clear cX10_clear 1 none :: kG) (rmD 2 0 0) D K [.ref (r 51)] (xX K r f a g tx) (fun (u : xS) => xI u.1 u.2.1 ∧ gOK K u.2.2.2 tt ∧ xEk [12, 14, 32, 38, 44, 49, 832, 838, 844] f a g u.1 u.2.1 u.2.2) (fun u => xX K r u.1 u.2.1 u.2.2 tx) 0 0 := by
  refine kVG.of (cc := cX10_clear) (maxL := 1) (ret := none) (by decide) rfl (Nat.le_of_ble_eq_true rfl) ?_
  intro p e s m below meth c A hx hb hr hml hown hts hlocks hnm hK hP hD hS hA hV ls hl
  have hE : xEk [12, 14, 32, 38, 44, 49, 832, 838, 844] f a g f a g := xEk_rf
  have hg : ∀ w ∈ kG, w.before _ s = true := fun w h => hts w (List.mem_cons_of_mem _ h)
  have hown : s.vm.findClass RX10 = some m.cls := hown
  have hl : lv_has ls 1 [(0, .ref (r 51))] := hl
  refine lv_aload_n hx hb dX10_clear_0 rfl (lv_at hl 0 rfl) ?_
  refine lv_iconst (v := 0) hx hb dX10_clear_1 (by decide) ?_
  refine va_put (D := D) (ci := 10) (v := .int 0) (ty := .int) (C := RX10) (T := TX10) (N := 6) hx hb hg inC10 tyX10 tyX10_ok nmX10 hown hK hP hD hS 51 rfl rfl 0 (by decide) (hg _ wt2_40) (fun _ h9 => h9) rfl (by decide +kernel) rfl rfl (Nat.le_of_ble_eq_true rfl) dX10_clear_2 (fun H locs hP hD hS => ?_)
  have hP : va_P D vwCl (xX K r (upd f 1632 0) a g tx) H := hP
  have hD : va_D A (xX K r (upd f 1632 0) a g tx) := hD
  refine k_gen (P := fun z => va_P D vwCl (xX K r z a g tx) H ∧ va_D A (xX K r z a g tx) ∧ (xI z a) ∧ (gOK K g.2 tt) ∧ (xEk [12, 14, 32, 38, 44, 49, 832, 838, 844] f a g z a g)) (upd f 1632 0) ⟨hP, hD, (xI_f hI (fI_st hI.1 1632 kc_0 (by decide) (by decide))), hG, (xEk_f hE (by decide))⟩ (fun f_1 ef_1 hq => ?_)
  obtain ⟨hP, hD, hI, hG, hE⟩ := hq
  refine lv_aload_n hx hb dX10_clear_5 rfl (lv_at hl 0 rfl) ?_
  refine lv_iconst (v := 0) hx hb dX10_clear_6 (by decide) ?_
  refine va_put (D := D) (ci := 10) (v := .int 0) (ty := .int) (C := RX10) (T := TX10) (N := 6) hx hb hg inC10 tyX10 tyX10_ok nmX10 hown hK hP hD hS 51 rfl rfl 5 (by decide) (hg _ wt2_50) (fun _ h9 => h9) rfl (by decide +kernel) rfl rfl (Nat.le_of_ble_eq_true rfl) dX10_clear_7 (fun H locs hP hD hS => ?_)
  have hP : va_P D vwCl (xX K r (upd f_1 1637 0) a g tx) H := hP
  have hD : va_D A (xX K r (upd f_1 1637 0) a g tx) := hD
  refine k_gen (P := fun z => va_P D vwCl (xX K r z a g tx) H ∧ va_D A (xX K r z a g tx) ∧ (xI z a) ∧ (gOK K g.2 tt) ∧ (xEk [12, 14, 32, 38, 44, 49, 832, 838, 844] f a g z a g)) (upd f_1 1637 0) ⟨hP, hD, (xI_f hI (fI_st hI.1 1637 kc_0 (by decide) (by decide))), hG, (xEk_f hE (by decide))⟩ (fun f_2 ef_2 hq => ?_)
  obtain ⟨hP, hD, hI, hG, hE⟩ := hq
  refine lv_aload_n hx hb dX10_clear_10 rfl (lv_at hl 0 rfl) ?_
  refine va_get (D := D) (ci := 10) (v := .ref (r 54)) (C := RX10) (T := TX10) (N := 6) hx hb hg inC10 hown hK hP 51 rfl rfl 3 (by decide) (hg _ wt2_48) (fun _ h9 => h9) rfl dX10_clear_11 ?_
  refine lv_iconst (v := 0) hx hb dX10_clear_14 (by decide) ?_
  refine kV.callA (q0 := 54) (As := [.ref (r 54), .int 0]) (rest := []) ⟨hx, hb, hml, hown, hg⟩ (x_fill l (r 54) 37 (a 54) 0 (by decide)) (va_cwS 2 hg (kgS wt3_231 wt3_232 wt1_19 wt3_233) rfl rfl rfl (by decide +kernel) ⟨by decide, by decide⟩) hK hP hD hS hA rfl rfl hl.1 rfl (Nat.le_of_ble_eq_true rfl) dX10_clear_15 ⟨by decide, by decide⟩ (fun u3 H locs hw4 hP hD hS => ?_)
  have hP : va_P D vwCl (xX K r f_2 (va_up a 54 u3) g tx) H := hP
  have hD : va_D A (xX K r f_2 (va_up a 54 u3) g tx) := hD
  refine k_gen (P := fun z => va_P D vwCl (xX K r f_2 z g tx) H ∧ va_D A (xX K r f_2 z g tx) ∧ (xI f_2 z) ∧ (gOK K g.2 tt) ∧ (xEk [12, 14, 32, 38, 44, 49, 832, 838, 844] f a g f_2 z g)) (va_up a 54 u3) ⟨hP, hD, (xI_a hI (by decide)), hG, (xEk_a hE (by decide))⟩ (fun a_5 ea_5 hq => ?_)
  obtain ⟨hP, hD, hI, hG, hE⟩ := hq
  exact kV_ret hx hb hr hlocks hK hS dX10_clear_18 (f_2, a_5, g) hP hD ⟨hI, hG, hE⟩
set_option maxHeartbeats 4000000 in
set_option maxRecDepth 100000 in
theorem x_10_open  (l : Launch) {D : va_G} {K : Nat → ClassId} (r : Nat → Nat) (f : Nat → Int32) (a : Nat → Nat → Int32) (g : xG) (tx tt : va_W) (hT : ∀ c ∈ tt, c ∈ tx) (hI : xI f a) (hG : gOK K g.2 tt) (x : Int32)    : kIG l yX10_open (Cond.code yX10_open cX10_open 2 (some .boolean) :: kG) (rmD 1 0 0) D K [.ref (r 51), .int x] (xX K r f a g tx) (fun v (u : xS) => kb 0 v 1 ∧ xI u.1 u.2.1 ∧ gOK K u.2.2.2 tt ∧ xEk [12, 14, 32, 38, 44, 49, 832, 838, 844] f a g u.1 u.2.1 u.2.2) (fun u => xX K r u.1 u.2.1 u.2.2 tx) 0 0 := by
  refine kIE.of (cc := cX10_open) (maxL := 2) (ret := (some .boolean)) (by decide) rfl (Nat.le_of_ble_eq_true rfl) ?_
  intro p e s m below meth c A hx hb hr hml hown hts hlocks hnm hK hP hD hS hA hV ls hl
  have hE : xEk [12, 14, 32, 38, 44, 49, 832, 838, 844] f a g f a g := xEk_rf
  have hg : ∀ w ∈ kG, w.before _ s = true := fun w h => hts w (List.mem_cons_of_mem _ h)
  have hown : s.vm.findClass RX10 = some m.cls := hown
  have hl : lv_has ls 2 [(0, .ref (r 51)), (1, .int x)] := hl
  refine lv_aload_n hx hb dX10_open_0 rfl (lv_at hl 0 rfl) ?_
  refine va_get (D := D) (ci := 10) (v := .int (f 1632)) (C := RX10) (T := TX10) (N := 6) hx hb hg inC10 hown hK hP 51 rfl rfl 0 (by decide) (hg _ wt2_40) (fun _ h9 => h9) rfl dX10_open_1 ?_
  refine lv_topi (fun t1 et1 => ?_)
  have b2 : kb 0 t1 12 := kb_eq et1 (fI_at hI.1 1632 (by decide) (by decide))
  refine lv_if_lt (tgt := 16) hx hb dX10_open_4 (by decide) (fun c3 => ?_) (fun c3 => ?_)
  · have h4 := (kc_lt c3)
    exact kb_no (kr_lt1 h4 b2 kc_0 (H := (-1)) (by decide)) (by decide)
  · have h5 := (kc_nlt c3)
    refine lv_aload_n hx hb dX10_open_7 rfl (lv_at hl 0 rfl) ?_
    refine va_get (D := D) (ci := 10) (v := .int (f 1632)) (C := RX10) (T := TX10) (N := 6) hx hb hg inC10 hown hK hP 51 rfl rfl 0 (by decide) (hg _ wt2_40) (fun _ h9 => h9) rfl dX10_open_8 ?_
    refine k_top (z := t1) et1.symm ?_
    refine lv_bipush (v := 12) hx hb dX10_open_11 (by decide) ?_
    refine lv_icmp_lt (tgt := 18) hx hb dX10_open_13 (by decide) (fun c6 => ?_) (fun c6 => ?_)
    · have h7 := (kc_lt c6)
      have b8 : kb 0 t1 11 := kr_lt1 h7 b2 kc_12 (by decide)
      refine lv_aload_n hx hb dX10_open_18 rfl (lv_at hl 0 rfl) ?_
      refine va_get (D := D) (ci := 10) (v := .ref (r 52)) (C := RX10) (T := TX10) (N := 6) hx hb hg inC10 hown hK hP 51 rfl rfl 1 (by decide) (hg _ wt2_43) (fun _ h9 => h9) rfl dX10_open_19 ?_
      refine lv_aload_n hx hb dX10_open_22 rfl (lv_at hl 0 rfl) ?_
      refine va_get (D := D) (ci := 10) (v := .int (f 1632)) (C := RX10) (T := TX10) (N := 6) hx hb hg inC10 hown hK hP 51 rfl rfl 0 (by decide) (hg _ wt2_40) (fun _ h9 => h9) rfl dX10_open_23 ?_
      refine k_top (z := t1) et1.symm ?_
      refine lv_iload_n hx hb dX10_open_26 rfl (lv_at hl 1 rfl) ?_
      refine va_iast hx hb hK hP hD hS 52 0 rfl rfl (kb_in b8 (by decide) (by decide)) dX10_open_27 (fun H locs hP hD hS => ?_)
      have hP : va_P D vwCl (xX K r f (va_up a 52 (upd (a 52) t1.toNatClampNeg x)) g tx) H := hP
      have hD : va_D A (xX K r f (va_up a 52 (upd (a 52) t1.toNatClampNeg x)) g tx) := hD
      refine k_gen (P := fun z => va_P D vwCl (xX K r f z g tx) H ∧ va_D A (xX K r f z g tx) ∧ (xI f z) ∧ (gOK K g.2 tt) ∧ (xEk [12, 14, 32, 38, 44, 49, 832, 838, 844] f a g f z g)) (va_up a 52 (upd (a 52) t1.toNatClampNeg x)) ⟨hP, hD, (xI_a hI (by decide)), hG, (xEk_a hE (by decide))⟩ (fun a_9 ea_9 hq => ?_)
      obtain ⟨hP, hD, hI, hG, hE⟩ := hq
      refine lv_aload_n hx hb dX10_open_28 rfl (lv_at hl 0 rfl) ?_
      refine va_get (D := D) (ci := 10) (v := .ref (r 53)) (C := RX10) (T := TX10) (N := 6) hx hb hg inC10 hown hK hP 51 rfl rfl 2 (by decide) (hg _ wt2_46) (fun _ h9 => h9) rfl dX10_open_29 ?_
      refine lv_aload_n hx hb dX10_open_32 rfl (lv_at hl 0 rfl) ?_
      refine va_get (D := D) (ci := 10) (v := .int (f 1632)) (C := RX10) (T := TX10) (N := 6) hx hb hg inC10 hown hK hP 51 rfl rfl 0 (by decide) (hg _ wt2_40) (fun _ h9 => h9) rfl dX10_open_33 ?_
      refine k_top (z := t1) et1.symm ?_
      refine lv_iconst (v := 1) hx hb dX10_open_36 (by decide) ?_
      refine va_iast hx hb hK hP hD hS 53 0 rfl rfl (kb_in b8 (by decide) (by decide)) dX10_open_37 (fun H locs hP hD hS => ?_)
      have hP : va_P D vwCl (xX K r f (va_up a_9 53 (upd (a_9 53) t1.toNatClampNeg 1)) g tx) H := hP
      have hD : va_D A (xX K r f (va_up a_9 53 (upd (a_9 53) t1.toNatClampNeg 1)) g tx) := hD
      refine k_gen (P := fun z => va_P D vwCl (xX K r f z g tx) H ∧ va_D A (xX K r f z g tx) ∧ (xI f z) ∧ (gOK K g.2 tt) ∧ (xEk [12, 14, 32, 38, 44, 49, 832, 838, 844] f a g f z g)) (va_up a_9 53 (upd (a_9 53) t1.toNatClampNeg 1)) ⟨hP, hD, (xI_a hI (by decide)), hG, (xEk_a hE (by decide))⟩ (fun a_10 ea_10 hq => ?_)
      obtain ⟨hP, hD, hI, hG, hE⟩ := hq
      refine lv_aload_n hx hb dX10_open_38 rfl (lv_at hl 0 rfl) ?_
      refine lv_dup hx hb dX10_open_39 rfl ?_
      refine va_get (D := D) (ci := 10) (v := .int (f 1632)) (C := RX10) (T := TX10) (N := 6) hx hb hg inC10 hown hK hP 51 rfl rfl 0 (by decide) (hg _ wt2_40) (fun _ h9 => h9) rfl dX10_open_40 ?_
      refine k_top (z := t1) et1.symm ?_
      refine lv_iconst (v := 1) hx hb dX10_open_43 (by decide) ?_
      refine lv_iadd hx hb dX10_open_44 ?_
      refine lv_topi (fun t11 et11 => ?_)
      have b12 : kb 1 t11 12 := kb_eq et11 (kb_add b8 kc_1 (by decide) (by decide))
      have qt11 : t11.toInt = t1.toInt + 1 := by rw [et11]; exact kt_addc b8 kc_1 (by decide) (by decide)
      refine va_put (D := D) (ci := 10) (v := .int t11) (ty := .int) (C := RX10) (T := TX10) (N := 6) hx hb hg inC10 tyX10 tyX10_ok nmX10 hown hK hP hD hS 51 rfl rfl 0 (by decide) (hg _ wt2_40) (fun _ h9 => h9) rfl (by decide +kernel) rfl rfl (Nat.le_of_ble_eq_true rfl) dX10_open_45 (fun H locs hP hD hS => ?_)
      have hP : va_P D vwCl (xX K r (upd f 1632 t11) a_10 g tx) H := hP
      have hD : va_D A (xX K r (upd f 1632 t11) a_10 g tx) := hD
      refine k_gen (P := fun z => va_P D vwCl (xX K r z a_10 g tx) H ∧ va_D A (xX K r z a_10 g tx) ∧ (xI z a_10) ∧ (gOK K g.2 tt) ∧ (xEk [12, 14, 32, 38, 44, 49, 832, 838, 844] f a g z a_10 g)) (upd f 1632 t11) ⟨hP, hD, (xI_f hI (fI_st hI.1 1632 b12 (by decide) (by decide))), hG, (xEk_f hE (by decide))⟩ (fun f_13 ef_13 hq => ?_)
      obtain ⟨hP, hD, hI, hG, hE⟩ := hq
      refine lv_iconst (v := 1) hx hb dX10_open_48 (by decide) ?_
      exact kI_ret (v := 1) hx hb hr hlocks (by decide +kernel) hK hS dX10_open_49 (f_13, a_10, g) hP hD ⟨(kb_w kc_1 (by decide) (by decide)), hI, hG, hE⟩
    · have h14 := (kc_nlt c6)
      have b15 : kb 12 t1 12 := kr_le2 h14 kc_12 b2
      refine lv_iconst (v := 0) hx hb dX10_open_16 (by decide) ?_
      exact kI_ret (v := 0) hx hb hr hlocks (by decide +kernel) hK hS dX10_open_17 (f, a, g) hP hD ⟨(kb_w kc_0 (by decide) (by decide)), hI, hG, hE⟩
set_option maxHeartbeats 4000000 in
set_option maxRecDepth 100000 in
theorem x_10_repeat  (l : Launch) {D : va_G} {K : Nat → ClassId} (r : Nat → Nat) (f : Nat → Int32) (a : Nat → Nat → Int32) (g : xG) (tx tt : va_W) (hT : ∀ c ∈ tt, c ∈ tx) (hI : xI f a) (hG : gOK K g.2 tt) (x : Int32)    : kVG l yX10_repeat (Cond.code yX10_repeat cX10_repeat 2 none :: kG) (rmD 1 0 0) D K [.ref (r 51), .int x] (xX K r f a g tx) (fun (u : xS) => xI u.1 u.2.1 ∧ gOK K u.2.2.2 tt ∧ xEk [12, 14, 32, 38, 44, 49, 832, 838, 844] f a g u.1 u.2.1 u.2.2) (fun u => xX K r u.1 u.2.1 u.2.2 tx) 0 0 := by
  refine kVG.of (cc := cX10_repeat) (maxL := 2) (ret := none) (by decide) rfl (Nat.le_of_ble_eq_true rfl) ?_
  intro p e s m below meth c A hx hb hr hml hown hts hlocks hnm hK hP hD hS hA hV ls hl
  have hE : xEk [12, 14, 32, 38, 44, 49, 832, 838, 844] f a g f a g := xEk_rf
  have hg : ∀ w ∈ kG, w.before _ s = true := fun w h => hts w (List.mem_cons_of_mem _ h)
  have hown : s.vm.findClass RX10 = some m.cls := hown
  have hl : lv_has ls 2 [(0, .ref (r 51)), (1, .int x)] := hl
  refine lv_aload_n hx hb dX10_repeat_0 rfl (lv_at hl 0 rfl) ?_
  refine va_get (D := D) (ci := 10) (v := .int (f 1632)) (C := RX10) (T := TX10) (N := 6) hx hb hg inC10 hown hK hP 51 rfl rfl 0 (by decide) (hg _ wt2_40) (fun _ h9 => h9) rfl dX10_repeat_1 ?_
  refine lv_topi (fun t1 et1 => ?_)
  have b2 : kb 0 t1 12 := kb_eq et1 (fI_at hI.1 1632 (by decide) (by decide))
  refine lv_if_le (tgt := 28) hx hb dX10_repeat_4 (by decide) (fun c3 => ?_) (fun c3 => ?_)
  · have h4 := (kc_le c3)
    have b5 : kb 0 t1 0 := kr_le1 h4 b2 kc_0
    exact kV_ret hx hb hr hlocks hK hS dX10_repeat_28 (f, a, g) hP hD ⟨hI, hG, hE⟩
  · have h6 := (kc_nle c3)
    have b7 : kb 1 t1 12 := kr_lt2 h6 kc_0 b2 (by decide)
    refine lv_aload_n hx hb dX10_repeat_7 rfl (lv_at hl 0 rfl) ?_
    refine va_get (D := D) (ci := 10) (v := .int (f 1632)) (C := RX10) (T := TX10) (N := 6) hx hb hg inC10 hown hK hP 51 rfl rfl 0 (by decide) (hg _ wt2_40) (fun _ h9 => h9) rfl dX10_repeat_8 ?_
    refine k_top (z := t1) et1.symm ?_
    refine lv_bipush (v := 12) hx hb dX10_repeat_11 (by decide) ?_
    refine lv_icmp_gt (tgt := 28) hx hb dX10_repeat_13 (by decide) (fun c8 => ?_) (fun c8 => ?_)
    · have h9 := (kc_lt c8)
      exact kb_no (kr_lt1 h9 kc_12 b7 (H := 11) (by decide)) (by decide)
    · have h10 := (kc_nlt c8)
      refine lv_aload_n hx hb dX10_repeat_16 rfl (lv_at hl 0 rfl) ?_
      refine va_get (D := D) (ci := 10) (v := .ref (r 53)) (C := RX10) (T := TX10) (N := 6) hx hb hg inC10 hown hK hP 51 rfl rfl 2 (by decide) (hg _ wt2_46) (fun _ h9 => h9) rfl dX10_repeat_17 ?_
      refine lv_aload_n hx hb dX10_repeat_20 rfl (lv_at hl 0 rfl) ?_
      refine va_get (D := D) (ci := 10) (v := .int (f 1632)) (C := RX10) (T := TX10) (N := 6) hx hb hg inC10 hown hK hP 51 rfl rfl 0 (by decide) (hg _ wt2_40) (fun _ h9 => h9) rfl dX10_repeat_21 ?_
      refine k_top (z := t1) et1.symm ?_
      refine lv_iconst (v := 1) hx hb dX10_repeat_24 (by decide) ?_
      refine lv_isub hx hb dX10_repeat_25 ?_
      refine lv_topi (fun t11 et11 => ?_)
      have b12 : kb 0 t11 11 := kb_eq et11 (kb_sub b7 kc_1 (by decide) (by decide))
      have qt11 : t11.toInt = t1.toInt - 1 := by rw [et11]; exact kt_subc b7 kc_1 (by decide) (by decide)
      refine lv_iload_n hx hb dX10_repeat_26 rfl (lv_at hl 1 rfl) ?_
      refine va_iast hx hb hK hP hD hS 53 0 rfl rfl (kb_in b12 (by decide) (by decide)) dX10_repeat_27 (fun H locs hP hD hS => ?_)
      have hP : va_P D vwCl (xX K r f (va_up a 53 (upd (a 53) t11.toNatClampNeg x)) g tx) H := hP
      have hD : va_D A (xX K r f (va_up a 53 (upd (a 53) t11.toNatClampNeg x)) g tx) := hD
      refine k_gen (P := fun z => va_P D vwCl (xX K r f z g tx) H ∧ va_D A (xX K r f z g tx) ∧ (xI f z) ∧ (gOK K g.2 tt) ∧ (xEk [12, 14, 32, 38, 44, 49, 832, 838, 844] f a g f z g)) (va_up a 53 (upd (a 53) t11.toNatClampNeg x)) ⟨hP, hD, (xI_a hI (by decide)), hG, (xEk_a hE (by decide))⟩ (fun a_13 ea_13 hq => ?_)
      obtain ⟨hP, hD, hI, hG, hE⟩ := hq
      exact kV_ret hx hb hr hlocks hK hS dX10_repeat_28 (f, a_13, g) hP hD ⟨hI, hG, hE⟩
set_option maxHeartbeats 4000000 in
set_option maxRecDepth 100000 in
theorem x_10_close  (l : Launch) {D : va_G} {K : Nat → ClassId} (r : Nat → Nat) (f : Nat → Int32) (a : Nat → Nat → Int32) (g : xG) (tx tt : va_W) (hT : ∀ c ∈ tt, c ∈ tx) (hI : xI f a) (hG : gOK K g.2 tt) (pc_ : Int32) (bpc_ : kb 0 pc_ 2)   : kVG l yX10_close (Cond.code yX10_close cX10_close 3 none :: kG) (rmD 1 0 0) D K [.ref (r 51), .int pc_] (xX K r f a g tx) (fun (u : xS) => xI u.1 u.2.1 ∧ gOK K u.2.2.2 tt ∧ xEk [12, 14, 32, 38, 44, 49, 832, 838, 844] f a g u.1 u.2.1 u.2.2) (fun u => xX K r u.1 u.2.1 u.2.2 tx) 0 0 := by
  refine kVG.of (cc := cX10_close) (maxL := 3) (ret := none) (by decide) rfl (Nat.le_of_ble_eq_true rfl) ?_
  intro p e s m below meth c A hx hb hr hml hown hts hlocks hnm hK hP hD hS hA hV ls hl
  have hE : xEk [12, 14, 32, 38, 44, 49, 832, 838, 844] f a g f a g := xEk_rf
  have hg : ∀ w ∈ kG, w.before _ s = true := fun w h => hts w (List.mem_cons_of_mem _ h)
  have hown : s.vm.findClass RX10 = some m.cls := hown
  have hl : lv_has ls 3 [(0, .ref (r 51)), (1, .int pc_)] := hl
  refine lv_aload_n hx hb dX10_close_0 rfl (lv_at hl 0 rfl) ?_
  refine va_get (D := D) (ci := 10) (v := .int (f 1632)) (C := RX10) (T := TX10) (N := 6) hx hb hg inC10 hown hK hP 51 rfl rfl 0 (by decide) (hg _ wt2_40) (fun _ h9 => h9) rfl dX10_close_1 ?_
  refine lv_topi (fun t1 et1 => ?_)
  have b2 : kb 0 t1 12 := kb_eq et1 (fI_at hI.1 1632 (by decide) (by decide))
  refine lv_iconst (v := 1) hx hb dX10_close_4 (by decide) ?_
  refine lv_isub hx hb dX10_close_5 ?_
  refine lv_topi (fun t3 et3 => ?_)
  have b4 : kb (-1) t3 11 := kb_eq et3 (kb_sub b2 kc_1 (by decide) (by decide))
  have qt3 : t3.toInt = t1.toInt - 1 := by rw [et3]; exact kt_subc b2 kc_1 (by decide) (by decide)
  refine lv_iconst (v := 3) hx hb dX10_close_6 (by decide) ?_
  refine lv_imul hx hb dX10_close_7 ?_
  refine lv_topi (fun t5 et5 => ?_)
  refine lv_iload_n hx hb dX10_close_8 rfl (lv_at hl 1 rfl) ?_
  refine lv_iadd hx hb dX10_close_9 ?_
  refine lv_topi (fun t6 et6 => ?_)
  refine lv_iconst (v := 1) hx hb dX10_close_10 (by decide) ?_
  refine lv_iadd hx hb dX10_close_11 ?_
  refine lv_topi (fun t7 et7 => ?_)
  refine lv_istore_n (lv' := [(2, .int t7), (0, .ref (r 51)), (1, .int pc_)]) hx hb dX10_close_12 rfl hl (by decide) rfl (fun ls hl => ?_)
  refine lv_iload_n hx hb dX10_close_13 rfl (lv_at hl 0 rfl) ?_
  refine lv_if_le (tgt := 36) hx hb dX10_close_14 (by decide) (fun c8 => ?_) (fun c8 => ?_)
  · have h9 := (kc_le c8)
    have b10 : kb (-2147483648) t7 0 := kr_le1 h9 (kb_any t7) kc_0
    exact kV_ret hx hb hr hlocks hK hS dX10_close_36 (f, a, g) hP hD ⟨hI, hG, hE⟩
  · have h11 := (kc_nle c8)
    have b12 : kb 1 t7 2147483647 := kr_lt2 h11 kc_0 (kb_any t7) (by decide)
    refine lv_iload_n hx hb dX10_close_17 rfl (lv_at hl 0 rfl) ?_
    refine lv_aload_n hx hb dX10_close_18 rfl (lv_at hl 1 rfl) ?_
    refine va_get (D := D) (ci := 10) (v := .ref (r 54)) (C := RX10) (T := TX10) (N := 6) hx hb hg inC10 hown hK hP 51 rfl rfl 3 (by decide) (hg _ wt2_48) (fun _ h9 => h9) rfl dX10_close_19 ?_
    refine va_alen (v := 37) hx hb hK hP 54 0 rfl rfl rfl dX10_close_22 ?_
    refine lv_icmp_ge (tgt := 36) hx hb dX10_close_23 (by decide) (fun c13 => ?_) (fun c13 => ?_)
    · have h14 := (kc_le c13)
      have b15 : kb 37 t7 2147483647 := kr_le2 h14 kc_37 b12
      exact kV_ret hx hb hr hlocks hK hS dX10_close_36 (f, a, g) hP hD ⟨hI, hG, hE⟩
    · have h16 := (kc_nle c13)
      have b17 : kb 1 t7 36 := kr_lt1 h16 b12 kc_37 (by decide)
      refine lv_aload_n hx hb dX10_close_26 rfl (lv_at hl 1 rfl) ?_
      refine va_get (D := D) (ci := 10) (v := .ref (r 54)) (C := RX10) (T := TX10) (N := 6) hx hb hg inC10 hown hK hP 51 rfl rfl 3 (by decide) (hg _ wt2_48) (fun _ h9 => h9) rfl dX10_close_27 ?_
      refine lv_iload_n hx hb dX10_close_30 rfl (lv_at hl 0 rfl) ?_
      refine lv_aload_n hx hb dX10_close_31 rfl (lv_at hl 1 rfl) ?_
      refine va_get (D := D) (ci := 10) (v := .int (f 1637)) (C := RX10) (T := TX10) (N := 6) hx hb hg inC10 hown hK hP 51 rfl rfl 5 (by decide) (hg _ wt2_50) (fun _ h9 => h9) rfl dX10_close_32 ?_
      refine lv_topi (fun t18 et18 => ?_)
      have b19 : kb 0 t18 400 := kb_eq et18 (fI_at hI.1 1637 (by decide) (by decide))
      refine va_iast hx hb hK hP hD hS 54 0 rfl rfl (kb_in b17 (by decide) (by decide)) dX10_close_35 (fun H locs hP hD hS => ?_)
      have hP : va_P D vwCl (xX K r f (va_up a 54 (upd (a 54) t7.toNatClampNeg t18)) g tx) H := hP
      have hD : va_D A (xX K r f (va_up a 54 (upd (a 54) t7.toNatClampNeg t18)) g tx) := hD
      refine k_gen (P := fun z => va_P D vwCl (xX K r f z g tx) H ∧ va_D A (xX K r f z g tx) ∧ (xI f z) ∧ (gOK K g.2 tt) ∧ (xEk [12, 14, 32, 38, 44, 49, 832, 838, 844] f a g f z g)) (va_up a 54 (upd (a 54) t7.toNatClampNeg t18)) ⟨hP, hD, (xI_a hI (by decide)), hG, (xEk_a hE (by decide))⟩ (fun a_20 ea_20 hq => ?_)
      obtain ⟨hP, hD, hI, hG, hE⟩ := hq
      exact kV_ret hx hb hr hlocks hK hS dX10_close_36 (f, a_20, g) hP hD ⟨hI, hG, hE⟩
set_option maxHeartbeats 4000000 in
set_option maxRecDepth 100000 in
theorem x_10_emit  (l : Launch) {D : va_G} {K : Nat → ClassId} (r : Nat → Nat) (f : Nat → Int32) (a : Nat → Nat → Int32) (g : xG) (tx tt : va_W) (hT : ∀ c ∈ tt, c ∈ tx) (hI : xI f a) (hG : gOK K g.2 tt) (op : Int32) (x : Int32) (bop : kb 0 op 12)   : kIG l yX10_emit (Cond.code yX10_emit cX10_emit 3 (some .int) :: kG) (rmD 1 0 0) D K [.ref (r 51), .int op, .int x] (xX K r f a g tx) (fun v (u : xS) => kb (-2147483648) v 2147483647 ∧ xI u.1 u.2.1 ∧ gOK K u.2.2.2 tt ∧ xEk [12, 14, 32, 38, 44, 49, 832, 838, 844] f a g u.1 u.2.1 u.2.2) (fun u => xX K r u.1 u.2.1 u.2.2 tx) 0 0 := by
  refine kIE.of (cc := cX10_emit) (maxL := 3) (ret := (some .int)) (by decide) rfl (Nat.le_of_ble_eq_true rfl) ?_
  intro p e s m below meth c A hx hb hr hml hown hts hlocks hnm hK hP hD hS hA hV ls hl
  have hE : xEk [12, 14, 32, 38, 44, 49, 832, 838, 844] f a g f a g := xEk_rf
  have hg : ∀ w ∈ kG, w.before _ s = true := fun w h => hts w (List.mem_cons_of_mem _ h)
  have hown : s.vm.findClass RX10 = some m.cls := hown
  have hl : lv_has ls 3 [(0, .ref (r 51)), (1, .int op), (2, .int x)] := hl
  refine lv_aload_n hx hb dX10_emit_0 rfl (lv_at hl 0 rfl) ?_
  refine va_get (D := D) (ci := 10) (v := .int (f 1637)) (C := RX10) (T := TX10) (N := 6) hx hb hg inC10 hown hK hP 51 rfl rfl 5 (by decide) (hg _ wt2_50) (fun _ h9 => h9) rfl dX10_emit_1 ?_
  refine lv_topi (fun t1 et1 => ?_)
  have b2 : kb 0 t1 400 := kb_eq et1 (fI_at hI.1 1637 (by decide) (by decide))
  refine lv_if_lt (tgt := 19) hx hb dX10_emit_4 (by decide) (fun c3 => ?_) (fun c3 => ?_)
  · have h4 := (kc_lt c3)
    exact kb_no (kr_lt1 h4 b2 kc_0 (H := (-1)) (by decide)) (by decide)
  · have h5 := (kc_nlt c3)
    refine lv_aload_n hx hb dX10_emit_7 rfl (lv_at hl 0 rfl) ?_
    refine va_get (D := D) (ci := 10) (v := .int (f 1637)) (C := RX10) (T := TX10) (N := 6) hx hb hg inC10 hown hK hP 51 rfl rfl 5 (by decide) (hg _ wt2_50) (fun _ h9 => h9) rfl dX10_emit_8 ?_
    refine k_top (z := t1) et1.symm ?_
    refine lv_aload_n hx hb dX10_emit_11 rfl (lv_at hl 0 rfl) ?_
    refine va_get (D := D) (ci := 10) (v := .ref (r 55)) (C := RX10) (T := TX10) (N := 6) hx hb hg inC10 hown hK hP 51 rfl rfl 4 (by decide) (hg _ wt2_49) (fun _ h9 => h9) rfl dX10_emit_12 ?_
    refine va_alen (v := 400) hx hb hK hP 55 0 rfl rfl rfl dX10_emit_15 ?_
    refine lv_icmp_lt (tgt := 21) hx hb dX10_emit_16 (by decide) (fun c6 => ?_) (fun c6 => ?_)
    · have h7 := (kc_lt c6)
      have b8 : kb 0 t1 399 := kr_lt1 h7 b2 kc_400 (by decide)
      refine lv_aload_n hx hb dX10_emit_21 rfl (lv_at hl 0 rfl) ?_
      refine va_get (D := D) (ci := 10) (v := .ref (r 55)) (C := RX10) (T := TX10) (N := 6) hx hb hg inC10 hown hK hP 51 rfl rfl 4 (by decide) (hg _ wt2_49) (fun _ h9 => h9) rfl dX10_emit_22 ?_
      refine lv_aload_n hx hb dX10_emit_25 rfl (lv_at hl 0 rfl) ?_
      refine va_get (D := D) (ci := 10) (v := .int (f 1637)) (C := RX10) (T := TX10) (N := 6) hx hb hg inC10 hown hK hP 51 rfl rfl 5 (by decide) (hg _ wt2_50) (fun _ h9 => h9) rfl dX10_emit_26 ?_
      refine k_top (z := t1) et1.symm ?_
      refine lv_iload_n hx hb dX10_emit_29 rfl (lv_at hl 1 rfl) ?_
      refine lv_bipush (v := 12) hx hb dX10_emit_30 (by decide) ?_
      refine lv_ishl hx hb dX10_emit_32 ?_
      refine lv_topi (fun t9 et9 => ?_)
      have b10 : kb 0 t9 49152 := kb_eq et9 (kb_shl12 bop (by decide) (by decide))
      refine lv_iload_n hx hb dX10_emit_33 rfl (lv_at hl 2 rfl) ?_
      refine lv_sipush (v := 4095) hx hb dX10_emit_34 (by decide) ?_
      refine lv_iand hx hb dX10_emit_37 ?_
      refine lv_topi (fun t11 et11 => ?_)
      have b12 : kb 0 t11 4095 := kb_eq et11 (kb_and 12 (by decide) (by decide))
      refine lv_ior hx hb dX10_emit_38 ?_
      refine lv_topi (fun t13 et13 => ?_)
      have b14 : kb 0 t13 65535 := kb_eq et13 (kb_or 16 b10 b12 (by decide) (by decide) (by decide) (by decide) (by decide))
      refine va_iast hx hb hK hP hD hS 55 0 rfl rfl (kb_in b8 (by decide) (by decide)) dX10_emit_39 (fun H locs hP hD hS => ?_)
      have hP : va_P D vwCl (xX K r f (va_up a 55 (upd (a 55) t1.toNatClampNeg t13)) g tx) H := hP
      have hD : va_D A (xX K r f (va_up a 55 (upd (a 55) t1.toNatClampNeg t13)) g tx) := hD
      refine k_gen (P := fun z => va_P D vwCl (xX K r f z g tx) H ∧ va_D A (xX K r f z g tx) ∧ (xI f z) ∧ (gOK K g.2 tt) ∧ (xEk [12, 14, 32, 38, 44, 49, 832, 838, 844] f a g f z g)) (va_up a 55 (upd (a 55) t1.toNatClampNeg t13)) ⟨hP, hD, (xI_55 hI b14), hG, (xEk_a hE (by decide))⟩ (fun a_15 ea_15 hq => ?_)
      obtain ⟨hP, hD, hI, hG, hE⟩ := hq
      refine lv_aload_n hx hb dX10_emit_40 rfl (lv_at hl 0 rfl) ?_
      refine lv_dup hx hb dX10_emit_41 rfl ?_
      refine va_get (D := D) (ci := 10) (v := .int (f 1637)) (C := RX10) (T := TX10) (N := 6) hx hb hg inC10 hown hK hP 51 rfl rfl 5 (by decide) (hg _ wt2_50) (fun _ h9 => h9) rfl dX10_emit_42 ?_
      refine k_top (z := t1) et1.symm ?_
      refine lv_iconst (v := 1) hx hb dX10_emit_45 (by decide) ?_
      refine lv_iadd hx hb dX10_emit_46 ?_
      refine lv_topi (fun t16 et16 => ?_)
      have b17 : kb 1 t16 400 := kb_eq et16 (kb_add b8 kc_1 (by decide) (by decide))
      have qt16 : t16.toInt = t1.toInt + 1 := by rw [et16]; exact kt_addc b8 kc_1 (by decide) (by decide)
      refine va_put (D := D) (ci := 10) (v := .int t16) (ty := .int) (C := RX10) (T := TX10) (N := 6) hx hb hg inC10 tyX10 tyX10_ok nmX10 hown hK hP hD hS 51 rfl rfl 5 (by decide) (hg _ wt2_50) (fun _ h9 => h9) rfl (by decide +kernel) rfl rfl (Nat.le_of_ble_eq_true rfl) dX10_emit_47 (fun H locs hP hD hS => ?_)
      have hP : va_P D vwCl (xX K r (upd f 1637 t16) a_15 g tx) H := hP
      have hD : va_D A (xX K r (upd f 1637 t16) a_15 g tx) := hD
      refine k_gen (P := fun z => va_P D vwCl (xX K r z a_15 g tx) H ∧ va_D A (xX K r z a_15 g tx) ∧ (xI z a_15) ∧ (gOK K g.2 tt) ∧ (xEk [12, 14, 32, 38, 44, 49, 832, 838, 844] f a g z a_15 g)) (upd f 1637 t16) ⟨hP, hD, (xI_f hI (fI_st hI.1 1637 b17 (by decide) (by decide))), hG, (xEk_f hE (by decide))⟩ (fun f_18 ef_18 hq => ?_)
      obtain ⟨hP, hD, hI, hG, hE⟩ := hq
      refine lv_aload_n hx hb dX10_emit_50 rfl (lv_at hl 0 rfl) ?_
      refine va_get (D := D) (ci := 10) (v := .int (f_18 1637)) (C := RX10) (T := TX10) (N := 6) hx hb hg inC10 hown hK hP 51 rfl rfl 5 (by decide) (hg _ wt2_50) (fun _ h9 => h9) rfl dX10_emit_51 ?_
      refine k_top (z := t16) (show f_18 1637 = t16 from by rw [← ef_18]; rfl) ?_
      refine lv_iconst (v := 1) hx hb dX10_emit_54 (by decide) ?_
      refine lv_isub hx hb dX10_emit_55 ?_
      refine lv_topi (fun t19 et19 => ?_)
      have b20 : kb 0 t19 399 := kb_eq et19 (kb_sub b17 kc_1 (by decide) (by decide))
      have qt19 : t19.toInt = t16.toInt - 1 := by rw [et19]; exact kt_subc b17 kc_1 (by decide) (by decide)
      exact kI_ret (v := t19) hx hb hr hlocks rfl hK hS dX10_emit_56 (f_18, a_15, g) hP hD ⟨(kb_w b20 (by decide) (by decide)), hI, hG, hE⟩
    · have h21 := (kc_nlt c6)
      have b22 : kb 400 t1 400 := kr_le2 h21 kc_400 b2
      refine lv_iconst (v := (-1)) hx hb dX10_emit_19 (by decide) ?_
      exact kI_ret (v := (-1)) hx hb hr hlocks rfl hK hS dX10_emit_20 (f, a, g) hP hD ⟨(kb_w kc_m1 (by decide) (by decide)), hI, hG, hE⟩
set_option maxHeartbeats 4000000 in
set_option maxRecDepth 100000 in
theorem x_10_land  (l : Launch) {D : va_G} {K : Nat → ClassId} (r : Nat → Nat) (f : Nat → Int32) (a : Nat → Nat → Int32) (g : xG) (tx tt : va_W) (hT : ∀ c ∈ tt, c ∈ tx) (hI : xI f a) (hG : gOK K g.2 tt) (x : Int32)    : kVG l yX10_land (Cond.code yX10_land cX10_land 2 none :: kG) (rmD 1 0 0) D K [.ref (r 51), .int x] (xX K r f a g tx) (fun (u : xS) => xI u.1 u.2.1 ∧ gOK K u.2.2.2 tt ∧ xEk [12, 14, 32, 38, 44, 49, 832, 838, 844] f a g u.1 u.2.1 u.2.2) (fun u => xX K r u.1 u.2.1 u.2.2 tx) 0 0 := by
  refine kVG.of (cc := cX10_land) (maxL := 2) (ret := none) (by decide) rfl (Nat.le_of_ble_eq_true rfl) ?_
  intro p e s m below meth c A hx hb hr hml hown hts hlocks hnm hK hP hD hS hA hV ls hl
  have hE : xEk [12, 14, 32, 38, 44, 49, 832, 838, 844] f a g f a g := xEk_rf
  have hg : ∀ w ∈ kG, w.before _ s = true := fun w h => hts w (List.mem_cons_of_mem _ h)
  have hown : s.vm.findClass RX10 = some m.cls := hown
  have hl : lv_has ls 2 [(0, .ref (r 51)), (1, .int x)] := hl
  refine lv_iload_n hx hb dX10_land_0 rfl (lv_at hl 1 rfl) ?_
  refine lv_if_lt (tgt := 46) hx hb dX10_land_1 (by decide) (fun c1 => ?_) (fun c1 => ?_)
  · have h2 := (kc_lt c1)
    have b3 : kb (-2147483648) x (-1) := kr_lt1 h2 (kb_any x) kc_0 (by decide)
    exact kV_ret hx hb hr hlocks hK hS dX10_land_46 (f, a, g) hP hD ⟨hI, hG, hE⟩
  · have h4 := (kc_nlt c1)
    have b5 : kb 0 x 2147483647 := kr_le2 h4 kc_0 (kb_any x)
    refine lv_iload_n hx hb dX10_land_4 rfl (lv_at hl 1 rfl) ?_
    refine lv_aload_n hx hb dX10_land_5 rfl (lv_at hl 0 rfl) ?_
    refine va_get (D := D) (ci := 10) (v := .int (f 1637)) (C := RX10) (T := TX10) (N := 6) hx hb hg inC10 hown hK hP 51 rfl rfl 5 (by decide) (hg _ wt2_50) (fun _ h9 => h9) rfl dX10_land_6 ?_
    refine lv_topi (fun t6 et6 => ?_)
    have b7 : kb 0 t6 400 := kb_eq et6 (fI_at hI.1 1637 (by decide) (by decide))
    refine lv_icmp_ge (tgt := 46) hx hb dX10_land_9 (by decide) (fun c8 => ?_) (fun c8 => ?_)
    · have h9 := (kc_le c8)
      exact kV_ret hx hb hr hlocks hK hS dX10_land_46 (f, a, g) hP hD ⟨hI, hG, hE⟩
    · have h10 := (kc_nle c8)
      have b11 : kb 0 x 399 := kr_lt1 h10 b5 b7 (by decide)
      have b12 : kb 1 t6 400 := kr_lt2 h10 b5 b7 (by decide)
      refine lv_iload_n hx hb dX10_land_12 rfl (lv_at hl 1 rfl) ?_
      refine lv_aload_n hx hb dX10_land_13 rfl (lv_at hl 0 rfl) ?_
      refine va_get (D := D) (ci := 10) (v := .ref (r 55)) (C := RX10) (T := TX10) (N := 6) hx hb hg inC10 hown hK hP 51 rfl rfl 4 (by decide) (hg _ wt2_49) (fun _ h9 => h9) rfl dX10_land_14 ?_
      refine va_alen (v := 400) hx hb hK hP 55 0 rfl rfl rfl dX10_land_17 ?_
      refine lv_icmp_ge (tgt := 46) hx hb dX10_land_18 (by decide) (fun c13 => ?_) (fun c13 => ?_)
      · have h14 := (kc_le c13)
        exact kb_no (kr_le1 h14 kc_400 b11) (by decide)
      · have h15 := (kc_nle c13)
        refine lv_aload_n hx hb dX10_land_21 rfl (lv_at hl 0 rfl) ?_
        refine va_get (D := D) (ci := 10) (v := .ref (r 55)) (C := RX10) (T := TX10) (N := 6) hx hb hg inC10 hown hK hP 51 rfl rfl 4 (by decide) (hg _ wt2_49) (fun _ h9 => h9) rfl dX10_land_22 ?_
        refine lv_iload_n hx hb dX10_land_25 rfl (lv_at hl 1 rfl) ?_
        refine lv_aload_n hx hb dX10_land_26 rfl (lv_at hl 0 rfl) ?_
        refine va_get (D := D) (ci := 10) (v := .ref (r 55)) (C := RX10) (T := TX10) (N := 6) hx hb hg inC10 hown hK hP 51 rfl rfl 4 (by decide) (hg _ wt2_49) (fun _ h9 => h9) rfl dX10_land_27 ?_
        refine lv_iload_n hx hb dX10_land_30 rfl (lv_at hl 1 rfl) ?_
        refine va_iald hx hb hK hP 55 0 rfl rfl (kb_in b11 (by decide) (by decide)) dX10_land_31 ?_
        refine lv_topi (fun t16 et16 => ?_)
        have b17 : kb 0 t16 65535 := kb_eq et16 (xI_c hI _)
        refine lv_sipush (v := (-4096)) hx hb dX10_land_32 (by decide) ?_
        refine lv_iand hx hb dX10_land_35 ?_
        refine lv_topi (fun t18 et18 => ?_)
        have b19 : kb 0 t18 65535 := kb_eq et18 (kb_andN b17 (by decide))
        refine lv_aload_n hx hb dX10_land_36 rfl (lv_at hl 0 rfl) ?_
        refine va_get (D := D) (ci := 10) (v := .int (f 1637)) (C := RX10) (T := TX10) (N := 6) hx hb hg inC10 hown hK hP 51 rfl rfl 5 (by decide) (hg _ wt2_50) (fun _ h9 => h9) rfl dX10_land_37 ?_
        refine k_top (z := t6) et6.symm ?_
        refine lv_sipush (v := 4095) hx hb dX10_land_40 (by decide) ?_
        refine lv_iand hx hb dX10_land_43 ?_
        refine lv_topi (fun t20 et20 => ?_)
        have b21 : kb 0 t20 4095 := kb_eq et20 (kb_and 12 (by decide) (by decide))
        refine lv_ior hx hb dX10_land_44 ?_
        refine lv_topi (fun t22 et22 => ?_)
        have b23 : kb 0 t22 65535 := kb_eq et22 (kb_or 16 b19 b21 (by decide) (by decide) (by decide) (by decide) (by decide))
        refine va_iast hx hb hK hP hD hS 55 0 rfl rfl (kb_in b11 (by decide) (by decide)) dX10_land_45 (fun H locs hP hD hS => ?_)
        have hP : va_P D vwCl (xX K r f (va_up a 55 (upd (a 55) x.toNatClampNeg t22)) g tx) H := hP
        have hD : va_D A (xX K r f (va_up a 55 (upd (a 55) x.toNatClampNeg t22)) g tx) := hD
        refine k_gen (P := fun z => va_P D vwCl (xX K r f z g tx) H ∧ va_D A (xX K r f z g tx) ∧ (xI f z) ∧ (gOK K g.2 tt) ∧ (xEk [12, 14, 32, 38, 44, 49, 832, 838, 844] f a g f z g)) (va_up a 55 (upd (a 55) x.toNatClampNeg t22)) ⟨hP, hD, (xI_55 hI b23), hG, (xEk_a hE (by decide))⟩ (fun a_24 ea_24 hq => ?_)
        obtain ⟨hP, hD, hI, hG, hE⟩ := hq
        exact kV_ret hx hb hr hlocks hK hS dX10_land_46 (f, a_24, g) hP hD ⟨hI, hG, hE⟩
set_option maxHeartbeats 4000000 in
set_option maxRecDepth 100000 in
theorem x_4_inHand  (l : Launch) {D : va_G} {K : Nat → ClassId} (r : Nat → Nat) (f : Nat → Int32) (a : Nat → Nat → Int32) (g : xG) (tx tt : va_W) (hT : ∀ c ∈ tt, c ∈ tx) (hI : xI f a) (hG : gOK K g.2 tt)     : kIG l yX4_inHand (Cond.code yX4_inHand cX4_inHand 1 (some .int) :: kG) (rmD 1 0 0) D K [.ref (r 50)] (xX K r f a g tx) (fun v (_ : Unit) => kb (-2147483648) v 2147483647) (fun _ => xX K r f a g tx) 0 0 := by
  refine kIE.of (cc := cX4_inHand) (maxL := 1) (ret := (some .int)) (by decide) rfl (Nat.le_of_ble_eq_true rfl) ?_
  intro p e s m below meth c A hx hb hr hml hown hts hlocks hnm hK hP hD hS hA hV ls hl
  have hg : ∀ w ∈ kG, w.before _ s = true := fun w h => hts w (List.mem_cons_of_mem _ h)
  have hown : s.vm.findClass RX4 = some m.cls := hown
  have hl : lv_has ls 1 [(0, .ref (r 50))] := hl
  refine lv_aload_n hx hb dX4_inHand_0 rfl (lv_at hl 0 rfl) ?_
  refine va_get (D := D) (ci := 4) (v := .int (f 1604)) (C := RX4) (T := TX4) (N := 7) hx hb hg inC4 hown hK hP 50 rfl rfl 4 (by decide) (hg _ wt2_69) (fun _ h9 => h9) rfl dX4_inHand_1 ?_
  refine lv_topi (fun t1 et1 => ?_)
  refine lv_if_lt (tgt := 42) hx hb dX4_inHand_4 (by decide) (fun c2 => ?_) (fun c2 => ?_)
  · have h3 := (kc_lt c2)
    have b4 : kb (-2147483648) t1 (-1) := kr_lt1 h3 (kb_any t1) kc_0 (by decide)
    refine lv_sipush (v := 4000) hx hb dX4_inHand_42 (by decide) ?_
    exact kI_ret (v := 4000) hx hb hr hlocks rfl hK hS dX4_inHand_45 () hP hD (kb_w kc_4000 (by decide) (by decide))
  · have h5 := (kc_nlt c2)
    have b6 : kb 0 t1 2147483647 := kr_le2 h5 kc_0 (kb_any t1)
    refine lv_aload_n hx hb dX4_inHand_7 rfl (lv_at hl 0 rfl) ?_
    refine va_get (D := D) (ci := 4) (v := .int (f 1604)) (C := RX4) (T := TX4) (N := 7) hx hb hg inC4 hown hK hP 50 rfl rfl 4 (by decide) (hg _ wt2_69) (fun _ h9 => h9) rfl dX4_inHand_8 ?_
    refine k_top (z := t1) et1.symm ?_
    refine lv_aload_n hx hb dX4_inHand_11 rfl (lv_at hl 0 rfl) ?_
    refine va_get (D := D) (ci := 4) (v := .int (f 1603)) (C := RX4) (T := TX4) (N := 7) hx hb hg inC4 hown hK hP 50 rfl rfl 3 (by decide) (hg _ wt2_68) (fun _ h9 => h9) rfl dX4_inHand_12 ?_
    refine lv_topi (fun t7 et7 => ?_)
    refine lv_icmp_ge (tgt := 42) hx hb dX4_inHand_15 (by decide) (fun c8 => ?_) (fun c8 => ?_)
    · have h9 := (kc_le c8)
      refine lv_sipush (v := 4000) hx hb dX4_inHand_42 (by decide) ?_
      exact kI_ret (v := 4000) hx hb hr hlocks rfl hK hS dX4_inHand_45 () hP hD (kb_w kc_4000 (by decide) (by decide))
    · have h10 := (kc_nle c8)
      have b11 : kb 0 t1 2147483646 := kr_lt1 h10 b6 (kb_any t7) (by decide)
      have b12 : kb 1 t7 2147483647 := kr_lt2 h10 b6 (kb_any t7) (by decide)
      refine lv_aload_n hx hb dX4_inHand_18 rfl (lv_at hl 0 rfl) ?_
      refine va_get (D := D) (ci := 4) (v := .int (f 1604)) (C := RX4) (T := TX4) (N := 7) hx hb hg inC4 hown hK hP 50 rfl rfl 4 (by decide) (hg _ wt2_69) (fun _ h9 => h9) rfl dX4_inHand_19 ?_
      refine k_top (z := t1) et1.symm ?_
      refine lv_aload_n hx hb dX4_inHand_22 rfl (lv_at hl 0 rfl) ?_
      refine va_get (D := D) (ci := 4) (v := .ref (r 56)) (C := RX4) (T := TX4) (N := 7) hx hb hg inC4 hown hK hP 50 rfl rfl 1 (by decide) (hg _ wt2_66) (fun _ h9 => h9) rfl dX4_inHand_23 ?_
      refine va_alen (v := 401) hx hb hK hP 56 0 rfl rfl rfl dX4_inHand_26 ?_
      refine lv_icmp_ge (tgt := 42) hx hb dX4_inHand_27 (by decide) (fun c13 => ?_) (fun c13 => ?_)
      · have h14 := (kc_le c13)
        have b15 : kb 401 t1 2147483646 := kr_le2 h14 kc_401 b11
        refine lv_sipush (v := 4000) hx hb dX4_inHand_42 (by decide) ?_
        exact kI_ret (v := 4000) hx hb hr hlocks rfl hK hS dX4_inHand_45 () hP hD (kb_w kc_4000 (by decide) (by decide))
      · have h16 := (kc_nle c13)
        have b17 : kb 0 t1 400 := kr_lt1 h16 b11 kc_401 (by decide)
        refine lv_aload_n hx hb dX4_inHand_30 rfl (lv_at hl 0 rfl) ?_
        refine va_get (D := D) (ci := 4) (v := .ref (r 56)) (C := RX4) (T := TX4) (N := 7) hx hb hg inC4 hown hK hP 50 rfl rfl 1 (by decide) (hg _ wt2_66) (fun _ h9 => h9) rfl dX4_inHand_31 ?_
        refine lv_aload_n hx hb dX4_inHand_34 rfl (lv_at hl 0 rfl) ?_
        refine va_get (D := D) (ci := 4) (v := .int (f 1604)) (C := RX4) (T := TX4) (N := 7) hx hb hg inC4 hown hK hP 50 rfl rfl 4 (by decide) (hg _ wt2_69) (fun _ h9 => h9) rfl dX4_inHand_35 ?_
        refine k_top (z := t1) et1.symm ?_
        refine va_iald hx hb hK hP 56 0 rfl rfl (kb_in b17 (by decide) (by decide)) dX4_inHand_38 ?_
        refine lv_topi (fun t18 et18 => ?_)
        refine lv_goto (tgt := 45) hx hb dX4_inHand_39 (by decide) ?_
        exact kI_ret (v := t18) hx hb hr hlocks rfl hK hS dX4_inHand_45 () hP hD (kb_any t18)
set_option maxHeartbeats 4000000 in
set_option maxRecDepth 100000 in
theorem x_4_placeInHand  (l : Launch) {D : va_G} {K : Nat → ClassId} (r : Nat → Nat) (f : Nat → Int32) (a : Nat → Nat → Int32) (g : xG) (tx tt : va_W) (hT : ∀ c ∈ tt, c ∈ tx) (hI : xI f a) (hG : gOK K g.2 tt)     : kIG l yX4_placeInHand (Cond.code yX4_placeInHand cX4_placeInHand 1 (some .int) :: kG) (rmD 1 0 0) D K [.ref (r 50)] (xX K r f a g tx) (fun v (_ : Unit) => kb (-2147483648) v 2147483647) (fun _ => xX K r f a g tx) 0 0 := by
  refine kIE.of (cc := cX4_placeInHand) (maxL := 1) (ret := (some .int)) (by decide) rfl (Nat.le_of_ble_eq_true rfl) ?_
  intro p e s m below meth c A hx hb hr hml hown hts hlocks hnm hK hP hD hS hA hV ls hl
  have hg : ∀ w ∈ kG, w.before _ s = true := fun w h => hts w (List.mem_cons_of_mem _ h)
  have hown : s.vm.findClass RX4 = some m.cls := hown
  have hl : lv_has ls 1 [(0, .ref (r 50))] := hl
  refine lv_aload_n hx hb dX4_placeInHand_0 rfl (lv_at hl 0 rfl) ?_
  refine va_get (D := D) (ci := 4) (v := .int (f 1604)) (C := RX4) (T := TX4) (N := 7) hx hb hg inC4 hown hK hP 50 rfl rfl 4 (by decide) (hg _ wt2_69) (fun _ h9 => h9) rfl dX4_placeInHand_1 ?_
  refine lv_topi (fun t1 et1 => ?_)
  refine lv_if_lt (tgt := 42) hx hb dX4_placeInHand_4 (by decide) (fun c2 => ?_) (fun c2 => ?_)
  · have h3 := (kc_lt c2)
    have b4 : kb (-2147483648) t1 (-1) := kr_lt1 h3 (kb_any t1) kc_0 (by decide)
    refine lv_iconst (v := 0) hx hb dX4_placeInHand_42 (by decide) ?_
    exact kI_ret (v := 0) hx hb hr hlocks rfl hK hS dX4_placeInHand_43 () hP hD (kb_w kc_0 (by decide) (by decide))
  · have h5 := (kc_nlt c2)
    have b6 : kb 0 t1 2147483647 := kr_le2 h5 kc_0 (kb_any t1)
    refine lv_aload_n hx hb dX4_placeInHand_7 rfl (lv_at hl 0 rfl) ?_
    refine va_get (D := D) (ci := 4) (v := .int (f 1604)) (C := RX4) (T := TX4) (N := 7) hx hb hg inC4 hown hK hP 50 rfl rfl 4 (by decide) (hg _ wt2_69) (fun _ h9 => h9) rfl dX4_placeInHand_8 ?_
    refine k_top (z := t1) et1.symm ?_
    refine lv_aload_n hx hb dX4_placeInHand_11 rfl (lv_at hl 0 rfl) ?_
    refine va_get (D := D) (ci := 4) (v := .int (f 1603)) (C := RX4) (T := TX4) (N := 7) hx hb hg inC4 hown hK hP 50 rfl rfl 3 (by decide) (hg _ wt2_68) (fun _ h9 => h9) rfl dX4_placeInHand_12 ?_
    refine lv_topi (fun t7 et7 => ?_)
    refine lv_icmp_ge (tgt := 42) hx hb dX4_placeInHand_15 (by decide) (fun c8 => ?_) (fun c8 => ?_)
    · have h9 := (kc_le c8)
      refine lv_iconst (v := 0) hx hb dX4_placeInHand_42 (by decide) ?_
      exact kI_ret (v := 0) hx hb hr hlocks rfl hK hS dX4_placeInHand_43 () hP hD (kb_w kc_0 (by decide) (by decide))
    · have h10 := (kc_nle c8)
      have b11 : kb 0 t1 2147483646 := kr_lt1 h10 b6 (kb_any t7) (by decide)
      have b12 : kb 1 t7 2147483647 := kr_lt2 h10 b6 (kb_any t7) (by decide)
      refine lv_aload_n hx hb dX4_placeInHand_18 rfl (lv_at hl 0 rfl) ?_
      refine va_get (D := D) (ci := 4) (v := .int (f 1604)) (C := RX4) (T := TX4) (N := 7) hx hb hg inC4 hown hK hP 50 rfl rfl 4 (by decide) (hg _ wt2_69) (fun _ h9 => h9) rfl dX4_placeInHand_19 ?_
      refine k_top (z := t1) et1.symm ?_
      refine lv_aload_n hx hb dX4_placeInHand_22 rfl (lv_at hl 0 rfl) ?_
      refine va_get (D := D) (ci := 4) (v := .ref (r 57)) (C := RX4) (T := TX4) (N := 7) hx hb hg inC4 hown hK hP 50 rfl rfl 2 (by decide) (hg _ wt2_67) (fun _ h9 => h9) rfl dX4_placeInHand_23 ?_
      refine va_alen (v := 401) hx hb hK hP 57 0 rfl rfl rfl dX4_placeInHand_26 ?_
      refine lv_icmp_ge (tgt := 42) hx hb dX4_placeInHand_27 (by decide) (fun c13 => ?_) (fun c13 => ?_)
      · have h14 := (kc_le c13)
        have b15 : kb 401 t1 2147483646 := kr_le2 h14 kc_401 b11
        refine lv_iconst (v := 0) hx hb dX4_placeInHand_42 (by decide) ?_
        exact kI_ret (v := 0) hx hb hr hlocks rfl hK hS dX4_placeInHand_43 () hP hD (kb_w kc_0 (by decide) (by decide))
      · have h16 := (kc_nle c13)
        have b17 : kb 0 t1 400 := kr_lt1 h16 b11 kc_401 (by decide)
        refine lv_aload_n hx hb dX4_placeInHand_30 rfl (lv_at hl 0 rfl) ?_
        refine va_get (D := D) (ci := 4) (v := .ref (r 57)) (C := RX4) (T := TX4) (N := 7) hx hb hg inC4 hown hK hP 50 rfl rfl 2 (by decide) (hg _ wt2_67) (fun _ h9 => h9) rfl dX4_placeInHand_31 ?_
        refine lv_aload_n hx hb dX4_placeInHand_34 rfl (lv_at hl 0 rfl) ?_
        refine va_get (D := D) (ci := 4) (v := .int (f 1604)) (C := RX4) (T := TX4) (N := 7) hx hb hg inC4 hown hK hP 50 rfl rfl 4 (by decide) (hg _ wt2_69) (fun _ h9 => h9) rfl dX4_placeInHand_35 ?_
        refine k_top (z := t1) et1.symm ?_
        refine va_iald hx hb hK hP 57 0 rfl rfl (kb_in b17 (by decide) (by decide)) dX4_placeInHand_38 ?_
        refine lv_topi (fun t18 et18 => ?_)
        refine lv_goto (tgt := 43) hx hb dX4_placeInHand_39 (by decide) ?_
        exact kI_ret (v := t18) hx hb hr hlocks rfl hK hS dX4_placeInHand_43 () hP hD (kb_any t18)
set_option maxHeartbeats 4000000 in
set_option maxRecDepth 100000 in
theorem x_4_addToken  (l : Launch) {D : va_G} {K : Nat → ClassId} (r : Nat → Nat) (f : Nat → Int32) (a : Nat → Nat → Int32) (g : xG) (tx tt : va_W) (hT : ∀ c ∈ tt, c ∈ tx) (hI : xI f a) (hG : gOK K g.2 tt) (x : Int32) (y : Int32)    : kVG l yX4_addToken (Cond.code yX4_addToken cX4_addToken 3 none :: kG) (rmD 1 0 0) D K [.ref (r 50), .int x, .int y] (xX K r f a g tx) (fun (u : xS) => xI u.1 u.2.1 ∧ gOK K u.2.2.2 tt ∧ xEk [12, 14, 32, 38, 44, 49, 832, 838, 844] f a g u.1 u.2.1 u.2.2) (fun u => xX K r u.1 u.2.1 u.2.2 tx) 0 0 := by
  refine kVG.of (cc := cX4_addToken) (maxL := 3) (ret := none) (by decide) rfl (Nat.le_of_ble_eq_true rfl) ?_
  intro p e s m below meth c A hx hb hr hml hown hts hlocks hnm hK hP hD hS hA hV ls hl
  have hE : xEk [12, 14, 32, 38, 44, 49, 832, 838, 844] f a g f a g := xEk_rf
  have hg : ∀ w ∈ kG, w.before _ s = true := fun w h => hts w (List.mem_cons_of_mem _ h)
  have hown : s.vm.findClass RX4 = some m.cls := hown
  have hl : lv_has ls 3 [(0, .ref (r 50)), (1, .int x), (2, .int y)] := hl
  refine lv_aload_n hx hb dX4_addToken_0 rfl (lv_at hl 0 rfl) ?_
  refine va_get (D := D) (ci := 4) (v := .int (f 1603)) (C := RX4) (T := TX4) (N := 7) hx hb hg inC4 hown hK hP 50 rfl rfl 3 (by decide) (hg _ wt2_68) (fun _ h9 => h9) rfl dX4_addToken_1 ?_
  refine lv_topi (fun t1 et1 => ?_)
  refine lv_if_lt (tgt := 49) hx hb dX4_addToken_4 (by decide) (fun c2 => ?_) (fun c2 => ?_)
  · have h3 := (kc_lt c2)
    have b4 : kb (-2147483648) t1 (-1) := kr_lt1 h3 (kb_any t1) kc_0 (by decide)
    exact kV_ret hx hb hr hlocks hK hS dX4_addToken_49 (f, a, g) hP hD ⟨hI, hG, hE⟩
  · have h5 := (kc_nlt c2)
    have b6 : kb 0 t1 2147483647 := kr_le2 h5 kc_0 (kb_any t1)
    refine lv_aload_n hx hb dX4_addToken_7 rfl (lv_at hl 0 rfl) ?_
    refine va_get (D := D) (ci := 4) (v := .int (f 1603)) (C := RX4) (T := TX4) (N := 7) hx hb hg inC4 hown hK hP 50 rfl rfl 3 (by decide) (hg _ wt2_68) (fun _ h9 => h9) rfl dX4_addToken_8 ?_
    refine k_top (z := t1) et1.symm ?_
    refine lv_aload_n hx hb dX4_addToken_11 rfl (lv_at hl 0 rfl) ?_
    refine va_get (D := D) (ci := 4) (v := .ref (r 56)) (C := RX4) (T := TX4) (N := 7) hx hb hg inC4 hown hK hP 50 rfl rfl 1 (by decide) (hg _ wt2_66) (fun _ h9 => h9) rfl dX4_addToken_12 ?_
    refine va_alen (v := 401) hx hb hK hP 56 0 rfl rfl rfl dX4_addToken_15 ?_
    refine lv_icmp_ge (tgt := 49) hx hb dX4_addToken_16 (by decide) (fun c7 => ?_) (fun c7 => ?_)
    · have h8 := (kc_le c7)
      have b9 : kb 401 t1 2147483647 := kr_le2 h8 kc_401 b6
      exact kV_ret hx hb hr hlocks hK hS dX4_addToken_49 (f, a, g) hP hD ⟨hI, hG, hE⟩
    · have h10 := (kc_nle c7)
      have b11 : kb 0 t1 400 := kr_lt1 h10 b6 kc_401 (by decide)
      refine lv_aload_n hx hb dX4_addToken_19 rfl (lv_at hl 0 rfl) ?_
      refine va_get (D := D) (ci := 4) (v := .ref (r 56)) (C := RX4) (T := TX4) (N := 7) hx hb hg inC4 hown hK hP 50 rfl rfl 1 (by decide) (hg _ wt2_66) (fun _ h9 => h9) rfl dX4_addToken_20 ?_
      refine lv_aload_n hx hb dX4_addToken_23 rfl (lv_at hl 0 rfl) ?_
      refine va_get (D := D) (ci := 4) (v := .int (f 1603)) (C := RX4) (T := TX4) (N := 7) hx hb hg inC4 hown hK hP 50 rfl rfl 3 (by decide) (hg _ wt2_68) (fun _ h9 => h9) rfl dX4_addToken_24 ?_
      refine k_top (z := t1) et1.symm ?_
      refine lv_iload_n hx hb dX4_addToken_27 rfl (lv_at hl 1 rfl) ?_
      refine va_iast hx hb hK hP hD hS 56 0 rfl rfl (kb_in b11 (by decide) (by decide)) dX4_addToken_28 (fun H locs hP hD hS => ?_)
      have hP : va_P D vwCl (xX K r f (va_up a 56 (upd (a 56) t1.toNatClampNeg x)) g tx) H := hP
      have hD : va_D A (xX K r f (va_up a 56 (upd (a 56) t1.toNatClampNeg x)) g tx) := hD
      refine k_gen (P := fun z => va_P D vwCl (xX K r f z g tx) H ∧ va_D A (xX K r f z g tx) ∧ (xI f z) ∧ (gOK K g.2 tt) ∧ (xEk [12, 14, 32, 38, 44, 49, 832, 838, 844] f a g f z g)) (va_up a 56 (upd (a 56) t1.toNatClampNeg x)) ⟨hP, hD, (xI_a hI (by decide)), hG, (xEk_a hE (by decide))⟩ (fun a_12 ea_12 hq => ?_)
      obtain ⟨hP, hD, hI, hG, hE⟩ := hq
      refine lv_aload_n hx hb dX4_addToken_29 rfl (lv_at hl 0 rfl) ?_
      refine va_get (D := D) (ci := 4) (v := .ref (r 57)) (C := RX4) (T := TX4) (N := 7) hx hb hg inC4 hown hK hP 50 rfl rfl 2 (by decide) (hg _ wt2_67) (fun _ h9 => h9) rfl dX4_addToken_30 ?_
      refine lv_aload_n hx hb dX4_addToken_33 rfl (lv_at hl 0 rfl) ?_
      refine va_get (D := D) (ci := 4) (v := .int (f 1603)) (C := RX4) (T := TX4) (N := 7) hx hb hg inC4 hown hK hP 50 rfl rfl 3 (by decide) (hg _ wt2_68) (fun _ h9 => h9) rfl dX4_addToken_34 ?_
      refine k_top (z := t1) et1.symm ?_
      refine lv_iload_n hx hb dX4_addToken_37 rfl (lv_at hl 2 rfl) ?_
      refine va_iast hx hb hK hP hD hS 57 0 rfl rfl (kb_in b11 (by decide) (by decide)) dX4_addToken_38 (fun H locs hP hD hS => ?_)
      have hP : va_P D vwCl (xX K r f (va_up a_12 57 (upd (a_12 57) t1.toNatClampNeg y)) g tx) H := hP
      have hD : va_D A (xX K r f (va_up a_12 57 (upd (a_12 57) t1.toNatClampNeg y)) g tx) := hD
      refine k_gen (P := fun z => va_P D vwCl (xX K r f z g tx) H ∧ va_D A (xX K r f z g tx) ∧ (xI f z) ∧ (gOK K g.2 tt) ∧ (xEk [12, 14, 32, 38, 44, 49, 832, 838, 844] f a g f z g)) (va_up a_12 57 (upd (a_12 57) t1.toNatClampNeg y)) ⟨hP, hD, (xI_a hI (by decide)), hG, (xEk_a hE (by decide))⟩ (fun a_13 ea_13 hq => ?_)
      obtain ⟨hP, hD, hI, hG, hE⟩ := hq
      refine lv_aload_n hx hb dX4_addToken_39 rfl (lv_at hl 0 rfl) ?_
      refine lv_dup hx hb dX4_addToken_40 rfl ?_
      refine va_get (D := D) (ci := 4) (v := .int (f 1603)) (C := RX4) (T := TX4) (N := 7) hx hb hg inC4 hown hK hP 50 rfl rfl 3 (by decide) (hg _ wt2_68) (fun _ h9 => h9) rfl dX4_addToken_41 ?_
      refine k_top (z := t1) et1.symm ?_
      refine lv_iconst (v := 1) hx hb dX4_addToken_44 (by decide) ?_
      refine lv_iadd hx hb dX4_addToken_45 ?_
      refine lv_topi (fun t14 et14 => ?_)
      have b15 : kb 1 t14 401 := kb_eq et14 (kb_add b11 kc_1 (by decide) (by decide))
      have qt14 : t14.toInt = t1.toInt + 1 := by rw [et14]; exact kt_addc b11 kc_1 (by decide) (by decide)
      refine va_put (D := D) (ci := 4) (v := .int t14) (ty := .int) (C := RX4) (T := TX4) (N := 7) hx hb hg inC4 tyX4 tyX4_ok nmX4 hown hK hP hD hS 50 rfl rfl 3 (by decide) (hg _ wt2_68) (fun _ h9 => h9) rfl (by decide +kernel) rfl rfl (Nat.le_of_ble_eq_true rfl) dX4_addToken_46 (fun H locs hP hD hS => ?_)
      have hP : va_P D vwCl (xX K r (upd f 1603 t14) a_13 g tx) H := hP
      have hD : va_D A (xX K r (upd f 1603 t14) a_13 g tx) := hD
      refine k_gen (P := fun z => va_P D vwCl (xX K r z a_13 g tx) H ∧ va_D A (xX K r z a_13 g tx) ∧ (xI z a_13) ∧ (gOK K g.2 tt) ∧ (xEk [12, 14, 32, 38, 44, 49, 832, 838, 844] f a g z a_13 g)) (upd f 1603 t14) ⟨hP, hD, (xI_f hI (fI_st hI.1 1603 (kb_any _) (by decide) (by decide))), hG, (xEk_f hE (by decide))⟩ (fun f_16 ef_16 hq => ?_)
      obtain ⟨hP, hD, hI, hG, hE⟩ := hq
      exact kV_ret hx hb hr hlocks hK hS dX4_addToken_49 (f_16, a_13, g) hP hD ⟨hI, hG, hE⟩
set_option maxHeartbeats 4000000 in
set_option maxRecDepth 100000 in
theorem x_4_numberToken  (l : Launch) {D : va_G} {K : Nat → ClassId} (r : Nat → Nat) (f : Nat → Int32) (a : Nat → Nat → Int32) (g : xG) (tx tt : va_W) (hT : ∀ c ∈ tt, c ∈ tx) (hI : xI f a) (hG : gOK K g.2 tt) (fr : Int32) (to : Int32) (bfr : kb 0 fr 400) (bto : kb 0 to 400)   : kIG l yX4_numberToken (Cond.code yX4_numberToken cX4_numberToken 5 (some .int) :: kG) (rmD 1 0 0) D K [.ref (r 93), .int fr, .int to] (xX K r f a g tx) (fun v (_ : Unit) => kb (-2147483648) v 2147483647) (fun _ => xX K r f a g tx) 0 0 := by
  refine kIE.of (cc := cX4_numberToken) (maxL := 5) (ret := (some .int)) (by decide) rfl (Nat.le_of_ble_eq_true rfl) ?_
  intro p e s m below meth c A hx hb hr hml hown hts hlocks hnm hK hP hD hS hA hV ls hl
  have hg : ∀ w ∈ kG, w.before _ s = true := fun w h => hts w (List.mem_cons_of_mem _ h)
  have hown : s.vm.findClass RX4 = some m.cls := hown
  have hl : lv_has ls 5 [(0, .ref (r 93)), (1, .int fr), (2, .int to)] := hl
  refine lv_iconst (v := 0) hx hb dX4_numberToken_0 (by decide) ?_
  refine lv_istore_n (lv' := [(3, .int 0), (0, .ref (r 93)), (1, .int fr), (2, .int to)]) hx hb dX4_numberToken_1 rfl hl (by decide) rfl (fun ls hl => ?_)
  refine lv_iload_n hx hb dX4_numberToken_2 rfl (lv_at hl 2 rfl) ?_
  refine lv_istore (lv' := [(4, .int fr), (3, .int 0), (0, .ref (r 93)), (1, .int fr), (2, .int to)]) hx hb dX4_numberToken_3 hl (by decide) rfl (fun ls hl => ?_)
  have lp3 : ∀ (n4 : Nat) (H : Heap) (locs : List Loc) (ls : Array Slot) (y1 : Int32) (y2 : Int32), (400 < y1.toInt + (n4 : Int)) → (kb 0 y1 400) → va_P D vwCl (xX K r f a g tx) H → va_D A (xX K r f a g tx) → va_S A s.heap H locs → lv_has ls 5 [(4, .int y1), (3, .int y2), (0, .ref (r 93)), (1, .int fr), (2, .int to)] → W p l e (rmD 1 0 0) s m ([.ref (r 93), .int fr, .int to] : List Value).toArray below meth c H locs 0 0 (kQi D (tysK K) (fun v (_ : Unit) => kb (-2147483648) v 2147483647) (fun _ => xX K r f a g tx) A below ([.ref (r 93), .int fr, .int to] : List Value).toArray s 0 0) (F0 m 5 ls []) := by
    intro n4
    induction n4 with
    | zero =>
      intro   H locs ls y1 y2 hmlp3 b5 hP hD hS hl
      exact (by have h1 := b5.2; have h2 := hmlp3; omega : False).elim
    | succ n4 ihlp3 =>
      intro   H locs ls y1 y2 hmlp3 b5 hP hD hS hl
      refine lv_iload hx hb dX4_numberToken_5 (lv_at hl 0 rfl) ?_
      refine lv_iload_n hx hb dX4_numberToken_7 rfl (lv_at hl 4 rfl) ?_
      have jn21 : ∀ (H : Heap) (locs : List Loc) (ls : Array Slot), va_P D vwCl (xX K r f a g tx) H → va_D A (xX K r f a g tx) → va_S A s.heap H locs → lv_has ls 5 [(4, .int y1), (3, .int y2), (0, .ref (r 93)), (1, .int fr), (2, .int to)] → W p l e (rmD 1 0 0) s m ([.ref (r 93), .int fr, .int to] : List Value).toArray below meth c H locs 0 0 (kQi D (tysK K) (fun v (_ : Unit) => kb (-2147483648) v 2147483647) (fun _ => xX K r f a g tx) A below ([.ref (r 93), .int fr, .int to] : List Value).toArray s 0 0) (F0 m 37 ls []) := by
        intro  H locs ls   hP hD hS hl
        refine lv_iload_n hx hb dX4_numberToken_37 rfl (lv_at hl 1 rfl) ?_
        refine lv_sipush (v := 1000) hx hb dX4_numberToken_38 (by decide) ?_
        refine lv_icmp_le (tgt := 50) hx hb dX4_numberToken_41 (by decide) (fun c22 => ?_) (fun c22 => ?_)
        · have h23 := (kc_le c22)
          have b24 : kb (-2147483648) y2 1000 := kr_le1 h23 (kb_any y2) kc_1000
          refine lv_iload_n hx hb dX4_numberToken_50 rfl (lv_at hl 1 rfl) ?_
          exact kI_ret (v := y2) hx hb hr hlocks rfl hK hS dX4_numberToken_51 () hP hD (kb_w b24 (by decide) (by decide))
        · have h25 := (kc_nle c22)
          have b26 : kb 1001 y2 2147483647 := kr_lt2 h25 kc_1000 (kb_any y2) (by decide)
          refine lv_sipush (v := 1001) hx hb dX4_numberToken_44 (by decide) ?_
          refine lv_goto (tgt := 51) hx hb dX4_numberToken_47 (by decide) ?_
          exact kI_ret (v := 1001) hx hb hr hlocks rfl hK hS dX4_numberToken_51 () hP hD (kb_w kc_1001 (by decide) (by decide))
      refine lv_icmp_ge (tgt := 37) hx hb dX4_numberToken_8 (by decide) (fun c27 => ?_) (fun c27 => ?_)
      · have h28 := (kc_le c27)
        exact jn21 _ _ _   hP hD hS (lv_sub hl [0, 1, 2, 3, 4] rfl)
      · have h29 := (kc_nle c27)
        have b30 : kb 0 y1 399 := kr_lt1 h29 b5 bto (by decide)
        have b31 : kb 1 to 400 := kr_lt2 h29 b5 bto (by decide)
        refine lv_iload_n hx hb dX4_numberToken_11 rfl (lv_at hl 1 rfl) ?_
        refine lv_sipush (v := 1000) hx hb dX4_numberToken_12 (by decide) ?_
        refine lv_icmp_gt (tgt := 37) hx hb dX4_numberToken_15 (by decide) (fun c32 => ?_) (fun c32 => ?_)
        · have h33 := (kc_lt c32)
          have b34 : kb 1001 y2 2147483647 := kr_lt2 h33 kc_1000 (kb_any y2) (by decide)
          exact jn21 _ _ _   hP hD hS (lv_sub hl [0, 1, 2, 3, 4] rfl)
        · have h35 := (kc_nlt c32)
          have b36 : kb (-2147483648) y2 1000 := kr_le1 h35 (kb_any y2) kc_1000
          refine lv_iload_n hx hb dX4_numberToken_18 rfl (lv_at hl 1 rfl) ?_
          refine lv_bipush (v := 10) hx hb dX4_numberToken_19 (by decide) ?_
          refine lv_imul hx hb dX4_numberToken_21 ?_
          refine lv_topi (fun t37 et37 => ?_)
          refine lv_aload_n hx hb dX4_numberToken_22 rfl (lv_at hl 2 rfl) ?_
          refine lv_iload hx hb dX4_numberToken_23 (lv_at hl 0 rfl) ?_
          refine va_bald hx hb hK hP 93 1 rfl rfl (kb_in b30 (by decide) (by decide)) dX4_numberToken_25 ?_
          refine lv_topi (fun t38 et38 => ?_)
          refine lv_iadd hx hb dX4_numberToken_26 ?_
          refine lv_topi (fun t39 et39 => ?_)
          refine lv_bipush (v := 48) hx hb dX4_numberToken_27 (by decide) ?_
          refine lv_isub hx hb dX4_numberToken_29 ?_
          refine lv_topi (fun t40 et40 => ?_)
          refine lv_istore_n (lv' := [(3, .int t40), (4, .int y1), (0, .ref (r 93)), (1, .int fr), (2, .int to)]) hx hb dX4_numberToken_30 rfl hl (by decide) rfl (fun ls hl => ?_)
          obtain ⟨t41, et41⟩ : ∃ z : Int32, z = y1 + Int32.ofInt 1 := ⟨_, rfl⟩
          have qt41 : t41.toInt = y1.toInt + 1 := by rw [et41]; exact km_inc b30 (by decide) (by decide)
          have b42 : kb 1 t41 400 := kb_inc (k := 1) qt41 b30
          refine lv_iinc (v := t41) (lv' := [(4, .int t41), (3, .int t40), (0, .ref (r 93)), (1, .int fr), (2, .int to)]) hx hb dX4_numberToken_31 hl (k := 1) rfl et41.symm (by decide) rfl (fun ls hl => ?_)
          refine lv_goto (tgt := 5) hx hb dX4_numberToken_34 (by decide) ?_
          exact ihlp3  _ _ _ t41 t40 (km_up hmlp3 qt41) (kb_w b42 (by decide) (by decide)) hP hD hS (lv_sub hl [0, 1, 2, 3, 4] rfl)
  exact lp3 (401)  _ _ _ fr 0 (by have h1 := (bfr); unfold kb at h1; omega) bfr hP hD hS (lv_sub hl [0, 1, 2, 3, 4] rfl)
set_option maxHeartbeats 4000000 in
set_option maxRecDepth 100000 in
theorem x_4_emitIfAny  (l : Launch) {D : va_G} {K : Nat → ClassId} (r : Nat → Nat) (f : Nat → Int32) (a : Nat → Nat → Int32) (g : xG) (tx tt : va_W) (hT : ∀ c ∈ tt, c ∈ tx) (hI : xI f a) (hG : gOK K g.2 tt) (op : Int32) (bop : kb (-1) op 12)   : kVG l yX4_emitIfAny (Cond.code yX4_emitIfAny cX4_emitIfAny 2 none :: kG) (rmD 2 0 0) D K [.ref (r 50), .int op] (xX K r f a g tx) (fun (u : xS) => xI u.1 u.2.1 ∧ gOK K u.2.2.2 tt ∧ xEk [12, 14, 32, 38, 44, 49, 832, 838, 844] f a g u.1 u.2.1 u.2.2) (fun u => xX K r u.1 u.2.1 u.2.2 tx) 0 0 := by
  refine kVG.of (cc := cX4_emitIfAny) (maxL := 2) (ret := none) (by decide) rfl (Nat.le_of_ble_eq_true rfl) ?_
  intro p e s m below meth c A hx hb hr hml hown hts hlocks hnm hK hP hD hS hA hV ls hl
  have hE : xEk [12, 14, 32, 38, 44, 49, 832, 838, 844] f a g f a g := xEk_rf
  have hg : ∀ w ∈ kG, w.before _ s = true := fun w h => hts w (List.mem_cons_of_mem _ h)
  have hown : s.vm.findClass RX4 = some m.cls := hown
  have hl : lv_has ls 2 [(0, .ref (r 50)), (1, .int op)] := hl
  refine lv_iload_n hx hb dX4_emitIfAny_0 rfl (lv_at hl 1 rfl) ?_
  refine lv_iconst (v := (-1)) hx hb dX4_emitIfAny_1 (by decide) ?_
  refine lv_icmp_eq (tgt := 15) hx hb dX4_emitIfAny_2 (by decide) (fun c1 => ?_) (fun c1 => ?_)
  · have b2 : kb (-1) op (-1) := kb_eq c1 kc_m1
    exact kV_ret hx hb hr hlocks hK hS dX4_emitIfAny_15 (f, a, g) hP hD ⟨hI, hG, hE⟩
  · have b3 : kb 0 op 12 := kr_nel c1 bop kc_m1 (by decide)
    refine lv_aload_n hx hb dX4_emitIfAny_5 rfl (lv_at hl 0 rfl) ?_
    refine va_get (D := D) (ci := 4) (v := .ref (r 51)) (C := RX4) (T := TX4) (N := 7) hx hb hg inC4 hown hK hP 50 rfl rfl 0 (by decide) (hg _ wt2_64) (fun _ h9 => h9) rfl dX4_emitIfAny_6 ?_
    refine lv_iload_n hx hb dX4_emitIfAny_9 rfl (lv_at hl 1 rfl) ?_
    refine lv_iconst (v := 0) hx hb dX4_emitIfAny_10 (by decide) ?_
    refine kIG.callW (As := [.int op, .int 0]) (rest := []) ⟨hx, hb, hml, hown, hg⟩ (x_10_emit l r f a g tx tt hT hI hG op 0 b3 ) (cwV 2 hg (kgV wt4_14 wt4_15 wt4_16 wt1_8 wt4_17) rfl rfl rfl (by decide +kernel) ⟨by decide, by decide⟩) hV hK hP hD hS hA (51) 10 rfl rfl rfl hl.1 rfl (Nat.le_of_ble_eq_true rfl) dX4_emitIfAny_11 ⟨Nat.le_refl _, Nat.le_refl _⟩ (fun v5 u6 H locs hw4 hP hD hS => ?_)
    obtain ⟨f7, a8, g9⟩ := u6
    have hP : va_P D vwCl (xX K r f7 a8 g9 tx) H := hP
    have hD : va_D A (xX K r f7 a8 g9 tx) := hD
    have hI : xI f7 a8 := hw4.2.1
    have hG : gOK K g9.2 tt := hw4.2.2.1
    have eE10 : xEk [12, 14, 32, 38, 44, 49, 832, 838, 844] f a g f7 a8 g9 := hw4.2.2.2
    have hE : xEk [12, 14, 32, 38, 44, 49, 832, 838, 844] f a g f7 a8 g9 := xEk_tr hE eE10
    refine lv_pop hx hb dX4_emitIfAny_14 rfl ?_
    exact kV_ret hx hb hr hlocks hK hS dX4_emitIfAny_15 (f7, a8, g9) hP hD ⟨hI, hG, hE⟩
set_option maxHeartbeats 4000000 in
set_option maxRecDepth 100000 in
theorem x_4_takeLawWord  (l : Launch) {D : va_G} {K : Nat → ClassId} (r : Nat → Nat) (f : Nat → Int32) (a : Nat → Nat → Int32) (g : xG) (tx tt : va_W) (hT : ∀ c ∈ tt, c ∈ tx) (hI : xI f a) (hG : gOK K g.2 tt) (x : Int32)    : kIG l yX4_takeLawWord (Cond.code yX4_takeLawWord cX4_takeLawWord 3 (some .int) :: kG) (rmD 1 0 0) D K [.ref (r 50), .int x] (xX K r f a g tx) (fun v (u : xS) => kb (-2147483648) v 2147483647 ∧ xI u.1 u.2.1 ∧ gOK K u.2.2.2 tt ∧ xEk [12, 14, 32, 38, 44, 49, 832, 838, 844] f a g u.1 u.2.1 u.2.2) (fun u => xX K r u.1 u.2.1 u.2.2 tx) 0 0 := by
  refine kIE.of (cc := cX4_takeLawWord) (maxL := 3) (ret := (some .int)) (by decide) rfl (Nat.le_of_ble_eq_true rfl) ?_
  intro p e s m below meth c A hx hb hr hml hown hts hlocks hnm hK hP hD hS hA hV ls hl
  have hE : xEk [12, 14, 32, 38, 44, 49, 832, 838, 844] f a g f a g := xEk_rf
  have hg : ∀ w ∈ kG, w.before _ s = true := fun w h => hts w (List.mem_cons_of_mem _ h)
  have hown : s.vm.findClass RX4 = some m.cls := hown
  have hl : lv_has ls 3 [(0, .ref (r 50)), (1, .int x)] := hl
  refine lv_iload_n hx hb dX4_takeLawWord_0 rfl (lv_at hl 1 rfl) ?_
  refine lv_sipush (v := 2008) hx hb dX4_takeLawWord_1 (by decide) ?_
  refine lv_isub hx hb dX4_takeLawWord_4 ?_
  refine lv_topi (fun t1 et1 => ?_)
  refine lv_istore_n (lv' := [(2, .int t1), (0, .ref (r 50)), (1, .int x)]) hx hb dX4_takeLawWord_5 rfl hl (by decide) rfl (fun ls hl => ?_)
  refine lv_iload_n hx hb dX4_takeLawWord_6 rfl (lv_at hl 0 rfl) ?_
  refine lv_if_lt (tgt := 16) hx hb dX4_takeLawWord_7 (by decide) (fun c2 => ?_) (fun c2 => ?_)
  · have h3 := (kc_lt c2)
    have b4 : kb (-2147483648) t1 (-1) := kr_lt1 h3 (kb_any t1) kc_0 (by decide)
    refine lv_iconst (v := (-1)) hx hb dX4_takeLawWord_16 (by decide) ?_
    exact kI_ret (v := (-1)) hx hb hr hlocks rfl hK hS dX4_takeLawWord_17 (f, a, g) hP hD ⟨(kb_w kc_m1 (by decide) (by decide)), hI, hG, hE⟩
  · have h5 := (kc_nlt c2)
    have b6 : kb 0 t1 2147483647 := kr_le2 h5 kc_0 (kb_any t1)
    refine lv_iload_n hx hb dX4_takeLawWord_10 rfl (lv_at hl 0 rfl) ?_
    refine lv_bipush (v := 10) hx hb dX4_takeLawWord_11 (by decide) ?_
    refine lv_icmp_lt (tgt := 18) hx hb dX4_takeLawWord_13 (by decide) (fun c7 => ?_) (fun c7 => ?_)
    · have h8 := (kc_lt c7)
      have b9 : kb 0 t1 9 := kr_lt1 h8 b6 kc_10 (by decide)
      refine lv_aload_n hx hb dX4_takeLawWord_18 rfl (lv_at hl 1 rfl) ?_
      refine lv_dup hx hb dX4_takeLawWord_19 rfl ?_
      refine va_get (D := D) (ci := 4) (v := .int (f 1604)) (C := RX4) (T := TX4) (N := 7) hx hb hg inC4 hown hK hP 50 rfl rfl 4 (by decide) (hg _ wt2_69) (fun _ h9 => h9) rfl dX4_takeLawWord_20 ?_
      refine lv_topi (fun t10 et10 => ?_)
      refine lv_iconst (v := 1) hx hb dX4_takeLawWord_23 (by decide) ?_
      refine lv_iadd hx hb dX4_takeLawWord_24 ?_
      refine lv_topi (fun t11 et11 => ?_)
      refine va_put (D := D) (ci := 4) (v := .int t11) (ty := .int) (C := RX4) (T := TX4) (N := 7) hx hb hg inC4 tyX4 tyX4_ok nmX4 hown hK hP hD hS 50 rfl rfl 4 (by decide) (hg _ wt2_69) (fun _ h9 => h9) rfl (by decide +kernel) rfl rfl (Nat.le_of_ble_eq_true rfl) dX4_takeLawWord_25 (fun H locs hP hD hS => ?_)
      have hP : va_P D vwCl (xX K r (upd f 1604 t11) a g tx) H := hP
      have hD : va_D A (xX K r (upd f 1604 t11) a g tx) := hD
      refine k_gen (P := fun z => va_P D vwCl (xX K r z a g tx) H ∧ va_D A (xX K r z a g tx) ∧ (xI z a) ∧ (gOK K g.2 tt) ∧ (xEk [12, 14, 32, 38, 44, 49, 832, 838, 844] f a g z a g)) (upd f 1604 t11) ⟨hP, hD, (xI_f hI (fI_st hI.1 1604 (kb_any _) (by decide) (by decide))), hG, (xEk_f hE (by decide))⟩ (fun f_12 ef_12 hq => ?_)
      obtain ⟨hP, hD, hI, hG, hE⟩ := hq
      refine lv_iload_n hx hb dX4_takeLawWord_28 rfl (lv_at hl 0 rfl) ?_
      exact kI_ret (v := t1) hx hb hr hlocks rfl hK hS dX4_takeLawWord_29 (f_12, a, g) hP hD ⟨(kb_w b9 (by decide) (by decide)), hI, hG, hE⟩
    · have h13 := (kc_nlt c7)
      have b14 : kb 10 t1 2147483647 := kr_le2 h13 kc_10 b6
      refine lv_iconst (v := (-1)) hx hb dX4_takeLawWord_16 (by decide) ?_
      exact kI_ret (v := (-1)) hx hb hr hlocks rfl hK hS dX4_takeLawWord_17 (f, a, g) hP hD ⟨(kb_w kc_m1 (by decide) (by decide)), hI, hG, hE⟩
set_option maxHeartbeats 4000000 in
set_option maxRecDepth 100000 in
theorem x_4_takeOrderWord  (l : Launch) {D : va_G} {K : Nat → ClassId} (r : Nat → Nat) (f : Nat → Int32) (a : Nat → Nat → Int32) (g : xG) (tx tt : va_W) (hT : ∀ c ∈ tt, c ∈ tx) (hI : xI f a) (hG : gOK K g.2 tt) (x : Int32)    : kIG l yX4_takeOrderWord (Cond.code yX4_takeOrderWord cX4_takeOrderWord 5 (some .int) :: kG) (rmD 2 0 0) D K [.ref (r 50), .int x] (xX K r f a g tx) (fun v (u : xS) => kb (-2147483648) v 2147483647 ∧ xI u.1 u.2.1 ∧ gOK K u.2.2.2 tt ∧ xEk [12, 14, 32, 38, 44, 49, 832, 838, 844] f a g u.1 u.2.1 u.2.2) (fun u => xX K r u.1 u.2.1 u.2.2 tx) 0 0 := by
  refine kIE.of (cc := cX4_takeOrderWord) (maxL := 5) (ret := (some .int)) (by decide) rfl (Nat.le_of_ble_eq_true rfl) ?_
  intro p e s m below meth c A hx hb hr hml hown hts hlocks hnm hK hP hD hS hA hV ls hl
  have hE : xEk [12, 14, 32, 38, 44, 49, 832, 838, 844] f a g f a g := xEk_rf
  have hg : ∀ w ∈ kG, w.before _ s = true := fun w h => hts w (List.mem_cons_of_mem _ h)
  have hown : s.vm.findClass RX4 = some m.cls := hown
  have hl : lv_has ls 5 [(0, .ref (r 50)), (1, .int x)] := hl
  refine lv_iload_n hx hb dX4_takeOrderWord_0 rfl (lv_at hl 1 rfl) ?_
  refine lv_sipush (v := 2016) hx hb dX4_takeOrderWord_1 (by decide) ?_
  have jn9 : ∀ (H : Heap) (locs : List Loc) (ls : Array Slot) (z8 : Int32), (kb (-1) z8 3) → va_P D vwCl (xX K r f a g tx) H → va_D A (xX K r f a g tx) → va_S A s.heap H locs → lv_has ls 5 [(0, .ref (r 50)), (1, .int x)] → W p l e (rmD 2 0 0) s m ([.ref (r 50), .int x] : List Value).toArray below meth c H locs 0 0 (kQi D (tysK K) (fun v (u : xS) => kb (-2147483648) v 2147483647 ∧ xI u.1 u.2.1 ∧ gOK K u.2.2.2 tt ∧ xEk [12, 14, 32, 38, 44, 49, 832, 838, 844] f a g u.1 u.2.1 u.2.2) (fun u => xX K r u.1 u.2.1 u.2.2 tx) A below ([.ref (r 50), .int x] : List Value).toArray s 0 0) (F0 m 45 ls [.int z8]) := by
    intro  H locs ls z8 b10 hP hD hS hl
    refine lv_istore_n (lv' := [(2, .int z8), (0, .ref (r 50)), (1, .int x)]) hx hb dX4_takeOrderWord_45 rfl hl (by decide) rfl (fun ls hl => ?_)
    refine lv_iload_n hx hb dX4_takeOrderWord_46 rfl (lv_at hl 0 rfl) ?_
    refine lv_iconst (v := (-1)) hx hb dX4_takeOrderWord_47 (by decide) ?_
    refine lv_icmp_eq (tgt := 63) hx hb dX4_takeOrderWord_48 (by decide) (fun c11 => ?_) (fun c11 => ?_)
    · have b12 : kb (-1) z8 (-1) := kb_eq c11 kc_m1
      refine lv_iload_n hx hb dX4_takeOrderWord_63 rfl (lv_at hl 2 rfl) ?_
      refine lv_sipush (v := 2014) hx hb dX4_takeOrderWord_64 (by decide) ?_
      have jn19 : ∀ (H : Heap) (locs : List Loc) (ls : Array Slot) (z18 : Int32), (kb (-1) z18 20) → va_P D vwCl (xX K r f a g tx) H → va_D A (xX K r f a g tx) → va_S A s.heap H locs → lv_has ls 5 [(2, .int z8), (0, .ref (r 50)), (1, .int x)] → W p l e (rmD 2 0 0) s m ([.ref (r 50), .int x] : List Value).toArray below meth c H locs 0 0 (kQi D (tysK K) (fun v (u : xS) => kb (-2147483648) v 2147483647 ∧ xI u.1 u.2.1 ∧ gOK K u.2.2.2 tt ∧ xEk [12, 14, 32, 38, 44, 49, 832, 838, 844] f a g u.1 u.2.1 u.2.2) (fun u => xX K r u.1 u.2.1 u.2.2 tx) A below ([.ref (r 50), .int x] : List Value).toArray s 0 0) (F0 m 99 ls [.int z18]) := by
        intro  H locs ls z18 b20 hP hD hS hl
        refine lv_istore_n (lv' := [(3, .int z18), (2, .int z8), (0, .ref (r 50)), (1, .int x)]) hx hb dX4_takeOrderWord_99 rfl hl (by decide) rfl (fun ls hl => ?_)
        refine lv_iload_n hx hb dX4_takeOrderWord_100 rfl (lv_at hl 0 rfl) ?_
        refine lv_iconst (v := (-1)) hx hb dX4_takeOrderWord_101 (by decide) ?_
        refine lv_icmp_ne (tgt := 107) hx hb dX4_takeOrderWord_102 (by decide) (fun c21 => ?_) (fun c21 => ?_)
        · have b22 : kb 0 z18 20 := kr_nel c21 b20 kc_m1 (by decide)
          refine lv_aload_n hx hb dX4_takeOrderWord_107 rfl (lv_at hl 2 rfl) ?_
          refine lv_dup hx hb dX4_takeOrderWord_108 rfl ?_
          refine va_get (D := D) (ci := 4) (v := .int (f 1604)) (C := RX4) (T := TX4) (N := 7) hx hb hg inC4 hown hK hP 50 rfl rfl 4 (by decide) (hg _ wt2_69) (fun _ h9 => h9) rfl dX4_takeOrderWord_109 ?_
          refine lv_topi (fun t23 et23 => ?_)
          refine lv_iconst (v := 1) hx hb dX4_takeOrderWord_112 (by decide) ?_
          refine lv_iadd hx hb dX4_takeOrderWord_113 ?_
          refine lv_topi (fun t24 et24 => ?_)
          refine va_put (D := D) (ci := 4) (v := .int t24) (ty := .int) (C := RX4) (T := TX4) (N := 7) hx hb hg inC4 tyX4 tyX4_ok nmX4 hown hK hP hD hS 50 rfl rfl 4 (by decide) (hg _ wt2_69) (fun _ h9 => h9) rfl (by decide +kernel) rfl rfl (Nat.le_of_ble_eq_true rfl) dX4_takeOrderWord_114 (fun H locs hP hD hS => ?_)
          have hP : va_P D vwCl (xX K r (upd f 1604 t24) a g tx) H := hP
          have hD : va_D A (xX K r (upd f 1604 t24) a g tx) := hD
          refine k_gen (P := fun z => va_P D vwCl (xX K r z a g tx) H ∧ va_D A (xX K r z a g tx) ∧ (xI z a) ∧ (gOK K g.2 tt) ∧ (xEk [12, 14, 32, 38, 44, 49, 832, 838, 844] f a g z a g)) (upd f 1604 t24) ⟨hP, hD, (xI_f hI (fI_st hI.1 1604 (kb_any _) (by decide) (by decide))), hG, (xEk_f hE (by decide))⟩ (fun f_25 ef_25 hq => ?_)
          obtain ⟨hP, hD, hI, hG, hE⟩ := hq
          refine lv_aload_n hx hb dX4_takeOrderWord_117 rfl (lv_at hl 2 rfl) ?_
          refine kIG.callW (As := []) (rest := []) ⟨hx, hb, hml, hown, hg⟩ (x_4_inHand l r f_25 a g tx tt hT hI hG   ) (cwV 0 hg (kgV wt3_238 wt4_0 wp1_12 wt1_7 wt4_1) rfl rfl rfl (by decide +kernel) ⟨by decide, by decide⟩) hV hK hP hD hS hA (50) 4 rfl rfl rfl hl.1 rfl (Nat.le_of_ble_eq_true rfl) dX4_takeOrderWord_118 ⟨Nat.le_refl _, Nat.le_refl _⟩ (fun v27 u28 H locs hw26 hP hD hS => ?_)
          have hP : va_P D vwCl (xX K r f_25 a g tx) H := hP
          have hD : va_D A (xX K r f_25 a g tx) := hD
          refine lv_istore (lv' := [(4, .int v27), (3, .int z18), (2, .int z8), (0, .ref (r 50)), (1, .int x)]) hx hb dX4_takeOrderWord_121 hl (by decide) rfl (fun ls hl => ?_)
          refine lv_iload hx hb dX4_takeOrderWord_123 (lv_at hl 0 rfl) ?_
          refine lv_if_lt (tgt := 145) hx hb dX4_takeOrderWord_125 (by decide) (fun c29 => ?_) (fun c29 => ?_)
          · have h30 := (kc_lt c29)
            have b31 : kb (-2147483648) v27 (-1) := kr_lt1 h30 (kb_any v27) kc_0 (by decide)
            refine lv_iconst (v := (-1)) hx hb dX4_takeOrderWord_145 (by decide) ?_
            exact kI_ret (v := (-1)) hx hb hr hlocks rfl hK hS dX4_takeOrderWord_146 (f_25, a, g) hP hD ⟨(kb_w kc_m1 (by decide) (by decide)), hI, hG, hE⟩
          · have h32 := (kc_nlt c29)
            have b33 : kb 0 v27 2147483647 := kr_le2 h32 kc_0 (kb_any v27)
            refine lv_iload hx hb dX4_takeOrderWord_128 (lv_at hl 0 rfl) ?_
            refine lv_iload_n hx hb dX4_takeOrderWord_130 rfl (lv_at hl 1 rfl) ?_
            refine lv_iconst (v := 4) hx hb dX4_takeOrderWord_131 (by decide) ?_
            have jn36 : ∀ (H : Heap) (locs : List Loc) (ls : Array Slot) (z35 : Int32), (kb 6 z35 10) → va_P D vwCl (xX K r f_25 a g tx) H → va_D A (xX K r f_25 a g tx) → va_S A s.heap H locs → lv_has ls 5 [(4, .int v27), (3, .int z18), (2, .int z8), (0, .ref (r 50)), (1, .int x)] → W p l e (rmD 2 0 0) s m ([.ref (r 50), .int x] : List Value).toArray below meth c H locs 0 0 (kQi D (tysK K) (fun v (u : xS) => kb (-2147483648) v 2147483647 ∧ xI u.1 u.2.1 ∧ gOK K u.2.2.2 tt ∧ xEk [12, 14, 32, 38, 44, 49, 832, 838, 844] f a g u.1 u.2.1 u.2.2) (fun u => xX K r u.1 u.2.1 u.2.2 tx) A below ([.ref (r 50), .int x] : List Value).toArray s 0 0) (F0 m 142 ls [.int z35, .int v27]) := by
              intro  H locs ls z35 b37 hP hD hS hl
              refine lv_icmp_lt (tgt := 147) hx hb dX4_takeOrderWord_142 (by decide) (fun c38 => ?_) (fun c38 => ?_)
              · have h39 := (kc_lt c38)
                have b40 : kb 0 v27 9 := kr_lt1 h39 b33 b37 (by decide)
                refine lv_aload_n hx hb dX4_takeOrderWord_147 rfl (lv_at hl 3 rfl) ?_
                refine lv_dup hx hb dX4_takeOrderWord_148 rfl ?_
                refine va_get (D := D) (ci := 4) (v := .int (f_25 1604)) (C := RX4) (T := TX4) (N := 7) hx hb hg inC4 hown hK hP 50 rfl rfl 4 (by decide) (hg _ wt2_69) (fun _ h9 => h9) rfl dX4_takeOrderWord_149 ?_
                refine k_top (z := t24) (show f_25 1604 = t24 from by rw [← ef_25]; rfl) ?_
                refine lv_iconst (v := 1) hx hb dX4_takeOrderWord_152 (by decide) ?_
                refine lv_iadd hx hb dX4_takeOrderWord_153 ?_
                refine lv_topi (fun t41 et41 => ?_)
                refine va_put (D := D) (ci := 4) (v := .int t41) (ty := .int) (C := RX4) (T := TX4) (N := 7) hx hb hg inC4 tyX4 tyX4_ok nmX4 hown hK hP hD hS 50 rfl rfl 4 (by decide) (hg _ wt2_69) (fun _ h9 => h9) rfl (by decide +kernel) rfl rfl (Nat.le_of_ble_eq_true rfl) dX4_takeOrderWord_154 (fun H locs hP hD hS => ?_)
                have hP : va_P D vwCl (xX K r (upd f_25 1604 t41) a g tx) H := hP
                have hD : va_D A (xX K r (upd f_25 1604 t41) a g tx) := hD
                refine k_gen (P := fun z => va_P D vwCl (xX K r z a g tx) H ∧ va_D A (xX K r z a g tx) ∧ (xI z a) ∧ (gOK K g.2 tt) ∧ (xEk [12, 14, 32, 38, 44, 49, 832, 838, 844] f a g z a g)) (upd f_25 1604 t41) ⟨hP, hD, (xI_f hI (fI_st hI.1 1604 (kb_any _) (by decide) (by decide))), hG, (xEk_f hE (by decide))⟩ (fun f_42 ef_42 hq => ?_)
                obtain ⟨hP, hD, hI, hG, hE⟩ := hq
                refine lv_iload_n hx hb dX4_takeOrderWord_157 rfl (lv_at hl 1 rfl) ?_
                refine lv_iload hx hb dX4_takeOrderWord_158 (lv_at hl 0 rfl) ?_
                refine lv_iadd hx hb dX4_takeOrderWord_160 ?_
                refine lv_topi (fun t43 et43 => ?_)
                have b44 : kb 0 t43 29 := kb_eq et43 (kb_add b22 b40 (by decide) (by decide))
                have qt43 : t43.toInt = z18.toInt + v27.toInt := by rw [et43]; exact kt_add b22 b40 (by decide) (by decide)
                exact kI_ret (v := t43) hx hb hr hlocks rfl hK hS dX4_takeOrderWord_161 (f_42, a, g) hP hD ⟨(kb_w b44 (by decide) (by decide)), hI, hG, hE⟩
              · have h45 := (kc_nlt c38)
                have b46 : kb 6 v27 2147483647 := kr_le2 h45 b37 b33
                refine lv_iconst (v := (-1)) hx hb dX4_takeOrderWord_145 (by decide) ?_
                exact kI_ret (v := (-1)) hx hb hr hlocks rfl hK hS dX4_takeOrderWord_146 (f_25, a, g) hP hD ⟨(kb_w kc_m1 (by decide) (by decide)), hI, hG, hE⟩
            refine lv_icmp_ne (tgt := 140) hx hb dX4_takeOrderWord_132 (by decide) (fun c47 => ?_) (fun c47 => ?_)
            · refine lv_bipush (v := 6) hx hb dX4_takeOrderWord_140 (by decide) ?_
              exact jn36 _ _ _ 6 (kb_w kc_6 (by decide) (by decide)) hP hD hS (lv_sub hl [0, 1, 2, 3, 4] rfl)
            · have b48 : kb 4 z18 4 := kb_eq c47 kc_4
              refine lv_bipush (v := 10) hx hb dX4_takeOrderWord_135 (by decide) ?_
              refine lv_goto (tgt := 142) hx hb dX4_takeOrderWord_137 (by decide) ?_
              exact jn36 _ _ _ 10 (kb_w kc_10 (by decide) (by decide)) hP hD hS (lv_sub hl [0, 1, 2, 3, 4] rfl)
        · have b49 : kb (-1) z18 (-1) := kb_eq c21 kc_m1
          refine lv_iconst (v := (-1)) hx hb dX4_takeOrderWord_105 (by decide) ?_
          exact kI_ret (v := (-1)) hx hb hr hlocks rfl hK hS dX4_takeOrderWord_106 (f, a, g) hP hD ⟨(kb_w kc_m1 (by decide) (by decide)), hI, hG, hE⟩
      refine lv_icmp_ne (tgt := 74) hx hb dX4_takeOrderWord_67 (by decide) (fun c50 => ?_) (fun c50 => ?_)
      · refine lv_iload_n hx hb dX4_takeOrderWord_74 rfl (lv_at hl 2 rfl) ?_
        refine lv_sipush (v := 2010) hx hb dX4_takeOrderWord_75 (by decide) ?_
        refine lv_icmp_ne (tgt := 86) hx hb dX4_takeOrderWord_78 (by decide) (fun c51 => ?_) (fun c51 => ?_)
        · refine lv_iload_n hx hb dX4_takeOrderWord_86 rfl (lv_at hl 2 rfl) ?_
          refine lv_sipush (v := 2027) hx hb dX4_takeOrderWord_87 (by decide) ?_
          refine lv_icmp_ne (tgt := 98) hx hb dX4_takeOrderWord_90 (by decide) (fun c52 => ?_) (fun c52 => ?_)
          · refine lv_iconst (v := (-1)) hx hb dX4_takeOrderWord_98 (by decide) ?_
            exact jn19 _ _ _ (-1) (kb_w kc_m1 (by decide) (by decide)) hP hD hS (lv_sub hl [0, 1, 2] rfl)
          · have b53 : kb 2027 x 2027 := kb_eq c52 kc_2027
            refine lv_bipush (v := 20) hx hb dX4_takeOrderWord_93 (by decide) ?_
            refine lv_goto (tgt := 99) hx hb dX4_takeOrderWord_95 (by decide) ?_
            exact jn19 _ _ _ 20 (kb_w kc_20 (by decide) (by decide)) hP hD hS (lv_sub hl [0, 1, 2] rfl)
        · have b54 : kb 2010 x 2010 := kb_eq c51 kc_2010
          refine lv_bipush (v := 14) hx hb dX4_takeOrderWord_81 (by decide) ?_
          refine lv_goto (tgt := 99) hx hb dX4_takeOrderWord_83 (by decide) ?_
          exact jn19 _ _ _ 14 (kb_w kc_14 (by decide) (by decide)) hP hD hS (lv_sub hl [0, 1, 2] rfl)
      · have b55 : kb 2014 x 2014 := kb_eq c50 kc_2014
        refine lv_iconst (v := 4) hx hb dX4_takeOrderWord_70 (by decide) ?_
        refine lv_goto (tgt := 99) hx hb dX4_takeOrderWord_71 (by decide) ?_
        exact jn19 _ _ _ 4 (kb_w kc_4 (by decide) (by decide)) hP hD hS (lv_sub hl [0, 1, 2] rfl)
    · have b56 : kb 0 z8 3 := kr_nel c11 b10 kc_m1 (by decide)
      refine lv_aload_n hx hb dX4_takeOrderWord_51 rfl (lv_at hl 1 rfl) ?_
      refine lv_dup hx hb dX4_takeOrderWord_52 rfl ?_
      refine va_get (D := D) (ci := 4) (v := .int (f 1604)) (C := RX4) (T := TX4) (N := 7) hx hb hg inC4 hown hK hP 50 rfl rfl 4 (by decide) (hg _ wt2_69) (fun _ h9 => h9) rfl dX4_takeOrderWord_53 ?_
      refine lv_topi (fun t57 et57 => ?_)
      refine lv_iconst (v := 1) hx hb dX4_takeOrderWord_56 (by decide) ?_
      refine lv_iadd hx hb dX4_takeOrderWord_57 ?_
      refine lv_topi (fun t58 et58 => ?_)
      refine va_put (D := D) (ci := 4) (v := .int t58) (ty := .int) (C := RX4) (T := TX4) (N := 7) hx hb hg inC4 tyX4 tyX4_ok nmX4 hown hK hP hD hS 50 rfl rfl 4 (by decide) (hg _ wt2_69) (fun _ h9 => h9) rfl (by decide +kernel) rfl rfl (Nat.le_of_ble_eq_true rfl) dX4_takeOrderWord_58 (fun H locs hP hD hS => ?_)
      have hP : va_P D vwCl (xX K r (upd f 1604 t58) a g tx) H := hP
      have hD : va_D A (xX K r (upd f 1604 t58) a g tx) := hD
      refine k_gen (P := fun z => va_P D vwCl (xX K r z a g tx) H ∧ va_D A (xX K r z a g tx) ∧ (xI z a) ∧ (gOK K g.2 tt) ∧ (xEk [12, 14, 32, 38, 44, 49, 832, 838, 844] f a g z a g)) (upd f 1604 t58) ⟨hP, hD, (xI_f hI (fI_st hI.1 1604 (kb_any _) (by decide) (by decide))), hG, (xEk_f hE (by decide))⟩ (fun f_59 ef_59 hq => ?_)
      obtain ⟨hP, hD, hI, hG, hE⟩ := hq
      refine lv_iload_n hx hb dX4_takeOrderWord_61 rfl (lv_at hl 0 rfl) ?_
      exact kI_ret (v := z8) hx hb hr hlocks rfl hK hS dX4_takeOrderWord_62 (f_59, a, g) hP hD ⟨(kb_w b56 (by decide) (by decide)), hI, hG, hE⟩
  refine lv_icmp_ne (tgt := 11) hx hb dX4_takeOrderWord_4 (by decide) (fun c60 => ?_) (fun c60 => ?_)
  · refine lv_iload_n hx hb dX4_takeOrderWord_11 rfl (lv_at hl 1 rfl) ?_
    refine lv_sipush (v := 2024) hx hb dX4_takeOrderWord_12 (by decide) ?_
    refine lv_icmp_ne (tgt := 22) hx hb dX4_takeOrderWord_15 (by decide) (fun c61 => ?_) (fun c61 => ?_)
    · refine lv_iload_n hx hb dX4_takeOrderWord_22 rfl (lv_at hl 1 rfl) ?_
      refine lv_sipush (v := 2025) hx hb dX4_takeOrderWord_23 (by decide) ?_
      refine lv_icmp_ne (tgt := 33) hx hb dX4_takeOrderWord_26 (by decide) (fun c62 => ?_) (fun c62 => ?_)
      · refine lv_iload_n hx hb dX4_takeOrderWord_33 rfl (lv_at hl 1 rfl) ?_
        refine lv_sipush (v := 2026) hx hb dX4_takeOrderWord_34 (by decide) ?_
        refine lv_icmp_ne (tgt := 44) hx hb dX4_takeOrderWord_37 (by decide) (fun c63 => ?_) (fun c63 => ?_)
        · refine lv_iconst (v := (-1)) hx hb dX4_takeOrderWord_44 (by decide) ?_
          exact jn9 _ _ _ (-1) (kb_w kc_m1 (by decide) (by decide)) hP hD hS (lv_sub hl [0, 1] rfl)
        · have b64 : kb 2026 x 2026 := kb_eq c63 kc_2026
          refine lv_iconst (v := 3) hx hb dX4_takeOrderWord_40 (by decide) ?_
          refine lv_goto (tgt := 45) hx hb dX4_takeOrderWord_41 (by decide) ?_
          exact jn9 _ _ _ 3 (kb_w kc_3 (by decide) (by decide)) hP hD hS (lv_sub hl [0, 1] rfl)
      · have b65 : kb 2025 x 2025 := kb_eq c62 kc_2025
        refine lv_iconst (v := 2) hx hb dX4_takeOrderWord_29 (by decide) ?_
        refine lv_goto (tgt := 45) hx hb dX4_takeOrderWord_30 (by decide) ?_
        exact jn9 _ _ _ 2 (kb_w kc_2 (by decide) (by decide)) hP hD hS (lv_sub hl [0, 1] rfl)
    · have b66 : kb 2024 x 2024 := kb_eq c61 kc_2024
      refine lv_iconst (v := 1) hx hb dX4_takeOrderWord_18 (by decide) ?_
      refine lv_goto (tgt := 45) hx hb dX4_takeOrderWord_19 (by decide) ?_
      exact jn9 _ _ _ 1 (kb_w kc_1 (by decide) (by decide)) hP hD hS (lv_sub hl [0, 1] rfl)
  · have b67 : kb 2016 x 2016 := kb_eq c60 kc_2016
    refine lv_iconst (v := 0) hx hb dX4_takeOrderWord_7 (by decide) ?_
    refine lv_goto (tgt := 45) hx hb dX4_takeOrderWord_8 (by decide) ?_
    exact jn9 _ _ _ 0 (kb_w kc_0 (by decide) (by decide)) hP hD hS (lv_sub hl [0, 1] rfl)
set_option maxHeartbeats 4000000 in
set_option maxRecDepth 100000 in
theorem x_4_readTimes  (l : Launch) {D : va_G} {K : Nat → ClassId} (r : Nat → Nat) (f : Nat → Int32) (a : Nat → Nat → Int32) (g : xG) (tx tt : va_W) (hT : ∀ c ∈ tt, c ∈ tx) (hI : xI f a) (hG : gOK K g.2 tt)     : kIG l yX4_readTimes (Cond.code yX4_readTimes cX4_readTimes 2 (some .boolean) :: kG) (rmD 2 0 0) D K [.ref (r 50)] (xX K r f a g tx) (fun v (u : xS) => kb 0 v 1 ∧ xI u.1 u.2.1 ∧ gOK K u.2.2.2 tt ∧ xEk [12, 14, 32, 38, 44, 49, 832, 838, 844] f a g u.1 u.2.1 u.2.2) (fun u => xX K r u.1 u.2.1 u.2.2 tx) 0 0 := by
  refine kIE.of (cc := cX4_readTimes) (maxL := 2) (ret := (some .boolean)) (by decide) rfl (Nat.le_of_ble_eq_true rfl) ?_
  intro p e s m below meth c A hx hb hr hml hown hts hlocks hnm hK hP hD hS hA hV ls hl
  have hE : xEk [12, 14, 32, 38, 44, 49, 832, 838, 844] f a g f a g := xEk_rf
  have hg : ∀ w ∈ kG, w.before _ s = true := fun w h => hts w (List.mem_cons_of_mem _ h)
  have hown : s.vm.findClass RX4 = some m.cls := hown
  have hl : lv_has ls 2 [(0, .ref (r 50))] := hl
  refine lv_aload_n hx hb dX4_readTimes_0 rfl (lv_at hl 0 rfl) ?_
  refine kIG.callW (As := []) (rest := []) ⟨hx, hb, hml, hown, hg⟩ (x_4_inHand l r f a g tx tt hT hI hG   ) (cwV 0 hg (kgV wt3_238 wt4_0 wp1_12 wt1_7 wt4_1) rfl rfl rfl (by decide +kernel) ⟨by decide, by decide⟩) hV hK hP hD hS hA (50) 4 rfl rfl rfl hl.1 rfl (Nat.le_of_ble_eq_true rfl) dX4_readTimes_1 ⟨Nat.le_refl _, Nat.le_refl _⟩ (fun v2 u3 H locs hw1 hP hD hS => ?_)
  have hP : va_P D vwCl (xX K r f a g tx) H := hP
  have hD : va_D A (xX K r f a g tx) := hD
  refine lv_sipush (v := 2023) hx hb dX4_readTimes_4 (by decide) ?_
  refine lv_icmp_eq (tgt := 12) hx hb dX4_readTimes_7 (by decide) (fun c4 => ?_) (fun c4 => ?_)
  · have b5 : kb 2023 v2 2023 := kb_eq c4 kc_2023
    refine lv_aload_n hx hb dX4_readTimes_12 rfl (lv_at hl 0 rfl) ?_
    refine lv_dup hx hb dX4_readTimes_13 rfl ?_
    refine va_get (D := D) (ci := 4) (v := .int (f 1604)) (C := RX4) (T := TX4) (N := 7) hx hb hg inC4 hown hK hP 50 rfl rfl 4 (by decide) (hg _ wt2_69) (fun _ h9 => h9) rfl dX4_readTimes_14 ?_
    refine lv_topi (fun t6 et6 => ?_)
    refine lv_iconst (v := 1) hx hb dX4_readTimes_17 (by decide) ?_
    refine lv_iadd hx hb dX4_readTimes_18 ?_
    refine lv_topi (fun t7 et7 => ?_)
    refine va_put (D := D) (ci := 4) (v := .int t7) (ty := .int) (C := RX4) (T := TX4) (N := 7) hx hb hg inC4 tyX4 tyX4_ok nmX4 hown hK hP hD hS 50 rfl rfl 4 (by decide) (hg _ wt2_69) (fun _ h9 => h9) rfl (by decide +kernel) rfl rfl (Nat.le_of_ble_eq_true rfl) dX4_readTimes_19 (fun H locs hP hD hS => ?_)
    have hP : va_P D vwCl (xX K r (upd f 1604 t7) a g tx) H := hP
    have hD : va_D A (xX K r (upd f 1604 t7) a g tx) := hD
    refine k_gen (P := fun z => va_P D vwCl (xX K r z a g tx) H ∧ va_D A (xX K r z a g tx) ∧ (xI z a) ∧ (gOK K g.2 tt) ∧ (xEk [12, 14, 32, 38, 44, 49, 832, 838, 844] f a g z a g)) (upd f 1604 t7) ⟨hP, hD, (xI_f hI (fI_st hI.1 1604 (kb_any _) (by decide) (by decide))), hG, (xEk_f hE (by decide))⟩ (fun f_8 ef_8 hq => ?_)
    obtain ⟨hP, hD, hI, hG, hE⟩ := hq
    refine lv_aload_n hx hb dX4_readTimes_22 rfl (lv_at hl 0 rfl) ?_
    refine kIG.callW (As := []) (rest := []) ⟨hx, hb, hml, hown, hg⟩ (x_4_inHand l r f_8 a g tx tt hT hI hG   ) (cwV 0 hg (kgV wt3_238 wt4_0 wp1_12 wt1_7 wt4_1) rfl rfl rfl (by decide +kernel) ⟨by decide, by decide⟩) hV hK hP hD hS hA (50) 4 rfl rfl rfl hl.1 rfl (Nat.le_of_ble_eq_true rfl) dX4_readTimes_23 ⟨Nat.le_refl _, Nat.le_refl _⟩ (fun v10 u11 H locs hw9 hP hD hS => ?_)
    have hP : va_P D vwCl (xX K r f_8 a g tx) H := hP
    have hD : va_D A (xX K r f_8 a g tx) := hD
    refine lv_istore_n (lv' := [(1, .int v10), (0, .ref (r 50))]) hx hb dX4_readTimes_26 rfl hl (by decide) rfl (fun ls hl => ?_)
    refine lv_iload_n hx hb dX4_readTimes_27 rfl (lv_at hl 0 rfl) ?_
    refine lv_iconst (v := 1) hx hb dX4_readTimes_28 (by decide) ?_
    refine lv_icmp_lt (tgt := 38) hx hb dX4_readTimes_29 (by decide) (fun c12 => ?_) (fun c12 => ?_)
    · have h13 := (kc_lt c12)
      have b14 : kb (-2147483648) v10 0 := kr_lt1 h13 (kb_any v10) kc_1 (by decide)
      refine lv_iconst (v := 0) hx hb dX4_readTimes_38 (by decide) ?_
      exact kI_ret (v := 0) hx hb hr hlocks (by decide +kernel) hK hS dX4_readTimes_39 (f_8, a, g) hP hD ⟨(kb_w kc_0 (by decide) (by decide)), hI, hG, hE⟩
    · have h15 := (kc_nlt c12)
      have b16 : kb 1 v10 2147483647 := kr_le2 h15 kc_1 (kb_any v10)
      refine lv_iload_n hx hb dX4_readTimes_32 rfl (lv_at hl 0 rfl) ?_
      refine lv_bipush (v := 20) hx hb dX4_readTimes_33 (by decide) ?_
      refine lv_icmp_le (tgt := 40) hx hb dX4_readTimes_35 (by decide) (fun c17 => ?_) (fun c17 => ?_)
      · have h18 := (kc_le c17)
        have b19 : kb 1 v10 20 := kr_le1 h18 b16 kc_20
        refine lv_aload_n hx hb dX4_readTimes_40 rfl (lv_at hl 1 rfl) ?_
        refine lv_dup hx hb dX4_readTimes_41 rfl ?_
        refine va_get (D := D) (ci := 4) (v := .int (f_8 1604)) (C := RX4) (T := TX4) (N := 7) hx hb hg inC4 hown hK hP 50 rfl rfl 4 (by decide) (hg _ wt2_69) (fun _ h9 => h9) rfl dX4_readTimes_42 ?_
        refine k_top (z := t7) (show f_8 1604 = t7 from by rw [← ef_8]; rfl) ?_
        refine lv_iconst (v := 1) hx hb dX4_readTimes_45 (by decide) ?_
        refine lv_iadd hx hb dX4_readTimes_46 ?_
        refine lv_topi (fun t20 et20 => ?_)
        refine va_put (D := D) (ci := 4) (v := .int t20) (ty := .int) (C := RX4) (T := TX4) (N := 7) hx hb hg inC4 tyX4 tyX4_ok nmX4 hown hK hP hD hS 50 rfl rfl 4 (by decide) (hg _ wt2_69) (fun _ h9 => h9) rfl (by decide +kernel) rfl rfl (Nat.le_of_ble_eq_true rfl) dX4_readTimes_47 (fun H locs hP hD hS => ?_)
        have hP : va_P D vwCl (xX K r (upd f_8 1604 t20) a g tx) H := hP
        have hD : va_D A (xX K r (upd f_8 1604 t20) a g tx) := hD
        refine k_gen (P := fun z => va_P D vwCl (xX K r z a g tx) H ∧ va_D A (xX K r z a g tx) ∧ (xI z a) ∧ (gOK K g.2 tt) ∧ (xEk [12, 14, 32, 38, 44, 49, 832, 838, 844] f a g z a g)) (upd f_8 1604 t20) ⟨hP, hD, (xI_f hI (fI_st hI.1 1604 (kb_any _) (by decide) (by decide))), hG, (xEk_f hE (by decide))⟩ (fun f_21 ef_21 hq => ?_)
        obtain ⟨hP, hD, hI, hG, hE⟩ := hq
        refine lv_aload_n hx hb dX4_readTimes_50 rfl (lv_at hl 1 rfl) ?_
        refine va_get (D := D) (ci := 4) (v := .ref (r 51)) (C := RX4) (T := TX4) (N := 7) hx hb hg inC4 hown hK hP 50 rfl rfl 0 (by decide) (hg _ wt2_64) (fun _ h9 => h9) rfl dX4_readTimes_51 ?_
        refine lv_iload_n hx hb dX4_readTimes_54 rfl (lv_at hl 0 rfl) ?_
        refine kVG.callW (As := [.int v10]) (rest := []) ⟨hx, hb, hml, hown, hg⟩ (x_10_repeat l r f_21 a g tx tt hT hI hG v10  ) (cwV 1 hg (kgV wt4_38 wt4_39 wt4_40 wt1_8 wt4_41) rfl rfl rfl (by decide +kernel) ⟨by decide, by decide⟩) hV hK hP hD hS hA (51) 10 rfl rfl rfl hl.1 rfl (Nat.le_of_ble_eq_true rfl) dX4_readTimes_55 ⟨Nat.le_refl _, Nat.le_refl _⟩ (fun u24 H locs hw22 hP hD hS => ?_)
        obtain ⟨f25, a26, g27⟩ := u24
        have hP : va_P D vwCl (xX K r f25 a26 g27 tx) H := hP
        have hD : va_D A (xX K r f25 a26 g27 tx) := hD
        have hI : xI f25 a26 := hw22.1
        have hG : gOK K g27.2 tt := hw22.2.1
        have eE28 : xEk [12, 14, 32, 38, 44, 49, 832, 838, 844] f_21 a g f25 a26 g27 := hw22.2.2
        have hE : xEk [12, 14, 32, 38, 44, 49, 832, 838, 844] f a g f25 a26 g27 := xEk_tr hE eE28
        refine lv_iconst (v := 1) hx hb dX4_readTimes_58 (by decide) ?_
        exact kI_ret (v := 1) hx hb hr hlocks (by decide +kernel) hK hS dX4_readTimes_59 (f25, a26, g27) hP hD ⟨(kb_w kc_1 (by decide) (by decide)), hI, hG, hE⟩
      · have h29 := (kc_nle c17)
        have b30 : kb 21 v10 2147483647 := kr_lt2 h29 kc_20 b16 (by decide)
        refine lv_iconst (v := 0) hx hb dX4_readTimes_38 (by decide) ?_
        exact kI_ret (v := 0) hx hb hr hlocks (by decide +kernel) hK hS dX4_readTimes_39 (f_8, a, g) hP hD ⟨(kb_w kc_0 (by decide) (by decide)), hI, hG, hE⟩
  · refine lv_iconst (v := 1) hx hb dX4_readTimes_10 (by decide) ?_
    exact kI_ret (v := 1) hx hb hr hlocks (by decide +kernel) hK hS dX4_readTimes_11 (f, a, g) hP hD ⟨(kb_w kc_1 (by decide) (by decide)), hI, hG, hE⟩
set_option maxHeartbeats 4000000 in
def cXSum (d : Nat) : Prop := ∀ (l : Launch) {D : va_G} {K : Nat → ClassId} (r : Nat → Nat) (f : Nat → Int32) (a : Nat → Nat → Int32) (g : xG) (tx tt : va_W) (hT : ∀ c ∈ tt, c ∈ tx) (hI : xI f a) (hG : gOK K g.2 tt) (dp : Int32) (bdp : kb 0 dp 8) (hp0 : dp.toInt + (d : Int) = 8), kIG l yX4_readSum (Cond.code yX4_readSum cX4_readSum 6 (some .boolean) :: kG) (rmD (2 * d + 8) 0 0) D K [.ref (r 50), .int dp] (xX K r f a g tx) (fun v (u : xS) => kb 0 v 1 ∧ xI u.1 u.2.1 ∧ gOK K u.2.2.2 tt ∧ xEk [12, 14, 32, 38, 44, 49, 832, 838, 844] f a g u.1 u.2.1 u.2.2) (fun u => xX K r u.1 u.2.1 u.2.2 tx) 0 0
set_option maxHeartbeats 4000000 in
def cXOp (d : Nat) : Prop := ∀ (l : Launch) {D : va_G} {K : Nat → ClassId} (r : Nat → Nat) (f : Nat → Int32) (a : Nat → Nat → Int32) (g : xG) (tx tt : va_W) (hT : ∀ c ∈ tt, c ∈ tx) (hI : xI f a) (hG : gOK K g.2 tt) (dp : Int32) (bdp : kb 0 dp 8) (hp0 : dp.toInt + (d : Int) = 8), kIG l yX4_readOperand (Cond.code yX4_readOperand cX4_readOperand 4 (some .boolean) :: kG) (rmD (2 * d + 7) 0 0) D K [.ref (r 50), .int dp] (xX K r f a g tx) (fun v (u : xS) => kb 0 v 1 ∧ xI u.1 u.2.1 ∧ gOK K u.2.2.2 tt ∧ xEk [12, 14, 32, 38, 44, 49, 832, 838, 844] f a g u.1 u.2.1 u.2.2) (fun u => xX K r u.1 u.2.1 u.2.2 tx) 0 0
set_option maxHeartbeats 4000000 in
def cXTest (d : Nat) : Prop := ∀ (l : Launch) {D : va_G} {K : Nat → ClassId} (r : Nat → Nat) (f : Nat → Int32) (a : Nat → Nat → Int32) (g : xG) (tx tt : va_W) (hT : ∀ c ∈ tt, c ∈ tx) (hI : xI f a) (hG : gOK K g.2 tt) (dp : Int32) (bdp : kb 0 dp 8) (hp0 : dp.toInt + (d : Int) = 8), kIG l yX4_readTest (Cond.code yX4_readTest cX4_readTest 6 (some .boolean) :: kG) (rmD (2 * d + 10) 0 0) D K [.ref (r 50), .int dp] (xX K r f a g tx) (fun v (u : xS) => kb 0 v 1 ∧ xI u.1 u.2.1 ∧ gOK K u.2.2.2 tt ∧ xEk [12, 14, 32, 38, 44, 49, 832, 838, 844] f a g u.1 u.2.1 u.2.2) (fun u => xX K r u.1 u.2.1 u.2.2 tx) 0 0
set_option maxHeartbeats 4000000 in
def cXPlain (d : Nat) : Prop := ∀ (l : Launch) {D : va_G} {K : Nat → ClassId} (r : Nat → Nat) (f : Nat → Int32) (a : Nat → Nat → Int32) (g : xG) (tx tt : va_W) (hT : ∀ c ∈ tt, c ∈ tx) (hI : xI f a) (hG : gOK K g.2 tt) (dp : Int32) (bdp : kb 0 dp 8) (hp0 : dp.toInt + (d : Int) = 8), kIG l yX4_readPlain (Cond.code yX4_readPlain cX4_readPlain 4 (some .boolean) :: kG) (rmD (2 * d + 9) 0 0) D K [.ref (r 50), .int dp] (xX K r f a g tx) (fun v (u : xS) => kb 0 v 1 ∧ xI u.1 u.2.1 ∧ gOK K u.2.2.2 tt ∧ xEk [12, 14, 32, 38, 44, 49, 832, 838, 844] f a g u.1 u.2.1 u.2.2) (fun u => xX K r u.1 u.2.1 u.2.2 tx) 0 0
set_option maxHeartbeats 4000000 in
set_option maxRecDepth 100000 in
theorem x_4_readOperand (d : Nat) (ih : ∀ ee, d = ee + 1 → cXSum ee) (l : Launch) {D : va_G} {K : Nat → ClassId} (r : Nat → Nat) (f : Nat → Int32) (a : Nat → Nat → Int32) (g : xG) (tx tt : va_W) (hT : ∀ c ∈ tt, c ∈ tx) (hI : xI f a) (hG : gOK K g.2 tt) (dp : Int32) (bdp : kb 0 dp 8)  (hp0 : dp.toInt + (d : Int) = 8) : kIG l yX4_readOperand (Cond.code yX4_readOperand cX4_readOperand 4 (some .boolean) :: kG) (rmD (2 * d + 7) 0 0) D K [.ref (r 50), .int dp] (xX K r f a g tx) (fun v (u : xS) => kb 0 v 1 ∧ xI u.1 u.2.1 ∧ gOK K u.2.2.2 tt ∧ xEk [12, 14, 32, 38, 44, 49, 832, 838, 844] f a g u.1 u.2.1 u.2.2) (fun u => xX K r u.1 u.2.1 u.2.2 tx) 0 0 := by
  refine kIE.of (cc := cX4_readOperand) (maxL := 4) (ret := (some .boolean)) (by decide) rfl (Nat.le_of_ble_eq_true rfl) ?_
  intro p e s m below meth c A hx hb hr hml hown hts hlocks hnm hK hP hD hS hA hV ls hl
  have hE : xEk [12, 14, 32, 38, 44, 49, 832, 838, 844] f a g f a g := xEk_rf
  have hg : ∀ w ∈ kG, w.before _ s = true := fun w h => hts w (List.mem_cons_of_mem _ h)
  have hown : s.vm.findClass RX4 = some m.cls := hown
  have hl : lv_has ls 4 [(0, .ref (r 50)), (1, .int dp)] := hl
  refine lv_aload_n hx hb dX4_readOperand_0 rfl (lv_at hl 0 rfl) ?_
  refine kIG.callW (As := []) (rest := []) ⟨hx, hb, hml, hown, hg⟩ (x_4_inHand l r f a g tx tt hT hI hG   ) (cwV 0 hg (kgV wt3_238 wt4_0 wp1_12 wt1_7 wt4_1) rfl rfl rfl (by decide +kernel) ⟨by dsimp only [rmD]; omega, by dsimp only [rmD]; omega⟩) hV hK hP hD hS hA (50) 4 rfl rfl rfl hl.1 rfl (Nat.le_of_ble_eq_true rfl) dX4_readOperand_1 ⟨Nat.le_refl _, Nat.le_refl _⟩ (fun v2 u3 H locs hw1 hP hD hS => ?_)
  have hP : va_P D vwCl (xX K r f a g tx) H := hP
  have hD : va_D A (xX K r f a g tx) := hD
  refine lv_istore_n (lv' := [(2, .int v2), (0, .ref (r 50)), (1, .int dp)]) hx hb dX4_readOperand_4 rfl hl (by decide) rfl (fun ls hl => ?_)
  refine lv_iload_n hx hb dX4_readOperand_5 rfl (lv_at hl 0 rfl) ?_
  refine lv_sipush (v := 3091) hx hb dX4_readOperand_6 (by decide) ?_
  refine lv_icmp_ne (tgt := 64) hx hb dX4_readOperand_9 (by decide) (fun c4 => ?_) (fun c4 => ?_)
  · refine lv_aload_n hx hb dX4_readOperand_64 rfl (lv_at hl 1 rfl) ?_
    refine va_get (D := D) (ci := 4) (v := .int (f 1605)) (C := RX4) (T := TX4) (N := 7) hx hb hg inC4 hown hK hP 50 rfl rfl 5 (by decide) (hg _ wt2_70) (fun _ h9 => h9) rfl dX4_readOperand_65 ?_
    refine lv_topi (fun t5 et5 => ?_)
    refine lv_bipush (v := 50) hx hb dX4_readOperand_68 (by decide) ?_
    refine lv_icmp_lt (tgt := 75) hx hb dX4_readOperand_70 (by decide) (fun c6 => ?_) (fun c6 => ?_)
    · have h7 := (kc_lt c6)
      have b8 : kb (-2147483648) t5 49 := kr_lt1 h7 (kb_any t5) kc_50 (by decide)
      refine lv_aload_n hx hb dX4_readOperand_75 rfl (lv_at hl 1 rfl) ?_
      refine lv_dup hx hb dX4_readOperand_76 rfl ?_
      refine va_get (D := D) (ci := 4) (v := .int (f 1605)) (C := RX4) (T := TX4) (N := 7) hx hb hg inC4 hown hK hP 50 rfl rfl 5 (by decide) (hg _ wt2_70) (fun _ h9 => h9) rfl dX4_readOperand_77 ?_
      refine k_top (z := t5) et5.symm ?_
      refine lv_iconst (v := 1) hx hb dX4_readOperand_80 (by decide) ?_
      refine lv_iadd hx hb dX4_readOperand_81 ?_
      refine lv_topi (fun t9 et9 => ?_)
      have b10 : kb (-2147483647) t9 50 := kb_eq et9 (kb_add b8 kc_1 (by decide) (by decide))
      have qt9 : t9.toInt = t5.toInt + 1 := by rw [et9]; exact kt_addc b8 kc_1 (by decide) (by decide)
      refine va_put (D := D) (ci := 4) (v := .int t9) (ty := .int) (C := RX4) (T := TX4) (N := 7) hx hb hg inC4 tyX4 tyX4_ok nmX4 hown hK hP hD hS 50 rfl rfl 5 (by decide) (hg _ wt2_70) (fun _ h9 => h9) rfl (by decide +kernel) rfl rfl (Nat.le_of_ble_eq_true rfl) dX4_readOperand_82 (fun H locs hP hD hS => ?_)
      have hP : va_P D vwCl (xX K r (upd f 1605 t9) a g tx) H := hP
      have hD : va_D A (xX K r (upd f 1605 t9) a g tx) := hD
      refine k_gen (P := fun z => va_P D vwCl (xX K r z a g tx) H ∧ va_D A (xX K r z a g tx) ∧ (xI z a) ∧ (gOK K g.2 tt) ∧ (xEk [12, 14, 32, 38, 44, 49, 832, 838, 844] f a g z a g)) (upd f 1605 t9) ⟨hP, hD, (xI_f hI (fI_st hI.1 1605 (kb_any _) (by decide) (by decide))), hG, (xEk_f hE (by decide))⟩ (fun f_11 ef_11 hq => ?_)
      obtain ⟨hP, hD, hI, hG, hE⟩ := hq
      refine lv_iload_n hx hb dX4_readOperand_85 rfl (lv_at hl 0 rfl) ?_
      refine lv_if_lt (tgt := 118) hx hb dX4_readOperand_86 (by decide) (fun c12 => ?_) (fun c12 => ?_)
      · have h13 := (kc_lt c12)
        have b14 : kb (-2147483648) v2 (-1) := kr_lt1 h13 (kb_any v2) kc_0 (by decide)
        refine lv_aload_n hx hb dX4_readOperand_118 rfl (lv_at hl 1 rfl) ?_
        refine va_get (D := D) (ci := 4) (v := .int (f_11 1606)) (C := RX4) (T := TX4) (N := 7) hx hb hg inC4 hown hK hP 50 rfl rfl 6 (by decide) (hg _ wt2_71) (fun _ h9 => h9) rfl dX4_readOperand_119 ?_
        refine lv_topi (fun t15 et15 => ?_)
        refine lv_if_eq (tgt := 133) hx hb dX4_readOperand_122 (by decide) (fun c16 => ?_) (fun c16 => ?_)
        · have b17 : kb 0 t15 0 := kb_eq c16 kc_0
          refine lv_aload_n hx hb dX4_readOperand_133 rfl (lv_at hl 1 rfl) ?_
          refine lv_iload_n hx hb dX4_readOperand_134 rfl (lv_at hl 0 rfl) ?_
          refine kIG.callW (As := [.int v2]) (rest := []) ⟨hx, hb, hml, hown, hg⟩ (x_4_takeLawWord l r f_11 a g tx tt hT hI hG v2  ) (cwV 1 hg (kgV wt4_22 wt4_24 wp2_0 wt1_7 wt4_25) rfl rfl rfl (by decide +kernel) ⟨by dsimp only [rmD]; omega, by dsimp only [rmD]; omega⟩) hV hK hP hD hS hA (50) 4 rfl rfl rfl hl.1 rfl (Nat.le_of_ble_eq_true rfl) dX4_readOperand_135 ⟨Nat.le_refl _, Nat.le_refl _⟩ (fun v19 u20 H locs hw18 hP hD hS => ?_)
          obtain ⟨f21, a22, g23⟩ := u20
          have hP : va_P D vwCl (xX K r f21 a22 g23 tx) H := hP
          have hD : va_D A (xX K r f21 a22 g23 tx) := hD
          have hI : xI f21 a22 := hw18.2.1
          have hG : gOK K g23.2 tt := hw18.2.2.1
          have eE24 : xEk [12, 14, 32, 38, 44, 49, 832, 838, 844] f_11 a g f21 a22 g23 := hw18.2.2.2
          have hE : xEk [12, 14, 32, 38, 44, 49, 832, 838, 844] f a g f21 a22 g23 := xEk_tr hE eE24
          refine lv_istore_n (lv' := [(3, .int v19), (2, .int v2), (0, .ref (r 50)), (1, .int dp)]) hx hb dX4_readOperand_138 rfl hl (by decide) rfl (fun ls hl => ?_)
          refine lv_iload_n hx hb dX4_readOperand_139 rfl (lv_at hl 0 rfl) ?_
          refine lv_iconst (v := (-1)) hx hb dX4_readOperand_140 (by decide) ?_
          refine lv_icmp_ne (tgt := 146) hx hb dX4_readOperand_141 (by decide) (fun c25 => ?_) (fun c25 => ?_)
          · refine lv_aload_n hx hb dX4_readOperand_146 rfl (lv_at hl 2 rfl) ?_
            refine va_get (D := D) (ci := 4) (v := .ref (r 51)) (C := RX4) (T := TX4) (N := 7) hx hb hg inC4 hown hK hP 50 rfl rfl 0 (by decide) (hg _ wt2_64) (fun _ h9 => h9) rfl dX4_readOperand_147 ?_
            refine lv_iconst (v := 1) hx hb dX4_readOperand_150 (by decide) ?_
            refine lv_iload_n hx hb dX4_readOperand_151 rfl (lv_at hl 0 rfl) ?_
            refine kIG.callW (As := [.int 1, .int v19]) (rest := []) ⟨hx, hb, hml, hown, hg⟩ (x_10_emit l r f21 a22 g23 tx tt hT hI hG 1 v19 (kb_w kc_1 (by decide) (by decide)) ) (cwV 2 hg (kgV wt4_14 wt4_15 wt4_16 wt1_8 wt4_17) rfl rfl rfl (by decide +kernel) ⟨by dsimp only [rmD]; omega, by dsimp only [rmD]; omega⟩) hV hK hP hD hS hA (51) 10 rfl rfl rfl hl.1 rfl (Nat.le_of_ble_eq_true rfl) dX4_readOperand_152 ⟨Nat.le_refl _, Nat.le_refl _⟩ (fun v27 u28 H locs hw26 hP hD hS => ?_)
            obtain ⟨f29, a30, g31⟩ := u28
            have hP : va_P D vwCl (xX K r f29 a30 g31 tx) H := hP
            have hD : va_D A (xX K r f29 a30 g31 tx) := hD
            have hI : xI f29 a30 := hw26.2.1
            have hG : gOK K g31.2 tt := hw26.2.2.1
            have eE32 : xEk [12, 14, 32, 38, 44, 49, 832, 838, 844] f21 a22 g23 f29 a30 g31 := hw26.2.2.2
            have hE : xEk [12, 14, 32, 38, 44, 49, 832, 838, 844] f a g f29 a30 g31 := xEk_tr hE eE32
            refine lv_pop hx hb dX4_readOperand_155 rfl ?_
            refine lv_iconst (v := 1) hx hb dX4_readOperand_156 (by decide) ?_
            exact kI_ret (v := 1) hx hb hr hlocks (by decide +kernel) hK hS dX4_readOperand_157 (f29, a30, g31) hP hD ⟨(kb_w kc_1 (by decide) (by decide)), hI, hG, hE⟩
          · have b33 : kb (-1) v19 (-1) := kb_eq c25 kc_m1
            refine lv_iconst (v := 0) hx hb dX4_readOperand_144 (by decide) ?_
            exact kI_ret (v := 0) hx hb hr hlocks (by decide +kernel) hK hS dX4_readOperand_145 (f21, a22, g23) hP hD ⟨(kb_w kc_0 (by decide) (by decide)), hI, hG, hE⟩
        · refine lv_aload_n hx hb dX4_readOperand_125 rfl (lv_at hl 1 rfl) ?_
          refine lv_iload_n hx hb dX4_readOperand_126 rfl (lv_at hl 0 rfl) ?_
          refine kIG.callW (As := [.int v2]) (rest := []) ⟨hx, hb, hml, hown, hg⟩ (x_4_takeOrderWord l r f_11 a g tx tt hT hI hG v2  ) (cwV 1 hg (kgV wt4_18 wt4_20 wp1_15 wt1_7 wt4_21) rfl rfl rfl (by decide +kernel) ⟨by dsimp only [rmD]; omega, by dsimp only [rmD]; omega⟩) hV hK hP hD hS hA (50) 4 rfl rfl rfl hl.1 rfl (Nat.le_of_ble_eq_true rfl) dX4_readOperand_127 ⟨Nat.le_refl _, Nat.le_refl _⟩ (fun v35 u36 H locs hw34 hP hD hS => ?_)
          obtain ⟨f37, a38, g39⟩ := u36
          have hP : va_P D vwCl (xX K r f37 a38 g39 tx) H := hP
          have hD : va_D A (xX K r f37 a38 g39 tx) := hD
          have hI : xI f37 a38 := hw34.2.1
          have hG : gOK K g39.2 tt := hw34.2.2.1
          have eE40 : xEk [12, 14, 32, 38, 44, 49, 832, 838, 844] f_11 a g f37 a38 g39 := hw34.2.2.2
          have hE : xEk [12, 14, 32, 38, 44, 49, 832, 838, 844] f a g f37 a38 g39 := xEk_tr hE eE40
          refine lv_goto (tgt := 138) hx hb dX4_readOperand_130 (by decide) ?_
          refine lv_istore_n (lv' := [(3, .int v35), (2, .int v2), (0, .ref (r 50)), (1, .int dp)]) hx hb dX4_readOperand_138 rfl hl (by decide) rfl (fun ls hl => ?_)
          refine lv_iload_n hx hb dX4_readOperand_139 rfl (lv_at hl 0 rfl) ?_
          refine lv_iconst (v := (-1)) hx hb dX4_readOperand_140 (by decide) ?_
          refine lv_icmp_ne (tgt := 146) hx hb dX4_readOperand_141 (by decide) (fun c41 => ?_) (fun c41 => ?_)
          · refine lv_aload_n hx hb dX4_readOperand_146 rfl (lv_at hl 2 rfl) ?_
            refine va_get (D := D) (ci := 4) (v := .ref (r 51)) (C := RX4) (T := TX4) (N := 7) hx hb hg inC4 hown hK hP 50 rfl rfl 0 (by decide) (hg _ wt2_64) (fun _ h9 => h9) rfl dX4_readOperand_147 ?_
            refine lv_iconst (v := 1) hx hb dX4_readOperand_150 (by decide) ?_
            refine lv_iload_n hx hb dX4_readOperand_151 rfl (lv_at hl 0 rfl) ?_
            refine kIG.callW (As := [.int 1, .int v35]) (rest := []) ⟨hx, hb, hml, hown, hg⟩ (x_10_emit l r f37 a38 g39 tx tt hT hI hG 1 v35 (kb_w kc_1 (by decide) (by decide)) ) (cwV 2 hg (kgV wt4_14 wt4_15 wt4_16 wt1_8 wt4_17) rfl rfl rfl (by decide +kernel) ⟨by dsimp only [rmD]; omega, by dsimp only [rmD]; omega⟩) hV hK hP hD hS hA (51) 10 rfl rfl rfl hl.1 rfl (Nat.le_of_ble_eq_true rfl) dX4_readOperand_152 ⟨Nat.le_refl _, Nat.le_refl _⟩ (fun v43 u44 H locs hw42 hP hD hS => ?_)
            obtain ⟨f45, a46, g47⟩ := u44
            have hP : va_P D vwCl (xX K r f45 a46 g47 tx) H := hP
            have hD : va_D A (xX K r f45 a46 g47 tx) := hD
            have hI : xI f45 a46 := hw42.2.1
            have hG : gOK K g47.2 tt := hw42.2.2.1
            have eE48 : xEk [12, 14, 32, 38, 44, 49, 832, 838, 844] f37 a38 g39 f45 a46 g47 := hw42.2.2.2
            have hE : xEk [12, 14, 32, 38, 44, 49, 832, 838, 844] f a g f45 a46 g47 := xEk_tr hE eE48
            refine lv_pop hx hb dX4_readOperand_155 rfl ?_
            refine lv_iconst (v := 1) hx hb dX4_readOperand_156 (by decide) ?_
            exact kI_ret (v := 1) hx hb hr hlocks (by decide +kernel) hK hS dX4_readOperand_157 (f45, a46, g47) hP hD ⟨(kb_w kc_1 (by decide) (by decide)), hI, hG, hE⟩
          · have b49 : kb (-1) v35 (-1) := kb_eq c41 kc_m1
            refine lv_iconst (v := 0) hx hb dX4_readOperand_144 (by decide) ?_
            exact kI_ret (v := 0) hx hb hr hlocks (by decide +kernel) hK hS dX4_readOperand_145 (f37, a38, g39) hP hD ⟨(kb_w kc_0 (by decide) (by decide)), hI, hG, hE⟩
      · have h50 := (kc_nlt c12)
        have b51 : kb 0 v2 2147483647 := kr_le2 h50 kc_0 (kb_any v2)
        refine lv_iload_n hx hb dX4_readOperand_89 rfl (lv_at hl 0 rfl) ?_
        refine lv_sipush (v := 1000) hx hb dX4_readOperand_90 (by decide) ?_
        refine lv_icmp_gt (tgt := 118) hx hb dX4_readOperand_93 (by decide) (fun c52 => ?_) (fun c52 => ?_)
        · have h53 := (kc_lt c52)
          have b54 : kb 1001 v2 2147483647 := kr_lt2 h53 kc_1000 b51 (by decide)
          refine lv_aload_n hx hb dX4_readOperand_118 rfl (lv_at hl 1 rfl) ?_
          refine va_get (D := D) (ci := 4) (v := .int (f_11 1606)) (C := RX4) (T := TX4) (N := 7) hx hb hg inC4 hown hK hP 50 rfl rfl 6 (by decide) (hg _ wt2_71) (fun _ h9 => h9) rfl dX4_readOperand_119 ?_
          refine lv_topi (fun t55 et55 => ?_)
          refine lv_if_eq (tgt := 133) hx hb dX4_readOperand_122 (by decide) (fun c56 => ?_) (fun c56 => ?_)
          · have b57 : kb 0 t55 0 := kb_eq c56 kc_0
            refine lv_aload_n hx hb dX4_readOperand_133 rfl (lv_at hl 1 rfl) ?_
            refine lv_iload_n hx hb dX4_readOperand_134 rfl (lv_at hl 0 rfl) ?_
            refine kIG.callW (As := [.int v2]) (rest := []) ⟨hx, hb, hml, hown, hg⟩ (x_4_takeLawWord l r f_11 a g tx tt hT hI hG v2  ) (cwV 1 hg (kgV wt4_22 wt4_24 wp2_0 wt1_7 wt4_25) rfl rfl rfl (by decide +kernel) ⟨by dsimp only [rmD]; omega, by dsimp only [rmD]; omega⟩) hV hK hP hD hS hA (50) 4 rfl rfl rfl hl.1 rfl (Nat.le_of_ble_eq_true rfl) dX4_readOperand_135 ⟨Nat.le_refl _, Nat.le_refl _⟩ (fun v59 u60 H locs hw58 hP hD hS => ?_)
            obtain ⟨f61, a62, g63⟩ := u60
            have hP : va_P D vwCl (xX K r f61 a62 g63 tx) H := hP
            have hD : va_D A (xX K r f61 a62 g63 tx) := hD
            have hI : xI f61 a62 := hw58.2.1
            have hG : gOK K g63.2 tt := hw58.2.2.1
            have eE64 : xEk [12, 14, 32, 38, 44, 49, 832, 838, 844] f_11 a g f61 a62 g63 := hw58.2.2.2
            have hE : xEk [12, 14, 32, 38, 44, 49, 832, 838, 844] f a g f61 a62 g63 := xEk_tr hE eE64
            refine lv_istore_n (lv' := [(3, .int v59), (2, .int v2), (0, .ref (r 50)), (1, .int dp)]) hx hb dX4_readOperand_138 rfl hl (by decide) rfl (fun ls hl => ?_)
            refine lv_iload_n hx hb dX4_readOperand_139 rfl (lv_at hl 0 rfl) ?_
            refine lv_iconst (v := (-1)) hx hb dX4_readOperand_140 (by decide) ?_
            refine lv_icmp_ne (tgt := 146) hx hb dX4_readOperand_141 (by decide) (fun c65 => ?_) (fun c65 => ?_)
            · refine lv_aload_n hx hb dX4_readOperand_146 rfl (lv_at hl 2 rfl) ?_
              refine va_get (D := D) (ci := 4) (v := .ref (r 51)) (C := RX4) (T := TX4) (N := 7) hx hb hg inC4 hown hK hP 50 rfl rfl 0 (by decide) (hg _ wt2_64) (fun _ h9 => h9) rfl dX4_readOperand_147 ?_
              refine lv_iconst (v := 1) hx hb dX4_readOperand_150 (by decide) ?_
              refine lv_iload_n hx hb dX4_readOperand_151 rfl (lv_at hl 0 rfl) ?_
              refine kIG.callW (As := [.int 1, .int v59]) (rest := []) ⟨hx, hb, hml, hown, hg⟩ (x_10_emit l r f61 a62 g63 tx tt hT hI hG 1 v59 (kb_w kc_1 (by decide) (by decide)) ) (cwV 2 hg (kgV wt4_14 wt4_15 wt4_16 wt1_8 wt4_17) rfl rfl rfl (by decide +kernel) ⟨by dsimp only [rmD]; omega, by dsimp only [rmD]; omega⟩) hV hK hP hD hS hA (51) 10 rfl rfl rfl hl.1 rfl (Nat.le_of_ble_eq_true rfl) dX4_readOperand_152 ⟨Nat.le_refl _, Nat.le_refl _⟩ (fun v67 u68 H locs hw66 hP hD hS => ?_)
              obtain ⟨f69, a70, g71⟩ := u68
              have hP : va_P D vwCl (xX K r f69 a70 g71 tx) H := hP
              have hD : va_D A (xX K r f69 a70 g71 tx) := hD
              have hI : xI f69 a70 := hw66.2.1
              have hG : gOK K g71.2 tt := hw66.2.2.1
              have eE72 : xEk [12, 14, 32, 38, 44, 49, 832, 838, 844] f61 a62 g63 f69 a70 g71 := hw66.2.2.2
              have hE : xEk [12, 14, 32, 38, 44, 49, 832, 838, 844] f a g f69 a70 g71 := xEk_tr hE eE72
              refine lv_pop hx hb dX4_readOperand_155 rfl ?_
              refine lv_iconst (v := 1) hx hb dX4_readOperand_156 (by decide) ?_
              exact kI_ret (v := 1) hx hb hr hlocks (by decide +kernel) hK hS dX4_readOperand_157 (f69, a70, g71) hP hD ⟨(kb_w kc_1 (by decide) (by decide)), hI, hG, hE⟩
            · have b73 : kb (-1) v59 (-1) := kb_eq c65 kc_m1
              refine lv_iconst (v := 0) hx hb dX4_readOperand_144 (by decide) ?_
              exact kI_ret (v := 0) hx hb hr hlocks (by decide +kernel) hK hS dX4_readOperand_145 (f61, a62, g63) hP hD ⟨(kb_w kc_0 (by decide) (by decide)), hI, hG, hE⟩
          · refine lv_aload_n hx hb dX4_readOperand_125 rfl (lv_at hl 1 rfl) ?_
            refine lv_iload_n hx hb dX4_readOperand_126 rfl (lv_at hl 0 rfl) ?_
            refine kIG.callW (As := [.int v2]) (rest := []) ⟨hx, hb, hml, hown, hg⟩ (x_4_takeOrderWord l r f_11 a g tx tt hT hI hG v2  ) (cwV 1 hg (kgV wt4_18 wt4_20 wp1_15 wt1_7 wt4_21) rfl rfl rfl (by decide +kernel) ⟨by dsimp only [rmD]; omega, by dsimp only [rmD]; omega⟩) hV hK hP hD hS hA (50) 4 rfl rfl rfl hl.1 rfl (Nat.le_of_ble_eq_true rfl) dX4_readOperand_127 ⟨Nat.le_refl _, Nat.le_refl _⟩ (fun v75 u76 H locs hw74 hP hD hS => ?_)
            obtain ⟨f77, a78, g79⟩ := u76
            have hP : va_P D vwCl (xX K r f77 a78 g79 tx) H := hP
            have hD : va_D A (xX K r f77 a78 g79 tx) := hD
            have hI : xI f77 a78 := hw74.2.1
            have hG : gOK K g79.2 tt := hw74.2.2.1
            have eE80 : xEk [12, 14, 32, 38, 44, 49, 832, 838, 844] f_11 a g f77 a78 g79 := hw74.2.2.2
            have hE : xEk [12, 14, 32, 38, 44, 49, 832, 838, 844] f a g f77 a78 g79 := xEk_tr hE eE80
            refine lv_goto (tgt := 138) hx hb dX4_readOperand_130 (by decide) ?_
            refine lv_istore_n (lv' := [(3, .int v75), (2, .int v2), (0, .ref (r 50)), (1, .int dp)]) hx hb dX4_readOperand_138 rfl hl (by decide) rfl (fun ls hl => ?_)
            refine lv_iload_n hx hb dX4_readOperand_139 rfl (lv_at hl 0 rfl) ?_
            refine lv_iconst (v := (-1)) hx hb dX4_readOperand_140 (by decide) ?_
            refine lv_icmp_ne (tgt := 146) hx hb dX4_readOperand_141 (by decide) (fun c81 => ?_) (fun c81 => ?_)
            · refine lv_aload_n hx hb dX4_readOperand_146 rfl (lv_at hl 2 rfl) ?_
              refine va_get (D := D) (ci := 4) (v := .ref (r 51)) (C := RX4) (T := TX4) (N := 7) hx hb hg inC4 hown hK hP 50 rfl rfl 0 (by decide) (hg _ wt2_64) (fun _ h9 => h9) rfl dX4_readOperand_147 ?_
              refine lv_iconst (v := 1) hx hb dX4_readOperand_150 (by decide) ?_
              refine lv_iload_n hx hb dX4_readOperand_151 rfl (lv_at hl 0 rfl) ?_
              refine kIG.callW (As := [.int 1, .int v75]) (rest := []) ⟨hx, hb, hml, hown, hg⟩ (x_10_emit l r f77 a78 g79 tx tt hT hI hG 1 v75 (kb_w kc_1 (by decide) (by decide)) ) (cwV 2 hg (kgV wt4_14 wt4_15 wt4_16 wt1_8 wt4_17) rfl rfl rfl (by decide +kernel) ⟨by dsimp only [rmD]; omega, by dsimp only [rmD]; omega⟩) hV hK hP hD hS hA (51) 10 rfl rfl rfl hl.1 rfl (Nat.le_of_ble_eq_true rfl) dX4_readOperand_152 ⟨Nat.le_refl _, Nat.le_refl _⟩ (fun v83 u84 H locs hw82 hP hD hS => ?_)
              obtain ⟨f85, a86, g87⟩ := u84
              have hP : va_P D vwCl (xX K r f85 a86 g87 tx) H := hP
              have hD : va_D A (xX K r f85 a86 g87 tx) := hD
              have hI : xI f85 a86 := hw82.2.1
              have hG : gOK K g87.2 tt := hw82.2.2.1
              have eE88 : xEk [12, 14, 32, 38, 44, 49, 832, 838, 844] f77 a78 g79 f85 a86 g87 := hw82.2.2.2
              have hE : xEk [12, 14, 32, 38, 44, 49, 832, 838, 844] f a g f85 a86 g87 := xEk_tr hE eE88
              refine lv_pop hx hb dX4_readOperand_155 rfl ?_
              refine lv_iconst (v := 1) hx hb dX4_readOperand_156 (by decide) ?_
              exact kI_ret (v := 1) hx hb hr hlocks (by decide +kernel) hK hS dX4_readOperand_157 (f85, a86, g87) hP hD ⟨(kb_w kc_1 (by decide) (by decide)), hI, hG, hE⟩
            · have b89 : kb (-1) v75 (-1) := kb_eq c81 kc_m1
              refine lv_iconst (v := 0) hx hb dX4_readOperand_144 (by decide) ?_
              exact kI_ret (v := 0) hx hb hr hlocks (by decide +kernel) hK hS dX4_readOperand_145 (f77, a78, g79) hP hD ⟨(kb_w kc_0 (by decide) (by decide)), hI, hG, hE⟩
        · have h90 := (kc_nlt c52)
          have b91 : kb 0 v2 1000 := kr_le1 h90 b51 kc_1000
          refine lv_aload_n hx hb dX4_readOperand_96 rfl (lv_at hl 1 rfl) ?_
          refine lv_dup hx hb dX4_readOperand_97 rfl ?_
          refine va_get (D := D) (ci := 4) (v := .int (f_11 1604)) (C := RX4) (T := TX4) (N := 7) hx hb hg inC4 hown hK hP 50 rfl rfl 4 (by decide) (hg _ wt2_69) (fun _ h9 => h9) rfl dX4_readOperand_98 ?_
          refine lv_topi (fun t92 et92 => ?_)
          refine lv_iconst (v := 1) hx hb dX4_readOperand_101 (by decide) ?_
          refine lv_iadd hx hb dX4_readOperand_102 ?_
          refine lv_topi (fun t93 et93 => ?_)
          refine va_put (D := D) (ci := 4) (v := .int t93) (ty := .int) (C := RX4) (T := TX4) (N := 7) hx hb hg inC4 tyX4 tyX4_ok nmX4 hown hK hP hD hS 50 rfl rfl 4 (by decide) (hg _ wt2_69) (fun _ h9 => h9) rfl (by decide +kernel) rfl rfl (Nat.le_of_ble_eq_true rfl) dX4_readOperand_103 (fun H locs hP hD hS => ?_)
          have hP : va_P D vwCl (xX K r (upd f_11 1604 t93) a g tx) H := hP
          have hD : va_D A (xX K r (upd f_11 1604 t93) a g tx) := hD
          refine k_gen (P := fun z => va_P D vwCl (xX K r z a g tx) H ∧ va_D A (xX K r z a g tx) ∧ (xI z a) ∧ (gOK K g.2 tt) ∧ (xEk [12, 14, 32, 38, 44, 49, 832, 838, 844] f a g z a g)) (upd f_11 1604 t93) ⟨hP, hD, (xI_f hI (fI_st hI.1 1604 (kb_any _) (by decide) (by decide))), hG, (xEk_f hE (by decide))⟩ (fun f_94 ef_94 hq => ?_)
          obtain ⟨hP, hD, hI, hG, hE⟩ := hq
          refine lv_aload_n hx hb dX4_readOperand_106 rfl (lv_at hl 1 rfl) ?_
          refine va_get (D := D) (ci := 4) (v := .ref (r 51)) (C := RX4) (T := TX4) (N := 7) hx hb hg inC4 hown hK hP 50 rfl rfl 0 (by decide) (hg _ wt2_64) (fun _ h9 => h9) rfl dX4_readOperand_107 ?_
          refine lv_iconst (v := 0) hx hb dX4_readOperand_110 (by decide) ?_
          refine lv_iload_n hx hb dX4_readOperand_111 rfl (lv_at hl 0 rfl) ?_
          refine kIG.callW (As := [.int 0, .int v2]) (rest := []) ⟨hx, hb, hml, hown, hg⟩ (x_10_emit l r f_94 a g tx tt hT hI hG 0 v2 (kb_w kc_0 (by decide) (by decide)) ) (cwV 2 hg (kgV wt4_14 wt4_15 wt4_16 wt1_8 wt4_17) rfl rfl rfl (by decide +kernel) ⟨by dsimp only [rmD]; omega, by dsimp only [rmD]; omega⟩) hV hK hP hD hS hA (51) 10 rfl rfl rfl hl.1 rfl (Nat.le_of_ble_eq_true rfl) dX4_readOperand_112 ⟨Nat.le_refl _, Nat.le_refl _⟩ (fun v96 u97 H locs hw95 hP hD hS => ?_)
          obtain ⟨f98, a99, g100⟩ := u97
          have hP : va_P D vwCl (xX K r f98 a99 g100 tx) H := hP
          have hD : va_D A (xX K r f98 a99 g100 tx) := hD
          have hI : xI f98 a99 := hw95.2.1
          have hG : gOK K g100.2 tt := hw95.2.2.1
          have eE101 : xEk [12, 14, 32, 38, 44, 49, 832, 838, 844] f_94 a g f98 a99 g100 := hw95.2.2.2
          have hE : xEk [12, 14, 32, 38, 44, 49, 832, 838, 844] f a g f98 a99 g100 := xEk_tr hE eE101
          refine lv_pop hx hb dX4_readOperand_115 rfl ?_
          refine lv_iconst (v := 1) hx hb dX4_readOperand_116 (by decide) ?_
          exact kI_ret (v := 1) hx hb hr hlocks (by decide +kernel) hK hS dX4_readOperand_117 (f98, a99, g100) hP hD ⟨(kb_w kc_1 (by decide) (by decide)), hI, hG, hE⟩
    · have h102 := (kc_nlt c6)
      have b103 : kb 50 t5 2147483647 := kr_le2 h102 kc_50 (kb_any t5)
      refine lv_iconst (v := 0) hx hb dX4_readOperand_73 (by decide) ?_
      exact kI_ret (v := 0) hx hb hr hlocks (by decide +kernel) hK hS dX4_readOperand_74 (f, a, g) hP hD ⟨(kb_w kc_0 (by decide) (by decide)), hI, hG, hE⟩
  · have b104 : kb 3091 v2 3091 := kb_eq c4 kc_3091
    refine lv_iload_n hx hb dX4_readOperand_12 rfl (lv_at hl 2 rfl) ?_
    refine lv_bipush (v := 8) hx hb dX4_readOperand_13 (by decide) ?_
    refine lv_icmp_lt (tgt := 20) hx hb dX4_readOperand_15 (by decide) (fun c105 => ?_) (fun c105 => ?_)
    · have h106 := (kc_lt c105)
      have b107 : kb 0 dp 7 := kr_lt1 h106 bdp kc_8 (by decide)
      refine lv_aload_n hx hb dX4_readOperand_20 rfl (lv_at hl 1 rfl) ?_
      refine lv_dup hx hb dX4_readOperand_21 rfl ?_
      refine va_get (D := D) (ci := 4) (v := .int (f 1604)) (C := RX4) (T := TX4) (N := 7) hx hb hg inC4 hown hK hP 50 rfl rfl 4 (by decide) (hg _ wt2_69) (fun _ h9 => h9) rfl dX4_readOperand_22 ?_
      refine lv_topi (fun t108 et108 => ?_)
      refine lv_iconst (v := 1) hx hb dX4_readOperand_25 (by decide) ?_
      refine lv_iadd hx hb dX4_readOperand_26 ?_
      refine lv_topi (fun t109 et109 => ?_)
      refine va_put (D := D) (ci := 4) (v := .int t109) (ty := .int) (C := RX4) (T := TX4) (N := 7) hx hb hg inC4 tyX4 tyX4_ok nmX4 hown hK hP hD hS 50 rfl rfl 4 (by decide) (hg _ wt2_69) (fun _ h9 => h9) rfl (by decide +kernel) rfl rfl (Nat.le_of_ble_eq_true rfl) dX4_readOperand_27 (fun H locs hP hD hS => ?_)
      have hP : va_P D vwCl (xX K r (upd f 1604 t109) a g tx) H := hP
      have hD : va_D A (xX K r (upd f 1604 t109) a g tx) := hD
      refine k_gen (P := fun z => va_P D vwCl (xX K r z a g tx) H ∧ va_D A (xX K r z a g tx) ∧ (xI z a) ∧ (gOK K g.2 tt) ∧ (xEk [12, 14, 32, 38, 44, 49, 832, 838, 844] f a g z a g)) (upd f 1604 t109) ⟨hP, hD, (xI_f hI (fI_st hI.1 1604 (kb_any _) (by decide) (by decide))), hG, (xEk_f hE (by decide))⟩ (fun f_110 ef_110 hq => ?_)
      obtain ⟨hP, hD, hI, hG, hE⟩ := hq
      refine lv_aload_n hx hb dX4_readOperand_30 rfl (lv_at hl 1 rfl) ?_
      refine lv_iload_n hx hb dX4_readOperand_31 rfl (lv_at hl 2 rfl) ?_
      refine lv_iconst (v := 1) hx hb dX4_readOperand_32 (by decide) ?_
      refine lv_iadd hx hb dX4_readOperand_33 ?_
      refine lv_topi (fun t111 et111 => ?_)
      have b112 : kb 1 t111 8 := kb_eq et111 (kb_add b107 kc_1 (by decide) (by decide))
      have qt111 : t111.toInt = dp.toInt + 1 := by rw [et111]; exact kt_addc b107 kc_1 (by decide) (by decide)
      obtain ⟨ee, hd⟩ : ∃ ee, d = ee + 1 := ⟨d - 1, by have w1 := hp0; have w2 := (b107).2; omega⟩
      refine kIG.callW (As := [.int t111]) (rest := []) ⟨hx, hb, hml, hown, hg⟩ ((ih ee hd) l r f_110 a g tx tt hT hI hG t111 (kb_w b112 (by decide) (by decide)) (by have w1 := hp0; have w2 := qt111; omega)) (cwV 1 hg (kgV wt4_6 wt4_8 wp1_13 wt1_7 wt4_9) rfl rfl rfl (by decide +kernel) ⟨by dsimp only [rmD]; omega, by dsimp only [rmD]; omega⟩) hV hK hP hD hS hA (50) 4 rfl rfl rfl hl.1 rfl (Nat.le_of_ble_eq_true rfl) dX4_readOperand_34 ⟨Nat.le_refl _, Nat.le_refl _⟩ (fun v114 u115 H locs hw113 hP hD hS => ?_)
      obtain ⟨f116, a117, g118⟩ := u115
      have hP : va_P D vwCl (xX K r f116 a117 g118 tx) H := hP
      have hD : va_D A (xX K r f116 a117 g118 tx) := hD
      have hI : xI f116 a117 := hw113.2.1
      have hG : gOK K g118.2 tt := hw113.2.2.1
      have eE119 : xEk [12, 14, 32, 38, 44, 49, 832, 838, 844] f_110 a g f116 a117 g118 := hw113.2.2.2
      have hE : xEk [12, 14, 32, 38, 44, 49, 832, 838, 844] f a g f116 a117 g118 := xEk_tr hE eE119
      refine lv_if_eq (tgt := 50) hx hb dX4_readOperand_37 (by decide) (fun c120 => ?_) (fun c120 => ?_)
      · have b121 : kb 0 v114 0 := kb_eq c120 kc_0
        refine lv_iconst (v := 0) hx hb dX4_readOperand_50 (by decide) ?_
        exact kI_ret (v := 0) hx hb hr hlocks (by decide +kernel) hK hS dX4_readOperand_51 (f116, a117, g118) hP hD ⟨(kb_w kc_0 (by decide) (by decide)), hI, hG, hE⟩
      · have b122 : kb 1 v114 1 := kr_nel c120 hw113.1 kc_0 (by decide)
        refine lv_aload_n hx hb dX4_readOperand_40 rfl (lv_at hl 1 rfl) ?_
        refine kIG.callW (As := []) (rest := []) ⟨hx, hb, hml, hown, hg⟩ (x_4_inHand l r f116 a117 g118 tx tt hT hI hG   ) (cwV 0 hg (kgV wt3_238 wt4_0 wp1_12 wt1_7 wt4_1) rfl rfl rfl (by decide +kernel) ⟨by dsimp only [rmD]; omega, by dsimp only [rmD]; omega⟩) hV hK hP hD hS hA (50) 4 rfl rfl rfl hl.1 rfl (Nat.le_of_ble_eq_true rfl) dX4_readOperand_41 ⟨Nat.le_refl _, Nat.le_refl _⟩ (fun v124 u125 H locs hw123 hP hD hS => ?_)
        have hP : va_P D vwCl (xX K r f116 a117 g118 tx) H := hP
        have hD : va_D A (xX K r f116 a117 g118 tx) := hD
        refine lv_sipush (v := 3093) hx hb dX4_readOperand_44 (by decide) ?_
        refine lv_icmp_eq (tgt := 52) hx hb dX4_readOperand_47 (by decide) (fun c126 => ?_) (fun c126 => ?_)
        · have b127 : kb 3093 v124 3093 := kb_eq c126 kc_3093
          refine lv_aload_n hx hb dX4_readOperand_52 rfl (lv_at hl 1 rfl) ?_
          refine lv_dup hx hb dX4_readOperand_53 rfl ?_
          refine va_get (D := D) (ci := 4) (v := .int (f116 1604)) (C := RX4) (T := TX4) (N := 7) hx hb hg inC4 hown hK hP 50 rfl rfl 4 (by decide) (hg _ wt2_69) (fun _ h9 => h9) rfl dX4_readOperand_54 ?_
          refine lv_topi (fun t128 et128 => ?_)
          refine lv_iconst (v := 1) hx hb dX4_readOperand_57 (by decide) ?_
          refine lv_iadd hx hb dX4_readOperand_58 ?_
          refine lv_topi (fun t129 et129 => ?_)
          refine va_put (D := D) (ci := 4) (v := .int t129) (ty := .int) (C := RX4) (T := TX4) (N := 7) hx hb hg inC4 tyX4 tyX4_ok nmX4 hown hK hP hD hS 50 rfl rfl 4 (by decide) (hg _ wt2_69) (fun _ h9 => h9) rfl (by decide +kernel) rfl rfl (Nat.le_of_ble_eq_true rfl) dX4_readOperand_59 (fun H locs hP hD hS => ?_)
          have hP : va_P D vwCl (xX K r (upd f116 1604 t129) a117 g118 tx) H := hP
          have hD : va_D A (xX K r (upd f116 1604 t129) a117 g118 tx) := hD
          refine k_gen (P := fun z => va_P D vwCl (xX K r z a117 g118 tx) H ∧ va_D A (xX K r z a117 g118 tx) ∧ (xI z a117) ∧ (gOK K g118.2 tt) ∧ (xEk [12, 14, 32, 38, 44, 49, 832, 838, 844] f a g z a117 g118)) (upd f116 1604 t129) ⟨hP, hD, (xI_f hI (fI_st hI.1 1604 (kb_any _) (by decide) (by decide))), hG, (xEk_f hE (by decide))⟩ (fun f_130 ef_130 hq => ?_)
          obtain ⟨hP, hD, hI, hG, hE⟩ := hq
          refine lv_iconst (v := 1) hx hb dX4_readOperand_62 (by decide) ?_
          exact kI_ret (v := 1) hx hb hr hlocks (by decide +kernel) hK hS dX4_readOperand_63 (f_130, a117, g118) hP hD ⟨(kb_w kc_1 (by decide) (by decide)), hI, hG, hE⟩
        · refine lv_iconst (v := 0) hx hb dX4_readOperand_50 (by decide) ?_
          exact kI_ret (v := 0) hx hb hr hlocks (by decide +kernel) hK hS dX4_readOperand_51 (f116, a117, g118) hP hD ⟨(kb_w kc_0 (by decide) (by decide)), hI, hG, hE⟩
    · have h131 := (kc_nlt c105)
      have b132 : kb 8 dp 8 := kr_le2 h131 kc_8 bdp
      refine lv_iconst (v := 0) hx hb dX4_readOperand_18 (by decide) ?_
      exact kI_ret (v := 0) hx hb hr hlocks (by decide +kernel) hK hS dX4_readOperand_19 (f, a, g) hP hD ⟨(kb_w kc_0 (by decide) (by decide)), hI, hG, hE⟩
set_option maxHeartbeats 4000000 in
set_option maxRecDepth 100000 in
theorem x_4_readSum (d : Nat) (hop : cXOp d) (l : Launch) {D : va_G} {K : Nat → ClassId} (r : Nat → Nat) (f : Nat → Int32) (a : Nat → Nat → Int32) (g : xG) (tx tt : va_W) (hT : ∀ c ∈ tt, c ∈ tx) (hI : xI f a) (hG : gOK K g.2 tt) (dp : Int32) (bdp : kb 0 dp 8)  (hp0 : dp.toInt + (d : Int) = 8) : kIG l yX4_readSum (Cond.code yX4_readSum cX4_readSum 6 (some .boolean) :: kG) (rmD (2 * d + 8) 0 0) D K [.ref (r 50), .int dp] (xX K r f a g tx) (fun v (u : xS) => kb 0 v 1 ∧ xI u.1 u.2.1 ∧ gOK K u.2.2.2 tt ∧ xEk [12, 14, 32, 38, 44, 49, 832, 838, 844] f a g u.1 u.2.1 u.2.2) (fun u => xX K r u.1 u.2.1 u.2.2 tx) 0 0 := by
  refine kIE.of (cc := cX4_readSum) (maxL := 6) (ret := (some .boolean)) (by decide) rfl (Nat.le_of_ble_eq_true rfl) ?_
  intro p e s m below meth c A hx hb hr hml hown hts hlocks hnm hK hP hD hS hA hV ls hl
  have hE : xEk [12, 14, 32, 38, 44, 49, 832, 838, 844] f a g f a g := xEk_rf
  have hg : ∀ w ∈ kG, w.before _ s = true := fun w h => hts w (List.mem_cons_of_mem _ h)
  have hown : s.vm.findClass RX4 = some m.cls := hown
  have hl : lv_has ls 6 [(0, .ref (r 50)), (1, .int dp)] := hl
  refine lv_iconst (v := (-1)) hx hb dX4_readSum_0 (by decide) ?_
  refine lv_istore_n (lv' := [(2, .int (-1)), (0, .ref (r 50)), (1, .int dp)]) hx hb dX4_readSum_1 rfl hl (by decide) rfl (fun ls hl => ?_)
  refine lv_iconst (v := 0) hx hb dX4_readSum_2 (by decide) ?_
  refine lv_istore_n (lv' := [(3, .int 0), (2, .int (-1)), (0, .ref (r 50)), (1, .int dp)]) hx hb dX4_readSum_3 rfl hl (by decide) rfl (fun ls hl => ?_)
  have lp6 : ∀ (n7 : Nat) (F3 : Nat → Int32) (B4 : Nat → Nat → Int32) (G5 : xG) (H : Heap) (locs : List Loc) (ls : Array Slot) (y1 : Int32) (y2 : Int32), (400 < y1.toInt + (n7 : Int)) → (xI F3 B4) → (gOK K G5.2 tt) → (xEk [12, 14, 32, 38, 44, 49, 832, 838, 844] f a g F3 B4 G5) → (kb 0 y1 400) → (kb (-1) y2 12) → va_P D vwCl (xX K r F3 B4 G5 tx) H → va_D A (xX K r F3 B4 G5 tx) → va_S A s.heap H locs → lv_has ls 6 [(3, .int y1), (2, .int y2), (0, .ref (r 50)), (1, .int dp)] → W p l e (rmD (2 * d + 8) 0 0) s m ([.ref (r 50), .int dp] : List Value).toArray below meth c H locs 0 0 (kQi D (tysK K) (fun v (u : xS) => kb 0 v 1 ∧ xI u.1 u.2.1 ∧ gOK K u.2.2.2 tt ∧ xEk [12, 14, 32, 38, 44, 49, 832, 838, 844] f a g u.1 u.2.1 u.2.2) (fun u => xX K r u.1 u.2.1 u.2.2 tx) A below ([.ref (r 50), .int dp] : List Value).toArray s 0 0) (F0 m 4 ls []) := by
    intro n7
    induction n7 with
    | zero =>
      intro  F3 B4 G5  H locs ls y1 y2 hmlp6 hI hG hE b8 b9 hP hD hS hl
      exact (by have h1 := b8.2; have h2 := hmlp6; omega : False).elim
    | succ n7 ihlp6 =>
      intro  F3 B4 G5  H locs ls y1 y2 hmlp6 hI hG hE b8 b9 hP hD hS hl
      refine lv_iload_n hx hb dX4_readSum_4 rfl (lv_at hl 0 rfl) ?_
      refine lv_sipush (v := 400) hx hb dX4_readSum_5 (by decide) ?_
      refine lv_icmp_ge (tgt := 173) hx hb dX4_readSum_8 (by decide) (fun c10 => ?_) (fun c10 => ?_)
      · have h11 := (kc_le c10)
        have b12 : kb 400 y1 400 := kr_le2 h11 kc_400 b8
        refine lv_iconst (v := 0) hx hb dX4_readSum_173 (by decide) ?_
        exact kI_ret (v := 0) hx hb hr hlocks (by decide +kernel) hK hS dX4_readSum_174 (F3, B4, G5) hP hD ⟨(kb_w kc_0 (by decide) (by decide)), hI, hG, hE⟩
      · have h13 := (kc_nle c10)
        have b14 : kb 0 y1 399 := kr_lt1 h13 b8 kc_400 (by decide)
        refine lv_iconst (v := (-1)) hx hb dX4_readSum_11 (by decide) ?_
        refine lv_istore (lv' := [(4, .int (-1)), (3, .int y1), (2, .int y2), (0, .ref (r 50)), (1, .int dp)]) hx hb dX4_readSum_12 hl (by decide) rfl (fun ls hl => ?_)
        refine lv_iconst (v := 0) hx hb dX4_readSum_14 (by decide) ?_
        refine lv_istore (lv' := [(5, .int 0), (4, .int (-1)), (3, .int y1), (2, .int y2), (0, .ref (r 50)), (1, .int dp)]) hx hb dX4_readSum_15 hl (by decide) rfl (fun ls hl => ?_)
        have lp20 : ∀ (n21 : Nat) (F17 : Nat → Int32) (B18 : Nat → Nat → Int32) (G19 : xG) (H : Heap) (locs : List Loc) (ls : Array Slot) (y15 : Int32) (y16 : Int32), (400 < y15.toInt + (n21 : Int)) → (xI F17 B18) → (gOK K G19.2 tt) → (xEk [12, 14, 32, 38, 44, 49, 832, 838, 844] f a g F17 B18 G19) → (kb 0 y15 400) → (kb (-1) y16 12) → va_P D vwCl (xX K r F17 B18 G19 tx) H → va_D A (xX K r F17 B18 G19 tx) → va_S A s.heap H locs → lv_has ls 6 [(5, .int y15), (4, .int y16), (3, .int y1), (2, .int y2), (0, .ref (r 50)), (1, .int dp)] → W p l e (rmD (2 * d + 8) 0 0) s m ([.ref (r 50), .int dp] : List Value).toArray below meth c H locs 0 0 (kQi D (tysK K) (fun v (u : xS) => kb 0 v 1 ∧ xI u.1 u.2.1 ∧ gOK K u.2.2.2 tt ∧ xEk [12, 14, 32, 38, 44, 49, 832, 838, 844] f a g u.1 u.2.1 u.2.2) (fun u => xX K r u.1 u.2.1 u.2.2 tx) A below ([.ref (r 50), .int dp] : List Value).toArray s 0 0) (F0 m 17 ls []) := by
          intro n21
          induction n21 with
          | zero =>
            intro  F17 B18 G19  H locs ls y15 y16 hmlp20 hI hG hE b22 b23 hP hD hS hl
            exact (by have h1 := b22.2; have h2 := hmlp20; omega : False).elim
          | succ n21 ihlp20 =>
            intro  F17 B18 G19  H locs ls y15 y16 hmlp20 hI hG hE b22 b23 hP hD hS hl
            refine lv_iload hx hb dX4_readSum_17 (lv_at hl 0 rfl) ?_
            refine lv_sipush (v := 400) hx hb dX4_readSum_19 (by decide) ?_
            have jn86 : ∀ (F83 : Nat → Int32) (B84 : Nat → Nat → Int32) (G85 : xG) (H : Heap) (locs : List Loc) (ls : Array Slot) (y82 : Int32), (xI F83 B84) → (gOK K G85.2 tt) → (xEk [12, 14, 32, 38, 44, 49, 832, 838, 844] f a g F83 B84 G85) → (kb (-1) y82 12) → va_P D vwCl (xX K r F83 B84 G85 tx) H → va_D A (xX K r F83 B84 G85 tx) → va_S A s.heap H locs → lv_has ls 6 [(5, .int y15), (4, .int y82), (3, .int y1), (2, .int y2), (0, .ref (r 50)), (1, .int dp)] → W p l e (rmD (2 * d + 8) 0 0) s m ([.ref (r 50), .int dp] : List Value).toArray below meth c H locs 0 0 (kQi D (tysK K) (fun v (u : xS) => kb 0 v 1 ∧ xI u.1 u.2.1 ∧ gOK K u.2.2.2 tt ∧ xEk [12, 14, 32, 38, 44, 49, 832, 838, 844] f a g u.1 u.2.1 u.2.2) (fun u => xX K r u.1 u.2.1 u.2.2 tx) A below ([.ref (r 50), .int dp] : List Value).toArray s 0 0) (F0 m 114 ls []) := by
              intro F83 B84 G85  H locs ls y82 hI hG hE b87 hP hD hS hl
              refine lv_aload_n hx hb dX4_readSum_114 rfl (lv_at hl 4 rfl) ?_
              refine lv_iload_n hx hb dX4_readSum_115 rfl (lv_at hl 3 rfl) ?_
              refine kVG.callW (As := [.int y2]) (rest := []) ⟨hx, hb, hml, hown, hg⟩ (x_4_emitIfAny l r F83 B84 G85 tx tt hT hI hG y2 b9 ) (cwV 1 hg (kgV wt4_26 wt4_28 wp2_1 wt1_7 wt4_29) rfl rfl rfl (by decide +kernel) ⟨by dsimp only [rmD]; omega, by dsimp only [rmD]; omega⟩) hV hK hP hD hS hA (50) 4 rfl rfl rfl hl.1 rfl (Nat.le_of_ble_eq_true rfl) dX4_readSum_116 ⟨Nat.le_refl _, Nat.le_refl _⟩ (fun u90 H locs hw88 hP hD hS => ?_)
              obtain ⟨f91, a92, g93⟩ := u90
              have hP : va_P D vwCl (xX K r f91 a92 g93 tx) H := hP
              have hD : va_D A (xX K r f91 a92 g93 tx) := hD
              have hI : xI f91 a92 := hw88.1
              have hG : gOK K g93.2 tt := hw88.2.1
              have eE94 : xEk [12, 14, 32, 38, 44, 49, 832, 838, 844] F83 B84 G85 f91 a92 g93 := hw88.2.2
              have hE : xEk [12, 14, 32, 38, 44, 49, 832, 838, 844] f a g f91 a92 g93 := xEk_tr hE eE94
              refine lv_aload_n hx hb dX4_readSum_119 rfl (lv_at hl 4 rfl) ?_
              refine kIG.callW (As := []) (rest := []) ⟨hx, hb, hml, hown, hg⟩ (x_4_inHand l r f91 a92 g93 tx tt hT hI hG   ) (cwV 0 hg (kgV wt3_238 wt4_0 wp1_12 wt1_7 wt4_1) rfl rfl rfl (by decide +kernel) ⟨by dsimp only [rmD]; omega, by dsimp only [rmD]; omega⟩) hV hK hP hD hS hA (50) 4 rfl rfl rfl hl.1 rfl (Nat.le_of_ble_eq_true rfl) dX4_readSum_120 ⟨Nat.le_refl _, Nat.le_refl _⟩ (fun v96 u97 H locs hw95 hP hD hS => ?_)
              have hP : va_P D vwCl (xX K r f91 a92 g93 tx) H := hP
              have hD : va_D A (xX K r f91 a92 g93 tx) := hD
              refine lv_sipush (v := 3043) hx hb dX4_readSum_123 (by decide) ?_
              have jn105 : ∀ (H : Heap) (locs : List Loc) (ls : Array Slot) (z104 : Int32), (kb (-1) z104 6) → va_P D vwCl (xX K r f91 a92 g93 tx) H → va_D A (xX K r f91 a92 g93 tx) → va_S A s.heap H locs → lv_has ls 6 [(5, .int y15), (4, .int y82), (3, .int y1), (2, .int y2), (0, .ref (r 50)), (1, .int dp)] → W p l e (rmD (2 * d + 8) 0 0) s m ([.ref (r 50), .int dp] : List Value).toArray below meth c H locs 0 0 (kQi D (tysK K) (fun v (u : xS) => kb 0 v 1 ∧ xI u.1 u.2.1 ∧ gOK K u.2.2.2 tt ∧ xEk [12, 14, 32, 38, 44, 49, 832, 838, 844] f a g u.1 u.2.1 u.2.2) (fun u => xX K r u.1 u.2.1 u.2.2 tx) A below ([.ref (r 50), .int dp] : List Value).toArray s 0 0) (F0 m 149 ls [.int z104]) := by
                intro  H locs ls z104 b106 hP hD hS hl
                refine lv_istore_n (lv' := [(2, .int z104), (5, .int y15), (4, .int y82), (3, .int y1), (0, .ref (r 50)), (1, .int dp)]) hx hb dX4_readSum_149 rfl hl (by decide) rfl (fun ls hl => ?_)
                refine lv_iload_n hx hb dX4_readSum_150 rfl (lv_at hl 0 rfl) ?_
                refine lv_iconst (v := (-1)) hx hb dX4_readSum_151 (by decide) ?_
                refine lv_icmp_ne (tgt := 157) hx hb dX4_readSum_152 (by decide) (fun c107 => ?_) (fun c107 => ?_)
                · have b108 : kb 0 z104 6 := kr_nel c107 b106 kc_m1 (by decide)
                  refine lv_aload_n hx hb dX4_readSum_157 rfl (lv_at hl 4 rfl) ?_
                  refine lv_dup hx hb dX4_readSum_158 rfl ?_
                  refine va_get (D := D) (ci := 4) (v := .int (f91 1604)) (C := RX4) (T := TX4) (N := 7) hx hb hg inC4 hown hK hP 50 rfl rfl 4 (by decide) (hg _ wt2_69) (fun _ h9 => h9) rfl dX4_readSum_159 ?_
                  refine lv_topi (fun t109 et109 => ?_)
                  refine lv_iconst (v := 1) hx hb dX4_readSum_162 (by decide) ?_
                  refine lv_iadd hx hb dX4_readSum_163 ?_
                  refine lv_topi (fun t110 et110 => ?_)
                  refine va_put (D := D) (ci := 4) (v := .int t110) (ty := .int) (C := RX4) (T := TX4) (N := 7) hx hb hg inC4 tyX4 tyX4_ok nmX4 hown hK hP hD hS 50 rfl rfl 4 (by decide) (hg _ wt2_69) (fun _ h9 => h9) rfl (by decide +kernel) rfl rfl (Nat.le_of_ble_eq_true rfl) dX4_readSum_164 (fun H locs hP hD hS => ?_)
                  have hP : va_P D vwCl (xX K r (upd f91 1604 t110) a92 g93 tx) H := hP
                  have hD : va_D A (xX K r (upd f91 1604 t110) a92 g93 tx) := hD
                  refine k_gen (P := fun z => va_P D vwCl (xX K r z a92 g93 tx) H ∧ va_D A (xX K r z a92 g93 tx) ∧ (xI z a92) ∧ (gOK K g93.2 tt) ∧ (xEk [12, 14, 32, 38, 44, 49, 832, 838, 844] f a g z a92 g93)) (upd f91 1604 t110) ⟨hP, hD, (xI_f hI (fI_st hI.1 1604 (kb_any _) (by decide) (by decide))), hG, (xEk_f hE (by decide))⟩ (fun f_111 ef_111 hq => ?_)
                  obtain ⟨hP, hD, hI, hG, hE⟩ := hq
                  obtain ⟨t112, et112⟩ : ∃ z : Int32, z = y1 + Int32.ofInt 1 := ⟨_, rfl⟩
                  have qt112 : t112.toInt = y1.toInt + 1 := by rw [et112]; exact km_inc b14 (by decide) (by decide)
                  have b113 : kb 1 t112 400 := kb_inc (k := 1) qt112 b14
                  refine lv_iinc (v := t112) (lv' := [(3, .int t112), (2, .int z104), (5, .int y15), (4, .int y82), (0, .ref (r 50)), (1, .int dp)]) hx hb dX4_readSum_167 hl (k := 3) rfl et112.symm (by decide) rfl (fun ls hl => ?_)
                  refine lv_goto (tgt := 4) hx hb dX4_readSum_170 (by decide) ?_
                  exact ihlp6  f_111 a92 g93 _ _ _ t112 z104 (km_up hmlp6 qt112) hI hG hE (kb_w b113 (by decide) (by decide)) (kb_w b108 (by decide) (by decide)) hP hD hS (lv_sub hl [0, 1, 4, 5] rfl)
                · have b114 : kb (-1) z104 (-1) := kb_eq c107 kc_m1
                  refine lv_iconst (v := 1) hx hb dX4_readSum_155 (by decide) ?_
                  exact kI_ret (v := 1) hx hb hr hlocks (by decide +kernel) hK hS dX4_readSum_156 (f91, a92, g93) hP hD ⟨(kb_w kc_1 (by decide) (by decide)), hI, hG, hE⟩
              refine lv_icmp_ne (tgt := 133) hx hb dX4_readSum_126 (by decide) (fun c115 => ?_) (fun c115 => ?_)
              · refine lv_aload_n hx hb dX4_readSum_133 rfl (lv_at hl 4 rfl) ?_
                refine kIG.callW (As := []) (rest := []) ⟨hx, hb, hml, hown, hg⟩ (x_4_inHand l r f91 a92 g93 tx tt hT hI hG   ) (cwV 0 hg (kgV wt3_238 wt4_0 wp1_12 wt1_7 wt4_1) rfl rfl rfl (by decide +kernel) ⟨by dsimp only [rmD]; omega, by dsimp only [rmD]; omega⟩) hV hK hP hD hS hA (50) 4 rfl rfl rfl hl.1 rfl (Nat.le_of_ble_eq_true rfl) dX4_readSum_134 ⟨Nat.le_refl _, Nat.le_refl _⟩ (fun v117 u118 H locs hw116 hP hD hS => ?_)
                have hP : va_P D vwCl (xX K r f91 a92 g93 tx) H := hP
                have hD : va_D A (xX K r f91 a92 g93 tx) := hD
                refine lv_sipush (v := 3045) hx hb dX4_readSum_137 (by decide) ?_
                refine lv_icmp_ne (tgt := 148) hx hb dX4_readSum_140 (by decide) (fun c119 => ?_) (fun c119 => ?_)
                · refine lv_iconst (v := (-1)) hx hb dX4_readSum_148 (by decide) ?_
                  exact jn105 _ _ _ (-1) (kb_w kc_m1 (by decide) (by decide)) hP hD hS (lv_sub hl [0, 1, 2, 3, 4, 5] rfl)
                · have b120 : kb 3045 v117 3045 := kb_eq c119 kc_3045
                  refine lv_bipush (v := 6) hx hb dX4_readSum_143 (by decide) ?_
                  refine lv_goto (tgt := 149) hx hb dX4_readSum_145 (by decide) ?_
                  exact jn105 _ _ _ 6 (kb_w kc_6 (by decide) (by decide)) hP hD hS (lv_sub hl [0, 1, 2, 3, 4, 5] rfl)
              · have b121 : kb 3043 v96 3043 := kb_eq c115 kc_3043
                refine lv_iconst (v := 5) hx hb dX4_readSum_129 (by decide) ?_
                refine lv_goto (tgt := 149) hx hb dX4_readSum_130 (by decide) ?_
                exact jn105 _ _ _ 5 (kb_w kc_5 (by decide) (by decide)) hP hD hS (lv_sub hl [0, 1, 2, 3, 4, 5] rfl)
            refine lv_icmp_ge (tgt := 114) hx hb dX4_readSum_22 (by decide) (fun c122 => ?_) (fun c122 => ?_)
            · have h123 := (kc_le c122)
              have b124 : kb 400 y15 400 := kr_le2 h123 kc_400 b22
              exact jn86 F17 B18 G19 _ _ _ y16 hI hG hE b23 hP hD hS (lv_sub hl [0, 1, 2, 3, 4, 5] rfl)
            · have h125 := (kc_nle c122)
              have b126 : kb 0 y15 399 := kr_lt1 h125 b22 kc_400 (by decide)
              refine lv_aload_n hx hb dX4_readSum_25 rfl (lv_at hl 4 rfl) ?_
              refine lv_iload_n hx hb dX4_readSum_26 rfl (lv_at hl 5 rfl) ?_
              refine kIG.callW (As := [.int dp]) (rest := []) ⟨hx, hb, hml, hown, hg⟩ (hop l r F17 B18 G19 tx tt hT hI hG dp bdp hp0) (cwV 1 hg (kgV wt4_10 wt4_12 wp1_14 wt1_7 wt4_13) rfl rfl rfl (by decide +kernel) ⟨by dsimp only [rmD]; omega, by dsimp only [rmD]; omega⟩) hV hK hP hD hS hA (50) 4 rfl rfl rfl hl.1 rfl (Nat.le_of_ble_eq_true rfl) dX4_readSum_27 ⟨Nat.le_refl _, Nat.le_refl _⟩ (fun v128 u129 H locs hw127 hP hD hS => ?_)
              obtain ⟨f130, a131, g132⟩ := u129
              have hP : va_P D vwCl (xX K r f130 a131 g132 tx) H := hP
              have hD : va_D A (xX K r f130 a131 g132 tx) := hD
              have hI : xI f130 a131 := hw127.2.1
              have hG : gOK K g132.2 tt := hw127.2.2.1
              have eE133 : xEk [12, 14, 32, 38, 44, 49, 832, 838, 844] F17 B18 G19 f130 a131 g132 := hw127.2.2.2
              have hE : xEk [12, 14, 32, 38, 44, 49, 832, 838, 844] f a g f130 a131 g132 := xEk_tr hE eE133
              refine lv_if_ne (tgt := 35) hx hb dX4_readSum_30 (by decide) (fun c134 => ?_) (fun c134 => ?_)
              · have b135 : kb 1 v128 1 := kr_nel c134 hw127.1 kc_0 (by decide)
                refine lv_aload_n hx hb dX4_readSum_35 rfl (lv_at hl 4 rfl) ?_
                refine lv_iload hx hb dX4_readSum_36 (lv_at hl 1 rfl) ?_
                refine kVG.callW (As := [.int y16]) (rest := []) ⟨hx, hb, hml, hown, hg⟩ (x_4_emitIfAny l r f130 a131 g132 tx tt hT hI hG y16 b23 ) (cwV 1 hg (kgV wt4_26 wt4_28 wp2_1 wt1_7 wt4_29) rfl rfl rfl (by decide +kernel) ⟨by dsimp only [rmD]; omega, by dsimp only [rmD]; omega⟩) hV hK hP hD hS hA (50) 4 rfl rfl rfl hl.1 rfl (Nat.le_of_ble_eq_true rfl) dX4_readSum_38 ⟨Nat.le_refl _, Nat.le_refl _⟩ (fun u138 H locs hw136 hP hD hS => ?_)
                obtain ⟨f139, a140, g141⟩ := u138
                have hP : va_P D vwCl (xX K r f139 a140 g141 tx) H := hP
                have hD : va_D A (xX K r f139 a140 g141 tx) := hD
                have hI : xI f139 a140 := hw136.1
                have hG : gOK K g141.2 tt := hw136.2.1
                have eE142 : xEk [12, 14, 32, 38, 44, 49, 832, 838, 844] f130 a131 g132 f139 a140 g141 := hw136.2.2
                have hE : xEk [12, 14, 32, 38, 44, 49, 832, 838, 844] f a g f139 a140 g141 := xEk_tr hE eE142
                refine lv_aload_n hx hb dX4_readSum_41 rfl (lv_at hl 4 rfl) ?_
                refine kIG.callW (As := []) (rest := []) ⟨hx, hb, hml, hown, hg⟩ (x_4_inHand l r f139 a140 g141 tx tt hT hI hG   ) (cwV 0 hg (kgV wt3_238 wt4_0 wp1_12 wt1_7 wt4_1) rfl rfl rfl (by decide +kernel) ⟨by dsimp only [rmD]; omega, by dsimp only [rmD]; omega⟩) hV hK hP hD hS hA (50) 4 rfl rfl rfl hl.1 rfl (Nat.le_of_ble_eq_true rfl) dX4_readSum_42 ⟨Nat.le_refl _, Nat.le_refl _⟩ (fun v144 u145 H locs hw143 hP hD hS => ?_)
                have hP : va_P D vwCl (xX K r f139 a140 g141 tx) H := hP
                have hD : va_D A (xX K r f139 a140 g141 tx) := hD
                refine lv_sipush (v := 3042) hx hb dX4_readSum_45 (by decide) ?_
                have jn158 : ∀ (H : Heap) (locs : List Loc) (ls : Array Slot) (z157 : Int32), (kb (-1) z157 9) → va_P D vwCl (xX K r f139 a140 g141 tx) H → va_D A (xX K r f139 a140 g141 tx) → va_S A s.heap H locs → lv_has ls 6 [(5, .int y15), (4, .int y16), (3, .int y1), (2, .int y2), (0, .ref (r 50)), (1, .int dp)] → W p l e (rmD (2 * d + 8) 0 0) s m ([.ref (r 50), .int dp] : List Value).toArray below meth c H locs 0 0 (kQi D (tysK K) (fun v (u : xS) => kb 0 v 1 ∧ xI u.1 u.2.1 ∧ gOK K u.2.2.2 tt ∧ xEk [12, 14, 32, 38, 44, 49, 832, 838, 844] f a g u.1 u.2.1 u.2.2) (fun u => xX K r u.1 u.2.1 u.2.2 tx) A below ([.ref (r 50), .int dp] : List Value).toArray s 0 0) (F0 m 87 ls [.int z157]) := by
                  intro  H locs ls z157 b159 hP hD hS hl
                  refine lv_istore (lv' := [(4, .int z157), (5, .int y15), (3, .int y1), (2, .int y2), (0, .ref (r 50)), (1, .int dp)]) hx hb dX4_readSum_87 hl (by decide) rfl (fun ls hl => ?_)
                  refine lv_iload hx hb dX4_readSum_89 (lv_at hl 0 rfl) ?_
                  refine lv_iconst (v := (-1)) hx hb dX4_readSum_91 (by decide) ?_
                  refine lv_icmp_ne (tgt := 98) hx hb dX4_readSum_92 (by decide) (fun c160 => ?_) (fun c160 => ?_)
                  · have b161 : kb 0 z157 9 := kr_nel c160 b159 kc_m1 (by decide)
                    refine lv_aload_n hx hb dX4_readSum_98 rfl (lv_at hl 4 rfl) ?_
                    refine lv_dup hx hb dX4_readSum_99 rfl ?_
                    refine va_get (D := D) (ci := 4) (v := .int (f139 1604)) (C := RX4) (T := TX4) (N := 7) hx hb hg inC4 hown hK hP 50 rfl rfl 4 (by decide) (hg _ wt2_69) (fun _ h9 => h9) rfl dX4_readSum_100 ?_
                    refine lv_topi (fun t162 et162 => ?_)
                    refine lv_iconst (v := 1) hx hb dX4_readSum_103 (by decide) ?_
                    refine lv_iadd hx hb dX4_readSum_104 ?_
                    refine lv_topi (fun t163 et163 => ?_)
                    refine va_put (D := D) (ci := 4) (v := .int t163) (ty := .int) (C := RX4) (T := TX4) (N := 7) hx hb hg inC4 tyX4 tyX4_ok nmX4 hown hK hP hD hS 50 rfl rfl 4 (by decide) (hg _ wt2_69) (fun _ h9 => h9) rfl (by decide +kernel) rfl rfl (Nat.le_of_ble_eq_true rfl) dX4_readSum_105 (fun H locs hP hD hS => ?_)
                    have hP : va_P D vwCl (xX K r (upd f139 1604 t163) a140 g141 tx) H := hP
                    have hD : va_D A (xX K r (upd f139 1604 t163) a140 g141 tx) := hD
                    refine k_gen (P := fun z => va_P D vwCl (xX K r z a140 g141 tx) H ∧ va_D A (xX K r z a140 g141 tx) ∧ (xI z a140) ∧ (gOK K g141.2 tt) ∧ (xEk [12, 14, 32, 38, 44, 49, 832, 838, 844] f a g z a140 g141)) (upd f139 1604 t163) ⟨hP, hD, (xI_f hI (fI_st hI.1 1604 (kb_any _) (by decide) (by decide))), hG, (xEk_f hE (by decide))⟩ (fun f_164 ef_164 hq => ?_)
                    obtain ⟨hP, hD, hI, hG, hE⟩ := hq
                    obtain ⟨t165, et165⟩ : ∃ z : Int32, z = y15 + Int32.ofInt 1 := ⟨_, rfl⟩
                    have qt165 : t165.toInt = y15.toInt + 1 := by rw [et165]; exact km_inc b126 (by decide) (by decide)
                    have b166 : kb 1 t165 400 := kb_inc (k := 1) qt165 b126
                    refine lv_iinc (v := t165) (lv' := [(5, .int t165), (4, .int z157), (3, .int y1), (2, .int y2), (0, .ref (r 50)), (1, .int dp)]) hx hb dX4_readSum_108 hl (k := 1) rfl et165.symm (by decide) rfl (fun ls hl => ?_)
                    refine lv_goto (tgt := 17) hx hb dX4_readSum_111 (by decide) ?_
                    exact ihlp20  f_164 a140 g141 _ _ _ t165 z157 (km_up hmlp20 qt165) hI hG hE (kb_w b166 (by decide) (by decide)) (kb_w b161 (by decide) (by decide)) hP hD hS (lv_sub hl [0, 1, 2, 3, 4, 5] rfl)
                  · have b167 : kb (-1) z157 (-1) := kb_eq c160 kc_m1
                    refine lv_goto (tgt := 114) hx hb dX4_readSum_95 (by decide) ?_
                    exact jn86 f139 a140 g141 _ _ _ z157 hI hG hE (kb_w b167 (by decide) (by decide)) hP hD hS (lv_sub hl [1, 0, 2, 3, 4, 5] rfl)
                refine lv_icmp_ne (tgt := 56) hx hb dX4_readSum_48 (by decide) (fun c168 => ?_) (fun c168 => ?_)
                · refine lv_aload_n hx hb dX4_readSum_56 rfl (lv_at hl 4 rfl) ?_
                  refine kIG.callW (As := []) (rest := []) ⟨hx, hb, hml, hown, hg⟩ (x_4_inHand l r f139 a140 g141 tx tt hT hI hG   ) (cwV 0 hg (kgV wt3_238 wt4_0 wp1_12 wt1_7 wt4_1) rfl rfl rfl (by decide +kernel) ⟨by dsimp only [rmD]; omega, by dsimp only [rmD]; omega⟩) hV hK hP hD hS hA (50) 4 rfl rfl rfl hl.1 rfl (Nat.le_of_ble_eq_true rfl) dX4_readSum_57 ⟨Nat.le_refl _, Nat.le_refl _⟩ (fun v170 u171 H locs hw169 hP hD hS => ?_)
                  have hP : va_P D vwCl (xX K r f139 a140 g141 tx) H := hP
                  have hD : va_D A (xX K r f139 a140 g141 tx) := hD
                  refine lv_sipush (v := 3047) hx hb dX4_readSum_60 (by decide) ?_
                  refine lv_icmp_ne (tgt := 71) hx hb dX4_readSum_63 (by decide) (fun c172 => ?_) (fun c172 => ?_)
                  · refine lv_aload_n hx hb dX4_readSum_71 rfl (lv_at hl 4 rfl) ?_
                    refine kIG.callW (As := []) (rest := []) ⟨hx, hb, hml, hown, hg⟩ (x_4_inHand l r f139 a140 g141 tx tt hT hI hG   ) (cwV 0 hg (kgV wt3_238 wt4_0 wp1_12 wt1_7 wt4_1) rfl rfl rfl (by decide +kernel) ⟨by dsimp only [rmD]; omega, by dsimp only [rmD]; omega⟩) hV hK hP hD hS hA (50) 4 rfl rfl rfl hl.1 rfl (Nat.le_of_ble_eq_true rfl) dX4_readSum_72 ⟨Nat.le_refl _, Nat.le_refl _⟩ (fun v174 u175 H locs hw173 hP hD hS => ?_)
                    have hP : va_P D vwCl (xX K r f139 a140 g141 tx) H := hP
                    have hD : va_D A (xX K r f139 a140 g141 tx) := hD
                    refine lv_sipush (v := 3037) hx hb dX4_readSum_75 (by decide) ?_
                    refine lv_icmp_ne (tgt := 86) hx hb dX4_readSum_78 (by decide) (fun c176 => ?_) (fun c176 => ?_)
                    · refine lv_iconst (v := (-1)) hx hb dX4_readSum_86 (by decide) ?_
                      exact jn158 _ _ _ (-1) (kb_w kc_m1 (by decide) (by decide)) hP hD hS (lv_sub hl [0, 1, 2, 3, 4, 5] rfl)
                    · have b177 : kb 3037 v174 3037 := kb_eq c176 kc_3037
                      refine lv_bipush (v := 9) hx hb dX4_readSum_81 (by decide) ?_
                      refine lv_goto (tgt := 87) hx hb dX4_readSum_83 (by decide) ?_
                      exact jn158 _ _ _ 9 (kb_w kc_9 (by decide) (by decide)) hP hD hS (lv_sub hl [0, 1, 2, 3, 4, 5] rfl)
                  · have b178 : kb 3047 v170 3047 := kb_eq c172 kc_3047
                    refine lv_bipush (v := 8) hx hb dX4_readSum_66 (by decide) ?_
                    refine lv_goto (tgt := 87) hx hb dX4_readSum_68 (by decide) ?_
                    exact jn158 _ _ _ 8 (kb_w kc_8 (by decide) (by decide)) hP hD hS (lv_sub hl [0, 1, 2, 3, 4, 5] rfl)
                · have b179 : kb 3042 v144 3042 := kb_eq c168 kc_3042
                  refine lv_bipush (v := 7) hx hb dX4_readSum_51 (by decide) ?_
                  refine lv_goto (tgt := 87) hx hb dX4_readSum_53 (by decide) ?_
                  exact jn158 _ _ _ 7 (kb_w kc_7 (by decide) (by decide)) hP hD hS (lv_sub hl [0, 1, 2, 3, 4, 5] rfl)
              · have b180 : kb 0 v128 0 := kb_eq c134 kc_0
                refine lv_iconst (v := 0) hx hb dX4_readSum_33 (by decide) ?_
                exact kI_ret (v := 0) hx hb hr hlocks (by decide +kernel) hK hS dX4_readSum_34 (f130, a131, g132) hP hD ⟨(kb_w kc_0 (by decide) (by decide)), hI, hG, hE⟩
        exact lp20 (401)  F3 B4 G5 _ _ _ 0 (-1) (by have h1 := (kc_0); unfold kb at h1; omega) hI hG hE (kb_w kc_0 (by decide) (by decide)) (kb_w kc_m1 (by decide) (by decide)) hP hD hS (lv_sub hl [0, 1, 2, 3, 4, 5] rfl)
  exact lp6 (401)  f a g _ _ _ 0 (-1) (by have h1 := (kc_0); unfold kb at h1; omega) hI hG hE (kb_w kc_0 (by decide) (by decide)) (kb_w kc_m1 (by decide) (by decide)) hP hD hS (lv_sub hl [0, 1, 2, 3] rfl)
set_option maxHeartbeats 4000000 in
set_option maxRecDepth 100000 in
theorem x_4_readPlain (d : Nat) (ih : ∀ ee, d = ee + 1 → cXTest ee) (hsum : cXSum d) (l : Launch) {D : va_G} {K : Nat → ClassId} (r : Nat → Nat) (f : Nat → Int32) (a : Nat → Nat → Int32) (g : xG) (tx tt : va_W) (hT : ∀ c ∈ tt, c ∈ tx) (hI : xI f a) (hG : gOK K g.2 tt) (dp : Int32) (bdp : kb 0 dp 8)  (hp0 : dp.toInt + (d : Int) = 8) : kIG l yX4_readPlain (Cond.code yX4_readPlain cX4_readPlain 4 (some .boolean) :: kG) (rmD (2 * d + 9) 0 0) D K [.ref (r 50), .int dp] (xX K r f a g tx) (fun v (u : xS) => kb 0 v 1 ∧ xI u.1 u.2.1 ∧ gOK K u.2.2.2 tt ∧ xEk [12, 14, 32, 38, 44, 49, 832, 838, 844] f a g u.1 u.2.1 u.2.2) (fun u => xX K r u.1 u.2.1 u.2.2 tx) 0 0 := by
  refine kIE.of (cc := cX4_readPlain) (maxL := 4) (ret := (some .boolean)) (by decide) rfl (Nat.le_of_ble_eq_true rfl) ?_
  intro p e s m below meth c A hx hb hr hml hown hts hlocks hnm hK hP hD hS hA hV ls hl
  have hE : xEk [12, 14, 32, 38, 44, 49, 832, 838, 844] f a g f a g := xEk_rf
  have hg : ∀ w ∈ kG, w.before _ s = true := fun w h => hts w (List.mem_cons_of_mem _ h)
  have hown : s.vm.findClass RX4 = some m.cls := hown
  have hl : lv_has ls 4 [(0, .ref (r 50)), (1, .int dp)] := hl
  refine lv_iconst (v := 0) hx hb dX4_readPlain_0 (by decide) ?_
  refine lv_istore_n (lv' := [(2, .int 0), (0, .ref (r 50)), (1, .int dp)]) hx hb dX4_readPlain_1 rfl hl (by decide) rfl (fun ls hl => ?_)
  refine lv_iconst (v := 0) hx hb dX4_readPlain_2 (by decide) ?_
  refine lv_istore_n (lv' := [(3, .int 0), (2, .int 0), (0, .ref (r 50)), (1, .int dp)]) hx hb dX4_readPlain_3 rfl hl (by decide) rfl (fun ls hl => ?_)
  have lp4 : ∀ (n5 : Nat) (F3 : Nat → Int32) (H : Heap) (locs : List Loc) (ls : Array Slot) (y1 : Int32) (y2 : Int32), (400 < y1.toInt + (n5 : Int)) → (xI F3 a) → (gOK K g.2 tt) → (xEk [12, 14, 32, 38, 44, 49, 832, 838, 844] f a g F3 a g) → (kb 0 y1 400) → (kb 0 y2 1) → va_P D vwCl (xX K r F3 a g tx) H → va_D A (xX K r F3 a g tx) → va_S A s.heap H locs → lv_has ls 4 [(3, .int y1), (2, .int y2), (0, .ref (r 50)), (1, .int dp)] → W p l e (rmD (2 * d + 9) 0 0) s m ([.ref (r 50), .int dp] : List Value).toArray below meth c H locs 0 0 (kQi D (tysK K) (fun v (u : xS) => kb 0 v 1 ∧ xI u.1 u.2.1 ∧ gOK K u.2.2.2 tt ∧ xEk [12, 14, 32, 38, 44, 49, 832, 838, 844] f a g u.1 u.2.1 u.2.2) (fun u => xX K r u.1 u.2.1 u.2.2 tx) A below ([.ref (r 50), .int dp] : List Value).toArray s 0 0) (F0 m 4 ls []) := by
    intro n5
    induction n5 with
    | zero =>
      intro  F3  H locs ls y1 y2 hmlp4 hI hG hE b6 b7 hP hD hS hl
      exact (by have h1 := b6.2; have h2 := hmlp4; omega : False).elim
    | succ n5 ihlp4 =>
      intro  F3  H locs ls y1 y2 hmlp4 hI hG hE b6 b7 hP hD hS hl
      refine lv_iload_n hx hb dX4_readPlain_4 rfl (lv_at hl 0 rfl) ?_
      refine lv_sipush (v := 400) hx hb dX4_readPlain_5 (by decide) ?_
      refine lv_icmp_ge (tgt := 47) hx hb dX4_readPlain_8 (by decide) (fun c8 => ?_) (fun c8 => ?_)
      · have h9 := (kc_le c8)
        have b10 : kb 400 y1 400 := kr_le2 h9 kc_400 b6
        refine lv_aload_n hx hb dX4_readPlain_47 rfl (lv_at hl 2 rfl) ?_
        refine kIG.callW (As := []) (rest := []) ⟨hx, hb, hml, hown, hg⟩ (x_4_inHand l r F3 a g tx tt hT hI hG   ) (cwV 0 hg (kgV wt3_238 wt4_0 wp1_12 wt1_7 wt4_1) rfl rfl rfl (by decide +kernel) ⟨by dsimp only [rmD]; omega, by dsimp only [rmD]; omega⟩) hV hK hP hD hS hA (50) 4 rfl rfl rfl hl.1 rfl (Nat.le_of_ble_eq_true rfl) dX4_readPlain_48 ⟨Nat.le_refl _, Nat.le_refl _⟩ (fun v12 u13 H locs hw11 hP hD hS => ?_)
        have hP : va_P D vwCl (xX K r F3 a g tx) H := hP
        have hD : va_D A (xX K r F3 a g tx) := hD
        refine lv_sipush (v := 3040) hx hb dX4_readPlain_51 (by decide) ?_
        refine lv_icmp_ne (tgt := 110) hx hb dX4_readPlain_54 (by decide) (fun c14 => ?_) (fun c14 => ?_)
        · refine lv_aload_n hx hb dX4_readPlain_110 rfl (lv_at hl 2 rfl) ?_
          refine lv_iload_n hx hb dX4_readPlain_111 rfl (lv_at hl 3 rfl) ?_
          refine kIG.callW (As := [.int dp]) (rest := []) ⟨hx, hb, hml, hown, hg⟩ (hsum l r F3 a g tx tt hT hI hG dp bdp hp0) (cwV 1 hg (kgV wt4_6 wt4_8 wp1_13 wt1_7 wt4_9) rfl rfl rfl (by decide +kernel) ⟨by dsimp only [rmD]; omega, by dsimp only [rmD]; omega⟩) hV hK hP hD hS hA (50) 4 rfl rfl rfl hl.1 rfl (Nat.le_of_ble_eq_true rfl) dX4_readPlain_112 ⟨Nat.le_refl _, Nat.le_refl _⟩ (fun v16 u17 H locs hw15 hP hD hS => ?_)
          obtain ⟨f18, a19, g20⟩ := u17
          have hP : va_P D vwCl (xX K r f18 a19 g20 tx) H := hP
          have hD : va_D A (xX K r f18 a19 g20 tx) := hD
          have hI : xI f18 a19 := hw15.2.1
          have hG : gOK K g20.2 tt := hw15.2.2.1
          have eE21 : xEk [12, 14, 32, 38, 44, 49, 832, 838, 844] F3 a g f18 a19 g20 := hw15.2.2.2
          have hE : xEk [12, 14, 32, 38, 44, 49, 832, 838, 844] f a g f18 a19 g20 := xEk_tr hE eE21
          refine lv_if_ne (tgt := 120) hx hb dX4_readPlain_115 (by decide) (fun c22 => ?_) (fun c22 => ?_)
          · have b23 : kb 1 v16 1 := kr_nel c22 hw15.1 kc_0 (by decide)
            refine lv_aload_n hx hb dX4_readPlain_120 rfl (lv_at hl 2 rfl) ?_
            refine kIG.callW (As := []) (rest := []) ⟨hx, hb, hml, hown, hg⟩ (x_4_inHand l r f18 a19 g20 tx tt hT hI hG   ) (cwV 0 hg (kgV wt3_238 wt4_0 wp1_12 wt1_7 wt4_1) rfl rfl rfl (by decide +kernel) ⟨by dsimp only [rmD]; omega, by dsimp only [rmD]; omega⟩) hV hK hP hD hS hA (50) 4 rfl rfl rfl hl.1 rfl (Nat.le_of_ble_eq_true rfl) dX4_readPlain_121 ⟨Nat.le_refl _, Nat.le_refl _⟩ (fun v25 u26 H locs hw24 hP hD hS => ?_)
            have hP : va_P D vwCl (xX K r f18 a19 g20 tx) H := hP
            have hD : va_D A (xX K r f18 a19 g20 tx) := hD
            refine lv_sipush (v := 3060) hx hb dX4_readPlain_124 (by decide) ?_
            refine lv_icmp_ne (tgt := 135) hx hb dX4_readPlain_127 (by decide) (fun c27 => ?_) (fun c27 => ?_)
            · refine lv_aload_n hx hb dX4_readPlain_135 rfl (lv_at hl 2 rfl) ?_
              refine kIG.callW (As := []) (rest := []) ⟨hx, hb, hml, hown, hg⟩ (x_4_inHand l r f18 a19 g20 tx tt hT hI hG   ) (cwV 0 hg (kgV wt3_238 wt4_0 wp1_12 wt1_7 wt4_1) rfl rfl rfl (by decide +kernel) ⟨by dsimp only [rmD]; omega, by dsimp only [rmD]; omega⟩) hV hK hP hD hS hA (50) 4 rfl rfl rfl hl.1 rfl (Nat.le_of_ble_eq_true rfl) dX4_readPlain_136 ⟨Nat.le_refl _, Nat.le_refl _⟩ (fun v29 u30 H locs hw28 hP hD hS => ?_)
              have hP : va_P D vwCl (xX K r f18 a19 g20 tx) H := hP
              have hD : va_D A (xX K r f18 a19 g20 tx) := hD
              refine lv_sipush (v := 3062) hx hb dX4_readPlain_139 (by decide) ?_
              refine lv_icmp_ne (tgt := 150) hx hb dX4_readPlain_142 (by decide) (fun c31 => ?_) (fun c31 => ?_)
              · refine lv_aload_n hx hb dX4_readPlain_150 rfl (lv_at hl 2 rfl) ?_
                refine kIG.callW (As := []) (rest := []) ⟨hx, hb, hml, hown, hg⟩ (x_4_inHand l r f18 a19 g20 tx tt hT hI hG   ) (cwV 0 hg (kgV wt3_238 wt4_0 wp1_12 wt1_7 wt4_1) rfl rfl rfl (by decide +kernel) ⟨by dsimp only [rmD]; omega, by dsimp only [rmD]; omega⟩) hV hK hP hD hS hA (50) 4 rfl rfl rfl hl.1 rfl (Nat.le_of_ble_eq_true rfl) dX4_readPlain_151 ⟨Nat.le_refl _, Nat.le_refl _⟩ (fun v33 u34 H locs hw32 hP hD hS => ?_)
                have hP : va_P D vwCl (xX K r f18 a19 g20 tx) H := hP
                have hD : va_D A (xX K r f18 a19 g20 tx) := hD
                refine lv_sipush (v := 3061) hx hb dX4_readPlain_154 (by decide) ?_
                refine lv_icmp_ne (tgt := 165) hx hb dX4_readPlain_157 (by decide) (fun c35 => ?_) (fun c35 => ?_)
                · refine lv_iconst (v := (-1)) hx hb dX4_readPlain_165 (by decide) ?_
                  refine lv_istore_n (lv' := [(3, .int (-1)), (2, .int y2), (0, .ref (r 50)), (1, .int dp)]) hx hb dX4_readPlain_166 rfl hl (by decide) rfl (fun ls hl => ?_)
                  refine lv_iload_n hx hb dX4_readPlain_167 rfl (lv_at hl 0 rfl) ?_
                  refine lv_iconst (v := (-1)) hx hb dX4_readPlain_168 (by decide) ?_
                  refine lv_icmp_ne (tgt := 174) hx hb dX4_readPlain_169 (by decide) (fun c36 => ?_) (fun c36 => ?_)
                  · exact kb_nsame c36 kc_m1 kc_m1
                  · refine lv_iconst (v := 0) hx hb dX4_readPlain_172 (by decide) ?_
                    exact kI_ret (v := 0) hx hb hr hlocks (by decide +kernel) hK hS dX4_readPlain_173 (f18, a19, g20) hP hD ⟨(kb_w kc_0 (by decide) (by decide)), hI, hG, hE⟩
                · have b37 : kb 3061 v33 3061 := kb_eq c35 kc_3061
                  refine lv_bipush (v := 12) hx hb dX4_readPlain_160 (by decide) ?_
                  refine lv_goto (tgt := 166) hx hb dX4_readPlain_162 (by decide) ?_
                  refine lv_istore_n (lv' := [(3, .int 12), (2, .int y2), (0, .ref (r 50)), (1, .int dp)]) hx hb dX4_readPlain_166 rfl hl (by decide) rfl (fun ls hl => ?_)
                  refine lv_iload_n hx hb dX4_readPlain_167 rfl (lv_at hl 0 rfl) ?_
                  refine lv_iconst (v := (-1)) hx hb dX4_readPlain_168 (by decide) ?_
                  refine lv_icmp_ne (tgt := 174) hx hb dX4_readPlain_169 (by decide) (fun c38 => ?_) (fun c38 => ?_)
                  · refine lv_aload_n hx hb dX4_readPlain_174 rfl (lv_at hl 2 rfl) ?_
                    refine lv_dup hx hb dX4_readPlain_175 rfl ?_
                    refine va_get (D := D) (ci := 4) (v := .int (f18 1604)) (C := RX4) (T := TX4) (N := 7) hx hb hg inC4 hown hK hP 50 rfl rfl 4 (by decide) (hg _ wt2_69) (fun _ h9 => h9) rfl dX4_readPlain_176 ?_
                    refine lv_topi (fun t39 et39 => ?_)
                    refine lv_iconst (v := 1) hx hb dX4_readPlain_179 (by decide) ?_
                    refine lv_iadd hx hb dX4_readPlain_180 ?_
                    refine lv_topi (fun t40 et40 => ?_)
                    refine va_put (D := D) (ci := 4) (v := .int t40) (ty := .int) (C := RX4) (T := TX4) (N := 7) hx hb hg inC4 tyX4 tyX4_ok nmX4 hown hK hP hD hS 50 rfl rfl 4 (by decide) (hg _ wt2_69) (fun _ h9 => h9) rfl (by decide +kernel) rfl rfl (Nat.le_of_ble_eq_true rfl) dX4_readPlain_181 (fun H locs hP hD hS => ?_)
                    have hP : va_P D vwCl (xX K r (upd f18 1604 t40) a19 g20 tx) H := hP
                    have hD : va_D A (xX K r (upd f18 1604 t40) a19 g20 tx) := hD
                    refine k_gen (P := fun z => va_P D vwCl (xX K r z a19 g20 tx) H ∧ va_D A (xX K r z a19 g20 tx) ∧ (xI z a19) ∧ (gOK K g20.2 tt) ∧ (xEk [12, 14, 32, 38, 44, 49, 832, 838, 844] f a g z a19 g20)) (upd f18 1604 t40) ⟨hP, hD, (xI_f hI (fI_st hI.1 1604 (kb_any _) (by decide) (by decide))), hG, (xEk_f hE (by decide))⟩ (fun f_41 ef_41 hq => ?_)
                    obtain ⟨hP, hD, hI, hG, hE⟩ := hq
                    refine lv_aload_n hx hb dX4_readPlain_184 rfl (lv_at hl 2 rfl) ?_
                    refine lv_iload_n hx hb dX4_readPlain_185 rfl (lv_at hl 3 rfl) ?_
                    refine kIG.callW (As := [.int dp]) (rest := []) ⟨hx, hb, hml, hown, hg⟩ (hsum l r f_41 a19 g20 tx tt hT hI hG dp bdp hp0) (cwV 1 hg (kgV wt4_6 wt4_8 wp1_13 wt1_7 wt4_9) rfl rfl rfl (by decide +kernel) ⟨by dsimp only [rmD]; omega, by dsimp only [rmD]; omega⟩) hV hK hP hD hS hA (50) 4 rfl rfl rfl hl.1 rfl (Nat.le_of_ble_eq_true rfl) dX4_readPlain_186 ⟨Nat.le_refl _, Nat.le_refl _⟩ (fun v43 u44 H locs hw42 hP hD hS => ?_)
                    obtain ⟨f45, a46, g47⟩ := u44
                    have hP : va_P D vwCl (xX K r f45 a46 g47 tx) H := hP
                    have hD : va_D A (xX K r f45 a46 g47 tx) := hD
                    have hI : xI f45 a46 := hw42.2.1
                    have hG : gOK K g47.2 tt := hw42.2.2.1
                    have eE48 : xEk [12, 14, 32, 38, 44, 49, 832, 838, 844] f_41 a19 g20 f45 a46 g47 := hw42.2.2.2
                    have hE : xEk [12, 14, 32, 38, 44, 49, 832, 838, 844] f a g f45 a46 g47 := xEk_tr hE eE48
                    refine lv_if_ne (tgt := 194) hx hb dX4_readPlain_189 (by decide) (fun c49 => ?_) (fun c49 => ?_)
                    · have b50 : kb 1 v43 1 := kr_nel c49 hw42.1 kc_0 (by decide)
                      refine lv_aload_n hx hb dX4_readPlain_194 rfl (lv_at hl 2 rfl) ?_
                      refine va_get (D := D) (ci := 4) (v := .ref (r 51)) (C := RX4) (T := TX4) (N := 7) hx hb hg inC4 hown hK hP 50 rfl rfl 0 (by decide) (hg _ wt2_64) (fun _ h9 => h9) rfl dX4_readPlain_195 ?_
                      refine lv_iload_n hx hb dX4_readPlain_198 rfl (lv_at hl 0 rfl) ?_
                      refine lv_iconst (v := 0) hx hb dX4_readPlain_199 (by decide) ?_
                      refine kIG.callW (As := [.int 12, .int 0]) (rest := []) ⟨hx, hb, hml, hown, hg⟩ (x_10_emit l r f45 a46 g47 tx tt hT hI hG 12 0 (kb_w kc_12 (by decide) (by decide)) ) (cwV 2 hg (kgV wt4_14 wt4_15 wt4_16 wt1_8 wt4_17) rfl rfl rfl (by decide +kernel) ⟨by dsimp only [rmD]; omega, by dsimp only [rmD]; omega⟩) hV hK hP hD hS hA (51) 10 rfl rfl rfl hl.1 rfl (Nat.le_of_ble_eq_true rfl) dX4_readPlain_200 ⟨Nat.le_refl _, Nat.le_refl _⟩ (fun v52 u53 H locs hw51 hP hD hS => ?_)
                      obtain ⟨f54, a55, g56⟩ := u53
                      have hP : va_P D vwCl (xX K r f54 a55 g56 tx) H := hP
                      have hD : va_D A (xX K r f54 a55 g56 tx) := hD
                      have hI : xI f54 a55 := hw51.2.1
                      have hG : gOK K g56.2 tt := hw51.2.2.1
                      have eE57 : xEk [12, 14, 32, 38, 44, 49, 832, 838, 844] f45 a46 g47 f54 a55 g56 := hw51.2.2.2
                      have hE : xEk [12, 14, 32, 38, 44, 49, 832, 838, 844] f a g f54 a55 g56 := xEk_tr hE eE57
                      refine lv_pop hx hb dX4_readPlain_203 rfl ?_
                      refine lv_aload_n hx hb dX4_readPlain_204 rfl (lv_at hl 2 rfl) ?_
                      refine lv_iload_n hx hb dX4_readPlain_205 rfl (lv_at hl 1 rfl) ?_
                      refine lv_if_eq (tgt := 213) hx hb dX4_readPlain_206 (by decide) (fun c58 => ?_) (fun c58 => ?_)
                      · have b59 : kb 0 y2 0 := kb_eq c58 kc_0
                        refine lv_iconst (v := (-1)) hx hb dX4_readPlain_213 (by decide) ?_
                        refine kVG.callW (As := [.int (-1)]) (rest := []) ⟨hx, hb, hml, hown, hg⟩ (x_4_emitIfAny l r f54 a55 g56 tx tt hT hI hG (-1) (kb_w kc_m1 (by decide) (by decide)) ) (cwV 1 hg (kgV wt4_26 wt4_28 wp2_1 wt1_7 wt4_29) rfl rfl rfl (by decide +kernel) ⟨by dsimp only [rmD]; omega, by dsimp only [rmD]; omega⟩) hV hK hP hD hS hA (50) 4 rfl rfl rfl hl.1 rfl (Nat.le_of_ble_eq_true rfl) dX4_readPlain_214 ⟨Nat.le_refl _, Nat.le_refl _⟩ (fun u62 H locs hw60 hP hD hS => ?_)
                        obtain ⟨f63, a64, g65⟩ := u62
                        have hP : va_P D vwCl (xX K r f63 a64 g65 tx) H := hP
                        have hD : va_D A (xX K r f63 a64 g65 tx) := hD
                        have hI : xI f63 a64 := hw60.1
                        have hG : gOK K g65.2 tt := hw60.2.1
                        have eE66 : xEk [12, 14, 32, 38, 44, 49, 832, 838, 844] f54 a55 g56 f63 a64 g65 := hw60.2.2
                        have hE : xEk [12, 14, 32, 38, 44, 49, 832, 838, 844] f a g f63 a64 g65 := xEk_tr hE eE66
                        refine lv_iconst (v := 1) hx hb dX4_readPlain_217 (by decide) ?_
                        exact kI_ret (v := 1) hx hb hr hlocks (by decide +kernel) hK hS dX4_readPlain_218 (f63, a64, g65) hP hD ⟨(kb_w kc_1 (by decide) (by decide)), hI, hG, hE⟩
                      · have b67 : kb 1 y2 1 := kr_nel c58 b7 kc_0 (by decide)
                        refine lv_iconst (v := 2) hx hb dX4_readPlain_209 (by decide) ?_
                        refine lv_goto (tgt := 214) hx hb dX4_readPlain_210 (by decide) ?_
                        refine kVG.callW (As := [.int 2]) (rest := []) ⟨hx, hb, hml, hown, hg⟩ (x_4_emitIfAny l r f54 a55 g56 tx tt hT hI hG 2 (kb_w kc_2 (by decide) (by decide)) ) (cwV 1 hg (kgV wt4_26 wt4_28 wp2_1 wt1_7 wt4_29) rfl rfl rfl (by decide +kernel) ⟨by dsimp only [rmD]; omega, by dsimp only [rmD]; omega⟩) hV hK hP hD hS hA (50) 4 rfl rfl rfl hl.1 rfl (Nat.le_of_ble_eq_true rfl) dX4_readPlain_214 ⟨Nat.le_refl _, Nat.le_refl _⟩ (fun u70 H locs hw68 hP hD hS => ?_)
                        obtain ⟨f71, a72, g73⟩ := u70
                        have hP : va_P D vwCl (xX K r f71 a72 g73 tx) H := hP
                        have hD : va_D A (xX K r f71 a72 g73 tx) := hD
                        have hI : xI f71 a72 := hw68.1
                        have hG : gOK K g73.2 tt := hw68.2.1
                        have eE74 : xEk [12, 14, 32, 38, 44, 49, 832, 838, 844] f54 a55 g56 f71 a72 g73 := hw68.2.2
                        have hE : xEk [12, 14, 32, 38, 44, 49, 832, 838, 844] f a g f71 a72 g73 := xEk_tr hE eE74
                        refine lv_iconst (v := 1) hx hb dX4_readPlain_217 (by decide) ?_
                        exact kI_ret (v := 1) hx hb hr hlocks (by decide +kernel) hK hS dX4_readPlain_218 (f71, a72, g73) hP hD ⟨(kb_w kc_1 (by decide) (by decide)), hI, hG, hE⟩
                    · have b75 : kb 0 v43 0 := kb_eq c49 kc_0
                      refine lv_iconst (v := 0) hx hb dX4_readPlain_192 (by decide) ?_
                      exact kI_ret (v := 0) hx hb hr hlocks (by decide +kernel) hK hS dX4_readPlain_193 (f45, a46, g47) hP hD ⟨(kb_w kc_0 (by decide) (by decide)), hI, hG, hE⟩
                  · exact kb_dj c38 kc_12 kc_m1 (by decide)
              · have b76 : kb 3062 v29 3062 := kb_eq c31 kc_3062
                refine lv_bipush (v := 11) hx hb dX4_readPlain_145 (by decide) ?_
                refine lv_goto (tgt := 166) hx hb dX4_readPlain_147 (by decide) ?_
                refine lv_istore_n (lv' := [(3, .int 11), (2, .int y2), (0, .ref (r 50)), (1, .int dp)]) hx hb dX4_readPlain_166 rfl hl (by decide) rfl (fun ls hl => ?_)
                refine lv_iload_n hx hb dX4_readPlain_167 rfl (lv_at hl 0 rfl) ?_
                refine lv_iconst (v := (-1)) hx hb dX4_readPlain_168 (by decide) ?_
                refine lv_icmp_ne (tgt := 174) hx hb dX4_readPlain_169 (by decide) (fun c77 => ?_) (fun c77 => ?_)
                · refine lv_aload_n hx hb dX4_readPlain_174 rfl (lv_at hl 2 rfl) ?_
                  refine lv_dup hx hb dX4_readPlain_175 rfl ?_
                  refine va_get (D := D) (ci := 4) (v := .int (f18 1604)) (C := RX4) (T := TX4) (N := 7) hx hb hg inC4 hown hK hP 50 rfl rfl 4 (by decide) (hg _ wt2_69) (fun _ h9 => h9) rfl dX4_readPlain_176 ?_
                  refine lv_topi (fun t78 et78 => ?_)
                  refine lv_iconst (v := 1) hx hb dX4_readPlain_179 (by decide) ?_
                  refine lv_iadd hx hb dX4_readPlain_180 ?_
                  refine lv_topi (fun t79 et79 => ?_)
                  refine va_put (D := D) (ci := 4) (v := .int t79) (ty := .int) (C := RX4) (T := TX4) (N := 7) hx hb hg inC4 tyX4 tyX4_ok nmX4 hown hK hP hD hS 50 rfl rfl 4 (by decide) (hg _ wt2_69) (fun _ h9 => h9) rfl (by decide +kernel) rfl rfl (Nat.le_of_ble_eq_true rfl) dX4_readPlain_181 (fun H locs hP hD hS => ?_)
                  have hP : va_P D vwCl (xX K r (upd f18 1604 t79) a19 g20 tx) H := hP
                  have hD : va_D A (xX K r (upd f18 1604 t79) a19 g20 tx) := hD
                  refine k_gen (P := fun z => va_P D vwCl (xX K r z a19 g20 tx) H ∧ va_D A (xX K r z a19 g20 tx) ∧ (xI z a19) ∧ (gOK K g20.2 tt) ∧ (xEk [12, 14, 32, 38, 44, 49, 832, 838, 844] f a g z a19 g20)) (upd f18 1604 t79) ⟨hP, hD, (xI_f hI (fI_st hI.1 1604 (kb_any _) (by decide) (by decide))), hG, (xEk_f hE (by decide))⟩ (fun f_80 ef_80 hq => ?_)
                  obtain ⟨hP, hD, hI, hG, hE⟩ := hq
                  refine lv_aload_n hx hb dX4_readPlain_184 rfl (lv_at hl 2 rfl) ?_
                  refine lv_iload_n hx hb dX4_readPlain_185 rfl (lv_at hl 3 rfl) ?_
                  refine kIG.callW (As := [.int dp]) (rest := []) ⟨hx, hb, hml, hown, hg⟩ (hsum l r f_80 a19 g20 tx tt hT hI hG dp bdp hp0) (cwV 1 hg (kgV wt4_6 wt4_8 wp1_13 wt1_7 wt4_9) rfl rfl rfl (by decide +kernel) ⟨by dsimp only [rmD]; omega, by dsimp only [rmD]; omega⟩) hV hK hP hD hS hA (50) 4 rfl rfl rfl hl.1 rfl (Nat.le_of_ble_eq_true rfl) dX4_readPlain_186 ⟨Nat.le_refl _, Nat.le_refl _⟩ (fun v82 u83 H locs hw81 hP hD hS => ?_)
                  obtain ⟨f84, a85, g86⟩ := u83
                  have hP : va_P D vwCl (xX K r f84 a85 g86 tx) H := hP
                  have hD : va_D A (xX K r f84 a85 g86 tx) := hD
                  have hI : xI f84 a85 := hw81.2.1
                  have hG : gOK K g86.2 tt := hw81.2.2.1
                  have eE87 : xEk [12, 14, 32, 38, 44, 49, 832, 838, 844] f_80 a19 g20 f84 a85 g86 := hw81.2.2.2
                  have hE : xEk [12, 14, 32, 38, 44, 49, 832, 838, 844] f a g f84 a85 g86 := xEk_tr hE eE87
                  refine lv_if_ne (tgt := 194) hx hb dX4_readPlain_189 (by decide) (fun c88 => ?_) (fun c88 => ?_)
                  · have b89 : kb 1 v82 1 := kr_nel c88 hw81.1 kc_0 (by decide)
                    refine lv_aload_n hx hb dX4_readPlain_194 rfl (lv_at hl 2 rfl) ?_
                    refine va_get (D := D) (ci := 4) (v := .ref (r 51)) (C := RX4) (T := TX4) (N := 7) hx hb hg inC4 hown hK hP 50 rfl rfl 0 (by decide) (hg _ wt2_64) (fun _ h9 => h9) rfl dX4_readPlain_195 ?_
                    refine lv_iload_n hx hb dX4_readPlain_198 rfl (lv_at hl 0 rfl) ?_
                    refine lv_iconst (v := 0) hx hb dX4_readPlain_199 (by decide) ?_
                    refine kIG.callW (As := [.int 11, .int 0]) (rest := []) ⟨hx, hb, hml, hown, hg⟩ (x_10_emit l r f84 a85 g86 tx tt hT hI hG 11 0 (kb_w kc_11 (by decide) (by decide)) ) (cwV 2 hg (kgV wt4_14 wt4_15 wt4_16 wt1_8 wt4_17) rfl rfl rfl (by decide +kernel) ⟨by dsimp only [rmD]; omega, by dsimp only [rmD]; omega⟩) hV hK hP hD hS hA (51) 10 rfl rfl rfl hl.1 rfl (Nat.le_of_ble_eq_true rfl) dX4_readPlain_200 ⟨Nat.le_refl _, Nat.le_refl _⟩ (fun v91 u92 H locs hw90 hP hD hS => ?_)
                    obtain ⟨f93, a94, g95⟩ := u92
                    have hP : va_P D vwCl (xX K r f93 a94 g95 tx) H := hP
                    have hD : va_D A (xX K r f93 a94 g95 tx) := hD
                    have hI : xI f93 a94 := hw90.2.1
                    have hG : gOK K g95.2 tt := hw90.2.2.1
                    have eE96 : xEk [12, 14, 32, 38, 44, 49, 832, 838, 844] f84 a85 g86 f93 a94 g95 := hw90.2.2.2
                    have hE : xEk [12, 14, 32, 38, 44, 49, 832, 838, 844] f a g f93 a94 g95 := xEk_tr hE eE96
                    refine lv_pop hx hb dX4_readPlain_203 rfl ?_
                    refine lv_aload_n hx hb dX4_readPlain_204 rfl (lv_at hl 2 rfl) ?_
                    refine lv_iload_n hx hb dX4_readPlain_205 rfl (lv_at hl 1 rfl) ?_
                    refine lv_if_eq (tgt := 213) hx hb dX4_readPlain_206 (by decide) (fun c97 => ?_) (fun c97 => ?_)
                    · have b98 : kb 0 y2 0 := kb_eq c97 kc_0
                      refine lv_iconst (v := (-1)) hx hb dX4_readPlain_213 (by decide) ?_
                      refine kVG.callW (As := [.int (-1)]) (rest := []) ⟨hx, hb, hml, hown, hg⟩ (x_4_emitIfAny l r f93 a94 g95 tx tt hT hI hG (-1) (kb_w kc_m1 (by decide) (by decide)) ) (cwV 1 hg (kgV wt4_26 wt4_28 wp2_1 wt1_7 wt4_29) rfl rfl rfl (by decide +kernel) ⟨by dsimp only [rmD]; omega, by dsimp only [rmD]; omega⟩) hV hK hP hD hS hA (50) 4 rfl rfl rfl hl.1 rfl (Nat.le_of_ble_eq_true rfl) dX4_readPlain_214 ⟨Nat.le_refl _, Nat.le_refl _⟩ (fun u101 H locs hw99 hP hD hS => ?_)
                      obtain ⟨f102, a103, g104⟩ := u101
                      have hP : va_P D vwCl (xX K r f102 a103 g104 tx) H := hP
                      have hD : va_D A (xX K r f102 a103 g104 tx) := hD
                      have hI : xI f102 a103 := hw99.1
                      have hG : gOK K g104.2 tt := hw99.2.1
                      have eE105 : xEk [12, 14, 32, 38, 44, 49, 832, 838, 844] f93 a94 g95 f102 a103 g104 := hw99.2.2
                      have hE : xEk [12, 14, 32, 38, 44, 49, 832, 838, 844] f a g f102 a103 g104 := xEk_tr hE eE105
                      refine lv_iconst (v := 1) hx hb dX4_readPlain_217 (by decide) ?_
                      exact kI_ret (v := 1) hx hb hr hlocks (by decide +kernel) hK hS dX4_readPlain_218 (f102, a103, g104) hP hD ⟨(kb_w kc_1 (by decide) (by decide)), hI, hG, hE⟩
                    · have b106 : kb 1 y2 1 := kr_nel c97 b7 kc_0 (by decide)
                      refine lv_iconst (v := 2) hx hb dX4_readPlain_209 (by decide) ?_
                      refine lv_goto (tgt := 214) hx hb dX4_readPlain_210 (by decide) ?_
                      refine kVG.callW (As := [.int 2]) (rest := []) ⟨hx, hb, hml, hown, hg⟩ (x_4_emitIfAny l r f93 a94 g95 tx tt hT hI hG 2 (kb_w kc_2 (by decide) (by decide)) ) (cwV 1 hg (kgV wt4_26 wt4_28 wp2_1 wt1_7 wt4_29) rfl rfl rfl (by decide +kernel) ⟨by dsimp only [rmD]; omega, by dsimp only [rmD]; omega⟩) hV hK hP hD hS hA (50) 4 rfl rfl rfl hl.1 rfl (Nat.le_of_ble_eq_true rfl) dX4_readPlain_214 ⟨Nat.le_refl _, Nat.le_refl _⟩ (fun u109 H locs hw107 hP hD hS => ?_)
                      obtain ⟨f110, a111, g112⟩ := u109
                      have hP : va_P D vwCl (xX K r f110 a111 g112 tx) H := hP
                      have hD : va_D A (xX K r f110 a111 g112 tx) := hD
                      have hI : xI f110 a111 := hw107.1
                      have hG : gOK K g112.2 tt := hw107.2.1
                      have eE113 : xEk [12, 14, 32, 38, 44, 49, 832, 838, 844] f93 a94 g95 f110 a111 g112 := hw107.2.2
                      have hE : xEk [12, 14, 32, 38, 44, 49, 832, 838, 844] f a g f110 a111 g112 := xEk_tr hE eE113
                      refine lv_iconst (v := 1) hx hb dX4_readPlain_217 (by decide) ?_
                      exact kI_ret (v := 1) hx hb hr hlocks (by decide +kernel) hK hS dX4_readPlain_218 (f110, a111, g112) hP hD ⟨(kb_w kc_1 (by decide) (by decide)), hI, hG, hE⟩
                  · have b114 : kb 0 v82 0 := kb_eq c88 kc_0
                    refine lv_iconst (v := 0) hx hb dX4_readPlain_192 (by decide) ?_
                    exact kI_ret (v := 0) hx hb hr hlocks (by decide +kernel) hK hS dX4_readPlain_193 (f84, a85, g86) hP hD ⟨(kb_w kc_0 (by decide) (by decide)), hI, hG, hE⟩
                · exact kb_dj c77 kc_11 kc_m1 (by decide)
            · have b115 : kb 3060 v25 3060 := kb_eq c27 kc_3060
              refine lv_bipush (v := 10) hx hb dX4_readPlain_130 (by decide) ?_
              refine lv_goto (tgt := 166) hx hb dX4_readPlain_132 (by decide) ?_
              refine lv_istore_n (lv' := [(3, .int 10), (2, .int y2), (0, .ref (r 50)), (1, .int dp)]) hx hb dX4_readPlain_166 rfl hl (by decide) rfl (fun ls hl => ?_)
              refine lv_iload_n hx hb dX4_readPlain_167 rfl (lv_at hl 0 rfl) ?_
              refine lv_iconst (v := (-1)) hx hb dX4_readPlain_168 (by decide) ?_
              refine lv_icmp_ne (tgt := 174) hx hb dX4_readPlain_169 (by decide) (fun c116 => ?_) (fun c116 => ?_)
              · refine lv_aload_n hx hb dX4_readPlain_174 rfl (lv_at hl 2 rfl) ?_
                refine lv_dup hx hb dX4_readPlain_175 rfl ?_
                refine va_get (D := D) (ci := 4) (v := .int (f18 1604)) (C := RX4) (T := TX4) (N := 7) hx hb hg inC4 hown hK hP 50 rfl rfl 4 (by decide) (hg _ wt2_69) (fun _ h9 => h9) rfl dX4_readPlain_176 ?_
                refine lv_topi (fun t117 et117 => ?_)
                refine lv_iconst (v := 1) hx hb dX4_readPlain_179 (by decide) ?_
                refine lv_iadd hx hb dX4_readPlain_180 ?_
                refine lv_topi (fun t118 et118 => ?_)
                refine va_put (D := D) (ci := 4) (v := .int t118) (ty := .int) (C := RX4) (T := TX4) (N := 7) hx hb hg inC4 tyX4 tyX4_ok nmX4 hown hK hP hD hS 50 rfl rfl 4 (by decide) (hg _ wt2_69) (fun _ h9 => h9) rfl (by decide +kernel) rfl rfl (Nat.le_of_ble_eq_true rfl) dX4_readPlain_181 (fun H locs hP hD hS => ?_)
                have hP : va_P D vwCl (xX K r (upd f18 1604 t118) a19 g20 tx) H := hP
                have hD : va_D A (xX K r (upd f18 1604 t118) a19 g20 tx) := hD
                refine k_gen (P := fun z => va_P D vwCl (xX K r z a19 g20 tx) H ∧ va_D A (xX K r z a19 g20 tx) ∧ (xI z a19) ∧ (gOK K g20.2 tt) ∧ (xEk [12, 14, 32, 38, 44, 49, 832, 838, 844] f a g z a19 g20)) (upd f18 1604 t118) ⟨hP, hD, (xI_f hI (fI_st hI.1 1604 (kb_any _) (by decide) (by decide))), hG, (xEk_f hE (by decide))⟩ (fun f_119 ef_119 hq => ?_)
                obtain ⟨hP, hD, hI, hG, hE⟩ := hq
                refine lv_aload_n hx hb dX4_readPlain_184 rfl (lv_at hl 2 rfl) ?_
                refine lv_iload_n hx hb dX4_readPlain_185 rfl (lv_at hl 3 rfl) ?_
                refine kIG.callW (As := [.int dp]) (rest := []) ⟨hx, hb, hml, hown, hg⟩ (hsum l r f_119 a19 g20 tx tt hT hI hG dp bdp hp0) (cwV 1 hg (kgV wt4_6 wt4_8 wp1_13 wt1_7 wt4_9) rfl rfl rfl (by decide +kernel) ⟨by dsimp only [rmD]; omega, by dsimp only [rmD]; omega⟩) hV hK hP hD hS hA (50) 4 rfl rfl rfl hl.1 rfl (Nat.le_of_ble_eq_true rfl) dX4_readPlain_186 ⟨Nat.le_refl _, Nat.le_refl _⟩ (fun v121 u122 H locs hw120 hP hD hS => ?_)
                obtain ⟨f123, a124, g125⟩ := u122
                have hP : va_P D vwCl (xX K r f123 a124 g125 tx) H := hP
                have hD : va_D A (xX K r f123 a124 g125 tx) := hD
                have hI : xI f123 a124 := hw120.2.1
                have hG : gOK K g125.2 tt := hw120.2.2.1
                have eE126 : xEk [12, 14, 32, 38, 44, 49, 832, 838, 844] f_119 a19 g20 f123 a124 g125 := hw120.2.2.2
                have hE : xEk [12, 14, 32, 38, 44, 49, 832, 838, 844] f a g f123 a124 g125 := xEk_tr hE eE126
                refine lv_if_ne (tgt := 194) hx hb dX4_readPlain_189 (by decide) (fun c127 => ?_) (fun c127 => ?_)
                · have b128 : kb 1 v121 1 := kr_nel c127 hw120.1 kc_0 (by decide)
                  refine lv_aload_n hx hb dX4_readPlain_194 rfl (lv_at hl 2 rfl) ?_
                  refine va_get (D := D) (ci := 4) (v := .ref (r 51)) (C := RX4) (T := TX4) (N := 7) hx hb hg inC4 hown hK hP 50 rfl rfl 0 (by decide) (hg _ wt2_64) (fun _ h9 => h9) rfl dX4_readPlain_195 ?_
                  refine lv_iload_n hx hb dX4_readPlain_198 rfl (lv_at hl 0 rfl) ?_
                  refine lv_iconst (v := 0) hx hb dX4_readPlain_199 (by decide) ?_
                  refine kIG.callW (As := [.int 10, .int 0]) (rest := []) ⟨hx, hb, hml, hown, hg⟩ (x_10_emit l r f123 a124 g125 tx tt hT hI hG 10 0 (kb_w kc_10 (by decide) (by decide)) ) (cwV 2 hg (kgV wt4_14 wt4_15 wt4_16 wt1_8 wt4_17) rfl rfl rfl (by decide +kernel) ⟨by dsimp only [rmD]; omega, by dsimp only [rmD]; omega⟩) hV hK hP hD hS hA (51) 10 rfl rfl rfl hl.1 rfl (Nat.le_of_ble_eq_true rfl) dX4_readPlain_200 ⟨Nat.le_refl _, Nat.le_refl _⟩ (fun v130 u131 H locs hw129 hP hD hS => ?_)
                  obtain ⟨f132, a133, g134⟩ := u131
                  have hP : va_P D vwCl (xX K r f132 a133 g134 tx) H := hP
                  have hD : va_D A (xX K r f132 a133 g134 tx) := hD
                  have hI : xI f132 a133 := hw129.2.1
                  have hG : gOK K g134.2 tt := hw129.2.2.1
                  have eE135 : xEk [12, 14, 32, 38, 44, 49, 832, 838, 844] f123 a124 g125 f132 a133 g134 := hw129.2.2.2
                  have hE : xEk [12, 14, 32, 38, 44, 49, 832, 838, 844] f a g f132 a133 g134 := xEk_tr hE eE135
                  refine lv_pop hx hb dX4_readPlain_203 rfl ?_
                  refine lv_aload_n hx hb dX4_readPlain_204 rfl (lv_at hl 2 rfl) ?_
                  refine lv_iload_n hx hb dX4_readPlain_205 rfl (lv_at hl 1 rfl) ?_
                  refine lv_if_eq (tgt := 213) hx hb dX4_readPlain_206 (by decide) (fun c136 => ?_) (fun c136 => ?_)
                  · have b137 : kb 0 y2 0 := kb_eq c136 kc_0
                    refine lv_iconst (v := (-1)) hx hb dX4_readPlain_213 (by decide) ?_
                    refine kVG.callW (As := [.int (-1)]) (rest := []) ⟨hx, hb, hml, hown, hg⟩ (x_4_emitIfAny l r f132 a133 g134 tx tt hT hI hG (-1) (kb_w kc_m1 (by decide) (by decide)) ) (cwV 1 hg (kgV wt4_26 wt4_28 wp2_1 wt1_7 wt4_29) rfl rfl rfl (by decide +kernel) ⟨by dsimp only [rmD]; omega, by dsimp only [rmD]; omega⟩) hV hK hP hD hS hA (50) 4 rfl rfl rfl hl.1 rfl (Nat.le_of_ble_eq_true rfl) dX4_readPlain_214 ⟨Nat.le_refl _, Nat.le_refl _⟩ (fun u140 H locs hw138 hP hD hS => ?_)
                    obtain ⟨f141, a142, g143⟩ := u140
                    have hP : va_P D vwCl (xX K r f141 a142 g143 tx) H := hP
                    have hD : va_D A (xX K r f141 a142 g143 tx) := hD
                    have hI : xI f141 a142 := hw138.1
                    have hG : gOK K g143.2 tt := hw138.2.1
                    have eE144 : xEk [12, 14, 32, 38, 44, 49, 832, 838, 844] f132 a133 g134 f141 a142 g143 := hw138.2.2
                    have hE : xEk [12, 14, 32, 38, 44, 49, 832, 838, 844] f a g f141 a142 g143 := xEk_tr hE eE144
                    refine lv_iconst (v := 1) hx hb dX4_readPlain_217 (by decide) ?_
                    exact kI_ret (v := 1) hx hb hr hlocks (by decide +kernel) hK hS dX4_readPlain_218 (f141, a142, g143) hP hD ⟨(kb_w kc_1 (by decide) (by decide)), hI, hG, hE⟩
                  · have b145 : kb 1 y2 1 := kr_nel c136 b7 kc_0 (by decide)
                    refine lv_iconst (v := 2) hx hb dX4_readPlain_209 (by decide) ?_
                    refine lv_goto (tgt := 214) hx hb dX4_readPlain_210 (by decide) ?_
                    refine kVG.callW (As := [.int 2]) (rest := []) ⟨hx, hb, hml, hown, hg⟩ (x_4_emitIfAny l r f132 a133 g134 tx tt hT hI hG 2 (kb_w kc_2 (by decide) (by decide)) ) (cwV 1 hg (kgV wt4_26 wt4_28 wp2_1 wt1_7 wt4_29) rfl rfl rfl (by decide +kernel) ⟨by dsimp only [rmD]; omega, by dsimp only [rmD]; omega⟩) hV hK hP hD hS hA (50) 4 rfl rfl rfl hl.1 rfl (Nat.le_of_ble_eq_true rfl) dX4_readPlain_214 ⟨Nat.le_refl _, Nat.le_refl _⟩ (fun u148 H locs hw146 hP hD hS => ?_)
                    obtain ⟨f149, a150, g151⟩ := u148
                    have hP : va_P D vwCl (xX K r f149 a150 g151 tx) H := hP
                    have hD : va_D A (xX K r f149 a150 g151 tx) := hD
                    have hI : xI f149 a150 := hw146.1
                    have hG : gOK K g151.2 tt := hw146.2.1
                    have eE152 : xEk [12, 14, 32, 38, 44, 49, 832, 838, 844] f132 a133 g134 f149 a150 g151 := hw146.2.2
                    have hE : xEk [12, 14, 32, 38, 44, 49, 832, 838, 844] f a g f149 a150 g151 := xEk_tr hE eE152
                    refine lv_iconst (v := 1) hx hb dX4_readPlain_217 (by decide) ?_
                    exact kI_ret (v := 1) hx hb hr hlocks (by decide +kernel) hK hS dX4_readPlain_218 (f149, a150, g151) hP hD ⟨(kb_w kc_1 (by decide) (by decide)), hI, hG, hE⟩
                · have b153 : kb 0 v121 0 := kb_eq c127 kc_0
                  refine lv_iconst (v := 0) hx hb dX4_readPlain_192 (by decide) ?_
                  exact kI_ret (v := 0) hx hb hr hlocks (by decide +kernel) hK hS dX4_readPlain_193 (f123, a124, g125) hP hD ⟨(kb_w kc_0 (by decide) (by decide)), hI, hG, hE⟩
              · exact kb_dj c116 kc_10 kc_m1 (by decide)
          · have b154 : kb 0 v16 0 := kb_eq c22 kc_0
            refine lv_iconst (v := 0) hx hb dX4_readPlain_118 (by decide) ?_
            exact kI_ret (v := 0) hx hb hr hlocks (by decide +kernel) hK hS dX4_readPlain_119 (f18, a19, g20) hP hD ⟨(kb_w kc_0 (by decide) (by decide)), hI, hG, hE⟩
        · have b155 : kb 3040 v12 3040 := kb_eq c14 kc_3040
          refine lv_iload_n hx hb dX4_readPlain_57 rfl (lv_at hl 3 rfl) ?_
          refine lv_bipush (v := 8) hx hb dX4_readPlain_58 (by decide) ?_
          refine lv_icmp_lt (tgt := 65) hx hb dX4_readPlain_60 (by decide) (fun c156 => ?_) (fun c156 => ?_)
          · have h157 := (kc_lt c156)
            have b158 : kb 0 dp 7 := kr_lt1 h157 bdp kc_8 (by decide)
            refine lv_aload_n hx hb dX4_readPlain_65 rfl (lv_at hl 2 rfl) ?_
            refine lv_dup hx hb dX4_readPlain_66 rfl ?_
            refine va_get (D := D) (ci := 4) (v := .int (F3 1604)) (C := RX4) (T := TX4) (N := 7) hx hb hg inC4 hown hK hP 50 rfl rfl 4 (by decide) (hg _ wt2_69) (fun _ h9 => h9) rfl dX4_readPlain_67 ?_
            refine lv_topi (fun t159 et159 => ?_)
            refine lv_iconst (v := 1) hx hb dX4_readPlain_70 (by decide) ?_
            refine lv_iadd hx hb dX4_readPlain_71 ?_
            refine lv_topi (fun t160 et160 => ?_)
            refine va_put (D := D) (ci := 4) (v := .int t160) (ty := .int) (C := RX4) (T := TX4) (N := 7) hx hb hg inC4 tyX4 tyX4_ok nmX4 hown hK hP hD hS 50 rfl rfl 4 (by decide) (hg _ wt2_69) (fun _ h9 => h9) rfl (by decide +kernel) rfl rfl (Nat.le_of_ble_eq_true rfl) dX4_readPlain_72 (fun H locs hP hD hS => ?_)
            have hP : va_P D vwCl (xX K r (upd F3 1604 t160) a g tx) H := hP
            have hD : va_D A (xX K r (upd F3 1604 t160) a g tx) := hD
            refine k_gen (P := fun z => va_P D vwCl (xX K r z a g tx) H ∧ va_D A (xX K r z a g tx) ∧ (xI z a) ∧ (gOK K g.2 tt) ∧ (xEk [12, 14, 32, 38, 44, 49, 832, 838, 844] f a g z a g)) (upd F3 1604 t160) ⟨hP, hD, (xI_f hI (fI_st hI.1 1604 (kb_any _) (by decide) (by decide))), hG, (xEk_f hE (by decide))⟩ (fun f_161 ef_161 hq => ?_)
            obtain ⟨hP, hD, hI, hG, hE⟩ := hq
            refine lv_aload_n hx hb dX4_readPlain_75 rfl (lv_at hl 2 rfl) ?_
            refine lv_iload_n hx hb dX4_readPlain_76 rfl (lv_at hl 3 rfl) ?_
            refine lv_iconst (v := 1) hx hb dX4_readPlain_77 (by decide) ?_
            refine lv_iadd hx hb dX4_readPlain_78 ?_
            refine lv_topi (fun t162 et162 => ?_)
            have b163 : kb 1 t162 8 := kb_eq et162 (kb_add b158 kc_1 (by decide) (by decide))
            have qt162 : t162.toInt = dp.toInt + 1 := by rw [et162]; exact kt_addc b158 kc_1 (by decide) (by decide)
            obtain ⟨ee, hd⟩ : ∃ ee, d = ee + 1 := ⟨d - 1, by have w1 := hp0; have w2 := (b158).2; omega⟩
            refine kIG.callW (As := [.int t162]) (rest := []) ⟨hx, hb, hml, hown, hg⟩ ((ih ee hd) l r f_161 a g tx tt hT hI hG t162 (kb_w b163 (by decide) (by decide)) (by have w1 := hp0; have w2 := qt162; omega)) (cwV 1 hg (kgV wt4_50 wt4_52 wp2_5 wt1_7 wt4_53) rfl rfl rfl (by decide +kernel) ⟨by dsimp only [rmD]; omega, by dsimp only [rmD]; omega⟩) hV hK hP hD hS hA (50) 4 rfl rfl rfl hl.1 rfl (Nat.le_of_ble_eq_true rfl) dX4_readPlain_79 ⟨Nat.le_refl _, Nat.le_refl _⟩ (fun v165 u166 H locs hw164 hP hD hS => ?_)
            obtain ⟨f167, a168, g169⟩ := u166
            have hP : va_P D vwCl (xX K r f167 a168 g169 tx) H := hP
            have hD : va_D A (xX K r f167 a168 g169 tx) := hD
            have hI : xI f167 a168 := hw164.2.1
            have hG : gOK K g169.2 tt := hw164.2.2.1
            have eE170 : xEk [12, 14, 32, 38, 44, 49, 832, 838, 844] f_161 a g f167 a168 g169 := hw164.2.2.2
            have hE : xEk [12, 14, 32, 38, 44, 49, 832, 838, 844] f a g f167 a168 g169 := xEk_tr hE eE170
            refine lv_if_eq (tgt := 95) hx hb dX4_readPlain_82 (by decide) (fun c171 => ?_) (fun c171 => ?_)
            · have b172 : kb 0 v165 0 := kb_eq c171 kc_0
              refine lv_iconst (v := 0) hx hb dX4_readPlain_95 (by decide) ?_
              exact kI_ret (v := 0) hx hb hr hlocks (by decide +kernel) hK hS dX4_readPlain_96 (f167, a168, g169) hP hD ⟨(kb_w kc_0 (by decide) (by decide)), hI, hG, hE⟩
            · have b173 : kb 1 v165 1 := kr_nel c171 hw164.1 kc_0 (by decide)
              refine lv_aload_n hx hb dX4_readPlain_85 rfl (lv_at hl 2 rfl) ?_
              refine kIG.callW (As := []) (rest := []) ⟨hx, hb, hml, hown, hg⟩ (x_4_inHand l r f167 a168 g169 tx tt hT hI hG   ) (cwV 0 hg (kgV wt3_238 wt4_0 wp1_12 wt1_7 wt4_1) rfl rfl rfl (by decide +kernel) ⟨by dsimp only [rmD]; omega, by dsimp only [rmD]; omega⟩) hV hK hP hD hS hA (50) 4 rfl rfl rfl hl.1 rfl (Nat.le_of_ble_eq_true rfl) dX4_readPlain_86 ⟨Nat.le_refl _, Nat.le_refl _⟩ (fun v175 u176 H locs hw174 hP hD hS => ?_)
              have hP : va_P D vwCl (xX K r f167 a168 g169 tx) H := hP
              have hD : va_D A (xX K r f167 a168 g169 tx) := hD
              refine lv_sipush (v := 3041) hx hb dX4_readPlain_89 (by decide) ?_
              refine lv_icmp_eq (tgt := 97) hx hb dX4_readPlain_92 (by decide) (fun c177 => ?_) (fun c177 => ?_)
              · have b178 : kb 3041 v175 3041 := kb_eq c177 kc_3041
                refine lv_aload_n hx hb dX4_readPlain_97 rfl (lv_at hl 2 rfl) ?_
                refine lv_dup hx hb dX4_readPlain_98 rfl ?_
                refine va_get (D := D) (ci := 4) (v := .int (f167 1604)) (C := RX4) (T := TX4) (N := 7) hx hb hg inC4 hown hK hP 50 rfl rfl 4 (by decide) (hg _ wt2_69) (fun _ h9 => h9) rfl dX4_readPlain_99 ?_
                refine lv_topi (fun t179 et179 => ?_)
                refine lv_iconst (v := 1) hx hb dX4_readPlain_102 (by decide) ?_
                refine lv_iadd hx hb dX4_readPlain_103 ?_
                refine lv_topi (fun t180 et180 => ?_)
                refine va_put (D := D) (ci := 4) (v := .int t180) (ty := .int) (C := RX4) (T := TX4) (N := 7) hx hb hg inC4 tyX4 tyX4_ok nmX4 hown hK hP hD hS 50 rfl rfl 4 (by decide) (hg _ wt2_69) (fun _ h9 => h9) rfl (by decide +kernel) rfl rfl (Nat.le_of_ble_eq_true rfl) dX4_readPlain_104 (fun H locs hP hD hS => ?_)
                have hP : va_P D vwCl (xX K r (upd f167 1604 t180) a168 g169 tx) H := hP
                have hD : va_D A (xX K r (upd f167 1604 t180) a168 g169 tx) := hD
                refine k_gen (P := fun z => va_P D vwCl (xX K r z a168 g169 tx) H ∧ va_D A (xX K r z a168 g169 tx) ∧ (xI z a168) ∧ (gOK K g169.2 tt) ∧ (xEk [12, 14, 32, 38, 44, 49, 832, 838, 844] f a g z a168 g169)) (upd f167 1604 t180) ⟨hP, hD, (xI_f hI (fI_st hI.1 1604 (kb_any _) (by decide) (by decide))), hG, (xEk_f hE (by decide))⟩ (fun f_181 ef_181 hq => ?_)
                obtain ⟨hP, hD, hI, hG, hE⟩ := hq
                refine lv_goto (tgt := 204) hx hb dX4_readPlain_107 (by decide) ?_
                refine lv_aload_n hx hb dX4_readPlain_204 rfl (lv_at hl 2 rfl) ?_
                refine lv_iload_n hx hb dX4_readPlain_205 rfl (lv_at hl 1 rfl) ?_
                refine lv_if_eq (tgt := 213) hx hb dX4_readPlain_206 (by decide) (fun c182 => ?_) (fun c182 => ?_)
                · have b183 : kb 0 y2 0 := kb_eq c182 kc_0
                  refine lv_iconst (v := (-1)) hx hb dX4_readPlain_213 (by decide) ?_
                  refine kVG.callW (As := [.int (-1)]) (rest := []) ⟨hx, hb, hml, hown, hg⟩ (x_4_emitIfAny l r f_181 a168 g169 tx tt hT hI hG (-1) (kb_w kc_m1 (by decide) (by decide)) ) (cwV 1 hg (kgV wt4_26 wt4_28 wp2_1 wt1_7 wt4_29) rfl rfl rfl (by decide +kernel) ⟨by dsimp only [rmD]; omega, by dsimp only [rmD]; omega⟩) hV hK hP hD hS hA (50) 4 rfl rfl rfl hl.1 rfl (Nat.le_of_ble_eq_true rfl) dX4_readPlain_214 ⟨Nat.le_refl _, Nat.le_refl _⟩ (fun u186 H locs hw184 hP hD hS => ?_)
                  obtain ⟨f187, a188, g189⟩ := u186
                  have hP : va_P D vwCl (xX K r f187 a188 g189 tx) H := hP
                  have hD : va_D A (xX K r f187 a188 g189 tx) := hD
                  have hI : xI f187 a188 := hw184.1
                  have hG : gOK K g189.2 tt := hw184.2.1
                  have eE190 : xEk [12, 14, 32, 38, 44, 49, 832, 838, 844] f_181 a168 g169 f187 a188 g189 := hw184.2.2
                  have hE : xEk [12, 14, 32, 38, 44, 49, 832, 838, 844] f a g f187 a188 g189 := xEk_tr hE eE190
                  refine lv_iconst (v := 1) hx hb dX4_readPlain_217 (by decide) ?_
                  exact kI_ret (v := 1) hx hb hr hlocks (by decide +kernel) hK hS dX4_readPlain_218 (f187, a188, g189) hP hD ⟨(kb_w kc_1 (by decide) (by decide)), hI, hG, hE⟩
                · have b191 : kb 1 y2 1 := kr_nel c182 b7 kc_0 (by decide)
                  refine lv_iconst (v := 2) hx hb dX4_readPlain_209 (by decide) ?_
                  refine lv_goto (tgt := 214) hx hb dX4_readPlain_210 (by decide) ?_
                  refine kVG.callW (As := [.int 2]) (rest := []) ⟨hx, hb, hml, hown, hg⟩ (x_4_emitIfAny l r f_181 a168 g169 tx tt hT hI hG 2 (kb_w kc_2 (by decide) (by decide)) ) (cwV 1 hg (kgV wt4_26 wt4_28 wp2_1 wt1_7 wt4_29) rfl rfl rfl (by decide +kernel) ⟨by dsimp only [rmD]; omega, by dsimp only [rmD]; omega⟩) hV hK hP hD hS hA (50) 4 rfl rfl rfl hl.1 rfl (Nat.le_of_ble_eq_true rfl) dX4_readPlain_214 ⟨Nat.le_refl _, Nat.le_refl _⟩ (fun u194 H locs hw192 hP hD hS => ?_)
                  obtain ⟨f195, a196, g197⟩ := u194
                  have hP : va_P D vwCl (xX K r f195 a196 g197 tx) H := hP
                  have hD : va_D A (xX K r f195 a196 g197 tx) := hD
                  have hI : xI f195 a196 := hw192.1
                  have hG : gOK K g197.2 tt := hw192.2.1
                  have eE198 : xEk [12, 14, 32, 38, 44, 49, 832, 838, 844] f_181 a168 g169 f195 a196 g197 := hw192.2.2
                  have hE : xEk [12, 14, 32, 38, 44, 49, 832, 838, 844] f a g f195 a196 g197 := xEk_tr hE eE198
                  refine lv_iconst (v := 1) hx hb dX4_readPlain_217 (by decide) ?_
                  exact kI_ret (v := 1) hx hb hr hlocks (by decide +kernel) hK hS dX4_readPlain_218 (f195, a196, g197) hP hD ⟨(kb_w kc_1 (by decide) (by decide)), hI, hG, hE⟩
              · refine lv_iconst (v := 0) hx hb dX4_readPlain_95 (by decide) ?_
                exact kI_ret (v := 0) hx hb hr hlocks (by decide +kernel) hK hS dX4_readPlain_96 (f167, a168, g169) hP hD ⟨(kb_w kc_0 (by decide) (by decide)), hI, hG, hE⟩
          · have h199 := (kc_nlt c156)
            have b200 : kb 8 dp 8 := kr_le2 h199 kc_8 bdp
            refine lv_iconst (v := 0) hx hb dX4_readPlain_63 (by decide) ?_
            exact kI_ret (v := 0) hx hb hr hlocks (by decide +kernel) hK hS dX4_readPlain_64 (F3, a, g) hP hD ⟨(kb_w kc_0 (by decide) (by decide)), hI, hG, hE⟩
      · have h201 := (kc_nle c8)
        have b202 : kb 0 y1 399 := kr_lt1 h201 b6 kc_400 (by decide)
        refine lv_aload_n hx hb dX4_readPlain_11 rfl (lv_at hl 2 rfl) ?_
        refine kIG.callW (As := []) (rest := []) ⟨hx, hb, hml, hown, hg⟩ (x_4_inHand l r F3 a g tx tt hT hI hG   ) (cwV 0 hg (kgV wt3_238 wt4_0 wp1_12 wt1_7 wt4_1) rfl rfl rfl (by decide +kernel) ⟨by dsimp only [rmD]; omega, by dsimp only [rmD]; omega⟩) hV hK hP hD hS hA (50) 4 rfl rfl rfl hl.1 rfl (Nat.le_of_ble_eq_true rfl) dX4_readPlain_12 ⟨Nat.le_refl _, Nat.le_refl _⟩ (fun v204 u205 H locs hw203 hP hD hS => ?_)
        have hP : va_P D vwCl (xX K r F3 a g tx) H := hP
        have hD : va_D A (xX K r F3 a g tx) := hD
        refine lv_sipush (v := 2002) hx hb dX4_readPlain_15 (by decide) ?_
        refine lv_icmp_ne (tgt := 47) hx hb dX4_readPlain_18 (by decide) (fun c206 => ?_) (fun c206 => ?_)
        · refine lv_aload_n hx hb dX4_readPlain_47 rfl (lv_at hl 2 rfl) ?_
          refine kIG.callW (As := []) (rest := []) ⟨hx, hb, hml, hown, hg⟩ (x_4_inHand l r F3 a g tx tt hT hI hG   ) (cwV 0 hg (kgV wt3_238 wt4_0 wp1_12 wt1_7 wt4_1) rfl rfl rfl (by decide +kernel) ⟨by dsimp only [rmD]; omega, by dsimp only [rmD]; omega⟩) hV hK hP hD hS hA (50) 4 rfl rfl rfl hl.1 rfl (Nat.le_of_ble_eq_true rfl) dX4_readPlain_48 ⟨Nat.le_refl _, Nat.le_refl _⟩ (fun v208 u209 H locs hw207 hP hD hS => ?_)
          have hP : va_P D vwCl (xX K r F3 a g tx) H := hP
          have hD : va_D A (xX K r F3 a g tx) := hD
          refine lv_sipush (v := 3040) hx hb dX4_readPlain_51 (by decide) ?_
          refine lv_icmp_ne (tgt := 110) hx hb dX4_readPlain_54 (by decide) (fun c210 => ?_) (fun c210 => ?_)
          · refine lv_aload_n hx hb dX4_readPlain_110 rfl (lv_at hl 2 rfl) ?_
            refine lv_iload_n hx hb dX4_readPlain_111 rfl (lv_at hl 3 rfl) ?_
            refine kIG.callW (As := [.int dp]) (rest := []) ⟨hx, hb, hml, hown, hg⟩ (hsum l r F3 a g tx tt hT hI hG dp bdp hp0) (cwV 1 hg (kgV wt4_6 wt4_8 wp1_13 wt1_7 wt4_9) rfl rfl rfl (by decide +kernel) ⟨by dsimp only [rmD]; omega, by dsimp only [rmD]; omega⟩) hV hK hP hD hS hA (50) 4 rfl rfl rfl hl.1 rfl (Nat.le_of_ble_eq_true rfl) dX4_readPlain_112 ⟨Nat.le_refl _, Nat.le_refl _⟩ (fun v212 u213 H locs hw211 hP hD hS => ?_)
            obtain ⟨f214, a215, g216⟩ := u213
            have hP : va_P D vwCl (xX K r f214 a215 g216 tx) H := hP
            have hD : va_D A (xX K r f214 a215 g216 tx) := hD
            have hI : xI f214 a215 := hw211.2.1
            have hG : gOK K g216.2 tt := hw211.2.2.1
            have eE217 : xEk [12, 14, 32, 38, 44, 49, 832, 838, 844] F3 a g f214 a215 g216 := hw211.2.2.2
            have hE : xEk [12, 14, 32, 38, 44, 49, 832, 838, 844] f a g f214 a215 g216 := xEk_tr hE eE217
            refine lv_if_ne (tgt := 120) hx hb dX4_readPlain_115 (by decide) (fun c218 => ?_) (fun c218 => ?_)
            · have b219 : kb 1 v212 1 := kr_nel c218 hw211.1 kc_0 (by decide)
              refine lv_aload_n hx hb dX4_readPlain_120 rfl (lv_at hl 2 rfl) ?_
              refine kIG.callW (As := []) (rest := []) ⟨hx, hb, hml, hown, hg⟩ (x_4_inHand l r f214 a215 g216 tx tt hT hI hG   ) (cwV 0 hg (kgV wt3_238 wt4_0 wp1_12 wt1_7 wt4_1) rfl rfl rfl (by decide +kernel) ⟨by dsimp only [rmD]; omega, by dsimp only [rmD]; omega⟩) hV hK hP hD hS hA (50) 4 rfl rfl rfl hl.1 rfl (Nat.le_of_ble_eq_true rfl) dX4_readPlain_121 ⟨Nat.le_refl _, Nat.le_refl _⟩ (fun v221 u222 H locs hw220 hP hD hS => ?_)
              have hP : va_P D vwCl (xX K r f214 a215 g216 tx) H := hP
              have hD : va_D A (xX K r f214 a215 g216 tx) := hD
              refine lv_sipush (v := 3060) hx hb dX4_readPlain_124 (by decide) ?_
              refine lv_icmp_ne (tgt := 135) hx hb dX4_readPlain_127 (by decide) (fun c223 => ?_) (fun c223 => ?_)
              · refine lv_aload_n hx hb dX4_readPlain_135 rfl (lv_at hl 2 rfl) ?_
                refine kIG.callW (As := []) (rest := []) ⟨hx, hb, hml, hown, hg⟩ (x_4_inHand l r f214 a215 g216 tx tt hT hI hG   ) (cwV 0 hg (kgV wt3_238 wt4_0 wp1_12 wt1_7 wt4_1) rfl rfl rfl (by decide +kernel) ⟨by dsimp only [rmD]; omega, by dsimp only [rmD]; omega⟩) hV hK hP hD hS hA (50) 4 rfl rfl rfl hl.1 rfl (Nat.le_of_ble_eq_true rfl) dX4_readPlain_136 ⟨Nat.le_refl _, Nat.le_refl _⟩ (fun v225 u226 H locs hw224 hP hD hS => ?_)
                have hP : va_P D vwCl (xX K r f214 a215 g216 tx) H := hP
                have hD : va_D A (xX K r f214 a215 g216 tx) := hD
                refine lv_sipush (v := 3062) hx hb dX4_readPlain_139 (by decide) ?_
                refine lv_icmp_ne (tgt := 150) hx hb dX4_readPlain_142 (by decide) (fun c227 => ?_) (fun c227 => ?_)
                · refine lv_aload_n hx hb dX4_readPlain_150 rfl (lv_at hl 2 rfl) ?_
                  refine kIG.callW (As := []) (rest := []) ⟨hx, hb, hml, hown, hg⟩ (x_4_inHand l r f214 a215 g216 tx tt hT hI hG   ) (cwV 0 hg (kgV wt3_238 wt4_0 wp1_12 wt1_7 wt4_1) rfl rfl rfl (by decide +kernel) ⟨by dsimp only [rmD]; omega, by dsimp only [rmD]; omega⟩) hV hK hP hD hS hA (50) 4 rfl rfl rfl hl.1 rfl (Nat.le_of_ble_eq_true rfl) dX4_readPlain_151 ⟨Nat.le_refl _, Nat.le_refl _⟩ (fun v229 u230 H locs hw228 hP hD hS => ?_)
                  have hP : va_P D vwCl (xX K r f214 a215 g216 tx) H := hP
                  have hD : va_D A (xX K r f214 a215 g216 tx) := hD
                  refine lv_sipush (v := 3061) hx hb dX4_readPlain_154 (by decide) ?_
                  refine lv_icmp_ne (tgt := 165) hx hb dX4_readPlain_157 (by decide) (fun c231 => ?_) (fun c231 => ?_)
                  · refine lv_iconst (v := (-1)) hx hb dX4_readPlain_165 (by decide) ?_
                    refine lv_istore_n (lv' := [(3, .int (-1)), (2, .int y2), (0, .ref (r 50)), (1, .int dp)]) hx hb dX4_readPlain_166 rfl hl (by decide) rfl (fun ls hl => ?_)
                    refine lv_iload_n hx hb dX4_readPlain_167 rfl (lv_at hl 0 rfl) ?_
                    refine lv_iconst (v := (-1)) hx hb dX4_readPlain_168 (by decide) ?_
                    refine lv_icmp_ne (tgt := 174) hx hb dX4_readPlain_169 (by decide) (fun c232 => ?_) (fun c232 => ?_)
                    · exact kb_nsame c232 kc_m1 kc_m1
                    · refine lv_iconst (v := 0) hx hb dX4_readPlain_172 (by decide) ?_
                      exact kI_ret (v := 0) hx hb hr hlocks (by decide +kernel) hK hS dX4_readPlain_173 (f214, a215, g216) hP hD ⟨(kb_w kc_0 (by decide) (by decide)), hI, hG, hE⟩
                  · have b233 : kb 3061 v229 3061 := kb_eq c231 kc_3061
                    refine lv_bipush (v := 12) hx hb dX4_readPlain_160 (by decide) ?_
                    refine lv_goto (tgt := 166) hx hb dX4_readPlain_162 (by decide) ?_
                    refine lv_istore_n (lv' := [(3, .int 12), (2, .int y2), (0, .ref (r 50)), (1, .int dp)]) hx hb dX4_readPlain_166 rfl hl (by decide) rfl (fun ls hl => ?_)
                    refine lv_iload_n hx hb dX4_readPlain_167 rfl (lv_at hl 0 rfl) ?_
                    refine lv_iconst (v := (-1)) hx hb dX4_readPlain_168 (by decide) ?_
                    refine lv_icmp_ne (tgt := 174) hx hb dX4_readPlain_169 (by decide) (fun c234 => ?_) (fun c234 => ?_)
                    · refine lv_aload_n hx hb dX4_readPlain_174 rfl (lv_at hl 2 rfl) ?_
                      refine lv_dup hx hb dX4_readPlain_175 rfl ?_
                      refine va_get (D := D) (ci := 4) (v := .int (f214 1604)) (C := RX4) (T := TX4) (N := 7) hx hb hg inC4 hown hK hP 50 rfl rfl 4 (by decide) (hg _ wt2_69) (fun _ h9 => h9) rfl dX4_readPlain_176 ?_
                      refine lv_topi (fun t235 et235 => ?_)
                      refine lv_iconst (v := 1) hx hb dX4_readPlain_179 (by decide) ?_
                      refine lv_iadd hx hb dX4_readPlain_180 ?_
                      refine lv_topi (fun t236 et236 => ?_)
                      refine va_put (D := D) (ci := 4) (v := .int t236) (ty := .int) (C := RX4) (T := TX4) (N := 7) hx hb hg inC4 tyX4 tyX4_ok nmX4 hown hK hP hD hS 50 rfl rfl 4 (by decide) (hg _ wt2_69) (fun _ h9 => h9) rfl (by decide +kernel) rfl rfl (Nat.le_of_ble_eq_true rfl) dX4_readPlain_181 (fun H locs hP hD hS => ?_)
                      have hP : va_P D vwCl (xX K r (upd f214 1604 t236) a215 g216 tx) H := hP
                      have hD : va_D A (xX K r (upd f214 1604 t236) a215 g216 tx) := hD
                      refine k_gen (P := fun z => va_P D vwCl (xX K r z a215 g216 tx) H ∧ va_D A (xX K r z a215 g216 tx) ∧ (xI z a215) ∧ (gOK K g216.2 tt) ∧ (xEk [12, 14, 32, 38, 44, 49, 832, 838, 844] f a g z a215 g216)) (upd f214 1604 t236) ⟨hP, hD, (xI_f hI (fI_st hI.1 1604 (kb_any _) (by decide) (by decide))), hG, (xEk_f hE (by decide))⟩ (fun f_237 ef_237 hq => ?_)
                      obtain ⟨hP, hD, hI, hG, hE⟩ := hq
                      refine lv_aload_n hx hb dX4_readPlain_184 rfl (lv_at hl 2 rfl) ?_
                      refine lv_iload_n hx hb dX4_readPlain_185 rfl (lv_at hl 3 rfl) ?_
                      refine kIG.callW (As := [.int dp]) (rest := []) ⟨hx, hb, hml, hown, hg⟩ (hsum l r f_237 a215 g216 tx tt hT hI hG dp bdp hp0) (cwV 1 hg (kgV wt4_6 wt4_8 wp1_13 wt1_7 wt4_9) rfl rfl rfl (by decide +kernel) ⟨by dsimp only [rmD]; omega, by dsimp only [rmD]; omega⟩) hV hK hP hD hS hA (50) 4 rfl rfl rfl hl.1 rfl (Nat.le_of_ble_eq_true rfl) dX4_readPlain_186 ⟨Nat.le_refl _, Nat.le_refl _⟩ (fun v239 u240 H locs hw238 hP hD hS => ?_)
                      obtain ⟨f241, a242, g243⟩ := u240
                      have hP : va_P D vwCl (xX K r f241 a242 g243 tx) H := hP
                      have hD : va_D A (xX K r f241 a242 g243 tx) := hD
                      have hI : xI f241 a242 := hw238.2.1
                      have hG : gOK K g243.2 tt := hw238.2.2.1
                      have eE244 : xEk [12, 14, 32, 38, 44, 49, 832, 838, 844] f_237 a215 g216 f241 a242 g243 := hw238.2.2.2
                      have hE : xEk [12, 14, 32, 38, 44, 49, 832, 838, 844] f a g f241 a242 g243 := xEk_tr hE eE244
                      refine lv_if_ne (tgt := 194) hx hb dX4_readPlain_189 (by decide) (fun c245 => ?_) (fun c245 => ?_)
                      · have b246 : kb 1 v239 1 := kr_nel c245 hw238.1 kc_0 (by decide)
                        refine lv_aload_n hx hb dX4_readPlain_194 rfl (lv_at hl 2 rfl) ?_
                        refine va_get (D := D) (ci := 4) (v := .ref (r 51)) (C := RX4) (T := TX4) (N := 7) hx hb hg inC4 hown hK hP 50 rfl rfl 0 (by decide) (hg _ wt2_64) (fun _ h9 => h9) rfl dX4_readPlain_195 ?_
                        refine lv_iload_n hx hb dX4_readPlain_198 rfl (lv_at hl 0 rfl) ?_
                        refine lv_iconst (v := 0) hx hb dX4_readPlain_199 (by decide) ?_
                        refine kIG.callW (As := [.int 12, .int 0]) (rest := []) ⟨hx, hb, hml, hown, hg⟩ (x_10_emit l r f241 a242 g243 tx tt hT hI hG 12 0 (kb_w kc_12 (by decide) (by decide)) ) (cwV 2 hg (kgV wt4_14 wt4_15 wt4_16 wt1_8 wt4_17) rfl rfl rfl (by decide +kernel) ⟨by dsimp only [rmD]; omega, by dsimp only [rmD]; omega⟩) hV hK hP hD hS hA (51) 10 rfl rfl rfl hl.1 rfl (Nat.le_of_ble_eq_true rfl) dX4_readPlain_200 ⟨Nat.le_refl _, Nat.le_refl _⟩ (fun v248 u249 H locs hw247 hP hD hS => ?_)
                        obtain ⟨f250, a251, g252⟩ := u249
                        have hP : va_P D vwCl (xX K r f250 a251 g252 tx) H := hP
                        have hD : va_D A (xX K r f250 a251 g252 tx) := hD
                        have hI : xI f250 a251 := hw247.2.1
                        have hG : gOK K g252.2 tt := hw247.2.2.1
                        have eE253 : xEk [12, 14, 32, 38, 44, 49, 832, 838, 844] f241 a242 g243 f250 a251 g252 := hw247.2.2.2
                        have hE : xEk [12, 14, 32, 38, 44, 49, 832, 838, 844] f a g f250 a251 g252 := xEk_tr hE eE253
                        refine lv_pop hx hb dX4_readPlain_203 rfl ?_
                        refine lv_aload_n hx hb dX4_readPlain_204 rfl (lv_at hl 2 rfl) ?_
                        refine lv_iload_n hx hb dX4_readPlain_205 rfl (lv_at hl 1 rfl) ?_
                        refine lv_if_eq (tgt := 213) hx hb dX4_readPlain_206 (by decide) (fun c254 => ?_) (fun c254 => ?_)
                        · have b255 : kb 0 y2 0 := kb_eq c254 kc_0
                          refine lv_iconst (v := (-1)) hx hb dX4_readPlain_213 (by decide) ?_
                          refine kVG.callW (As := [.int (-1)]) (rest := []) ⟨hx, hb, hml, hown, hg⟩ (x_4_emitIfAny l r f250 a251 g252 tx tt hT hI hG (-1) (kb_w kc_m1 (by decide) (by decide)) ) (cwV 1 hg (kgV wt4_26 wt4_28 wp2_1 wt1_7 wt4_29) rfl rfl rfl (by decide +kernel) ⟨by dsimp only [rmD]; omega, by dsimp only [rmD]; omega⟩) hV hK hP hD hS hA (50) 4 rfl rfl rfl hl.1 rfl (Nat.le_of_ble_eq_true rfl) dX4_readPlain_214 ⟨Nat.le_refl _, Nat.le_refl _⟩ (fun u258 H locs hw256 hP hD hS => ?_)
                          obtain ⟨f259, a260, g261⟩ := u258
                          have hP : va_P D vwCl (xX K r f259 a260 g261 tx) H := hP
                          have hD : va_D A (xX K r f259 a260 g261 tx) := hD
                          have hI : xI f259 a260 := hw256.1
                          have hG : gOK K g261.2 tt := hw256.2.1
                          have eE262 : xEk [12, 14, 32, 38, 44, 49, 832, 838, 844] f250 a251 g252 f259 a260 g261 := hw256.2.2
                          have hE : xEk [12, 14, 32, 38, 44, 49, 832, 838, 844] f a g f259 a260 g261 := xEk_tr hE eE262
                          refine lv_iconst (v := 1) hx hb dX4_readPlain_217 (by decide) ?_
                          exact kI_ret (v := 1) hx hb hr hlocks (by decide +kernel) hK hS dX4_readPlain_218 (f259, a260, g261) hP hD ⟨(kb_w kc_1 (by decide) (by decide)), hI, hG, hE⟩
                        · have b263 : kb 1 y2 1 := kr_nel c254 b7 kc_0 (by decide)
                          refine lv_iconst (v := 2) hx hb dX4_readPlain_209 (by decide) ?_
                          refine lv_goto (tgt := 214) hx hb dX4_readPlain_210 (by decide) ?_
                          refine kVG.callW (As := [.int 2]) (rest := []) ⟨hx, hb, hml, hown, hg⟩ (x_4_emitIfAny l r f250 a251 g252 tx tt hT hI hG 2 (kb_w kc_2 (by decide) (by decide)) ) (cwV 1 hg (kgV wt4_26 wt4_28 wp2_1 wt1_7 wt4_29) rfl rfl rfl (by decide +kernel) ⟨by dsimp only [rmD]; omega, by dsimp only [rmD]; omega⟩) hV hK hP hD hS hA (50) 4 rfl rfl rfl hl.1 rfl (Nat.le_of_ble_eq_true rfl) dX4_readPlain_214 ⟨Nat.le_refl _, Nat.le_refl _⟩ (fun u266 H locs hw264 hP hD hS => ?_)
                          obtain ⟨f267, a268, g269⟩ := u266
                          have hP : va_P D vwCl (xX K r f267 a268 g269 tx) H := hP
                          have hD : va_D A (xX K r f267 a268 g269 tx) := hD
                          have hI : xI f267 a268 := hw264.1
                          have hG : gOK K g269.2 tt := hw264.2.1
                          have eE270 : xEk [12, 14, 32, 38, 44, 49, 832, 838, 844] f250 a251 g252 f267 a268 g269 := hw264.2.2
                          have hE : xEk [12, 14, 32, 38, 44, 49, 832, 838, 844] f a g f267 a268 g269 := xEk_tr hE eE270
                          refine lv_iconst (v := 1) hx hb dX4_readPlain_217 (by decide) ?_
                          exact kI_ret (v := 1) hx hb hr hlocks (by decide +kernel) hK hS dX4_readPlain_218 (f267, a268, g269) hP hD ⟨(kb_w kc_1 (by decide) (by decide)), hI, hG, hE⟩
                      · have b271 : kb 0 v239 0 := kb_eq c245 kc_0
                        refine lv_iconst (v := 0) hx hb dX4_readPlain_192 (by decide) ?_
                        exact kI_ret (v := 0) hx hb hr hlocks (by decide +kernel) hK hS dX4_readPlain_193 (f241, a242, g243) hP hD ⟨(kb_w kc_0 (by decide) (by decide)), hI, hG, hE⟩
                    · exact kb_dj c234 kc_12 kc_m1 (by decide)
                · have b272 : kb 3062 v225 3062 := kb_eq c227 kc_3062
                  refine lv_bipush (v := 11) hx hb dX4_readPlain_145 (by decide) ?_
                  refine lv_goto (tgt := 166) hx hb dX4_readPlain_147 (by decide) ?_
                  refine lv_istore_n (lv' := [(3, .int 11), (2, .int y2), (0, .ref (r 50)), (1, .int dp)]) hx hb dX4_readPlain_166 rfl hl (by decide) rfl (fun ls hl => ?_)
                  refine lv_iload_n hx hb dX4_readPlain_167 rfl (lv_at hl 0 rfl) ?_
                  refine lv_iconst (v := (-1)) hx hb dX4_readPlain_168 (by decide) ?_
                  refine lv_icmp_ne (tgt := 174) hx hb dX4_readPlain_169 (by decide) (fun c273 => ?_) (fun c273 => ?_)
                  · refine lv_aload_n hx hb dX4_readPlain_174 rfl (lv_at hl 2 rfl) ?_
                    refine lv_dup hx hb dX4_readPlain_175 rfl ?_
                    refine va_get (D := D) (ci := 4) (v := .int (f214 1604)) (C := RX4) (T := TX4) (N := 7) hx hb hg inC4 hown hK hP 50 rfl rfl 4 (by decide) (hg _ wt2_69) (fun _ h9 => h9) rfl dX4_readPlain_176 ?_
                    refine lv_topi (fun t274 et274 => ?_)
                    refine lv_iconst (v := 1) hx hb dX4_readPlain_179 (by decide) ?_
                    refine lv_iadd hx hb dX4_readPlain_180 ?_
                    refine lv_topi (fun t275 et275 => ?_)
                    refine va_put (D := D) (ci := 4) (v := .int t275) (ty := .int) (C := RX4) (T := TX4) (N := 7) hx hb hg inC4 tyX4 tyX4_ok nmX4 hown hK hP hD hS 50 rfl rfl 4 (by decide) (hg _ wt2_69) (fun _ h9 => h9) rfl (by decide +kernel) rfl rfl (Nat.le_of_ble_eq_true rfl) dX4_readPlain_181 (fun H locs hP hD hS => ?_)
                    have hP : va_P D vwCl (xX K r (upd f214 1604 t275) a215 g216 tx) H := hP
                    have hD : va_D A (xX K r (upd f214 1604 t275) a215 g216 tx) := hD
                    refine k_gen (P := fun z => va_P D vwCl (xX K r z a215 g216 tx) H ∧ va_D A (xX K r z a215 g216 tx) ∧ (xI z a215) ∧ (gOK K g216.2 tt) ∧ (xEk [12, 14, 32, 38, 44, 49, 832, 838, 844] f a g z a215 g216)) (upd f214 1604 t275) ⟨hP, hD, (xI_f hI (fI_st hI.1 1604 (kb_any _) (by decide) (by decide))), hG, (xEk_f hE (by decide))⟩ (fun f_276 ef_276 hq => ?_)
                    obtain ⟨hP, hD, hI, hG, hE⟩ := hq
                    refine lv_aload_n hx hb dX4_readPlain_184 rfl (lv_at hl 2 rfl) ?_
                    refine lv_iload_n hx hb dX4_readPlain_185 rfl (lv_at hl 3 rfl) ?_
                    refine kIG.callW (As := [.int dp]) (rest := []) ⟨hx, hb, hml, hown, hg⟩ (hsum l r f_276 a215 g216 tx tt hT hI hG dp bdp hp0) (cwV 1 hg (kgV wt4_6 wt4_8 wp1_13 wt1_7 wt4_9) rfl rfl rfl (by decide +kernel) ⟨by dsimp only [rmD]; omega, by dsimp only [rmD]; omega⟩) hV hK hP hD hS hA (50) 4 rfl rfl rfl hl.1 rfl (Nat.le_of_ble_eq_true rfl) dX4_readPlain_186 ⟨Nat.le_refl _, Nat.le_refl _⟩ (fun v278 u279 H locs hw277 hP hD hS => ?_)
                    obtain ⟨f280, a281, g282⟩ := u279
                    have hP : va_P D vwCl (xX K r f280 a281 g282 tx) H := hP
                    have hD : va_D A (xX K r f280 a281 g282 tx) := hD
                    have hI : xI f280 a281 := hw277.2.1
                    have hG : gOK K g282.2 tt := hw277.2.2.1
                    have eE283 : xEk [12, 14, 32, 38, 44, 49, 832, 838, 844] f_276 a215 g216 f280 a281 g282 := hw277.2.2.2
                    have hE : xEk [12, 14, 32, 38, 44, 49, 832, 838, 844] f a g f280 a281 g282 := xEk_tr hE eE283
                    refine lv_if_ne (tgt := 194) hx hb dX4_readPlain_189 (by decide) (fun c284 => ?_) (fun c284 => ?_)
                    · have b285 : kb 1 v278 1 := kr_nel c284 hw277.1 kc_0 (by decide)
                      refine lv_aload_n hx hb dX4_readPlain_194 rfl (lv_at hl 2 rfl) ?_
                      refine va_get (D := D) (ci := 4) (v := .ref (r 51)) (C := RX4) (T := TX4) (N := 7) hx hb hg inC4 hown hK hP 50 rfl rfl 0 (by decide) (hg _ wt2_64) (fun _ h9 => h9) rfl dX4_readPlain_195 ?_
                      refine lv_iload_n hx hb dX4_readPlain_198 rfl (lv_at hl 0 rfl) ?_
                      refine lv_iconst (v := 0) hx hb dX4_readPlain_199 (by decide) ?_
                      refine kIG.callW (As := [.int 11, .int 0]) (rest := []) ⟨hx, hb, hml, hown, hg⟩ (x_10_emit l r f280 a281 g282 tx tt hT hI hG 11 0 (kb_w kc_11 (by decide) (by decide)) ) (cwV 2 hg (kgV wt4_14 wt4_15 wt4_16 wt1_8 wt4_17) rfl rfl rfl (by decide +kernel) ⟨by dsimp only [rmD]; omega, by dsimp only [rmD]; omega⟩) hV hK hP hD hS hA (51) 10 rfl rfl rfl hl.1 rfl (Nat.le_of_ble_eq_true rfl) dX4_readPlain_200 ⟨Nat.le_refl _, Nat.le_refl _⟩ (fun v287 u288 H locs hw286 hP hD hS => ?_)
                      obtain ⟨f289, a290, g291⟩ := u288
                      have hP : va_P D vwCl (xX K r f289 a290 g291 tx) H := hP
                      have hD : va_D A (xX K r f289 a290 g291 tx) := hD
                      have hI : xI f289 a290 := hw286.2.1
                      have hG : gOK K g291.2 tt := hw286.2.2.1
                      have eE292 : xEk [12, 14, 32, 38, 44, 49, 832, 838, 844] f280 a281 g282 f289 a290 g291 := hw286.2.2.2
                      have hE : xEk [12, 14, 32, 38, 44, 49, 832, 838, 844] f a g f289 a290 g291 := xEk_tr hE eE292
                      refine lv_pop hx hb dX4_readPlain_203 rfl ?_
                      refine lv_aload_n hx hb dX4_readPlain_204 rfl (lv_at hl 2 rfl) ?_
                      refine lv_iload_n hx hb dX4_readPlain_205 rfl (lv_at hl 1 rfl) ?_
                      refine lv_if_eq (tgt := 213) hx hb dX4_readPlain_206 (by decide) (fun c293 => ?_) (fun c293 => ?_)
                      · have b294 : kb 0 y2 0 := kb_eq c293 kc_0
                        refine lv_iconst (v := (-1)) hx hb dX4_readPlain_213 (by decide) ?_
                        refine kVG.callW (As := [.int (-1)]) (rest := []) ⟨hx, hb, hml, hown, hg⟩ (x_4_emitIfAny l r f289 a290 g291 tx tt hT hI hG (-1) (kb_w kc_m1 (by decide) (by decide)) ) (cwV 1 hg (kgV wt4_26 wt4_28 wp2_1 wt1_7 wt4_29) rfl rfl rfl (by decide +kernel) ⟨by dsimp only [rmD]; omega, by dsimp only [rmD]; omega⟩) hV hK hP hD hS hA (50) 4 rfl rfl rfl hl.1 rfl (Nat.le_of_ble_eq_true rfl) dX4_readPlain_214 ⟨Nat.le_refl _, Nat.le_refl _⟩ (fun u297 H locs hw295 hP hD hS => ?_)
                        obtain ⟨f298, a299, g300⟩ := u297
                        have hP : va_P D vwCl (xX K r f298 a299 g300 tx) H := hP
                        have hD : va_D A (xX K r f298 a299 g300 tx) := hD
                        have hI : xI f298 a299 := hw295.1
                        have hG : gOK K g300.2 tt := hw295.2.1
                        have eE301 : xEk [12, 14, 32, 38, 44, 49, 832, 838, 844] f289 a290 g291 f298 a299 g300 := hw295.2.2
                        have hE : xEk [12, 14, 32, 38, 44, 49, 832, 838, 844] f a g f298 a299 g300 := xEk_tr hE eE301
                        refine lv_iconst (v := 1) hx hb dX4_readPlain_217 (by decide) ?_
                        exact kI_ret (v := 1) hx hb hr hlocks (by decide +kernel) hK hS dX4_readPlain_218 (f298, a299, g300) hP hD ⟨(kb_w kc_1 (by decide) (by decide)), hI, hG, hE⟩
                      · have b302 : kb 1 y2 1 := kr_nel c293 b7 kc_0 (by decide)
                        refine lv_iconst (v := 2) hx hb dX4_readPlain_209 (by decide) ?_
                        refine lv_goto (tgt := 214) hx hb dX4_readPlain_210 (by decide) ?_
                        refine kVG.callW (As := [.int 2]) (rest := []) ⟨hx, hb, hml, hown, hg⟩ (x_4_emitIfAny l r f289 a290 g291 tx tt hT hI hG 2 (kb_w kc_2 (by decide) (by decide)) ) (cwV 1 hg (kgV wt4_26 wt4_28 wp2_1 wt1_7 wt4_29) rfl rfl rfl (by decide +kernel) ⟨by dsimp only [rmD]; omega, by dsimp only [rmD]; omega⟩) hV hK hP hD hS hA (50) 4 rfl rfl rfl hl.1 rfl (Nat.le_of_ble_eq_true rfl) dX4_readPlain_214 ⟨Nat.le_refl _, Nat.le_refl _⟩ (fun u305 H locs hw303 hP hD hS => ?_)
                        obtain ⟨f306, a307, g308⟩ := u305
                        have hP : va_P D vwCl (xX K r f306 a307 g308 tx) H := hP
                        have hD : va_D A (xX K r f306 a307 g308 tx) := hD
                        have hI : xI f306 a307 := hw303.1
                        have hG : gOK K g308.2 tt := hw303.2.1
                        have eE309 : xEk [12, 14, 32, 38, 44, 49, 832, 838, 844] f289 a290 g291 f306 a307 g308 := hw303.2.2
                        have hE : xEk [12, 14, 32, 38, 44, 49, 832, 838, 844] f a g f306 a307 g308 := xEk_tr hE eE309
                        refine lv_iconst (v := 1) hx hb dX4_readPlain_217 (by decide) ?_
                        exact kI_ret (v := 1) hx hb hr hlocks (by decide +kernel) hK hS dX4_readPlain_218 (f306, a307, g308) hP hD ⟨(kb_w kc_1 (by decide) (by decide)), hI, hG, hE⟩
                    · have b310 : kb 0 v278 0 := kb_eq c284 kc_0
                      refine lv_iconst (v := 0) hx hb dX4_readPlain_192 (by decide) ?_
                      exact kI_ret (v := 0) hx hb hr hlocks (by decide +kernel) hK hS dX4_readPlain_193 (f280, a281, g282) hP hD ⟨(kb_w kc_0 (by decide) (by decide)), hI, hG, hE⟩
                  · exact kb_dj c273 kc_11 kc_m1 (by decide)
              · have b311 : kb 3060 v221 3060 := kb_eq c223 kc_3060
                refine lv_bipush (v := 10) hx hb dX4_readPlain_130 (by decide) ?_
                refine lv_goto (tgt := 166) hx hb dX4_readPlain_132 (by decide) ?_
                refine lv_istore_n (lv' := [(3, .int 10), (2, .int y2), (0, .ref (r 50)), (1, .int dp)]) hx hb dX4_readPlain_166 rfl hl (by decide) rfl (fun ls hl => ?_)
                refine lv_iload_n hx hb dX4_readPlain_167 rfl (lv_at hl 0 rfl) ?_
                refine lv_iconst (v := (-1)) hx hb dX4_readPlain_168 (by decide) ?_
                refine lv_icmp_ne (tgt := 174) hx hb dX4_readPlain_169 (by decide) (fun c312 => ?_) (fun c312 => ?_)
                · refine lv_aload_n hx hb dX4_readPlain_174 rfl (lv_at hl 2 rfl) ?_
                  refine lv_dup hx hb dX4_readPlain_175 rfl ?_
                  refine va_get (D := D) (ci := 4) (v := .int (f214 1604)) (C := RX4) (T := TX4) (N := 7) hx hb hg inC4 hown hK hP 50 rfl rfl 4 (by decide) (hg _ wt2_69) (fun _ h9 => h9) rfl dX4_readPlain_176 ?_
                  refine lv_topi (fun t313 et313 => ?_)
                  refine lv_iconst (v := 1) hx hb dX4_readPlain_179 (by decide) ?_
                  refine lv_iadd hx hb dX4_readPlain_180 ?_
                  refine lv_topi (fun t314 et314 => ?_)
                  refine va_put (D := D) (ci := 4) (v := .int t314) (ty := .int) (C := RX4) (T := TX4) (N := 7) hx hb hg inC4 tyX4 tyX4_ok nmX4 hown hK hP hD hS 50 rfl rfl 4 (by decide) (hg _ wt2_69) (fun _ h9 => h9) rfl (by decide +kernel) rfl rfl (Nat.le_of_ble_eq_true rfl) dX4_readPlain_181 (fun H locs hP hD hS => ?_)
                  have hP : va_P D vwCl (xX K r (upd f214 1604 t314) a215 g216 tx) H := hP
                  have hD : va_D A (xX K r (upd f214 1604 t314) a215 g216 tx) := hD
                  refine k_gen (P := fun z => va_P D vwCl (xX K r z a215 g216 tx) H ∧ va_D A (xX K r z a215 g216 tx) ∧ (xI z a215) ∧ (gOK K g216.2 tt) ∧ (xEk [12, 14, 32, 38, 44, 49, 832, 838, 844] f a g z a215 g216)) (upd f214 1604 t314) ⟨hP, hD, (xI_f hI (fI_st hI.1 1604 (kb_any _) (by decide) (by decide))), hG, (xEk_f hE (by decide))⟩ (fun f_315 ef_315 hq => ?_)
                  obtain ⟨hP, hD, hI, hG, hE⟩ := hq
                  refine lv_aload_n hx hb dX4_readPlain_184 rfl (lv_at hl 2 rfl) ?_
                  refine lv_iload_n hx hb dX4_readPlain_185 rfl (lv_at hl 3 rfl) ?_
                  refine kIG.callW (As := [.int dp]) (rest := []) ⟨hx, hb, hml, hown, hg⟩ (hsum l r f_315 a215 g216 tx tt hT hI hG dp bdp hp0) (cwV 1 hg (kgV wt4_6 wt4_8 wp1_13 wt1_7 wt4_9) rfl rfl rfl (by decide +kernel) ⟨by dsimp only [rmD]; omega, by dsimp only [rmD]; omega⟩) hV hK hP hD hS hA (50) 4 rfl rfl rfl hl.1 rfl (Nat.le_of_ble_eq_true rfl) dX4_readPlain_186 ⟨Nat.le_refl _, Nat.le_refl _⟩ (fun v317 u318 H locs hw316 hP hD hS => ?_)
                  obtain ⟨f319, a320, g321⟩ := u318
                  have hP : va_P D vwCl (xX K r f319 a320 g321 tx) H := hP
                  have hD : va_D A (xX K r f319 a320 g321 tx) := hD
                  have hI : xI f319 a320 := hw316.2.1
                  have hG : gOK K g321.2 tt := hw316.2.2.1
                  have eE322 : xEk [12, 14, 32, 38, 44, 49, 832, 838, 844] f_315 a215 g216 f319 a320 g321 := hw316.2.2.2
                  have hE : xEk [12, 14, 32, 38, 44, 49, 832, 838, 844] f a g f319 a320 g321 := xEk_tr hE eE322
                  refine lv_if_ne (tgt := 194) hx hb dX4_readPlain_189 (by decide) (fun c323 => ?_) (fun c323 => ?_)
                  · have b324 : kb 1 v317 1 := kr_nel c323 hw316.1 kc_0 (by decide)
                    refine lv_aload_n hx hb dX4_readPlain_194 rfl (lv_at hl 2 rfl) ?_
                    refine va_get (D := D) (ci := 4) (v := .ref (r 51)) (C := RX4) (T := TX4) (N := 7) hx hb hg inC4 hown hK hP 50 rfl rfl 0 (by decide) (hg _ wt2_64) (fun _ h9 => h9) rfl dX4_readPlain_195 ?_
                    refine lv_iload_n hx hb dX4_readPlain_198 rfl (lv_at hl 0 rfl) ?_
                    refine lv_iconst (v := 0) hx hb dX4_readPlain_199 (by decide) ?_
                    refine kIG.callW (As := [.int 10, .int 0]) (rest := []) ⟨hx, hb, hml, hown, hg⟩ (x_10_emit l r f319 a320 g321 tx tt hT hI hG 10 0 (kb_w kc_10 (by decide) (by decide)) ) (cwV 2 hg (kgV wt4_14 wt4_15 wt4_16 wt1_8 wt4_17) rfl rfl rfl (by decide +kernel) ⟨by dsimp only [rmD]; omega, by dsimp only [rmD]; omega⟩) hV hK hP hD hS hA (51) 10 rfl rfl rfl hl.1 rfl (Nat.le_of_ble_eq_true rfl) dX4_readPlain_200 ⟨Nat.le_refl _, Nat.le_refl _⟩ (fun v326 u327 H locs hw325 hP hD hS => ?_)
                    obtain ⟨f328, a329, g330⟩ := u327
                    have hP : va_P D vwCl (xX K r f328 a329 g330 tx) H := hP
                    have hD : va_D A (xX K r f328 a329 g330 tx) := hD
                    have hI : xI f328 a329 := hw325.2.1
                    have hG : gOK K g330.2 tt := hw325.2.2.1
                    have eE331 : xEk [12, 14, 32, 38, 44, 49, 832, 838, 844] f319 a320 g321 f328 a329 g330 := hw325.2.2.2
                    have hE : xEk [12, 14, 32, 38, 44, 49, 832, 838, 844] f a g f328 a329 g330 := xEk_tr hE eE331
                    refine lv_pop hx hb dX4_readPlain_203 rfl ?_
                    refine lv_aload_n hx hb dX4_readPlain_204 rfl (lv_at hl 2 rfl) ?_
                    refine lv_iload_n hx hb dX4_readPlain_205 rfl (lv_at hl 1 rfl) ?_
                    refine lv_if_eq (tgt := 213) hx hb dX4_readPlain_206 (by decide) (fun c332 => ?_) (fun c332 => ?_)
                    · have b333 : kb 0 y2 0 := kb_eq c332 kc_0
                      refine lv_iconst (v := (-1)) hx hb dX4_readPlain_213 (by decide) ?_
                      refine kVG.callW (As := [.int (-1)]) (rest := []) ⟨hx, hb, hml, hown, hg⟩ (x_4_emitIfAny l r f328 a329 g330 tx tt hT hI hG (-1) (kb_w kc_m1 (by decide) (by decide)) ) (cwV 1 hg (kgV wt4_26 wt4_28 wp2_1 wt1_7 wt4_29) rfl rfl rfl (by decide +kernel) ⟨by dsimp only [rmD]; omega, by dsimp only [rmD]; omega⟩) hV hK hP hD hS hA (50) 4 rfl rfl rfl hl.1 rfl (Nat.le_of_ble_eq_true rfl) dX4_readPlain_214 ⟨Nat.le_refl _, Nat.le_refl _⟩ (fun u336 H locs hw334 hP hD hS => ?_)
                      obtain ⟨f337, a338, g339⟩ := u336
                      have hP : va_P D vwCl (xX K r f337 a338 g339 tx) H := hP
                      have hD : va_D A (xX K r f337 a338 g339 tx) := hD
                      have hI : xI f337 a338 := hw334.1
                      have hG : gOK K g339.2 tt := hw334.2.1
                      have eE340 : xEk [12, 14, 32, 38, 44, 49, 832, 838, 844] f328 a329 g330 f337 a338 g339 := hw334.2.2
                      have hE : xEk [12, 14, 32, 38, 44, 49, 832, 838, 844] f a g f337 a338 g339 := xEk_tr hE eE340
                      refine lv_iconst (v := 1) hx hb dX4_readPlain_217 (by decide) ?_
                      exact kI_ret (v := 1) hx hb hr hlocks (by decide +kernel) hK hS dX4_readPlain_218 (f337, a338, g339) hP hD ⟨(kb_w kc_1 (by decide) (by decide)), hI, hG, hE⟩
                    · have b341 : kb 1 y2 1 := kr_nel c332 b7 kc_0 (by decide)
                      refine lv_iconst (v := 2) hx hb dX4_readPlain_209 (by decide) ?_
                      refine lv_goto (tgt := 214) hx hb dX4_readPlain_210 (by decide) ?_
                      refine kVG.callW (As := [.int 2]) (rest := []) ⟨hx, hb, hml, hown, hg⟩ (x_4_emitIfAny l r f328 a329 g330 tx tt hT hI hG 2 (kb_w kc_2 (by decide) (by decide)) ) (cwV 1 hg (kgV wt4_26 wt4_28 wp2_1 wt1_7 wt4_29) rfl rfl rfl (by decide +kernel) ⟨by dsimp only [rmD]; omega, by dsimp only [rmD]; omega⟩) hV hK hP hD hS hA (50) 4 rfl rfl rfl hl.1 rfl (Nat.le_of_ble_eq_true rfl) dX4_readPlain_214 ⟨Nat.le_refl _, Nat.le_refl _⟩ (fun u344 H locs hw342 hP hD hS => ?_)
                      obtain ⟨f345, a346, g347⟩ := u344
                      have hP : va_P D vwCl (xX K r f345 a346 g347 tx) H := hP
                      have hD : va_D A (xX K r f345 a346 g347 tx) := hD
                      have hI : xI f345 a346 := hw342.1
                      have hG : gOK K g347.2 tt := hw342.2.1
                      have eE348 : xEk [12, 14, 32, 38, 44, 49, 832, 838, 844] f328 a329 g330 f345 a346 g347 := hw342.2.2
                      have hE : xEk [12, 14, 32, 38, 44, 49, 832, 838, 844] f a g f345 a346 g347 := xEk_tr hE eE348
                      refine lv_iconst (v := 1) hx hb dX4_readPlain_217 (by decide) ?_
                      exact kI_ret (v := 1) hx hb hr hlocks (by decide +kernel) hK hS dX4_readPlain_218 (f345, a346, g347) hP hD ⟨(kb_w kc_1 (by decide) (by decide)), hI, hG, hE⟩
                  · have b349 : kb 0 v317 0 := kb_eq c323 kc_0
                    refine lv_iconst (v := 0) hx hb dX4_readPlain_192 (by decide) ?_
                    exact kI_ret (v := 0) hx hb hr hlocks (by decide +kernel) hK hS dX4_readPlain_193 (f319, a320, g321) hP hD ⟨(kb_w kc_0 (by decide) (by decide)), hI, hG, hE⟩
                · exact kb_dj c312 kc_10 kc_m1 (by decide)
            · have b350 : kb 0 v212 0 := kb_eq c218 kc_0
              refine lv_iconst (v := 0) hx hb dX4_readPlain_118 (by decide) ?_
              exact kI_ret (v := 0) hx hb hr hlocks (by decide +kernel) hK hS dX4_readPlain_119 (f214, a215, g216) hP hD ⟨(kb_w kc_0 (by decide) (by decide)), hI, hG, hE⟩
          · have b351 : kb 3040 v208 3040 := kb_eq c210 kc_3040
            refine lv_iload_n hx hb dX4_readPlain_57 rfl (lv_at hl 3 rfl) ?_
            refine lv_bipush (v := 8) hx hb dX4_readPlain_58 (by decide) ?_
            refine lv_icmp_lt (tgt := 65) hx hb dX4_readPlain_60 (by decide) (fun c352 => ?_) (fun c352 => ?_)
            · have h353 := (kc_lt c352)
              have b354 : kb 0 dp 7 := kr_lt1 h353 bdp kc_8 (by decide)
              refine lv_aload_n hx hb dX4_readPlain_65 rfl (lv_at hl 2 rfl) ?_
              refine lv_dup hx hb dX4_readPlain_66 rfl ?_
              refine va_get (D := D) (ci := 4) (v := .int (F3 1604)) (C := RX4) (T := TX4) (N := 7) hx hb hg inC4 hown hK hP 50 rfl rfl 4 (by decide) (hg _ wt2_69) (fun _ h9 => h9) rfl dX4_readPlain_67 ?_
              refine lv_topi (fun t355 et355 => ?_)
              refine lv_iconst (v := 1) hx hb dX4_readPlain_70 (by decide) ?_
              refine lv_iadd hx hb dX4_readPlain_71 ?_
              refine lv_topi (fun t356 et356 => ?_)
              refine va_put (D := D) (ci := 4) (v := .int t356) (ty := .int) (C := RX4) (T := TX4) (N := 7) hx hb hg inC4 tyX4 tyX4_ok nmX4 hown hK hP hD hS 50 rfl rfl 4 (by decide) (hg _ wt2_69) (fun _ h9 => h9) rfl (by decide +kernel) rfl rfl (Nat.le_of_ble_eq_true rfl) dX4_readPlain_72 (fun H locs hP hD hS => ?_)
              have hP : va_P D vwCl (xX K r (upd F3 1604 t356) a g tx) H := hP
              have hD : va_D A (xX K r (upd F3 1604 t356) a g tx) := hD
              refine k_gen (P := fun z => va_P D vwCl (xX K r z a g tx) H ∧ va_D A (xX K r z a g tx) ∧ (xI z a) ∧ (gOK K g.2 tt) ∧ (xEk [12, 14, 32, 38, 44, 49, 832, 838, 844] f a g z a g)) (upd F3 1604 t356) ⟨hP, hD, (xI_f hI (fI_st hI.1 1604 (kb_any _) (by decide) (by decide))), hG, (xEk_f hE (by decide))⟩ (fun f_357 ef_357 hq => ?_)
              obtain ⟨hP, hD, hI, hG, hE⟩ := hq
              refine lv_aload_n hx hb dX4_readPlain_75 rfl (lv_at hl 2 rfl) ?_
              refine lv_iload_n hx hb dX4_readPlain_76 rfl (lv_at hl 3 rfl) ?_
              refine lv_iconst (v := 1) hx hb dX4_readPlain_77 (by decide) ?_
              refine lv_iadd hx hb dX4_readPlain_78 ?_
              refine lv_topi (fun t358 et358 => ?_)
              have b359 : kb 1 t358 8 := kb_eq et358 (kb_add b354 kc_1 (by decide) (by decide))
              have qt358 : t358.toInt = dp.toInt + 1 := by rw [et358]; exact kt_addc b354 kc_1 (by decide) (by decide)
              obtain ⟨ee, hd⟩ : ∃ ee, d = ee + 1 := ⟨d - 1, by have w1 := hp0; have w2 := (b354).2; omega⟩
              refine kIG.callW (As := [.int t358]) (rest := []) ⟨hx, hb, hml, hown, hg⟩ ((ih ee hd) l r f_357 a g tx tt hT hI hG t358 (kb_w b359 (by decide) (by decide)) (by have w1 := hp0; have w2 := qt358; omega)) (cwV 1 hg (kgV wt4_50 wt4_52 wp2_5 wt1_7 wt4_53) rfl rfl rfl (by decide +kernel) ⟨by dsimp only [rmD]; omega, by dsimp only [rmD]; omega⟩) hV hK hP hD hS hA (50) 4 rfl rfl rfl hl.1 rfl (Nat.le_of_ble_eq_true rfl) dX4_readPlain_79 ⟨Nat.le_refl _, Nat.le_refl _⟩ (fun v361 u362 H locs hw360 hP hD hS => ?_)
              obtain ⟨f363, a364, g365⟩ := u362
              have hP : va_P D vwCl (xX K r f363 a364 g365 tx) H := hP
              have hD : va_D A (xX K r f363 a364 g365 tx) := hD
              have hI : xI f363 a364 := hw360.2.1
              have hG : gOK K g365.2 tt := hw360.2.2.1
              have eE366 : xEk [12, 14, 32, 38, 44, 49, 832, 838, 844] f_357 a g f363 a364 g365 := hw360.2.2.2
              have hE : xEk [12, 14, 32, 38, 44, 49, 832, 838, 844] f a g f363 a364 g365 := xEk_tr hE eE366
              refine lv_if_eq (tgt := 95) hx hb dX4_readPlain_82 (by decide) (fun c367 => ?_) (fun c367 => ?_)
              · have b368 : kb 0 v361 0 := kb_eq c367 kc_0
                refine lv_iconst (v := 0) hx hb dX4_readPlain_95 (by decide) ?_
                exact kI_ret (v := 0) hx hb hr hlocks (by decide +kernel) hK hS dX4_readPlain_96 (f363, a364, g365) hP hD ⟨(kb_w kc_0 (by decide) (by decide)), hI, hG, hE⟩
              · have b369 : kb 1 v361 1 := kr_nel c367 hw360.1 kc_0 (by decide)
                refine lv_aload_n hx hb dX4_readPlain_85 rfl (lv_at hl 2 rfl) ?_
                refine kIG.callW (As := []) (rest := []) ⟨hx, hb, hml, hown, hg⟩ (x_4_inHand l r f363 a364 g365 tx tt hT hI hG   ) (cwV 0 hg (kgV wt3_238 wt4_0 wp1_12 wt1_7 wt4_1) rfl rfl rfl (by decide +kernel) ⟨by dsimp only [rmD]; omega, by dsimp only [rmD]; omega⟩) hV hK hP hD hS hA (50) 4 rfl rfl rfl hl.1 rfl (Nat.le_of_ble_eq_true rfl) dX4_readPlain_86 ⟨Nat.le_refl _, Nat.le_refl _⟩ (fun v371 u372 H locs hw370 hP hD hS => ?_)
                have hP : va_P D vwCl (xX K r f363 a364 g365 tx) H := hP
                have hD : va_D A (xX K r f363 a364 g365 tx) := hD
                refine lv_sipush (v := 3041) hx hb dX4_readPlain_89 (by decide) ?_
                refine lv_icmp_eq (tgt := 97) hx hb dX4_readPlain_92 (by decide) (fun c373 => ?_) (fun c373 => ?_)
                · have b374 : kb 3041 v371 3041 := kb_eq c373 kc_3041
                  refine lv_aload_n hx hb dX4_readPlain_97 rfl (lv_at hl 2 rfl) ?_
                  refine lv_dup hx hb dX4_readPlain_98 rfl ?_
                  refine va_get (D := D) (ci := 4) (v := .int (f363 1604)) (C := RX4) (T := TX4) (N := 7) hx hb hg inC4 hown hK hP 50 rfl rfl 4 (by decide) (hg _ wt2_69) (fun _ h9 => h9) rfl dX4_readPlain_99 ?_
                  refine lv_topi (fun t375 et375 => ?_)
                  refine lv_iconst (v := 1) hx hb dX4_readPlain_102 (by decide) ?_
                  refine lv_iadd hx hb dX4_readPlain_103 ?_
                  refine lv_topi (fun t376 et376 => ?_)
                  refine va_put (D := D) (ci := 4) (v := .int t376) (ty := .int) (C := RX4) (T := TX4) (N := 7) hx hb hg inC4 tyX4 tyX4_ok nmX4 hown hK hP hD hS 50 rfl rfl 4 (by decide) (hg _ wt2_69) (fun _ h9 => h9) rfl (by decide +kernel) rfl rfl (Nat.le_of_ble_eq_true rfl) dX4_readPlain_104 (fun H locs hP hD hS => ?_)
                  have hP : va_P D vwCl (xX K r (upd f363 1604 t376) a364 g365 tx) H := hP
                  have hD : va_D A (xX K r (upd f363 1604 t376) a364 g365 tx) := hD
                  refine k_gen (P := fun z => va_P D vwCl (xX K r z a364 g365 tx) H ∧ va_D A (xX K r z a364 g365 tx) ∧ (xI z a364) ∧ (gOK K g365.2 tt) ∧ (xEk [12, 14, 32, 38, 44, 49, 832, 838, 844] f a g z a364 g365)) (upd f363 1604 t376) ⟨hP, hD, (xI_f hI (fI_st hI.1 1604 (kb_any _) (by decide) (by decide))), hG, (xEk_f hE (by decide))⟩ (fun f_377 ef_377 hq => ?_)
                  obtain ⟨hP, hD, hI, hG, hE⟩ := hq
                  refine lv_goto (tgt := 204) hx hb dX4_readPlain_107 (by decide) ?_
                  refine lv_aload_n hx hb dX4_readPlain_204 rfl (lv_at hl 2 rfl) ?_
                  refine lv_iload_n hx hb dX4_readPlain_205 rfl (lv_at hl 1 rfl) ?_
                  refine lv_if_eq (tgt := 213) hx hb dX4_readPlain_206 (by decide) (fun c378 => ?_) (fun c378 => ?_)
                  · have b379 : kb 0 y2 0 := kb_eq c378 kc_0
                    refine lv_iconst (v := (-1)) hx hb dX4_readPlain_213 (by decide) ?_
                    refine kVG.callW (As := [.int (-1)]) (rest := []) ⟨hx, hb, hml, hown, hg⟩ (x_4_emitIfAny l r f_377 a364 g365 tx tt hT hI hG (-1) (kb_w kc_m1 (by decide) (by decide)) ) (cwV 1 hg (kgV wt4_26 wt4_28 wp2_1 wt1_7 wt4_29) rfl rfl rfl (by decide +kernel) ⟨by dsimp only [rmD]; omega, by dsimp only [rmD]; omega⟩) hV hK hP hD hS hA (50) 4 rfl rfl rfl hl.1 rfl (Nat.le_of_ble_eq_true rfl) dX4_readPlain_214 ⟨Nat.le_refl _, Nat.le_refl _⟩ (fun u382 H locs hw380 hP hD hS => ?_)
                    obtain ⟨f383, a384, g385⟩ := u382
                    have hP : va_P D vwCl (xX K r f383 a384 g385 tx) H := hP
                    have hD : va_D A (xX K r f383 a384 g385 tx) := hD
                    have hI : xI f383 a384 := hw380.1
                    have hG : gOK K g385.2 tt := hw380.2.1
                    have eE386 : xEk [12, 14, 32, 38, 44, 49, 832, 838, 844] f_377 a364 g365 f383 a384 g385 := hw380.2.2
                    have hE : xEk [12, 14, 32, 38, 44, 49, 832, 838, 844] f a g f383 a384 g385 := xEk_tr hE eE386
                    refine lv_iconst (v := 1) hx hb dX4_readPlain_217 (by decide) ?_
                    exact kI_ret (v := 1) hx hb hr hlocks (by decide +kernel) hK hS dX4_readPlain_218 (f383, a384, g385) hP hD ⟨(kb_w kc_1 (by decide) (by decide)), hI, hG, hE⟩
                  · have b387 : kb 1 y2 1 := kr_nel c378 b7 kc_0 (by decide)
                    refine lv_iconst (v := 2) hx hb dX4_readPlain_209 (by decide) ?_
                    refine lv_goto (tgt := 214) hx hb dX4_readPlain_210 (by decide) ?_
                    refine kVG.callW (As := [.int 2]) (rest := []) ⟨hx, hb, hml, hown, hg⟩ (x_4_emitIfAny l r f_377 a364 g365 tx tt hT hI hG 2 (kb_w kc_2 (by decide) (by decide)) ) (cwV 1 hg (kgV wt4_26 wt4_28 wp2_1 wt1_7 wt4_29) rfl rfl rfl (by decide +kernel) ⟨by dsimp only [rmD]; omega, by dsimp only [rmD]; omega⟩) hV hK hP hD hS hA (50) 4 rfl rfl rfl hl.1 rfl (Nat.le_of_ble_eq_true rfl) dX4_readPlain_214 ⟨Nat.le_refl _, Nat.le_refl _⟩ (fun u390 H locs hw388 hP hD hS => ?_)
                    obtain ⟨f391, a392, g393⟩ := u390
                    have hP : va_P D vwCl (xX K r f391 a392 g393 tx) H := hP
                    have hD : va_D A (xX K r f391 a392 g393 tx) := hD
                    have hI : xI f391 a392 := hw388.1
                    have hG : gOK K g393.2 tt := hw388.2.1
                    have eE394 : xEk [12, 14, 32, 38, 44, 49, 832, 838, 844] f_377 a364 g365 f391 a392 g393 := hw388.2.2
                    have hE : xEk [12, 14, 32, 38, 44, 49, 832, 838, 844] f a g f391 a392 g393 := xEk_tr hE eE394
                    refine lv_iconst (v := 1) hx hb dX4_readPlain_217 (by decide) ?_
                    exact kI_ret (v := 1) hx hb hr hlocks (by decide +kernel) hK hS dX4_readPlain_218 (f391, a392, g393) hP hD ⟨(kb_w kc_1 (by decide) (by decide)), hI, hG, hE⟩
                · refine lv_iconst (v := 0) hx hb dX4_readPlain_95 (by decide) ?_
                  exact kI_ret (v := 0) hx hb hr hlocks (by decide +kernel) hK hS dX4_readPlain_96 (f363, a364, g365) hP hD ⟨(kb_w kc_0 (by decide) (by decide)), hI, hG, hE⟩
            · have h395 := (kc_nlt c352)
              have b396 : kb 8 dp 8 := kr_le2 h395 kc_8 bdp
              refine lv_iconst (v := 0) hx hb dX4_readPlain_63 (by decide) ?_
              exact kI_ret (v := 0) hx hb hr hlocks (by decide +kernel) hK hS dX4_readPlain_64 (F3, a, g) hP hD ⟨(kb_w kc_0 (by decide) (by decide)), hI, hG, hE⟩
        · have b397 : kb 2002 v204 2002 := kb_eq c206 kc_2002
          refine lv_aload_n hx hb dX4_readPlain_21 rfl (lv_at hl 2 rfl) ?_
          refine lv_dup hx hb dX4_readPlain_22 rfl ?_
          refine va_get (D := D) (ci := 4) (v := .int (F3 1604)) (C := RX4) (T := TX4) (N := 7) hx hb hg inC4 hown hK hP 50 rfl rfl 4 (by decide) (hg _ wt2_69) (fun _ h9 => h9) rfl dX4_readPlain_23 ?_
          refine lv_topi (fun t398 et398 => ?_)
          refine lv_iconst (v := 1) hx hb dX4_readPlain_26 (by decide) ?_
          refine lv_iadd hx hb dX4_readPlain_27 ?_
          refine lv_topi (fun t399 et399 => ?_)
          refine va_put (D := D) (ci := 4) (v := .int t399) (ty := .int) (C := RX4) (T := TX4) (N := 7) hx hb hg inC4 tyX4 tyX4_ok nmX4 hown hK hP hD hS 50 rfl rfl 4 (by decide) (hg _ wt2_69) (fun _ h9 => h9) rfl (by decide +kernel) rfl rfl (Nat.le_of_ble_eq_true rfl) dX4_readPlain_28 (fun H locs hP hD hS => ?_)
          have hP : va_P D vwCl (xX K r (upd F3 1604 t399) a g tx) H := hP
          have hD : va_D A (xX K r (upd F3 1604 t399) a g tx) := hD
          refine k_gen (P := fun z => va_P D vwCl (xX K r z a g tx) H ∧ va_D A (xX K r z a g tx) ∧ (xI z a) ∧ (gOK K g.2 tt) ∧ (xEk [12, 14, 32, 38, 44, 49, 832, 838, 844] f a g z a g)) (upd F3 1604 t399) ⟨hP, hD, (xI_f hI (fI_st hI.1 1604 (kb_any _) (by decide) (by decide))), hG, (xEk_f hE (by decide))⟩ (fun f_400 ef_400 hq => ?_)
          obtain ⟨hP, hD, hI, hG, hE⟩ := hq
          refine lv_iload_n hx hb dX4_readPlain_31 rfl (lv_at hl 1 rfl) ?_
          refine lv_if_ne (tgt := 39) hx hb dX4_readPlain_32 (by decide) (fun c401 => ?_) (fun c401 => ?_)
          · have b402 : kb 1 y2 1 := kr_nel c401 b7 kc_0 (by decide)
            refine lv_iconst (v := 0) hx hb dX4_readPlain_39 (by decide) ?_
            refine lv_istore_n (lv' := [(2, .int 0), (3, .int y1), (0, .ref (r 50)), (1, .int dp)]) hx hb dX4_readPlain_40 rfl hl (by decide) rfl (fun ls hl => ?_)
            obtain ⟨t403, et403⟩ : ∃ z : Int32, z = y1 + Int32.ofInt 1 := ⟨_, rfl⟩
            have qt403 : t403.toInt = y1.toInt + 1 := by rw [et403]; exact km_inc b202 (by decide) (by decide)
            have b404 : kb 1 t403 400 := kb_inc (k := 1) qt403 b202
            refine lv_iinc (v := t403) (lv' := [(3, .int t403), (2, .int 0), (0, .ref (r 50)), (1, .int dp)]) hx hb dX4_readPlain_41 hl (k := 1) rfl et403.symm (by decide) rfl (fun ls hl => ?_)
            refine lv_goto (tgt := 4) hx hb dX4_readPlain_44 (by decide) ?_
            exact ihlp4  f_400 _ _ _ t403 0 (km_up hmlp4 qt403) hI hG hE (kb_w b404 (by decide) (by decide)) (kb_w kc_0 (by decide) (by decide)) hP hD hS (lv_sub hl [0, 1, 2, 3] rfl)
          · have b405 : kb 0 y2 0 := kb_eq c401 kc_0
            refine lv_iconst (v := 1) hx hb dX4_readPlain_35 (by decide) ?_
            refine lv_goto (tgt := 40) hx hb dX4_readPlain_36 (by decide) ?_
            refine lv_istore_n (lv' := [(2, .int 1), (3, .int y1), (0, .ref (r 50)), (1, .int dp)]) hx hb dX4_readPlain_40 rfl hl (by decide) rfl (fun ls hl => ?_)
            obtain ⟨t406, et406⟩ : ∃ z : Int32, z = y1 + Int32.ofInt 1 := ⟨_, rfl⟩
            have qt406 : t406.toInt = y1.toInt + 1 := by rw [et406]; exact km_inc b202 (by decide) (by decide)
            have b407 : kb 1 t406 400 := kb_inc (k := 1) qt406 b202
            refine lv_iinc (v := t406) (lv' := [(3, .int t406), (2, .int 1), (0, .ref (r 50)), (1, .int dp)]) hx hb dX4_readPlain_41 hl (k := 1) rfl et406.symm (by decide) rfl (fun ls hl => ?_)
            refine lv_goto (tgt := 4) hx hb dX4_readPlain_44 (by decide) ?_
            exact ihlp4  f_400 _ _ _ t406 1 (km_up hmlp4 qt406) hI hG hE (kb_w b407 (by decide) (by decide)) (kb_w kc_1 (by decide) (by decide)) hP hD hS (lv_sub hl [0, 1, 2, 3] rfl)
  exact lp4 (401)  f _ _ _ 0 0 (by have h1 := (kc_0); unfold kb at h1; omega) hI hG hE (kb_w kc_0 (by decide) (by decide)) (kb_w kc_0 (by decide) (by decide)) hP hD hS (lv_sub hl [0, 1, 2, 3] rfl)
set_option maxHeartbeats 4000000 in
set_option maxRecDepth 100000 in
theorem x_4_readTest (d : Nat) (hpl : cXPlain d) (l : Launch) {D : va_G} {K : Nat → ClassId} (r : Nat → Nat) (f : Nat → Int32) (a : Nat → Nat → Int32) (g : xG) (tx tt : va_W) (hT : ∀ c ∈ tt, c ∈ tx) (hI : xI f a) (hG : gOK K g.2 tt) (dp : Int32) (bdp : kb 0 dp 8)  (hp0 : dp.toInt + (d : Int) = 8) : kIG l yX4_readTest (Cond.code yX4_readTest cX4_readTest 6 (some .boolean) :: kG) (rmD (2 * d + 10) 0 0) D K [.ref (r 50), .int dp] (xX K r f a g tx) (fun v (u : xS) => kb 0 v 1 ∧ xI u.1 u.2.1 ∧ gOK K u.2.2.2 tt ∧ xEk [12, 14, 32, 38, 44, 49, 832, 838, 844] f a g u.1 u.2.1 u.2.2) (fun u => xX K r u.1 u.2.1 u.2.2 tx) 0 0 := by
  refine kIE.of (cc := cX4_readTest) (maxL := 6) (ret := (some .boolean)) (by decide) rfl (Nat.le_of_ble_eq_true rfl) ?_
  intro p e s m below meth c A hx hb hr hml hown hts hlocks hnm hK hP hD hS hA hV ls hl
  have hE : xEk [12, 14, 32, 38, 44, 49, 832, 838, 844] f a g f a g := xEk_rf
  have hg : ∀ w ∈ kG, w.before _ s = true := fun w h => hts w (List.mem_cons_of_mem _ h)
  have hown : s.vm.findClass RX4 = some m.cls := hown
  have hl : lv_has ls 6 [(0, .ref (r 50)), (1, .int dp)] := hl
  refine lv_iconst (v := (-1)) hx hb dX4_readTest_0 (by decide) ?_
  refine lv_istore_n (lv' := [(2, .int (-1)), (0, .ref (r 50)), (1, .int dp)]) hx hb dX4_readTest_1 rfl hl (by decide) rfl (fun ls hl => ?_)
  refine lv_iconst (v := 0) hx hb dX4_readTest_2 (by decide) ?_
  refine lv_istore_n (lv' := [(3, .int 0), (2, .int (-1)), (0, .ref (r 50)), (1, .int dp)]) hx hb dX4_readTest_3 rfl hl (by decide) rfl (fun ls hl => ?_)
  have lp6 : ∀ (n7 : Nat) (F3 : Nat → Int32) (B4 : Nat → Nat → Int32) (G5 : xG) (H : Heap) (locs : List Loc) (ls : Array Slot) (y1 : Int32) (y2 : Int32), (400 < y1.toInt + (n7 : Int)) → (xI F3 B4) → (gOK K G5.2 tt) → (xEk [12, 14, 32, 38, 44, 49, 832, 838, 844] f a g F3 B4 G5) → (kb 0 y1 400) → va_P D vwCl (xX K r F3 B4 G5 tx) H → va_D A (xX K r F3 B4 G5 tx) → va_S A s.heap H locs → lv_has ls 6 [(3, .int y1), (2, .int y2), (0, .ref (r 50)), (1, .int dp)] → W p l e (rmD (2 * d + 10) 0 0) s m ([.ref (r 50), .int dp] : List Value).toArray below meth c H locs 0 0 (kQi D (tysK K) (fun v (u : xS) => kb 0 v 1 ∧ xI u.1 u.2.1 ∧ gOK K u.2.2.2 tt ∧ xEk [12, 14, 32, 38, 44, 49, 832, 838, 844] f a g u.1 u.2.1 u.2.2) (fun u => xX K r u.1 u.2.1 u.2.2 tx) A below ([.ref (r 50), .int dp] : List Value).toArray s 0 0) (F0 m 4 ls []) := by
    intro n7
    induction n7 with
    | zero =>
      intro  F3 B4 G5  H locs ls y1 y2 hmlp6 hI hG hE b8 hP hD hS hl
      exact (by have h1 := b8.2; have h2 := hmlp6; omega : False).elim
    | succ n7 ihlp6 =>
      intro  F3 B4 G5  H locs ls y1 y2 hmlp6 hI hG hE b8 hP hD hS hl
      refine lv_iload_n hx hb dX4_readTest_4 rfl (lv_at hl 0 rfl) ?_
      refine lv_sipush (v := 400) hx hb dX4_readTest_5 (by decide) ?_
      refine lv_icmp_ge (tgt := 130) hx hb dX4_readTest_8 (by decide) (fun c9 => ?_) (fun c9 => ?_)
      · have h10 := (kc_le c9)
        have b11 : kb 400 y1 400 := kr_le2 h10 kc_400 b8
        refine lv_iconst (v := 0) hx hb dX4_readTest_130 (by decide) ?_
        exact kI_ret (v := 0) hx hb hr hlocks (by decide +kernel) hK hS dX4_readTest_131 (F3, B4, G5) hP hD ⟨(kb_w kc_0 (by decide) (by decide)), hI, hG, hE⟩
      · have h12 := (kc_nle c9)
        have b13 : kb 0 y1 399 := kr_lt1 h12 b8 kc_400 (by decide)
        refine lv_iconst (v := (-1)) hx hb dX4_readTest_11 (by decide) ?_
        refine lv_istore (lv' := [(4, .int (-1)), (3, .int y1), (2, .int y2), (0, .ref (r 50)), (1, .int dp)]) hx hb dX4_readTest_12 hl (by decide) rfl (fun ls hl => ?_)
        refine lv_iconst (v := 0) hx hb dX4_readTest_14 (by decide) ?_
        refine lv_istore (lv' := [(5, .int 0), (4, .int (-1)), (3, .int y1), (2, .int y2), (0, .ref (r 50)), (1, .int dp)]) hx hb dX4_readTest_15 hl (by decide) rfl (fun ls hl => ?_)
        have lp19 : ∀ (n20 : Nat) (F16 : Nat → Int32) (B17 : Nat → Nat → Int32) (G18 : xG) (H : Heap) (locs : List Loc) (ls : Array Slot) (y14 : Int32) (y15 : Int32), (400 < y14.toInt + (n20 : Int)) → (xI F16 B17) → (gOK K G18.2 tt) → (xEk [12, 14, 32, 38, 44, 49, 832, 838, 844] f a g F16 B17 G18) → (kb 0 y14 400) → va_P D vwCl (xX K r F16 B17 G18 tx) H → va_D A (xX K r F16 B17 G18 tx) → va_S A s.heap H locs → lv_has ls 6 [(5, .int y14), (4, .int y15), (3, .int y1), (2, .int y2), (0, .ref (r 50)), (1, .int dp)] → W p l e (rmD (2 * d + 10) 0 0) s m ([.ref (r 50), .int dp] : List Value).toArray below meth c H locs 0 0 (kQi D (tysK K) (fun v (u : xS) => kb 0 v 1 ∧ xI u.1 u.2.1 ∧ gOK K u.2.2.2 tt ∧ xEk [12, 14, 32, 38, 44, 49, 832, 838, 844] f a g u.1 u.2.1 u.2.2) (fun u => xX K r u.1 u.2.1 u.2.2 tx) A below ([.ref (r 50), .int dp] : List Value).toArray s 0 0) (F0 m 17 ls []) := by
          intro n20
          induction n20 with
          | zero =>
            intro  F16 B17 G18  H locs ls y14 y15 hmlp19 hI hG hE b21 hP hD hS hl
            exact (by have h1 := b21.2; have h2 := hmlp19; omega : False).elim
          | succ n20 ihlp19 =>
            intro  F16 B17 G18  H locs ls y14 y15 hmlp19 hI hG hE b21 hP hD hS hl
            refine lv_iload hx hb dX4_readTest_17 (lv_at hl 0 rfl) ?_
            refine lv_sipush (v := 400) hx hb dX4_readTest_19 (by decide) ?_
            have jn63 : ∀ (F60 : Nat → Int32) (B61 : Nat → Nat → Int32) (G62 : xG) (H : Heap) (locs : List Loc) (ls : Array Slot), (xI F60 B61) → (gOK K G62.2 tt) → (xEk [12, 14, 32, 38, 44, 49, 832, 838, 844] f a g F60 B61 G62) → va_P D vwCl (xX K r F60 B61 G62 tx) H → va_D A (xX K r F60 B61 G62 tx) → va_S A s.heap H locs → lv_has ls 6 [(5, .int y14), (4, .int y15), (3, .int y1), (2, .int y2), (0, .ref (r 50)), (1, .int dp)] → W p l e (rmD (2 * d + 10) 0 0) s m ([.ref (r 50), .int dp] : List Value).toArray below meth c H locs 0 0 (kQi D (tysK K) (fun v (u : xS) => kb 0 v 1 ∧ xI u.1 u.2.1 ∧ gOK K u.2.2.2 tt ∧ xEk [12, 14, 32, 38, 44, 49, 832, 838, 844] f a g u.1 u.2.1 u.2.2) (fun u => xX K r u.1 u.2.1 u.2.2 tx) A below ([.ref (r 50), .int dp] : List Value).toArray s 0 0) (F0 m 84 ls []) := by
              intro F60 B61 G62  H locs ls  hI hG hE hP hD hS hl
              refine lv_aload_n hx hb dX4_readTest_84 rfl (lv_at hl 4 rfl) ?_
              refine va_get (D := D) (ci := 4) (v := .ref (r 51)) (C := RX4) (T := TX4) (N := 7) hx hb hg inC4 hown hK hP 50 rfl rfl 0 (by decide) (hg _ wt2_64) (fun _ h9 => h9) rfl dX4_readTest_85 ?_
              refine lv_iload_n hx hb dX4_readTest_88 rfl (lv_at hl 3 rfl) ?_
              refine kVG.callW (As := [.int y2]) (rest := []) ⟨hx, hb, hml, hown, hg⟩ (x_10_land l r F60 B61 G62 tx tt hT hI hG y2  ) (cwV 1 hg (kgV wt4_58 wt4_59 wt4_60 wt1_8 wt4_61) rfl rfl rfl (by decide +kernel) ⟨by dsimp only [rmD]; omega, by dsimp only [rmD]; omega⟩) hV hK hP hD hS hA (51) 10 rfl rfl rfl hl.1 rfl (Nat.le_of_ble_eq_true rfl) dX4_readTest_89 ⟨Nat.le_refl _, Nat.le_refl _⟩ (fun u66 H locs hw64 hP hD hS => ?_)
              obtain ⟨f67, a68, g69⟩ := u66
              have hP : va_P D vwCl (xX K r f67 a68 g69 tx) H := hP
              have hD : va_D A (xX K r f67 a68 g69 tx) := hD
              have hI : xI f67 a68 := hw64.1
              have hG : gOK K g69.2 tt := hw64.2.1
              have eE70 : xEk [12, 14, 32, 38, 44, 49, 832, 838, 844] F60 B61 G62 f67 a68 g69 := hw64.2.2
              have hE : xEk [12, 14, 32, 38, 44, 49, 832, 838, 844] f a g f67 a68 g69 := xEk_tr hE eE70
              refine lv_aload_n hx hb dX4_readTest_92 rfl (lv_at hl 4 rfl) ?_
              refine kIG.callW (As := []) (rest := []) ⟨hx, hb, hml, hown, hg⟩ (x_4_inHand l r f67 a68 g69 tx tt hT hI hG   ) (cwV 0 hg (kgV wt3_238 wt4_0 wp1_12 wt1_7 wt4_1) rfl rfl rfl (by decide +kernel) ⟨by dsimp only [rmD]; omega, by dsimp only [rmD]; omega⟩) hV hK hP hD hS hA (50) 4 rfl rfl rfl hl.1 rfl (Nat.le_of_ble_eq_true rfl) dX4_readTest_93 ⟨Nat.le_refl _, Nat.le_refl _⟩ (fun v72 u73 H locs hw71 hP hD hS => ?_)
              have hP : va_P D vwCl (xX K r f67 a68 g69 tx) H := hP
              have hD : va_D A (xX K r f67 a68 g69 tx) := hD
              refine lv_sipush (v := 2000) hx hb dX4_readTest_96 (by decide) ?_
              refine lv_icmp_eq (tgt := 104) hx hb dX4_readTest_99 (by decide) (fun c74 => ?_) (fun c74 => ?_)
              · have b75 : kb 2000 v72 2000 := kb_eq c74 kc_2000
                refine lv_aload_n hx hb dX4_readTest_104 rfl (lv_at hl 4 rfl) ?_
                refine lv_dup hx hb dX4_readTest_105 rfl ?_
                refine va_get (D := D) (ci := 4) (v := .int (f67 1604)) (C := RX4) (T := TX4) (N := 7) hx hb hg inC4 hown hK hP 50 rfl rfl 4 (by decide) (hg _ wt2_69) (fun _ h9 => h9) rfl dX4_readTest_106 ?_
                refine lv_topi (fun t76 et76 => ?_)
                refine lv_iconst (v := 1) hx hb dX4_readTest_109 (by decide) ?_
                refine lv_iadd hx hb dX4_readTest_110 ?_
                refine lv_topi (fun t77 et77 => ?_)
                refine va_put (D := D) (ci := 4) (v := .int t77) (ty := .int) (C := RX4) (T := TX4) (N := 7) hx hb hg inC4 tyX4 tyX4_ok nmX4 hown hK hP hD hS 50 rfl rfl 4 (by decide) (hg _ wt2_69) (fun _ h9 => h9) rfl (by decide +kernel) rfl rfl (Nat.le_of_ble_eq_true rfl) dX4_readTest_111 (fun H locs hP hD hS => ?_)
                have hP : va_P D vwCl (xX K r (upd f67 1604 t77) a68 g69 tx) H := hP
                have hD : va_D A (xX K r (upd f67 1604 t77) a68 g69 tx) := hD
                refine k_gen (P := fun z => va_P D vwCl (xX K r z a68 g69 tx) H ∧ va_D A (xX K r z a68 g69 tx) ∧ (xI z a68) ∧ (gOK K g69.2 tt) ∧ (xEk [12, 14, 32, 38, 44, 49, 832, 838, 844] f a g z a68 g69)) (upd f67 1604 t77) ⟨hP, hD, (xI_f hI (fI_st hI.1 1604 (kb_any _) (by decide) (by decide))), hG, (xEk_f hE (by decide))⟩ (fun f_78 ef_78 hq => ?_)
                obtain ⟨hP, hD, hI, hG, hE⟩ := hq
                refine lv_aload_n hx hb dX4_readTest_114 rfl (lv_at hl 4 rfl) ?_
                refine va_get (D := D) (ci := 4) (v := .ref (r 51)) (C := RX4) (T := TX4) (N := 7) hx hb hg inC4 hown hK hP 50 rfl rfl 0 (by decide) (hg _ wt2_64) (fun _ h9 => h9) rfl dX4_readTest_115 ?_
                refine lv_iconst (v := 3) hx hb dX4_readTest_118 (by decide) ?_
                refine lv_iconst (v := 0) hx hb dX4_readTest_119 (by decide) ?_
                refine kIG.callW (As := [.int 3, .int 0]) (rest := []) ⟨hx, hb, hml, hown, hg⟩ (x_10_emit l r f_78 a68 g69 tx tt hT hI hG 3 0 (kb_w kc_3 (by decide) (by decide)) ) (cwV 2 hg (kgV wt4_14 wt4_15 wt4_16 wt1_8 wt4_17) rfl rfl rfl (by decide +kernel) ⟨by dsimp only [rmD]; omega, by dsimp only [rmD]; omega⟩) hV hK hP hD hS hA (51) 10 rfl rfl rfl hl.1 rfl (Nat.le_of_ble_eq_true rfl) dX4_readTest_120 ⟨Nat.le_refl _, Nat.le_refl _⟩ (fun v80 u81 H locs hw79 hP hD hS => ?_)
                obtain ⟨f82, a83, g84⟩ := u81
                have hP : va_P D vwCl (xX K r f82 a83 g84 tx) H := hP
                have hD : va_D A (xX K r f82 a83 g84 tx) := hD
                have hI : xI f82 a83 := hw79.2.1
                have hG : gOK K g84.2 tt := hw79.2.2.1
                have eE85 : xEk [12, 14, 32, 38, 44, 49, 832, 838, 844] f_78 a68 g69 f82 a83 g84 := hw79.2.2.2
                have hE : xEk [12, 14, 32, 38, 44, 49, 832, 838, 844] f a g f82 a83 g84 := xEk_tr hE eE85
                refine lv_istore_n (lv' := [(2, .int v80), (5, .int y14), (4, .int y15), (3, .int y1), (0, .ref (r 50)), (1, .int dp)]) hx hb dX4_readTest_123 rfl hl (by decide) rfl (fun ls hl => ?_)
                obtain ⟨t86, et86⟩ : ∃ z : Int32, z = y1 + Int32.ofInt 1 := ⟨_, rfl⟩
                have qt86 : t86.toInt = y1.toInt + 1 := by rw [et86]; exact km_inc b13 (by decide) (by decide)
                have b87 : kb 1 t86 400 := kb_inc (k := 1) qt86 b13
                refine lv_iinc (v := t86) (lv' := [(3, .int t86), (2, .int v80), (5, .int y14), (4, .int y15), (0, .ref (r 50)), (1, .int dp)]) hx hb dX4_readTest_124 hl (k := 3) rfl et86.symm (by decide) rfl (fun ls hl => ?_)
                refine lv_goto (tgt := 4) hx hb dX4_readTest_127 (by decide) ?_
                exact ihlp6  f82 a83 g84 _ _ _ t86 v80 (km_up hmlp6 qt86) hI hG hE (kb_w b87 (by decide) (by decide)) hP hD hS (lv_sub hl [0, 1, 4, 5] rfl)
              · refine lv_iconst (v := 1) hx hb dX4_readTest_102 (by decide) ?_
                exact kI_ret (v := 1) hx hb hr hlocks (by decide +kernel) hK hS dX4_readTest_103 (f67, a68, g69) hP hD ⟨(kb_w kc_1 (by decide) (by decide)), hI, hG, hE⟩
            refine lv_icmp_ge (tgt := 84) hx hb dX4_readTest_22 (by decide) (fun c88 => ?_) (fun c88 => ?_)
            · have h89 := (kc_le c88)
              have b90 : kb 400 y14 400 := kr_le2 h89 kc_400 b21
              exact jn63 F16 B17 G18 _ _ _  hI hG hE hP hD hS (lv_sub hl [0, 1, 2, 3, 4, 5] rfl)
            · have h91 := (kc_nle c88)
              have b92 : kb 0 y14 399 := kr_lt1 h91 b21 kc_400 (by decide)
              refine lv_aload_n hx hb dX4_readTest_25 rfl (lv_at hl 4 rfl) ?_
              refine lv_iload_n hx hb dX4_readTest_26 rfl (lv_at hl 5 rfl) ?_
              refine kIG.callW (As := [.int dp]) (rest := []) ⟨hx, hb, hml, hown, hg⟩ (hpl l r F16 B17 G18 tx tt hT hI hG dp bdp hp0) (cwV 1 hg (kgV wt4_54 wt4_56 wp2_6 wt1_7 wt4_57) rfl rfl rfl (by decide +kernel) ⟨by dsimp only [rmD]; omega, by dsimp only [rmD]; omega⟩) hV hK hP hD hS hA (50) 4 rfl rfl rfl hl.1 rfl (Nat.le_of_ble_eq_true rfl) dX4_readTest_27 ⟨Nat.le_refl _, Nat.le_refl _⟩ (fun v94 u95 H locs hw93 hP hD hS => ?_)
              obtain ⟨f96, a97, g98⟩ := u95
              have hP : va_P D vwCl (xX K r f96 a97 g98 tx) H := hP
              have hD : va_D A (xX K r f96 a97 g98 tx) := hD
              have hI : xI f96 a97 := hw93.2.1
              have hG : gOK K g98.2 tt := hw93.2.2.1
              have eE99 : xEk [12, 14, 32, 38, 44, 49, 832, 838, 844] F16 B17 G18 f96 a97 g98 := hw93.2.2.2
              have hE : xEk [12, 14, 32, 38, 44, 49, 832, 838, 844] f a g f96 a97 g98 := xEk_tr hE eE99
              refine lv_if_ne (tgt := 35) hx hb dX4_readTest_30 (by decide) (fun c100 => ?_) (fun c100 => ?_)
              · have b101 : kb 1 v94 1 := kr_nel c100 hw93.1 kc_0 (by decide)
                refine lv_aload_n hx hb dX4_readTest_35 rfl (lv_at hl 4 rfl) ?_
                refine va_get (D := D) (ci := 4) (v := .ref (r 51)) (C := RX4) (T := TX4) (N := 7) hx hb hg inC4 hown hK hP 50 rfl rfl 0 (by decide) (hg _ wt2_64) (fun _ h9 => h9) rfl dX4_readTest_36 ?_
                refine lv_iload hx hb dX4_readTest_39 (lv_at hl 1 rfl) ?_
                refine kVG.callW (As := [.int y15]) (rest := []) ⟨hx, hb, hml, hown, hg⟩ (x_10_land l r f96 a97 g98 tx tt hT hI hG y15  ) (cwV 1 hg (kgV wt4_58 wt4_59 wt4_60 wt1_8 wt4_61) rfl rfl rfl (by decide +kernel) ⟨by dsimp only [rmD]; omega, by dsimp only [rmD]; omega⟩) hV hK hP hD hS hA (51) 10 rfl rfl rfl hl.1 rfl (Nat.le_of_ble_eq_true rfl) dX4_readTest_41 ⟨Nat.le_refl _, Nat.le_refl _⟩ (fun u104 H locs hw102 hP hD hS => ?_)
                obtain ⟨f105, a106, g107⟩ := u104
                have hP : va_P D vwCl (xX K r f105 a106 g107 tx) H := hP
                have hD : va_D A (xX K r f105 a106 g107 tx) := hD
                have hI : xI f105 a106 := hw102.1
                have hG : gOK K g107.2 tt := hw102.2.1
                have eE108 : xEk [12, 14, 32, 38, 44, 49, 832, 838, 844] f96 a97 g98 f105 a106 g107 := hw102.2.2
                have hE : xEk [12, 14, 32, 38, 44, 49, 832, 838, 844] f a g f105 a106 g107 := xEk_tr hE eE108
                refine lv_aload_n hx hb dX4_readTest_44 rfl (lv_at hl 4 rfl) ?_
                refine kIG.callW (As := []) (rest := []) ⟨hx, hb, hml, hown, hg⟩ (x_4_inHand l r f105 a106 g107 tx tt hT hI hG   ) (cwV 0 hg (kgV wt3_238 wt4_0 wp1_12 wt1_7 wt4_1) rfl rfl rfl (by decide +kernel) ⟨by dsimp only [rmD]; omega, by dsimp only [rmD]; omega⟩) hV hK hP hD hS hA (50) 4 rfl rfl rfl hl.1 rfl (Nat.le_of_ble_eq_true rfl) dX4_readTest_45 ⟨Nat.le_refl _, Nat.le_refl _⟩ (fun v110 u111 H locs hw109 hP hD hS => ?_)
                have hP : va_P D vwCl (xX K r f105 a106 g107 tx) H := hP
                have hD : va_D A (xX K r f105 a106 g107 tx) := hD
                refine lv_sipush (v := 2001) hx hb dX4_readTest_48 (by decide) ?_
                refine lv_icmp_eq (tgt := 57) hx hb dX4_readTest_51 (by decide) (fun c112 => ?_) (fun c112 => ?_)
                · have b113 : kb 2001 v110 2001 := kb_eq c112 kc_2001
                  refine lv_aload_n hx hb dX4_readTest_57 rfl (lv_at hl 4 rfl) ?_
                  refine lv_dup hx hb dX4_readTest_58 rfl ?_
                  refine va_get (D := D) (ci := 4) (v := .int (f105 1604)) (C := RX4) (T := TX4) (N := 7) hx hb hg inC4 hown hK hP 50 rfl rfl 4 (by decide) (hg _ wt2_69) (fun _ h9 => h9) rfl dX4_readTest_59 ?_
                  refine lv_topi (fun t114 et114 => ?_)
                  refine lv_iconst (v := 1) hx hb dX4_readTest_62 (by decide) ?_
                  refine lv_iadd hx hb dX4_readTest_63 ?_
                  refine lv_topi (fun t115 et115 => ?_)
                  refine va_put (D := D) (ci := 4) (v := .int t115) (ty := .int) (C := RX4) (T := TX4) (N := 7) hx hb hg inC4 tyX4 tyX4_ok nmX4 hown hK hP hD hS 50 rfl rfl 4 (by decide) (hg _ wt2_69) (fun _ h9 => h9) rfl (by decide +kernel) rfl rfl (Nat.le_of_ble_eq_true rfl) dX4_readTest_64 (fun H locs hP hD hS => ?_)
                  have hP : va_P D vwCl (xX K r (upd f105 1604 t115) a106 g107 tx) H := hP
                  have hD : va_D A (xX K r (upd f105 1604 t115) a106 g107 tx) := hD
                  refine k_gen (P := fun z => va_P D vwCl (xX K r z a106 g107 tx) H ∧ va_D A (xX K r z a106 g107 tx) ∧ (xI z a106) ∧ (gOK K g107.2 tt) ∧ (xEk [12, 14, 32, 38, 44, 49, 832, 838, 844] f a g z a106 g107)) (upd f105 1604 t115) ⟨hP, hD, (xI_f hI (fI_st hI.1 1604 (kb_any _) (by decide) (by decide))), hG, (xEk_f hE (by decide))⟩ (fun f_116 ef_116 hq => ?_)
                  obtain ⟨hP, hD, hI, hG, hE⟩ := hq
                  refine lv_aload_n hx hb dX4_readTest_67 rfl (lv_at hl 4 rfl) ?_
                  refine va_get (D := D) (ci := 4) (v := .ref (r 51)) (C := RX4) (T := TX4) (N := 7) hx hb hg inC4 hown hK hP 50 rfl rfl 0 (by decide) (hg _ wt2_64) (fun _ h9 => h9) rfl dX4_readTest_68 ?_
                  refine lv_iconst (v := 4) hx hb dX4_readTest_71 (by decide) ?_
                  refine lv_iconst (v := 0) hx hb dX4_readTest_72 (by decide) ?_
                  refine kIG.callW (As := [.int 4, .int 0]) (rest := []) ⟨hx, hb, hml, hown, hg⟩ (x_10_emit l r f_116 a106 g107 tx tt hT hI hG 4 0 (kb_w kc_4 (by decide) (by decide)) ) (cwV 2 hg (kgV wt4_14 wt4_15 wt4_16 wt1_8 wt4_17) rfl rfl rfl (by decide +kernel) ⟨by dsimp only [rmD]; omega, by dsimp only [rmD]; omega⟩) hV hK hP hD hS hA (51) 10 rfl rfl rfl hl.1 rfl (Nat.le_of_ble_eq_true rfl) dX4_readTest_73 ⟨Nat.le_refl _, Nat.le_refl _⟩ (fun v118 u119 H locs hw117 hP hD hS => ?_)
                  obtain ⟨f120, a121, g122⟩ := u119
                  have hP : va_P D vwCl (xX K r f120 a121 g122 tx) H := hP
                  have hD : va_D A (xX K r f120 a121 g122 tx) := hD
                  have hI : xI f120 a121 := hw117.2.1
                  have hG : gOK K g122.2 tt := hw117.2.2.1
                  have eE123 : xEk [12, 14, 32, 38, 44, 49, 832, 838, 844] f_116 a106 g107 f120 a121 g122 := hw117.2.2.2
                  have hE : xEk [12, 14, 32, 38, 44, 49, 832, 838, 844] f a g f120 a121 g122 := xEk_tr hE eE123
                  refine lv_istore (lv' := [(4, .int v118), (5, .int y14), (3, .int y1), (2, .int y2), (0, .ref (r 50)), (1, .int dp)]) hx hb dX4_readTest_76 hl (by decide) rfl (fun ls hl => ?_)
                  obtain ⟨t124, et124⟩ : ∃ z : Int32, z = y14 + Int32.ofInt 1 := ⟨_, rfl⟩
                  have qt124 : t124.toInt = y14.toInt + 1 := by rw [et124]; exact km_inc b92 (by decide) (by decide)
                  have b125 : kb 1 t124 400 := kb_inc (k := 1) qt124 b92
                  refine lv_iinc (v := t124) (lv' := [(5, .int t124), (4, .int v118), (3, .int y1), (2, .int y2), (0, .ref (r 50)), (1, .int dp)]) hx hb dX4_readTest_78 hl (k := 1) rfl et124.symm (by decide) rfl (fun ls hl => ?_)
                  refine lv_goto (tgt := 17) hx hb dX4_readTest_81 (by decide) ?_
                  exact ihlp19  f120 a121 g122 _ _ _ t124 v118 (km_up hmlp19 qt124) hI hG hE (kb_w b125 (by decide) (by decide)) hP hD hS (lv_sub hl [0, 1, 2, 3, 4, 5] rfl)
                · refine lv_goto (tgt := 84) hx hb dX4_readTest_54 (by decide) ?_
                  exact jn63 f105 a106 g107 _ _ _  hI hG hE hP hD hS (lv_sub hl [0, 1, 2, 3, 4, 5] rfl)
              · have b126 : kb 0 v94 0 := kb_eq c100 kc_0
                refine lv_iconst (v := 0) hx hb dX4_readTest_33 (by decide) ?_
                exact kI_ret (v := 0) hx hb hr hlocks (by decide +kernel) hK hS dX4_readTest_34 (f96, a97, g98) hP hD ⟨(kb_w kc_0 (by decide) (by decide)), hI, hG, hE⟩
        exact lp19 (401)  F3 B4 G5 _ _ _ 0 (-1) (by have h1 := (kc_0); unfold kb at h1; omega) hI hG hE (kb_w kc_0 (by decide) (by decide)) hP hD hS (lv_sub hl [0, 1, 2, 3, 4, 5] rfl)
  exact lp6 (401)  f a g _ _ _ 0 (-1) (by have h1 := (kc_0); unfold kb at h1; omega) hI hG hE (kb_w kc_0 (by decide) (by decide)) hP hD hS (lv_sub hl [0, 1, 2, 3] rfl)
set_option maxHeartbeats 4000000 in
theorem x_allSum : ∀ d, cXSum d := by
  intro d
  induction d with
  | zero => exact x_4_readSum 0 (x_4_readOperand 0 (fun e h => absurd h (by omega)))
  | succ d ih => exact x_4_readSum _ (x_4_readOperand _ (fun e h => (Nat.succ.inj h) ▸ ih))
set_option maxHeartbeats 4000000 in
theorem x_allTest : ∀ d, cXTest d := by
  intro d
  induction d with
  | zero => exact x_4_readTest 0 (x_4_readPlain 0 (fun e h => absurd h (by omega)) (x_allSum 0))
  | succ d ih => exact x_4_readTest _ (x_4_readPlain _ (fun e h => (Nat.succ.inj h) ▸ ih) (x_allSum _))
set_option maxHeartbeats 4000000 in
set_option maxRecDepth 100000 in
theorem x_4_readRule  (l : Launch) {D : va_G} {K : Nat → ClassId} (r : Nat → Nat) (f : Nat → Int32) (a : Nat → Nat → Int32) (g : xG) (tx tt : va_W) (hT : ∀ c ∈ tt, c ∈ tx) (hI : xI f a) (hG : gOK K g.2 tt)     : kIG l yX4_readRule (Cond.code yX4_readRule cX4_readRule 2 (some .boolean) :: kG) (rmD 27 0 0) D K [.ref (r 50)] (xX K r f a g tx) (fun v (u : xS) => kb 0 v 1 ∧ xI u.1 u.2.1 ∧ gOK K u.2.2.2 tt ∧ xEk [12, 14, 32, 38, 44, 49, 832, 838, 844] f a g u.1 u.2.1 u.2.2) (fun u => xX K r u.1 u.2.1 u.2.2 tx) 0 0 := by
  refine kIE.of (cc := cX4_readRule) (maxL := 2) (ret := (some .boolean)) (by decide) rfl (Nat.le_of_ble_eq_true rfl) ?_
  intro p e s m below meth c A hx hb hr hml hown hts hlocks hnm hK hP hD hS hA hV ls hl
  have hE : xEk [12, 14, 32, 38, 44, 49, 832, 838, 844] f a g f a g := xEk_rf
  have hg : ∀ w ∈ kG, w.before _ s = true := fun w h => hts w (List.mem_cons_of_mem _ h)
  have hown : s.vm.findClass RX4 = some m.cls := hown
  have hl : lv_has ls 2 [(0, .ref (r 50))] := hl
  refine lv_aload_n hx hb dX4_readRule_0 rfl (lv_at hl 0 rfl) ?_
  refine kIG.callW (As := []) (rest := []) ⟨hx, hb, hml, hown, hg⟩ (x_4_inHand l r f a g tx tt hT hI hG   ) (cwV 0 hg (kgV wt3_238 wt4_0 wp1_12 wt1_7 wt4_1) rfl rfl rfl (by decide +kernel) ⟨by decide, by decide⟩) hV hK hP hD hS hA (50) 4 rfl rfl rfl hl.1 rfl (Nat.le_of_ble_eq_true rfl) dX4_readRule_1 ⟨Nat.le_refl _, Nat.le_refl _⟩ (fun v2 u3 H locs hw1 hP hD hS => ?_)
  have hP : va_P D vwCl (xX K r f a g tx) H := hP
  have hD : va_D A (xX K r f a g tx) := hD
  refine lv_sipush (v := 2004) hx hb dX4_readRule_4 (by decide) ?_
  refine lv_isub hx hb dX4_readRule_7 ?_
  refine lv_topi (fun t4 et4 => ?_)
  refine lv_istore_n (lv' := [(1, .int t4), (0, .ref (r 50))]) hx hb dX4_readRule_8 rfl hl (by decide) rfl (fun ls hl => ?_)
  refine lv_iload_n hx hb dX4_readRule_9 rfl (lv_at hl 0 rfl) ?_
  refine lv_if_lt (tgt := 29) hx hb dX4_readRule_10 (by decide) (fun c5 => ?_) (fun c5 => ?_)
  · have h6 := (kc_lt c5)
    have b7 : kb (-2147483648) t4 (-1) := kr_lt1 h6 (kb_any t4) kc_0 (by decide)
    refine lv_iconst (v := 0) hx hb dX4_readRule_29 (by decide) ?_
    exact kI_ret (v := 0) hx hb hr hlocks (by decide +kernel) hK hS dX4_readRule_30 (f, a, g) hP hD ⟨(kb_w kc_0 (by decide) (by decide)), hI, hG, hE⟩
  · have h8 := (kc_nlt c5)
    have b9 : kb 0 t4 2147483647 := kr_le2 h8 kc_0 (kb_any t4)
    refine lv_iload_n hx hb dX4_readRule_13 rfl (lv_at hl 0 rfl) ?_
    refine lv_iconst (v := 4) hx hb dX4_readRule_14 (by decide) ?_
    refine lv_icmp_ge (tgt := 29) hx hb dX4_readRule_15 (by decide) (fun c10 => ?_) (fun c10 => ?_)
    · have h11 := (kc_le c10)
      have b12 : kb 4 t4 2147483647 := kr_le2 h11 kc_4 b9
      refine lv_iconst (v := 0) hx hb dX4_readRule_29 (by decide) ?_
      exact kI_ret (v := 0) hx hb hr hlocks (by decide +kernel) hK hS dX4_readRule_30 (f, a, g) hP hD ⟨(kb_w kc_0 (by decide) (by decide)), hI, hG, hE⟩
    · have h13 := (kc_nle c10)
      have b14 : kb 0 t4 3 := kr_lt1 h13 b9 kc_4 (by decide)
      refine lv_aload_n hx hb dX4_readRule_18 rfl (lv_at hl 1 rfl) ?_
      refine va_get (D := D) (ci := 4) (v := .ref (r 51)) (C := RX4) (T := TX4) (N := 7) hx hb hg inC4 hown hK hP 50 rfl rfl 0 (by decide) (hg _ wt2_64) (fun _ h9 => h9) rfl dX4_readRule_19 ?_
      refine lv_iload_n hx hb dX4_readRule_22 rfl (lv_at hl 0 rfl) ?_
      refine kIG.callW (As := [.int t4]) (rest := []) ⟨hx, hb, hml, hown, hg⟩ (x_10_open l r f a g tx tt hT hI hG t4  ) (cwV 1 hg (kgV wt4_2 wt4_3 wt4_4 wt1_8 wt4_5) rfl rfl rfl (by decide +kernel) ⟨by decide, by decide⟩) hV hK hP hD hS hA (51) 10 rfl rfl rfl hl.1 rfl (Nat.le_of_ble_eq_true rfl) dX4_readRule_23 ⟨Nat.le_refl _, Nat.le_refl _⟩ (fun v16 u17 H locs hw15 hP hD hS => ?_)
      obtain ⟨f18, a19, g20⟩ := u17
      have hP : va_P D vwCl (xX K r f18 a19 g20 tx) H := hP
      have hD : va_D A (xX K r f18 a19 g20 tx) := hD
      have hI : xI f18 a19 := hw15.2.1
      have hG : gOK K g20.2 tt := hw15.2.2.1
      have eE21 : xEk [12, 14, 32, 38, 44, 49, 832, 838, 844] f a g f18 a19 g20 := hw15.2.2.2
      have hE : xEk [12, 14, 32, 38, 44, 49, 832, 838, 844] f a g f18 a19 g20 := xEk_tr hE eE21
      refine lv_if_ne (tgt := 31) hx hb dX4_readRule_26 (by decide) (fun c22 => ?_) (fun c22 => ?_)
      · have b23 : kb 1 v16 1 := kr_nel c22 hw15.1 kc_0 (by decide)
        refine lv_aload_n hx hb dX4_readRule_31 rfl (lv_at hl 1 rfl) ?_
        refine lv_dup hx hb dX4_readRule_32 rfl ?_
        refine va_get (D := D) (ci := 4) (v := .int (f18 1604)) (C := RX4) (T := TX4) (N := 7) hx hb hg inC4 hown hK hP 50 rfl rfl 4 (by decide) (hg _ wt2_69) (fun _ h9 => h9) rfl dX4_readRule_33 ?_
        refine lv_topi (fun t24 et24 => ?_)
        refine lv_iconst (v := 1) hx hb dX4_readRule_36 (by decide) ?_
        refine lv_iadd hx hb dX4_readRule_37 ?_
        refine lv_topi (fun t25 et25 => ?_)
        refine va_put (D := D) (ci := 4) (v := .int t25) (ty := .int) (C := RX4) (T := TX4) (N := 7) hx hb hg inC4 tyX4 tyX4_ok nmX4 hown hK hP hD hS 50 rfl rfl 4 (by decide) (hg _ wt2_69) (fun _ h9 => h9) rfl (by decide +kernel) rfl rfl (Nat.le_of_ble_eq_true rfl) dX4_readRule_38 (fun H locs hP hD hS => ?_)
        have hP : va_P D vwCl (xX K r (upd f18 1604 t25) a19 g20 tx) H := hP
        have hD : va_D A (xX K r (upd f18 1604 t25) a19 g20 tx) := hD
        refine k_gen (P := fun z => va_P D vwCl (xX K r z a19 g20 tx) H ∧ va_D A (xX K r z a19 g20 tx) ∧ (xI z a19) ∧ (gOK K g20.2 tt) ∧ (xEk [12, 14, 32, 38, 44, 49, 832, 838, 844] f a g z a19 g20)) (upd f18 1604 t25) ⟨hP, hD, (xI_f hI (fI_st hI.1 1604 (kb_any _) (by decide) (by decide))), hG, (xEk_f hE (by decide))⟩ (fun f_26 ef_26 hq => ?_)
        obtain ⟨hP, hD, hI, hG, hE⟩ := hq
        refine lv_iload_n hx hb dX4_readRule_41 rfl (lv_at hl 0 rfl) ?_
        refine lv_iconst (v := 3) hx hb dX4_readRule_42 (by decide) ?_
        refine lv_icmp_eq (tgt := 56) hx hb dX4_readRule_43 (by decide) (fun c27 => ?_) (fun c27 => ?_)
        · have b28 : kb 3 t4 3 := kb_eq c27 kc_3
          refine lv_aload_n hx hb dX4_readRule_56 rfl (lv_at hl 1 rfl) ?_
          refine va_get (D := D) (ci := 4) (v := .ref (r 51)) (C := RX4) (T := TX4) (N := 7) hx hb hg inC4 hown hK hP 50 rfl rfl 0 (by decide) (hg _ wt2_64) (fun _ h9 => h9) rfl dX4_readRule_57 ?_
          refine lv_iconst (v := 0) hx hb dX4_readRule_60 (by decide) ?_
          refine kVG.callW (As := [.int 0]) (rest := []) ⟨hx, hb, hml, hown, hg⟩ (x_10_close l r f_26 a19 g20 tx tt hT hI hG 0 (kb_w kc_0 (by decide) (by decide)) ) (cwV 1 hg (kgV wt4_30 wt4_31 wt4_32 wt1_8 wt4_33) rfl rfl rfl (by decide +kernel) ⟨by decide, by decide⟩) hV hK hP hD hS hA (51) 10 rfl rfl rfl hl.1 rfl (Nat.le_of_ble_eq_true rfl) dX4_readRule_61 ⟨Nat.le_refl _, Nat.le_refl _⟩ (fun u31 H locs hw29 hP hD hS => ?_)
          obtain ⟨f32, a33, g34⟩ := u31
          have hP : va_P D vwCl (xX K r f32 a33 g34 tx) H := hP
          have hD : va_D A (xX K r f32 a33 g34 tx) := hD
          have hI : xI f32 a33 := hw29.1
          have hG : gOK K g34.2 tt := hw29.2.1
          have eE35 : xEk [12, 14, 32, 38, 44, 49, 832, 838, 844] f_26 a19 g20 f32 a33 g34 := hw29.2.2
          have hE : xEk [12, 14, 32, 38, 44, 49, 832, 838, 844] f a g f32 a33 g34 := xEk_tr hE eE35
          refine lv_aload_n hx hb dX4_readRule_64 rfl (lv_at hl 1 rfl) ?_
          refine va_get (D := D) (ci := 4) (v := .ref (r 51)) (C := RX4) (T := TX4) (N := 7) hx hb hg inC4 hown hK hP 50 rfl rfl 0 (by decide) (hg _ wt2_64) (fun _ h9 => h9) rfl dX4_readRule_65 ?_
          refine lv_iconst (v := 1) hx hb dX4_readRule_68 (by decide) ?_
          refine kVG.callW (As := [.int 1]) (rest := []) ⟨hx, hb, hml, hown, hg⟩ (x_10_close l r f32 a33 g34 tx tt hT hI hG 1 (kb_w kc_1 (by decide) (by decide)) ) (cwV 1 hg (kgV wt4_30 wt4_31 wt4_32 wt1_8 wt4_33) rfl rfl rfl (by decide +kernel) ⟨by decide, by decide⟩) hV hK hP hD hS hA (51) 10 rfl rfl rfl hl.1 rfl (Nat.le_of_ble_eq_true rfl) dX4_readRule_69 ⟨Nat.le_refl _, Nat.le_refl _⟩ (fun u38 H locs hw36 hP hD hS => ?_)
          obtain ⟨f39, a40, g41⟩ := u38
          have hP : va_P D vwCl (xX K r f39 a40 g41 tx) H := hP
          have hD : va_D A (xX K r f39 a40 g41 tx) := hD
          have hI : xI f39 a40 := hw36.1
          have hG : gOK K g41.2 tt := hw36.2.1
          have eE42 : xEk [12, 14, 32, 38, 44, 49, 832, 838, 844] f32 a33 g34 f39 a40 g41 := hw36.2.2
          have hE : xEk [12, 14, 32, 38, 44, 49, 832, 838, 844] f a g f39 a40 g41 := xEk_tr hE eE42
          refine lv_iconst (v := 1) hx hb dX4_readRule_72 (by decide) ?_
          exact kI_ret (v := 1) hx hb hr hlocks (by decide +kernel) hK hS dX4_readRule_73 (f39, a40, g41) hP hD ⟨(kb_w kc_1 (by decide) (by decide)), hI, hG, hE⟩
        · have b43 : kb 0 t4 2 := kr_neh c27 b14 kc_3 (by decide)
          refine lv_aload_n hx hb dX4_readRule_46 rfl (lv_at hl 1 rfl) ?_
          refine lv_iconst (v := 0) hx hb dX4_readRule_47 (by decide) ?_
          refine kIG.callW (As := [.int 0]) (rest := []) ⟨hx, hb, hml, hown, hg⟩ ((x_allSum 8) l r f_26 a19 g20 tx tt hT hI hG 0 (kb_w kc_0 (by decide) (by decide)) (by decide +kernel)) (cwV 1 hg (kgV wt4_6 wt4_8 wp1_13 wt1_7 wt4_9) rfl rfl rfl (by decide +kernel) ⟨by decide, by decide⟩) hV hK hP hD hS hA (50) 4 rfl rfl rfl hl.1 rfl (Nat.le_of_ble_eq_true rfl) dX4_readRule_48 ⟨Nat.le_refl _, Nat.le_refl _⟩ (fun v45 u46 H locs hw44 hP hD hS => ?_)
          obtain ⟨f47, a48, g49⟩ := u46
          have hP : va_P D vwCl (xX K r f47 a48 g49 tx) H := hP
          have hD : va_D A (xX K r f47 a48 g49 tx) := hD
          have hI : xI f47 a48 := hw44.2.1
          have hG : gOK K g49.2 tt := hw44.2.2.1
          have eE50 : xEk [12, 14, 32, 38, 44, 49, 832, 838, 844] f_26 a19 g20 f47 a48 g49 := hw44.2.2.2
          have hE : xEk [12, 14, 32, 38, 44, 49, 832, 838, 844] f a g f47 a48 g49 := xEk_tr hE eE50
          refine lv_if_ne (tgt := 56) hx hb dX4_readRule_51 (by decide) (fun c51 => ?_) (fun c51 => ?_)
          · have b52 : kb 1 v45 1 := kr_nel c51 hw44.1 kc_0 (by decide)
            refine lv_aload_n hx hb dX4_readRule_56 rfl (lv_at hl 1 rfl) ?_
            refine va_get (D := D) (ci := 4) (v := .ref (r 51)) (C := RX4) (T := TX4) (N := 7) hx hb hg inC4 hown hK hP 50 rfl rfl 0 (by decide) (hg _ wt2_64) (fun _ h9 => h9) rfl dX4_readRule_57 ?_
            refine lv_iconst (v := 0) hx hb dX4_readRule_60 (by decide) ?_
            refine kVG.callW (As := [.int 0]) (rest := []) ⟨hx, hb, hml, hown, hg⟩ (x_10_close l r f47 a48 g49 tx tt hT hI hG 0 (kb_w kc_0 (by decide) (by decide)) ) (cwV 1 hg (kgV wt4_30 wt4_31 wt4_32 wt1_8 wt4_33) rfl rfl rfl (by decide +kernel) ⟨by decide, by decide⟩) hV hK hP hD hS hA (51) 10 rfl rfl rfl hl.1 rfl (Nat.le_of_ble_eq_true rfl) dX4_readRule_61 ⟨Nat.le_refl _, Nat.le_refl _⟩ (fun u55 H locs hw53 hP hD hS => ?_)
            obtain ⟨f56, a57, g58⟩ := u55
            have hP : va_P D vwCl (xX K r f56 a57 g58 tx) H := hP
            have hD : va_D A (xX K r f56 a57 g58 tx) := hD
            have hI : xI f56 a57 := hw53.1
            have hG : gOK K g58.2 tt := hw53.2.1
            have eE59 : xEk [12, 14, 32, 38, 44, 49, 832, 838, 844] f47 a48 g49 f56 a57 g58 := hw53.2.2
            have hE : xEk [12, 14, 32, 38, 44, 49, 832, 838, 844] f a g f56 a57 g58 := xEk_tr hE eE59
            refine lv_aload_n hx hb dX4_readRule_64 rfl (lv_at hl 1 rfl) ?_
            refine va_get (D := D) (ci := 4) (v := .ref (r 51)) (C := RX4) (T := TX4) (N := 7) hx hb hg inC4 hown hK hP 50 rfl rfl 0 (by decide) (hg _ wt2_64) (fun _ h9 => h9) rfl dX4_readRule_65 ?_
            refine lv_iconst (v := 1) hx hb dX4_readRule_68 (by decide) ?_
            refine kVG.callW (As := [.int 1]) (rest := []) ⟨hx, hb, hml, hown, hg⟩ (x_10_close l r f56 a57 g58 tx tt hT hI hG 1 (kb_w kc_1 (by decide) (by decide)) ) (cwV 1 hg (kgV wt4_30 wt4_31 wt4_32 wt1_8 wt4_33) rfl rfl rfl (by decide +kernel) ⟨by decide, by decide⟩) hV hK hP hD hS hA (51) 10 rfl rfl rfl hl.1 rfl (Nat.le_of_ble_eq_true rfl) dX4_readRule_69 ⟨Nat.le_refl _, Nat.le_refl _⟩ (fun u62 H locs hw60 hP hD hS => ?_)
            obtain ⟨f63, a64, g65⟩ := u62
            have hP : va_P D vwCl (xX K r f63 a64 g65 tx) H := hP
            have hD : va_D A (xX K r f63 a64 g65 tx) := hD
            have hI : xI f63 a64 := hw60.1
            have hG : gOK K g65.2 tt := hw60.2.1
            have eE66 : xEk [12, 14, 32, 38, 44, 49, 832, 838, 844] f56 a57 g58 f63 a64 g65 := hw60.2.2
            have hE : xEk [12, 14, 32, 38, 44, 49, 832, 838, 844] f a g f63 a64 g65 := xEk_tr hE eE66
            refine lv_iconst (v := 1) hx hb dX4_readRule_72 (by decide) ?_
            exact kI_ret (v := 1) hx hb hr hlocks (by decide +kernel) hK hS dX4_readRule_73 (f63, a64, g65) hP hD ⟨(kb_w kc_1 (by decide) (by decide)), hI, hG, hE⟩
          · have b67 : kb 0 v45 0 := kb_eq c51 kc_0
            refine lv_iconst (v := 0) hx hb dX4_readRule_54 (by decide) ?_
            exact kI_ret (v := 0) hx hb hr hlocks (by decide +kernel) hK hS dX4_readRule_55 (f47, a48, g49) hP hD ⟨(kb_w kc_0 (by decide) (by decide)), hI, hG, hE⟩
      · have b68 : kb 0 v16 0 := kb_eq c22 kc_0
        refine lv_iconst (v := 0) hx hb dX4_readRule_29 (by decide) ?_
        exact kI_ret (v := 0) hx hb hr hlocks (by decide +kernel) hK hS dX4_readRule_30 (f18, a19, g20) hP hD ⟨(kb_w kc_0 (by decide) (by decide)), hI, hG, hE⟩
set_option maxHeartbeats 4000000 in
set_option maxRecDepth 100000 in
theorem x_4_readOrder  (l : Launch) {D : va_G} {K : Nat → ClassId} (r : Nat → Nat) (f : Nat → Int32) (a : Nat → Nat → Int32) (g : xG) (tx tt : va_W) (hT : ∀ c ∈ tt, c ∈ tx) (hI : xI f a) (hG : gOK K g.2 tt)     : kIG l yX4_readOrder (Cond.code yX4_readOrder cX4_readOrder 2 (some .boolean) :: kG) (rmD 27 0 0) D K [.ref (r 50)] (xX K r f a g tx) (fun v (u : xS) => kb 0 v 1 ∧ xI u.1 u.2.1 ∧ gOK K u.2.2.2 tt ∧ xEk [12, 14, 32, 38, 44, 49, 832, 838, 844] f a g u.1 u.2.1 u.2.2) (fun u => xX K r u.1 u.2.1 u.2.2 tx) 0 0 := by
  refine kIE.of (cc := cX4_readOrder) (maxL := 2) (ret := (some .boolean)) (by decide) rfl (Nat.le_of_ble_eq_true rfl) ?_
  intro p e s m below meth c A hx hb hr hml hown hts hlocks hnm hK hP hD hS hA hV ls hl
  have hE : xEk [12, 14, 32, 38, 44, 49, 832, 838, 844] f a g f a g := xEk_rf
  have hg : ∀ w ∈ kG, w.before _ s = true := fun w h => hts w (List.mem_cons_of_mem _ h)
  have hown : s.vm.findClass RX4 = some m.cls := hown
  have hl : lv_has ls 2 [(0, .ref (r 50))] := hl
  refine lv_aload_n hx hb dX4_readOrder_0 rfl (lv_at hl 0 rfl) ?_
  refine kIG.callW (As := []) (rest := []) ⟨hx, hb, hml, hown, hg⟩ (x_4_inHand l r f a g tx tt hT hI hG   ) (cwV 0 hg (kgV wt3_238 wt4_0 wp1_12 wt1_7 wt4_1) rfl rfl rfl (by decide +kernel) ⟨by decide, by decide⟩) hV hK hP hD hS hA (50) 4 rfl rfl rfl hl.1 rfl (Nat.le_of_ble_eq_true rfl) dX4_readOrder_1 ⟨Nat.le_refl _, Nat.le_refl _⟩ (fun v2 u3 H locs hw1 hP hD hS => ?_)
  have hP : va_P D vwCl (xX K r f a g tx) H := hP
  have hD : va_D A (xX K r f a g tx) := hD
  refine lv_sipush (v := 2018) hx hb dX4_readOrder_4 (by decide) ?_
  refine lv_isub hx hb dX4_readOrder_7 ?_
  refine lv_topi (fun t4 et4 => ?_)
  refine lv_istore_n (lv' := [(1, .int t4), (0, .ref (r 50))]) hx hb dX4_readOrder_8 rfl hl (by decide) rfl (fun ls hl => ?_)
  refine lv_iload_n hx hb dX4_readOrder_9 rfl (lv_at hl 0 rfl) ?_
  refine lv_if_lt (tgt := 29) hx hb dX4_readOrder_10 (by decide) (fun c5 => ?_) (fun c5 => ?_)
  · have h6 := (kc_lt c5)
    have b7 : kb (-2147483648) t4 (-1) := kr_lt1 h6 (kb_any t4) kc_0 (by decide)
    refine lv_iconst (v := 0) hx hb dX4_readOrder_29 (by decide) ?_
    exact kI_ret (v := 0) hx hb hr hlocks (by decide +kernel) hK hS dX4_readOrder_30 (f, a, g) hP hD ⟨(kb_w kc_0 (by decide) (by decide)), hI, hG, hE⟩
  · have h8 := (kc_nlt c5)
    have b9 : kb 0 t4 2147483647 := kr_le2 h8 kc_0 (kb_any t4)
    refine lv_iload_n hx hb dX4_readOrder_13 rfl (lv_at hl 0 rfl) ?_
    refine lv_iconst (v := 4) hx hb dX4_readOrder_14 (by decide) ?_
    refine lv_icmp_ge (tgt := 29) hx hb dX4_readOrder_15 (by decide) (fun c10 => ?_) (fun c10 => ?_)
    · have h11 := (kc_le c10)
      have b12 : kb 4 t4 2147483647 := kr_le2 h11 kc_4 b9
      refine lv_iconst (v := 0) hx hb dX4_readOrder_29 (by decide) ?_
      exact kI_ret (v := 0) hx hb hr hlocks (by decide +kernel) hK hS dX4_readOrder_30 (f, a, g) hP hD ⟨(kb_w kc_0 (by decide) (by decide)), hI, hG, hE⟩
    · have h13 := (kc_nle c10)
      have b14 : kb 0 t4 3 := kr_lt1 h13 b9 kc_4 (by decide)
      refine lv_aload_n hx hb dX4_readOrder_18 rfl (lv_at hl 1 rfl) ?_
      refine va_get (D := D) (ci := 4) (v := .ref (r 51)) (C := RX4) (T := TX4) (N := 7) hx hb hg inC4 hown hK hP 50 rfl rfl 0 (by decide) (hg _ wt2_64) (fun _ h9 => h9) rfl dX4_readOrder_19 ?_
      refine lv_iload_n hx hb dX4_readOrder_22 rfl (lv_at hl 0 rfl) ?_
      refine kIG.callW (As := [.int t4]) (rest := []) ⟨hx, hb, hml, hown, hg⟩ (x_10_open l r f a g tx tt hT hI hG t4  ) (cwV 1 hg (kgV wt4_2 wt4_3 wt4_4 wt1_8 wt4_5) rfl rfl rfl (by decide +kernel) ⟨by decide, by decide⟩) hV hK hP hD hS hA (51) 10 rfl rfl rfl hl.1 rfl (Nat.le_of_ble_eq_true rfl) dX4_readOrder_23 ⟨Nat.le_refl _, Nat.le_refl _⟩ (fun v16 u17 H locs hw15 hP hD hS => ?_)
      obtain ⟨f18, a19, g20⟩ := u17
      have hP : va_P D vwCl (xX K r f18 a19 g20 tx) H := hP
      have hD : va_D A (xX K r f18 a19 g20 tx) := hD
      have hI : xI f18 a19 := hw15.2.1
      have hG : gOK K g20.2 tt := hw15.2.2.1
      have eE21 : xEk [12, 14, 32, 38, 44, 49, 832, 838, 844] f a g f18 a19 g20 := hw15.2.2.2
      have hE : xEk [12, 14, 32, 38, 44, 49, 832, 838, 844] f a g f18 a19 g20 := xEk_tr hE eE21
      refine lv_if_ne (tgt := 31) hx hb dX4_readOrder_26 (by decide) (fun c22 => ?_) (fun c22 => ?_)
      · have b23 : kb 1 v16 1 := kr_nel c22 hw15.1 kc_0 (by decide)
        refine lv_aload_n hx hb dX4_readOrder_31 rfl (lv_at hl 1 rfl) ?_
        refine lv_dup hx hb dX4_readOrder_32 rfl ?_
        refine va_get (D := D) (ci := 4) (v := .int (f18 1604)) (C := RX4) (T := TX4) (N := 7) hx hb hg inC4 hown hK hP 50 rfl rfl 4 (by decide) (hg _ wt2_69) (fun _ h9 => h9) rfl dX4_readOrder_33 ?_
        refine lv_topi (fun t24 et24 => ?_)
        refine lv_iconst (v := 1) hx hb dX4_readOrder_36 (by decide) ?_
        refine lv_iadd hx hb dX4_readOrder_37 ?_
        refine lv_topi (fun t25 et25 => ?_)
        refine va_put (D := D) (ci := 4) (v := .int t25) (ty := .int) (C := RX4) (T := TX4) (N := 7) hx hb hg inC4 tyX4 tyX4_ok nmX4 hown hK hP hD hS 50 rfl rfl 4 (by decide) (hg _ wt2_69) (fun _ h9 => h9) rfl (by decide +kernel) rfl rfl (Nat.le_of_ble_eq_true rfl) dX4_readOrder_38 (fun H locs hP hD hS => ?_)
        have hP : va_P D vwCl (xX K r (upd f18 1604 t25) a19 g20 tx) H := hP
        have hD : va_D A (xX K r (upd f18 1604 t25) a19 g20 tx) := hD
        refine k_gen (P := fun z => va_P D vwCl (xX K r z a19 g20 tx) H ∧ va_D A (xX K r z a19 g20 tx) ∧ (xI z a19) ∧ (gOK K g20.2 tt) ∧ (xEk [12, 14, 32, 38, 44, 49, 832, 838, 844] f a g z a19 g20)) (upd f18 1604 t25) ⟨hP, hD, (xI_f hI (fI_st hI.1 1604 (kb_any _) (by decide) (by decide))), hG, (xEk_f hE (by decide))⟩ (fun f_26 ef_26 hq => ?_)
        obtain ⟨hP, hD, hI, hG, hE⟩ := hq
        refine lv_iload_n hx hb dX4_readOrder_41 rfl (lv_at hl 0 rfl) ?_
        refine lv_iconst (v := 3) hx hb dX4_readOrder_42 (by decide) ?_
        refine lv_icmp_eq (tgt := 56) hx hb dX4_readOrder_43 (by decide) (fun c27 => ?_) (fun c27 => ?_)
        · have b28 : kb 3 t4 3 := kb_eq c27 kc_3
          refine lv_aload_n hx hb dX4_readOrder_56 rfl (lv_at hl 1 rfl) ?_
          refine va_get (D := D) (ci := 4) (v := .ref (r 51)) (C := RX4) (T := TX4) (N := 7) hx hb hg inC4 hown hK hP 50 rfl rfl 0 (by decide) (hg _ wt2_64) (fun _ h9 => h9) rfl dX4_readOrder_57 ?_
          refine lv_iconst (v := 0) hx hb dX4_readOrder_60 (by decide) ?_
          refine kVG.callW (As := [.int 0]) (rest := []) ⟨hx, hb, hml, hown, hg⟩ (x_10_close l r f_26 a19 g20 tx tt hT hI hG 0 (kb_w kc_0 (by decide) (by decide)) ) (cwV 1 hg (kgV wt4_30 wt4_31 wt4_32 wt1_8 wt4_33) rfl rfl rfl (by decide +kernel) ⟨by decide, by decide⟩) hV hK hP hD hS hA (51) 10 rfl rfl rfl hl.1 rfl (Nat.le_of_ble_eq_true rfl) dX4_readOrder_61 ⟨Nat.le_refl _, Nat.le_refl _⟩ (fun u31 H locs hw29 hP hD hS => ?_)
          obtain ⟨f32, a33, g34⟩ := u31
          have hP : va_P D vwCl (xX K r f32 a33 g34 tx) H := hP
          have hD : va_D A (xX K r f32 a33 g34 tx) := hD
          have hI : xI f32 a33 := hw29.1
          have hG : gOK K g34.2 tt := hw29.2.1
          have eE35 : xEk [12, 14, 32, 38, 44, 49, 832, 838, 844] f_26 a19 g20 f32 a33 g34 := hw29.2.2
          have hE : xEk [12, 14, 32, 38, 44, 49, 832, 838, 844] f a g f32 a33 g34 := xEk_tr hE eE35
          refine lv_iload_n hx hb dX4_readOrder_64 rfl (lv_at hl 0 rfl) ?_
          refine lv_if_ne (tgt := 100) hx hb dX4_readOrder_65 (by decide) (fun c36 => ?_) (fun c36 => ?_)
          · refine lv_aload_n hx hb dX4_readOrder_100 rfl (lv_at hl 1 rfl) ?_
            refine va_get (D := D) (ci := 4) (v := .ref (r 51)) (C := RX4) (T := TX4) (N := 7) hx hb hg inC4 hown hK hP 50 rfl rfl 0 (by decide) (hg _ wt2_64) (fun _ h9 => h9) rfl dX4_readOrder_101 ?_
            refine lv_iconst (v := 1) hx hb dX4_readOrder_104 (by decide) ?_
            refine kVG.callW (As := [.int 1]) (rest := []) ⟨hx, hb, hml, hown, hg⟩ (x_10_close l r f32 a33 g34 tx tt hT hI hG 1 (kb_w kc_1 (by decide) (by decide)) ) (cwV 1 hg (kgV wt4_30 wt4_31 wt4_32 wt1_8 wt4_33) rfl rfl rfl (by decide +kernel) ⟨by decide, by decide⟩) hV hK hP hD hS hA (51) 10 rfl rfl rfl hl.1 rfl (Nat.le_of_ble_eq_true rfl) dX4_readOrder_105 ⟨Nat.le_refl _, Nat.le_refl _⟩ (fun u39 H locs hw37 hP hD hS => ?_)
            obtain ⟨f40, a41, g42⟩ := u39
            have hP : va_P D vwCl (xX K r f40 a41 g42 tx) H := hP
            have hD : va_D A (xX K r f40 a41 g42 tx) := hD
            have hI : xI f40 a41 := hw37.1
            have hG : gOK K g42.2 tt := hw37.2.1
            have eE43 : xEk [12, 14, 32, 38, 44, 49, 832, 838, 844] f32 a33 g34 f40 a41 g42 := hw37.2.2
            have hE : xEk [12, 14, 32, 38, 44, 49, 832, 838, 844] f a g f40 a41 g42 := xEk_tr hE eE43
            refine lv_aload_n hx hb dX4_readOrder_108 rfl (lv_at hl 1 rfl) ?_
            refine kIG.callW (As := []) (rest := []) ⟨hx, hb, hml, hown, hg⟩ (x_4_readTimes l r f40 a41 g42 tx tt hT hI hG   ) (cwV 0 hg (kgV wt4_34 wt4_36 wp2_2 wt1_7 wt4_37) rfl rfl rfl (by decide +kernel) ⟨by decide, by decide⟩) hV hK hP hD hS hA (50) 4 rfl rfl rfl hl.1 rfl (Nat.le_of_ble_eq_true rfl) dX4_readOrder_109 ⟨Nat.le_refl _, Nat.le_refl _⟩ (fun v45 u46 H locs hw44 hP hD hS => ?_)
            obtain ⟨f47, a48, g49⟩ := u46
            have hP : va_P D vwCl (xX K r f47 a48 g49 tx) H := hP
            have hD : va_D A (xX K r f47 a48 g49 tx) := hD
            have hI : xI f47 a48 := hw44.2.1
            have hG : gOK K g49.2 tt := hw44.2.2.1
            have eE50 : xEk [12, 14, 32, 38, 44, 49, 832, 838, 844] f40 a41 g42 f47 a48 g49 := hw44.2.2.2
            have hE : xEk [12, 14, 32, 38, 44, 49, 832, 838, 844] f a g f47 a48 g49 := xEk_tr hE eE50
            exact kI_ret (v := v45) hx hb hr hlocks (kb_bo hw44.1) hK hS dX4_readOrder_112 (f47, a48, g49) hP hD ⟨hw44.1, hI, hG, hE⟩
          · exact kb_dj c36 b28 kc_0 (by decide)
        · have b51 : kb 0 t4 2 := kr_neh c27 b14 kc_3 (by decide)
          refine lv_aload_n hx hb dX4_readOrder_46 rfl (lv_at hl 1 rfl) ?_
          refine lv_iconst (v := 0) hx hb dX4_readOrder_47 (by decide) ?_
          refine kIG.callW (As := [.int 0]) (rest := []) ⟨hx, hb, hml, hown, hg⟩ ((x_allSum 8) l r f_26 a19 g20 tx tt hT hI hG 0 (kb_w kc_0 (by decide) (by decide)) (by decide +kernel)) (cwV 1 hg (kgV wt4_6 wt4_8 wp1_13 wt1_7 wt4_9) rfl rfl rfl (by decide +kernel) ⟨by decide, by decide⟩) hV hK hP hD hS hA (50) 4 rfl rfl rfl hl.1 rfl (Nat.le_of_ble_eq_true rfl) dX4_readOrder_48 ⟨Nat.le_refl _, Nat.le_refl _⟩ (fun v53 u54 H locs hw52 hP hD hS => ?_)
          obtain ⟨f55, a56, g57⟩ := u54
          have hP : va_P D vwCl (xX K r f55 a56 g57 tx) H := hP
          have hD : va_D A (xX K r f55 a56 g57 tx) := hD
          have hI : xI f55 a56 := hw52.2.1
          have hG : gOK K g57.2 tt := hw52.2.2.1
          have eE58 : xEk [12, 14, 32, 38, 44, 49, 832, 838, 844] f_26 a19 g20 f55 a56 g57 := hw52.2.2.2
          have hE : xEk [12, 14, 32, 38, 44, 49, 832, 838, 844] f a g f55 a56 g57 := xEk_tr hE eE58
          refine lv_if_ne (tgt := 56) hx hb dX4_readOrder_51 (by decide) (fun c59 => ?_) (fun c59 => ?_)
          · have b60 : kb 1 v53 1 := kr_nel c59 hw52.1 kc_0 (by decide)
            refine lv_aload_n hx hb dX4_readOrder_56 rfl (lv_at hl 1 rfl) ?_
            refine va_get (D := D) (ci := 4) (v := .ref (r 51)) (C := RX4) (T := TX4) (N := 7) hx hb hg inC4 hown hK hP 50 rfl rfl 0 (by decide) (hg _ wt2_64) (fun _ h9 => h9) rfl dX4_readOrder_57 ?_
            refine lv_iconst (v := 0) hx hb dX4_readOrder_60 (by decide) ?_
            refine kVG.callW (As := [.int 0]) (rest := []) ⟨hx, hb, hml, hown, hg⟩ (x_10_close l r f55 a56 g57 tx tt hT hI hG 0 (kb_w kc_0 (by decide) (by decide)) ) (cwV 1 hg (kgV wt4_30 wt4_31 wt4_32 wt1_8 wt4_33) rfl rfl rfl (by decide +kernel) ⟨by decide, by decide⟩) hV hK hP hD hS hA (51) 10 rfl rfl rfl hl.1 rfl (Nat.le_of_ble_eq_true rfl) dX4_readOrder_61 ⟨Nat.le_refl _, Nat.le_refl _⟩ (fun u63 H locs hw61 hP hD hS => ?_)
            obtain ⟨f64, a65, g66⟩ := u63
            have hP : va_P D vwCl (xX K r f64 a65 g66 tx) H := hP
            have hD : va_D A (xX K r f64 a65 g66 tx) := hD
            have hI : xI f64 a65 := hw61.1
            have hG : gOK K g66.2 tt := hw61.2.1
            have eE67 : xEk [12, 14, 32, 38, 44, 49, 832, 838, 844] f55 a56 g57 f64 a65 g66 := hw61.2.2
            have hE : xEk [12, 14, 32, 38, 44, 49, 832, 838, 844] f a g f64 a65 g66 := xEk_tr hE eE67
            refine lv_iload_n hx hb dX4_readOrder_64 rfl (lv_at hl 0 rfl) ?_
            refine lv_if_ne (tgt := 100) hx hb dX4_readOrder_65 (by decide) (fun c68 => ?_) (fun c68 => ?_)
            · have b69 : kb 1 t4 2 := kr_nel c68 b51 kc_0 (by decide)
              refine lv_aload_n hx hb dX4_readOrder_100 rfl (lv_at hl 1 rfl) ?_
              refine va_get (D := D) (ci := 4) (v := .ref (r 51)) (C := RX4) (T := TX4) (N := 7) hx hb hg inC4 hown hK hP 50 rfl rfl 0 (by decide) (hg _ wt2_64) (fun _ h9 => h9) rfl dX4_readOrder_101 ?_
              refine lv_iconst (v := 1) hx hb dX4_readOrder_104 (by decide) ?_
              refine kVG.callW (As := [.int 1]) (rest := []) ⟨hx, hb, hml, hown, hg⟩ (x_10_close l r f64 a65 g66 tx tt hT hI hG 1 (kb_w kc_1 (by decide) (by decide)) ) (cwV 1 hg (kgV wt4_30 wt4_31 wt4_32 wt1_8 wt4_33) rfl rfl rfl (by decide +kernel) ⟨by decide, by decide⟩) hV hK hP hD hS hA (51) 10 rfl rfl rfl hl.1 rfl (Nat.le_of_ble_eq_true rfl) dX4_readOrder_105 ⟨Nat.le_refl _, Nat.le_refl _⟩ (fun u72 H locs hw70 hP hD hS => ?_)
              obtain ⟨f73, a74, g75⟩ := u72
              have hP : va_P D vwCl (xX K r f73 a74 g75 tx) H := hP
              have hD : va_D A (xX K r f73 a74 g75 tx) := hD
              have hI : xI f73 a74 := hw70.1
              have hG : gOK K g75.2 tt := hw70.2.1
              have eE76 : xEk [12, 14, 32, 38, 44, 49, 832, 838, 844] f64 a65 g66 f73 a74 g75 := hw70.2.2
              have hE : xEk [12, 14, 32, 38, 44, 49, 832, 838, 844] f a g f73 a74 g75 := xEk_tr hE eE76
              refine lv_aload_n hx hb dX4_readOrder_108 rfl (lv_at hl 1 rfl) ?_
              refine kIG.callW (As := []) (rest := []) ⟨hx, hb, hml, hown, hg⟩ (x_4_readTimes l r f73 a74 g75 tx tt hT hI hG   ) (cwV 0 hg (kgV wt4_34 wt4_36 wp2_2 wt1_7 wt4_37) rfl rfl rfl (by decide +kernel) ⟨by decide, by decide⟩) hV hK hP hD hS hA (50) 4 rfl rfl rfl hl.1 rfl (Nat.le_of_ble_eq_true rfl) dX4_readOrder_109 ⟨Nat.le_refl _, Nat.le_refl _⟩ (fun v78 u79 H locs hw77 hP hD hS => ?_)
              obtain ⟨f80, a81, g82⟩ := u79
              have hP : va_P D vwCl (xX K r f80 a81 g82 tx) H := hP
              have hD : va_D A (xX K r f80 a81 g82 tx) := hD
              have hI : xI f80 a81 := hw77.2.1
              have hG : gOK K g82.2 tt := hw77.2.2.1
              have eE83 : xEk [12, 14, 32, 38, 44, 49, 832, 838, 844] f73 a74 g75 f80 a81 g82 := hw77.2.2.2
              have hE : xEk [12, 14, 32, 38, 44, 49, 832, 838, 844] f a g f80 a81 g82 := xEk_tr hE eE83
              exact kI_ret (v := v78) hx hb hr hlocks (kb_bo hw77.1) hK hS dX4_readOrder_112 (f80, a81, g82) hP hD ⟨hw77.1, hI, hG, hE⟩
            · have b84 : kb 0 t4 0 := kb_eq c68 kc_0
              refine lv_aload_n hx hb dX4_readOrder_68 rfl (lv_at hl 1 rfl) ?_
              refine kIG.callW (As := []) (rest := []) ⟨hx, hb, hml, hown, hg⟩ (x_4_inHand l r f64 a65 g66 tx tt hT hI hG   ) (cwV 0 hg (kgV wt3_238 wt4_0 wp1_12 wt1_7 wt4_1) rfl rfl rfl (by decide +kernel) ⟨by decide, by decide⟩) hV hK hP hD hS hA (50) 4 rfl rfl rfl hl.1 rfl (Nat.le_of_ble_eq_true rfl) dX4_readOrder_69 ⟨Nat.le_refl _, Nat.le_refl _⟩ (fun v86 u87 H locs hw85 hP hD hS => ?_)
              have hP : va_P D vwCl (xX K r f64 a65 g66 tx) H := hP
              have hD : va_D A (xX K r f64 a65 g66 tx) := hD
              refine lv_sipush (v := 2022) hx hb dX4_readOrder_72 (by decide) ?_
              refine lv_icmp_eq (tgt := 80) hx hb dX4_readOrder_75 (by decide) (fun c88 => ?_) (fun c88 => ?_)
              · have b89 : kb 2022 v86 2022 := kb_eq c88 kc_2022
                refine lv_aload_n hx hb dX4_readOrder_80 rfl (lv_at hl 1 rfl) ?_
                refine lv_dup hx hb dX4_readOrder_81 rfl ?_
                refine va_get (D := D) (ci := 4) (v := .int (f64 1604)) (C := RX4) (T := TX4) (N := 7) hx hb hg inC4 hown hK hP 50 rfl rfl 4 (by decide) (hg _ wt2_69) (fun _ h9 => h9) rfl dX4_readOrder_82 ?_
                refine lv_topi (fun t90 et90 => ?_)
                refine lv_iconst (v := 1) hx hb dX4_readOrder_85 (by decide) ?_
                refine lv_iadd hx hb dX4_readOrder_86 ?_
                refine lv_topi (fun t91 et91 => ?_)
                refine va_put (D := D) (ci := 4) (v := .int t91) (ty := .int) (C := RX4) (T := TX4) (N := 7) hx hb hg inC4 tyX4 tyX4_ok nmX4 hown hK hP hD hS 50 rfl rfl 4 (by decide) (hg _ wt2_69) (fun _ h9 => h9) rfl (by decide +kernel) rfl rfl (Nat.le_of_ble_eq_true rfl) dX4_readOrder_87 (fun H locs hP hD hS => ?_)
                have hP : va_P D vwCl (xX K r (upd f64 1604 t91) a65 g66 tx) H := hP
                have hD : va_D A (xX K r (upd f64 1604 t91) a65 g66 tx) := hD
                refine k_gen (P := fun z => va_P D vwCl (xX K r z a65 g66 tx) H ∧ va_D A (xX K r z a65 g66 tx) ∧ (xI z a65) ∧ (gOK K g66.2 tt) ∧ (xEk [12, 14, 32, 38, 44, 49, 832, 838, 844] f a g z a65 g66)) (upd f64 1604 t91) ⟨hP, hD, (xI_f hI (fI_st hI.1 1604 (kb_any _) (by decide) (by decide))), hG, (xEk_f hE (by decide))⟩ (fun f_92 ef_92 hq => ?_)
                obtain ⟨hP, hD, hI, hG, hE⟩ := hq
                refine lv_aload_n hx hb dX4_readOrder_90 rfl (lv_at hl 1 rfl) ?_
                refine lv_iconst (v := 0) hx hb dX4_readOrder_91 (by decide) ?_
                refine kIG.callW (As := [.int 0]) (rest := []) ⟨hx, hb, hml, hown, hg⟩ ((x_allSum 8) l r f_92 a65 g66 tx tt hT hI hG 0 (kb_w kc_0 (by decide) (by decide)) (by decide +kernel)) (cwV 1 hg (kgV wt4_6 wt4_8 wp1_13 wt1_7 wt4_9) rfl rfl rfl (by decide +kernel) ⟨by decide, by decide⟩) hV hK hP hD hS hA (50) 4 rfl rfl rfl hl.1 rfl (Nat.le_of_ble_eq_true rfl) dX4_readOrder_92 ⟨Nat.le_refl _, Nat.le_refl _⟩ (fun v94 u95 H locs hw93 hP hD hS => ?_)
                obtain ⟨f96, a97, g98⟩ := u95
                have hP : va_P D vwCl (xX K r f96 a97 g98 tx) H := hP
                have hD : va_D A (xX K r f96 a97 g98 tx) := hD
                have hI : xI f96 a97 := hw93.2.1
                have hG : gOK K g98.2 tt := hw93.2.2.1
                have eE99 : xEk [12, 14, 32, 38, 44, 49, 832, 838, 844] f_92 a65 g66 f96 a97 g98 := hw93.2.2.2
                have hE : xEk [12, 14, 32, 38, 44, 49, 832, 838, 844] f a g f96 a97 g98 := xEk_tr hE eE99
                refine lv_if_ne (tgt := 100) hx hb dX4_readOrder_95 (by decide) (fun c100 => ?_) (fun c100 => ?_)
                · have b101 : kb 1 v94 1 := kr_nel c100 hw93.1 kc_0 (by decide)
                  refine lv_aload_n hx hb dX4_readOrder_100 rfl (lv_at hl 1 rfl) ?_
                  refine va_get (D := D) (ci := 4) (v := .ref (r 51)) (C := RX4) (T := TX4) (N := 7) hx hb hg inC4 hown hK hP 50 rfl rfl 0 (by decide) (hg _ wt2_64) (fun _ h9 => h9) rfl dX4_readOrder_101 ?_
                  refine lv_iconst (v := 1) hx hb dX4_readOrder_104 (by decide) ?_
                  refine kVG.callW (As := [.int 1]) (rest := []) ⟨hx, hb, hml, hown, hg⟩ (x_10_close l r f96 a97 g98 tx tt hT hI hG 1 (kb_w kc_1 (by decide) (by decide)) ) (cwV 1 hg (kgV wt4_30 wt4_31 wt4_32 wt1_8 wt4_33) rfl rfl rfl (by decide +kernel) ⟨by decide, by decide⟩) hV hK hP hD hS hA (51) 10 rfl rfl rfl hl.1 rfl (Nat.le_of_ble_eq_true rfl) dX4_readOrder_105 ⟨Nat.le_refl _, Nat.le_refl _⟩ (fun u104 H locs hw102 hP hD hS => ?_)
                  obtain ⟨f105, a106, g107⟩ := u104
                  have hP : va_P D vwCl (xX K r f105 a106 g107 tx) H := hP
                  have hD : va_D A (xX K r f105 a106 g107 tx) := hD
                  have hI : xI f105 a106 := hw102.1
                  have hG : gOK K g107.2 tt := hw102.2.1
                  have eE108 : xEk [12, 14, 32, 38, 44, 49, 832, 838, 844] f96 a97 g98 f105 a106 g107 := hw102.2.2
                  have hE : xEk [12, 14, 32, 38, 44, 49, 832, 838, 844] f a g f105 a106 g107 := xEk_tr hE eE108
                  refine lv_aload_n hx hb dX4_readOrder_108 rfl (lv_at hl 1 rfl) ?_
                  refine kIG.callW (As := []) (rest := []) ⟨hx, hb, hml, hown, hg⟩ (x_4_readTimes l r f105 a106 g107 tx tt hT hI hG   ) (cwV 0 hg (kgV wt4_34 wt4_36 wp2_2 wt1_7 wt4_37) rfl rfl rfl (by decide +kernel) ⟨by decide, by decide⟩) hV hK hP hD hS hA (50) 4 rfl rfl rfl hl.1 rfl (Nat.le_of_ble_eq_true rfl) dX4_readOrder_109 ⟨Nat.le_refl _, Nat.le_refl _⟩ (fun v110 u111 H locs hw109 hP hD hS => ?_)
                  obtain ⟨f112, a113, g114⟩ := u111
                  have hP : va_P D vwCl (xX K r f112 a113 g114 tx) H := hP
                  have hD : va_D A (xX K r f112 a113 g114 tx) := hD
                  have hI : xI f112 a113 := hw109.2.1
                  have hG : gOK K g114.2 tt := hw109.2.2.1
                  have eE115 : xEk [12, 14, 32, 38, 44, 49, 832, 838, 844] f105 a106 g107 f112 a113 g114 := hw109.2.2.2
                  have hE : xEk [12, 14, 32, 38, 44, 49, 832, 838, 844] f a g f112 a113 g114 := xEk_tr hE eE115
                  exact kI_ret (v := v110) hx hb hr hlocks (kb_bo hw109.1) hK hS dX4_readOrder_112 (f112, a113, g114) hP hD ⟨hw109.1, hI, hG, hE⟩
                · have b116 : kb 0 v94 0 := kb_eq c100 kc_0
                  refine lv_iconst (v := 0) hx hb dX4_readOrder_98 (by decide) ?_
                  exact kI_ret (v := 0) hx hb hr hlocks (by decide +kernel) hK hS dX4_readOrder_99 (f96, a97, g98) hP hD ⟨(kb_w kc_0 (by decide) (by decide)), hI, hG, hE⟩
              · refine lv_iconst (v := 0) hx hb dX4_readOrder_78 (by decide) ?_
                exact kI_ret (v := 0) hx hb hr hlocks (by decide +kernel) hK hS dX4_readOrder_79 (f64, a65, g66) hP hD ⟨(kb_w kc_0 (by decide) (by decide)), hI, hG, hE⟩
          · have b117 : kb 0 v53 0 := kb_eq c59 kc_0
            refine lv_iconst (v := 0) hx hb dX4_readOrder_54 (by decide) ?_
            exact kI_ret (v := 0) hx hb hr hlocks (by decide +kernel) hK hS dX4_readOrder_55 (f55, a56, g57) hP hD ⟨(kb_w kc_0 (by decide) (by decide)), hI, hG, hE⟩
      · have b118 : kb 0 v16 0 := kb_eq c22 kc_0
        refine lv_iconst (v := 0) hx hb dX4_readOrder_29 (by decide) ?_
        exact kI_ret (v := 0) hx hb hr hlocks (by decide +kernel) hK hS dX4_readOrder_30 (f18, a19, g20) hP hD ⟨(kb_w kc_0 (by decide) (by decide)), hI, hG, hE⟩
