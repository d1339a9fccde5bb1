theorem dX2_restoreLatest_84 : decode cX2_restoreLatest 84 = .ok (.getfield 36, 3) := by decide +kernel
theorem dX2_restoreLatest_87 : decode cX2_restoreLatest 87 = .ok (.iconst 0, 1) := by decide +kernel
theorem dX2_restoreLatest_88 : decode cX2_restoreLatest 88 = .ok (.bipush 6, 2) := by decide +kernel
theorem dX2_restoreLatest_90 : decode cX2_restoreLatest 90 = .ok (.invokestatic 22, 3) := by decide +kernel
theorem dX2_restoreLatest_93 : decode cX2_restoreLatest 93 = .ok (.aload_n 0, 1) := by decide +kernel
theorem dX2_restoreLatest_94 : decode cX2_restoreLatest 94 = .ok (.getfield 18, 3) := by decide +kernel
theorem dX2_restoreLatest_97 : decode cX2_restoreLatest 97 = .ok (.iload_n 2, 1) := by decide +kernel
theorem dX2_restoreLatest_98 : decode cX2_restoreLatest 98 = .ok (.bipush 18, 2) := by decide +kernel
theorem dX2_restoreLatest_100 : decode cX2_restoreLatest 100 = .ok (.iadd, 1) := by decide +kernel
theorem dX2_restoreLatest_101 : decode cX2_restoreLatest 101 = .ok (.aload_n 1, 1) := by decide +kernel
theorem dX2_restoreLatest_102 : decode cX2_restoreLatest 102 = .ok (.getfield 39, 3) := by decide +kernel
theorem dX2_restoreLatest_105 : decode cX2_restoreLatest 105 = .ok (.iconst 0, 1) := by decide +kernel
theorem dX2_restoreLatest_106 : decode cX2_restoreLatest 106 = .ok (.bipush 6, 2) := by decide +kernel
theorem dX2_restoreLatest_108 : decode cX2_restoreLatest 108 = .ok (.invokestatic 22, 3) := by decide +kernel
theorem dX2_restoreLatest_111 : decode cX2_restoreLatest 111 = .ok (.aload_n 0, 1) := by decide +kernel
theorem dX2_restoreLatest_112 : decode cX2_restoreLatest 112 = .ok (.getfield 18, 3) := by decide +kernel
theorem dX2_restoreLatest_115 : decode cX2_restoreLatest 115 = .ok (.iload_n 2, 1) := by decide +kernel
theorem dX2_restoreLatest_116 : decode cX2_restoreLatest 116 = .ok (.iaload, 1) := by decide +kernel
theorem dX2_restoreLatest_117 : decode cX2_restoreLatest 117 = .ok (.ireturn, 1) := by decide +kernel
set_option maxRecDepth 20000 in
theorem ggX3_init_X7_init : GoodIn wsX3_init wsX7_init := goodIn_r _ [12, 13, 2, 3, 14, 15, 16, 17, 18, 19, 20, 21, 22, 23, 24, 25, 26, 27, 28, 29, 30, 31, 32, 33, 34, 35, 36, 37, 38, 39, 40, 41, 42, 43, 44, 45, 46, 47, 48, 49, 50, 51, 52, 53, 54, 55, 56, 57, 58, 59, 60, 61, 62, 63, 64, 65, 66, 67, 68, 69, 70, 71, 72, 73, 78, 79, 80, 81, 82] (by decide +kernel) (by decide +kernel)
set_option maxRecDepth 20000 in
theorem gX3_init_X7_init_n11 : GoodIn wsX3_init (wsX7_init) := ggX3_init_X7_init
theorem dX3_init_0 : decode cX3_init 0 = .ok (.aload_n 0, 1) := by decide +kernel
theorem dX3_init_1 : decode cX3_init 1 = .ok (.invokespecial 3, 3) := by decide +kernel
theorem dX3_init_4 : decode cX3_init 4 = .ok (.aload_n 0, 1) := by decide +kernel
theorem dX3_init_5 : decode cX3_init 5 = .ok (.new 9, 3) := by decide +kernel
theorem dX3_init_8 : decode cX3_init 8 = .ok (.dup, 1) := by decide +kernel
theorem dX3_init_9 : decode cX3_init 9 = .ok (.invokespecial 11, 3) := by decide +kernel
theorem dX3_init_12 : decode cX3_init 12 = .ok (.putfield 12, 3) := by decide +kernel
theorem dX3_init_15 : decode cX3_init 15 = .ok (.aload_n 0, 1) := by decide +kernel
theorem dX3_init_16 : decode cX3_init 16 = .ok (.iconst (-1), 1) := by decide +kernel
theorem dX3_init_17 : decode cX3_init 17 = .ok (.putfield 18, 3) := by decide +kernel
theorem dX3_init_20 : decode cX3_init 20 = .ok (.aload_n 0, 1) := by decide +kernel
theorem dX3_init_21 : decode cX3_init 21 = .ok (.iconst 0, 1) := by decide +kernel
theorem dX3_init_22 : decode cX3_init 22 = .ok (.putfield 22, 3) := by decide +kernel
theorem dX3_init_25 : decode cX3_init 25 = .ok (.aload_n 0, 1) := by decide +kernel
theorem dX3_init_26 : decode cX3_init 26 = .ok (.aload_n 1, 1) := by decide +kernel
theorem dX3_init_27 : decode cX3_init 27 = .ok (.putfield 25, 3) := by decide +kernel
theorem dX3_init_30 : decode cX3_init 30 = .ok (.return_, 1) := by decide +kernel
theorem dX3_teach_0 : decode cX3_teach 0 = .ok (.aload_n 0, 1) := by decide +kernel
theorem dX3_teach_1 : decode cX3_teach 1 = .ok (.iload_n 1, 1) := by decide +kernel
theorem dX3_teach_2 : decode cX3_teach 2 = .ok (.putfield 18, 3) := by decide +kernel
theorem dX3_teach_5 : decode cX3_teach 5 = .ok (.aload_n 0, 1) := by decide +kernel
theorem dX3_teach_6 : decode cX3_teach 6 = .ok (.iconst 1, 1) := by decide +kernel
theorem dX3_teach_7 : decode cX3_teach 7 = .ok (.iload_n 2, 1) := by decide +kernel
theorem dX3_teach_8 : decode cX3_teach 8 = .ok (.ishl, 1) := by decide +kernel
theorem dX3_teach_9 : decode cX3_teach 9 = .ok (.putfield 22, 3) := by decide +kernel
theorem dX3_teach_12 : decode cX3_teach 12 = .ok (.return_, 1) := by decide +kernel
set_option maxRecDepth 20000 in
theorem ggX3_begin_X7_copyFrom : GoodIn wsX3_begin wsX7_copyFrom := goodIn_r _ [11, 12, 13, 14, 15, 16, 17, 18, 19, 20, 21, 22, 23, 24, 25, 26, 27, 28, 29, 30, 31, 32, 33, 34, 47, 48, 49, 50, 51, 52, 53, 54, 55, 56, 57, 58, 59, 60, 61, 62, 63, 64, 65, 66] (by decide +kernel) (by decide +kernel)
set_option maxRecDepth 20000 in
theorem gX3_begin_X7_copyFrom : GoodIn wsX3_begin (wsV RX3 28 RX7 yX7_copyFrom wsX7_copyFrom) := goodIn_app (goodIn_of _ (by decide +kernel)) ggX3_begin_X7_copyFrom
set_option maxRecDepth 20000 in
theorem ggX3_begin_J7_fill_53178 : GoodIn wsX3_begin wsJ7_fill_53178 := goodIn_r _ [38] (by decide +kernel) (by decide +kernel)
set_option maxRecDepth 20000 in
theorem gX3_begin_J7_fill_53178 : GoodIn wsX3_begin (va_wsS RX3 36 yJ7_fill_53178 wsJ7_fill_53178) := goodIn_app (goodIn_of _ (by decide +kernel)) ggX3_begin_J7_fill_53178
set_option maxRecDepth 20000 in
theorem ggX3_begin_X7_hasBuilder : GoodIn wsX3_begin wsX7_hasBuilder := goodIn_r _ [42, 22, 47, 48, 49, 50, 51, 52, 53, 54, 55, 56, 57, 58, 59, 60, 61, 62, 63, 64, 65, 66] (by decide +kernel) (by decide +kernel)
set_option maxRecDepth 20000 in
theorem gX3_begin_X7_hasBuilder : GoodIn wsX3_begin (wsV RX3 42 RX7 yX7_hasBuilder wsX7_hasBuilder) := goodIn_app (goodIn_of _ (by decide +kernel)) ggX3_begin_X7_hasBuilder
theorem dX3_begin_0 : decode cX3_begin 0 = .ok (.aload_n 0, 1) := by decide +kernel
theorem dX3_begin_1 : decode cX3_begin 1 = .ok (.getfield 12, 3) := by decide +kernel
theorem dX3_begin_4 : decode cX3_begin 4 = .ok (.aload_n 0, 1) := by decide +kernel
theorem dX3_begin_5 : decode cX3_begin 5 = .ok (.getfield 25, 3) := by decide +kernel
theorem dX3_begin_8 : decode cX3_begin 8 = .ok (.invokevirtual 28, 3) := by decide +kernel
theorem dX3_begin_11 : decode cX3_begin 11 = .ok (.aload_n 0, 1) := by decide +kernel
theorem dX3_begin_12 : decode cX3_begin 12 = .ok (.getfield 12, 3) := by decide +kernel
theorem dX3_begin_15 : decode cX3_begin 15 = .ok (.getfield 32, 3) := by decide +kernel
theorem dX3_begin_18 : decode cX3_begin 18 = .ok (.iconst (-1), 1) := by decide +kernel
theorem dX3_begin_19 : decode cX3_begin 19 = .ok (.invokestatic 36, 3) := by decide +kernel
theorem dX3_begin_22 : decode cX3_begin 22 = .ok (.aload_n 0, 1) := by decide +kernel
theorem dX3_begin_23 : decode cX3_begin 23 = .ok (.getfield 12, 3) := by decide +kernel
theorem dX3_begin_26 : decode cX3_begin 26 = .ok (.aload_n 0, 1) := by decide +kernel
theorem dX3_begin_27 : decode cX3_begin 27 = .ok (.getfield 18, 3) := by decide +kernel
theorem dX3_begin_30 : decode cX3_begin 30 = .ok (.invokevirtual 42, 3) := by decide +kernel
theorem dX3_begin_33 : decode cX3_begin 33 = .ok (.ifCond .eq 22, 3) := by decide +kernel
theorem dX3_begin_36 : decode cX3_begin 36 = .ok (.aload_n 0, 1) := by decide +kernel
theorem dX3_begin_37 : decode cX3_begin 37 = .ok (.getfield 12, 3) := by decide +kernel
theorem dX3_begin_40 : decode cX3_begin 40 = .ok (.getfield 46, 3) := by decide +kernel
theorem dX3_begin_43 : decode cX3_begin 43 = .ok (.aload_n 0, 1) := by decide +kernel
theorem dX3_begin_44 : decode cX3_begin 44 = .ok (.getfield 18, 3) := by decide +kernel
theorem dX3_begin_47 : decode cX3_begin 47 = .ok (.dup2, 1) := by decide +kernel
theorem dX3_begin_48 : decode cX3_begin 48 = .ok (.iaload, 1) := by decide +kernel
theorem dX3_begin_49 : decode cX3_begin 49 = .ok (.aload_n 0, 1) := by decide +kernel
theorem dX3_begin_50 : decode cX3_begin 50 = .ok (.getfield 22, 3) := by decide +kernel
theorem dX3_begin_53 : decode cX3_begin 53 = .ok (.ior, 1) := by decide +kernel
theorem dX3_begin_54 : decode cX3_begin 54 = .ok (.iastore, 1) := by decide +kernel
theorem dX3_begin_55 : decode cX3_begin 55 = .ok (.return_, 1) := by decide +kernel
set_option maxRecDepth 20000 in
theorem ggX3_run_X3_begin : GoodIn wsX3_run wsX3_begin := goodIn_r _ [6, 1, 7, 8, 9, 10, 11, 12, 13, 14, 15, 16, 17, 18, 19, 20, 21, 22, 23, 24, 25, 26, 27, 28, 29, 30, 31, 32, 33, 34, 35, 36, 37, 38, 39, 40, 41, 42, 43, 44, 45, 46, 47, 151, 152, 153, 154, 155, 156, 157, 158, 159, 160, 161, 162, 163, 164, 165, 166, 167, 168, 169, 170, 171, 172, 173, 174] (by decide +kernel) (by decide +kernel)
set_option maxRecDepth 20000 in
theorem gX3_run_X3_begin : GoodIn wsX3_run (wsV RX3 49 RX3 yX3_begin wsX3_begin) := goodIn_app (goodIn_of _ (by decide +kernel)) ggX3_run_X3_begin
set_option maxRecDepth 20000 in
theorem ggX3_run_X3_noteStanding : GoodIn wsX3_run wsX3_noteStanding := goodIn_r _ [51, 1, 52, 53, 151, 152, 153, 154, 155, 156, 157, 158, 159, 160, 161, 162, 163, 164, 165, 166, 167, 168, 169, 170, 171, 172, 173, 174] (by decide +kernel) (by decide +kernel)
set_option maxRecDepth 20000 in
theorem gX3_run_X3_noteStanding : GoodIn wsX3_run (wsV RX3 52 RX3 yX3_noteStanding wsX3_noteStanding) := goodIn_app (goodIn_of _ (by decide +kernel)) ggX3_run_X3_noteStanding
set_option maxRecDepth 20000 in
theorem ggX3_run_X3_canTick : GoodIn wsX3_run wsX3_canTick := goodIn_r _ [57, 1, 58, 151, 152, 153, 154, 155, 156, 157, 158, 159, 160, 161, 162, 163, 164, 165, 166, 167, 168, 169, 170, 171, 172, 173, 174] (by decide +kernel) (by decide +kernel)
set_option maxRecDepth 20000 in
theorem gX3_run_X3_canTick : GoodIn wsX3_run (wsV RX3 56 RX3 yX3_canTick wsX3_canTick) := goodIn_app (goodIn_of _ (by decide +kernel)) ggX3_run_X3_canTick
set_option maxRecDepth 20000 in
theorem ggX3_run_X3_sendFree : GoodIn wsX3_run wsX3_sendFree := goodIn_r _ [62, 1, 63, 64, 65, 8, 52, 66, 67, 68, 15, 69, 17, 26, 23, 70, 71, 72, 73, 74, 75, 76, 77, 78, 79, 80, 81, 82, 83, 84, 85, 86, 87, 88, 89, 90, 39, 37, 91, 92, 93, 94, 95, 96, 97, 98, 99, 100, 101, 102, 45, 46, 47, 27, 103, 104, 105, 106, 107, 108, 109, 110, 29, 111, 112, 113, 114, 28, 24, 115, 116, 117, 118, 31, 30, 25, 32, 119, 120, 121, 122, 123, 124, 125, 126, 127, 128, 129, 130, 131, 151, 152, 153, 154, 155, 156, 157, 158, 159, 160, 161, 162, 163, 164, 165, 166, 167, 168, 169, 170, 171, 172, 173, 174, 175, 176, 177, 178, 179, 180, 181, 182, 183, 184, 185] (by decide +kernel) (by decide +kernel)
set_option maxRecDepth 20000 in
theorem gX3_run_X3_sendFree : GoodIn wsX3_run (wsV RX3 60 RX3 yX3_sendFree wsX3_sendFree) := goodIn_app (goodIn_of _ (by decide +kernel)) ggX3_run_X3_sendFree
set_option maxRecDepth 20000 in
theorem ggX3_run_X3_isStuck : GoodIn wsX3_run wsX3_isStuck := goodIn_r _ [135, 1, 136, 65, 8, 151, 152, 153, 154, 155, 156, 157, 158, 159, 160, 161, 162, 163, 164, 165, 166, 167, 168, 169, 170, 171, 172, 173, 174] (by decide +kernel) (by decide +kernel)
set_option maxRecDepth 20000 in
theorem gX3_run_X3_isStuck : GoodIn wsX3_run (wsV RX3 64 RX3 yX3_isStuck wsX3_isStuck) := goodIn_app (goodIn_of _ (by decide +kernel)) ggX3_run_X3_isStuck
set_option maxRecDepth 20000 in
theorem ggX3_run_X7_workOneTick : GoodIn wsX3_run wsX7_workOneTick := goodIn_r _ [140, 27, 31, 82, 141, 142, 26, 84, 85, 80, 86, 30, 78, 79, 81, 32, 103, 104, 105, 15, 106, 17, 143, 88, 89, 90, 39, 37, 91, 92, 93, 94, 95, 96, 97, 98, 99, 100, 101, 102, 45, 46, 47, 107, 108, 109, 110, 29, 111, 112, 113, 114, 28, 24, 115, 116, 117, 118, 25, 119, 120, 121, 122, 123, 124, 125, 126, 127, 128, 129, 130, 131, 70, 71, 72, 73, 144, 145, 146, 147, 148, 149, 150, 155, 156, 157, 158, 159, 160, 161, 162, 163, 164, 165, 166, 167, 168, 169, 170, 171, 172, 173, 174, 175, 176, 177, 178, 179, 180, 181, 182, 183, 184, 185] (by decide +kernel) (by decide +kernel)
set_option maxRecDepth 20000 in
theorem gX3_run_X7_workOneTick : GoodIn wsX3_run (wsV RX3 67 RX7 yX7_workOneTick wsX7_workOneTick) := goodIn_app (goodIn_of _ (by decide +kernel)) ggX3_run_X7_workOneTick
theorem dX3_run_0 : decode cX3_run 0 = .ok (.iload 4, 2) := by decide +kernel
theorem dX3_run_2 : decode cX3_run 2 = .ok (.ifCond .lt 13, 3) := by decide +kernel
theorem dX3_run_5 : decode cX3_run 5 = .ok (.iload 4, 2) := by decide +kernel
theorem dX3_run_7 : decode cX3_run 7 = .ok (.bipush 11, 2) := by decide +kernel
theorem dX3_run_9 : decode cX3_run 9 = .ok (.iadd, 1) := by decide +kernel
theorem dX3_run_10 : decode cX3_run 10 = .ok (.aload_n 3, 1) := by decide +kernel
theorem dX3_run_11 : decode cX3_run 11 = .ok (.arraylength, 1) := by decide +kernel
theorem dX3_run_12 : decode cX3_run 12 = .ok (.if_icmp .le 5, 3) := by decide +kernel
theorem dX3_run_15 : decode cX3_run 15 = .ok (.iconst (-1), 1) := by decide +kernel
theorem dX3_run_16 : decode cX3_run 16 = .ok (.ireturn, 1) := by decide +kernel
theorem dX3_run_17 : decode cX3_run 17 = .ok (.aload_n 3, 1) := by decide +kernel
theorem dX3_run_18 : decode cX3_run 18 = .ok (.iload 4, 2) := by decide +kernel
theorem dX3_run_20 : decode cX3_run 20 = .ok (.iaload, 1) := by decide +kernel
theorem dX3_run_21 : decode cX3_run 21 = .ok (.bipush (-2), 2) := by decide +kernel
theorem dX3_run_23 : decode cX3_run 23 = .ok (.if_icmp .eq 8, 3) := by decide +kernel
theorem dX3_run_26 : decode cX3_run 26 = .ok (.aload_n 3, 1) := by decide +kernel
theorem dX3_run_27 : decode cX3_run 27 = .ok (.iload 4, 2) := by decide +kernel
theorem dX3_run_29 : decode cX3_run 29 = .ok (.iaload, 1) := by decide +kernel
theorem dX3_run_30 : decode cX3_run 30 = .ok (.ireturn, 1) := by decide +kernel
theorem dX3_run_31 : decode cX3_run 31 = .ok (.iconst 0, 1) := by decide +kernel
theorem dX3_run_32 : decode cX3_run 32 = .ok (.istore 5, 2) := by decide +kernel
theorem dX3_run_34 : decode cX3_run 34 = .ok (.iload 5, 2) := by decide +kernel
theorem dX3_run_36 : decode cX3_run 36 = .ok (.bipush 11, 2) := by decide +kernel
theorem dX3_run_38 : decode cX3_run 38 = .ok (.if_icmp .ge 17, 3) := by decide +kernel
theorem dX3_run_41 : decode cX3_run 41 = .ok (.aload_n 3, 1) := by decide +kernel
theorem dX3_run_42 : decode cX3_run 42 = .ok (.iload 4, 2) := by decide +kernel
theorem dX3_run_44 : decode cX3_run 44 = .ok (.iload 5, 2) := by decide +kernel
theorem dX3_run_46 : decode cX3_run 46 = .ok (.iadd, 1) := by decide +kernel
theorem dX3_run_47 : decode cX3_run 47 = .ok (.iconst (-1), 1) := by decide +kernel
theorem dX3_run_48 : decode cX3_run 48 = .ok (.iastore, 1) := by decide +kernel
theorem dX3_run_49 : decode cX3_run 49 = .ok (.iinc 5 1, 3) := by decide +kernel
theorem dX3_run_52 : decode cX3_run 52 = .ok (.goto (-18), 3) := by decide +kernel
theorem dX3_run_55 : decode cX3_run 55 = .ok (.aload_n 0, 1) := by decide +kernel
theorem dX3_run_56 : decode cX3_run 56 = .ok (.invokevirtual 49, 3) := by decide +kernel
theorem dX3_run_59 : decode cX3_run 59 = .ok (.iconst 0, 1) := by decide +kernel
theorem dX3_run_60 : decode cX3_run 60 = .ok (.istore 5, 2) := by decide +kernel
theorem dX3_run_62 : decode cX3_run 62 = .ok (.iload 5, 2) := by decide +kernel
theorem dX3_run_64 : decode cX3_run 64 = .ok (.iload_n 2, 1) := by decide +kernel
theorem dX3_run_65 : decode cX3_run 65 = .ok (.if_icmp .gt 67, 3) := by decide +kernel
theorem dX3_run_68 : decode cX3_run 68 = .ok (.aload_n 0, 1) := by decide +kernel
theorem dX3_run_69 : decode cX3_run 69 = .ok (.iload 5, 2) := by decide +kernel
theorem dX3_run_71 : decode cX3_run 71 = .ok (.aload_n 3, 1) := by decide +kernel
theorem dX3_run_72 : decode cX3_run 72 = .ok (.iload 4, 2) := by decide +kernel
theorem dX3_run_74 : decode cX3_run 74 = .ok (.invokevirtual 52, 3) := by decide +kernel
theorem dX3_run_77 : decode cX3_run 77 = .ok (.ifCond .eq 12, 3) := by decide +kernel
theorem dX3_run_80 : decode cX3_run 80 = .ok (.aload_n 3, 1) := by decide +kernel
theorem dX3_run_81 : decode cX3_run 81 = .ok (.iload 4, 2) := by decide +kernel
theorem dX3_run_83 : decode cX3_run 83 = .ok (.iload 5, 2) := by decide +kernel
theorem dX3_run_85 : decode cX3_run 85 = .ok (.iastore, 1) := by decide +kernel
theorem dX3_run_86 : decode cX3_run 86 = .ok (.iload 5, 2) := by decide +kernel
theorem dX3_run_88 : decode cX3_run 88 = .ok (.ireturn, 1) := by decide +kernel
theorem dX3_run_89 : decode cX3_run 89 = .ok (.iload 5, 2) := by decide +kernel
theorem dX3_run_91 : decode cX3_run 91 = .ok (.iload_n 2, 1) := by decide +kernel
theorem dX3_run_92 : decode cX3_run 92 = .ok (.if_icmp .eq 10, 3) := by decide +kernel
theorem dX3_run_95 : decode cX3_run 95 = .ok (.aload_n 0, 1) := by decide +kernel
theorem dX3_run_96 : decode cX3_run 96 = .ok (.invokevirtual 56, 3) := by decide +kernel
theorem dX3_run_99 : decode cX3_run 99 = .ok (.ifCond .ne 5, 3) := by decide +kernel
theorem dX3_run_102 : decode cX3_run 102 = .ok (.iconst (-1), 1) := by decide +kernel
theorem dX3_run_103 : decode cX3_run 103 = .ok (.ireturn, 1) := by decide +kernel
theorem dX3_run_104 : decode cX3_run 104 = .ok (.aload_n 0, 1) := by decide +kernel
theorem dX3_run_105 : decode cX3_run 105 = .ok (.iload_n 1, 1) := by decide +kernel
theorem dX3_run_106 : decode cX3_run 106 = .ok (.invokevirtual 60, 3) := by decide +kernel
theorem dX3_run_109 : decode cX3_run 109 = .ok (.aload_n 0, 1) := by decide +kernel
theorem dX3_run_110 : decode cX3_run 110 = .ok (.invokevirtual 64, 3) := by decide +kernel
theorem dX3_run_113 : decode cX3_run 113 = .ok (.ifCond .eq 5, 3) := by decide +kernel
theorem dX3_run_116 : decode cX3_run 116 = .ok (.iconst (-1), 1) := by decide +kernel
theorem dX3_run_117 : decode cX3_run 117 = .ok (.ireturn, 1) := by decide +kernel
theorem dX3_run_118 : decode cX3_run 118 = .ok (.aload_n 0, 1) := by decide +kernel
theorem dX3_run_119 : decode cX3_run 119 = .ok (.getfield 12, 3) := by decide +kernel
theorem dX3_run_122 : decode cX3_run 122 = .ok (.invokevirtual 67, 3) := by decide +kernel
theorem dX3_run_125 : decode cX3_run 125 = .ok (.pop, 1) := by decide +kernel
theorem dX3_run_126 : decode cX3_run 126 = .ok (.iinc 5 1, 3) := by decide +kernel
theorem dX3_run_129 : decode cX3_run 129 = .ok (.goto (-67), 3) := by decide +kernel
theorem dX3_run_132 : decode cX3_run 132 = .ok (.iconst (-1), 1) := by decide +kernel
theorem dX3_run_133 : decode cX3_run 133 = .ok (.ireturn, 1) := by decide +kernel
theorem dX3_isStuck_0 : decode cX3_isStuck 0 = .ok (.aload_n 0, 1) := by decide +kernel
theorem dX3_isStuck_1 : decode cX3_isStuck 1 = .ok (.getfield 12, 3) := by decide +kernel
theorem dX3_isStuck_4 : decode cX3_isStuck 4 = .ok (.getfield 71, 3) := by decide +kernel
theorem dX3_isStuck_7 : decode cX3_isStuck 7 = .ok (.iconst (-1), 1) := by decide +kernel
theorem dX3_isStuck_8 : decode cX3_isStuck 8 = .ok (.if_icmp .eq 5, 3) := by decide +kernel
theorem dX3_isStuck_11 : decode cX3_isStuck 11 = .ok (.iconst 0, 1) := by decide +kernel
theorem dX3_isStuck_12 : decode cX3_isStuck 12 = .ok (.ireturn, 1) := by decide +kernel
theorem dX3_isStuck_13 : decode cX3_isStuck 13 = .ok (.iconst 0, 1) := by decide +kernel
theorem dX3_isStuck_14 : decode cX3_isStuck 14 = .ok (.istore_n 1, 1) := by decide +kernel
theorem dX3_isStuck_15 : decode cX3_isStuck 15 = .ok (.iload_n 1, 1) := by decide +kernel
theorem dX3_isStuck_16 : decode cX3_isStuck 16 = .ok (.aload_n 0, 1) := by decide +kernel
theorem dX3_isStuck_17 : decode cX3_isStuck 17 = .ok (.getfield 12, 3) := by decide +kernel
theorem dX3_isStuck_20 : decode cX3_isStuck 20 = .ok (.getfield 74, 3) := by decide +kernel
theorem dX3_isStuck_23 : decode cX3_isStuck 23 = .ok (.if_icmp .ge 30, 3) := by decide +kernel
theorem dX3_isStuck_26 : decode cX3_isStuck 26 = .ok (.iload_n 1, 1) := by decide +kernel
theorem dX3_isStuck_27 : decode cX3_isStuck 27 = .ok (.bipush 6, 2) := by decide +kernel
theorem dX3_isStuck_29 : decode cX3_isStuck 29 = .ok (.if_icmp .ge 24, 3) := by decide +kernel
theorem dX3_isStuck_32 : decode cX3_isStuck 32 = .ok (.aload_n 0, 1) := by decide +kernel
theorem dX3_isStuck_33 : decode cX3_isStuck 33 = .ok (.getfield 12, 3) := by decide +kernel
theorem dX3_isStuck_36 : decode cX3_isStuck 36 = .ok (.getfield 32, 3) := by decide +kernel
theorem dX3_isStuck_39 : decode cX3_isStuck 39 = .ok (.iload_n 1, 1) := by decide +kernel
theorem dX3_isStuck_40 : decode cX3_isStuck 40 = .ok (.iaload, 1) := by decide +kernel
theorem dX3_isStuck_41 : decode cX3_isStuck 41 = .ok (.iconst (-1), 1) := by decide +kernel
theorem dX3_isStuck_42 : decode cX3_isStuck 42 = .ok (.if_icmp .eq 5, 3) := by decide +kernel
theorem dX3_isStuck_45 : decode cX3_isStuck 45 = .ok (.iconst 0, 1) := by decide +kernel
theorem dX3_isStuck_46 : decode cX3_isStuck 46 = .ok (.ireturn, 1) := by decide +kernel
theorem dX3_isStuck_47 : decode cX3_isStuck 47 = .ok (.iinc 1 1, 3) := by decide +kernel
theorem dX3_isStuck_50 : decode cX3_isStuck 50 = .ok (.goto (-35), 3) := by decide +kernel
theorem dX3_isStuck_53 : decode cX3_isStuck 53 = .ok (.iconst 1, 1) := by decide +kernel
theorem dX3_isStuck_54 : decode cX3_isStuck 54 = .ok (.ireturn, 1) := by decide +kernel
theorem dX3_canTick_0 : decode cX3_canTick 0 = .ok (.aload_n 0, 1) := by decide +kernel
theorem dX3_canTick_1 : decode cX3_canTick 1 = .ok (.getfield 12, 3) := by decide +kernel
theorem dX3_canTick_4 : decode cX3_canTick 4 = .ok (.getfield 77, 3) := by decide +kernel
theorem dX3_canTick_7 : decode cX3_canTick 7 = .ok (.iconst 0, 1) := by decide +kernel
theorem dX3_canTick_8 : decode cX3_canTick 8 = .ok (.iaload, 1) := by decide +kernel
theorem dX3_canTick_9 : decode cX3_canTick 9 = .ok (.sipush 999, 3) := by decide +kernel
theorem dX3_canTick_12 : decode cX3_canTick 12 = .ok (.if_icmp .ge 7, 3) := by decide +kernel
theorem dX3_canTick_15 : decode cX3_canTick 15 = .ok (.iconst 1, 1) := by decide +kernel
theorem dX3_canTick_16 : decode cX3_canTick 16 = .ok (.goto 4, 3) := by decide +kernel
theorem dX3_canTick_19 : decode cX3_canTick 19 = .ok (.iconst 0, 1) := by decide +kernel
theorem dX3_canTick_20 : decode cX3_canTick 20 = .ok (.ireturn, 1) := by decide +kernel
set_option maxRecDepth 20000 in
theorem ggX3_allStand_X7_upMask : GoodIn wsX3_allStand wsX7_upMask := goodIn_r _ [7, 8, 9, 14, 15, 16, 17, 18, 19, 20, 21, 22, 23, 24, 25, 26, 27, 28, 29, 30, 31, 32, 33] (by decide +kernel) (by decide +kernel)
set_option maxRecDepth 20000 in
theorem gX3_allStand_X7_upMask : GoodIn wsX3_allStand (wsV RX3 80 RX7 yX7_upMask wsX7_upMask) := goodIn_app (goodIn_of _ (by decide +kernel)) ggX3_allStand_X7_upMask
theorem dX3_allStand_0 : decode cX3_allStand 0 = .ok (.aload_n 0, 1) := by decide +kernel
theorem dX3_allStand_1 : decode cX3_allStand 1 = .ok (.getfield 12, 3) := by decide +kernel
theorem dX3_allStand_4 : decode cX3_allStand 4 = .ok (.invokevirtual 80, 3) := by decide +kernel
theorem dX3_allStand_7 : decode cX3_allStand 7 = .ok (.iconst 1, 1) := by decide +kernel
theorem dX3_allStand_8 : decode cX3_allStand 8 = .ok (.aload_n 0, 1) := by decide +kernel
theorem dX3_allStand_9 : decode cX3_allStand 9 = .ok (.getfield 12, 3) := by decide +kernel
theorem dX3_allStand_12 : decode cX3_allStand 12 = .ok (.getfield 83, 3) := by decide +kernel
theorem dX3_allStand_15 : decode cX3_allStand 15 = .ok (.ishl, 1) := by decide +kernel
theorem dX3_allStand_16 : decode cX3_allStand 16 = .ok (.iconst 1, 1) := by decide +kernel
theorem dX3_allStand_17 : decode cX3_allStand 17 = .ok (.isub, 1) := by decide +kernel
theorem dX3_allStand_18 : decode cX3_allStand 18 = .ok (.if_icmp .ne 7, 3) := by decide +kernel
theorem dX3_allStand_21 : decode cX3_allStand 21 = .ok (.iconst 1, 1) := by decide +kernel
theorem dX3_allStand_22 : decode cX3_allStand 22 = .ok (.goto 4, 3) := by decide +kernel
theorem dX3_allStand_25 : decode cX3_allStand 25 = .ok (.iconst 0, 1) := by decide +kernel
theorem dX3_allStand_26 : decode cX3_allStand 26 = .ok (.ireturn, 1) := by decide +kernel
theorem dX3_noteStanding_0 : decode cX3_noteStanding 0 = .ok (.iconst 0, 1) := by decide +kernel
theorem dX3_noteStanding_1 : decode cX3_noteStanding 1 = .ok (.istore 4, 2) := by decide +kernel
theorem dX3_noteStanding_3 : decode cX3_noteStanding 3 = .ok (.iconst 0, 1) := by decide +kernel
theorem dX3_noteStanding_4 : decode cX3_noteStanding 4 = .ok (.istore 5, 2) := by decide +kernel
theorem dX3_noteStanding_6 : decode cX3_noteStanding 6 = .ok (.iload 5, 2) := by decide +kernel
theorem dX3_noteStanding_8 : decode cX3_noteStanding 8 = .ok (.aload_n 0, 1) := by decide +kernel
theorem dX3_noteStanding_9 : decode cX3_noteStanding 9 = .ok (.getfield 12, 3) := by decide +kernel
theorem dX3_noteStanding_12 : decode cX3_noteStanding 12 = .ok (.getfield 83, 3) := by decide +kernel
theorem dX3_noteStanding_15 : decode cX3_noteStanding 15 = .ok (.if_icmp .ge 53, 3) := by decide +kernel
theorem dX3_noteStanding_18 : decode cX3_noteStanding 18 = .ok (.iload 5, 2) := by decide +kernel
theorem dX3_noteStanding_20 : decode cX3_noteStanding 20 = .ok (.bipush 10, 2) := by decide +kernel
theorem dX3_noteStanding_22 : decode cX3_noteStanding 22 = .ok (.if_icmp .ge 46, 3) := by decide +kernel
theorem dX3_noteStanding_25 : decode cX3_noteStanding 25 = .ok (.aload_n 0, 1) := by decide +kernel
theorem dX3_noteStanding_26 : decode cX3_noteStanding 26 = .ok (.getfield 12, 3) := by decide +kernel
theorem dX3_noteStanding_29 : decode cX3_noteStanding 29 = .ok (.getfield 86, 3) := by decide +kernel
theorem dX3_noteStanding_32 : decode cX3_noteStanding 32 = .ok (.iload 5, 2) := by decide +kernel
theorem dX3_noteStanding_34 : decode cX3_noteStanding 34 = .ok (.iaload, 1) := by decide +kernel
theorem dX3_noteStanding_35 : decode cX3_noteStanding 35 = .ok (.ifCond .ne 27, 3) := by decide +kernel
theorem dX3_noteStanding_38 : decode cX3_noteStanding 38 = .ok (.iinc 4 1, 3) := by decide +kernel
theorem dX3_noteStanding_41 : decode cX3_noteStanding 41 = .ok (.aload_n 2, 1) := by decide +kernel
theorem dX3_noteStanding_42 : decode cX3_noteStanding 42 = .ok (.iload_n 3, 1) := by decide +kernel
theorem dX3_noteStanding_43 : decode cX3_noteStanding 43 = .ok (.iconst 1, 1) := by decide +kernel
theorem dX3_noteStanding_44 : decode cX3_noteStanding 44 = .ok (.iadd, 1) := by decide +kernel
theorem dX3_noteStanding_45 : decode cX3_noteStanding 45 = .ok (.iload 5, 2) := by decide +kernel
theorem dX3_noteStanding_47 : decode cX3_noteStanding 47 = .ok (.iadd, 1) := by decide +kernel
theorem dX3_noteStanding_48 : decode cX3_noteStanding 48 = .ok (.iaload, 1) := by decide +kernel
theorem dX3_noteStanding_49 : decode cX3_noteStanding 49 = .ok (.iconst (-1), 1) := by decide +kernel
theorem dX3_noteStanding_50 : decode cX3_noteStanding 50 = .ok (.if_icmp .ne 12, 3) := by decide +kernel
theorem dX3_noteStanding_53 : decode cX3_noteStanding 53 = .ok (.aload_n 2, 1) := by decide +kernel
theorem dX3_noteStanding_54 : decode cX3_noteStanding 54 = .ok (.iload_n 3, 1) := by decide +kernel
theorem dX3_noteStanding_55 : decode cX3_noteStanding 55 = .ok (.iconst 1, 1) := by decide +kernel
theorem dX3_noteStanding_56 : decode cX3_noteStanding 56 = .ok (.iadd, 1) := by decide +kernel
theorem dX3_noteStanding_57 : decode cX3_noteStanding 57 = .ok (.iload 5, 2) := by decide +kernel
theorem dX3_noteStanding_59 : decode cX3_noteStanding 59 = .ok (.iadd, 1) := by decide +kernel
theorem dX3_noteStanding_60 : decode cX3_noteStanding 60 = .ok (.iload_n 1, 1) := by decide +kernel
theorem dX3_noteStanding_61 : decode cX3_noteStanding 61 = .ok (.iastore, 1) := by decide +kernel
theorem dX3_noteStanding_62 : decode cX3_noteStanding 62 = .ok (.iinc 5 1, 3) := by decide +kernel
theorem dX3_noteStanding_65 : decode cX3_noteStanding 65 = .ok (.goto (-59), 3) := by decide +kernel
theorem dX3_noteStanding_68 : decode cX3_noteStanding 68 = .ok (.iload 4, 2) := by decide +kernel
theorem dX3_noteStanding_70 : decode cX3_noteStanding 70 = .ok (.aload_n 0, 1) := by decide +kernel
theorem dX3_noteStanding_71 : decode cX3_noteStanding 71 = .ok (.getfield 12, 3) := by decide +kernel
theorem dX3_noteStanding_74 : decode cX3_noteStanding 74 = .ok (.getfield 83, 3) := by decide +kernel
theorem dX3_noteStanding_77 : decode cX3_noteStanding 77 = .ok (.if_icmp .ne 7, 3) := by decide +kernel
theorem dX3_noteStanding_80 : decode cX3_noteStanding 80 = .ok (.iconst 1, 1) := by decide +kernel
theorem dX3_noteStanding_81 : decode cX3_noteStanding 81 = .ok (.goto 4, 3) := by decide +kernel
theorem dX3_noteStanding_84 : decode cX3_noteStanding 84 = .ok (.iconst 0, 1) := by decide +kernel
theorem dX3_noteStanding_85 : decode cX3_noteStanding 85 = .ok (.ireturn, 1) := by decide +kernel
set_option maxRecDepth 20000 in
theorem ggX3_sendFree_X7_readyMask : GoodIn wsX3_sendFree wsX7_readyMask := goodIn_r _ [11, 12, 13, 14, 15, 16, 17, 10, 18, 94, 95, 96, 97, 98, 99, 100, 101, 102, 103, 104, 105, 106, 107, 108, 109, 110, 111, 112, 113] (by decide +kernel) (by decide +kernel)
set_option maxRecDepth 20000 in
theorem gX3_sendFree_X7_readyMask : GoodIn wsX3_sendFree (wsV RX3 98 RX7 yX7_readyMask wsX7_readyMask) := goodIn_app (goodIn_of _ (by decide +kernel)) ggX3_sendFree_X7_readyMask
set_option maxRecDepth 20000 in
theorem ggX3_sendFree_X7_reckonChains : GoodIn wsX3_sendFree wsX7_reckonChains := goodIn_r _ [22, 12, 23, 24, 25, 26, 14, 13, 27, 28, 29, 30, 31, 94, 95, 96, 97, 98, 99, 100, 101, 102, 103, 104, 105, 106, 107, 108, 109, 110, 111, 112, 113, 114, 115, 116, 117, 118] (by decide +kernel) (by decide +kernel)
set_option maxRecDepth 20000 in
theorem gX3_sendFree_X7_reckonChains : GoodIn wsX3_sendFree (wsV RX3 101 RX7 yX7_reckonChains wsX7_reckonChains) := goodIn_app (goodIn_of _ (by decide +kernel)) ggX3_sendFree_X7_reckonChains
set_option maxRecDepth 20000 in
theorem ggX3_sendFree_X7_asked : GoodIn wsX3_sendFree wsX7_asked := goodIn_r _ [35, 36, 37, 38, 23, 24, 25, 26, 39, 27, 40, 41, 42, 43, 44, 45, 46, 47, 48, 49, 50, 51, 10, 52, 53, 54, 55, 56, 57, 12, 58, 59, 60, 61, 62, 63, 64, 65, 66, 67, 68, 69, 70, 71, 72, 73, 74, 75, 13, 76, 77, 78, 79, 80, 81, 82, 83, 84, 85, 86, 87, 88, 89, 94, 95, 96, 97, 98, 99, 100, 101, 102, 103, 104, 105, 106, 107, 108, 109, 110, 111, 112, 113, 119, 120, 121, 122, 123, 124, 114, 115, 116, 117, 118] (by decide +kernel) (by decide +kernel)
set_option maxRecDepth 20000 in
theorem gX3_sendFree_X7_asked : GoodIn wsX3_sendFree (wsV RX3 104 RX7 yX7_asked wsX7_asked) := goodIn_app (goodIn_of _ (by decide +kernel)) ggX3_sendFree_X7_asked
theorem dX3_sendFree_0 : decode cX3_sendFree 0 = .ok (.aload_n 0, 1) := by decide +kernel
theorem dX3_sendFree_1 : decode cX3_sendFree 1 = .ok (.getfield 12, 3) := by decide +kernel
theorem dX3_sendFree_4 : decode cX3_sendFree 4 = .ok (.getfield 89, 3) := by decide +kernel
theorem dX3_sendFree_7 : decode cX3_sendFree 7 = .ok (.getfield 93, 3) := by decide +kernel
theorem dX3_sendFree_10 : decode cX3_sendFree 10 = .ok (.astore_n 2, 1) := by decide +kernel
theorem dX3_sendFree_11 : decode cX3_sendFree 11 = .ok (.iconst (-1), 1) := by decide +kernel
theorem dX3_sendFree_12 : decode cX3_sendFree 12 = .ok (.istore_n 3, 1) := by decide +kernel
theorem dX3_sendFree_13 : decode cX3_sendFree 13 = .ok (.iconst 0, 1) := by decide +kernel
theorem dX3_sendFree_14 : decode cX3_sendFree 14 = .ok (.istore 4, 2) := by decide +kernel
theorem dX3_sendFree_16 : decode cX3_sendFree 16 = .ok (.iload 4, 2) := by decide +kernel
theorem dX3_sendFree_18 : decode cX3_sendFree 18 = .ok (.aload_n 0, 1) := by decide +kernel
theorem dX3_sendFree_19 : decode cX3_sendFree 19 = .ok (.getfield 12, 3) := by decide +kernel
theorem dX3_sendFree_22 : decode cX3_sendFree 22 = .ok (.getfield 74, 3) := by decide +kernel
theorem dX3_sendFree_25 : decode cX3_sendFree 25 = .ok (.if_icmp .ge 179, 3) := by decide +kernel
theorem dX3_sendFree_28 : decode cX3_sendFree 28 = .ok (.iload 4, 2) := by decide +kernel
theorem dX3_sendFree_30 : decode cX3_sendFree 30 = .ok (.bipush 6, 2) := by decide +kernel
theorem dX3_sendFree_32 : decode cX3_sendFree 32 = .ok (.if_icmp .ge 172, 3) := by decide +kernel
theorem dX3_sendFree_35 : decode cX3_sendFree 35 = .ok (.iload_n 1, 1) := by decide +kernel
theorem dX3_sendFree_36 : decode cX3_sendFree 36 = .ok (.iload 4, 2) := by decide +kernel
theorem dX3_sendFree_38 : decode cX3_sendFree 38 = .ok (.ishr, 1) := by decide +kernel
theorem dX3_sendFree_39 : decode cX3_sendFree 39 = .ok (.iconst 1, 1) := by decide +kernel
theorem dX3_sendFree_40 : decode cX3_sendFree 40 = .ok (.iand, 1) := by decide +kernel
theorem dX3_sendFree_41 : decode cX3_sendFree 41 = .ok (.ifCond .eq 157, 3) := by decide +kernel
theorem dX3_sendFree_44 : decode cX3_sendFree 44 = .ok (.aload_n 0, 1) := by decide +kernel
theorem dX3_sendFree_45 : decode cX3_sendFree 45 = .ok (.getfield 12, 3) := by decide +kernel
theorem dX3_sendFree_48 : decode cX3_sendFree 48 = .ok (.getfield 32, 3) := by decide +kernel
theorem dX3_sendFree_51 : decode cX3_sendFree 51 = .ok (.iload 4, 2) := by decide +kernel
theorem dX3_sendFree_53 : decode cX3_sendFree 53 = .ok (.iaload, 1) := by decide +kernel
theorem dX3_sendFree_54 : decode cX3_sendFree 54 = .ok (.iconst (-1), 1) := by decide +kernel
theorem dX3_sendFree_55 : decode cX3_sendFree 55 = .ok (.if_icmp .eq 6, 3) := by decide +kernel
theorem dX3_sendFree_58 : decode cX3_sendFree 58 = .ok (.goto 140, 3) := by decide +kernel
theorem dX3_sendFree_61 : decode cX3_sendFree 61 = .ok (.iload_n 3, 1) := by decide +kernel
theorem dX3_sendFree_62 : decode cX3_sendFree 62 = .ok (.iconst (-1), 1) := by decide +kernel
theorem dX3_sendFree_63 : decode cX3_sendFree 63 = .ok (.if_icmp .ne 19, 3) := by decide +kernel
theorem dX3_sendFree_66 : decode cX3_sendFree 66 = .ok (.aload_n 0, 1) := by decide +kernel
theorem dX3_sendFree_67 : decode cX3_sendFree 67 = .ok (.getfield 12, 3) := by decide +kernel
theorem dX3_sendFree_70 : decode cX3_sendFree 70 = .ok (.invokevirtual 98, 3) := by decide +kernel
theorem dX3_sendFree_73 : decode cX3_sendFree 73 = .ok (.istore_n 3, 1) := by decide +kernel
theorem dX3_sendFree_74 : decode cX3_sendFree 74 = .ok (.aload_n 0, 1) := by decide +kernel
theorem dX3_sendFree_75 : decode cX3_sendFree 75 = .ok (.getfield 12, 3) := by decide +kernel
theorem dX3_sendFree_78 : decode cX3_sendFree 78 = .ok (.invokevirtual 101, 3) := by decide +kernel
theorem dX3_sendFree_81 : decode cX3_sendFree 81 = .ok (.pop, 1) := by decide +kernel
theorem dX3_sendFree_82 : decode cX3_sendFree 82 = .ok (.iconst (-1), 1) := by decide +kernel
theorem dX3_sendFree_83 : decode cX3_sendFree 83 = .ok (.istore 5, 2) := by decide +kernel
theorem dX3_sendFree_85 : decode cX3_sendFree 85 = .ok (.iconst 0, 1) := by decide +kernel
theorem dX3_sendFree_86 : decode cX3_sendFree 86 = .ok (.istore 6, 2) := by decide +kernel
theorem dX3_sendFree_88 : decode cX3_sendFree 88 = .ok (.iload 6, 2) := by decide +kernel
theorem dX3_sendFree_90 : decode cX3_sendFree 90 = .ok (.aload_n 0, 1) := by decide +kernel
theorem dX3_sendFree_91 : decode cX3_sendFree 91 = .ok (.getfield 12, 3) := by decide +kernel
theorem dX3_sendFree_94 : decode cX3_sendFree 94 = .ok (.getfield 83, 3) := by decide +kernel
theorem dX3_sendFree_97 : decode cX3_sendFree 97 = .ok (.if_icmp .ge 89, 3) := by decide +kernel
theorem dX3_sendFree_100 : decode cX3_sendFree 100 = .ok (.iload 6, 2) := by decide +kernel
theorem dX3_sendFree_102 : decode cX3_sendFree 102 = .ok (.bipush 10, 2) := by decide +kernel
theorem dX3_sendFree_104 : decode cX3_sendFree 104 = .ok (.if_icmp .ge 82, 3) := by decide +kernel
theorem dX3_sendFree_107 : decode cX3_sendFree 107 = .ok (.iload_n 3, 1) := by decide +kernel
theorem dX3_sendFree_108 : decode cX3_sendFree 108 = .ok (.iload 6, 2) := by decide +kernel
theorem dX3_sendFree_110 : decode cX3_sendFree 110 = .ok (.ishr, 1) := by decide +kernel
theorem dX3_sendFree_111 : decode cX3_sendFree 111 = .ok (.iconst 1, 1) := by decide +kernel
theorem dX3_sendFree_112 : decode cX3_sendFree 112 = .ok (.iand, 1) := by decide +kernel
theorem dX3_sendFree_113 : decode cX3_sendFree 113 = .ok (.iconst 1, 1) := by decide +kernel
theorem dX3_sendFree_114 : decode cX3_sendFree 114 = .ok (.if_icmp .ne 24, 3) := by decide +kernel
theorem dX3_sendFree_117 : decode cX3_sendFree 117 = .ok (.iload 5, 2) := by decide +kernel
theorem dX3_sendFree_119 : decode cX3_sendFree 119 = .ok (.iconst (-1), 1) := by decide +kernel
theorem dX3_sendFree_120 : decode cX3_sendFree 120 = .ok (.if_icmp .eq 14, 3) := by decide +kernel
theorem dX3_sendFree_123 : decode cX3_sendFree 123 = .ok (.aload_n 2, 1) := by decide +kernel
theorem dX3_sendFree_124 : decode cX3_sendFree 124 = .ok (.iload 6, 2) := by decide +kernel
theorem dX3_sendFree_126 : decode cX3_sendFree 126 = .ok (.iaload, 1) := by decide +kernel
theorem dX3_sendFree_127 : decode cX3_sendFree 127 = .ok (.aload_n 2, 1) := by decide +kernel
theorem dX3_sendFree_128 : decode cX3_sendFree 128 = .ok (.iload 5, 2) := by decide +kernel
theorem dX3_sendFree_130 : decode cX3_sendFree 130 = .ok (.iaload, 1) := by decide +kernel
theorem dX3_sendFree_131 : decode cX3_sendFree 131 = .ok (.if_icmp .le 7, 3) := by decide +kernel
theorem dX3_sendFree_134 : decode cX3_sendFree 134 = .ok (.iconst 1, 1) := by decide +kernel
theorem dX3_sendFree_135 : decode cX3_sendFree 135 = .ok (.goto 4, 3) := by decide +kernel
theorem dX3_sendFree_138 : decode cX3_sendFree 138 = .ok (.iconst 0, 1) := by decide +kernel
theorem dX3_sendFree_139 : decode cX3_sendFree 139 = .ok (.istore 7, 2) := by decide +kernel
theorem dX3_sendFree_141 : decode cX3_sendFree 141 = .ok (.iload 7, 2) := by decide +kernel
theorem dX3_sendFree_143 : decode cX3_sendFree 143 = .ok (.ifCond .eq 37, 3) := by decide +kernel
theorem dX3_sendFree_146 : decode cX3_sendFree 146 = .ok (.aload_n 0, 1) := by decide +kernel
theorem dX3_sendFree_147 : decode cX3_sendFree 147 = .ok (.getfield 12, 3) := by decide +kernel
theorem dX3_sendFree_150 : decode cX3_sendFree 150 = .ok (.iconst 3, 1) := by decide +kernel
theorem dX3_sendFree_151 : decode cX3_sendFree 151 = .ok (.iload 4, 2) := by decide +kernel
theorem dX3_sendFree_153 : decode cX3_sendFree 153 = .ok (.iload 6, 2) := by decide +kernel
theorem dX3_sendFree_155 : decode cX3_sendFree 155 = .ok (.invokevirtual 104, 3) := by decide +kernel
theorem dX3_sendFree_158 : decode cX3_sendFree 158 = .ok (.ifCond .ne 22, 3) := by decide +kernel
theorem dX3_sendFree_161 : decode cX3_sendFree 161 = .ok (.aload_n 0, 1) := by decide +kernel
theorem dX3_sendFree_162 : decode cX3_sendFree 162 = .ok (.getfield 12, 3) := by decide +kernel
theorem dX3_sendFree_165 : decode cX3_sendFree 165 = .ok (.iconst 0, 1) := by decide +kernel
theorem dX3_sendFree_166 : decode cX3_sendFree 166 = .ok (.iload 4, 2) := by decide +kernel
theorem dX3_sendFree_168 : decode cX3_sendFree 168 = .ok (.iload 6, 2) := by decide +kernel
theorem dX3_sendFree_170 : decode cX3_sendFree 170 = .ok (.invokevirtual 104, 3) := by decide +kernel
theorem dX3_sendFree_173 : decode cX3_sendFree 173 = .ok (.ifCond .le 7, 3) := by decide +kernel
theorem dX3_sendFree_176 : decode cX3_sendFree 176 = .ok (.iload 6, 2) := by decide +kernel
theorem dX3_sendFree_178 : decode cX3_sendFree 178 = .ok (.istore 5, 2) := by decide +kernel
theorem dX3_sendFree_180 : decode cX3_sendFree 180 = .ok (.iinc 6 1, 3) := by decide +kernel
theorem dX3_sendFree_183 : decode cX3_sendFree 183 = .ok (.goto (-95), 3) := by decide +kernel
theorem dX3_sendFree_186 : decode cX3_sendFree 186 = .ok (.aload_n 0, 1) := by decide +kernel
theorem dX3_sendFree_187 : decode cX3_sendFree 187 = .ok (.getfield 12, 3) := by decide +kernel
theorem dX3_sendFree_190 : decode cX3_sendFree 190 = .ok (.getfield 32, 3) := by decide +kernel
theorem dX3_sendFree_193 : decode cX3_sendFree 193 = .ok (.iload 4, 2) := by decide +kernel
theorem dX3_sendFree_195 : decode cX3_sendFree 195 = .ok (.iload 5, 2) := by decide +kernel
theorem dX3_sendFree_197 : decode cX3_sendFree 197 = .ok (.iastore, 1) := by decide +kernel
theorem dX3_sendFree_198 : decode cX3_sendFree 198 = .ok (.iinc 4 1, 3) := by decide +kernel
theorem dX3_sendFree_201 : decode cX3_sendFree 201 = .ok (.goto (-185), 3) := by decide +kernel
theorem dX3_sendFree_204 : decode cX3_sendFree 204 = .ok (.return_, 1) := by decide +kernel
set_option maxRecDepth 20000 in
theorem ggX3_chanceUnseen_X3_begin : GoodIn wsX3_chanceUnseen wsX3_begin := goodIn_r _ [10, 2, 11, 4, 12, 13, 14, 15, 16, 17, 18, 19, 20, 21, 22, 23, 24, 25, 26, 27, 28, 29, 30, 31, 32, 33, 34, 35, 36, 37, 38, 39, 40, 41, 42, 43, 44, 45, 46, 47, 48, 49, 50, 149, 150, 151, 152, 153, 154, 155, 156, 157, 158, 159, 160, 161, 162, 163, 164, 165, 166, 167, 168, 169, 170, 171, 172] (by decide +kernel) (by decide +kernel)
set_option maxRecDepth 20000 in
theorem gX3_chanceUnseen_X3_begin : GoodIn wsX3_chanceUnseen (wsV RX3 49 RX3 yX3_begin wsX3_begin) := goodIn_app (goodIn_of _ (by decide +kernel)) ggX3_chanceUnseen_X3_begin
set_option maxRecDepth 20000 in
theorem ggX3_chanceUnseen_X3_canTick : GoodIn wsX3_chanceUnseen wsX3_canTick := goodIn_r _ [54, 2, 55, 149, 150, 151, 152, 153, 154, 155, 156, 157, 158, 159, 160, 161, 162, 163, 164, 165, 166, 167, 168, 169, 170, 171, 172] (by decide +kernel) (by decide +kernel)
set_option maxRecDepth 20000 in
theorem gX3_chanceUnseen_X3_canTick : GoodIn wsX3_chanceUnseen (wsV RX3 56 RX3 yX3_canTick wsX3_canTick) := goodIn_app (goodIn_of _ (by decide +kernel)) ggX3_chanceUnseen_X3_canTick
set_option maxRecDepth 20000 in
theorem ggX3_chanceUnseen_X3_allStand : GoodIn wsX3_chanceUnseen wsX3_allStand := goodIn_r _ [59, 2, 60, 61, 62, 63, 18, 64, 20, 29, 149, 150, 151, 152, 153, 154, 155, 156, 157, 158, 159, 160, 161, 162, 163, 164, 165, 166, 167, 168, 169, 170, 171, 172] (by decide +kernel) (by decide +kernel)
set_option maxRecDepth 20000 in
theorem gX3_chanceUnseen_X3_allStand : GoodIn wsX3_chanceUnseen (wsV RX3 110 RX3 yX3_allStand wsX3_allStand) := goodIn_app (goodIn_of _ (by decide +kernel)) ggX3_chanceUnseen_X3_allStand
set_option maxRecDepth 20000 in
theorem ggX3_chanceUnseen_X3_sendFree : GoodIn wsX3_chanceUnseen wsX3_sendFree := goodIn_r _ [68, 2, 69, 70, 3, 4, 60, 71, 72, 73, 18, 74, 20, 29, 26, 75, 62, 63, 64, 76, 77, 78, 79, 80, 81, 82, 83, 84, 85, 86, 87, 88, 89, 90, 91, 92, 42, 40, 93, 94, 95, 96, 97, 98, 99, 100, 101, 102, 103, 104, 48, 49, 50, 30, 105, 106, 107, 108, 109, 110, 111, 112, 32, 113, 114, 115, 116, 31, 27, 117, 118, 119, 120, 34, 33, 28, 35, 121, 122, 123, 124, 125, 126, 127, 128, 129, 130, 131, 132, 133, 149, 150, 151, 152, 153, 154, 155, 156, 157, 158, 159, 160, 161, 162, 163, 164, 165, 166, 167, 168, 169, 170, 171, 172, 173, 174, 175, 176, 177, 178, 179, 180, 181, 182, 183] (by decide +kernel) (by decide +kernel)
set_option maxRecDepth 20000 in
theorem gX3_chanceUnseen_X3_sendFree : GoodIn wsX3_chanceUnseen (wsV RX3 60 RX3 yX3_sendFree wsX3_sendFree) := goodIn_app (goodIn_of _ (by decide +kernel)) ggX3_chanceUnseen_X3_sendFree
set_option maxRecDepth 20000 in
theorem ggX3_chanceUnseen_X7_hasPart : GoodIn wsX3_chanceUnseen wsX7_hasPart := goodIn_r _ [108, 20, 153, 154, 155, 156, 157, 158, 159, 160, 161, 162, 163, 164, 165, 166, 167, 168, 169, 170, 171, 172] (by decide +kernel) (by decide +kernel)
set_option maxRecDepth 20000 in
theorem gX3_chanceUnseen_X7_hasPart : GoodIn wsX3_chanceUnseen (wsV RX3 113 RX7 yX7_hasPart wsX7_hasPart) := goodIn_app (goodIn_of _ (by decide +kernel)) ggX3_chanceUnseen_X7_hasPart
set_option maxRecDepth 20000 in
theorem ggX3_chanceUnseen_X7_asked : GoodIn wsX3_chanceUnseen wsX7_asked := goodIn_r _ [92, 42, 40, 93, 80, 81, 82, 83, 94, 84, 95, 96, 97, 98, 99, 100, 101, 102, 103, 104, 48, 49, 18, 50, 30, 105, 106, 107, 108, 20, 109, 110, 111, 112, 32, 113, 114, 115, 116, 31, 27, 117, 118, 119, 120, 34, 33, 28, 29, 35, 121, 122, 123, 124, 125, 126, 127, 128, 129, 130, 131, 132, 133, 153, 154, 155, 156, 157, 158, 159, 160, 161, 162, 163, 164, 165, 166, 167, 168, 169, 170, 171, 172, 178, 179, 180, 181, 182, 183, 173, 174, 175, 176, 177] (by decide +kernel) (by decide +kernel)
set_option maxRecDepth 20000 in
theorem gX3_chanceUnseen_X7_asked : GoodIn wsX3_chanceUnseen (wsV RX3 104 RX7 yX7_asked wsX7_asked) := goodIn_app (goodIn_of _ (by decide +kernel)) ggX3_chanceUnseen_X7_asked
set_option maxRecDepth 20000 in
theorem ggX3_chanceUnseen_X7_workOneTick : GoodIn wsX3_chanceUnseen wsX7_workOneTick := goodIn_r _ [138, 30, 34, 84, 139, 140, 29, 86, 87, 82, 88, 33, 80, 81, 83, 35, 105, 106, 107, 18, 108, 20, 141, 90, 91, 92, 42, 40, 93, 94, 95, 96, 97, 98, 99, 100, 101, 102, 103, 104, 48, 49, 50, 109, 110, 111, 112, 32, 113, 114, 115, 116, 31, 27, 117, 118, 119, 120, 28, 121, 122, 123, 124, 125, 126, 127, 128, 129, 130, 131, 132, 133, 75, 62, 63, 64, 142, 143, 144, 145, 146, 147, 148, 153, 154, 155, 156, 157, 158, 159, 160, 161, 162, 163, 164, 165, 166, 167, 168, 169, 170, 171, 172, 173, 174, 175, 176, 177, 178, 179, 180, 181, 182, 183] (by decide +kernel) (by decide +kernel)
set_option maxRecDepth 20000 in
theorem gX3_chanceUnseen_X7_workOneTick : GoodIn wsX3_chanceUnseen (wsV RX3 67 RX7 yX7_workOneTick wsX7_workOneTick) := goodIn_app (goodIn_of _ (by decide +kernel)) ggX3_chanceUnseen_X7_workOneTick
theorem dX3_chanceUnseen_0 : decode cX3_chanceUnseen 0 = .ok (.aload_n 0, 1) := by decide +kernel
theorem dX3_chanceUnseen_1 : decode cX3_chanceUnseen 1 = .ok (.invokevirtual 49, 3) := by decide +kernel
theorem dX3_chanceUnseen_4 : decode cX3_chanceUnseen 4 = .ok (.ldc2_w 108, 3) := by decide +kernel
theorem dX3_chanceUnseen_7 : decode cX3_chanceUnseen 7 = .ok (.lstore_n 2, 1) := by decide +kernel
theorem dX3_chanceUnseen_8 : decode cX3_chanceUnseen 8 = .ok (.iconst 0, 1) := by decide +kernel
theorem dX3_chanceUnseen_9 : decode cX3_chanceUnseen 9 = .ok (.istore 4, 2) := by decide +kernel
theorem dX3_chanceUnseen_11 : decode cX3_chanceUnseen 11 = .ok (.iload 4, 2) := by decide +kernel
theorem dX3_chanceUnseen_13 : decode cX3_chanceUnseen 13 = .ok (.iload_n 1, 1) := by decide +kernel
theorem dX3_chanceUnseen_14 : decode cX3_chanceUnseen 14 = .ok (.if_icmp .ge 116, 3) := by decide +kernel
theorem dX3_chanceUnseen_17 : decode cX3_chanceUnseen 17 = .ok (.aload_n 0, 1) := by decide +kernel
theorem dX3_chanceUnseen_18 : decode cX3_chanceUnseen 18 = .ok (.invokevirtual 56, 3) := by decide +kernel
theorem dX3_chanceUnseen_21 : decode cX3_chanceUnseen 21 = .ok (.ifCond .eq 109, 3) := by decide +kernel
theorem dX3_chanceUnseen_24 : decode cX3_chanceUnseen 24 = .ok (.aload_n 0, 1) := by decide +kernel
theorem dX3_chanceUnseen_25 : decode cX3_chanceUnseen 25 = .ok (.invokevirtual 110, 3) := by decide +kernel
theorem dX3_chanceUnseen_28 : decode cX3_chanceUnseen 28 = .ok (.ifCond .ne 102, 3) := by decide +kernel
theorem dX3_chanceUnseen_31 : decode cX3_chanceUnseen 31 = .ok (.aload_n 0, 1) := by decide +kernel
theorem dX3_chanceUnseen_32 : decode cX3_chanceUnseen 32 = .ok (.bipush 63, 2) := by decide +kernel
theorem dX3_chanceUnseen_34 : decode cX3_chanceUnseen 34 = .ok (.invokevirtual 60, 3) := by decide +kernel
theorem dX3_chanceUnseen_37 : decode cX3_chanceUnseen 37 = .ok (.iconst 0, 1) := by decide +kernel
theorem dX3_chanceUnseen_38 : decode cX3_chanceUnseen 38 = .ok (.istore 5, 2) := by decide +kernel
theorem dX3_chanceUnseen_40 : decode cX3_chanceUnseen 40 = .ok (.iload 5, 2) := by decide +kernel
theorem dX3_chanceUnseen_42 : decode cX3_chanceUnseen 42 = .ok (.aload_n 0, 1) := by decide +kernel
theorem dX3_chanceUnseen_43 : decode cX3_chanceUnseen 43 = .ok (.getfield 12, 3) := by decide +kernel
theorem dX3_chanceUnseen_46 : decode cX3_chanceUnseen 46 = .ok (.getfield 74, 3) := by decide +kernel
theorem dX3_chanceUnseen_49 : decode cX3_chanceUnseen 49 = .ok (.if_icmp .ge 67, 3) := by decide +kernel
theorem dX3_chanceUnseen_52 : decode cX3_chanceUnseen 52 = .ok (.iload 5, 2) := by decide +kernel
theorem dX3_chanceUnseen_54 : decode cX3_chanceUnseen 54 = .ok (.bipush 6, 2) := by decide +kernel
theorem dX3_chanceUnseen_56 : decode cX3_chanceUnseen 56 = .ok (.if_icmp .ge 60, 3) := by decide +kernel
theorem dX3_chanceUnseen_59 : decode cX3_chanceUnseen 59 = .ok (.aload_n 0, 1) := by decide +kernel
theorem dX3_chanceUnseen_60 : decode cX3_chanceUnseen 60 = .ok (.getfield 12, 3) := by decide +kernel
theorem dX3_chanceUnseen_63 : decode cX3_chanceUnseen 63 = .ok (.aload_n 0, 1) := by decide +kernel
theorem dX3_chanceUnseen_64 : decode cX3_chanceUnseen 64 = .ok (.getfield 12, 3) := by decide +kernel
theorem dX3_chanceUnseen_67 : decode cX3_chanceUnseen 67 = .ok (.getfield 32, 3) := by decide +kernel
theorem dX3_chanceUnseen_70 : decode cX3_chanceUnseen 70 = .ok (.iload 5, 2) := by decide +kernel
theorem dX3_chanceUnseen_72 : decode cX3_chanceUnseen 72 = .ok (.iaload, 1) := by decide +kernel
theorem dX3_chanceUnseen_73 : decode cX3_chanceUnseen 73 = .ok (.invokevirtual 113, 3) := by decide +kernel
theorem dX3_chanceUnseen_76 : decode cX3_chanceUnseen 76 = .ok (.ifCond .eq 34, 3) := by decide +kernel
theorem dX3_chanceUnseen_79 : decode cX3_chanceUnseen 79 = .ok (.lload_n 2, 1) := by decide +kernel
theorem dX3_chanceUnseen_80 : decode cX3_chanceUnseen 80 = .ok (.bipush 10, 2) := by decide +kernel
theorem dX3_chanceUnseen_82 : decode cX3_chanceUnseen 82 = .ok (.aload_n 0, 1) := by decide +kernel
theorem dX3_chanceUnseen_83 : decode cX3_chanceUnseen 83 = .ok (.getfield 12, 3) := by decide +kernel
theorem dX3_chanceUnseen_86 : decode cX3_chanceUnseen 86 = .ok (.iconst 2, 1) := by decide +kernel
theorem dX3_chanceUnseen_87 : decode cX3_chanceUnseen 87 = .ok (.iload 5, 2) := by decide +kernel
theorem dX3_chanceUnseen_89 : decode cX3_chanceUnseen 89 = .ok (.aload_n 0, 1) := by decide +kernel
theorem dX3_chanceUnseen_90 : decode cX3_chanceUnseen 90 = .ok (.getfield 12, 3) := by decide +kernel
theorem dX3_chanceUnseen_93 : decode cX3_chanceUnseen 93 = .ok (.getfield 32, 3) := by decide +kernel
theorem dX3_chanceUnseen_96 : decode cX3_chanceUnseen 96 = .ok (.iload 5, 2) := by decide +kernel
theorem dX3_chanceUnseen_98 : decode cX3_chanceUnseen 98 = .ok (.iaload, 1) := by decide +kernel
theorem dX3_chanceUnseen_99 : decode cX3_chanceUnseen 99 = .ok (.invokevirtual 104, 3) := by decide +kernel
theorem dX3_chanceUnseen_102 : decode cX3_chanceUnseen 102 = .ok (.isub, 1) := by decide +kernel
theorem dX3_chanceUnseen_103 : decode cX3_chanceUnseen 103 = .ok (.i2l, 1) := by decide +kernel
theorem dX3_chanceUnseen_104 : decode cX3_chanceUnseen 104 = .ok (.lmul, 1) := by decide +kernel
theorem dX3_chanceUnseen_105 : decode cX3_chanceUnseen 105 = .ok (.ldc2_w 116, 3) := by decide +kernel
theorem dX3_chanceUnseen_108 : decode cX3_chanceUnseen 108 = .ok (.ldiv, 1) := by decide +kernel
theorem dX3_chanceUnseen_109 : decode cX3_chanceUnseen 109 = .ok (.lstore_n 2, 1) := by decide +kernel
theorem dX3_chanceUnseen_110 : decode cX3_chanceUnseen 110 = .ok (.iinc 5 1, 3) := by decide +kernel
theorem dX3_chanceUnseen_113 : decode cX3_chanceUnseen 113 = .ok (.goto (-73), 3) := by decide +kernel
theorem dX3_chanceUnseen_116 : decode cX3_chanceUnseen 116 = .ok (.aload_n 0, 1) := by decide +kernel
theorem dX3_chanceUnseen_117 : decode cX3_chanceUnseen 117 = .ok (.getfield 12, 3) := by decide +kernel
theorem dX3_chanceUnseen_120 : decode cX3_chanceUnseen 120 = .ok (.invokevirtual 67, 3) := by decide +kernel
theorem dX3_chanceUnseen_123 : decode cX3_chanceUnseen 123 = .ok (.pop, 1) := by decide +kernel
theorem dX3_chanceUnseen_124 : decode cX3_chanceUnseen 124 = .ok (.iinc 4 1, 3) := by decide +kernel
theorem dX3_chanceUnseen_127 : decode cX3_chanceUnseen 127 = .ok (.goto (-116), 3) := by decide +kernel
theorem dX3_chanceUnseen_130 : decode cX3_chanceUnseen 130 = .ok (.lload_n 2, 1) := by decide +kernel
theorem dX3_chanceUnseen_131 : decode cX3_chanceUnseen 131 = .ok (.lreturn, 1) := by decide +kernel
set_option maxRecDepth 20000 in
theorem ggX4_init_X10_init : GoodIn wsX4_init wsX10_init := goodIn_r _ [17, 18, 2, 3, 19, 8, 20, 21, 22, 23, 24, 25, 26, 27, 28, 29, 30, 31, 32, 33, 34] (by decide +kernel) (by decide +kernel)
set_option maxRecDepth 20000 in
theorem gX4_init_X10_init : GoodIn wsX4_init (wsX10_init) := ggX4_init_X10_init
theorem dX4_init_0 : decode cX4_init 0 = .ok (.aload_n 0, 1) := by decide +kernel
theorem dX4_init_1 : decode cX4_init 1 = .ok (.invokespecial 5, 3) := by decide +kernel
theorem dX4_init_4 : decode cX4_init 4 = .ok (.aload_n 0, 1) := by decide +kernel
theorem dX4_init_5 : decode cX4_init 5 = .ok (.new 11, 3) := by decide +kernel
theorem dX4_init_8 : decode cX4_init 8 = .ok (.dup, 1) := by decide +kernel
theorem dX4_init_9 : decode cX4_init 9 = .ok (.sipush 400, 3) := by decide +kernel
theorem dX4_init_12 : decode cX4_init 12 = .ok (.invokespecial 13, 3) := by decide +kernel
theorem dX4_init_15 : decode cX4_init 15 = .ok (.putfield 16, 3) := by decide +kernel
theorem dX4_init_18 : decode cX4_init 18 = .ok (.aload_n 0, 1) := by decide +kernel
theorem dX4_init_19 : decode cX4_init 19 = .ok (.sipush 401, 3) := by decide +kernel
theorem dX4_init_22 : decode cX4_init 22 = .ok (.newarray .int, 2) := by decide +kernel
theorem dX4_init_24 : decode cX4_init 24 = .ok (.putfield 20, 3) := by decide +kernel
theorem dX4_init_27 : decode cX4_init 27 = .ok (.aload_n 0, 1) := by decide +kernel
theorem dX4_init_28 : decode cX4_init 28 = .ok (.sipush 401, 3) := by decide +kernel
theorem dX4_init_31 : decode cX4_init 31 = .ok (.newarray .int, 2) := by decide +kernel
theorem dX4_init_33 : decode cX4_init 33 = .ok (.putfield 24, 3) := by decide +kernel
theorem dX4_init_36 : decode cX4_init 36 = .ok (.aload_n 0, 1) := by decide +kernel
theorem dX4_init_37 : decode cX4_init 37 = .ok (.iconst 0, 1) := by decide +kernel
theorem dX4_init_38 : decode cX4_init 38 = .ok (.putfield 27, 3) := by decide +kernel
theorem dX4_init_41 : decode cX4_init 41 = .ok (.aload_n 0, 1) := by decide +kernel
theorem dX4_init_42 : decode cX4_init 42 = .ok (.iconst 0, 1) := by decide +kernel
theorem dX4_init_43 : decode cX4_init 43 = .ok (.putfield 31, 3) := by decide +kernel
theorem dX4_init_46 : decode cX4_init 46 = .ok (.aload_n 0, 1) := by decide +kernel
theorem dX4_init_47 : decode cX4_init 47 = .ok (.iconst 0, 1) := by decide +kernel
theorem dX4_init_48 : decode cX4_init 48 = .ok (.putfield 34, 3) := by decide +kernel
theorem dX4_init_51 : decode cX4_init 51 = .ok (.aload_n 0, 1) := by decide +kernel
theorem dX4_init_52 : decode cX4_init 52 = .ok (.iconst 0, 1) := by decide +kernel
theorem dX4_init_53 : decode cX4_init 53 = .ok (.putfield 37, 3) := by decide +kernel
theorem dX4_init_56 : decode cX4_init 56 = .ok (.return_, 1) := by decide +kernel
set_option maxRecDepth 20000 in
theorem ggX4_read_X4_split : GoodIn wsX4_read wsX4_split := goodIn_r _ [13, 14, 15, 16, 12, 17, 18, 19, 20, 21, 22, 23, 24, 25, 26, 27, 28, 29, 30, 31, 32, 33, 34, 35, 36, 37, 38, 39, 40, 41, 42, 43, 44, 45, 46, 47, 48, 49, 50, 51, 52, 53, 54, 55, 56, 57, 58, 59, 60, 61, 62, 63, 64, 65, 66, 67, 68, 69, 70, 71, 72, 73, 74, 75, 76, 77, 78, 79, 80, 81, 165, 166, 167, 168, 169, 170, 171] (by decide +kernel) (by decide +kernel)
set_option maxRecDepth 20000 in
theorem gX4_read_X4_split : GoodIn wsX4_read (wsV RX4 47 RX4 yX4_split wsX4_split) := goodIn_app (goodIn_of _ (by decide +kernel)) ggX4_read_X4_split
set_option maxRecDepth 20000 in
theorem ggX4_read_X10_clear : GoodIn wsX4_read wsX10_clear := goodIn_r _ [86, 87, 88, 89, 90, 91, 92, 93, 172, 173, 174, 175, 176, 177] (by decide +kernel) (by decide +kernel)
set_option maxRecDepth 20000 in
theorem gX4_read_X10_clear : GoodIn wsX4_read (wsV RX4 51 RX10 yX10_clear wsX10_clear) := goodIn_app (goodIn_of _ (by decide +kernel)) ggX4_read_X10_clear
set_option maxRecDepth 20000 in
theorem ggX4_read_X4_readOrder : GoodIn wsX4_read wsX4_readOrder := goodIn_r _ [97, 5, 6, 98, 99, 100, 12, 101, 14, 80, 102, 103, 104, 85, 105, 87, 106, 107, 108, 109, 110, 111, 112, 113, 114, 115, 116, 117, 118, 119, 120, 121, 122, 88, 123, 124, 7, 8, 125, 126, 127, 128, 129, 130, 131, 132, 133, 134, 135, 136, 89, 137, 138, 139, 140, 141, 142, 143, 144, 165, 166, 167, 168, 169, 170, 171, 172, 173, 174, 175, 176, 177] (by decide +kernel) (by decide +kernel)
set_option maxRecDepth 20000 in
theorem gX4_read_X4_readOrder : GoodIn wsX4_read (wsV RX4 54 RX4 yX4_readOrder wsX4_readOrder) := goodIn_app (goodIn_of _ (by decide +kernel)) ggX4_read_X4_readOrder
set_option maxRecDepth 20000 in
theorem ggX4_read_X4_readRule : GoodIn wsX4_read wsX4_readRule := goodIn_r _ [148, 5, 6, 98, 99, 100, 12, 101, 14, 80, 102, 103, 104, 85, 105, 87, 106, 107, 108, 109, 110, 111, 112, 113, 114, 115, 116, 117, 118, 119, 120, 121, 122, 88, 123, 124, 7, 8, 125, 126, 127, 128, 129, 130, 131, 132, 133, 134, 135, 136, 89, 165, 166, 167, 168, 169, 170, 171, 172, 173, 174, 175, 176, 177] (by decide +kernel) (by decide +kernel)
set_option maxRecDepth 20000 in
theorem gX4_read_X4_readRule : GoodIn wsX4_read (wsV RX4 58 RX4 yX4_readRule wsX4_readRule) := goodIn_app (goodIn_of _ (by decide +kernel)) ggX4_read_X4_readRule
set_option maxRecDepth 20000 in
theorem ggX4_read_X4_placeInHand : GoodIn wsX4_read wsX4_placeInHand := goodIn_r _ [152, 6, 14, 81, 165, 166, 167, 168, 169, 170, 171] (by decide +kernel) (by decide +kernel)
set_option maxRecDepth 20000 in
theorem gX4_read_X4_placeInHand : GoodIn wsX4_read (wsV RX4 61 RX4 yX4_placeInHand wsX4_placeInHand) := goodIn_app (goodIn_of _ (by decide +kernel)) ggX4_read_X4_placeInHand
set_option maxRecDepth 20000 in
theorem ggX4_read_X4_inHand : GoodIn wsX4_read wsX4_inHand := goodIn_r _ [101, 6, 14, 80, 165, 166, 167, 168, 169, 170, 171] (by decide +kernel) (by decide +kernel)
set_option maxRecDepth 20000 in
theorem gX4_read_X4_inHand : GoodIn wsX4_read (wsV RX4 65 RX4 yX4_inHand wsX4_inHand) := goodIn_app (goodIn_of _ (by decide +kernel)) ggX4_read_X4_inHand
set_option maxRecDepth 20000 in
theorem ggX4_read_X4_readTest : GoodIn wsX4_read wsX4_readTest := goodIn_r _ [156, 5, 6, 157, 158, 159, 12, 160, 161, 162, 85, 163, 88, 123, 98, 99, 100, 101, 14, 80, 119, 120, 121, 122, 164, 153, 154, 155, 108, 109, 110, 111, 112, 113, 114, 115, 116, 117, 118, 124, 7, 8, 125, 126, 127, 128, 129, 130, 131, 132, 165, 166, 167, 168, 169, 170, 171, 172, 173, 174, 175, 176, 177] (by decide +kernel) (by decide +kernel)
set_option maxRecDepth 20000 in
theorem gX4_read_X4_readTest : GoodIn wsX4_read (wsV RX4 68 RX4 yX4_readTest wsX4_readTest) := goodIn_app (goodIn_of _ (by decide +kernel)) ggX4_read_X4_readTest
set_option maxRecDepth 20000 in
theorem ggX4_read_X10_close : GoodIn wsX4_read wsX10_close := goodIn_r _ [136, 87, 89, 88, 172, 173, 174, 175, 176, 177] (by decide +kernel) (by decide +kernel)
set_option maxRecDepth 20000 in
theorem gX4_read_X10_close : GoodIn wsX4_read (wsV RX4 72 RX10 yX10_close wsX10_close) := goodIn_app (goodIn_of _ (by decide +kernel)) ggX4_read_X10_close
theorem dX4_read_0 : decode cX4_read 0 = .ok (.aload_n 0, 1) := by decide +kernel
theorem dX4_read_1 : decode cX4_read 1 = .ok (.aload_n 1, 1) := by decide +kernel
theorem dX4_read_2 : decode cX4_read 2 = .ok (.iload_n 2, 1) := by decide +kernel
theorem dX4_read_3 : decode cX4_read 3 = .ok (.aload_n 1, 1) := by decide +kernel
theorem dX4_read_4 : decode cX4_read 4 = .ok (.arraylength, 1) := by decide +kernel
theorem dX4_read_5 : decode cX4_read 5 = .ok (.sipush 400, 3) := by decide +kernel
theorem dX4_read_8 : decode cX4_read 8 = .ok (.invokestatic 41, 3) := by decide +kernel
theorem dX4_read_11 : decode cX4_read 11 = .ok (.invokestatic 41, 3) := by decide +kernel
theorem dX4_read_14 : decode cX4_read 14 = .ok (.invokevirtual 47, 3) := by decide +kernel
theorem dX4_read_17 : decode cX4_read 17 = .ok (.aload_n 0, 1) := by decide +kernel
theorem dX4_read_18 : decode cX4_read 18 = .ok (.getfield 16, 3) := by decide +kernel
theorem dX4_read_21 : decode cX4_read 21 = .ok (.invokevirtual 51, 3) := by decide +kernel
theorem dX4_read_24 : decode cX4_read 24 = .ok (.aload_n 0, 1) := by decide +kernel
theorem dX4_read_25 : decode cX4_read 25 = .ok (.iconst 0, 1) := by decide +kernel
theorem dX4_read_26 : decode cX4_read 26 = .ok (.putfield 31, 3) := by decide +kernel
theorem dX4_read_29 : decode cX4_read 29 = .ok (.aload_n 0, 1) := by decide +kernel
theorem dX4_read_30 : decode cX4_read 30 = .ok (.iconst 0, 1) := by decide +kernel
theorem dX4_read_31 : decode cX4_read 31 = .ok (.putfield 34, 3) := by decide +kernel
theorem dX4_read_34 : decode cX4_read 34 = .ok (.aload_n 0, 1) := by decide +kernel
theorem dX4_read_35 : decode cX4_read 35 = .ok (.iload_n 3, 1) := by decide +kernel
theorem dX4_read_36 : decode cX4_read 36 = .ok (.putfield 37, 3) := by decide +kernel
theorem dX4_read_39 : decode cX4_read 39 = .ok (.iconst 0, 1) := by decide +kernel
theorem dX4_read_40 : decode cX4_read 40 = .ok (.istore 4, 2) := by decide +kernel
theorem dX4_read_42 : decode cX4_read 42 = .ok (.iload 4, 2) := by decide +kernel
theorem dX4_read_44 : decode cX4_read 44 = .ok (.bipush 12, 2) := by decide +kernel
theorem dX4_read_46 : decode cX4_read 46 = .ok (.if_icmp .ge 113, 3) := by decide +kernel
theorem dX4_read_49 : decode cX4_read 49 = .ok (.iload_n 3, 1) := by decide +kernel
theorem dX4_read_50 : decode cX4_read 50 = .ok (.ifCond .eq 13, 3) := by decide +kernel
theorem dX4_read_53 : decode cX4_read 53 = .ok (.aload_n 0, 1) := by decide +kernel
theorem dX4_read_54 : decode cX4_read 54 = .ok (.invokevirtual 54, 3) := by decide +kernel
theorem dX4_read_57 : decode cX4_read 57 = .ok (.ifCond .eq 13, 3) := by decide +kernel
theorem dX4_read_60 : decode cX4_read 60 = .ok (.goto 15, 3) := by decide +kernel
theorem dX4_read_63 : decode cX4_read 63 = .ok (.aload_n 0, 1) := by decide +kernel
theorem dX4_read_64 : decode cX4_read 64 = .ok (.invokevirtual 58, 3) := by decide +kernel
theorem dX4_read_67 : decode cX4_read 67 = .ok (.ifCond .ne 8, 3) := by decide +kernel
theorem dX4_read_70 : decode cX4_read 70 = .ok (.aload_n 0, 1) := by decide +kernel
theorem dX4_read_71 : decode cX4_read 71 = .ok (.invokevirtual 61, 3) := by decide +kernel
theorem dX4_read_74 : decode cX4_read 74 = .ok (.ireturn, 1) := by decide +kernel
theorem dX4_read_75 : decode cX4_read 75 = .ok (.aload_n 0, 1) := by decide +kernel
theorem dX4_read_76 : decode cX4_read 76 = .ok (.invokevirtual 65, 3) := by decide +kernel
theorem dX4_read_79 : decode cX4_read 79 = .ok (.sipush 2003, 3) := by decide +kernel
theorem dX4_read_82 : decode cX4_read 82 = .ok (.if_icmp .ne 26, 3) := by decide +kernel
theorem dX4_read_85 : decode cX4_read 85 = .ok (.aload_n 0, 1) := by decide +kernel
theorem dX4_read_86 : decode cX4_read 86 = .ok (.dup, 1) := by decide +kernel
theorem dX4_read_87 : decode cX4_read 87 = .ok (.getfield 31, 3) := by decide +kernel
theorem dX4_read_90 : decode cX4_read 90 = .ok (.iconst 1, 1) := by decide +kernel
theorem dX4_read_91 : decode cX4_read 91 = .ok (.iadd, 1) := by decide +kernel
theorem dX4_read_92 : decode cX4_read 92 = .ok (.putfield 31, 3) := by decide +kernel
theorem dX4_read_95 : decode cX4_read 95 = .ok (.aload_n 0, 1) := by decide +kernel
theorem dX4_read_96 : decode cX4_read 96 = .ok (.iconst 0, 1) := by decide +kernel
theorem dX4_read_97 : decode cX4_read 97 = .ok (.invokevirtual 68, 3) := by decide +kernel
theorem dX4_read_100 : decode cX4_read 100 = .ok (.ifCond .ne 8, 3) := by decide +kernel
theorem dX4_read_103 : decode cX4_read 103 = .ok (.aload_n 0, 1) := by decide +kernel
theorem dX4_read_104 : decode cX4_read 104 = .ok (.invokevirtual 61, 3) := by decide +kernel
theorem dX4_read_107 : decode cX4_read 107 = .ok (.ireturn, 1) := by decide +kernel
theorem dX4_read_108 : decode cX4_read 108 = .ok (.aload_n 0, 1) := by decide +kernel
theorem dX4_read_109 : decode cX4_read 109 = .ok (.getfield 16, 3) := by decide +kernel
theorem dX4_read_112 : decode cX4_read 112 = .ok (.iconst 2, 1) := by decide +kernel
theorem dX4_read_113 : decode cX4_read 113 = .ok (.invokevirtual 72, 3) := by decide +kernel
theorem dX4_read_116 : decode cX4_read 116 = .ok (.aload_n 0, 1) := by decide +kernel
theorem dX4_read_117 : decode cX4_read 117 = .ok (.invokevirtual 65, 3) := by decide +kernel
theorem dX4_read_120 : decode cX4_read 120 = .ok (.sipush 4000, 3) := by decide +kernel
theorem dX4_read_123 : decode cX4_read 123 = .ok (.if_icmp .ne 5, 3) := by decide +kernel
theorem dX4_read_126 : decode cX4_read 126 = .ok (.iconst (-1), 1) := by decide +kernel
theorem dX4_read_127 : decode cX4_read 127 = .ok (.ireturn, 1) := by decide +kernel
theorem dX4_read_128 : decode cX4_read 128 = .ok (.aload_n 0, 1) := by decide +kernel
theorem dX4_read_129 : decode cX4_read 129 = .ok (.invokevirtual 65, 3) := by decide +kernel
theorem dX4_read_132 : decode cX4_read 132 = .ok (.sipush 3059, 3) := by decide +kernel
theorem dX4_read_135 : decode cX4_read 135 = .ok (.if_icmp .eq 8, 3) := by decide +kernel
theorem dX4_read_138 : decode cX4_read 138 = .ok (.aload_n 0, 1) := by decide +kernel
theorem dX4_read_139 : decode cX4_read 139 = .ok (.invokevirtual 61, 3) := by decide +kernel
theorem dX4_read_142 : decode cX4_read 142 = .ok (.ireturn, 1) := by decide +kernel
theorem dX4_read_143 : decode cX4_read 143 = .ok (.aload_n 0, 1) := by decide +kernel
theorem dX4_read_144 : decode cX4_read 144 = .ok (.dup, 1) := by decide +kernel
theorem dX4_read_145 : decode cX4_read 145 = .ok (.getfield 31, 3) := by decide +kernel
theorem dX4_read_148 : decode cX4_read 148 = .ok (.iconst 1, 1) := by decide +kernel
theorem dX4_read_149 : decode cX4_read 149 = .ok (.iadd, 1) := by decide +kernel
theorem dX4_read_150 : decode cX4_read 150 = .ok (.putfield 31, 3) := by decide +kernel
theorem dX4_read_153 : decode cX4_read 153 = .ok (.iinc 4 1, 3) := by decide +kernel
theorem dX4_read_156 : decode cX4_read 156 = .ok (.goto (-114), 3) := by decide +kernel
theorem dX4_read_159 : decode cX4_read 159 = .ok (.aload_n 0, 1) := by decide +kernel
theorem dX4_read_160 : decode cX4_read 160 = .ok (.invokevirtual 61, 3) := by decide +kernel
theorem dX4_read_163 : decode cX4_read 163 = .ok (.ireturn, 1) := by decide +kernel
theorem dX4_inHand_0 : decode cX4_inHand 0 = .ok (.aload_n 0, 1) := by decide +kernel
theorem dX4_inHand_1 : decode cX4_inHand 1 = .ok (.getfield 31, 3) := by decide +kernel
theorem dX4_inHand_4 : decode cX4_inHand 4 = .ok (.ifCond .lt 38, 3) := by decide +kernel
theorem dX4_inHand_7 : decode cX4_inHand 7 = .ok (.aload_n 0, 1) := by decide +kernel
theorem dX4_inHand_8 : decode cX4_inHand 8 = .ok (.getfield 31, 3) := by decide +kernel
theorem dX4_inHand_11 : decode cX4_inHand 11 = .ok (.aload_n 0, 1) := by decide +kernel
theorem dX4_inHand_12 : decode cX4_inHand 12 = .ok (.getfield 27, 3) := by decide +kernel
theorem dX4_inHand_15 : decode cX4_inHand 15 = .ok (.if_icmp .ge 27, 3) := by decide +kernel
theorem dX4_inHand_18 : decode cX4_inHand 18 = .ok (.aload_n 0, 1) := by decide +kernel
theorem dX4_inHand_19 : decode cX4_inHand 19 = .ok (.getfield 31, 3) := by decide +kernel
theorem dX4_inHand_22 : decode cX4_inHand 22 = .ok (.aload_n 0, 1) := by decide +kernel
theorem dX4_inHand_23 : decode cX4_inHand 23 = .ok (.getfield 20, 3) := by decide +kernel
theorem dX4_inHand_26 : decode cX4_inHand 26 = .ok (.arraylength, 1) := by decide +kernel
theorem dX4_inHand_27 : decode cX4_inHand 27 = .ok (.if_icmp .ge 15, 3) := by decide +kernel
theorem dX4_inHand_30 : decode cX4_inHand 30 = .ok (.aload_n 0, 1) := by decide +kernel
theorem dX4_inHand_31 : decode cX4_inHand 31 = .ok (.getfield 20, 3) := by decide +kernel
theorem dX4_inHand_34 : decode cX4_inHand 34 = .ok (.aload_n 0, 1) := by decide +kernel
theorem dX4_inHand_35 : decode cX4_inHand 35 = .ok (.getfield 31, 3) := by decide +kernel
theorem dX4_inHand_38 : decode cX4_inHand 38 = .ok (.iaload, 1) := by decide +kernel
theorem dX4_inHand_39 : decode cX4_inHand 39 = .ok (.goto 6, 3) := by decide +kernel
theorem dX4_inHand_42 : decode cX4_inHand 42 = .ok (.sipush 4000, 3) := by decide +kernel
theorem dX4_inHand_45 : decode cX4_inHand 45 = .ok (.ireturn, 1) := by decide +kernel
theorem dX4_placeInHand_0 : decode cX4_placeInHand 0 = .ok (.aload_n 0, 1) := by decide +kernel
theorem dX4_placeInHand_1 : decode cX4_placeInHand 1 = .ok (.getfield 31, 3) := by decide +kernel
theorem dX4_placeInHand_4 : decode cX4_placeInHand 4 = .ok (.ifCond .lt 38, 3) := by decide +kernel
theorem dX4_placeInHand_7 : decode cX4_placeInHand 7 = .ok (.aload_n 0, 1) := by decide +kernel
theorem dX4_placeInHand_8 : decode cX4_placeInHand 8 = .ok (.getfield 31, 3) := by decide +kernel
theorem dX4_placeInHand_11 : decode cX4_placeInHand 11 = .ok (.aload_n 0, 1) := by decide +kernel
theorem dX4_placeInHand_12 : decode cX4_placeInHand 12 = .ok (.getfield 27, 3) := by decide +kernel
theorem dX4_placeInHand_15 : decode cX4_placeInHand 15 = .ok (.if_icmp .ge 27, 3) := by decide +kernel
theorem dX4_placeInHand_18 : decode cX4_placeInHand 18 = .ok (.aload_n 0, 1) := by decide +kernel
theorem dX4_placeInHand_19 : decode cX4_placeInHand 19 = .ok (.getfield 31, 3) := by decide +kernel
theorem dX4_placeInHand_22 : decode cX4_placeInHand 22 = .ok (.aload_n 0, 1) := by decide +kernel
theorem dX4_placeInHand_23 : decode cX4_placeInHand 23 = .ok (.getfield 24, 3) := by decide +kernel
theorem dX4_placeInHand_26 : decode cX4_placeInHand 26 = .ok (.arraylength, 1) := by decide +kernel
theorem dX4_placeInHand_27 : decode cX4_placeInHand 27 = .ok (.if_icmp .ge 15, 3) := by decide +kernel
theorem dX4_placeInHand_30 : decode cX4_placeInHand 30 = .ok (.aload_n 0, 1) := by decide +kernel
theorem dX4_placeInHand_31 : decode cX4_placeInHand 31 = .ok (.getfield 24, 3) := by decide +kernel
theorem dX4_placeInHand_34 : decode cX4_placeInHand 34 = .ok (.aload_n 0, 1) := by decide +kernel
theorem dX4_placeInHand_35 : decode cX4_placeInHand 35 = .ok (.getfield 31, 3) := by decide +kernel
theorem dX4_placeInHand_38 : decode cX4_placeInHand 38 = .ok (.iaload, 1) := by decide +kernel
theorem dX4_placeInHand_39 : decode cX4_placeInHand 39 = .ok (.goto 4, 3) := by decide +kernel
theorem dX4_placeInHand_42 : decode cX4_placeInHand 42 = .ok (.iconst 0, 1) := by decide +kernel
theorem dX4_placeInHand_43 : decode cX4_placeInHand 43 = .ok (.ireturn, 1) := by decide +kernel
set_option maxRecDepth 20000 in
theorem ggX4_split_X4_isLetter : GoodIn wsX4_split wsX4_isLetter := goodIn_r _ [5] (by decide +kernel) (by decide +kernel)
set_option maxRecDepth 20000 in
theorem gX4_split_X4_isLetter : GoodIn wsX4_split (va_wsS RX4 75 yX4_isLetter wsX4_isLetter) := goodIn_app (goodIn_of _ (by decide +kernel)) ggX4_split_X4_isLetter
set_option maxRecDepth 20000 in
theorem ggX4_split_X4_isDigit : GoodIn wsX4_split wsX4_isDigit := goodIn_r _ [8] (by decide +kernel) (by decide +kernel)
set_option maxRecDepth 20000 in
theorem gX4_split_X4_isDigit : GoodIn wsX4_split (va_wsS RX4 79 yX4_isDigit wsX4_isDigit) := goodIn_app (goodIn_of _ (by decide +kernel)) ggX4_split_X4_isDigit
set_option maxRecDepth 20000 in
theorem ggX4_split_X4_wordToken : GoodIn wsX4_split wsX4_wordToken := goodIn_r _ [11, 12, 13, 14, 15, 16, 17, 18, 19, 20, 21, 22, 23, 24, 25, 26, 27, 28, 29, 30, 31, 32, 33, 34, 35, 36, 37, 38, 39, 40, 41, 42, 43, 44, 45, 46, 47, 48, 49, 50, 51, 52, 53, 54, 55, 56, 57, 58, 59, 60] (by decide +kernel) (by decide +kernel)
set_option maxRecDepth 20000 in
theorem gX4_split_X4_wordToken : GoodIn wsX4_split (va_wsS RX4 82 yX4_wordToken wsX4_wordToken) := goodIn_app (goodIn_of _ (by decide +kernel)) ggX4_split_X4_wordToken
set_option maxRecDepth 20000 in
theorem ggX4_split_X4_numberToken : GoodIn wsX4_split wsX4_numberToken := goodIn_r _ [63] (by decide +kernel) (by decide +kernel)
set_option maxRecDepth 20000 in
theorem gX4_split_X4_numberToken : GoodIn wsX4_split (va_wsS RX4 86 yX4_numberToken wsX4_numberToken) := goodIn_app (goodIn_of _ (by decide +kernel)) ggX4_split_X4_numberToken
set_option maxRecDepth 20000 in
theorem ggX4_split_X4_addToken : GoodIn wsX4_split wsX4_addToken := goodIn_r _ [67, 1, 68, 69, 70, 71, 72, 73, 74, 75, 76] (by decide +kernel) (by decide +kernel)
set_option maxRecDepth 20000 in
theorem gX4_split_X4_addToken : GoodIn wsX4_split (wsV RX4 89 RX4 yX4_addToken wsX4_addToken) := goodIn_app (goodIn_of _ (by decide +kernel)) ggX4_split_X4_addToken
theorem dX4_split_0 : decode cX4_split 0 = .ok (.aload_n 0, 1) := by decide +kernel
theorem dX4_split_1 : decode cX4_split 1 = .ok (.iconst 0, 1) := by decide +kernel
theorem dX4_split_2 : decode cX4_split 2 = .ok (.putfield 27, 3) := by decide +kernel
theorem dX4_split_5 : decode cX4_split 5 = .ok (.iconst 0, 1) := by decide +kernel
theorem dX4_split_6 : decode cX4_split 6 = .ok (.istore_n 3, 1) := by decide +kernel
theorem dX4_split_7 : decode cX4_split 7 = .ok (.iconst 0, 1) := by decide +kernel
theorem dX4_split_8 : decode cX4_split 8 = .ok (.istore 4, 2) := by decide +kernel
theorem dX4_split_10 : decode cX4_split 10 = .ok (.iload 4, 2) := by decide +kernel
theorem dX4_split_12 : decode cX4_split 12 = .ok (.iload_n 2, 1) := by decide +kernel
theorem dX4_split_13 : decode cX4_split 13 = .ok (.if_icmp .ge 150, 3) := by decide +kernel
theorem dX4_split_16 : decode cX4_split 16 = .ok (.iload 4, 2) := by decide +kernel
theorem dX4_split_18 : decode cX4_split 18 = .ok (.iload_n 3, 1) := by decide +kernel
theorem dX4_split_19 : decode cX4_split 19 = .ok (.if_icmp .lt 138, 3) := by decide +kernel
theorem dX4_split_22 : decode cX4_split 22 = .ok (.aload_n 1, 1) := by decide +kernel
theorem dX4_split_23 : decode cX4_split 23 = .ok (.iload 4, 2) := by decide +kernel
theorem dX4_split_25 : decode cX4_split 25 = .ok (.baload, 1) := by decide +kernel
theorem dX4_split_26 : decode cX4_split 26 = .ok (.bipush 32, 2) := by decide +kernel
theorem dX4_split_28 : decode cX4_split 28 = .ok (.if_icmp .ne 6, 3) := by decide +kernel
theorem dX4_split_31 : decode cX4_split 31 = .ok (.goto 126, 3) := by decide +kernel
theorem dX4_split_34 : decode cX4_split 34 = .ok (.iload 4, 2) := by decide +kernel
theorem dX4_split_36 : decode cX4_split 36 = .ok (.iconst 1, 1) := by decide +kernel
theorem dX4_split_37 : decode cX4_split 37 = .ok (.iadd, 1) := by decide +kernel
theorem dX4_split_38 : decode cX4_split 38 = .ok (.istore_n 3, 1) := by decide +kernel
theorem dX4_split_39 : decode cX4_split 39 = .ok (.aload_n 1, 1) := by decide +kernel
theorem dX4_split_40 : decode cX4_split 40 = .ok (.iload 4, 2) := by decide +kernel
theorem dX4_split_42 : decode cX4_split 42 = .ok (.baload, 1) := by decide +kernel
theorem dX4_split_43 : decode cX4_split 43 = .ok (.invokestatic 75, 3) := by decide +kernel
theorem dX4_split_46 : decode cX4_split 46 = .ok (.istore 5, 2) := by decide +kernel
theorem dX4_split_48 : decode cX4_split 48 = .ok (.iload 5, 2) := by decide +kernel
theorem dX4_split_50 : decode cX4_split 50 = .ok (.ifCond .ne 13, 3) := by decide +kernel
theorem dX4_split_53 : decode cX4_split 53 = .ok (.aload_n 1, 1) := by decide +kernel
theorem dX4_split_54 : decode cX4_split 54 = .ok (.iload 4, 2) := by decide +kernel
theorem dX4_split_56 : decode cX4_split 56 = .ok (.baload, 1) := by decide +kernel
theorem dX4_split_57 : decode cX4_split 57 = .ok (.invokestatic 79, 3) := by decide +kernel
theorem dX4_split_60 : decode cX4_split 60 = .ok (.ifCond .eq 40, 3) := by decide +kernel
theorem dX4_split_63 : decode cX4_split 63 = .ok (.iload_n 3, 1) := by decide +kernel
theorem dX4_split_64 : decode cX4_split 64 = .ok (.iload_n 2, 1) := by decide +kernel
theorem dX4_split_65 : decode cX4_split 65 = .ok (.if_icmp .ge 35, 3) := by decide +kernel
theorem dX4_split_68 : decode cX4_split 68 = .ok (.iload 5, 2) := by decide +kernel
theorem dX4_split_70 : decode cX4_split 70 = .ok (.ifCond .eq 15, 3) := by decide +kernel
theorem dX4_split_73 : decode cX4_split 73 = .ok (.aload_n 1, 1) := by decide +kernel
theorem dX4_split_74 : decode cX4_split 74 = .ok (.iload_n 3, 1) := by decide +kernel
theorem dX4_split_75 : decode cX4_split 75 = .ok (.baload, 1) := by decide +kernel
theorem dX4_split_76 : decode cX4_split 76 = .ok (.invokestatic 75, 3) := by decide +kernel
theorem dX4_split_79 : decode cX4_split 79 = .ok (.ifCond .eq 21, 3) := by decide +kernel
theorem dX4_split_82 : decode cX4_split 82 = .ok (.goto 12, 3) := by decide +kernel
theorem dX4_split_85 : decode cX4_split 85 = .ok (.aload_n 1, 1) := by decide +kernel
theorem dX4_split_86 : decode cX4_split 86 = .ok (.iload_n 3, 1) := by decide +kernel
theorem dX4_split_87 : decode cX4_split 87 = .ok (.baload, 1) := by decide +kernel
theorem dX4_split_88 : decode cX4_split 88 = .ok (.invokestatic 79, 3) := by decide +kernel
theorem dX4_split_91 : decode cX4_split 91 = .ok (.ifCond .eq 9, 3) := by decide +kernel
theorem dX4_split_94 : decode cX4_split 94 = .ok (.iinc 3 1, 3) := by decide +kernel
theorem dX4_split_97 : decode cX4_split 97 = .ok (.goto (-34), 3) := by decide +kernel
theorem dX4_split_100 : decode cX4_split 100 = .ok (.iload 5, 2) := by decide +kernel
theorem dX4_split_102 : decode cX4_split 102 = .ok (.ifCond .eq 13, 3) := by decide +kernel
theorem dX4_split_105 : decode cX4_split 105 = .ok (.aload_n 1, 1) := by decide +kernel
theorem dX4_split_106 : decode cX4_split 106 = .ok (.iload 4, 2) := by decide +kernel
theorem dX4_split_108 : decode cX4_split 108 = .ok (.iload_n 3, 1) := by decide +kernel
theorem dX4_split_109 : decode cX4_split 109 = .ok (.invokestatic 82, 3) := by decide +kernel
theorem dX4_split_112 : decode cX4_split 112 = .ok (.goto 35, 3) := by decide +kernel
theorem dX4_split_115 : decode cX4_split 115 = .ok (.aload_n 1, 1) := by decide +kernel
theorem dX4_split_116 : decode cX4_split 116 = .ok (.iload 4, 2) := by decide +kernel
theorem dX4_split_118 : decode cX4_split 118 = .ok (.baload, 1) := by decide +kernel
theorem dX4_split_119 : decode cX4_split 119 = .ok (.invokestatic 79, 3) := by decide +kernel
theorem dX4_split_122 : decode cX4_split 122 = .ok (.ifCond .eq 13, 3) := by decide +kernel
theorem dX4_split_125 : decode cX4_split 125 = .ok (.aload_n 1, 1) := by decide +kernel
theorem dX4_split_126 : decode cX4_split 126 = .ok (.iload 4, 2) := by decide +kernel
theorem dX4_split_128 : decode cX4_split 128 = .ok (.iload_n 3, 1) := by decide +kernel
theorem dX4_split_129 : decode cX4_split 129 = .ok (.invokestatic 86, 3) := by decide +kernel
theorem dX4_split_132 : decode cX4_split 132 = .ok (.goto 15, 3) := by decide +kernel
theorem dX4_split_135 : decode cX4_split 135 = .ok (.sipush 3000, 3) := by decide +kernel
theorem dX4_split_138 : decode cX4_split 138 = .ok (.aload_n 1, 1) := by decide +kernel
theorem dX4_split_139 : decode cX4_split 139 = .ok (.iload 4, 2) := by decide +kernel
theorem dX4_split_141 : decode cX4_split 141 = .ok (.baload, 1) := by decide +kernel
theorem dX4_split_142 : decode cX4_split 142 = .ok (.sipush 255, 3) := by decide +kernel
theorem dX4_split_145 : decode cX4_split 145 = .ok (.iand, 1) := by decide +kernel
theorem dX4_split_146 : decode cX4_split 146 = .ok (.iadd, 1) := by decide +kernel
theorem dX4_split_147 : decode cX4_split 147 = .ok (.istore 6, 2) := by decide +kernel
theorem dX4_split_149 : decode cX4_split 149 = .ok (.aload_n 0, 1) := by decide +kernel
theorem dX4_split_150 : decode cX4_split 150 = .ok (.iload 6, 2) := by decide +kernel
theorem dX4_split_152 : decode cX4_split 152 = .ok (.iload 4, 2) := by decide +kernel
theorem dX4_split_154 : decode cX4_split 154 = .ok (.invokevirtual 89, 3) := by decide +kernel
theorem dX4_split_157 : decode cX4_split 157 = .ok (.iinc 4 1, 3) := by decide +kernel
theorem dX4_split_160 : decode cX4_split 160 = .ok (.goto (-150), 3) := by decide +kernel
theorem dX4_split_163 : decode cX4_split 163 = .ok (.aload_n 0, 1) := by decide +kernel
theorem dX4_split_164 : decode cX4_split 164 = .ok (.sipush 4000, 3) := by decide +kernel
theorem dX4_split_167 : decode cX4_split 167 = .ok (.iload_n 2, 1) := by decide +kernel
theorem dX4_split_168 : decode cX4_split 168 = .ok (.invokevirtual 89, 3) := by decide +kernel
theorem dX4_split_171 : decode cX4_split 171 = .ok (.return_, 1) := by decide +kernel
theorem dX4_addToken_0 : decode cX4_addToken 0 = .ok (.aload_n 0, 1) := by decide +kernel
theorem dX4_addToken_1 : decode cX4_addToken 1 = .ok (.getfield 27, 3) := by decide +kernel
theorem dX4_addToken_4 : decode cX4_addToken 4 = .ok (.ifCond .lt 45, 3) := by decide +kernel
theorem dX4_addToken_7 : decode cX4_addToken 7 = .ok (.aload_n 0, 1) := by decide +kernel
theorem dX4_addToken_8 : decode cX4_addToken 8 = .ok (.getfield 27, 3) := by decide +kernel
theorem dX4_addToken_11 : decode cX4_addToken 11 = .ok (.aload_n 0, 1) := by decide +kernel
theorem dX4_addToken_12 : decode cX4_addToken 12 = .ok (.getfield 20, 3) := by decide +kernel
theorem dX4_addToken_15 : decode cX4_addToken 15 = .ok (.arraylength, 1) := by decide +kernel
theorem dX4_addToken_16 : decode cX4_addToken 16 = .ok (.if_icmp .ge 33, 3) := by decide +kernel
theorem dX4_addToken_19 : decode cX4_addToken 19 = .ok (.aload_n 0, 1) := by decide +kernel
theorem dX4_addToken_20 : decode cX4_addToken 20 = .ok (.getfield 20, 3) := by decide +kernel
theorem dX4_addToken_23 : decode cX4_addToken 23 = .ok (.aload_n 0, 1) := by decide +kernel
theorem dX4_addToken_24 : decode cX4_addToken 24 = .ok (.getfield 27, 3) := by decide +kernel
theorem dX4_addToken_27 : decode cX4_addToken 27 = .ok (.iload_n 1, 1) := by decide +kernel
theorem dX4_addToken_28 : decode cX4_addToken 28 = .ok (.iastore, 1) := by decide +kernel
theorem dX4_addToken_29 : decode cX4_addToken 29 = .ok (.aload_n 0, 1) := by decide +kernel
theorem dX4_addToken_30 : decode cX4_addToken 30 = .ok (.getfield 24, 3) := by decide +kernel
theorem dX4_addToken_33 : decode cX4_addToken 33 = .ok (.aload_n 0, 1) := by decide +kernel
theorem dX4_addToken_34 : decode cX4_addToken 34 = .ok (.getfield 27, 3) := by decide +kernel
theorem dX4_addToken_37 : decode cX4_addToken 37 = .ok (.iload_n 2, 1) := by decide +kernel
theorem dX4_addToken_38 : decode cX4_addToken 38 = .ok (.iastore, 1) := by decide +kernel
theorem dX4_addToken_39 : decode cX4_addToken 39 = .ok (.aload_n 0, 1) := by decide +kernel
theorem dX4_addToken_40 : decode cX4_addToken 40 = .ok (.dup, 1) := by decide +kernel
theorem dX4_addToken_41 : decode cX4_addToken 41 = .ok (.getfield 27, 3) := by decide +kernel
theorem dX4_addToken_44 : decode cX4_addToken 44 = .ok (.iconst 1, 1) := by decide +kernel
theorem dX4_addToken_45 : decode cX4_addToken 45 = .ok (.iadd, 1) := by decide +kernel
theorem dX4_addToken_46 : decode cX4_addToken 46 = .ok (.putfield 27, 3) := by decide +kernel
theorem dX4_addToken_49 : decode cX4_addToken 49 = .ok (.return_, 1) := by decide +kernel
theorem dX4_isLetter_0 : decode cX4_isLetter 0 = .ok (.iload_n 0, 1) := by decide +kernel
theorem dX4_isLetter_1 : decode cX4_isLetter 1 = .ok (.bipush 97, 2) := by decide +kernel
theorem dX4_isLetter_3 : decode cX4_isLetter 3 = .ok (.if_icmp .lt 13, 3) := by decide +kernel
theorem dX4_isLetter_6 : decode cX4_isLetter 6 = .ok (.iload_n 0, 1) := by decide +kernel
theorem dX4_isLetter_7 : decode cX4_isLetter 7 = .ok (.bipush 122, 2) := by decide +kernel
theorem dX4_isLetter_9 : decode cX4_isLetter 9 = .ok (.if_icmp .gt 7, 3) := by decide +kernel
theorem dX4_isLetter_12 : decode cX4_isLetter 12 = .ok (.iconst 1, 1) := by decide +kernel
theorem dX4_isLetter_13 : decode cX4_isLetter 13 = .ok (.goto 4, 3) := by decide +kernel
theorem dX4_isLetter_16 : decode cX4_isLetter 16 = .ok (.iconst 0, 1) := by decide +kernel
theorem dX4_isLetter_17 : decode cX4_isLetter 17 = .ok (.ireturn, 1) := by decide +kernel
theorem dX4_isDigit_0 : decode cX4_isDigit 0 = .ok (.iload_n 0, 1) := by decide +kernel
theorem dX4_isDigit_1 : decode cX4_isDigit 1 = .ok (.bipush 48, 2) := by decide +kernel
theorem dX4_isDigit_3 : decode cX4_isDigit 3 = .ok (.if_icmp .lt 13, 3) := by decide +kernel
theorem dX4_isDigit_6 : decode cX4_isDigit 6 = .ok (.iload_n 0, 1) := by decide +kernel
theorem dX4_isDigit_7 : decode cX4_isDigit 7 = .ok (.bipush 57, 2) := by decide +kernel
theorem dX4_isDigit_9 : decode cX4_isDigit 9 = .ok (.if_icmp .gt 7, 3) := by decide +kernel
theorem dX4_isDigit_12 : decode cX4_isDigit 12 = .ok (.iconst 1, 1) := by decide +kernel
theorem dX4_isDigit_13 : decode cX4_isDigit 13 = .ok (.goto 4, 3) := by decide +kernel
theorem dX4_isDigit_16 : decode cX4_isDigit 16 = .ok (.iconst 0, 1) := by decide +kernel
theorem dX4_isDigit_17 : decode cX4_isDigit 17 = .ok (.ireturn, 1) := by decide +kernel
theorem dX4_numberToken_0 : decode cX4_numberToken 0 = .ok (.iconst 0, 1) := by decide +kernel
theorem dX4_numberToken_1 : decode cX4_numberToken 1 = .ok (.istore_n 3, 1) := by decide +kernel
theorem dX4_numberToken_2 : decode cX4_numberToken 2 = .ok (.iload_n 1, 1) := by decide +kernel
theorem dX4_numberToken_3 : decode cX4_numberToken 3 = .ok (.istore 4, 2) := by decide +kernel
theorem dX4_numberToken_5 : decode cX4_numberToken 5 = .ok (.iload 4, 2) := by decide +kernel
theorem dX4_numberToken_7 : decode cX4_numberToken 7 = .ok (.iload_n 2, 1) := by decide +kernel
theorem dX4_numberToken_8 : decode cX4_numberToken 8 = .ok (.if_icmp .ge 29, 3) := by decide +kernel
theorem dX4_numberToken_11 : decode cX4_numberToken 11 = .ok (.iload_n 3, 1) := by decide +kernel
theorem dX4_numberToken_12 : decode cX4_numberToken 12 = .ok (.sipush 1000, 3) := by decide +kernel
theorem dX4_numberToken_15 : decode cX4_numberToken 15 = .ok (.if_icmp .gt 22, 3) := by decide +kernel
theorem dX4_numberToken_18 : decode cX4_numberToken 18 = .ok (.iload_n 3, 1) := by decide +kernel
theorem dX4_numberToken_19 : decode cX4_numberToken 19 = .ok (.bipush 10, 2) := by decide +kernel
theorem dX4_numberToken_21 : decode cX4_numberToken 21 = .ok (.imul, 1) := by decide +kernel
theorem dX4_numberToken_22 : decode cX4_numberToken 22 = .ok (.aload_n 0, 1) := by decide +kernel
theorem dX4_numberToken_23 : decode cX4_numberToken 23 = .ok (.iload 4, 2) := by decide +kernel
theorem dX4_numberToken_25 : decode cX4_numberToken 25 = .ok (.baload, 1) := by decide +kernel
theorem dX4_numberToken_26 : decode cX4_numberToken 26 = .ok (.iadd, 1) := by decide +kernel
theorem dX4_numberToken_27 : decode cX4_numberToken 27 = .ok (.bipush 48, 2) := by decide +kernel
theorem dX4_numberToken_29 : decode cX4_numberToken 29 = .ok (.isub, 1) := by decide +kernel
theorem dX4_numberToken_30 : decode cX4_numberToken 30 = .ok (.istore_n 3, 1) := by decide +kernel
theorem dX4_numberToken_31 : decode cX4_numberToken 31 = .ok (.iinc 4 1, 3) := by decide +kernel
theorem dX4_numberToken_34 : decode cX4_numberToken 34 = .ok (.goto (-29), 3) := by decide +kernel
theorem dX4_numberToken_37 : decode cX4_numberToken 37 = .ok (.iload_n 3, 1) := by decide +kernel
theorem dX4_numberToken_38 : decode cX4_numberToken 38 = .ok (.sipush 1000, 3) := by decide +kernel
theorem dX4_numberToken_41 : decode cX4_numberToken 41 = .ok (.if_icmp .le 9, 3) := by decide +kernel
theorem dX4_numberToken_44 : decode cX4_numberToken 44 = .ok (.sipush 1001, 3) := by decide +kernel
theorem dX4_numberToken_47 : decode cX4_numberToken 47 = .ok (.goto 4, 3) := by decide +kernel
theorem dX4_numberToken_50 : decode cX4_numberToken 50 = .ok (.iload_n 3, 1) := by decide +kernel
theorem dX4_numberToken_51 : decode cX4_numberToken 51 = .ok (.ireturn, 1) := by decide +kernel
set_option maxRecDepth 20000 in
theorem ggX4_wordToken_J0_length_8abf5 : GoodIn wsX4_wordToken wsJ0_length_8abf5 := goodIn_r _ [5, 6, 7, 8, 9, 4, 10, 11, 12] (by decide +kernel) (by decide +kernel)
set_option maxRecDepth 20000 in
theorem gX4_wordToken_J0_length_8abf5 : GoodIn wsX4_wordToken (wsV RX4 95 RJ0 yJ0_length_8abf5 wsJ0_length_8abf5) := goodIn_app (goodIn_of _ (by decide +kernel)) ggX4_wordToken_J0_length_8abf5
set_option maxRecDepth 20000 in
theorem ggX4_wordToken_J0_charAt_5068e : GoodIn wsX4_wordToken wsJ0_charAt_5068e := goodIn_r _ [16, 6, 17, 18, 19, 4, 20, 11, 12, 21, 22, 23, 24, 25, 26, 27, 28, 29, 30, 31, 32, 33, 34, 35, 36, 37, 38, 39, 40, 41, 42, 43, 44, 45, 46, 47, 48, 49] (by decide +kernel) (by decide +kernel)
set_option maxRecDepth 20000 in
theorem gX4_wordToken_J0_charAt_5068e : GoodIn wsX4_wordToken (wsV RX4 100 RJ0 yJ0_charAt_5068e wsJ0_charAt_5068e) := goodIn_app (goodIn_of _ (by decide +kernel)) ggX4_wordToken_J0_charAt_5068e
theorem dX4_wordToken_0 : decode cX4_wordToken 0 = .ok (.sipush 2000, 3) := by decide +kernel
theorem dX4_wordToken_3 : decode cX4_wordToken 3 = .ok (.istore_n 3, 1) := by decide +kernel
theorem dX4_wordToken_4 : decode cX4_wordToken 4 = .ok (.iload_n 1, 1) := by decide +kernel
theorem dX4_wordToken_5 : decode cX4_wordToken 5 = .ok (.istore 4, 2) := by decide +kernel
theorem dX4_wordToken_7 : decode cX4_wordToken 7 = .ok (.iconst 1, 1) := by decide +kernel
theorem dX4_wordToken_8 : decode cX4_wordToken 8 = .ok (.istore 5, 2) := by decide +kernel
theorem dX4_wordToken_10 : decode cX4_wordToken 10 = .ok (.iconst 0, 1) := by decide +kernel
theorem dX4_wordToken_11 : decode cX4_wordToken 11 = .ok (.istore 6, 2) := by decide +kernel
theorem dX4_wordToken_13 : decode cX4_wordToken 13 = .ok (.iload 6, 2) := by decide +kernel
theorem dX4_wordToken_15 : decode cX4_wordToken 15 = .ok (.ldc 93, 2) := by decide +kernel
theorem dX4_wordToken_17 : decode cX4_wordToken 17 = .ok (.invokevirtual 95, 3) := by decide +kernel
theorem dX4_wordToken_20 : decode cX4_wordToken 20 = .ok (.if_icmp .ge 80, 3) := by decide +kernel
theorem dX4_wordToken_23 : decode cX4_wordToken 23 = .ok (.ldc 93, 2) := by decide +kernel
theorem dX4_wordToken_25 : decode cX4_wordToken 25 = .ok (.iload 6, 2) := by decide +kernel
theorem dX4_wordToken_27 : decode cX4_wordToken 27 = .ok (.invokevirtual 100, 3) := by decide +kernel
theorem dX4_wordToken_30 : decode cX4_wordToken 30 = .ok (.istore 7, 2) := by decide +kernel
theorem dX4_wordToken_32 : decode cX4_wordToken 32 = .ok (.iload 7, 2) := by decide +kernel
theorem dX4_wordToken_34 : decode cX4_wordToken 34 = .ok (.bipush 32, 2) := by decide +kernel
theorem dX4_wordToken_36 : decode cX4_wordToken 36 = .ok (.if_icmp .eq 36, 3) := by decide +kernel
theorem dX4_wordToken_39 : decode cX4_wordToken 39 = .ok (.iload 5, 2) := by decide +kernel
theorem dX4_wordToken_41 : decode cX4_wordToken 41 = .ok (.ifCond .eq 22, 3) := by decide +kernel
theorem dX4_wordToken_44 : decode cX4_wordToken 44 = .ok (.iload 4, 2) := by decide +kernel
theorem dX4_wordToken_46 : decode cX4_wordToken 46 = .ok (.iload_n 2, 1) := by decide +kernel
theorem dX4_wordToken_47 : decode cX4_wordToken 47 = .ok (.if_icmp .ge 16, 3) := by decide +kernel
theorem dX4_wordToken_50 : decode cX4_wordToken 50 = .ok (.aload_n 0, 1) := by decide +kernel
theorem dX4_wordToken_51 : decode cX4_wordToken 51 = .ok (.iload 4, 2) := by decide +kernel
theorem dX4_wordToken_53 : decode cX4_wordToken 53 = .ok (.baload, 1) := by decide +kernel
theorem dX4_wordToken_54 : decode cX4_wordToken 54 = .ok (.iload 7, 2) := by decide +kernel
theorem dX4_wordToken_56 : decode cX4_wordToken 56 = .ok (.if_icmp .ne 7, 3) := by decide +kernel
theorem dX4_wordToken_59 : decode cX4_wordToken 59 = .ok (.iconst 1, 1) := by decide +kernel
theorem dX4_wordToken_60 : decode cX4_wordToken 60 = .ok (.goto 4, 3) := by decide +kernel
theorem dX4_wordToken_63 : decode cX4_wordToken 63 = .ok (.iconst 0, 1) := by decide +kernel
theorem dX4_wordToken_64 : decode cX4_wordToken 64 = .ok (.istore 5, 2) := by decide +kernel
theorem dX4_wordToken_66 : decode cX4_wordToken 66 = .ok (.iinc 4 1, 3) := by decide +kernel
theorem dX4_wordToken_69 : decode cX4_wordToken 69 = .ok (.goto 25, 3) := by decide +kernel
theorem dX4_wordToken_72 : decode cX4_wordToken 72 = .ok (.iload 5, 2) := by decide +kernel
theorem dX4_wordToken_74 : decode cX4_wordToken 74 = .ok (.ifCond .eq 11, 3) := by decide +kernel
theorem dX4_wordToken_77 : decode cX4_wordToken 77 = .ok (.iload 4, 2) := by decide +kernel
theorem dX4_wordToken_79 : decode cX4_wordToken 79 = .ok (.iload_n 2, 1) := by decide +kernel
theorem dX4_wordToken_80 : decode cX4_wordToken 80 = .ok (.if_icmp .ne 5, 3) := by decide +kernel
theorem dX4_wordToken_83 : decode cX4_wordToken 83 = .ok (.iload_n 3, 1) := by decide +kernel
theorem dX4_wordToken_84 : decode cX4_wordToken 84 = .ok (.ireturn, 1) := by decide +kernel
theorem dX4_wordToken_85 : decode cX4_wordToken 85 = .ok (.iinc 3 1, 3) := by decide +kernel
theorem dX4_wordToken_88 : decode cX4_wordToken 88 = .ok (.iload_n 1, 1) := by decide +kernel
theorem dX4_wordToken_89 : decode cX4_wordToken 89 = .ok (.istore 4, 2) := by decide +kernel
theorem dX4_wordToken_91 : decode cX4_wordToken 91 = .ok (.iconst 1, 1) := by decide +kernel
theorem dX4_wordToken_92 : decode cX4_wordToken 92 = .ok (.istore 5, 2) := by decide +kernel
theorem dX4_wordToken_94 : decode cX4_wordToken 94 = .ok (.iinc 6 1, 3) := by decide +kernel
theorem dX4_wordToken_97 : decode cX4_wordToken 97 = .ok (.goto (-84), 3) := by decide +kernel
theorem dX4_wordToken_100 : decode cX4_wordToken 100 = .ok (.sipush 1002, 3) := by decide +kernel
theorem dX4_wordToken_103 : decode cX4_wordToken 103 = .ok (.ireturn, 1) := by decide +kernel
set_option maxRecDepth 20000 in
theorem ggX4_readRule_X4_inHand : GoodIn wsX4_readRule wsX4_inHand := goodIn_r _ [7, 2, 8, 9, 51, 52, 53, 54, 55, 56, 57] (by decide +kernel) (by decide +kernel)
set_option maxRecDepth 20000 in
theorem gX4_readRule_X4_inHand : GoodIn wsX4_readRule (wsV RX4 65 RX4 yX4_inHand wsX4_inHand) := goodIn_app (goodIn_of _ (by decide +kernel)) ggX4_readRule_X4_inHand
set_option maxRecDepth 20000 in
theorem ggX4_readRule_X10_open : GoodIn wsX4_readRule wsX10_open := goodIn_r _ [14, 15, 16, 17, 58, 59, 60, 61, 62, 63] (by decide +kernel) (by decide +kernel)
set_option maxRecDepth 20000 in
theorem gX4_readRule_X10_open : GoodIn wsX4_readRule (wsV RX4 104 RX10 yX10_open wsX10_open) := goodIn_app (goodIn_of _ (by decide +kernel)) ggX4_readRule_X10_open
set_option maxRecDepth 20000 in
theorem ggX4_readRule_X4_readSum : GoodIn wsX4_readRule wsX4_readSum := goodIn_r _ [21, 2, 22, 23, 24, 6, 25, 26, 27, 28, 1, 29, 30, 31, 13, 32, 33, 34, 3, 4, 5, 7, 8, 9, 35, 36, 37, 18, 19, 20, 38, 39, 40, 41, 42, 43, 44, 45, 51, 52, 53, 54, 55, 56, 57, 58, 59, 60, 61, 62, 63] (by decide +kernel) (by decide +kernel)
set_option maxRecDepth 20000 in
theorem gX4_readRule_X4_readSum : GoodIn wsX4_readRule (wsV RX4 107 RX4 yX4_readSum wsX4_readSum) := goodIn_app (goodIn_of _ (by decide +kernel)) ggX4_readRule_X4_readSum
set_option maxRecDepth 20000 in
theorem ggX4_readRule_X10_close : GoodIn wsX4_readRule wsX10_close := goodIn_r _ [49, 15, 50, 33, 58, 59, 60, 61, 62, 63] (by decide +kernel) (by decide +kernel)
set_option maxRecDepth 20000 in
theorem gX4_readRule_X10_close : GoodIn wsX4_readRule (wsV RX4 72 RX10 yX10_close wsX10_close) := goodIn_app (goodIn_of _ (by decide +kernel)) ggX4_readRule_X10_close
theorem dX4_readRule_0 : decode cX4_readRule 0 = .ok (.aload_n 0, 1) := by decide +kernel
theorem dX4_readRule_1 : decode cX4_readRule 1 = .ok (.invokevirtual 65, 3) := by decide +kernel
theorem dX4_readRule_4 : decode cX4_readRule 4 = .ok (.sipush 2004, 3) := by decide +kernel
theorem dX4_readRule_7 : decode cX4_readRule 7 = .ok (.isub, 1) := by decide +kernel
theorem dX4_readRule_8 : decode cX4_readRule 8 = .ok (.istore_n 1, 1) := by decide +kernel
theorem dX4_readRule_9 : decode cX4_readRule 9 = .ok (.iload_n 1, 1) := by decide +kernel
theorem dX4_readRule_10 : decode cX4_readRule 10 = .ok (.ifCond .lt 19, 3) := by decide +kernel
theorem dX4_readRule_13 : decode cX4_readRule 13 = .ok (.iload_n 1, 1) := by decide +kernel
theorem dX4_readRule_14 : decode cX4_readRule 14 = .ok (.iconst 4, 1) := by decide +kernel
theorem dX4_readRule_15 : decode cX4_readRule 15 = .ok (.if_icmp .ge 14, 3) := by decide +kernel
theorem dX4_readRule_18 : decode cX4_readRule 18 = .ok (.aload_n 0, 1) := by decide +kernel
theorem dX4_readRule_19 : decode cX4_readRule 19 = .ok (.getfield 16, 3) := by decide +kernel
theorem dX4_readRule_22 : decode cX4_readRule 22 = .ok (.iload_n 1, 1) := by decide +kernel
theorem dX4_readRule_23 : decode cX4_readRule 23 = .ok (.invokevirtual 104, 3) := by decide +kernel
theorem dX4_readRule_26 : decode cX4_readRule 26 = .ok (.ifCond .ne 5, 3) := by decide +kernel
theorem dX4_readRule_29 : decode cX4_readRule 29 = .ok (.iconst 0, 1) := by decide +kernel
theorem dX4_readRule_30 : decode cX4_readRule 30 = .ok (.ireturn, 1) := by decide +kernel
theorem dX4_readRule_31 : decode cX4_readRule 31 = .ok (.aload_n 0, 1) := by decide +kernel
theorem dX4_readRule_32 : decode cX4_readRule 32 = .ok (.dup, 1) := by decide +kernel
theorem dX4_readRule_33 : decode cX4_readRule 33 = .ok (.getfield 31, 3) := by decide +kernel
theorem dX4_readRule_36 : decode cX4_readRule 36 = .ok (.iconst 1, 1) := by decide +kernel
theorem dX4_readRule_37 : decode cX4_readRule 37 = .ok (.iadd, 1) := by decide +kernel
theorem dX4_readRule_38 : decode cX4_readRule 38 = .ok (.putfield 31, 3) := by decide +kernel
theorem dX4_readRule_41 : decode cX4_readRule 41 = .ok (.iload_n 1, 1) := by decide +kernel
theorem dX4_readRule_42 : decode cX4_readRule 42 = .ok (.iconst 3, 1) := by decide +kernel
theorem dX4_readRule_43 : decode cX4_readRule 43 = .ok (.if_icmp .eq 13, 3) := by decide +kernel
theorem dX4_readRule_46 : decode cX4_readRule 46 = .ok (.aload_n 0, 1) := by decide +kernel
theorem dX4_readRule_47 : decode cX4_readRule 47 = .ok (.iconst 0, 1) := by decide +kernel
theorem dX4_readRule_48 : decode cX4_readRule 48 = .ok (.invokevirtual 107, 3) := by decide +kernel
theorem dX4_readRule_51 : decode cX4_readRule 51 = .ok (.ifCond .ne 5, 3) := by decide +kernel
theorem dX4_readRule_54 : decode cX4_readRule 54 = .ok (.iconst 0, 1) := by decide +kernel
theorem dX4_readRule_55 : decode cX4_readRule 55 = .ok (.ireturn, 1) := by decide +kernel
theorem dX4_readRule_56 : decode cX4_readRule 56 = .ok (.aload_n 0, 1) := by decide +kernel
theorem dX4_readRule_57 : decode cX4_readRule 57 = .ok (.getfield 16, 3) := by decide +kernel
theorem dX4_readRule_60 : decode cX4_readRule 60 = .ok (.iconst 0, 1) := by decide +kernel
theorem dX4_readRule_61 : decode cX4_readRule 61 = .ok (.invokevirtual 72, 3) := by decide +kernel
theorem dX4_readRule_64 : decode cX4_readRule 64 = .ok (.aload_n 0, 1) := by decide +kernel
theorem dX4_readRule_65 : decode cX4_readRule 65 = .ok (.getfield 16, 3) := by decide +kernel
theorem dX4_readRule_68 : decode cX4_readRule 68 = .ok (.iconst 1, 1) := by decide +kernel
theorem dX4_readRule_69 : decode cX4_readRule 69 = .ok (.invokevirtual 72, 3) := by decide +kernel
theorem dX4_readRule_72 : decode cX4_readRule 72 = .ok (.iconst 1, 1) := by decide +kernel
theorem dX4_readRule_73 : decode cX4_readRule 73 = .ok (.ireturn, 1) := by decide +kernel
set_option maxRecDepth 20000 in
theorem ggX4_readOrder_X4_inHand : GoodIn wsX4_readOrder wsX4_inHand := goodIn_r _ [7, 2, 8, 9, 59, 60, 61, 62, 63, 64, 65] (by decide +kernel) (by decide +kernel)
set_option maxRecDepth 20000 in
theorem gX4_readOrder_X4_inHand : GoodIn wsX4_readOrder (wsV RX4 65 RX4 yX4_inHand wsX4_inHand) := goodIn_app (goodIn_of _ (by decide +kernel)) ggX4_readOrder_X4_inHand
set_option maxRecDepth 20000 in
theorem ggX4_readOrder_X10_open : GoodIn wsX4_readOrder wsX10_open := goodIn_r _ [14, 15, 16, 17, 66, 67, 68, 69, 70, 71] (by decide +kernel) (by decide +kernel)
set_option maxRecDepth 20000 in
theorem gX4_readOrder_X10_open : GoodIn wsX4_readOrder (wsV RX4 104 RX10 yX10_open wsX10_open) := goodIn_app (goodIn_of _ (by decide +kernel)) ggX4_readOrder_X10_open
set_option maxRecDepth 20000 in
theorem ggX4_readOrder_X4_readSum : GoodIn wsX4_readOrder wsX4_readSum := goodIn_r _ [21, 2, 22, 23, 24, 6, 25, 26, 27, 28, 1, 29, 30, 31, 13, 32, 33, 34, 3, 4, 5, 7, 8, 9, 35, 36, 37, 18, 19, 20, 38, 39, 40, 41, 42, 43, 44, 45, 59, 60, 61, 62, 63, 64, 65, 66, 67, 68, 69, 70, 71] (by decide +kernel) (by decide +kernel)
set_option maxRecDepth 20000 in
theorem gX4_readOrder_X4_readSum : GoodIn wsX4_readOrder (wsV RX4 107 RX4 yX4_readSum wsX4_readSum) := goodIn_app (goodIn_of _ (by decide +kernel)) ggX4_readOrder_X4_readSum
set_option maxRecDepth 20000 in
theorem ggX4_readOrder_X10_close : GoodIn wsX4_readOrder wsX10_close := goodIn_r _ [49, 15, 50, 33, 66, 67, 68, 69, 70, 71] (by decide +kernel) (by decide +kernel)
set_option maxRecDepth 20000 in
theorem gX4_readOrder_X10_close : GoodIn wsX4_readOrder (wsV RX4 72 RX10 yX10_close wsX10_close) := goodIn_app (goodIn_of _ (by decide +kernel)) ggX4_readOrder_X10_close
set_option maxRecDepth 20000 in
theorem ggX4_readOrder_X4_readTimes : GoodIn wsX4_readOrder wsX4_readTimes := goodIn_r _ [54, 2, 1, 3, 4, 5, 6, 7, 8, 9, 55, 56, 57, 13, 58, 15, 17, 59, 60, 61, 62, 63, 64, 65, 66, 67, 68, 69, 70, 71] (by decide +kernel) (by decide +kernel)
set_option maxRecDepth 20000 in
theorem gX4_readOrder_X4_readTimes : GoodIn wsX4_readOrder (wsV RX4 110 RX4 yX4_readTimes wsX4_readTimes) := goodIn_app (goodIn_of _ (by decide +kernel)) ggX4_readOrder_X4_readTimes
theorem dX4_readOrder_0 : decode cX4_readOrder 0 = .ok (.aload_n 0, 1) := by decide +kernel
theorem dX4_readOrder_1 : decode cX4_readOrder 1 = .ok (.invokevirtual 65, 3) := by decide +kernel
theorem dX4_readOrder_4 : decode cX4_readOrder 4 = .ok (.sipush 2018, 3) := by decide +kernel
theorem dX4_readOrder_7 : decode cX4_readOrder 7 = .ok (.isub, 1) := by decide +kernel
theorem dX4_readOrder_8 : decode cX4_readOrder 8 = .ok (.istore_n 1, 1) := by decide +kernel
theorem dX4_readOrder_9 : decode cX4_readOrder 9 = .ok (.iload_n 1, 1) := by decide +kernel
theorem dX4_readOrder_10 : decode cX4_readOrder 10 = .ok (.ifCond .lt 19, 3) := by decide +kernel
theorem dX4_readOrder_13 : decode cX4_readOrder 13 = .ok (.iload_n 1, 1) := by decide +kernel
theorem dX4_readOrder_14 : decode cX4_readOrder 14 = .ok (.iconst 4, 1) := by decide +kernel
theorem dX4_readOrder_15 : decode cX4_readOrder 15 = .ok (.if_icmp .ge 14, 3) := by decide +kernel
theorem dX4_readOrder_18 : decode cX4_readOrder 18 = .ok (.aload_n 0, 1) := by decide +kernel
theorem dX4_readOrder_19 : decode cX4_readOrder 19 = .ok (.getfield 16, 3) := by decide +kernel
theorem dX4_readOrder_22 : decode cX4_readOrder 22 = .ok (.iload_n 1, 1) := by decide +kernel
theorem dX4_readOrder_23 : decode cX4_readOrder 23 = .ok (.invokevirtual 104, 3) := by decide +kernel
theorem dX4_readOrder_26 : decode cX4_readOrder 26 = .ok (.ifCond .ne 5, 3) := by decide +kernel
theorem dX4_readOrder_29 : decode cX4_readOrder 29 = .ok (.iconst 0, 1) := by decide +kernel
theorem dX4_readOrder_30 : decode cX4_readOrder 30 = .ok (.ireturn, 1) := by decide +kernel
theorem dX4_readOrder_31 : decode cX4_readOrder 31 = .ok (.aload_n 0, 1) := by decide +kernel
theorem dX4_readOrder_32 : decode cX4_readOrder 32 = .ok (.dup, 1) := by decide +kernel
theorem dX4_readOrder_33 : decode cX4_readOrder 33 = .ok (.getfield 31, 3) := by decide +kernel
theorem dX4_readOrder_36 : decode cX4_readOrder 36 = .ok (.iconst 1, 1) := by decide +kernel
theorem dX4_readOrder_37 : decode cX4_readOrder 37 = .ok (.iadd, 1) := by decide +kernel
theorem dX4_readOrder_38 : decode cX4_readOrder 38 = .ok (.putfield 31, 3) := by decide +kernel
theorem dX4_readOrder_41 : decode cX4_readOrder 41 = .ok (.iload_n 1, 1) := by decide +kernel
theorem dX4_readOrder_42 : decode cX4_readOrder 42 = .ok (.iconst 3, 1) := by decide +kernel
theorem dX4_readOrder_43 : decode cX4_readOrder 43 = .ok (.if_icmp .eq 13, 3) := by decide +kernel
theorem dX4_readOrder_46 : decode cX4_readOrder 46 = .ok (.aload_n 0, 1) := by decide +kernel
theorem dX4_readOrder_47 : decode cX4_readOrder 47 = .ok (.iconst 0, 1) := by decide +kernel
theorem dX4_readOrder_48 : decode cX4_readOrder 48 = .ok (.invokevirtual 107, 3) := by decide +kernel
theorem dX4_readOrder_51 : decode cX4_readOrder 51 = .ok (.ifCond .ne 5, 3) := by decide +kernel
theorem dX4_readOrder_54 : decode cX4_readOrder 54 = .ok (.iconst 0, 1) := by decide +kernel
theorem dX4_readOrder_55 : decode cX4_readOrder 55 = .ok (.ireturn, 1) := by decide +kernel
theorem dX4_readOrder_56 : decode cX4_readOrder 56 = .ok (.aload_n 0, 1) := by decide +kernel
theorem dX4_readOrder_57 : decode cX4_readOrder 57 = .ok (.getfield 16, 3) := by decide +kernel
theorem dX4_readOrder_60 : decode cX4_readOrder 60 = .ok (.iconst 0, 1) := by decide +kernel
theorem dX4_readOrder_61 : decode cX4_readOrder 61 = .ok (.invokevirtual 72, 3) := by decide +kernel
theorem dX4_readOrder_64 : decode cX4_readOrder 64 = .ok (.iload_n 1, 1) := by decide +kernel
theorem dX4_readOrder_65 : decode cX4_readOrder 65 = .ok (.ifCond .ne 35, 3) := by decide +kernel
theorem dX4_readOrder_68 : decode cX4_readOrder 68 = .ok (.aload_n 0, 1) := by decide +kernel
theorem dX4_readOrder_69 : decode cX4_readOrder 69 = .ok (.invokevirtual 65, 3) := by decide +kernel
theorem dX4_readOrder_72 : decode cX4_readOrder 72 = .ok (.sipush 2022, 3) := by decide +kernel
theorem dX4_readOrder_75 : decode cX4_readOrder 75 = .ok (.if_icmp .eq 5, 3) := by decide +kernel
theorem dX4_readOrder_78 : decode cX4_readOrder 78 = .ok (.iconst 0, 1) := by decide +kernel
theorem dX4_readOrder_79 : decode cX4_readOrder 79 = .ok (.ireturn, 1) := by decide +kernel
theorem dX4_readOrder_80 : decode cX4_readOrder 80 = .ok (.aload_n 0, 1) := by decide +kernel
theorem dX4_readOrder_81 : decode cX4_readOrder 81 = .ok (.dup, 1) := by decide +kernel
theorem dX4_readOrder_82 : decode cX4_readOrder 82 = .ok (.getfield 31, 3) := by decide +kernel
theorem dX4_readOrder_85 : decode cX4_readOrder 85 = .ok (.iconst 1, 1) := by decide +kernel
theorem dX4_readOrder_86 : decode cX4_readOrder 86 = .ok (.iadd, 1) := by decide +kernel
theorem dX4_readOrder_87 : decode cX4_readOrder 87 = .ok (.putfield 31, 3) := by decide +kernel
theorem dX4_readOrder_90 : decode cX4_readOrder 90 = .ok (.aload_n 0, 1) := by decide +kernel
theorem dX4_readOrder_91 : decode cX4_readOrder 91 = .ok (.iconst 0, 1) := by decide +kernel
theorem dX4_readOrder_92 : decode cX4_readOrder 92 = .ok (.invokevirtual 107, 3) := by decide +kernel
theorem dX4_readOrder_95 : decode cX4_readOrder 95 = .ok (.ifCond .ne 5, 3) := by decide +kernel
theorem dX4_readOrder_98 : decode cX4_readOrder 98 = .ok (.iconst 0, 1) := by decide +kernel
theorem dX4_readOrder_99 : decode cX4_readOrder 99 = .ok (.ireturn, 1) := by decide +kernel
theorem dX4_readOrder_100 : decode cX4_readOrder 100 = .ok (.aload_n 0, 1) := by decide +kernel
theorem dX4_readOrder_101 : decode cX4_readOrder 101 = .ok (.getfield 16, 3) := by decide +kernel
theorem dX4_readOrder_104 : decode cX4_readOrder 104 = .ok (.iconst 1, 1) := by decide +kernel
theorem dX4_readOrder_105 : decode cX4_readOrder 105 = .ok (.invokevirtual 72, 3) := by decide +kernel
theorem dX4_readOrder_108 : decode cX4_readOrder 108 = .ok (.aload_n 0, 1) := by decide +kernel
theorem dX4_readOrder_109 : decode cX4_readOrder 109 = .ok (.invokevirtual 110, 3) := by decide +kernel
theorem dX4_readOrder_112 : decode cX4_readOrder 112 = .ok (.ireturn, 1) := by decide +kernel
set_option maxRecDepth 20000 in
theorem ggX4_readTimes_X4_inHand : GoodIn wsX4_readTimes wsX4_inHand := goodIn_r _ [7, 1, 8, 9, 17, 18, 19, 20, 21, 22, 23] (by decide +kernel) (by decide +kernel)
set_option maxRecDepth 20000 in
theorem gX4_readTimes_X4_inHand : GoodIn wsX4_readTimes (wsV RX4 65 RX4 yX4_inHand wsX4_inHand) := goodIn_app (goodIn_of _ (by decide +kernel)) ggX4_readTimes_X4_inHand
set_option maxRecDepth 20000 in
theorem ggX4_readTimes_X10_repeat : GoodIn wsX4_readTimes wsX10_repeat := goodIn_r _ [14, 15, 16, 24, 25, 26, 27, 28, 29] (by decide +kernel) (by decide +kernel)
set_option maxRecDepth 20000 in
theorem gX4_readTimes_X10_repeat : GoodIn wsX4_readTimes (wsV RX4 113 RX10 yX10_repeat wsX10_repeat) := goodIn_app (goodIn_of _ (by decide +kernel)) ggX4_readTimes_X10_repeat
theorem dX4_readTimes_0 : decode cX4_readTimes 0 = .ok (.aload_n 0, 1) := by decide +kernel
theorem dX4_readTimes_1 : decode cX4_readTimes 1 = .ok (.invokevirtual 65, 3) := by decide +kernel
theorem dX4_readTimes_4 : decode cX4_readTimes 4 = .ok (.sipush 2023, 3) := by decide +kernel
theorem dX4_readTimes_7 : decode cX4_readTimes 7 = .ok (.if_icmp .eq 5, 3) := by decide +kernel
theorem dX4_readTimes_10 : decode cX4_readTimes 10 = .ok (.iconst 1, 1) := by decide +kernel
theorem dX4_readTimes_11 : decode cX4_readTimes 11 = .ok (.ireturn, 1) := by decide +kernel
theorem dX4_readTimes_12 : decode cX4_readTimes 12 = .ok (.aload_n 0, 1) := by decide +kernel
theorem dX4_readTimes_13 : decode cX4_readTimes 13 = .ok (.dup, 1) := by decide +kernel
theorem dX4_readTimes_14 : decode cX4_readTimes 14 = .ok (.getfield 31, 3) := by decide +kernel
theorem dX4_readTimes_17 : decode cX4_readTimes 17 = .ok (.iconst 1, 1) := by decide +kernel
theorem dX4_readTimes_18 : decode cX4_readTimes 18 = .ok (.iadd, 1) := by decide +kernel
theorem dX4_readTimes_19 : decode cX4_readTimes 19 = .ok (.putfield 31, 3) := by decide +kernel
theorem dX4_readTimes_22 : decode cX4_readTimes 22 = .ok (.aload_n 0, 1) := by decide +kernel
theorem dX4_readTimes_23 : decode cX4_readTimes 23 = .ok (.invokevirtual 65, 3) := by decide +kernel
theorem dX4_readTimes_26 : decode cX4_readTimes 26 = .ok (.istore_n 1, 1) := by decide +kernel
theorem dX4_readTimes_27 : decode cX4_readTimes 27 = .ok (.iload_n 1, 1) := by decide +kernel
theorem dX4_readTimes_28 : decode cX4_readTimes 28 = .ok (.iconst 1, 1) := by decide +kernel
theorem dX4_readTimes_29 : decode cX4_readTimes 29 = .ok (.if_icmp .lt 9, 3) := by decide +kernel
theorem dX4_readTimes_32 : decode cX4_readTimes 32 = .ok (.iload_n 1, 1) := by decide +kernel
theorem dX4_readTimes_33 : decode cX4_readTimes 33 = .ok (.bipush 20, 2) := by decide +kernel
theorem dX4_readTimes_35 : decode cX4_readTimes 35 = .ok (.if_icmp .le 5, 3) := by decide +kernel
theorem dX4_readTimes_38 : decode cX4_readTimes 38 = .ok (.iconst 0, 1) := by decide +kernel
theorem dX4_readTimes_39 : decode cX4_readTimes 39 = .ok (.ireturn, 1) := by decide +kernel
theorem dX4_readTimes_40 : decode cX4_readTimes 40 = .ok (.aload_n 0, 1) := by decide +kernel
theorem dX4_readTimes_41 : decode cX4_readTimes 41 = .ok (.dup, 1) := by decide +kernel
theorem dX4_readTimes_42 : decode cX4_readTimes 42 = .ok (.getfield 31, 3) := by decide +kernel
theorem dX4_readTimes_45 : decode cX4_readTimes 45 = .ok (.iconst 1, 1) := by decide +kernel
theorem dX4_readTimes_46 : decode cX4_readTimes 46 = .ok (.iadd, 1) := by decide +kernel
theorem dX4_readTimes_47 : decode cX4_readTimes 47 = .ok (.putfield 31, 3) := by decide +kernel
theorem dX4_readTimes_50 : decode cX4_readTimes 50 = .ok (.aload_n 0, 1) := by decide +kernel
theorem dX4_readTimes_51 : decode cX4_readTimes 51 = .ok (.getfield 16, 3) := by decide +kernel
theorem dX4_readTimes_54 : decode cX4_readTimes 54 = .ok (.iload_n 1, 1) := by decide +kernel
theorem dX4_readTimes_55 : decode cX4_readTimes 55 = .ok (.invokevirtual 113, 3) := by decide +kernel
theorem dX4_readTimes_58 : decode cX4_readTimes 58 = .ok (.iconst 1, 1) := by decide +kernel
theorem dX4_readTimes_59 : decode cX4_readTimes 59 = .ok (.ireturn, 1) := by decide +kernel
set_option maxRecDepth 20000 in
theorem ggX4_readTest_X4_readPlain : GoodIn wsX4_readTest wsX4_readPlain := goodIn_r _ [24, 2, 1, 14, 15, 16, 6, 17, 18, 19, 25, 26, 27, 28, 29, 30, 31, 32, 33, 34, 35, 36, 37, 38, 20, 21, 22, 10, 23, 12, 13, 39, 40, 41, 42, 43, 44, 45, 46, 47, 48, 49, 0, 3, 4, 5, 7, 8, 9, 11, 50, 51, 52, 53, 54, 55, 56, 57, 58, 59, 60, 61, 62] (by decide +kernel) (by decide +kernel)
set_option maxRecDepth 20000 in
theorem gX4_readTest_X4_readPlain : GoodIn wsX4_readTest (wsV RX4 116 RX4 yX4_readPlain wsX4_readPlain) := goodIn_app (goodIn_of _ (by decide +kernel)) ggX4_readTest_X4_readPlain
set_option maxRecDepth 20000 in
theorem ggX4_readTest_X10_land : GoodIn wsX4_readTest wsX10_land := goodIn_r _ [11, 12, 13, 57, 58, 59, 60, 61, 62] (by decide +kernel) (by decide +kernel)
set_option maxRecDepth 20000 in
theorem gX4_readTest_X10_land : GoodIn wsX4_readTest (wsV RX4 119 RX10 yX10_land wsX10_land) := goodIn_app (goodIn_of _ (by decide +kernel)) ggX4_readTest_X10_land
set_option maxRecDepth 20000 in
theorem ggX4_readTest_X4_inHand : GoodIn wsX4_readTest wsX4_inHand := goodIn_r _ [17, 2, 18, 19, 50, 51, 52, 53, 54, 55, 56] (by decide +kernel) (by decide +kernel)
set_option maxRecDepth 20000 in
theorem gX4_readTest_X4_inHand : GoodIn wsX4_readTest (wsV RX4 65 RX4 yX4_inHand wsX4_inHand) := goodIn_app (goodIn_of _ (by decide +kernel)) ggX4_readTest_X4_inHand
set_option maxRecDepth 20000 in
theorem ggX4_readTest_X10_emit : GoodIn wsX4_readTest wsX10_emit := goodIn_r _ [23, 12, 13, 57, 58, 59, 60, 61, 62] (by decide +kernel) (by decide +kernel)
set_option maxRecDepth 20000 in
theorem gX4_readTest_X10_emit : GoodIn wsX4_readTest (wsV RX4 122 RX10 yX10_emit wsX10_emit) := goodIn_app (goodIn_of _ (by decide +kernel)) ggX4_readTest_X10_emit
theorem dX4_readTest_0 : decode cX4_readTest 0 = .ok (.iconst (-1), 1) := by decide +kernel
theorem dX4_readTest_1 : decode cX4_readTest 1 = .ok (.istore_n 2, 1) := by decide +kernel
theorem dX4_readTest_2 : decode cX4_readTest 2 = .ok (.iconst 0, 1) := by decide +kernel
theorem dX4_readTest_3 : decode cX4_readTest 3 = .ok (.istore_n 3, 1) := by decide +kernel
theorem dX4_readTest_4 : decode cX4_readTest 4 = .ok (.iload_n 3, 1) := by decide +kernel
theorem dX4_readTest_5 : decode cX4_readTest 5 = .ok (.sipush 400, 3) := by decide +kernel
theorem dX4_readTest_8 : decode cX4_readTest 8 = .ok (.if_icmp .ge 122, 3) := by decide +kernel
theorem dX4_readTest_11 : decode cX4_readTest 11 = .ok (.iconst (-1), 1) := by decide +kernel
theorem dX4_readTest_12 : decode cX4_readTest 12 = .ok (.istore 4, 2) := by decide +kernel
theorem dX4_readTest_14 : decode cX4_readTest 14 = .ok (.iconst 0, 1) := by decide +kernel
theorem dX4_readTest_15 : decode cX4_readTest 15 = .ok (.istore 5, 2) := by decide +kernel
theorem dX4_readTest_17 : decode cX4_readTest 17 = .ok (.iload 5, 2) := by decide +kernel
theorem dX4_readTest_19 : decode cX4_readTest 19 = .ok (.sipush 400, 3) := by decide +kernel
theorem dX4_readTest_22 : decode cX4_readTest 22 = .ok (.if_icmp .ge 62, 3) := by decide +kernel
theorem dX4_readTest_25 : decode cX4_readTest 25 = .ok (.aload_n 0, 1) := by decide +kernel
theorem dX4_readTest_26 : decode cX4_readTest 26 = .ok (.iload_n 1, 1) := by decide +kernel
theorem dX4_readTest_27 : decode cX4_readTest 27 = .ok (.invokevirtual 116, 3) := by decide +kernel
theorem dX4_readTest_30 : decode cX4_readTest 30 = .ok (.ifCond .ne 5, 3) := by decide +kernel
theorem dX4_readTest_33 : decode cX4_readTest 33 = .ok (.iconst 0, 1) := by decide +kernel
theorem dX4_readTest_34 : decode cX4_readTest 34 = .ok (.ireturn, 1) := by decide +kernel
theorem dX4_readTest_35 : decode cX4_readTest 35 = .ok (.aload_n 0, 1) := by decide +kernel
theorem dX4_readTest_36 : decode cX4_readTest 36 = .ok (.getfield 16, 3) := by decide +kernel
theorem dX4_readTest_39 : decode cX4_readTest 39 = .ok (.iload 4, 2) := by decide +kernel
theorem dX4_readTest_41 : decode cX4_readTest 41 = .ok (.invokevirtual 119, 3) := by decide +kernel
theorem dX4_readTest_44 : decode cX4_readTest 44 = .ok (.aload_n 0, 1) := by decide +kernel
theorem dX4_readTest_45 : decode cX4_readTest 45 = .ok (.invokevirtual 65, 3) := by decide +kernel
theorem dX4_readTest_48 : decode cX4_readTest 48 = .ok (.sipush 2001, 3) := by decide +kernel
theorem dX4_readTest_51 : decode cX4_readTest 51 = .ok (.if_icmp .eq 6, 3) := by decide +kernel
theorem dX4_readTest_54 : decode cX4_readTest 54 = .ok (.goto 30, 3) := by decide +kernel
theorem dX4_readTest_57 : decode cX4_readTest 57 = .ok (.aload_n 0, 1) := by decide +kernel
theorem dX4_readTest_58 : decode cX4_readTest 58 = .ok (.dup, 1) := by decide +kernel
theorem dX4_readTest_59 : decode cX4_readTest 59 = .ok (.getfield 31, 3) := by decide +kernel
theorem dX4_readTest_62 : decode cX4_readTest 62 = .ok (.iconst 1, 1) := by decide +kernel
theorem dX4_readTest_63 : decode cX4_readTest 63 = .ok (.iadd, 1) := by decide +kernel
theorem dX4_readTest_64 : decode cX4_readTest 64 = .ok (.putfield 31, 3) := by decide +kernel
theorem dX4_readTest_67 : decode cX4_readTest 67 = .ok (.aload_n 0, 1) := by decide +kernel
theorem dX4_readTest_68 : decode cX4_readTest 68 = .ok (.getfield 16, 3) := by decide +kernel
theorem dX4_readTest_71 : decode cX4_readTest 71 = .ok (.iconst 4, 1) := by decide +kernel
theorem dX4_readTest_72 : decode cX4_readTest 72 = .ok (.iconst 0, 1) := by decide +kernel
theorem dX4_readTest_73 : decode cX4_readTest 73 = .ok (.invokevirtual 122, 3) := by decide +kernel
theorem dX4_readTest_76 : decode cX4_readTest 76 = .ok (.istore 4, 2) := by decide +kernel
theorem dX4_readTest_78 : decode cX4_readTest 78 = .ok (.iinc 5 1, 3) := by decide +kernel
theorem dX4_readTest_81 : decode cX4_readTest 81 = .ok (.goto (-64), 3) := by decide +kernel
theorem dX4_readTest_84 : decode cX4_readTest 84 = .ok (.aload_n 0, 1) := by decide +kernel
theorem dX4_readTest_85 : decode cX4_readTest 85 = .ok (.getfield 16, 3) := by decide +kernel
theorem dX4_readTest_88 : decode cX4_readTest 88 = .ok (.iload_n 2, 1) := by decide +kernel
theorem dX4_readTest_89 : decode cX4_readTest 89 = .ok (.invokevirtual 119, 3) := by decide +kernel
theorem dX4_readTest_92 : decode cX4_readTest 92 = .ok (.aload_n 0, 1) := by decide +kernel
theorem dX4_readTest_93 : decode cX4_readTest 93 = .ok (.invokevirtual 65, 3) := by decide +kernel
theorem dX4_readTest_96 : decode cX4_readTest 96 = .ok (.sipush 2000, 3) := by decide +kernel
theorem dX4_readTest_99 : decode cX4_readTest 99 = .ok (.if_icmp .eq 5, 3) := by decide +kernel
theorem dX4_readTest_102 : decode cX4_readTest 102 = .ok (.iconst 1, 1) := by decide +kernel
theorem dX4_readTest_103 : decode cX4_readTest 103 = .ok (.ireturn, 1) := by decide +kernel
theorem dX4_readTest_104 : decode cX4_readTest 104 = .ok (.aload_n 0, 1) := by decide +kernel
theorem dX4_readTest_105 : decode cX4_readTest 105 = .ok (.dup, 1) := by decide +kernel
theorem dX4_readTest_106 : decode cX4_readTest 106 = .ok (.getfield 31, 3) := by decide +kernel
theorem dX4_readTest_109 : decode cX4_readTest 109 = .ok (.iconst 1, 1) := by decide +kernel
theorem dX4_readTest_110 : decode cX4_readTest 110 = .ok (.iadd, 1) := by decide +kernel
theorem dX4_readTest_111 : decode cX4_readTest 111 = .ok (.putfield 31, 3) := by decide +kernel
theorem dX4_readTest_114 : decode cX4_readTest 114 = .ok (.aload_n 0, 1) := by decide +kernel
theorem dX4_readTest_115 : decode cX4_readTest 115 = .ok (.getfield 16, 3) := by decide +kernel
theorem dX4_readTest_118 : decode cX4_readTest 118 = .ok (.iconst 3, 1) := by decide +kernel
theorem dX4_readTest_119 : decode cX4_readTest 119 = .ok (.iconst 0, 1) := by decide +kernel
theorem dX4_readTest_120 : decode cX4_readTest 120 = .ok (.invokevirtual 122, 3) := by decide +kernel
theorem dX4_readTest_123 : decode cX4_readTest 123 = .ok (.istore_n 2, 1) := by decide +kernel
theorem dX4_readTest_124 : decode cX4_readTest 124 = .ok (.iinc 3 1, 3) := by decide +kernel
theorem dX4_readTest_127 : decode cX4_readTest 127 = .ok (.goto (-123), 3) := by decide +kernel
theorem dX4_readTest_130 : decode cX4_readTest 130 = .ok (.iconst 0, 1) := by decide +kernel
theorem dX4_readTest_131 : decode cX4_readTest 131 = .ok (.ireturn, 1) := by decide +kernel
set_option maxRecDepth 20000 in
theorem ggX4_readPlain_X4_inHand : GoodIn wsX4_readPlain wsX4_inHand := goodIn_r _ [7, 1, 8, 9, 50, 51, 52, 53, 54, 55, 56] (by decide +kernel) (by decide +kernel)
set_option maxRecDepth 20000 in
theorem gX4_readPlain_X4_inHand : GoodIn wsX4_readPlain (wsV RX4 65 RX4 yX4_inHand wsX4_inHand) := goodIn_app (goodIn_of _ (by decide +kernel)) ggX4_readPlain_X4_inHand
set_option maxRecDepth 20000 in
theorem ggX4_readPlain_X4_readTest : GoodIn wsX4_readPlain wsX4_readTest := goodIn_r _ [42, 2, 1, 43, 44, 45, 6, 46, 47, 48, 27, 49, 29, 30, 3, 4, 5, 7, 8, 9, 24, 25, 26, 28, 0, 10, 11, 12, 13, 14, 15, 16, 17, 18, 19, 20, 21, 22, 23, 31, 32, 33, 34, 35, 36, 37, 38, 39, 40, 41, 50, 51, 52, 53, 54, 55, 56, 57, 58, 59, 60, 61, 62] (by decide +kernel) (by decide +kernel)
set_option maxRecDepth 20000 in
theorem gX4_readPlain_X4_readTest : GoodIn wsX4_readPlain (wsV RX4 68 RX4 yX4_readTest wsX4_readTest) := goodIn_app (goodIn_of _ (by decide +kernel)) ggX4_readPlain_X4_readTest
set_option maxRecDepth 20000 in
theorem ggX4_readPlain_X4_readSum : GoodIn wsX4_readPlain wsX4_readSum := goodIn_r _ [16, 1, 17, 18, 19, 6, 20, 21, 22, 23, 2, 24, 25, 26, 27, 28, 29, 30, 3, 4, 5, 7, 8, 9, 31, 32, 33, 13, 14, 15, 34, 35, 36, 37, 38, 39, 40, 41, 50, 51, 52, 53, 54, 55, 56, 57, 58, 59, 60, 61, 62] (by decide +kernel) (by decide +kernel)
set_option maxRecDepth 20000 in
theorem gX4_readPlain_X4_readSum : GoodIn wsX4_readPlain (wsV RX4 107 RX4 yX4_readSum wsX4_readSum) := goodIn_app (goodIn_of _ (by decide +kernel)) ggX4_readPlain_X4_readSum
set_option maxRecDepth 20000 in
theorem ggX4_readPlain_X10_emit : GoodIn wsX4_readPlain wsX10_emit := goodIn_r _ [28, 29, 30, 57, 58, 59, 60, 61, 62] (by decide +kernel) (by decide +kernel)
set_option maxRecDepth 20000 in
theorem gX4_readPlain_X10_emit : GoodIn wsX4_readPlain (wsV RX4 122 RX10 yX10_emit wsX10_emit) := goodIn_app (goodIn_of _ (by decide +kernel)) ggX4_readPlain_X10_emit
set_option maxRecDepth 20000 in
theorem ggX4_readPlain_X4_emitIfAny : GoodIn wsX4_readPlain wsX4_emitIfAny := goodIn_r _ [23, 2, 24, 25, 26, 27, 28, 29, 30, 50, 51, 52, 53, 54, 55, 56, 57, 58, 59, 60, 61, 62] (by decide +kernel) (by decide +kernel)
set_option maxRecDepth 20000 in
theorem gX4_readPlain_X4_emitIfAny : GoodIn wsX4_readPlain (wsV RX4 125 RX4 yX4_emitIfAny wsX4_emitIfAny) := goodIn_app (goodIn_of _ (by decide +kernel)) ggX4_readPlain_X4_emitIfAny
theorem dX4_readPlain_0 : decode cX4_readPlain 0 = .ok (.iconst 0, 1) := by decide +kernel
theorem dX4_readPlain_1 : decode cX4_readPlain 1 = .ok (.istore_n 2, 1) := by decide +kernel
theorem dX4_readPlain_2 : decode cX4_readPlain 2 = .ok (.iconst 0, 1) := by decide +kernel
theorem dX4_readPlain_3 : decode cX4_readPlain 3 = .ok (.istore_n 3, 1) := by decide +kernel
theorem dX4_readPlain_4 : decode cX4_readPlain 4 = .ok (.iload_n 3, 1) := by decide +kernel
theorem dX4_readPlain_5 : decode cX4_readPlain 5 = .ok (.sipush 400, 3) := by decide +kernel
theorem dX4_readPlain_8 : decode cX4_readPlain 8 = .ok (.if_icmp .ge 39, 3) := by decide +kernel
theorem dX4_readPlain_11 : decode cX4_readPlain 11 = .ok (.aload_n 0, 1) := by decide +kernel
theorem dX4_readPlain_12 : decode cX4_readPlain 12 = .ok (.invokevirtual 65, 3) := by decide +kernel
theorem dX4_readPlain_15 : decode cX4_readPlain 15 = .ok (.sipush 2002, 3) := by decide +kernel
theorem dX4_readPlain_18 : decode cX4_readPlain 18 = .ok (.if_icmp .ne 29, 3) := by decide +kernel
theorem dX4_readPlain_21 : decode cX4_readPlain 21 = .ok (.aload_n 0, 1) := by decide +kernel
theorem dX4_readPlain_22 : decode cX4_readPlain 22 = .ok (.dup, 1) := by decide +kernel
theorem dX4_readPlain_23 : decode cX4_readPlain 23 = .ok (.getfield 31, 3) := by decide +kernel
theorem dX4_readPlain_26 : decode cX4_readPlain 26 = .ok (.iconst 1, 1) := by decide +kernel
theorem dX4_readPlain_27 : decode cX4_readPlain 27 = .ok (.iadd, 1) := by decide +kernel
theorem dX4_readPlain_28 : decode cX4_readPlain 28 = .ok (.putfield 31, 3) := by decide +kernel
theorem dX4_readPlain_31 : decode cX4_readPlain 31 = .ok (.iload_n 2, 1) := by decide +kernel
theorem dX4_readPlain_32 : decode cX4_readPlain 32 = .ok (.ifCond .ne 7, 3) := by decide +kernel
theorem dX4_readPlain_35 : decode cX4_readPlain 35 = .ok (.iconst 1, 1) := by decide +kernel
theorem dX4_readPlain_36 : decode cX4_readPlain 36 = .ok (.goto 4, 3) := by decide +kernel
theorem dX4_readPlain_39 : decode cX4_readPlain 39 = .ok (.iconst 0, 1) := by decide +kernel
theorem dX4_readPlain_40 : decode cX4_readPlain 40 = .ok (.istore_n 2, 1) := by decide +kernel
theorem dX4_readPlain_41 : decode cX4_readPlain 41 = .ok (.iinc 3 1, 3) := by decide +kernel
theorem dX4_readPlain_44 : decode cX4_readPlain 44 = .ok (.goto (-40), 3) := by decide +kernel
theorem dX4_readPlain_47 : decode cX4_readPlain 47 = .ok (.aload_n 0, 1) := by decide +kernel
theorem dX4_readPlain_48 : decode cX4_readPlain 48 = .ok (.invokevirtual 65, 3) := by decide +kernel
theorem dX4_readPlain_51 : decode cX4_readPlain 51 = .ok (.sipush 3040, 3) := by decide +kernel
theorem dX4_readPlain_54 : decode cX4_readPlain 54 = .ok (.if_icmp .ne 56, 3) := by decide +kernel
theorem dX4_readPlain_57 : decode cX4_readPlain 57 = .ok (.iload_n 1, 1) := by decide +kernel
theorem dX4_readPlain_58 : decode cX4_readPlain 58 = .ok (.bipush 8, 2) := by decide +kernel
theorem dX4_readPlain_60 : decode cX4_readPlain 60 = .ok (.if_icmp .lt 5, 3) := by decide +kernel
theorem dX4_readPlain_63 : decode cX4_readPlain 63 = .ok (.iconst 0, 1) := by decide +kernel
theorem dX4_readPlain_64 : decode cX4_readPlain 64 = .ok (.ireturn, 1) := by decide +kernel
theorem dX4_readPlain_65 : decode cX4_readPlain 65 = .ok (.aload_n 0, 1) := by decide +kernel
theorem dX4_readPlain_66 : decode cX4_readPlain 66 = .ok (.dup, 1) := by decide +kernel
theorem dX4_readPlain_67 : decode cX4_readPlain 67 = .ok (.getfield 31, 3) := by decide +kernel
theorem dX4_readPlain_70 : decode cX4_readPlain 70 = .ok (.iconst 1, 1) := by decide +kernel
theorem dX4_readPlain_71 : decode cX4_readPlain 71 = .ok (.iadd, 1) := by decide +kernel
theorem dX4_readPlain_72 : decode cX4_readPlain 72 = .ok (.putfield 31, 3) := by decide +kernel
theorem dX4_readPlain_75 : decode cX4_readPlain 75 = .ok (.aload_n 0, 1) := by decide +kernel
theorem dX4_readPlain_76 : decode cX4_readPlain 76 = .ok (.iload_n 1, 1) := by decide +kernel
theorem dX4_readPlain_77 : decode cX4_readPlain 77 = .ok (.iconst 1, 1) := by decide +kernel
theorem dX4_readPlain_78 : decode cX4_readPlain 78 = .ok (.iadd, 1) := by decide +kernel
theorem dX4_readPlain_79 : decode cX4_readPlain 79 = .ok (.invokevirtual 68, 3) := by decide +kernel
theorem dX4_readPlain_82 : decode cX4_readPlain 82 = .ok (.ifCond .eq 13, 3) := by decide +kernel
theorem dX4_readPlain_85 : decode cX4_readPlain 85 = .ok (.aload_n 0, 1) := by decide +kernel
theorem dX4_readPlain_86 : decode cX4_readPlain 86 = .ok (.invokevirtual 65, 3) := by decide +kernel
theorem dX4_readPlain_89 : decode cX4_readPlain 89 = .ok (.sipush 3041, 3) := by decide +kernel
theorem dX4_readPlain_92 : decode cX4_readPlain 92 = .ok (.if_icmp .eq 5, 3) := by decide +kernel
theorem dX4_readPlain_95 : decode cX4_readPlain 95 = .ok (.iconst 0, 1) := by decide +kernel
theorem dX4_readPlain_96 : decode cX4_readPlain 96 = .ok (.ireturn, 1) := by decide +kernel
theorem dX4_readPlain_97 : decode cX4_readPlain 97 = .ok (.aload_n 0, 1) := by decide +kernel
theorem dX4_readPlain_98 : decode cX4_readPlain 98 = .ok (.dup, 1) := by decide +kernel
theorem dX4_readPlain_99 : decode cX4_readPlain 99 = .ok (.getfield 31, 3) := by decide +kernel
theorem dX4_readPlain_102 : decode cX4_readPlain 102 = .ok (.iconst 1, 1) := by decide +kernel
theorem dX4_readPlain_103 : decode cX4_readPlain 103 = .ok (.iadd, 1) := by decide +kernel
theorem dX4_readPlain_104 : decode cX4_readPlain 104 = .ok (.putfield 31, 3) := by decide +kernel
theorem dX4_readPlain_107 : decode cX4_readPlain 107 = .ok (.goto 97, 3) := by decide +kernel
theorem dX4_readPlain_110 : decode cX4_readPlain 110 = .ok (.aload_n 0, 1) := by decide +kernel
theorem dX4_readPlain_111 : decode cX4_readPlain 111 = .ok (.iload_n 1, 1) := by decide +kernel
theorem dX4_readPlain_112 : decode cX4_readPlain 112 = .ok (.invokevirtual 107, 3) := by decide +kernel
theorem dX4_readPlain_115 : decode cX4_readPlain 115 = .ok (.ifCond .ne 5, 3) := by decide +kernel
theorem dX4_readPlain_118 : decode cX4_readPlain 118 = .ok (.iconst 0, 1) := by decide +kernel
theorem dX4_readPlain_119 : decode cX4_readPlain 119 = .ok (.ireturn, 1) := by decide +kernel
theorem dX4_readPlain_120 : decode cX4_readPlain 120 = .ok (.aload_n 0, 1) := by decide +kernel
theorem dX4_readPlain_121 : decode cX4_readPlain 121 = .ok (.invokevirtual 65, 3) := by decide +kernel
theorem dX4_readPlain_124 : decode cX4_readPlain 124 = .ok (.sipush 3060, 3) := by decide +kernel
theorem dX4_readPlain_127 : decode cX4_readPlain 127 = .ok (.if_icmp .ne 8, 3) := by decide +kernel
theorem dX4_readPlain_130 : decode cX4_readPlain 130 = .ok (.bipush 10, 2) := by decide +kernel
theorem dX4_readPlain_132 : decode cX4_readPlain 132 = .ok (.goto 34, 3) := by decide +kernel
theorem dX4_readPlain_135 : decode cX4_readPlain 135 = .ok (.aload_n 0, 1) := by decide +kernel
theorem dX4_readPlain_136 : decode cX4_readPlain 136 = .ok (.invokevirtual 65, 3) := by decide +kernel
theorem dX4_readPlain_139 : decode cX4_readPlain 139 = .ok (.sipush 3062, 3) := by decide +kernel
theorem dX4_readPlain_142 : decode cX4_readPlain 142 = .ok (.if_icmp .ne 8, 3) := by decide +kernel
theorem dX4_readPlain_145 : decode cX4_readPlain 145 = .ok (.bipush 11, 2) := by decide +kernel
theorem dX4_readPlain_147 : decode cX4_readPlain 147 = .ok (.goto 19, 3) := by decide +kernel
theorem dX4_readPlain_150 : decode cX4_readPlain 150 = .ok (.aload_n 0, 1) := by decide +kernel
theorem dX4_readPlain_151 : decode cX4_readPlain 151 = .ok (.invokevirtual 65, 3) := by decide +kernel
theorem dX4_readPlain_154 : decode cX4_readPlain 154 = .ok (.sipush 3061, 3) := by decide +kernel
theorem dX4_readPlain_157 : decode cX4_readPlain 157 = .ok (.if_icmp .ne 8, 3) := by decide +kernel
theorem dX4_readPlain_160 : decode cX4_readPlain 160 = .ok (.bipush 12, 2) := by decide +kernel
theorem dX4_readPlain_162 : decode cX4_readPlain 162 = .ok (.goto 4, 3) := by decide +kernel
theorem dX4_readPlain_165 : decode cX4_readPlain 165 = .ok (.iconst (-1), 1) := by decide +kernel
theorem dX4_readPlain_166 : decode cX4_readPlain 166 = .ok (.istore_n 3, 1) := by decide +kernel
theorem dX4_readPlain_167 : decode cX4_readPlain 167 = .ok (.iload_n 3, 1) := by decide +kernel
theorem dX4_readPlain_168 : decode cX4_readPlain 168 = .ok (.iconst (-1), 1) := by decide +kernel
theorem dX4_readPlain_169 : decode cX4_readPlain 169 = .ok (.if_icmp .ne 5, 3) := by decide +kernel
theorem dX4_readPlain_172 : decode cX4_readPlain 172 = .ok (.iconst 0, 1) := by decide +kernel
theorem dX4_readPlain_173 : decode cX4_readPlain 173 = .ok (.ireturn, 1) := by decide +kernel
theorem dX4_readPlain_174 : decode cX4_readPlain 174 = .ok (.aload_n 0, 1) := by decide +kernel
theorem dX4_readPlain_175 : decode cX4_readPlain 175 = .ok (.dup, 1) := by decide +kernel
theorem dX4_readPlain_176 : decode cX4_readPlain 176 = .ok (.getfield 31, 3) := by decide +kernel
theorem dX4_readPlain_179 : decode cX4_readPlain 179 = .ok (.iconst 1, 1) := by decide +kernel
theorem dX4_readPlain_180 : decode cX4_readPlain 180 = .ok (.iadd, 1) := by decide +kernel
theorem dX4_readPlain_181 : decode cX4_readPlain 181 = .ok (.putfield 31, 3) := by decide +kernel
theorem dX4_readPlain_184 : decode cX4_readPlain 184 = .ok (.aload_n 0, 1) := by decide +kernel
theorem dX4_readPlain_185 : decode cX4_readPlain 185 = .ok (.iload_n 1, 1) := by decide +kernel
theorem dX4_readPlain_186 : decode cX4_readPlain 186 = .ok (.invokevirtual 107, 3) := by decide +kernel
theorem dX4_readPlain_189 : decode cX4_readPlain 189 = .ok (.ifCond .ne 5, 3) := by decide +kernel
theorem dX4_readPlain_192 : decode cX4_readPlain 192 = .ok (.iconst 0, 1) := by decide +kernel
theorem dX4_readPlain_193 : decode cX4_readPlain 193 = .ok (.ireturn, 1) := by decide +kernel
theorem dX4_readPlain_194 : decode cX4_readPlain 194 = .ok (.aload_n 0, 1) := by decide +kernel
theorem dX4_readPlain_195 : decode cX4_readPlain 195 = .ok (.getfield 16, 3) := by decide +kernel
theorem dX4_readPlain_198 : decode cX4_readPlain 198 = .ok (.iload_n 3, 1) := by decide +kernel
theorem dX4_readPlain_199 : decode cX4_readPlain 199 = .ok (.iconst 0, 1) := by decide +kernel
theorem dX4_readPlain_200 : decode cX4_readPlain 200 = .ok (.invokevirtual 122, 3) := by decide +kernel
theorem dX4_readPlain_203 : decode cX4_readPlain 203 = .ok (.pop, 1) := by decide +kernel
theorem dX4_readPlain_204 : decode cX4_readPlain 204 = .ok (.aload_n 0, 1) := by decide +kernel
theorem dX4_readPlain_205 : decode cX4_readPlain 205 = .ok (.iload_n 2, 1) := by decide +kernel
theorem dX4_readPlain_206 : decode cX4_readPlain 206 = .ok (.ifCond .eq 7, 3) := by decide +kernel
theorem dX4_readPlain_209 : decode cX4_readPlain 209 = .ok (.iconst 2, 1) := by decide +kernel
theorem dX4_readPlain_210 : decode cX4_readPlain 210 = .ok (.goto 4, 3) := by decide +kernel
theorem dX4_readPlain_213 : decode cX4_readPlain 213 = .ok (.iconst (-1), 1) := by decide +kernel
theorem dX4_readPlain_214 : decode cX4_readPlain 214 = .ok (.invokevirtual 125, 3) := by decide +kernel
theorem dX4_readPlain_217 : decode cX4_readPlain 217 = .ok (.iconst 1, 1) := by decide +kernel
theorem dX4_readPlain_218 : decode cX4_readPlain 218 = .ok (.ireturn, 1) := by decide +kernel
set_option maxRecDepth 20000 in
theorem ggX4_readSum_X4_readOperand : GoodIn wsX4_readSum wsX4_readOperand := goodIn_r _ [24, 1, 25, 10, 26, 18, 19, 20, 5, 21, 22, 23, 27, 28, 29, 11, 12, 13, 14, 15, 16, 17, 30, 31, 32, 33, 34, 35, 36, 37, 0, 2, 3, 4, 6, 7, 8, 9, 38, 39, 40, 41, 42, 43, 44, 45, 46, 47, 48, 49, 50] (by decide +kernel) (by decide +kernel)
set_option maxRecDepth 20000 in
theorem gX4_readSum_X4_readOperand : GoodIn wsX4_readSum (wsV RX4 128 RX4 yX4_readOperand wsX4_readOperand) := goodIn_app (goodIn_of _ (by decide +kernel)) ggX4_readSum_X4_readOperand
set_option maxRecDepth 20000 in
theorem ggX4_readSum_X4_emitIfAny : GoodIn wsX4_readSum wsX4_emitIfAny := goodIn_r _ [9, 10, 11, 12, 13, 14, 15, 16, 17, 38, 39, 40, 41, 42, 43, 44, 45, 46, 47, 48, 49, 50] (by decide +kernel) (by decide +kernel)
set_option maxRecDepth 20000 in
theorem gX4_readSum_X4_emitIfAny : GoodIn wsX4_readSum (wsV RX4 125 RX4 yX4_emitIfAny wsX4_emitIfAny) := goodIn_app (goodIn_of _ (by decide +kernel)) ggX4_readSum_X4_emitIfAny
set_option maxRecDepth 20000 in
theorem ggX4_readSum_X4_inHand : GoodIn wsX4_readSum wsX4_inHand := goodIn_r _ [21, 1, 22, 23, 38, 39, 40, 41, 42, 43, 44] (by decide +kernel) (by decide +kernel)
set_option maxRecDepth 20000 in
theorem gX4_readSum_X4_inHand : GoodIn wsX4_readSum (wsV RX4 65 RX4 yX4_inHand wsX4_inHand) := goodIn_app (goodIn_of _ (by decide +kernel)) ggX4_readSum_X4_inHand
theorem dX4_readSum_0 : decode cX4_readSum 0 = .ok (.iconst (-1), 1) := by decide +kernel
theorem dX4_readSum_1 : decode cX4_readSum 1 = .ok (.istore_n 2, 1) := by decide +kernel
theorem dX4_readSum_2 : decode cX4_readSum 2 = .ok (.iconst 0, 1) := by decide +kernel
theorem dX4_readSum_3 : decode cX4_readSum 3 = .ok (.istore_n 3, 1) := by decide +kernel
theorem dX4_readSum_4 : decode cX4_readSum 4 = .ok (.iload_n 3, 1) := by decide +kernel
theorem dX4_readSum_5 : decode cX4_readSum 5 = .ok (.sipush 400, 3) := by decide +kernel
theorem dX4_readSum_8 : decode cX4_readSum 8 = .ok (.if_icmp .ge 165, 3) := by decide +kernel
theorem dX4_readSum_11 : decode cX4_readSum 11 = .ok (.iconst (-1), 1) := by decide +kernel
theorem dX4_readSum_12 : decode cX4_readSum 12 = .ok (.istore 4, 2) := by decide +kernel
theorem dX4_readSum_14 : decode cX4_readSum 14 = .ok (.iconst 0, 1) := by decide +kernel
theorem dX4_readSum_15 : decode cX4_readSum 15 = .ok (.istore 5, 2) := by decide +kernel
theorem dX4_readSum_17 : decode cX4_readSum 17 = .ok (.iload 5, 2) := by decide +kernel
theorem dX4_readSum_19 : decode cX4_readSum 19 = .ok (.sipush 400, 3) := by decide +kernel
theorem dX4_readSum_22 : decode cX4_readSum 22 = .ok (.if_icmp .ge 92, 3) := by decide +kernel
theorem dX4_readSum_25 : decode cX4_readSum 25 = .ok (.aload_n 0, 1) := by decide +kernel
theorem dX4_readSum_26 : decode cX4_readSum 26 = .ok (.iload_n 1, 1) := by decide +kernel
theorem dX4_readSum_27 : decode cX4_readSum 27 = .ok (.invokevirtual 128, 3) := by decide +kernel
theorem dX4_readSum_30 : decode cX4_readSum 30 = .ok (.ifCond .ne 5, 3) := by decide +kernel
theorem dX4_readSum_33 : decode cX4_readSum 33 = .ok (.iconst 0, 1) := by decide +kernel
theorem dX4_readSum_34 : decode cX4_readSum 34 = .ok (.ireturn, 1) := by decide +kernel
theorem dX4_readSum_35 : decode cX4_readSum 35 = .ok (.aload_n 0, 1) := by decide +kernel
theorem dX4_readSum_36 : decode cX4_readSum 36 = .ok (.iload 4, 2) := by decide +kernel
theorem dX4_readSum_38 : decode cX4_readSum 38 = .ok (.invokevirtual 125, 3) := by decide +kernel
theorem dX4_readSum_41 : decode cX4_readSum 41 = .ok (.aload_n 0, 1) := by decide +kernel
theorem dX4_readSum_42 : decode cX4_readSum 42 = .ok (.invokevirtual 65, 3) := by decide +kernel
theorem dX4_readSum_45 : decode cX4_readSum 45 = .ok (.sipush 3042, 3) := by decide +kernel
theorem dX4_readSum_48 : decode cX4_readSum 48 = .ok (.if_icmp .ne 8, 3) := by decide +kernel
theorem dX4_readSum_51 : decode cX4_readSum 51 = .ok (.bipush 7, 2) := by decide +kernel
theorem dX4_readSum_53 : decode cX4_readSum 53 = .ok (.goto 34, 3) := by decide +kernel
theorem dX4_readSum_56 : decode cX4_readSum 56 = .ok (.aload_n 0, 1) := by decide +kernel
theorem dX4_readSum_57 : decode cX4_readSum 57 = .ok (.invokevirtual 65, 3) := by decide +kernel
theorem dX4_readSum_60 : decode cX4_readSum 60 = .ok (.sipush 3047, 3) := by decide +kernel
theorem dX4_readSum_63 : decode cX4_readSum 63 = .ok (.if_icmp .ne 8, 3) := by decide +kernel
theorem dX4_readSum_66 : decode cX4_readSum 66 = .ok (.bipush 8, 2) := by decide +kernel
theorem dX4_readSum_68 : decode cX4_readSum 68 = .ok (.goto 19, 3) := by decide +kernel
theorem dX4_readSum_71 : decode cX4_readSum 71 = .ok (.aload_n 0, 1) := by decide +kernel
theorem dX4_readSum_72 : decode cX4_readSum 72 = .ok (.invokevirtual 65, 3) := by decide +kernel
theorem dX4_readSum_75 : decode cX4_readSum 75 = .ok (.sipush 3037, 3) := by decide +kernel
theorem dX4_readSum_78 : decode cX4_readSum 78 = .ok (.if_icmp .ne 8, 3) := by decide +kernel
theorem dX4_readSum_81 : decode cX4_readSum 81 = .ok (.bipush 9, 2) := by decide +kernel
theorem dX4_readSum_83 : decode cX4_readSum 83 = .ok (.goto 4, 3) := by decide +kernel
theorem dX4_readSum_86 : decode cX4_readSum 86 = .ok (.iconst (-1), 1) := by decide +kernel
theorem dX4_readSum_87 : decode cX4_readSum 87 = .ok (.istore 4, 2) := by decide +kernel
theorem dX4_readSum_89 : decode cX4_readSum 89 = .ok (.iload 4, 2) := by decide +kernel
theorem dX4_readSum_91 : decode cX4_readSum 91 = .ok (.iconst (-1), 1) := by decide +kernel
theorem dX4_readSum_92 : decode cX4_readSum 92 = .ok (.if_icmp .ne 6, 3) := by decide +kernel
theorem dX4_readSum_95 : decode cX4_readSum 95 = .ok (.goto 19, 3) := by decide +kernel
theorem dX4_readSum_98 : decode cX4_readSum 98 = .ok (.aload_n 0, 1) := by decide +kernel
theorem dX4_readSum_99 : decode cX4_readSum 99 = .ok (.dup, 1) := by decide +kernel
theorem dX4_readSum_100 : decode cX4_readSum 100 = .ok (.getfield 31, 3) := by decide +kernel
theorem dX4_readSum_103 : decode cX4_readSum 103 = .ok (.iconst 1, 1) := by decide +kernel
theorem dX4_readSum_104 : decode cX4_readSum 104 = .ok (.iadd, 1) := by decide +kernel
theorem dX4_readSum_105 : decode cX4_readSum 105 = .ok (.putfield 31, 3) := by decide +kernel
theorem dX4_readSum_108 : decode cX4_readSum 108 = .ok (.iinc 5 1, 3) := by decide +kernel
theorem dX4_readSum_111 : decode cX4_readSum 111 = .ok (.goto (-94), 3) := by decide +kernel
theorem dX4_readSum_114 : decode cX4_readSum 114 = .ok (.aload_n 0, 1) := by decide +kernel
theorem dX4_readSum_115 : decode cX4_readSum 115 = .ok (.iload_n 2, 1) := by decide +kernel
theorem dX4_readSum_116 : decode cX4_readSum 116 = .ok (.invokevirtual 125, 3) := by decide +kernel
theorem dX4_readSum_119 : decode cX4_readSum 119 = .ok (.aload_n 0, 1) := by decide +kernel
theorem dX4_readSum_120 : decode cX4_readSum 120 = .ok (.invokevirtual 65, 3) := by decide +kernel
theorem dX4_readSum_123 : decode cX4_readSum 123 = .ok (.sipush 3043, 3) := by decide +kernel
theorem dX4_readSum_126 : decode cX4_readSum 126 = .ok (.if_icmp .ne 7, 3) := by decide +kernel
theorem dX4_readSum_129 : decode cX4_readSum 129 = .ok (.iconst 5, 1) := by decide +kernel
theorem dX4_readSum_130 : decode cX4_readSum 130 = .ok (.goto 19, 3) := by decide +kernel
theorem dX4_readSum_133 : decode cX4_readSum 133 = .ok (.aload_n 0, 1) := by decide +kernel
theorem dX4_readSum_134 : decode cX4_readSum 134 = .ok (.invokevirtual 65, 3) := by decide +kernel
theorem dX4_readSum_137 : decode cX4_readSum 137 = .ok (.sipush 3045, 3) := by decide +kernel
theorem dX4_readSum_140 : decode cX4_readSum 140 = .ok (.if_icmp .ne 8, 3) := by decide +kernel
theorem dX4_readSum_143 : decode cX4_readSum 143 = .ok (.bipush 6, 2) := by decide +kernel
theorem dX4_readSum_145 : decode cX4_readSum 145 = .ok (.goto 4, 3) := by decide +kernel
theorem dX4_readSum_148 : decode cX4_readSum 148 = .ok (.iconst (-1), 1) := by decide +kernel
theorem dX4_readSum_149 : decode cX4_readSum 149 = .ok (.istore_n 2, 1) := by decide +kernel
theorem dX4_readSum_150 : decode cX4_readSum 150 = .ok (.iload_n 2, 1) := by decide +kernel
theorem dX4_readSum_151 : decode cX4_readSum 151 = .ok (.iconst (-1), 1) := by decide +kernel
theorem dX4_readSum_152 : decode cX4_readSum 152 = .ok (.if_icmp .ne 5, 3) := by decide +kernel
theorem dX4_readSum_155 : decode cX4_readSum 155 = .ok (.iconst 1, 1) := by decide +kernel
theorem dX4_readSum_156 : decode cX4_readSum 156 = .ok (.ireturn, 1) := by decide +kernel
theorem dX4_readSum_157 : decode cX4_readSum 157 = .ok (.aload_n 0, 1) := by decide +kernel
theorem dX4_readSum_158 : decode cX4_readSum 158 = .ok (.dup, 1) := by decide +kernel
theorem dX4_readSum_159 : decode cX4_readSum 159 = .ok (.getfield 31, 3) := by decide +kernel
theorem dX4_readSum_162 : decode cX4_readSum 162 = .ok (.iconst 1, 1) := by decide +kernel
theorem dX4_readSum_163 : decode cX4_readSum 163 = .ok (.iadd, 1) := by decide +kernel
theorem dX4_readSum_164 : decode cX4_readSum 164 = .ok (.putfield 31, 3) := by decide +kernel
theorem dX4_readSum_167 : decode cX4_readSum 167 = .ok (.iinc 3 1, 3) := by decide +kernel
theorem dX4_readSum_170 : decode cX4_readSum 170 = .ok (.goto (-166), 3) := by decide +kernel
theorem dX4_readSum_173 : decode cX4_readSum 173 = .ok (.iconst 0, 1) := by decide +kernel
theorem dX4_readSum_174 : decode cX4_readSum 174 = .ok (.ireturn, 1) := by decide +kernel
set_option maxRecDepth 20000 in
theorem ggX4_emitIfAny_X10_emit : GoodIn wsX4_emitIfAny wsX10_emit := goodIn_r _ [6, 7, 8, 16, 17, 18, 19, 20, 21] (by decide +kernel) (by decide +kernel)
set_option maxRecDepth 20000 in
theorem gX4_emitIfAny_X10_emit : GoodIn wsX4_emitIfAny (wsV RX4 122 RX10 yX10_emit wsX10_emit) := goodIn_app (goodIn_of _ (by decide +kernel)) ggX4_emitIfAny_X10_emit
theorem dX4_emitIfAny_0 : decode cX4_emitIfAny 0 = .ok (.iload_n 1, 1) := by decide +kernel
theorem dX4_emitIfAny_1 : decode cX4_emitIfAny 1 = .ok (.iconst (-1), 1) := by decide +kernel
theorem dX4_emitIfAny_2 : decode cX4_emitIfAny 2 = .ok (.if_icmp .eq 13, 3) := by decide +kernel
theorem dX4_emitIfAny_5 : decode cX4_emitIfAny 5 = .ok (.aload_n 0, 1) := by decide +kernel
theorem dX4_emitIfAny_6 : decode cX4_emitIfAny 6 = .ok (.getfield 16, 3) := by decide +kernel
theorem dX4_emitIfAny_9 : decode cX4_emitIfAny 9 = .ok (.iload_n 1, 1) := by decide +kernel
theorem dX4_emitIfAny_10 : decode cX4_emitIfAny 10 = .ok (.iconst 0, 1) := by decide +kernel
theorem dX4_emitIfAny_11 : decode cX4_emitIfAny 11 = .ok (.invokevirtual 122, 3) := by decide +kernel
theorem dX4_emitIfAny_14 : decode cX4_emitIfAny 14 = .ok (.pop, 1) := by decide +kernel
theorem dX4_emitIfAny_15 : decode cX4_emitIfAny 15 = .ok (.return_, 1) := by decide +kernel
set_option maxRecDepth 20000 in
theorem ggX4_readOperand_X4_inHand : GoodIn wsX4_readOperand wsX4_inHand := goodIn_r _ [9, 1, 10, 11, 38, 39, 40, 41, 42, 43, 44] (by decide +kernel) (by decide +kernel)
set_option maxRecDepth 20000 in
theorem gX4_readOperand_X4_inHand : GoodIn wsX4_readOperand (wsV RX4 65 RX4 yX4_inHand wsX4_inHand) := goodIn_app (goodIn_of _ (by decide +kernel)) ggX4_readOperand_X4_inHand
set_option maxRecDepth 20000 in
theorem ggX4_readOperand_X4_readSum : GoodIn wsX4_readOperand wsX4_readSum := goodIn_r _ [30, 1, 31, 32, 33, 8, 34, 35, 36, 37, 3, 15, 16, 17, 18, 19, 20, 21, 5, 6, 7, 9, 10, 11, 0, 2, 4, 12, 13, 14, 22, 23, 24, 25, 26, 27, 28, 29, 38, 39, 40, 41, 42, 43, 44, 45, 46, 47, 48, 49, 50] (by decide +kernel) (by decide +kernel)
set_option maxRecDepth 20000 in
theorem gX4_readOperand_X4_readSum : GoodIn wsX4_readOperand (wsV RX4 107 RX4 yX4_readSum wsX4_readSum) := goodIn_app (goodIn_of _ (by decide +kernel)) ggX4_readOperand_X4_readSum
set_option maxRecDepth 20000 in
theorem ggX4_readOperand_X10_emit : GoodIn wsX4_readOperand wsX10_emit := goodIn_r _ [19, 20, 21, 45, 46, 47, 48, 49, 50] (by decide +kernel) (by decide +kernel)
set_option maxRecDepth 20000 in
theorem gX4_readOperand_X10_emit : GoodIn wsX4_readOperand (wsV RX4 122 RX10 yX10_emit wsX10_emit) := goodIn_app (goodIn_of _ (by decide +kernel)) ggX4_readOperand_X10_emit
set_option maxRecDepth 20000 in
theorem ggX4_readOperand_X4_takeOrderWord : GoodIn wsX4_readOperand wsX4_takeOrderWord := goodIn_r _ [25, 1, 5, 6, 7, 8, 9, 10, 11, 38, 39, 40, 41, 42, 43, 44] (by decide +kernel) (by decide +kernel)
set_option maxRecDepth 20000 in
theorem gX4_readOperand_X4_takeOrderWord : GoodIn wsX4_readOperand (wsV RX4 131 RX4 yX4_takeOrderWord wsX4_takeOrderWord) := goodIn_app (goodIn_of _ (by decide +kernel)) ggX4_readOperand_X4_takeOrderWord
set_option maxRecDepth 20000 in
theorem ggX4_readOperand_X4_takeLawWord : GoodIn wsX4_readOperand wsX4_takeLawWord := goodIn_r _ [29, 1, 38, 39, 40, 41, 42, 43, 44] (by decide +kernel) (by decide +kernel)
set_option maxRecDepth 20000 in
theorem gX4_readOperand_X4_takeLawWord : GoodIn wsX4_readOperand (wsV RX4 135 RX4 yX4_takeLawWord wsX4_takeLawWord) := goodIn_app (goodIn_of _ (by decide +kernel)) ggX4_readOperand_X4_takeLawWord
theorem dX4_readOperand_0 : decode cX4_readOperand 0 = .ok (.aload_n 0, 1) := by decide +kernel
theorem dX4_readOperand_1 : decode cX4_readOperand 1 = .ok (.invokevirtual 65, 3) := by decide +kernel
theorem dX4_readOperand_4 : decode cX4_readOperand 4 = .ok (.istore_n 2, 1) := by decide +kernel
theorem dX4_readOperand_5 : decode cX4_readOperand 5 = .ok (.iload_n 2, 1) := by decide +kernel
theorem dX4_readOperand_6 : decode cX4_readOperand 6 = .ok (.sipush 3091, 3) := by decide +kernel
theorem dX4_readOperand_9 : decode cX4_readOperand 9 = .ok (.if_icmp .ne 55, 3) := by decide +kernel
theorem dX4_readOperand_12 : decode cX4_readOperand 12 = .ok (.iload_n 1, 1) := by decide +kernel
theorem dX4_readOperand_13 : decode cX4_readOperand 13 = .ok (.bipush 8, 2) := by decide +kernel
theorem dX4_readOperand_15 : decode cX4_readOperand 15 = .ok (.if_icmp .lt 5, 3) := by decide +kernel
theorem dX4_readOperand_18 : decode cX4_readOperand 18 = .ok (.iconst 0, 1) := by decide +kernel
theorem dX4_readOperand_19 : decode cX4_readOperand 19 = .ok (.ireturn, 1) := by decide +kernel
theorem dX4_readOperand_20 : decode cX4_readOperand 20 = .ok (.aload_n 0, 1) := by decide +kernel
theorem dX4_readOperand_21 : decode cX4_readOperand 21 = .ok (.dup, 1) := by decide +kernel
theorem dX4_readOperand_22 : decode cX4_readOperand 22 = .ok (.getfield 31, 3) := by decide +kernel
theorem dX4_readOperand_25 : decode cX4_readOperand 25 = .ok (.iconst 1, 1) := by decide +kernel
theorem dX4_readOperand_26 : decode cX4_readOperand 26 = .ok (.iadd, 1) := by decide +kernel
theorem dX4_readOperand_27 : decode cX4_readOperand 27 = .ok (.putfield 31, 3) := by decide +kernel
theorem dX4_readOperand_30 : decode cX4_readOperand 30 = .ok (.aload_n 0, 1) := by decide +kernel
theorem dX4_readOperand_31 : decode cX4_readOperand 31 = .ok (.iload_n 1, 1) := by decide +kernel
theorem dX4_readOperand_32 : decode cX4_readOperand 32 = .ok (.iconst 1, 1) := by decide +kernel
theorem dX4_readOperand_33 : decode cX4_readOperand 33 = .ok (.iadd, 1) := by decide +kernel
theorem dX4_readOperand_34 : decode cX4_readOperand 34 = .ok (.invokevirtual 107, 3) := by decide +kernel
theorem dX4_readOperand_37 : decode cX4_readOperand 37 = .ok (.ifCond .eq 13, 3) := by decide +kernel
theorem dX4_readOperand_40 : decode cX4_readOperand 40 = .ok (.aload_n 0, 1) := by decide +kernel
theorem dX4_readOperand_41 : decode cX4_readOperand 41 = .ok (.invokevirtual 65, 3) := by decide +kernel
theorem dX4_readOperand_44 : decode cX4_readOperand 44 = .ok (.sipush 3093, 3) := by decide +kernel
theorem dX4_readOperand_47 : decode cX4_readOperand 47 = .ok (.if_icmp .eq 5, 3) := by decide +kernel
theorem dX4_readOperand_50 : decode cX4_readOperand 50 = .ok (.iconst 0, 1) := by decide +kernel
theorem dX4_readOperand_51 : decode cX4_readOperand 51 = .ok (.ireturn, 1) := by decide +kernel
theorem dX4_readOperand_52 : decode cX4_readOperand 52 = .ok (.aload_n 0, 1) := by decide +kernel
theorem dX4_readOperand_53 : decode cX4_readOperand 53 = .ok (.dup, 1) := by decide +kernel
theorem dX4_readOperand_54 : decode cX4_readOperand 54 = .ok (.getfield 31, 3) := by decide +kernel
theorem dX4_readOperand_57 : decode cX4_readOperand 57 = .ok (.iconst 1, 1) := by decide +kernel
theorem dX4_readOperand_58 : decode cX4_readOperand 58 = .ok (.iadd, 1) := by decide +kernel
theorem dX4_readOperand_59 : decode cX4_readOperand 59 = .ok (.putfield 31, 3) := by decide +kernel
theorem dX4_readOperand_62 : decode cX4_readOperand 62 = .ok (.iconst 1, 1) := by decide +kernel
theorem dX4_readOperand_63 : decode cX4_readOperand 63 = .ok (.ireturn, 1) := by decide +kernel
theorem dX4_readOperand_64 : decode cX4_readOperand 64 = .ok (.aload_n 0, 1) := by decide +kernel
theorem dX4_readOperand_65 : decode cX4_readOperand 65 = .ok (.getfield 34, 3) := by decide +kernel
theorem dX4_readOperand_68 : decode cX4_readOperand 68 = .ok (.bipush 50, 2) := by decide +kernel
theorem dX4_readOperand_70 : decode cX4_readOperand 70 = .ok (.if_icmp .lt 5, 3) := by decide +kernel
theorem dX4_readOperand_73 : decode cX4_readOperand 73 = .ok (.iconst 0, 1) := by decide +kernel
theorem dX4_readOperand_74 : decode cX4_readOperand 74 = .ok (.ireturn, 1) := by decide +kernel
theorem dX4_readOperand_75 : decode cX4_readOperand 75 = .ok (.aload_n 0, 1) := by decide +kernel
theorem dX4_readOperand_76 : decode cX4_readOperand 76 = .ok (.dup, 1) := by decide +kernel
theorem dX4_readOperand_77 : decode cX4_readOperand 77 = .ok (.getfield 34, 3) := by decide +kernel
theorem dX4_readOperand_80 : decode cX4_readOperand 80 = .ok (.iconst 1, 1) := by decide +kernel
theorem dX4_readOperand_81 : decode cX4_readOperand 81 = .ok (.iadd, 1) := by decide +kernel
theorem dX4_readOperand_82 : decode cX4_readOperand 82 = .ok (.putfield 34, 3) := by decide +kernel
theorem dX4_readOperand_85 : decode cX4_readOperand 85 = .ok (.iload_n 2, 1) := by decide +kernel
theorem dX4_readOperand_86 : decode cX4_readOperand 86 = .ok (.ifCond .lt 32, 3) := by decide +kernel
theorem dX4_readOperand_89 : decode cX4_readOperand 89 = .ok (.iload_n 2, 1) := by decide +kernel
theorem dX4_readOperand_90 : decode cX4_readOperand 90 = .ok (.sipush 1000, 3) := by decide +kernel
theorem dX4_readOperand_93 : decode cX4_readOperand 93 = .ok (.if_icmp .gt 25, 3) := by decide +kernel
theorem dX4_readOperand_96 : decode cX4_readOperand 96 = .ok (.aload_n 0, 1) := by decide +kernel
theorem dX4_readOperand_97 : decode cX4_readOperand 97 = .ok (.dup, 1) := by decide +kernel
theorem dX4_readOperand_98 : decode cX4_readOperand 98 = .ok (.getfield 31, 3) := by decide +kernel
theorem dX4_readOperand_101 : decode cX4_readOperand 101 = .ok (.iconst 1, 1) := by decide +kernel
theorem dX4_readOperand_102 : decode cX4_readOperand 102 = .ok (.iadd, 1) := by decide +kernel
theorem dX4_readOperand_103 : decode cX4_readOperand 103 = .ok (.putfield 31, 3) := by decide +kernel
theorem dX4_readOperand_106 : decode cX4_readOperand 106 = .ok (.aload_n 0, 1) := by decide +kernel
theorem dX4_readOperand_107 : decode cX4_readOperand 107 = .ok (.getfield 16, 3) := by decide +kernel
theorem dX4_readOperand_110 : decode cX4_readOperand 110 = .ok (.iconst 0, 1) := by decide +kernel
theorem dX4_readOperand_111 : decode cX4_readOperand 111 = .ok (.iload_n 2, 1) := by decide +kernel
theorem dX4_readOperand_112 : decode cX4_readOperand 112 = .ok (.invokevirtual 122, 3) := by decide +kernel
theorem dX4_readOperand_115 : decode cX4_readOperand 115 = .ok (.pop, 1) := by decide +kernel
theorem dX4_readOperand_116 : decode cX4_readOperand 116 = .ok (.iconst 1, 1) := by decide +kernel
theorem dX4_readOperand_117 : decode cX4_readOperand 117 = .ok (.ireturn, 1) := by decide +kernel
theorem dX4_readOperand_118 : decode cX4_readOperand 118 = .ok (.aload_n 0, 1) := by decide +kernel
theorem dX4_readOperand_119 : decode cX4_readOperand 119 = .ok (.getfield 37, 3) := by decide +kernel
theorem dX4_readOperand_122 : decode cX4_readOperand 122 = .ok (.ifCond .eq 11, 3) := by decide +kernel
theorem dX4_readOperand_125 : decode cX4_readOperand 125 = .ok (.aload_n 0, 1) := by decide +kernel
theorem dX4_readOperand_126 : decode cX4_readOperand 126 = .ok (.iload_n 2, 1) := by decide +kernel
theorem dX4_readOperand_127 : decode cX4_readOperand 127 = .ok (.invokevirtual 131, 3) := by decide +kernel
theorem dX4_readOperand_130 : decode cX4_readOperand 130 = .ok (.goto 8, 3) := by decide +kernel
theorem dX4_readOperand_133 : decode cX4_readOperand 133 = .ok (.aload_n 0, 1) := by decide +kernel
theorem dX4_readOperand_134 : decode cX4_readOperand 134 = .ok (.iload_n 2, 1) := by decide +kernel
theorem dX4_readOperand_135 : decode cX4_readOperand 135 = .ok (.invokevirtual 135, 3) := by decide +kernel
theorem dX4_readOperand_138 : decode cX4_readOperand 138 = .ok (.istore_n 3, 1) := by decide +kernel
theorem dX4_readOperand_139 : decode cX4_readOperand 139 = .ok (.iload_n 3, 1) := by decide +kernel
theorem dX4_readOperand_140 : decode cX4_readOperand 140 = .ok (.iconst (-1), 1) := by decide +kernel
theorem dX4_readOperand_141 : decode cX4_readOperand 141 = .ok (.if_icmp .ne 5, 3) := by decide +kernel
theorem dX4_readOperand_144 : decode cX4_readOperand 144 = .ok (.iconst 0, 1) := by decide +kernel
theorem dX4_readOperand_145 : decode cX4_readOperand 145 = .ok (.ireturn, 1) := by decide +kernel
theorem dX4_readOperand_146 : decode cX4_readOperand 146 = .ok (.aload_n 0, 1) := by decide +kernel
theorem dX4_readOperand_147 : decode cX4_readOperand 147 = .ok (.getfield 16, 3) := by decide +kernel
theorem dX4_readOperand_150 : decode cX4_readOperand 150 = .ok (.iconst 1, 1) := by decide +kernel
theorem dX4_readOperand_151 : decode cX4_readOperand 151 = .ok (.iload_n 3, 1) := by decide +kernel
theorem dX4_readOperand_152 : decode cX4_readOperand 152 = .ok (.invokevirtual 122, 3) := by decide +kernel
theorem dX4_readOperand_155 : decode cX4_readOperand 155 = .ok (.pop, 1) := by decide +kernel
theorem dX4_readOperand_156 : decode cX4_readOperand 156 = .ok (.iconst 1, 1) := by decide +kernel
theorem dX4_readOperand_157 : decode cX4_readOperand 157 = .ok (.ireturn, 1) := by decide +kernel
theorem dX4_takeLawWord_0 : decode cX4_takeLawWord 0 = .ok (.iload_n 1, 1) := by decide +kernel
theorem dX4_takeLawWord_1 : decode cX4_takeLawWord 1 = .ok (.sipush 2008, 3) := by decide +kernel
theorem dX4_takeLawWord_4 : decode cX4_takeLawWord 4 = .ok (.isub, 1) := by decide +kernel
theorem dX4_takeLawWord_5 : decode cX4_takeLawWord 5 = .ok (.istore_n 2, 1) := by decide +kernel
theorem dX4_takeLawWord_6 : decode cX4_takeLawWord 6 = .ok (.iload_n 2, 1) := by decide +kernel
theorem dX4_takeLawWord_7 : decode cX4_takeLawWord 7 = .ok (.ifCond .lt 9, 3) := by decide +kernel
theorem dX4_takeLawWord_10 : decode cX4_takeLawWord 10 = .ok (.iload_n 2, 1) := by decide +kernel
theorem dX4_takeLawWord_11 : decode cX4_takeLawWord 11 = .ok (.bipush 10, 2) := by decide +kernel
theorem dX4_takeLawWord_13 : decode cX4_takeLawWord 13 = .ok (.if_icmp .lt 5, 3) := by decide +kernel
theorem dX4_takeLawWord_16 : decode cX4_takeLawWord 16 = .ok (.iconst (-1), 1) := by decide +kernel
theorem dX4_takeLawWord_17 : decode cX4_takeLawWord 17 = .ok (.ireturn, 1) := by decide +kernel
theorem dX4_takeLawWord_18 : decode cX4_takeLawWord 18 = .ok (.aload_n 0, 1) := by decide +kernel
theorem dX4_takeLawWord_19 : decode cX4_takeLawWord 19 = .ok (.dup, 1) := by decide +kernel
theorem dX4_takeLawWord_20 : decode cX4_takeLawWord 20 = .ok (.getfield 31, 3) := by decide +kernel
theorem dX4_takeLawWord_23 : decode cX4_takeLawWord 23 = .ok (.iconst 1, 1) := by decide +kernel
theorem dX4_takeLawWord_24 : decode cX4_takeLawWord 24 = .ok (.iadd, 1) := by decide +kernel
theorem dX4_takeLawWord_25 : decode cX4_takeLawWord 25 = .ok (.putfield 31, 3) := by decide +kernel
theorem dX4_takeLawWord_28 : decode cX4_takeLawWord 28 = .ok (.iload_n 2, 1) := by decide +kernel
theorem dX4_takeLawWord_29 : decode cX4_takeLawWord 29 = .ok (.ireturn, 1) := by decide +kernel
set_option maxRecDepth 20000 in
theorem ggX4_takeOrderWord_X4_inHand : GoodIn wsX4_takeOrderWord wsX4_inHand := goodIn_r _ [6, 1, 7, 8, 9, 10, 11, 12, 13, 14, 15] (by decide +kernel) (by decide +kernel)
set_option maxRecDepth 20000 in
theorem gX4_takeOrderWord_X4_inHand : GoodIn wsX4_takeOrderWord (wsV RX4 65 RX4 yX4_inHand wsX4_inHand) := goodIn_app (goodIn_of _ (by decide +kernel)) ggX4_takeOrderWord_X4_inHand
theorem dX4_takeOrderWord_0 : decode cX4_takeOrderWord 0 = .ok (.iload_n 1, 1) := by decide +kernel
theorem dX4_takeOrderWord_1 : decode cX4_takeOrderWord 1 = .ok (.sipush 2016, 3) := by decide +kernel
theorem dX4_takeOrderWord_4 : decode cX4_takeOrderWord 4 = .ok (.if_icmp .ne 7, 3) := by decide +kernel
theorem dX4_takeOrderWord_7 : decode cX4_takeOrderWord 7 = .ok (.iconst 0, 1) := by decide +kernel
theorem dX4_takeOrderWord_8 : decode cX4_takeOrderWord 8 = .ok (.goto 37, 3) := by decide +kernel
theorem dX4_takeOrderWord_11 : decode cX4_takeOrderWord 11 = .ok (.iload_n 1, 1) := by decide +kernel
theorem dX4_takeOrderWord_12 : decode cX4_takeOrderWord 12 = .ok (.sipush 2024, 3) := by decide +kernel
theorem dX4_takeOrderWord_15 : decode cX4_takeOrderWord 15 = .ok (.if_icmp .ne 7, 3) := by decide +kernel
theorem dX4_takeOrderWord_18 : decode cX4_takeOrderWord 18 = .ok (.iconst 1, 1) := by decide +kernel
theorem dX4_takeOrderWord_19 : decode cX4_takeOrderWord 19 = .ok (.goto 26, 3) := by decide +kernel
theorem dX4_takeOrderWord_22 : decode cX4_takeOrderWord 22 = .ok (.iload_n 1, 1) := by decide +kernel
theorem dX4_takeOrderWord_23 : decode cX4_takeOrderWord 23 = .ok (.sipush 2025, 3) := by decide +kernel
theorem dX4_takeOrderWord_26 : decode cX4_takeOrderWord 26 = .ok (.if_icmp .ne 7, 3) := by decide +kernel
theorem dX4_takeOrderWord_29 : decode cX4_takeOrderWord 29 = .ok (.iconst 2, 1) := by decide +kernel
theorem dX4_takeOrderWord_30 : decode cX4_takeOrderWord 30 = .ok (.goto 15, 3) := by decide +kernel
theorem dX4_takeOrderWord_33 : decode cX4_takeOrderWord 33 = .ok (.iload_n 1, 1) := by decide +kernel
theorem dX4_takeOrderWord_34 : decode cX4_takeOrderWord 34 = .ok (.sipush 2026, 3) := by decide +kernel
theorem dX4_takeOrderWord_37 : decode cX4_takeOrderWord 37 = .ok (.if_icmp .ne 7, 3) := by decide +kernel
theorem dX4_takeOrderWord_40 : decode cX4_takeOrderWord 40 = .ok (.iconst 3, 1) := by decide +kernel
theorem dX4_takeOrderWord_41 : decode cX4_takeOrderWord 41 = .ok (.goto 4, 3) := by decide +kernel
theorem dX4_takeOrderWord_44 : decode cX4_takeOrderWord 44 = .ok (.iconst (-1), 1) := by decide +kernel
theorem dX4_takeOrderWord_45 : decode cX4_takeOrderWord 45 = .ok (.istore_n 2, 1) := by decide +kernel
theorem dX4_takeOrderWord_46 : decode cX4_takeOrderWord 46 = .ok (.iload_n 2, 1) := by decide +kernel
theorem dX4_takeOrderWord_47 : decode cX4_takeOrderWord 47 = .ok (.iconst (-1), 1) := by decide +kernel
theorem dX4_takeOrderWord_48 : decode cX4_takeOrderWord 48 = .ok (.if_icmp .eq 15, 3) := by decide +kernel
theorem dX4_takeOrderWord_51 : decode cX4_takeOrderWord 51 = .ok (.aload_n 0, 1) := by decide +kernel
theorem dX4_takeOrderWord_52 : decode cX4_takeOrderWord 52 = .ok (.dup, 1) := by decide +kernel
theorem dX4_takeOrderWord_53 : decode cX4_takeOrderWord 53 = .ok (.getfield 31, 3) := by decide +kernel
theorem dX4_takeOrderWord_56 : decode cX4_takeOrderWord 56 = .ok (.iconst 1, 1) := by decide +kernel
theorem dX4_takeOrderWord_57 : decode cX4_takeOrderWord 57 = .ok (.iadd, 1) := by decide +kernel
theorem dX4_takeOrderWord_58 : decode cX4_takeOrderWord 58 = .ok (.putfield 31, 3) := by decide +kernel
theorem dX4_takeOrderWord_61 : decode cX4_takeOrderWord 61 = .ok (.iload_n 2, 1) := by decide +kernel
theorem dX4_takeOrderWord_62 : decode cX4_takeOrderWord 62 = .ok (.ireturn, 1) := by decide +kernel
theorem dX4_takeOrderWord_63 : decode cX4_takeOrderWord 63 = .ok (.iload_n 1, 1) := by decide +kernel
theorem dX4_takeOrderWord_64 : decode cX4_takeOrderWord 64 = .ok (.sipush 2014, 3) := by decide +kernel
theorem dX4_takeOrderWord_67 : decode cX4_takeOrderWord 67 = .ok (.if_icmp .ne 7, 3) := by decide +kernel
theorem dX4_takeOrderWord_70 : decode cX4_takeOrderWord 70 = .ok (.iconst 4, 1) := by decide +kernel
theorem dX4_takeOrderWord_71 : decode cX4_takeOrderWord 71 = .ok (.goto 28, 3) := by decide +kernel
theorem dX4_takeOrderWord_74 : decode cX4_takeOrderWord 74 = .ok (.iload_n 1, 1) := by decide +kernel
theorem dX4_takeOrderWord_75 : decode cX4_takeOrderWord 75 = .ok (.sipush 2010, 3) := by decide +kernel
theorem dX4_takeOrderWord_78 : decode cX4_takeOrderWord 78 = .ok (.if_icmp .ne 8, 3) := by decide +kernel
theorem dX4_takeOrderWord_81 : decode cX4_takeOrderWord 81 = .ok (.bipush 14, 2) := by decide +kernel
theorem dX4_takeOrderWord_83 : decode cX4_takeOrderWord 83 = .ok (.goto 16, 3) := by decide +kernel
theorem dX4_takeOrderWord_86 : decode cX4_takeOrderWord 86 = .ok (.iload_n 1, 1) := by decide +kernel
theorem dX4_takeOrderWord_87 : decode cX4_takeOrderWord 87 = .ok (.sipush 2027, 3) := by decide +kernel
theorem dX4_takeOrderWord_90 : decode cX4_takeOrderWord 90 = .ok (.if_icmp .ne 8, 3) := by decide +kernel
theorem dX4_takeOrderWord_93 : decode cX4_takeOrderWord 93 = .ok (.bipush 20, 2) := by decide +kernel
theorem dX4_takeOrderWord_95 : decode cX4_takeOrderWord 95 = .ok (.goto 4, 3) := by decide +kernel
theorem dX4_takeOrderWord_98 : decode cX4_takeOrderWord 98 = .ok (.iconst (-1), 1) := by decide +kernel
theorem dX4_takeOrderWord_99 : decode cX4_takeOrderWord 99 = .ok (.istore_n 3, 1) := by decide +kernel
theorem dX4_takeOrderWord_100 : decode cX4_takeOrderWord 100 = .ok (.iload_n 3, 1) := by decide +kernel
theorem dX4_takeOrderWord_101 : decode cX4_takeOrderWord 101 = .ok (.iconst (-1), 1) := by decide +kernel
theorem dX4_takeOrderWord_102 : decode cX4_takeOrderWord 102 = .ok (.if_icmp .ne 5, 3) := by decide +kernel
theorem dX4_takeOrderWord_105 : decode cX4_takeOrderWord 105 = .ok (.iconst (-1), 1) := by decide +kernel
theorem dX4_takeOrderWord_106 : decode cX4_takeOrderWord 106 = .ok (.ireturn, 1) := by decide +kernel
theorem dX4_takeOrderWord_107 : decode cX4_takeOrderWord 107 = .ok (.aload_n 0, 1) := by decide +kernel
theorem dX4_takeOrderWord_108 : decode cX4_takeOrderWord 108 = .ok (.dup, 1) := by decide +kernel
theorem dX4_takeOrderWord_109 : decode cX4_takeOrderWord 109 = .ok (.getfield 31, 3) := by decide +kernel
theorem dX4_takeOrderWord_112 : decode cX4_takeOrderWord 112 = .ok (.iconst 1, 1) := by decide +kernel
theorem dX4_takeOrderWord_113 : decode cX4_takeOrderWord 113 = .ok (.iadd, 1) := by decide +kernel
theorem dX4_takeOrderWord_114 : decode cX4_takeOrderWord 114 = .ok (.putfield 31, 3) := by decide +kernel
theorem dX4_takeOrderWord_117 : decode cX4_takeOrderWord 117 = .ok (.aload_n 0, 1) := by decide +kernel
theorem dX4_takeOrderWord_118 : decode cX4_takeOrderWord 118 = .ok (.invokevirtual 65, 3) := by decide +kernel
theorem dX4_takeOrderWord_121 : decode cX4_takeOrderWord 121 = .ok (.istore 4, 2) := by decide +kernel
theorem dX4_takeOrderWord_123 : decode cX4_takeOrderWord 123 = .ok (.iload 4, 2) := by decide +kernel
theorem dX4_takeOrderWord_125 : decode cX4_takeOrderWord 125 = .ok (.ifCond .lt 20, 3) := by decide +kernel
theorem dX4_takeOrderWord_128 : decode cX4_takeOrderWord 128 = .ok (.iload 4, 2) := by decide +kernel
theorem dX4_takeOrderWord_130 : decode cX4_takeOrderWord 130 = .ok (.iload_n 3, 1) := by decide +kernel
theorem dX4_takeOrderWord_131 : decode cX4_takeOrderWord 131 = .ok (.iconst 4, 1) := by decide +kernel
theorem dX4_takeOrderWord_132 : decode cX4_takeOrderWord 132 = .ok (.if_icmp .ne 8, 3) := by decide +kernel
theorem dX4_takeOrderWord_135 : decode cX4_takeOrderWord 135 = .ok (.bipush 10, 2) := by decide +kernel
theorem dX4_takeOrderWord_137 : decode cX4_takeOrderWord 137 = .ok (.goto 5, 3) := by decide +kernel
theorem dX4_takeOrderWord_140 : decode cX4_takeOrderWord 140 = .ok (.bipush 6, 2) := by decide +kernel
theorem dX4_takeOrderWord_142 : decode cX4_takeOrderWord 142 = .ok (.if_icmp .lt 5, 3) := by decide +kernel
theorem dX4_takeOrderWord_145 : decode cX4_takeOrderWord 145 = .ok (.iconst (-1), 1) := by decide +kernel
theorem dX4_takeOrderWord_146 : decode cX4_takeOrderWord 146 = .ok (.ireturn, 1) := by decide +kernel
theorem dX4_takeOrderWord_147 : decode cX4_takeOrderWord 147 = .ok (.aload_n 0, 1) := by decide +kernel
theorem dX4_takeOrderWord_148 : decode cX4_takeOrderWord 148 = .ok (.dup, 1) := by decide +kernel
theorem dX4_takeOrderWord_149 : decode cX4_takeOrderWord 149 = .ok (.getfield 31, 3) := by decide +kernel
theorem dX4_takeOrderWord_152 : decode cX4_takeOrderWord 152 = .ok (.iconst 1, 1) := by decide +kernel
theorem dX4_takeOrderWord_153 : decode cX4_takeOrderWord 153 = .ok (.iadd, 1) := by decide +kernel
theorem dX4_takeOrderWord_154 : decode cX4_takeOrderWord 154 = .ok (.putfield 31, 3) := by decide +kernel
theorem dX4_takeOrderWord_157 : decode cX4_takeOrderWord 157 = .ok (.iload_n 3, 1) := by decide +kernel
theorem dX4_takeOrderWord_158 : decode cX4_takeOrderWord 158 = .ok (.iload 4, 2) := by decide +kernel
theorem dX4_takeOrderWord_160 : decode cX4_takeOrderWord 160 = .ok (.iadd, 1) := by decide +kernel
theorem dX4_takeOrderWord_161 : decode cX4_takeOrderWord 161 = .ok (.ireturn, 1) := by decide +kernel
set_option maxRecDepth 20000 in
theorem ggX5_init_X7_init : GoodIn wsX5_init wsX7_init := goodIn_r _ [20, 21, 2, 3, 22, 23, 24, 25, 26, 27, 28, 29, 30, 31, 32, 33, 34, 35, 36, 37, 38, 39, 40, 41, 42, 43, 44, 45, 46, 47, 48, 49, 50, 51, 52, 53, 54, 55, 12, 56, 57, 58, 59, 60, 67, 68, 69, 70, 71, 72, 73, 74, 75, 76, 77, 78, 79, 80, 81, 82, 83, 84, 85, 86, 98, 99, 100, 101, 102] (by decide +kernel) (by decide +kernel)
set_option maxRecDepth 20000 in
theorem gX5_init_X7_init_n11 : GoodIn wsX5_init (wsX7_init) := ggX5_init_X7_init
set_option maxRecDepth 20000 in
theorem ggX5_init_X2_init : GoodIn wsX5_init wsX2_init := goodIn_r _ [62, 63, 2, 3, 64, 65, 23, 66, 95, 96, 97] (by decide +kernel) (by decide +kernel)
set_option maxRecDepth 20000 in
theorem gX5_init_X2_init_n20 : GoodIn wsX5_init (wsX2_init) := ggX5_init_X2_init
theorem dX5_init_0 : decode cX5_init 0 = .ok (.aload_n 0, 1) := by decide +kernel
theorem dX5_init_1 : decode cX5_init 1 = .ok (.invokespecial 3, 3) := by decide +kernel
theorem dX5_init_4 : decode cX5_init 4 = .ok (.aload_n 0, 1) := by decide +kernel
theorem dX5_init_5 : decode cX5_init 5 = .ok (.new 9, 3) := by decide +kernel
theorem dX5_init_8 : decode cX5_init 8 = .ok (.dup, 1) := by decide +kernel
theorem dX5_init_9 : decode cX5_init 9 = .ok (.invokespecial 11, 3) := by decide +kernel
theorem dX5_init_12 : decode cX5_init 12 = .ok (.putfield 12, 3) := by decide +kernel
theorem dX5_init_15 : decode cX5_init 15 = .ok (.aload_n 0, 1) := by decide +kernel
theorem dX5_init_16 : decode cX5_init 16 = .ok (.new 18, 3) := by decide +kernel
theorem dX5_init_19 : decode cX5_init 19 = .ok (.dup, 1) := by decide +kernel
theorem dX5_init_20 : decode cX5_init 20 = .ok (.invokespecial 20, 3) := by decide +kernel
theorem dX5_init_23 : decode cX5_init 23 = .ok (.putfield 21, 3) := by decide +kernel
theorem dX5_init_26 : decode cX5_init 26 = .ok (.aload_n 0, 1) := by decide +kernel
theorem dX5_init_27 : decode cX5_init 27 = .ok (.bipush 26, 2) := by decide +kernel
theorem dX5_init_29 : decode cX5_init 29 = .ok (.newarray .long, 2) := by decide +kernel
theorem dX5_init_31 : decode cX5_init 31 = .ok (.putfield 27, 3) := by decide +kernel
theorem dX5_init_34 : decode cX5_init 34 = .ok (.aload_n 0, 1) := by decide +kernel
theorem dX5_init_35 : decode cX5_init 35 = .ok (.iconst 0, 1) := by decide +kernel
theorem dX5_init_36 : decode cX5_init 36 = .ok (.putfield 31, 3) := by decide +kernel
theorem dX5_init_39 : decode cX5_init 39 = .ok (.aload_n 0, 1) := by decide +kernel
theorem dX5_init_40 : decode cX5_init 40 = .ok (.iconst (-1), 1) := by decide +kernel
theorem dX5_init_41 : decode cX5_init 41 = .ok (.putfield 35, 3) := by decide +kernel
theorem dX5_init_44 : decode cX5_init 44 = .ok (.aload_n 0, 1) := by decide +kernel
theorem dX5_init_45 : decode cX5_init 45 = .ok (.aload_n 1, 1) := by decide +kernel
theorem dX5_init_46 : decode cX5_init 46 = .ok (.putfield 38, 3) := by decide +kernel
theorem dX5_init_49 : decode cX5_init 49 = .ok (.aload_n 0, 1) := by decide +kernel
theorem dX5_init_50 : decode cX5_init 50 = .ok (.aload_n 2, 1) := by decide +kernel
theorem dX5_init_51 : decode cX5_init 51 = .ok (.putfield 41, 3) := by decide +kernel
theorem dX5_init_54 : decode cX5_init 54 = .ok (.aload_n 0, 1) := by decide +kernel
theorem dX5_init_55 : decode cX5_init 55 = .ok (.aload_n 3, 1) := by decide +kernel
theorem dX5_init_56 : decode cX5_init 56 = .ok (.putfield 44, 3) := by decide +kernel
theorem dX5_init_59 : decode cX5_init 59 = .ok (.return_, 1) := by decide +kernel
set_option maxRecDepth 20000 in
theorem ggX5_runAll_X7_copyFrom : GoodIn wsX5_runAll wsX7_copyFrom := goodIn_r _ [13, 14, 15, 16, 17, 18, 19, 20, 21, 22, 23, 24, 25, 26, 27, 28, 29, 30, 31, 32, 33, 34, 35, 36, 208, 209, 210, 211, 212, 213, 214, 215, 216, 217, 218, 219, 220, 221, 222, 223, 224, 225, 226, 227] (by decide +kernel) (by decide +kernel)
set_option maxRecDepth 20000 in
theorem gX5_runAll_X7_copyFrom : GoodIn wsX5_runAll (wsV RX5 48 RX7 yX7_copyFrom wsX7_copyFrom) := goodIn_app (goodIn_of _ (by decide +kernel)) ggX5_runAll_X7_copyFrom
set_option maxRecDepth 20000 in
theorem ggX5_runAll_X2_copyFrom : GoodIn wsX5_runAll wsX2_copyFrom := goodIn_r _ [41, 42, 43, 44, 45, 17, 18, 19, 228, 229, 230] (by decide +kernel) (by decide +kernel)
set_option maxRecDepth 20000 in
theorem gX5_runAll_X2_copyFrom : GoodIn wsX5_runAll (wsV RX5 52 RX2 yX2_copyFrom wsX2_copyFrom) := goodIn_app (goodIn_of _ (by decide +kernel)) ggX5_runAll_X2_copyFrom
set_option maxRecDepth 20000 in
theorem ggX5_runAll_X5_runOnce : GoodIn wsX5_runAll wsX5_runOnce := goodIn_r _ [50, 51, 2, 52, 53, 54, 55, 56, 6, 5, 57, 58, 59, 49, 60, 61, 62, 63, 64, 65, 66, 67, 68, 12, 69, 14, 23, 70, 71, 72, 73, 74, 75, 76, 77, 78, 79, 80, 81, 82, 83, 84, 24, 85, 86, 87, 88, 89, 90, 91, 92, 93, 94, 95, 96, 97, 98, 99, 100, 101, 102, 103, 104, 105, 106, 107, 108, 109, 110, 111, 112, 20, 113, 114, 115, 116, 117, 36, 34, 118, 119, 120, 121, 122, 123, 124, 125, 126, 127, 128, 129, 130, 131, 132, 133, 134, 135, 136, 137, 138, 139, 26, 140, 141, 142, 143, 25, 21, 144, 145, 146, 147, 28, 27, 22, 29, 148, 149, 150, 151, 40, 152, 43, 44, 153, 154, 45, 17, 18, 19, 155, 156, 42, 157, 158, 159, 160, 161, 162, 163, 164, 165, 166, 167, 168, 169, 170, 171, 172, 173, 174, 175, 176, 177, 178, 179, 180, 181, 182, 183, 184, 185, 186, 187, 188, 189, 190, 191, 192, 193, 194, 195, 196, 197, 198, 199, 200, 201, 208, 209, 210, 211, 212, 213, 214, 215, 216, 217, 218, 219, 220, 221, 222, 223, 224, 225, 226, 227, 231, 232, 233, 234, 235, 202, 203, 204, 205, 206, 207, 236, 237, 228, 229, 230] (by decide +kernel) (by decide +kernel)
set_option maxRecDepth 20000 in
theorem gX5_runAll_X5_runOnce : GoodIn wsX5_runAll (wsV RX5 64 RX5 yX5_runOnce wsX5_runOnce) := goodIn_app (goodIn_of _ (by decide +kernel)) ggX5_runAll_X5_runOnce
theorem dX5_runAll_0 : decode cX5_runAll 0 = .ok (.aload_n 0, 1) := by decide +kernel
theorem dX5_runAll_1 : decode cX5_runAll 1 = .ok (.getfield 12, 3) := by decide +kernel
theorem dX5_runAll_4 : decode cX5_runAll 4 = .ok (.aload_n 0, 1) := by decide +kernel
theorem dX5_runAll_5 : decode cX5_runAll 5 = .ok (.getfield 38, 3) := by decide +kernel
theorem dX5_runAll_8 : decode cX5_runAll 8 = .ok (.invokevirtual 48, 3) := by decide +kernel
theorem dX5_runAll_11 : decode cX5_runAll 11 = .ok (.aload_n 0, 1) := by decide +kernel
theorem dX5_runAll_12 : decode cX5_runAll 12 = .ok (.getfield 21, 3) := by decide +kernel
theorem dX5_runAll_15 : decode cX5_runAll 15 = .ok (.aload_n 0, 1) := by decide +kernel
theorem dX5_runAll_16 : decode cX5_runAll 16 = .ok (.getfield 41, 3) := by decide +kernel
theorem dX5_runAll_19 : decode cX5_runAll 19 = .ok (.invokevirtual 52, 3) := by decide +kernel
theorem dX5_runAll_22 : decode cX5_runAll 22 = .ok (.aload_n 0, 1) := by decide +kernel
theorem dX5_runAll_23 : decode cX5_runAll 23 = .ok (.iconst 0, 1) := by decide +kernel
theorem dX5_runAll_24 : decode cX5_runAll 24 = .ok (.putfield 31, 3) := by decide +kernel
theorem dX5_runAll_27 : decode cX5_runAll 27 = .ok (.aload_n 0, 1) := by decide +kernel
theorem dX5_runAll_28 : decode cX5_runAll 28 = .ok (.iconst (-1), 1) := by decide +kernel
theorem dX5_runAll_29 : decode cX5_runAll 29 = .ok (.putfield 35, 3) := by decide +kernel
theorem dX5_runAll_32 : decode cX5_runAll 32 = .ok (.iconst 0, 1) := by decide +kernel
theorem dX5_runAll_33 : decode cX5_runAll 33 = .ok (.istore_n 2, 1) := by decide +kernel
theorem dX5_runAll_34 : decode cX5_runAll 34 = .ok (.iload_n 2, 1) := by decide +kernel
theorem dX5_runAll_35 : decode cX5_runAll 35 = .ok (.aload_n 1, 1) := by decide +kernel
theorem dX5_runAll_36 : decode cX5_runAll 36 = .ok (.getfield 55, 3) := by decide +kernel
theorem dX5_runAll_39 : decode cX5_runAll 39 = .ok (.if_icmp .ge 66, 3) := by decide +kernel
theorem dX5_runAll_42 : decode cX5_runAll 42 = .ok (.iload_n 2, 1) := by decide +kernel
theorem dX5_runAll_43 : decode cX5_runAll 43 = .ok (.bipush 12, 2) := by decide +kernel
theorem dX5_runAll_45 : decode cX5_runAll 45 = .ok (.if_icmp .ge 60, 3) := by decide +kernel
theorem dX5_runAll_48 : decode cX5_runAll 48 = .ok (.iconst 0, 1) := by decide +kernel
theorem dX5_runAll_49 : decode cX5_runAll 49 = .ok (.istore_n 3, 1) := by decide +kernel
theorem dX5_runAll_50 : decode cX5_runAll 50 = .ok (.iload_n 3, 1) := by decide +kernel
theorem dX5_runAll_51 : decode cX5_runAll 51 = .ok (.aload_n 1, 1) := by decide +kernel
theorem dX5_runAll_52 : decode cX5_runAll 52 = .ok (.getfield 60, 3) := by decide +kernel
theorem dX5_runAll_55 : decode cX5_runAll 55 = .ok (.iload_n 2, 1) := by decide +kernel
theorem dX5_runAll_56 : decode cX5_runAll 56 = .ok (.iaload, 1) := by decide +kernel
theorem dX5_runAll_57 : decode cX5_runAll 57 = .ok (.if_icmp .ge 42, 3) := by decide +kernel
theorem dX5_runAll_60 : decode cX5_runAll 60 = .ok (.aload_n 0, 1) := by decide +kernel
theorem dX5_runAll_61 : decode cX5_runAll 61 = .ok (.aload_n 1, 1) := by decide +kernel
theorem dX5_runAll_62 : decode cX5_runAll 62 = .ok (.iload_n 2, 1) := by decide +kernel
theorem dX5_runAll_63 : decode cX5_runAll 63 = .ok (.invokevirtual 64, 3) := by decide +kernel
theorem dX5_runAll_66 : decode cX5_runAll 66 = .ok (.ifCond .ne 27, 3) := by decide +kernel
theorem dX5_runAll_69 : decode cX5_runAll 69 = .ok (.aload_n 0, 1) := by decide +kernel
theorem dX5_runAll_70 : decode cX5_runAll 70 = .ok (.getfield 38, 3) := by decide +kernel
theorem dX5_runAll_73 : decode cX5_runAll 73 = .ok (.aload_n 0, 1) := by decide +kernel
theorem dX5_runAll_74 : decode cX5_runAll 74 = .ok (.getfield 12, 3) := by decide +kernel
theorem dX5_runAll_77 : decode cX5_runAll 77 = .ok (.invokevirtual 48, 3) := by decide +kernel
theorem dX5_runAll_80 : decode cX5_runAll 80 = .ok (.aload_n 0, 1) := by decide +kernel
theorem dX5_runAll_81 : decode cX5_runAll 81 = .ok (.getfield 41, 3) := by decide +kernel
theorem dX5_runAll_84 : decode cX5_runAll 84 = .ok (.aload_n 0, 1) := by decide +kernel
theorem dX5_runAll_85 : decode cX5_runAll 85 = .ok (.getfield 21, 3) := by decide +kernel
theorem dX5_runAll_88 : decode cX5_runAll 88 = .ok (.invokevirtual 52, 3) := by decide +kernel
theorem dX5_runAll_91 : decode cX5_runAll 91 = .ok (.iload_n 2, 1) := by decide +kernel
theorem dX5_runAll_92 : decode cX5_runAll 92 = .ok (.ireturn, 1) := by decide +kernel
theorem dX5_runAll_93 : decode cX5_runAll 93 = .ok (.iinc 3 1, 3) := by decide +kernel
theorem dX5_runAll_96 : decode cX5_runAll 96 = .ok (.goto (-46), 3) := by decide +kernel
theorem dX5_runAll_99 : decode cX5_runAll 99 = .ok (.iinc 2 1, 3) := by decide +kernel
theorem dX5_runAll_102 : decode cX5_runAll 102 = .ok (.goto (-68), 3) := by decide +kernel
theorem dX5_runAll_105 : decode cX5_runAll 105 = .ok (.iconst (-1), 1) := by decide +kernel
theorem dX5_runAll_106 : decode cX5_runAll 106 = .ok (.ireturn, 1) := by decide +kernel
set_option maxRecDepth 20000 in
theorem ggX5_runOnce_X5_writeWords : GoodIn wsX5_runOnce wsX5_writeWords := goodIn_r _ [14, 1, 2, 15, 9, 8, 16, 17, 18, 19, 20, 21, 22, 23, 24, 25, 26, 27, 28, 29, 30, 31, 32, 33, 34, 35, 36, 37, 38, 39, 40, 41, 42, 170, 171, 172, 173, 174, 175, 176, 177, 178, 179, 180, 181, 182, 183, 184, 185, 186, 187, 188, 189, 190, 191, 192, 193, 194, 195, 196, 197] (by decide +kernel) (by decide +kernel)
set_option maxRecDepth 20000 in
theorem gX5_runOnce_X5_writeWords : GoodIn wsX5_runOnce (wsV RX5 68 RX5 yX5_writeWords wsX5_writeWords) := goodIn_app (goodIn_of _ (by decide +kernel)) ggX5_runOnce_X5_writeWords
set_option maxRecDepth 20000 in
theorem ggX5_runOnce_X10_reckon : GoodIn wsX5_runOnce wsX10_reckon := goodIn_r _ [47, 48, 49, 50, 51, 52, 46, 53, 54, 55, 203, 204, 205, 206, 207, 208] (by decide +kernel) (by decide +kernel)
set_option maxRecDepth 20000 in
theorem gX5_runOnce_X10_reckon : GoodIn wsX5_runOnce (wsV RX5 80 RX10 yX10_reckon wsX10_reckon) := goodIn_app (goodIn_of _ (by decide +kernel)) ggX5_runOnce_X10_reckon
set_option maxRecDepth 20000 in
theorem ggX5_runOnce_X0_sendBuilder : GoodIn wsX5_runOnce wsX0_sendBuilder := goodIn_r _ [60, 61, 62, 63, 64, 65, 39, 40, 23, 41, 42, 66, 35, 36, 37, 25, 67, 68, 69, 70, 26, 71, 72, 21, 22, 24, 73, 74, 75, 76, 77, 78, 79, 80, 81, 82, 83, 84, 85, 86, 87, 88, 89, 90, 91, 92, 93, 94, 95, 96, 97, 98, 99, 100, 101, 102, 103, 104, 105, 106, 107, 108, 109, 110, 111, 112, 113, 114, 115, 116, 44, 45, 46, 47, 48, 49, 50, 51, 52, 53, 54, 55, 117, 118, 119, 120, 121, 122, 123, 124, 125, 126, 127, 128, 129, 130, 131, 132, 133, 209, 210, 178, 179, 180, 181, 182, 183, 184, 185, 186, 187, 188, 189, 190, 191, 192, 193, 194, 195, 196, 197, 203, 204, 205, 206, 207, 208, 198, 199, 200, 201, 202, 211, 212, 213] (by decide +kernel) (by decide +kernel)
set_option maxRecDepth 20000 in
theorem gX5_runOnce_X0_sendBuilder : GoodIn wsX5_runOnce (wsV RX5 89 RX0 yX0_sendBuilder wsX0_sendBuilder) := goodIn_app (goodIn_of _ (by decide +kernel)) ggX5_runOnce_X0_sendBuilder
set_option maxRecDepth 20000 in
theorem ggX5_runOnce_X0_restBuilder : GoodIn wsX5_runOnce wsX0_restBuilder := goodIn_r _ [137, 61, 63, 62, 65, 39, 40, 23, 41, 42, 117, 118, 119, 120, 121, 122, 123, 124, 125, 126, 127, 128, 129, 130, 131, 132, 133, 81, 82, 83, 209, 210, 178, 179, 180, 181, 182, 183, 184, 185, 186, 187, 188, 189, 190, 191, 192, 193, 194, 195, 196, 197, 211, 212, 213] (by decide +kernel) (by decide +kernel)
set_option maxRecDepth 20000 in
theorem gX5_runOnce_X0_restBuilder : GoodIn wsX5_runOnce (wsV RX5 95 RX0 yX0_restBuilder wsX0_restBuilder) := goodIn_app (goodIn_of _ (by decide +kernel)) ggX5_runOnce_X0_restBuilder
set_option maxRecDepth 20000 in
theorem ggX5_runOnce_X0_razePart : GoodIn wsX5_runOnce wsX0_razePart := goodIn_r _ [141, 61, 64, 62, 142, 66, 35, 36, 23, 37, 25, 143, 144, 145, 59, 146, 147, 148, 149, 150, 151, 152, 153, 63, 117, 118, 119, 120, 121, 122, 123, 124, 125, 126, 127, 128, 129, 130, 131, 132, 133, 81, 82, 83, 209, 210, 178, 179, 180, 181, 182, 183, 184, 185, 186, 187, 188, 189, 190, 191, 192, 193, 194, 195, 196, 197, 211, 212, 213] (by decide +kernel) (by decide +kernel)
set_option maxRecDepth 20000 in
theorem gX5_runOnce_X0_razePart : GoodIn wsX5_runOnce (wsV RX5 99 RX0 yX0_razePart wsX0_razePart) := goodIn_app (goodIn_of _ (by decide +kernel)) ggX5_runOnce_X0_razePart
set_option maxRecDepth 20000 in
theorem ggX5_runOnce_X0_passTick : GoodIn wsX5_runOnce wsX0_passTick := goodIn_r _ [157, 61, 158, 62, 117, 118, 119, 120, 121, 122, 123, 124, 125, 126, 127, 128, 129, 130, 131, 132, 133, 81, 82, 83, 159, 160, 161, 23, 162, 42, 112, 85, 163, 164, 26, 165, 166, 167, 113, 80, 115, 96, 35, 36, 37, 25, 168, 74, 75, 76, 77, 78, 79, 84, 86, 87, 88, 89, 90, 91, 92, 93, 94, 95, 39, 40, 41, 97, 98, 99, 100, 101, 102, 103, 104, 105, 106, 107, 108, 109, 110, 111, 114, 116, 44, 45, 46, 47, 48, 49, 50, 51, 52, 53, 54, 55, 72, 21, 22, 24, 169, 28, 29, 30, 31, 32, 33, 209, 210, 178, 179, 180, 181, 182, 183, 184, 185, 186, 187, 188, 189, 190, 191, 192, 193, 194, 195, 196, 197, 211, 212, 213, 198, 199, 200, 201, 202, 203, 204, 205, 206, 207, 208] (by decide +kernel) (by decide +kernel)
set_option maxRecDepth 20000 in
theorem gX5_runOnce_X0_passTick : GoodIn wsX5_runOnce (wsV RX5 102 RX0 yX0_passTick wsX0_passTick) := goodIn_app (goodIn_of _ (by decide +kernel)) ggX5_runOnce_X0_passTick
theorem dX5_runOnce_0 : decode cX5_runOnce 0 = .ok (.aload_n 0, 1) := by decide +kernel
theorem dX5_runOnce_1 : decode cX5_runOnce 1 = .ok (.invokevirtual 68, 3) := by decide +kernel
theorem dX5_runOnce_4 : decode cX5_runOnce 4 = .ok (.aload_n 1, 1) := by decide +kernel
theorem dX5_runOnce_5 : decode cX5_runOnce 5 = .ok (.iload_n 2, 1) := by decide +kernel
theorem dX5_runOnce_6 : decode cX5_runOnce 6 = .ok (.iconst 2, 1) := by decide +kernel
theorem dX5_runOnce_7 : decode cX5_runOnce 7 = .ok (.aload_n 0, 1) := by decide +kernel
theorem dX5_runOnce_8 : decode cX5_runOnce 8 = .ok (.getfield 27, 3) := by decide +kernel
theorem dX5_runOnce_11 : decode cX5_runOnce 11 = .ok (.aload_n 0, 1) := by decide +kernel
theorem dX5_runOnce_12 : decode cX5_runOnce 12 = .ok (.getfield 38, 3) := by decide +kernel
theorem dX5_runOnce_15 : decode cX5_runOnce 15 = .ok (.getfield 71, 3) := by decide +kernel
theorem dX5_runOnce_18 : decode cX5_runOnce 18 = .ok (.getfield 75, 3) := by decide +kernel
theorem dX5_runOnce_21 : decode cX5_runOnce 21 = .ok (.invokevirtual 80, 3) := by decide +kernel
theorem dX5_runOnce_24 : decode cX5_runOnce 24 = .ok (.lconst 1, 1) := by decide +kernel
theorem dX5_runOnce_25 : decode cX5_runOnce 25 = .ok (.lcmp, 1) := by decide +kernel
theorem dX5_runOnce_26 : decode cX5_runOnce 26 = .ok (.ifCond .eq 5, 3) := by decide +kernel
theorem dX5_runOnce_29 : decode cX5_runOnce 29 = .ok (.iconst 1, 1) := by decide +kernel
theorem dX5_runOnce_30 : decode cX5_runOnce 30 = .ok (.ireturn, 1) := by decide +kernel
theorem dX5_runOnce_31 : decode cX5_runOnce 31 = .ok (.aload_n 1, 1) := by decide +kernel
theorem dX5_runOnce_32 : decode cX5_runOnce 32 = .ok (.iload_n 2, 1) := by decide +kernel
theorem dX5_runOnce_33 : decode cX5_runOnce 33 = .ok (.iconst 0, 1) := by decide +kernel
theorem dX5_runOnce_34 : decode cX5_runOnce 34 = .ok (.aload_n 0, 1) := by decide +kernel
theorem dX5_runOnce_35 : decode cX5_runOnce 35 = .ok (.getfield 27, 3) := by decide +kernel
theorem dX5_runOnce_38 : decode cX5_runOnce 38 = .ok (.aload_n 0, 1) := by decide +kernel
theorem dX5_runOnce_39 : decode cX5_runOnce 39 = .ok (.getfield 38, 3) := by decide +kernel
theorem dX5_runOnce_42 : decode cX5_runOnce 42 = .ok (.getfield 71, 3) := by decide +kernel
theorem dX5_runOnce_45 : decode cX5_runOnce 45 = .ok (.getfield 75, 3) := by decide +kernel
theorem dX5_runOnce_48 : decode cX5_runOnce 48 = .ok (.invokevirtual 80, 3) := by decide +kernel
theorem dX5_runOnce_51 : decode cX5_runOnce 51 = .ok (.lstore_n 3, 1) := by decide +kernel
theorem dX5_runOnce_52 : decode cX5_runOnce 52 = .ok (.aload_n 1, 1) := by decide +kernel
theorem dX5_runOnce_53 : decode cX5_runOnce 53 = .ok (.iload_n 2, 1) := by decide +kernel
theorem dX5_runOnce_54 : decode cX5_runOnce 54 = .ok (.iconst 1, 1) := by decide +kernel
theorem dX5_runOnce_55 : decode cX5_runOnce 55 = .ok (.aload_n 0, 1) := by decide +kernel
theorem dX5_runOnce_56 : decode cX5_runOnce 56 = .ok (.getfield 27, 3) := by decide +kernel
theorem dX5_runOnce_59 : decode cX5_runOnce 59 = .ok (.aload_n 0, 1) := by decide +kernel
theorem dX5_runOnce_60 : decode cX5_runOnce 60 = .ok (.getfield 38, 3) := by decide +kernel
theorem dX5_runOnce_63 : decode cX5_runOnce 63 = .ok (.getfield 71, 3) := by decide +kernel
theorem dX5_runOnce_66 : decode cX5_runOnce 66 = .ok (.getfield 75, 3) := by decide +kernel
theorem dX5_runOnce_69 : decode cX5_runOnce 69 = .ok (.invokevirtual 80, 3) := by decide +kernel
theorem dX5_runOnce_72 : decode cX5_runOnce 72 = .ok (.lstore 5, 2) := by decide +kernel
theorem dX5_runOnce_74 : decode cX5_runOnce 74 = .ok (.lload_n 3, 1) := by decide +kernel
theorem dX5_runOnce_75 : decode cX5_runOnce 75 = .ok (.ldc2_w 84, 3) := by decide +kernel
theorem dX5_runOnce_78 : decode cX5_runOnce 78 = .ok (.lcmp, 1) := by decide +kernel
theorem dX5_runOnce_79 : decode cX5_runOnce 79 = .ok (.ifCond .eq 12, 3) := by decide +kernel
theorem dX5_runOnce_82 : decode cX5_runOnce 82 = .ok (.lload 5, 2) := by decide +kernel
theorem dX5_runOnce_84 : decode cX5_runOnce 84 = .ok (.ldc2_w 84, 3) := by decide +kernel
theorem dX5_runOnce_87 : decode cX5_runOnce 87 = .ok (.lcmp, 1) := by decide +kernel
theorem dX5_runOnce_88 : decode cX5_runOnce 88 = .ok (.ifCond .ne 5, 3) := by decide +kernel
theorem dX5_runOnce_91 : decode cX5_runOnce 91 = .ok (.iconst 0, 1) := by decide +kernel
theorem dX5_runOnce_92 : decode cX5_runOnce 92 = .ok (.ireturn, 1) := by decide +kernel
theorem dX5_runOnce_93 : decode cX5_runOnce 93 = .ok (.aload_n 1, 1) := by decide +kernel
theorem dX5_runOnce_94 : decode cX5_runOnce 94 = .ok (.getfield 86, 3) := by decide +kernel
theorem dX5_runOnce_97 : decode cX5_runOnce 97 = .ok (.iload_n 2, 1) := by decide +kernel
theorem dX5_runOnce_98 : decode cX5_runOnce 98 = .ok (.iaload, 1) := by decide +kernel
theorem dX5_runOnce_99 : decode cX5_runOnce 99 = .ok (.istore 7, 2) := by decide +kernel
theorem dX5_runOnce_101 : decode cX5_runOnce 101 = .ok (.iload 7, 2) := by decide +kernel
theorem dX5_runOnce_103 : decode cX5_runOnce 103 = .ok (.ifCond .ne 20, 3) := by decide +kernel
theorem dX5_runOnce_106 : decode cX5_runOnce 106 = .ok (.aload_n 0, 1) := by decide +kernel
theorem dX5_runOnce_107 : decode cX5_runOnce 107 = .ok (.getfield 44, 3) := by decide +kernel
theorem dX5_runOnce_110 : decode cX5_runOnce 110 = .ok (.lload_n 3, 1) := by decide +kernel
theorem dX5_runOnce_111 : decode cX5_runOnce 111 = .ok (.l2i, 1) := by decide +kernel
theorem dX5_runOnce_112 : decode cX5_runOnce 112 = .ok (.lload 5, 2) := by decide +kernel
theorem dX5_runOnce_114 : decode cX5_runOnce 114 = .ok (.l2i, 1) := by decide +kernel
theorem dX5_runOnce_115 : decode cX5_runOnce 115 = .ok (.invokevirtual 89, 3) := by decide +kernel
theorem dX5_runOnce_118 : decode cX5_runOnce 118 = .ok (.istore 8, 2) := by decide +kernel
theorem dX5_runOnce_120 : decode cX5_runOnce 120 = .ok (.goto 58, 3) := by decide +kernel
theorem dX5_runOnce_123 : decode cX5_runOnce 123 = .ok (.iload 7, 2) := by decide +kernel
theorem dX5_runOnce_125 : decode cX5_runOnce 125 = .ok (.iconst 1, 1) := by decide +kernel
theorem dX5_runOnce_126 : decode cX5_runOnce 126 = .ok (.if_icmp .ne 17, 3) := by decide +kernel
theorem dX5_runOnce_129 : decode cX5_runOnce 129 = .ok (.aload_n 0, 1) := by decide +kernel
theorem dX5_runOnce_130 : decode cX5_runOnce 130 = .ok (.getfield 44, 3) := by decide +kernel
theorem dX5_runOnce_133 : decode cX5_runOnce 133 = .ok (.lload_n 3, 1) := by decide +kernel
theorem dX5_runOnce_134 : decode cX5_runOnce 134 = .ok (.l2i, 1) := by decide +kernel
theorem dX5_runOnce_135 : decode cX5_runOnce 135 = .ok (.invokevirtual 95, 3) := by decide +kernel
theorem dX5_runOnce_138 : decode cX5_runOnce 138 = .ok (.istore 8, 2) := by decide +kernel
theorem dX5_runOnce_140 : decode cX5_runOnce 140 = .ok (.goto 38, 3) := by decide +kernel
theorem dX5_runOnce_143 : decode cX5_runOnce 143 = .ok (.iload 7, 2) := by decide +kernel
theorem dX5_runOnce_145 : decode cX5_runOnce 145 = .ok (.iconst 2, 1) := by decide +kernel
theorem dX5_runOnce_146 : decode cX5_runOnce 146 = .ok (.if_icmp .ne 17, 3) := by decide +kernel
theorem dX5_runOnce_149 : decode cX5_runOnce 149 = .ok (.aload_n 0, 1) := by decide +kernel
theorem dX5_runOnce_150 : decode cX5_runOnce 150 = .ok (.getfield 44, 3) := by decide +kernel
theorem dX5_runOnce_153 : decode cX5_runOnce 153 = .ok (.lload_n 3, 1) := by decide +kernel
theorem dX5_runOnce_154 : decode cX5_runOnce 154 = .ok (.l2i, 1) := by decide +kernel
theorem dX5_runOnce_155 : decode cX5_runOnce 155 = .ok (.invokevirtual 99, 3) := by decide +kernel
theorem dX5_runOnce_158 : decode cX5_runOnce 158 = .ok (.istore 8, 2) := by decide +kernel
theorem dX5_runOnce_160 : decode cX5_runOnce 160 = .ok (.goto 18, 3) := by decide +kernel
theorem dX5_runOnce_163 : decode cX5_runOnce 163 = .ok (.aload_n 0, 1) := by decide +kernel
theorem dX5_runOnce_164 : decode cX5_runOnce 164 = .ok (.getfield 44, 3) := by decide +kernel
theorem dX5_runOnce_167 : decode cX5_runOnce 167 = .ok (.invokevirtual 102, 3) := by decide +kernel
theorem dX5_runOnce_170 : decode cX5_runOnce 170 = .ok (.istore 8, 2) := by decide +kernel
theorem dX5_runOnce_172 : decode cX5_runOnce 172 = .ok (.aload_n 0, 1) := by decide +kernel
theorem dX5_runOnce_173 : decode cX5_runOnce 173 = .ok (.iload 8, 2) := by decide +kernel
theorem dX5_runOnce_175 : decode cX5_runOnce 175 = .ok (.putfield 35, 3) := by decide +kernel
theorem dX5_runOnce_178 : decode cX5_runOnce 178 = .ok (.aload_n 0, 1) := by decide +kernel
theorem dX5_runOnce_179 : decode cX5_runOnce 179 = .ok (.dup, 1) := by decide +kernel
theorem dX5_runOnce_180 : decode cX5_runOnce 180 = .ok (.getfield 31, 3) := by decide +kernel
theorem dX5_runOnce_183 : decode cX5_runOnce 183 = .ok (.iconst 1, 1) := by decide +kernel
theorem dX5_runOnce_184 : decode cX5_runOnce 184 = .ok (.iadd, 1) := by decide +kernel
theorem dX5_runOnce_185 : decode cX5_runOnce 185 = .ok (.putfield 31, 3) := by decide +kernel
theorem dX5_runOnce_188 : decode cX5_runOnce 188 = .ok (.iload 8, 2) := by decide +kernel
theorem dX5_runOnce_190 : decode cX5_runOnce 190 = .ok (.ifCond .lt 7, 3) := by decide +kernel
theorem dX5_runOnce_193 : decode cX5_runOnce 193 = .ok (.iconst 1, 1) := by decide +kernel
theorem dX5_runOnce_194 : decode cX5_runOnce 194 = .ok (.goto 4, 3) := by decide +kernel
theorem dX5_runOnce_197 : decode cX5_runOnce 197 = .ok (.iconst 0, 1) := by decide +kernel
theorem dX5_runOnce_198 : decode cX5_runOnce 198 = .ok (.ireturn, 1) := by decide +kernel
set_option maxRecDepth 20000 in
theorem ggX5_writeWords_X7_upMask : GoodIn wsX5_writeWords wsX7_upMask := goodIn_r _ [14, 15, 16, 41, 42, 43, 44, 45, 46, 47, 48, 49, 50, 51, 52, 53, 54, 55, 56, 57, 58, 59, 60] (by decide +kernel) (by decide +kernel)
set_option maxRecDepth 20000 in
theorem gX5_writeWords_X7_upMask : GoodIn wsX5_writeWords (wsV RX5 109 RX7 yX7_upMask wsX7_upMask) := goodIn_app (goodIn_of _ (by decide +kernel)) ggX5_writeWords_X7_upMask
set_option maxRecDepth 20000 in
theorem ggX5_writeWords_J6_bitCount_0f7a4 : GoodIn wsX5_writeWords wsJ6_bitCount_0f7a4 := goodIn_r _ [20, 21, 22, 23] (by decide +kernel) (by decide +kernel)
set_option maxRecDepth 20000 in
theorem gX5_writeWords_J6_bitCount_0f7a4 : GoodIn wsX5_writeWords (va_wsS RX5 112 yJ6_bitCount_0f7a4 wsJ6_bitCount_0f7a4) := goodIn_app (goodIn_of _ (by decide +kernel)) ggX5_writeWords_J6_bitCount_0f7a4
set_option maxRecDepth 20000 in
theorem ggX5_writeWords_X7_hasPart : GoodIn wsX5_writeWords wsX7_hasPart := goodIn_r _ [27, 15, 41, 42, 43, 44, 45, 46, 47, 48, 49, 50, 51, 52, 53, 54, 55, 56, 57, 58, 59, 60] (by decide +kernel) (by decide +kernel)
set_option maxRecDepth 20000 in
theorem gX5_writeWords_X7_hasPart : GoodIn wsX5_writeWords (wsV RX5 117 RX7 yX7_hasPart wsX7_hasPart) := goodIn_app (goodIn_of _ (by decide +kernel)) ggX5_writeWords_X7_hasPart
set_option maxRecDepth 20000 in
theorem ggX5_writeWords_X7_hasBuilder : GoodIn wsX5_writeWords wsX7_hasBuilder := goodIn_r _ [31, 32, 41, 42, 43, 44, 45, 46, 47, 48, 49, 50, 51, 52, 53, 54, 55, 56, 57, 58, 59, 60] (by decide +kernel) (by decide +kernel)
set_option maxRecDepth 20000 in
theorem gX5_writeWords_X7_hasBuilder : GoodIn wsX5_writeWords (wsV RX5 126 RX7 yX7_hasBuilder wsX7_hasBuilder) := goodIn_app (goodIn_of _ (by decide +kernel)) ggX5_writeWords_X7_hasBuilder
theorem dX5_writeWords_0 : decode cX5_writeWords 0 = .ok (.aload_n 0, 1) := by decide +kernel
theorem dX5_writeWords_1 : decode cX5_writeWords 1 = .ok (.getfield 27, 3) := by decide +kernel
theorem dX5_writeWords_4 : decode cX5_writeWords 4 = .ok (.iconst 0, 1) := by decide +kernel
theorem dX5_writeWords_5 : decode cX5_writeWords 5 = .ok (.aload_n 0, 1) := by decide +kernel
theorem dX5_writeWords_6 : decode cX5_writeWords 6 = .ok (.getfield 38, 3) := by decide +kernel
theorem dX5_writeWords_9 : decode cX5_writeWords 9 = .ok (.getfield 106, 3) := by decide +kernel
theorem dX5_writeWords_12 : decode cX5_writeWords 12 = .ok (.iconst 0, 1) := by decide +kernel
theorem dX5_writeWords_13 : decode cX5_writeWords 13 = .ok (.iaload, 1) := by decide +kernel
theorem dX5_writeWords_14 : decode cX5_writeWords 14 = .ok (.i2l, 1) := by decide +kernel
theorem dX5_writeWords_15 : decode cX5_writeWords 15 = .ok (.lastore, 1) := by decide +kernel
theorem dX5_writeWords_16 : decode cX5_writeWords 16 = .ok (.aload_n 0, 1) := by decide +kernel
theorem dX5_writeWords_17 : decode cX5_writeWords 17 = .ok (.getfield 27, 3) := by decide +kernel
theorem dX5_writeWords_20 : decode cX5_writeWords 20 = .ok (.iconst 1, 1) := by decide +kernel
theorem dX5_writeWords_21 : decode cX5_writeWords 21 = .ok (.aload_n 0, 1) := by decide +kernel
theorem dX5_writeWords_22 : decode cX5_writeWords 22 = .ok (.getfield 31, 3) := by decide +kernel
theorem dX5_writeWords_25 : decode cX5_writeWords 25 = .ok (.i2l, 1) := by decide +kernel
theorem dX5_writeWords_26 : decode cX5_writeWords 26 = .ok (.lastore, 1) := by decide +kernel
theorem dX5_writeWords_27 : decode cX5_writeWords 27 = .ok (.aload_n 0, 1) := by decide +kernel
theorem dX5_writeWords_28 : decode cX5_writeWords 28 = .ok (.getfield 27, 3) := by decide +kernel
theorem dX5_writeWords_31 : decode cX5_writeWords 31 = .ok (.iconst 2, 1) := by decide +kernel
theorem dX5_writeWords_32 : decode cX5_writeWords 32 = .ok (.aload_n 0, 1) := by decide +kernel
theorem dX5_writeWords_33 : decode cX5_writeWords 33 = .ok (.getfield 35, 3) := by decide +kernel
theorem dX5_writeWords_36 : decode cX5_writeWords 36 = .ok (.i2l, 1) := by decide +kernel
theorem dX5_writeWords_37 : decode cX5_writeWords 37 = .ok (.lastore, 1) := by decide +kernel
theorem dX5_writeWords_38 : decode cX5_writeWords 38 = .ok (.aload_n 0, 1) := by decide +kernel
theorem dX5_writeWords_39 : decode cX5_writeWords 39 = .ok (.getfield 27, 3) := by decide +kernel
theorem dX5_writeWords_42 : decode cX5_writeWords 42 = .ok (.iconst 3, 1) := by decide +kernel
theorem dX5_writeWords_43 : decode cX5_writeWords 43 = .ok (.aload_n 0, 1) := by decide +kernel
theorem dX5_writeWords_44 : decode cX5_writeWords 44 = .ok (.getfield 38, 3) := by decide +kernel
theorem dX5_writeWords_47 : decode cX5_writeWords 47 = .ok (.invokevirtual 109, 3) := by decide +kernel
theorem dX5_writeWords_50 : decode cX5_writeWords 50 = .ok (.invokestatic 112, 3) := by decide +kernel
theorem dX5_writeWords_53 : decode cX5_writeWords 53 = .ok (.i2l, 1) := by decide +kernel
theorem dX5_writeWords_54 : decode cX5_writeWords 54 = .ok (.lastore, 1) := by decide +kernel
theorem dX5_writeWords_55 : decode cX5_writeWords 55 = .ok (.iconst 0, 1) := by decide +kernel
theorem dX5_writeWords_56 : decode cX5_writeWords 56 = .ok (.istore_n 1, 1) := by decide +kernel
theorem dX5_writeWords_57 : decode cX5_writeWords 57 = .ok (.iload_n 1, 1) := by decide +kernel
theorem dX5_writeWords_58 : decode cX5_writeWords 58 = .ok (.bipush 10, 2) := by decide +kernel
theorem dX5_writeWords_60 : decode cX5_writeWords 60 = .ok (.if_icmp .ge 44, 3) := by decide +kernel
theorem dX5_writeWords_63 : decode cX5_writeWords 63 = .ok (.aload_n 0, 1) := by decide +kernel
theorem dX5_writeWords_64 : decode cX5_writeWords 64 = .ok (.getfield 27, 3) := by decide +kernel
theorem dX5_writeWords_67 : decode cX5_writeWords 67 = .ok (.iconst 4, 1) := by decide +kernel
theorem dX5_writeWords_68 : decode cX5_writeWords 68 = .ok (.iload_n 1, 1) := by decide +kernel
theorem dX5_writeWords_69 : decode cX5_writeWords 69 = .ok (.iadd, 1) := by decide +kernel
theorem dX5_writeWords_70 : decode cX5_writeWords 70 = .ok (.aload_n 0, 1) := by decide +kernel
theorem dX5_writeWords_71 : decode cX5_writeWords 71 = .ok (.getfield 38, 3) := by decide +kernel
theorem dX5_writeWords_74 : decode cX5_writeWords 74 = .ok (.iload_n 1, 1) := by decide +kernel
theorem dX5_writeWords_75 : decode cX5_writeWords 75 = .ok (.invokevirtual 117, 3) := by decide +kernel
theorem dX5_writeWords_78 : decode cX5_writeWords 78 = .ok (.ifCond .eq 16, 3) := by decide +kernel
theorem dX5_writeWords_81 : decode cX5_writeWords 81 = .ok (.aload_n 0, 1) := by decide +kernel
theorem dX5_writeWords_82 : decode cX5_writeWords 82 = .ok (.getfield 38, 3) := by decide +kernel
theorem dX5_writeWords_85 : decode cX5_writeWords 85 = .ok (.getfield 121, 3) := by decide +kernel
theorem dX5_writeWords_88 : decode cX5_writeWords 88 = .ok (.iload_n 1, 1) := by decide +kernel
theorem dX5_writeWords_89 : decode cX5_writeWords 89 = .ok (.iaload, 1) := by decide +kernel
theorem dX5_writeWords_90 : decode cX5_writeWords 90 = .ok (.i2l, 1) := by decide +kernel
theorem dX5_writeWords_91 : decode cX5_writeWords 91 = .ok (.goto 6, 3) := by decide +kernel
theorem dX5_writeWords_94 : decode cX5_writeWords 94 = .ok (.ldc2_w 124, 3) := by decide +kernel
theorem dX5_writeWords_97 : decode cX5_writeWords 97 = .ok (.lastore, 1) := by decide +kernel
theorem dX5_writeWords_98 : decode cX5_writeWords 98 = .ok (.iinc 1 1, 3) := by decide +kernel
theorem dX5_writeWords_101 : decode cX5_writeWords 101 = .ok (.goto (-44), 3) := by decide +kernel
theorem dX5_writeWords_104 : decode cX5_writeWords 104 = .ok (.iconst 0, 1) := by decide +kernel
theorem dX5_writeWords_105 : decode cX5_writeWords 105 = .ok (.istore_n 1, 1) := by decide +kernel
theorem dX5_writeWords_106 : decode cX5_writeWords 106 = .ok (.iload_n 1, 1) := by decide +kernel
theorem dX5_writeWords_107 : decode cX5_writeWords 107 = .ok (.bipush 6, 2) := by decide +kernel
theorem dX5_writeWords_109 : decode cX5_writeWords 109 = .ok (.if_icmp .ge 81, 3) := by decide +kernel
theorem dX5_writeWords_112 : decode cX5_writeWords 112 = .ok (.aload_n 0, 1) := by decide +kernel
theorem dX5_writeWords_113 : decode cX5_writeWords 113 = .ok (.getfield 27, 3) := by decide +kernel
theorem dX5_writeWords_116 : decode cX5_writeWords 116 = .ok (.bipush 14, 2) := by decide +kernel
theorem dX5_writeWords_118 : decode cX5_writeWords 118 = .ok (.iload_n 1, 1) := by decide +kernel
theorem dX5_writeWords_119 : decode cX5_writeWords 119 = .ok (.iadd, 1) := by decide +kernel
theorem dX5_writeWords_120 : decode cX5_writeWords 120 = .ok (.aload_n 0, 1) := by decide +kernel
theorem dX5_writeWords_121 : decode cX5_writeWords 121 = .ok (.getfield 38, 3) := by decide +kernel
theorem dX5_writeWords_124 : decode cX5_writeWords 124 = .ok (.iload_n 1, 1) := by decide +kernel
theorem dX5_writeWords_125 : decode cX5_writeWords 125 = .ok (.invokevirtual 126, 3) := by decide +kernel
theorem dX5_writeWords_128 : decode cX5_writeWords 128 = .ok (.ifCond .eq 16, 3) := by decide +kernel
theorem dX5_writeWords_131 : decode cX5_writeWords 131 = .ok (.aload_n 0, 1) := by decide +kernel
theorem dX5_writeWords_132 : decode cX5_writeWords 132 = .ok (.getfield 38, 3) := by decide +kernel
theorem dX5_writeWords_135 : decode cX5_writeWords 135 = .ok (.getfield 129, 3) := by decide +kernel
theorem dX5_writeWords_138 : decode cX5_writeWords 138 = .ok (.iload_n 1, 1) := by decide +kernel
theorem dX5_writeWords_139 : decode cX5_writeWords 139 = .ok (.iaload, 1) := by decide +kernel
theorem dX5_writeWords_140 : decode cX5_writeWords 140 = .ok (.i2l, 1) := by decide +kernel
theorem dX5_writeWords_141 : decode cX5_writeWords 141 = .ok (.goto 6, 3) := by decide +kernel
theorem dX5_writeWords_144 : decode cX5_writeWords 144 = .ok (.ldc2_w 124, 3) := by decide +kernel
theorem dX5_writeWords_147 : decode cX5_writeWords 147 = .ok (.lastore, 1) := by decide +kernel
theorem dX5_writeWords_148 : decode cX5_writeWords 148 = .ok (.aload_n 0, 1) := by decide +kernel
theorem dX5_writeWords_149 : decode cX5_writeWords 149 = .ok (.getfield 27, 3) := by decide +kernel
theorem dX5_writeWords_152 : decode cX5_writeWords 152 = .ok (.bipush 20, 2) := by decide +kernel
theorem dX5_writeWords_154 : decode cX5_writeWords 154 = .ok (.iload_n 1, 1) := by decide +kernel
theorem dX5_writeWords_155 : decode cX5_writeWords 155 = .ok (.iadd, 1) := by decide +kernel
theorem dX5_writeWords_156 : decode cX5_writeWords 156 = .ok (.aload_n 0, 1) := by decide +kernel
theorem dX5_writeWords_157 : decode cX5_writeWords 157 = .ok (.getfield 38, 3) := by decide +kernel
theorem dX5_writeWords_160 : decode cX5_writeWords 160 = .ok (.iload_n 1, 1) := by decide +kernel
theorem dX5_writeWords_161 : decode cX5_writeWords 161 = .ok (.invokevirtual 126, 3) := by decide +kernel
theorem dX5_writeWords_164 : decode cX5_writeWords 164 = .ok (.ifCond .eq 16, 3) := by decide +kernel
theorem dX5_writeWords_167 : decode cX5_writeWords 167 = .ok (.aload_n 0, 1) := by decide +kernel
theorem dX5_writeWords_168 : decode cX5_writeWords 168 = .ok (.getfield 38, 3) := by decide +kernel
theorem dX5_writeWords_171 : decode cX5_writeWords 171 = .ok (.getfield 132, 3) := by decide +kernel
theorem dX5_writeWords_174 : decode cX5_writeWords 174 = .ok (.iload_n 1, 1) := by decide +kernel
theorem dX5_writeWords_175 : decode cX5_writeWords 175 = .ok (.iaload, 1) := by decide +kernel
theorem dX5_writeWords_176 : decode cX5_writeWords 176 = .ok (.i2l, 1) := by decide +kernel
theorem dX5_writeWords_177 : decode cX5_writeWords 177 = .ok (.goto 6, 3) := by decide +kernel
theorem dX5_writeWords_180 : decode cX5_writeWords 180 = .ok (.ldc2_w 124, 3) := by decide +kernel
theorem dX5_writeWords_183 : decode cX5_writeWords 183 = .ok (.lastore, 1) := by decide +kernel
theorem dX5_writeWords_184 : decode cX5_writeWords 184 = .ok (.iinc 1 1, 3) := by decide +kernel
theorem dX5_writeWords_187 : decode cX5_writeWords 187 = .ok (.goto (-81), 3) := by decide +kernel
theorem dX5_writeWords_190 : decode cX5_writeWords 190 = .ok (.return_, 1) := by decide +kernel
theorem dX6_init_0 : decode cX6_init 0 = .ok (.aload_n 0, 1) := by decide +kernel
theorem dX6_init_1 : decode cX6_init 1 = .ok (.invokespecial 3, 3) := by decide +kernel
theorem dX6_init_4 : decode cX6_init 4 = .ok (.aload_n 0, 1) := by decide +kernel
theorem dX6_init_5 : decode cX6_init 5 = .ok (.sipush 1024, 3) := by decide +kernel
theorem dX6_init_8 : decode cX6_init 8 = .ok (.newarray .int, 2) := by decide +kernel
theorem dX6_init_10 : decode cX6_init 10 = .ok (.putfield 11, 3) := by decide +kernel
theorem dX6_init_13 : decode cX6_init 13 = .ok (.aload_n 0, 1) := by decide +kernel
theorem dX6_init_14 : decode cX6_init 14 = .ok (.iconst 0, 1) := by decide +kernel
theorem dX6_init_15 : decode cX6_init 15 = .ok (.putfield 15, 3) := by decide +kernel
theorem dX6_init_18 : decode cX6_init 18 = .ok (.aload_n 0, 1) := by decide +kernel
theorem dX6_init_19 : decode cX6_init 19 = .ok (.aload_n 1, 1) := by decide +kernel
theorem dX6_init_20 : decode cX6_init 20 = .ok (.putfield 19, 3) := by decide +kernel
theorem dX6_init_23 : decode cX6_init 23 = .ok (.return_, 1) := by decide +kernel
theorem dX6_clear_0 : decode cX6_clear 0 = .ok (.aload_n 0, 1) := by decide +kernel
theorem dX6_clear_1 : decode cX6_clear 1 = .ok (.iconst 0, 1) := by decide +kernel
theorem dX6_clear_2 : decode cX6_clear 2 = .ok (.putfield 15, 3) := by decide +kernel
theorem dX6_clear_5 : decode cX6_clear 5 = .ok (.return_, 1) := by decide +kernel
set_option maxRecDepth 20000 in
theorem ggX6_total_X6_reckonWays : GoodIn wsX6_total wsX6_reckonWays := goodIn_r _ [7, 8, 1, 9, 10, 11, 12, 13, 2, 14, 15, 16, 17, 18, 19, 20, 21, 22, 23, 6, 24, 25, 26, 27, 28, 29, 30, 31, 32, 33, 34, 35, 36, 37, 38, 39, 40, 41, 42, 43, 44, 45, 46, 47, 48] (by decide +kernel) (by decide +kernel)
set_option maxRecDepth 20000 in
theorem gX6_total_X6_reckonWays : GoodIn wsX6_total (wsV RX6 23 RX6 yX6_reckonWays wsX6_reckonWays) := goodIn_app (goodIn_of _ (by decide +kernel)) ggX6_total_X6_reckonWays
set_option maxRecDepth 20000 in
theorem ggX6_total_X7_upMask : GoodIn wsX6_total wsX7_upMask := goodIn_r _ [18, 19, 20, 29, 30, 31, 32, 33, 34, 35, 36, 37, 38, 39, 40, 41, 42, 43, 44, 45, 46, 47, 48] (by decide +kernel) (by decide +kernel)
set_option maxRecDepth 20000 in
theorem gX6_total_X7_upMask : GoodIn wsX6_total (wsV RX6 26 RX7 yX7_upMask wsX7_upMask) := goodIn_app (goodIn_of _ (by decide +kernel)) ggX6_total_X7_upMask
theorem dX6_total_0 : decode cX6_total 0 = .ok (.aload_n 0, 1) := by decide +kernel
theorem dX6_total_1 : decode cX6_total 1 = .ok (.invokevirtual 23, 3) := by decide +kernel
theorem dX6_total_4 : decode cX6_total 4 = .ok (.aload_n 0, 1) := by decide +kernel
theorem dX6_total_5 : decode cX6_total 5 = .ok (.getfield 19, 3) := by decide +kernel
theorem dX6_total_8 : decode cX6_total 8 = .ok (.invokevirtual 26, 3) := by decide +kernel
theorem dX6_total_11 : decode cX6_total 11 = .ok (.istore_n 1, 1) := by decide +kernel
theorem dX6_total_12 : decode cX6_total 12 = .ok (.iload_n 1, 1) := by decide +kernel
theorem dX6_total_13 : decode cX6_total 13 = .ok (.ifCond .lt 19, 3) := by decide +kernel
theorem dX6_total_16 : decode cX6_total 16 = .ok (.iload_n 1, 1) := by decide +kernel
theorem dX6_total_17 : decode cX6_total 17 = .ok (.sipush 1024, 3) := by decide +kernel
theorem dX6_total_20 : decode cX6_total 20 = .ok (.if_icmp .ge 12, 3) := by decide +kernel
theorem dX6_total_23 : decode cX6_total 23 = .ok (.aload_n 0, 1) := by decide +kernel
theorem dX6_total_24 : decode cX6_total 24 = .ok (.getfield 11, 3) := by decide +kernel
theorem dX6_total_27 : decode cX6_total 27 = .ok (.iload_n 1, 1) := by decide +kernel
theorem dX6_total_28 : decode cX6_total 28 = .ok (.iaload, 1) := by decide +kernel
theorem dX6_total_29 : decode cX6_total 29 = .ok (.goto 4, 3) := by decide +kernel
theorem dX6_total_32 : decode cX6_total 32 = .ok (.iconst (-1), 1) := by decide +kernel
theorem dX6_total_33 : decode cX6_total 33 = .ok (.ireturn, 1) := by decide +kernel
set_option maxRecDepth 20000 in
theorem ggX6_partAt_X6_total : GoodIn wsX6_partAt wsX6_total := goodIn_r _ [7, 1, 8, 9, 10, 11, 6, 12, 13, 2, 14, 15, 16, 17, 18, 19, 20, 21, 22, 23, 24, 25, 26, 27, 28, 29, 30, 31, 32, 33, 34, 35, 36, 37, 38, 39, 40, 41, 42, 43, 44, 45, 46, 47, 48, 49, 50, 51, 52] (by decide +kernel) (by decide +kernel)
set_option maxRecDepth 20000 in
theorem gX6_partAt_X6_total : GoodIn wsX6_partAt (wsV RX6 32 RX6 yX6_total wsX6_total) := goodIn_app (goodIn_of _ (by decide +kernel)) ggX6_partAt_X6_total
set_option maxRecDepth 20000 in
theorem ggX6_partAt_X7_upMask : GoodIn wsX6_partAt wsX7_upMask := goodIn_r _ [22, 23, 24, 33, 34, 35, 36, 37, 38, 39, 40, 41, 42, 43, 44, 45, 46, 47, 48, 49, 50, 51, 52] (by decide +kernel) (by decide +kernel)
set_option maxRecDepth 20000 in
theorem gX6_partAt_X7_upMask : GoodIn wsX6_partAt (wsV RX6 26 RX7 yX7_upMask wsX7_upMask) := goodIn_app (goodIn_of _ (by decide +kernel)) ggX6_partAt_X7_upMask
set_option maxRecDepth 20000 in
theorem ggX6_partAt_X6_waysWith : GoodIn wsX6_partAt wsX6_waysWith := goodIn_r _ [28, 1, 29, 8, 30, 31, 32, 33, 34, 35, 36, 37, 38, 39, 40, 41, 42, 43, 44, 45, 46, 47, 48, 49, 50, 51, 52] (by decide +kernel) (by decide +kernel)
set_option maxRecDepth 20000 in
theorem gX6_partAt_X6_waysWith : GoodIn wsX6_partAt (wsV RX6 39 RX6 yX6_waysWith wsX6_waysWith) := goodIn_app (goodIn_of _ (by decide +kernel)) ggX6_partAt_X6_waysWith
theorem dX6_partAt_0 : decode cX6_partAt 0 = .ok (.iload_n 1, 1) := by decide +kernel
theorem dX6_partAt_1 : decode cX6_partAt 1 = .ok (.ifCond .lt 21, 3) := by decide +kernel
theorem dX6_partAt_4 : decode cX6_partAt 4 = .ok (.iload_n 1, 1) := by decide +kernel
theorem dX6_partAt_5 : decode cX6_partAt 5 = .ok (.aload_n 0, 1) := by decide +kernel
theorem dX6_partAt_6 : decode cX6_partAt 6 = .ok (.invokevirtual 32, 3) := by decide +kernel
theorem dX6_partAt_9 : decode cX6_partAt 9 = .ok (.if_icmp .ge 13, 3) := by decide +kernel
theorem dX6_partAt_12 : decode cX6_partAt 12 = .ok (.iload_n 2, 1) := by decide +kernel
theorem dX6_partAt_13 : decode cX6_partAt 13 = .ok (.ifCond .lt 9, 3) := by decide +kernel
theorem dX6_partAt_16 : decode cX6_partAt 16 = .ok (.iload_n 2, 1) := by decide +kernel
theorem dX6_partAt_17 : decode cX6_partAt 17 = .ok (.bipush 10, 2) := by decide +kernel
theorem dX6_partAt_19 : decode cX6_partAt 19 = .ok (.if_icmp .lt 5, 3) := by decide +kernel
theorem dX6_partAt_22 : decode cX6_partAt 22 = .ok (.iconst (-1), 1) := by decide +kernel
theorem dX6_partAt_23 : decode cX6_partAt 23 = .ok (.ireturn, 1) := by decide +kernel
theorem dX6_partAt_24 : decode cX6_partAt 24 = .ok (.aload_n 0, 1) := by decide +kernel
theorem dX6_partAt_25 : decode cX6_partAt 25 = .ok (.getfield 19, 3) := by decide +kernel
theorem dX6_partAt_28 : decode cX6_partAt 28 = .ok (.invokevirtual 26, 3) := by decide +kernel
theorem dX6_partAt_31 : decode cX6_partAt 31 = .ok (.istore_n 3, 1) := by decide +kernel
theorem dX6_partAt_32 : decode cX6_partAt 32 = .ok (.iload_n 1, 1) := by decide +kernel
theorem dX6_partAt_33 : decode cX6_partAt 33 = .ok (.istore 4, 2) := by decide +kernel
theorem dX6_partAt_35 : decode cX6_partAt 35 = .ok (.iconst (-1), 1) := by decide +kernel
theorem dX6_partAt_36 : decode cX6_partAt 36 = .ok (.istore 5, 2) := by decide +kernel
theorem dX6_partAt_38 : decode cX6_partAt 38 = .ok (.iconst 0, 1) := by decide +kernel
theorem dX6_partAt_39 : decode cX6_partAt 39 = .ok (.istore 6, 2) := by decide +kernel
theorem dX6_partAt_41 : decode cX6_partAt 41 = .ok (.iload 6, 2) := by decide +kernel
theorem dX6_partAt_43 : decode cX6_partAt 43 = .ok (.iload_n 2, 1) := by decide +kernel
theorem dX6_partAt_44 : decode cX6_partAt 44 = .ok (.if_icmp .gt 91, 3) := by decide +kernel
theorem dX6_partAt_47 : decode cX6_partAt 47 = .ok (.iconst (-1), 1) := by decide +kernel
theorem dX6_partAt_48 : decode cX6_partAt 48 = .ok (.istore 5, 2) := by decide +kernel
theorem dX6_partAt_50 : decode cX6_partAt 50 = .ok (.iconst 0, 1) := by decide +kernel
theorem dX6_partAt_51 : decode cX6_partAt 51 = .ok (.istore 7, 2) := by decide +kernel
theorem dX6_partAt_53 : decode cX6_partAt 53 = .ok (.iload 7, 2) := by decide +kernel
theorem dX6_partAt_55 : decode cX6_partAt 55 = .ok (.aload_n 0, 1) := by decide +kernel
theorem dX6_partAt_56 : decode cX6_partAt 56 = .ok (.getfield 19, 3) := by decide +kernel
theorem dX6_partAt_59 : decode cX6_partAt 59 = .ok (.getfield 35, 3) := by decide +kernel
theorem dX6_partAt_62 : decode cX6_partAt 62 = .ok (.if_icmp .ge 52, 3) := by decide +kernel
theorem dX6_partAt_65 : decode cX6_partAt 65 = .ok (.iload 7, 2) := by decide +kernel
theorem dX6_partAt_67 : decode cX6_partAt 67 = .ok (.bipush 10, 2) := by decide +kernel
theorem dX6_partAt_69 : decode cX6_partAt 69 = .ok (.if_icmp .ge 45, 3) := by decide +kernel
theorem dX6_partAt_72 : decode cX6_partAt 72 = .ok (.iload 5, 2) := by decide +kernel
theorem dX6_partAt_74 : decode cX6_partAt 74 = .ok (.iconst (-1), 1) := by decide +kernel
theorem dX6_partAt_75 : decode cX6_partAt 75 = .ok (.if_icmp .ne 39, 3) := by decide +kernel
theorem dX6_partAt_78 : decode cX6_partAt 78 = .ok (.aload_n 0, 1) := by decide +kernel
theorem dX6_partAt_79 : decode cX6_partAt 79 = .ok (.iload_n 3, 1) := by decide +kernel
theorem dX6_partAt_80 : decode cX6_partAt 80 = .ok (.iload 7, 2) := by decide +kernel
theorem dX6_partAt_82 : decode cX6_partAt 82 = .ok (.invokevirtual 39, 3) := by decide +kernel
theorem dX6_partAt_85 : decode cX6_partAt 85 = .ok (.istore 8, 2) := by decide +kernel
theorem dX6_partAt_87 : decode cX6_partAt 87 = .ok (.iload 4, 2) := by decide +kernel
theorem dX6_partAt_89 : decode cX6_partAt 89 = .ok (.iload 8, 2) := by decide +kernel
theorem dX6_partAt_91 : decode cX6_partAt 91 = .ok (.if_icmp .ge 10, 3) := by decide +kernel
theorem dX6_partAt_94 : decode cX6_partAt 94 = .ok (.iload 7, 2) := by decide +kernel
theorem dX6_partAt_96 : decode cX6_partAt 96 = .ok (.istore 5, 2) := by decide +kernel
theorem dX6_partAt_98 : decode cX6_partAt 98 = .ok (.goto 10, 3) := by decide +kernel
theorem dX6_partAt_101 : decode cX6_partAt 101 = .ok (.iload 4, 2) := by decide +kernel
theorem dX6_partAt_103 : decode cX6_partAt 103 = .ok (.iload 8, 2) := by decide +kernel
theorem dX6_partAt_105 : decode cX6_partAt 105 = .ok (.isub, 1) := by decide +kernel
theorem dX6_partAt_106 : decode cX6_partAt 106 = .ok (.istore 4, 2) := by decide +kernel
theorem dX6_partAt_108 : decode cX6_partAt 108 = .ok (.iinc 7 1, 3) := by decide +kernel
theorem dX6_partAt_111 : decode cX6_partAt 111 = .ok (.goto (-58), 3) := by decide +kernel
theorem dX6_partAt_114 : decode cX6_partAt 114 = .ok (.iload 5, 2) := by decide +kernel
theorem dX6_partAt_116 : decode cX6_partAt 116 = .ok (.iconst (-1), 1) := by decide +kernel
theorem dX6_partAt_117 : decode cX6_partAt 117 = .ok (.if_icmp .ne 5, 3) := by decide +kernel
theorem dX6_partAt_120 : decode cX6_partAt 120 = .ok (.iconst (-1), 1) := by decide +kernel
theorem dX6_partAt_121 : decode cX6_partAt 121 = .ok (.ireturn, 1) := by decide +kernel
theorem dX6_partAt_122 : decode cX6_partAt 122 = .ok (.iload_n 3, 1) := by decide +kernel
theorem dX6_partAt_123 : decode cX6_partAt 123 = .ok (.iconst 1, 1) := by decide +kernel
theorem dX6_partAt_124 : decode cX6_partAt 124 = .ok (.iload 5, 2) := by decide +kernel
theorem dX6_partAt_126 : decode cX6_partAt 126 = .ok (.ishl, 1) := by decide +kernel
theorem dX6_partAt_127 : decode cX6_partAt 127 = .ok (.ior, 1) := by decide +kernel
theorem dX6_partAt_128 : decode cX6_partAt 128 = .ok (.istore_n 3, 1) := by decide +kernel
theorem dX6_partAt_129 : decode cX6_partAt 129 = .ok (.iinc 6 1, 3) := by decide +kernel
theorem dX6_partAt_132 : decode cX6_partAt 132 = .ok (.goto (-91), 3) := by decide +kernel
theorem dX6_partAt_135 : decode cX6_partAt 135 = .ok (.iload 5, 2) := by decide +kernel
theorem dX6_partAt_137 : decode cX6_partAt 137 = .ok (.ireturn, 1) := by decide +kernel
set_option maxRecDepth 20000 in
theorem ggX6_reckonWays_X7_upMask : GoodIn wsX6_reckonWays wsX7_upMask := goodIn_r _ [13, 14, 15, 25, 26, 27, 28, 29, 30, 31, 32, 33, 34, 35, 36, 37, 38, 39, 40, 41, 42, 43, 44] (by decide +kernel) (by decide +kernel)
set_option maxRecDepth 20000 in
theorem gX6_reckonWays_X7_upMask : GoodIn wsX6_reckonWays (wsV RX6 26 RX7 yX7_upMask wsX7_upMask) := goodIn_app (goodIn_of _ (by decide +kernel)) ggX6_reckonWays_X7_upMask
set_option maxRecDepth 20000 in
theorem ggX6_reckonWays_X6_waysWith : GoodIn wsX6_reckonWays wsX6_waysWith := goodIn_r _ [20, 2, 21, 8, 22, 23, 24, 25, 26, 27, 28, 29, 30, 31, 32, 33, 34, 35, 36, 37, 38, 39, 40, 41, 42, 43, 44] (by decide +kernel) (by decide +kernel)
set_option maxRecDepth 20000 in
theorem gX6_reckonWays_X6_waysWith : GoodIn wsX6_reckonWays (wsV RX6 39 RX6 yX6_waysWith wsX6_waysWith) := goodIn_app (goodIn_of _ (by decide +kernel)) ggX6_reckonWays_X6_waysWith
theorem dX6_reckonWays_0 : decode cX6_reckonWays 0 = .ok (.aload_n 0, 1) := by decide +kernel
theorem dX6_reckonWays_1 : decode cX6_reckonWays 1 = .ok (.getfield 15, 3) := by decide +kernel
theorem dX6_reckonWays_4 : decode cX6_reckonWays 4 = .ok (.ifCond .eq 4, 3) := by decide +kernel
theorem dX6_reckonWays_7 : decode cX6_reckonWays 7 = .ok (.return_, 1) := by decide +kernel
theorem dX6_reckonWays_8 : decode cX6_reckonWays 8 = .ok (.aload_n 0, 1) := by decide +kernel
theorem dX6_reckonWays_9 : decode cX6_reckonWays 9 = .ok (.getfield 19, 3) := by decide +kernel
theorem dX6_reckonWays_12 : decode cX6_reckonWays 12 = .ok (.invokevirtual 26, 3) := by decide +kernel
theorem dX6_reckonWays_15 : decode cX6_reckonWays 15 = .ok (.istore_n 1, 1) := by decide +kernel
theorem dX6_reckonWays_16 : decode cX6_reckonWays 16 = .ok (.iconst 1, 1) := by decide +kernel
theorem dX6_reckonWays_17 : decode cX6_reckonWays 17 = .ok (.aload_n 0, 1) := by decide +kernel
theorem dX6_reckonWays_18 : decode cX6_reckonWays 18 = .ok (.getfield 19, 3) := by decide +kernel
theorem dX6_reckonWays_21 : decode cX6_reckonWays 21 = .ok (.getfield 35, 3) := by decide +kernel
theorem dX6_reckonWays_24 : decode cX6_reckonWays 24 = .ok (.ishl, 1) := by decide +kernel
theorem dX6_reckonWays_25 : decode cX6_reckonWays 25 = .ok (.iconst 1, 1) := by decide +kernel
theorem dX6_reckonWays_26 : decode cX6_reckonWays 26 = .ok (.isub, 1) := by decide +kernel
theorem dX6_reckonWays_27 : decode cX6_reckonWays 27 = .ok (.istore_n 2, 1) := by decide +kernel
theorem dX6_reckonWays_28 : decode cX6_reckonWays 28 = .ok (.iload_n 2, 1) := by decide +kernel
theorem dX6_reckonWays_29 : decode cX6_reckonWays 29 = .ok (.sipush 1023, 3) := by decide +kernel
theorem dX6_reckonWays_32 : decode cX6_reckonWays 32 = .ok (.invokestatic 43, 3) := by decide +kernel
theorem dX6_reckonWays_35 : decode cX6_reckonWays 35 = .ok (.istore_n 3, 1) := by decide +kernel
theorem dX6_reckonWays_36 : decode cX6_reckonWays 36 = .ok (.iload_n 3, 1) := by decide +kernel
theorem dX6_reckonWays_37 : decode cX6_reckonWays 37 = .ok (.ifCond .lt 79, 3) := by decide +kernel
theorem dX6_reckonWays_40 : decode cX6_reckonWays 40 = .ok (.iload_n 3, 1) := by decide +kernel
theorem dX6_reckonWays_41 : decode cX6_reckonWays 41 = .ok (.iload_n 1, 1) := by decide +kernel
theorem dX6_reckonWays_42 : decode cX6_reckonWays 42 = .ok (.iand, 1) := by decide +kernel
theorem dX6_reckonWays_43 : decode cX6_reckonWays 43 = .ok (.iload_n 1, 1) := by decide +kernel
theorem dX6_reckonWays_44 : decode cX6_reckonWays 44 = .ok (.if_icmp .eq 6, 3) := by decide +kernel
theorem dX6_reckonWays_47 : decode cX6_reckonWays 47 = .ok (.goto 63, 3) := by decide +kernel
theorem dX6_reckonWays_50 : decode cX6_reckonWays 50 = .ok (.iload_n 3, 1) := by decide +kernel
theorem dX6_reckonWays_51 : decode cX6_reckonWays 51 = .ok (.iload_n 2, 1) := by decide +kernel
theorem dX6_reckonWays_52 : decode cX6_reckonWays 52 = .ok (.if_icmp .ne 7, 3) := by decide +kernel
theorem dX6_reckonWays_55 : decode cX6_reckonWays 55 = .ok (.iconst 1, 1) := by decide +kernel
theorem dX6_reckonWays_56 : decode cX6_reckonWays 56 = .ok (.goto 4, 3) := by decide +kernel
theorem dX6_reckonWays_59 : decode cX6_reckonWays 59 = .ok (.iconst 0, 1) := by decide +kernel
theorem dX6_reckonWays_60 : decode cX6_reckonWays 60 = .ok (.istore 4, 2) := by decide +kernel
theorem dX6_reckonWays_62 : decode cX6_reckonWays 62 = .ok (.iconst 0, 1) := by decide +kernel
theorem dX6_reckonWays_63 : decode cX6_reckonWays 63 = .ok (.istore 5, 2) := by decide +kernel
theorem dX6_reckonWays_65 : decode cX6_reckonWays 65 = .ok (.iload 5, 2) := by decide +kernel
theorem dX6_reckonWays_67 : decode cX6_reckonWays 67 = .ok (.aload_n 0, 1) := by decide +kernel
theorem dX6_reckonWays_68 : decode cX6_reckonWays 68 = .ok (.getfield 19, 3) := by decide +kernel
theorem dX6_reckonWays_71 : decode cX6_reckonWays 71 = .ok (.getfield 35, 3) := by decide +kernel
theorem dX6_reckonWays_74 : decode cX6_reckonWays 74 = .ok (.if_icmp .ge 28, 3) := by decide +kernel
theorem dX6_reckonWays_77 : decode cX6_reckonWays 77 = .ok (.iload 5, 2) := by decide +kernel
theorem dX6_reckonWays_79 : decode cX6_reckonWays 79 = .ok (.bipush 10, 2) := by decide +kernel
theorem dX6_reckonWays_81 : decode cX6_reckonWays 81 = .ok (.if_icmp .ge 21, 3) := by decide +kernel
theorem dX6_reckonWays_84 : decode cX6_reckonWays 84 = .ok (.iload 4, 2) := by decide +kernel
theorem dX6_reckonWays_86 : decode cX6_reckonWays 86 = .ok (.aload_n 0, 1) := by decide +kernel
theorem dX6_reckonWays_87 : decode cX6_reckonWays 87 = .ok (.iload_n 3, 1) := by decide +kernel
theorem dX6_reckonWays_88 : decode cX6_reckonWays 88 = .ok (.iload 5, 2) := by decide +kernel
theorem dX6_reckonWays_90 : decode cX6_reckonWays 90 = .ok (.invokevirtual 39, 3) := by decide +kernel
theorem dX6_reckonWays_93 : decode cX6_reckonWays 93 = .ok (.iadd, 1) := by decide +kernel
theorem dX6_reckonWays_94 : decode cX6_reckonWays 94 = .ok (.istore 4, 2) := by decide +kernel
theorem dX6_reckonWays_96 : decode cX6_reckonWays 96 = .ok (.iinc 5 1, 3) := by decide +kernel
theorem dX6_reckonWays_99 : decode cX6_reckonWays 99 = .ok (.goto (-34), 3) := by decide +kernel
theorem dX6_reckonWays_102 : decode cX6_reckonWays 102 = .ok (.aload_n 0, 1) := by decide +kernel
theorem dX6_reckonWays_103 : decode cX6_reckonWays 103 = .ok (.getfield 11, 3) := by decide +kernel
theorem dX6_reckonWays_106 : decode cX6_reckonWays 106 = .ok (.iload_n 3, 1) := by decide +kernel
theorem dX6_reckonWays_107 : decode cX6_reckonWays 107 = .ok (.iload 4, 2) := by decide +kernel
theorem dX6_reckonWays_109 : decode cX6_reckonWays 109 = .ok (.iastore, 1) := by decide +kernel
theorem dX6_reckonWays_110 : decode cX6_reckonWays 110 = .ok (.iinc 3 (-1), 3) := by decide +kernel
theorem dX6_reckonWays_113 : decode cX6_reckonWays 113 = .ok (.goto (-77), 3) := by decide +kernel
theorem dX6_reckonWays_116 : decode cX6_reckonWays 116 = .ok (.aload_n 0, 1) := by decide +kernel
theorem dX6_reckonWays_117 : decode cX6_reckonWays 117 = .ok (.iconst 1, 1) := by decide +kernel
theorem dX6_reckonWays_118 : decode cX6_reckonWays 118 = .ok (.putfield 15, 3) := by decide +kernel
theorem dX6_reckonWays_121 : decode cX6_reckonWays 121 = .ok (.return_, 1) := by decide +kernel
theorem dX6_waysWith_0 : decode cX6_waysWith 0 = .ok (.iload_n 1, 1) := by decide +kernel
theorem dX6_waysWith_1 : decode cX6_waysWith 1 = .ok (.iload_n 2, 1) := by decide +kernel
theorem dX6_waysWith_2 : decode cX6_waysWith 2 = .ok (.ishr, 1) := by decide +kernel
theorem dX6_waysWith_3 : decode cX6_waysWith 3 = .ok (.iconst 1, 1) := by decide +kernel
theorem dX6_waysWith_4 : decode cX6_waysWith 4 = .ok (.iand, 1) := by decide +kernel
theorem dX6_waysWith_5 : decode cX6_waysWith 5 = .ok (.ifCond .ne 23, 3) := by decide +kernel
theorem dX6_waysWith_8 : decode cX6_waysWith 8 = .ok (.aload_n 0, 1) := by decide +kernel
theorem dX6_waysWith_9 : decode cX6_waysWith 9 = .ok (.getfield 19, 3) := by decide +kernel
theorem dX6_waysWith_12 : decode cX6_waysWith 12 = .ok (.getfield 48, 3) := by decide +kernel
theorem dX6_waysWith_15 : decode cX6_waysWith 15 = .ok (.iload_n 2, 1) := by decide +kernel
theorem dX6_waysWith_16 : decode cX6_waysWith 16 = .ok (.iaload, 1) := by decide +kernel
theorem dX6_waysWith_17 : decode cX6_waysWith 17 = .ok (.iload_n 1, 1) := by decide +kernel
theorem dX6_waysWith_18 : decode cX6_waysWith 18 = .ok (.iconst (-1), 1) := by decide +kernel
theorem dX6_waysWith_19 : decode cX6_waysWith 19 = .ok (.ixor, 1) := by decide +kernel
theorem dX6_waysWith_20 : decode cX6_waysWith 20 = .ok (.iand, 1) := by decide +kernel
theorem dX6_waysWith_21 : decode cX6_waysWith 21 = .ok (.ifCond .ne 7, 3) := by decide +kernel
theorem dX6_waysWith_24 : decode cX6_waysWith 24 = .ok (.iconst 1, 1) := by decide +kernel
theorem dX6_waysWith_25 : decode cX6_waysWith 25 = .ok (.goto 4, 3) := by decide +kernel
theorem dX6_waysWith_28 : decode cX6_waysWith 28 = .ok (.iconst 0, 1) := by decide +kernel
theorem dX6_waysWith_29 : decode cX6_waysWith 29 = .ok (.istore_n 3, 1) := by decide +kernel
theorem dX6_waysWith_30 : decode cX6_waysWith 30 = .ok (.iload_n 1, 1) := by decide +kernel
theorem dX6_waysWith_31 : decode cX6_waysWith 31 = .ok (.iconst 1, 1) := by decide +kernel
theorem dX6_waysWith_32 : decode cX6_waysWith 32 = .ok (.iload_n 2, 1) := by decide +kernel
theorem dX6_waysWith_33 : decode cX6_waysWith 33 = .ok (.ishl, 1) := by decide +kernel
theorem dX6_waysWith_34 : decode cX6_waysWith 34 = .ok (.ior, 1) := by decide +kernel
theorem dX6_waysWith_35 : decode cX6_waysWith 35 = .ok (.istore 4, 2) := by decide +kernel
theorem dX6_waysWith_37 : decode cX6_waysWith 37 = .ok (.iload_n 3, 1) := by decide +kernel
theorem dX6_waysWith_38 : decode cX6_waysWith 38 = .ok (.ifCond .eq 26, 3) := by decide +kernel
theorem dX6_waysWith_41 : decode cX6_waysWith 41 = .ok (.iload 4, 2) := by decide +kernel
theorem dX6_waysWith_43 : decode cX6_waysWith 43 = .ok (.ifCond .lt 21, 3) := by decide +kernel
theorem dX6_waysWith_46 : decode cX6_waysWith 46 = .ok (.iload 4, 2) := by decide +kernel
theorem dX6_waysWith_48 : decode cX6_waysWith 48 = .ok (.sipush 1024, 3) := by decide +kernel
theorem dX6_waysWith_51 : decode cX6_waysWith 51 = .ok (.if_icmp .ge 13, 3) := by decide +kernel
theorem dX6_waysWith_54 : decode cX6_waysWith 54 = .ok (.aload_n 0, 1) := by decide +kernel
theorem dX6_waysWith_55 : decode cX6_waysWith 55 = .ok (.getfield 11, 3) := by decide +kernel
theorem dX6_waysWith_58 : decode cX6_waysWith 58 = .ok (.iload 4, 2) := by decide +kernel
theorem dX6_waysWith_60 : decode cX6_waysWith 60 = .ok (.iaload, 1) := by decide +kernel
theorem dX6_waysWith_61 : decode cX6_waysWith 61 = .ok (.goto 4, 3) := by decide +kernel
theorem dX6_waysWith_64 : decode cX6_waysWith 64 = .ok (.iconst 0, 1) := by decide +kernel
theorem dX6_waysWith_65 : decode cX6_waysWith 65 = .ok (.ireturn, 1) := by decide +kernel
set_option maxRecDepth 20000 in
theorem ggX7_init_X8_init : GoodIn wsX7_init wsX8_init := goodIn_r _ [36, 37, 2, 3, 38, 39, 40, 5, 41, 42, 43, 64, 65, 66, 67, 68] (by decide +kernel) (by decide +kernel)
set_option maxRecDepth 20000 in
theorem gX7_init_X8_init_n83 : GoodIn wsX7_init (wsX8_init) := ggX7_init_X8_init
theorem dX7_init_0 : decode cX7_init 0 = .ok (.aload_n 0, 1) := by decide +kernel
theorem dX7_init_1 : decode cX7_init 1 = .ok (.invokespecial 3, 3) := by decide +kernel
theorem dX7_init_4 : decode cX7_init 4 = .ok (.aload_n 0, 1) := by decide +kernel
theorem dX7_init_5 : decode cX7_init 5 = .ok (.iconst 0, 1) := by decide +kernel
theorem dX7_init_6 : decode cX7_init 6 = .ok (.putfield 9, 3) := by decide +kernel
theorem dX7_init_9 : decode cX7_init 9 = .ok (.aload_n 0, 1) := by decide +kernel
theorem dX7_init_10 : decode cX7_init 10 = .ok (.bipush 10, 2) := by decide +kernel
theorem dX7_init_12 : decode cX7_init 12 = .ok (.newarray .int, 2) := by decide +kernel
theorem dX7_init_14 : decode cX7_init 14 = .ok (.putfield 15, 3) := by decide +kernel
theorem dX7_init_17 : decode cX7_init 17 = .ok (.aload_n 0, 1) := by decide +kernel
theorem dX7_init_18 : decode cX7_init 18 = .ok (.bipush 10, 2) := by decide +kernel
theorem dX7_init_20 : decode cX7_init 20 = .ok (.newarray .int, 2) := by decide +kernel
theorem dX7_init_22 : decode cX7_init 22 = .ok (.putfield 19, 3) := by decide +kernel
theorem dX7_init_25 : decode cX7_init 25 = .ok (.aload_n 0, 1) := by decide +kernel
theorem dX7_init_26 : decode cX7_init 26 = .ok (.bipush 10, 2) := by decide +kernel
theorem dX7_init_28 : decode cX7_init 28 = .ok (.newarray .int, 2) := by decide +kernel
theorem dX7_init_30 : decode cX7_init 30 = .ok (.putfield 22, 3) := by decide +kernel
theorem dX7_init_33 : decode cX7_init 33 = .ok (.aload_n 0, 1) := by decide +kernel
theorem dX7_init_34 : decode cX7_init 34 = .ok (.bipush 10, 2) := by decide +kernel
theorem dX7_init_36 : decode cX7_init 36 = .ok (.newarray .int, 2) := by decide +kernel
theorem dX7_init_38 : decode cX7_init 38 = .ok (.putfield 25, 3) := by decide +kernel
theorem dX7_init_41 : decode cX7_init 41 = .ok (.aload_n 0, 1) := by decide +kernel
theorem dX7_init_42 : decode cX7_init 42 = .ok (.bipush 10, 2) := by decide +kernel
theorem dX7_init_44 : decode cX7_init 44 = .ok (.newarray .int, 2) := by decide +kernel
theorem dX7_init_46 : decode cX7_init 46 = .ok (.putfield 28, 3) := by decide +kernel
theorem dX7_init_49 : decode cX7_init 49 = .ok (.aload_n 0, 1) := by decide +kernel
theorem dX7_init_50 : decode cX7_init 50 = .ok (.iconst 0, 1) := by decide +kernel
theorem dX7_init_51 : decode cX7_init 51 = .ok (.putfield 31, 3) := by decide +kernel
theorem dX7_init_54 : decode cX7_init 54 = .ok (.aload_n 0, 1) := by decide +kernel
theorem dX7_init_55 : decode cX7_init 55 = .ok (.bipush 6, 2) := by decide +kernel
theorem dX7_init_57 : decode cX7_init 57 = .ok (.newarray .int, 2) := by decide +kernel
theorem dX7_init_59 : decode cX7_init 59 = .ok (.putfield 34, 3) := by decide +kernel
theorem dX7_init_62 : decode cX7_init 62 = .ok (.aload_n 0, 1) := by decide +kernel
theorem dX7_init_63 : decode cX7_init 63 = .ok (.bipush 6, 2) := by decide +kernel
theorem dX7_init_65 : decode cX7_init 65 = .ok (.newarray .int, 2) := by decide +kernel
theorem dX7_init_67 : decode cX7_init 67 = .ok (.putfield 37, 3) := by decide +kernel
theorem dX7_init_70 : decode cX7_init 70 = .ok (.aload_n 0, 1) := by decide +kernel
theorem dX7_init_71 : decode cX7_init 71 = .ok (.bipush 6, 2) := by decide +kernel
theorem dX7_init_73 : decode cX7_init 73 = .ok (.newarray .int, 2) := by decide +kernel
theorem dX7_init_75 : decode cX7_init 75 = .ok (.putfield 40, 3) := by decide +kernel
theorem dX7_init_78 : decode cX7_init 78 = .ok (.aload_n 0, 1) := by decide +kernel
theorem dX7_init_79 : decode cX7_init 79 = .ok (.bipush 6, 2) := by decide +kernel
theorem dX7_init_81 : decode cX7_init 81 = .ok (.newarray .int, 2) := by decide +kernel
theorem dX7_init_83 : decode cX7_init 83 = .ok (.putfield 43, 3) := by decide +kernel
theorem dX7_init_86 : decode cX7_init 86 = .ok (.aload_n 0, 1) := by decide +kernel
theorem dX7_init_87 : decode cX7_init 87 = .ok (.getstatic 46, 3) := by decide +kernel
theorem dX7_init_90 : decode cX7_init 90 = .ok (.invokevirtual 49, 3) := by decide +kernel
theorem dX7_init_93 : decode cX7_init 93 = .ok (.checkcast 50, 3) := by decide +kernel
theorem dX7_init_96 : decode cX7_init 96 = .ok (.putfield 54, 3) := by decide +kernel
theorem dX7_init_99 : decode cX7_init 99 = .ok (.aload_n 0, 1) := by decide +kernel
theorem dX7_init_100 : decode cX7_init 100 = .ok (.iconst 0, 1) := by decide +kernel
theorem dX7_init_101 : decode cX7_init 101 = .ok (.putfield 57, 3) := by decide +kernel
theorem dX7_init_104 : decode cX7_init 104 = .ok (.aload_n 0, 1) := by decide +kernel
theorem dX7_init_105 : decode cX7_init 105 = .ok (.bipush 8, 2) := by decide +kernel
theorem dX7_init_107 : decode cX7_init 107 = .ok (.newarray .int, 2) := by decide +kernel
theorem dX7_init_109 : decode cX7_init 109 = .ok (.putfield 60, 3) := by decide +kernel
theorem dX7_init_112 : decode cX7_init 112 = .ok (.aload_n 0, 1) := by decide +kernel
theorem dX7_init_113 : decode cX7_init 113 = .ok (.bipush 8, 2) := by decide +kernel
theorem dX7_init_115 : decode cX7_init 115 = .ok (.newarray .int, 2) := by decide +kernel
theorem dX7_init_117 : decode cX7_init 117 = .ok (.putfield 63, 3) := by decide +kernel
theorem dX7_init_120 : decode cX7_init 120 = .ok (.aload_n 0, 1) := by decide +kernel
theorem dX7_init_121 : decode cX7_init 121 = .ok (.bipush 8, 2) := by decide +kernel
theorem dX7_init_123 : decode cX7_init 123 = .ok (.newarray .int, 2) := by decide +kernel
theorem dX7_init_125 : decode cX7_init 125 = .ok (.putfield 66, 3) := by decide +kernel
theorem dX7_init_128 : decode cX7_init 128 = .ok (.aload_n 0, 1) := by decide +kernel
theorem dX7_init_129 : decode cX7_init 129 = .ok (.bipush 6, 2) := by decide +kernel
theorem dX7_init_131 : decode cX7_init 131 = .ok (.anewarray 69, 3) := by decide +kernel
theorem dX7_init_134 : decode cX7_init 134 = .ok (.putfield 71, 3) := by decide +kernel
theorem dX7_init_137 : decode cX7_init 137 = .ok (.aload_n 0, 1) := by decide +kernel
theorem dX7_init_138 : decode cX7_init 138 = .ok (.iconst 0, 1) := by decide +kernel
theorem dX7_init_139 : decode cX7_init 139 = .ok (.putfield 75, 3) := by decide +kernel
theorem dX7_init_142 : decode cX7_init 142 = .ok (.aload_n 0, 1) := by decide +kernel
theorem dX7_init_143 : decode cX7_init 143 = .ok (.iconst (-1), 1) := by decide +kernel
theorem dX7_init_144 : decode cX7_init 144 = .ok (.putfield 78, 3) := by decide +kernel
theorem dX7_init_147 : decode cX7_init 147 = .ok (.aload_n 0, 1) := by decide +kernel
theorem dX7_init_148 : decode cX7_init 148 = .ok (.new 81, 3) := by decide +kernel
theorem dX7_init_151 : decode cX7_init 151 = .ok (.dup, 1) := by decide +kernel
theorem dX7_init_152 : decode cX7_init 152 = .ok (.invokespecial 83, 3) := by decide +kernel
theorem dX7_init_155 : decode cX7_init 155 = .ok (.putfield 84, 3) := by decide +kernel
theorem dX7_init_158 : decode cX7_init 158 = .ok (.return_, 1) := by decide +kernel
theorem dX7_copyFrom_0 : decode cX7_copyFrom 0 = .ok (.aload_n 0, 1) := by decide +kernel
theorem dX7_copyFrom_1 : decode cX7_copyFrom 1 = .ok (.aload_n 1, 1) := by decide +kernel
theorem dX7_copyFrom_2 : decode cX7_copyFrom 2 = .ok (.getfield 9, 3) := by decide +kernel
theorem dX7_copyFrom_5 : decode cX7_copyFrom 5 = .ok (.putfield 9, 3) := by decide +kernel
theorem dX7_copyFrom_8 : decode cX7_copyFrom 8 = .ok (.aload_n 1, 1) := by decide +kernel
theorem dX7_copyFrom_9 : decode cX7_copyFrom 9 = .ok (.getfield 15, 3) := by decide +kernel
theorem dX7_copyFrom_12 : decode cX7_copyFrom 12 = .ok (.iconst 0, 1) := by decide +kernel
theorem dX7_copyFrom_13 : decode cX7_copyFrom 13 = .ok (.aload_n 0, 1) := by decide +kernel
theorem dX7_copyFrom_14 : decode cX7_copyFrom 14 = .ok (.getfield 15, 3) := by decide +kernel
theorem dX7_copyFrom_17 : decode cX7_copyFrom 17 = .ok (.iconst 0, 1) := by decide +kernel
theorem dX7_copyFrom_18 : decode cX7_copyFrom 18 = .ok (.bipush 10, 2) := by decide +kernel
theorem dX7_copyFrom_20 : decode cX7_copyFrom 20 = .ok (.invokestatic 88, 3) := by decide +kernel
theorem dX7_copyFrom_23 : decode cX7_copyFrom 23 = .ok (.aload_n 1, 1) := by decide +kernel
theorem dX7_copyFrom_24 : decode cX7_copyFrom 24 = .ok (.getfield 19, 3) := by decide +kernel
theorem dX7_copyFrom_27 : decode cX7_copyFrom 27 = .ok (.iconst 0, 1) := by decide +kernel
theorem dX7_copyFrom_28 : decode cX7_copyFrom 28 = .ok (.aload_n 0, 1) := by decide +kernel
theorem dX7_copyFrom_29 : decode cX7_copyFrom 29 = .ok (.getfield 19, 3) := by decide +kernel
theorem dX7_copyFrom_32 : decode cX7_copyFrom 32 = .ok (.iconst 0, 1) := by decide +kernel
theorem dX7_copyFrom_33 : decode cX7_copyFrom 33 = .ok (.bipush 10, 2) := by decide +kernel
theorem dX7_copyFrom_35 : decode cX7_copyFrom 35 = .ok (.invokestatic 88, 3) := by decide +kernel
theorem dX7_copyFrom_38 : decode cX7_copyFrom 38 = .ok (.aload_n 1, 1) := by decide +kernel
theorem dX7_copyFrom_39 : decode cX7_copyFrom 39 = .ok (.getfield 22, 3) := by decide +kernel
theorem dX7_copyFrom_42 : decode cX7_copyFrom 42 = .ok (.iconst 0, 1) := by decide +kernel
theorem dX7_copyFrom_43 : decode cX7_copyFrom 43 = .ok (.aload_n 0, 1) := by decide +kernel
theorem dX7_copyFrom_44 : decode cX7_copyFrom 44 = .ok (.getfield 22, 3) := by decide +kernel
theorem dX7_copyFrom_47 : decode cX7_copyFrom 47 = .ok (.iconst 0, 1) := by decide +kernel
theorem dX7_copyFrom_48 : decode cX7_copyFrom 48 = .ok (.bipush 10, 2) := by decide +kernel
theorem dX7_copyFrom_50 : decode cX7_copyFrom 50 = .ok (.invokestatic 88, 3) := by decide +kernel
theorem dX7_copyFrom_53 : decode cX7_copyFrom 53 = .ok (.aload_n 1, 1) := by decide +kernel
theorem dX7_copyFrom_54 : decode cX7_copyFrom 54 = .ok (.getfield 25, 3) := by decide +kernel
theorem dX7_copyFrom_57 : decode cX7_copyFrom 57 = .ok (.iconst 0, 1) := by decide +kernel
theorem dX7_copyFrom_58 : decode cX7_copyFrom 58 = .ok (.aload_n 0, 1) := by decide +kernel
theorem dX7_copyFrom_59 : decode cX7_copyFrom 59 = .ok (.getfield 25, 3) := by decide +kernel
theorem dX7_copyFrom_62 : decode cX7_copyFrom 62 = .ok (.iconst 0, 1) := by decide +kernel
theorem dX7_copyFrom_63 : decode cX7_copyFrom 63 = .ok (.bipush 10, 2) := by decide +kernel
theorem dX7_copyFrom_65 : decode cX7_copyFrom 65 = .ok (.invokestatic 88, 3) := by decide +kernel
theorem dX7_copyFrom_68 : decode cX7_copyFrom 68 = .ok (.aload_n 1, 1) := by decide +kernel
theorem dX7_copyFrom_69 : decode cX7_copyFrom 69 = .ok (.getfield 28, 3) := by decide +kernel
theorem dX7_copyFrom_72 : decode cX7_copyFrom 72 = .ok (.iconst 0, 1) := by decide +kernel
theorem dX7_copyFrom_73 : decode cX7_copyFrom 73 = .ok (.aload_n 0, 1) := by decide +kernel
theorem dX7_copyFrom_74 : decode cX7_copyFrom 74 = .ok (.getfield 28, 3) := by decide +kernel
theorem dX7_copyFrom_77 : decode cX7_copyFrom 77 = .ok (.iconst 0, 1) := by decide +kernel
theorem dX7_copyFrom_78 : decode cX7_copyFrom 78 = .ok (.bipush 10, 2) := by decide +kernel
theorem dX7_copyFrom_80 : decode cX7_copyFrom 80 = .ok (.invokestatic 88, 3) := by decide +kernel
theorem dX7_copyFrom_83 : decode cX7_copyFrom 83 = .ok (.aload_n 0, 1) := by decide +kernel
theorem dX7_copyFrom_84 : decode cX7_copyFrom 84 = .ok (.aload_n 1, 1) := by decide +kernel
theorem dX7_copyFrom_85 : decode cX7_copyFrom 85 = .ok (.getfield 31, 3) := by decide +kernel
theorem dX7_copyFrom_88 : decode cX7_copyFrom 88 = .ok (.putfield 31, 3) := by decide +kernel
theorem dX7_copyFrom_91 : decode cX7_copyFrom 91 = .ok (.aload_n 1, 1) := by decide +kernel
theorem dX7_copyFrom_92 : decode cX7_copyFrom 92 = .ok (.getfield 34, 3) := by decide +kernel
theorem dX7_copyFrom_95 : decode cX7_copyFrom 95 = .ok (.iconst 0, 1) := by decide +kernel
theorem dX7_copyFrom_96 : decode cX7_copyFrom 96 = .ok (.aload_n 0, 1) := by decide +kernel
theorem dX7_copyFrom_97 : decode cX7_copyFrom 97 = .ok (.getfield 34, 3) := by decide +kernel
theorem dX7_copyFrom_100 : decode cX7_copyFrom 100 = .ok (.iconst 0, 1) := by decide +kernel
theorem dX7_copyFrom_101 : decode cX7_copyFrom 101 = .ok (.bipush 6, 2) := by decide +kernel
theorem dX7_copyFrom_103 : decode cX7_copyFrom 103 = .ok (.invokestatic 88, 3) := by decide +kernel
theorem dX7_copyFrom_106 : decode cX7_copyFrom 106 = .ok (.aload_n 1, 1) := by decide +kernel
theorem dX7_copyFrom_107 : decode cX7_copyFrom 107 = .ok (.getfield 37, 3) := by decide +kernel
theorem dX7_copyFrom_110 : decode cX7_copyFrom 110 = .ok (.iconst 0, 1) := by decide +kernel
theorem dX7_copyFrom_111 : decode cX7_copyFrom 111 = .ok (.aload_n 0, 1) := by decide +kernel
theorem dX7_copyFrom_112 : decode cX7_copyFrom 112 = .ok (.getfield 37, 3) := by decide +kernel
theorem dX7_copyFrom_115 : decode cX7_copyFrom 115 = .ok (.iconst 0, 1) := by decide +kernel
theorem dX7_copyFrom_116 : decode cX7_copyFrom 116 = .ok (.bipush 6, 2) := by decide +kernel
theorem dX7_copyFrom_118 : decode cX7_copyFrom 118 = .ok (.invokestatic 88, 3) := by decide +kernel
theorem dX7_copyFrom_121 : decode cX7_copyFrom 121 = .ok (.aload_n 1, 1) := by decide +kernel
theorem dX7_copyFrom_122 : decode cX7_copyFrom 122 = .ok (.getfield 40, 3) := by decide +kernel
theorem dX7_copyFrom_125 : decode cX7_copyFrom 125 = .ok (.iconst 0, 1) := by decide +kernel
theorem dX7_copyFrom_126 : decode cX7_copyFrom 126 = .ok (.aload_n 0, 1) := by decide +kernel
theorem dX7_copyFrom_127 : decode cX7_copyFrom 127 = .ok (.getfield 40, 3) := by decide +kernel
theorem dX7_copyFrom_130 : decode cX7_copyFrom 130 = .ok (.iconst 0, 1) := by decide +kernel
theorem dX7_copyFrom_131 : decode cX7_copyFrom 131 = .ok (.bipush 6, 2) := by decide +kernel
theorem dX7_copyFrom_133 : decode cX7_copyFrom 133 = .ok (.invokestatic 88, 3) := by decide +kernel
theorem dX7_copyFrom_136 : decode cX7_copyFrom 136 = .ok (.aload_n 1, 1) := by decide +kernel
theorem dX7_copyFrom_137 : decode cX7_copyFrom 137 = .ok (.getfield 43, 3) := by decide +kernel
theorem dX7_copyFrom_140 : decode cX7_copyFrom 140 = .ok (.iconst 0, 1) := by decide +kernel
theorem dX7_copyFrom_141 : decode cX7_copyFrom 141 = .ok (.aload_n 0, 1) := by decide +kernel
theorem dX7_copyFrom_142 : decode cX7_copyFrom 142 = .ok (.getfield 43, 3) := by decide +kernel
theorem dX7_copyFrom_145 : decode cX7_copyFrom 145 = .ok (.iconst 0, 1) := by decide +kernel
theorem dX7_copyFrom_146 : decode cX7_copyFrom 146 = .ok (.bipush 6, 2) := by decide +kernel
theorem dX7_copyFrom_148 : decode cX7_copyFrom 148 = .ok (.invokestatic 88, 3) := by decide +kernel
theorem dX7_copyFrom_151 : decode cX7_copyFrom 151 = .ok (.aload_n 1, 1) := by decide +kernel
theorem dX7_copyFrom_152 : decode cX7_copyFrom 152 = .ok (.getfield 54, 3) := by decide +kernel
theorem dX7_copyFrom_155 : decode cX7_copyFrom 155 = .ok (.iconst 0, 1) := by decide +kernel
theorem dX7_copyFrom_156 : decode cX7_copyFrom 156 = .ok (.aload_n 0, 1) := by decide +kernel
theorem dX7_copyFrom_157 : decode cX7_copyFrom 157 = .ok (.getfield 54, 3) := by decide +kernel
theorem dX7_copyFrom_160 : decode cX7_copyFrom 160 = .ok (.iconst 0, 1) := by decide +kernel
theorem dX7_copyFrom_161 : decode cX7_copyFrom 161 = .ok (.iconst 4, 1) := by decide +kernel
theorem dX7_copyFrom_162 : decode cX7_copyFrom 162 = .ok (.invokestatic 88, 3) := by decide +kernel
theorem dX7_copyFrom_165 : decode cX7_copyFrom 165 = .ok (.aload_n 0, 1) := by decide +kernel
theorem dX7_copyFrom_166 : decode cX7_copyFrom 166 = .ok (.aload_n 1, 1) := by decide +kernel
theorem dX7_copyFrom_167 : decode cX7_copyFrom 167 = .ok (.getfield 57, 3) := by decide +kernel
theorem dX7_copyFrom_170 : decode cX7_copyFrom 170 = .ok (.putfield 57, 3) := by decide +kernel
theorem dX7_copyFrom_173 : decode cX7_copyFrom 173 = .ok (.aload_n 1, 1) := by decide +kernel
theorem dX7_copyFrom_174 : decode cX7_copyFrom 174 = .ok (.getfield 60, 3) := by decide +kernel
theorem dX7_copyFrom_177 : decode cX7_copyFrom 177 = .ok (.iconst 0, 1) := by decide +kernel
theorem dX7_copyFrom_178 : decode cX7_copyFrom 178 = .ok (.aload_n 0, 1) := by decide +kernel
theorem dX7_copyFrom_179 : decode cX7_copyFrom 179 = .ok (.getfield 60, 3) := by decide +kernel
theorem dX7_copyFrom_182 : decode cX7_copyFrom 182 = .ok (.iconst 0, 1) := by decide +kernel
theorem dX7_copyFrom_183 : decode cX7_copyFrom 183 = .ok (.bipush 8, 2) := by decide +kernel
theorem dX7_copyFrom_185 : decode cX7_copyFrom 185 = .ok (.invokestatic 88, 3) := by decide +kernel
theorem dX7_copyFrom_188 : decode cX7_copyFrom 188 = .ok (.aload_n 1, 1) := by decide +kernel
theorem dX7_copyFrom_189 : decode cX7_copyFrom 189 = .ok (.getfield 63, 3) := by decide +kernel
theorem dX7_copyFrom_192 : decode cX7_copyFrom 192 = .ok (.iconst 0, 1) := by decide +kernel
theorem dX7_copyFrom_193 : decode cX7_copyFrom 193 = .ok (.aload_n 0, 1) := by decide +kernel
theorem dX7_copyFrom_194 : decode cX7_copyFrom 194 = .ok (.getfield 63, 3) := by decide +kernel
theorem dX7_copyFrom_197 : decode cX7_copyFrom 197 = .ok (.iconst 0, 1) := by decide +kernel
theorem dX7_copyFrom_198 : decode cX7_copyFrom 198 = .ok (.bipush 8, 2) := by decide +kernel
theorem dX7_copyFrom_200 : decode cX7_copyFrom 200 = .ok (.invokestatic 88, 3) := by decide +kernel
theorem dX7_copyFrom_203 : decode cX7_copyFrom 203 = .ok (.aload_n 1, 1) := by decide +kernel
theorem dX7_copyFrom_204 : decode cX7_copyFrom 204 = .ok (.getfield 66, 3) := by decide +kernel
theorem dX7_copyFrom_207 : decode cX7_copyFrom 207 = .ok (.iconst 0, 1) := by decide +kernel
theorem dX7_copyFrom_208 : decode cX7_copyFrom 208 = .ok (.aload_n 0, 1) := by decide +kernel
theorem dX7_copyFrom_209 : decode cX7_copyFrom 209 = .ok (.getfield 66, 3) := by decide +kernel
theorem dX7_copyFrom_212 : decode cX7_copyFrom 212 = .ok (.iconst 0, 1) := by decide +kernel
theorem dX7_copyFrom_213 : decode cX7_copyFrom 213 = .ok (.bipush 8, 2) := by decide +kernel
theorem dX7_copyFrom_215 : decode cX7_copyFrom 215 = .ok (.invokestatic 88, 3) := by decide +kernel
theorem dX7_copyFrom_218 : decode cX7_copyFrom 218 = .ok (.iconst 0, 1) := by decide +kernel
theorem dX7_copyFrom_219 : decode cX7_copyFrom 219 = .ok (.istore_n 2, 1) := by decide +kernel
theorem dX7_copyFrom_220 : decode cX7_copyFrom 220 = .ok (.iload_n 2, 1) := by decide +kernel
theorem dX7_copyFrom_221 : decode cX7_copyFrom 221 = .ok (.bipush 6, 2) := by decide +kernel
theorem dX7_copyFrom_223 : decode cX7_copyFrom 223 = .ok (.if_icmp .ge 21, 3) := by decide +kernel
theorem dX7_copyFrom_226 : decode cX7_copyFrom 226 = .ok (.aload_n 0, 1) := by decide +kernel
theorem dX7_copyFrom_227 : decode cX7_copyFrom 227 = .ok (.getfield 71, 3) := by decide +kernel
theorem dX7_copyFrom_230 : decode cX7_copyFrom 230 = .ok (.iload_n 2, 1) := by decide +kernel
theorem dX7_copyFrom_231 : decode cX7_copyFrom 231 = .ok (.aload_n 1, 1) := by decide +kernel
theorem dX7_copyFrom_232 : decode cX7_copyFrom 232 = .ok (.getfield 71, 3) := by decide +kernel
theorem dX7_copyFrom_235 : decode cX7_copyFrom 235 = .ok (.iload_n 2, 1) := by decide +kernel
theorem dX7_copyFrom_236 : decode cX7_copyFrom 236 = .ok (.aaload, 1) := by decide +kernel
theorem dX7_copyFrom_237 : decode cX7_copyFrom 237 = .ok (.aastore, 1) := by decide +kernel
theorem dX7_copyFrom_238 : decode cX7_copyFrom 238 = .ok (.iinc 2 1, 3) := by decide +kernel
theorem dX7_copyFrom_241 : decode cX7_copyFrom 241 = .ok (.goto (-21), 3) := by decide +kernel
theorem dX7_copyFrom_244 : decode cX7_copyFrom 244 = .ok (.aload_n 0, 1) := by decide +kernel
theorem dX7_copyFrom_245 : decode cX7_copyFrom 245 = .ok (.aload_n 1, 1) := by decide +kernel
theorem dX7_copyFrom_246 : decode cX7_copyFrom 246 = .ok (.getfield 75, 3) := by decide +kernel
theorem dX7_copyFrom_249 : decode cX7_copyFrom 249 = .ok (.putfield 75, 3) := by decide +kernel
theorem dX7_copyFrom_252 : decode cX7_copyFrom 252 = .ok (.aload_n 0, 1) := by decide +kernel
theorem dX7_copyFrom_253 : decode cX7_copyFrom 253 = .ok (.aload_n 1, 1) := by decide +kernel
theorem dX7_copyFrom_254 : decode cX7_copyFrom 254 = .ok (.getfield 78, 3) := by decide +kernel
theorem dX7_copyFrom_257 : decode cX7_copyFrom 257 = .ok (.putfield 78, 3) := by decide +kernel
theorem dX7_copyFrom_260 : decode cX7_copyFrom 260 = .ok (.return_, 1) := by decide +kernel
theorem dX7_hasPart_0 : decode cX7_hasPart 0 = .ok (.iload_n 1, 1) := by decide +kernel
theorem dX7_hasPart_1 : decode cX7_hasPart 1 = .ok (.ifCond .lt 21, 3) := by decide +kernel
theorem dX7_hasPart_4 : decode cX7_hasPart 4 = .ok (.iload_n 1, 1) := by decide +kernel
theorem dX7_hasPart_5 : decode cX7_hasPart 5 = .ok (.aload_n 0, 1) := by decide +kernel
theorem dX7_hasPart_6 : decode cX7_hasPart 6 = .ok (.getfield 9, 3) := by decide +kernel
theorem dX7_hasPart_9 : decode cX7_hasPart 9 = .ok (.if_icmp .ge 13, 3) := by decide +kernel
theorem dX7_hasPart_12 : decode cX7_hasPart 12 = .ok (.iload_n 1, 1) := by decide +kernel
theorem dX7_hasPart_13 : decode cX7_hasPart 13 = .ok (.bipush 10, 2) := by decide +kernel
theorem dX7_hasPart_15 : decode cX7_hasPart 15 = .ok (.if_icmp .ge 7, 3) := by decide +kernel
theorem dX7_hasPart_18 : decode cX7_hasPart 18 = .ok (.iconst 1, 1) := by decide +kernel
theorem dX7_hasPart_19 : decode cX7_hasPart 19 = .ok (.goto 4, 3) := by decide +kernel
theorem dX7_hasPart_22 : decode cX7_hasPart 22 = .ok (.iconst 0, 1) := by decide +kernel
theorem dX7_hasPart_23 : decode cX7_hasPart 23 = .ok (.ireturn, 1) := by decide +kernel
theorem dX7_hasBuilder_0 : decode cX7_hasBuilder 0 = .ok (.iload_n 1, 1) := by decide +kernel
theorem dX7_hasBuilder_1 : decode cX7_hasBuilder 1 = .ok (.ifCond .lt 21, 3) := by decide +kernel
theorem dX7_hasBuilder_4 : decode cX7_hasBuilder 4 = .ok (.iload_n 1, 1) := by decide +kernel
theorem dX7_hasBuilder_5 : decode cX7_hasBuilder 5 = .ok (.aload_n 0, 1) := by decide +kernel
theorem dX7_hasBuilder_6 : decode cX7_hasBuilder 6 = .ok (.getfield 31, 3) := by decide +kernel
theorem dX7_hasBuilder_9 : decode cX7_hasBuilder 9 = .ok (.if_icmp .ge 13, 3) := by decide +kernel
theorem dX7_hasBuilder_12 : decode cX7_hasBuilder 12 = .ok (.iload_n 1, 1) := by decide +kernel
theorem dX7_hasBuilder_13 : decode cX7_hasBuilder 13 = .ok (.bipush 6, 2) := by decide +kernel
theorem dX7_hasBuilder_15 : decode cX7_hasBuilder 15 = .ok (.if_icmp .ge 7, 3) := by decide +kernel
theorem dX7_hasBuilder_18 : decode cX7_hasBuilder 18 = .ok (.iconst 1, 1) := by decide +kernel
theorem dX7_hasBuilder_19 : decode cX7_hasBuilder 19 = .ok (.goto 4, 3) := by decide +kernel
theorem dX7_hasBuilder_22 : decode cX7_hasBuilder 22 = .ok (.iconst 0, 1) := by decide +kernel
theorem dX7_hasBuilder_23 : decode cX7_hasBuilder 23 = .ok (.ireturn, 1) := by decide +kernel
theorem dX7_addPart_0 : decode cX7_addPart 0 = .ok (.iload_n 2, 1) := by decide +kernel
theorem dX7_addPart_1 : decode cX7_addPart 1 = .ok (.iconst (-1), 1) := by decide +kernel
theorem dX7_addPart_2 : decode cX7_addPart 2 = .ok (.aload_n 0, 1) := by decide +kernel
theorem dX7_addPart_3 : decode cX7_addPart 3 = .ok (.getfield 9, 3) := by decide +kernel
theorem dX7_addPart_6 : decode cX7_addPart 6 = .ok (.ishl, 1) := by decide +kernel
theorem dX7_addPart_7 : decode cX7_addPart 7 = .ok (.iand, 1) := by decide +kernel
theorem dX7_addPart_8 : decode cX7_addPart 8 = .ok (.ifCond .ne 7, 3) := by decide +kernel
theorem dX7_addPart_11 : decode cX7_addPart 11 = .ok (.iconst 1, 1) := by decide +kernel
theorem dX7_addPart_12 : decode cX7_addPart 12 = .ok (.goto 4, 3) := by decide +kernel
theorem dX7_addPart_15 : decode cX7_addPart 15 = .ok (.iconst 0, 1) := by decide +kernel
theorem dX7_addPart_16 : decode cX7_addPart 16 = .ok (.istore 5, 2) := by decide +kernel
theorem dX7_addPart_18 : decode cX7_addPart 18 = .ok (.iload_n 1, 1) := by decide +kernel
theorem dX7_addPart_19 : decode cX7_addPart 19 = .ok (.iconst 1, 1) := by decide +kernel
theorem dX7_addPart_20 : decode cX7_addPart 20 = .ok (.if_icmp .lt 35, 3) := by decide +kernel
theorem dX7_addPart_23 : decode cX7_addPart 23 = .ok (.iload_n 1, 1) := by decide +kernel
theorem dX7_addPart_24 : decode cX7_addPart 24 = .ok (.bipush 99, 2) := by decide +kernel
theorem dX7_addPart_26 : decode cX7_addPart 26 = .ok (.if_icmp .gt 29, 3) := by decide +kernel
theorem dX7_addPart_29 : decode cX7_addPart 29 = .ok (.iload 5, 2) := by decide +kernel
theorem dX7_addPart_31 : decode cX7_addPart 31 = .ok (.ifCond .eq 24, 3) := by decide +kernel
theorem dX7_addPart_34 : decode cX7_addPart 34 = .ok (.iload_n 3, 1) := by decide +kernel
theorem dX7_addPart_35 : decode cX7_addPart 35 = .ok (.ifCond .lt 20, 3) := by decide +kernel
theorem dX7_addPart_38 : decode cX7_addPart 38 = .ok (.iload_n 3, 1) := by decide +kernel
theorem dX7_addPart_39 : decode cX7_addPart 39 = .ok (.iconst 4, 1) := by decide +kernel
theorem dX7_addPart_40 : decode cX7_addPart 40 = .ok (.if_icmp .ge 15, 3) := by decide +kernel
theorem dX7_addPart_43 : decode cX7_addPart 43 = .ok (.iload 4, 2) := by decide +kernel
theorem dX7_addPart_45 : decode cX7_addPart 45 = .ok (.ifCond .lt 10, 3) := by decide +kernel
theorem dX7_addPart_48 : decode cX7_addPart 48 = .ok (.iload 4, 2) := by decide +kernel
theorem dX7_addPart_50 : decode cX7_addPart 50 = .ok (.bipush 9, 2) := by decide +kernel
theorem dX7_addPart_52 : decode cX7_addPart 52 = .ok (.if_icmp .le 5, 3) := by decide +kernel
theorem dX7_addPart_55 : decode cX7_addPart 55 = .ok (.iconst (-1), 1) := by decide +kernel
theorem dX7_addPart_56 : decode cX7_addPart 56 = .ok (.ireturn, 1) := by decide +kernel
theorem dX7_addPart_57 : decode cX7_addPart 57 = .ok (.aload_n 0, 1) := by decide +kernel
theorem dX7_addPart_58 : decode cX7_addPart 58 = .ok (.getfield 9, 3) := by decide +kernel
theorem dX7_addPart_61 : decode cX7_addPart 61 = .ok (.ifCond .lt 12, 3) := by decide +kernel
theorem dX7_addPart_64 : decode cX7_addPart 64 = .ok (.aload_n 0, 1) := by decide +kernel
theorem dX7_addPart_65 : decode cX7_addPart 65 = .ok (.getfield 9, 3) := by decide +kernel
theorem dX7_addPart_68 : decode cX7_addPart 68 = .ok (.bipush 10, 2) := by decide +kernel
theorem dX7_addPart_70 : decode cX7_addPart 70 = .ok (.if_icmp .lt 6, 3) := by decide +kernel
theorem dX7_addPart_73 : decode cX7_addPart 73 = .ok (.bipush (-5), 2) := by decide +kernel
theorem dX7_addPart_75 : decode cX7_addPart 75 = .ok (.ireturn, 1) := by decide +kernel
theorem dX7_addPart_76 : decode cX7_addPart 76 = .ok (.aload_n 0, 1) := by decide +kernel
theorem dX7_addPart_77 : decode cX7_addPart 77 = .ok (.getfield 15, 3) := by decide +kernel
theorem dX7_addPart_80 : decode cX7_addPart 80 = .ok (.aload_n 0, 1) := by decide +kernel
theorem dX7_addPart_81 : decode cX7_addPart 81 = .ok (.getfield 9, 3) := by decide +kernel
theorem dX7_addPart_84 : decode cX7_addPart 84 = .ok (.iload_n 1, 1) := by decide +kernel
theorem dX7_addPart_85 : decode cX7_addPart 85 = .ok (.iastore, 1) := by decide +kernel
theorem dX7_addPart_86 : decode cX7_addPart 86 = .ok (.aload_n 0, 1) := by decide +kernel
theorem dX7_addPart_87 : decode cX7_addPart 87 = .ok (.getfield 19, 3) := by decide +kernel
theorem dX7_addPart_90 : decode cX7_addPart 90 = .ok (.aload_n 0, 1) := by decide +kernel
theorem dX7_addPart_91 : decode cX7_addPart 91 = .ok (.getfield 9, 3) := by decide +kernel
theorem dX7_addPart_94 : decode cX7_addPart 94 = .ok (.iload_n 2, 1) := by decide +kernel
theorem dX7_addPart_95 : decode cX7_addPart 95 = .ok (.iastore, 1) := by decide +kernel
theorem dX7_addPart_96 : decode cX7_addPart 96 = .ok (.aload_n 0, 1) := by decide +kernel
theorem dX7_addPart_97 : decode cX7_addPart 97 = .ok (.getfield 22, 3) := by decide +kernel
theorem dX7_addPart_100 : decode cX7_addPart 100 = .ok (.aload_n 0, 1) := by decide +kernel
theorem dX7_addPart_101 : decode cX7_addPart 101 = .ok (.getfield 9, 3) := by decide +kernel
theorem dX7_addPart_104 : decode cX7_addPart 104 = .ok (.iload_n 3, 1) := by decide +kernel
theorem dX7_addPart_105 : decode cX7_addPart 105 = .ok (.iastore, 1) := by decide +kernel
theorem dX7_addPart_106 : decode cX7_addPart 106 = .ok (.aload_n 0, 1) := by decide +kernel
theorem dX7_addPart_107 : decode cX7_addPart 107 = .ok (.getfield 25, 3) := by decide +kernel
theorem dX7_addPart_110 : decode cX7_addPart 110 = .ok (.aload_n 0, 1) := by decide +kernel
theorem dX7_addPart_111 : decode cX7_addPart 111 = .ok (.getfield 9, 3) := by decide +kernel
theorem dX7_addPart_114 : decode cX7_addPart 114 = .ok (.iload 4, 2) := by decide +kernel
theorem dX7_addPart_116 : decode cX7_addPart 116 = .ok (.iastore, 1) := by decide +kernel
theorem dX7_addPart_117 : decode cX7_addPart 117 = .ok (.aload_n 0, 1) := by decide +kernel
theorem dX7_addPart_118 : decode cX7_addPart 118 = .ok (.getfield 28, 3) := by decide +kernel
theorem dX7_addPart_121 : decode cX7_addPart 121 = .ok (.aload_n 0, 1) := by decide +kernel
theorem dX7_addPart_122 : decode cX7_addPart 122 = .ok (.getfield 9, 3) := by decide +kernel
theorem dX7_addPart_125 : decode cX7_addPart 125 = .ok (.iload_n 1, 1) := by decide +kernel
theorem dX7_addPart_126 : decode cX7_addPart 126 = .ok (.iastore, 1) := by decide +kernel
theorem dX7_addPart_127 : decode cX7_addPart 127 = .ok (.aload_n 0, 1) := by decide +kernel
theorem dX7_addPart_128 : decode cX7_addPart 128 = .ok (.dup, 1) := by decide +kernel
