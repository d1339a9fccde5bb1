section
-- ===== PART A: goes FIRST, ahead of the names: the tables' words, and 'selects' of the private methods out of them =====
/-- a private method of a class that the tables say can be made, by its rows of tables_1 -/
def lw_okq (q : MethodName × Nat) : Prop := (q.1.cls ≠ "java/lang/invoke/MethodHandle" ∧ q.1.cls ≠ "java/lang/invoke/VarHandle") ∧ Cond.instantiable q.1.cls q.2 ∈ tables_1 ∧ Cond.privateMethod q.1 ∈ tables_1 ∧ Cond.instanceMethod q.1 ∈ tables_1
theorem lw_p0 : lw_okq (⟨"SunriseRoof", "refuse", "(I)I"⟩, 17) := ⟨⟨by decide +kernel, by decide +kernel⟩, List.mem_of_getElem? (i := 23) (by decide +kernel), List.mem_of_getElem? (i := 488) (by decide +kernel), List.mem_of_getElem? (i := 489) (by decide +kernel)⟩
theorem lw_p1 : lw_okq (⟨"SunriseRoof", "agreeChanged", "(I)I"⟩, 17) := ⟨⟨by decide +kernel, by decide +kernel⟩, List.mem_of_getElem? (i := 23) (by decide +kernel), List.mem_of_getElem? (i := 496) (by decide +kernel), List.mem_of_getElem? (i := 497) (by decide +kernel)⟩
theorem lw_p2 : lw_okq (⟨"SunriseRoof", "agree", "(I)I"⟩, 17) := ⟨⟨by decide +kernel, by decide +kernel⟩, List.mem_of_getElem? (i := 23) (by decide +kernel), List.mem_of_getElem? (i := 508) (by decide +kernel), List.mem_of_getElem? (i := 509) (by decide +kernel)⟩
theorem lw_p3 : lw_okq (⟨"SunriseRoof$Site", "withoutLaw", "(III)I"⟩, 20) := ⟨⟨by decide +kernel, by decide +kernel⟩, List.mem_of_getElem? (i := 31) (by decide +kernel), List.mem_of_getElem? (i := 565) (by decide +kernel), List.mem_of_getElem? (i := 566) (by decide +kernel)⟩
theorem lw_p4 : lw_okq (⟨"SunriseRoof$Site", "hasCraft", "(II)Z"⟩, 20) := ⟨⟨by decide +kernel, by decide +kernel⟩, List.mem_of_getElem? (i := 31) (by decide +kernel), List.mem_of_getElem? (i := 569) (by decide +kernel), List.mem_of_getElem? (i := 570) (by decide +kernel)⟩
theorem lw_p5 : lw_okq (⟨"SunriseRoof$Site", "writeWords", "(II)V"⟩, 20) := ⟨⟨by decide +kernel, by decide +kernel⟩, List.mem_of_getElem? (i := 31) (by decide +kernel), List.mem_of_getElem? (i := 573) (by decide +kernel), List.mem_of_getElem? (i := 574) (by decide +kernel)⟩
theorem lw_p6 : lw_okq (⟨"SunriseRoof", "writeNumber", "(II)V"⟩, 17) := ⟨⟨by decide +kernel, by decide +kernel⟩, List.mem_of_getElem? (i := 23) (by decide +kernel), List.mem_of_getElem? (i := 606) (by decide +kernel), List.mem_of_getElem? (i := 607) (by decide +kernel)⟩
theorem lw_p7 : lw_okq (⟨"SunriseRoof", "emptyTape", "()I"⟩, 17) := ⟨⟨by decide +kernel, by decide +kernel⟩, List.mem_of_getElem? (i := 23) (by decide +kernel), List.mem_of_getElem? (i := 618) (by decide +kernel), List.mem_of_getElem? (i := 619) (by decide +kernel)⟩
theorem lw_p8 : lw_okq (⟨"SunriseRoof", "addWrittenPart", "(I)Z"⟩, 17) := ⟨⟨by decide +kernel, by decide +kernel⟩, List.mem_of_getElem? (i := 23) (by decide +kernel), List.mem_of_getElem? (i := 622) (by decide +kernel), List.mem_of_getElem? (i := 623) (by decide +kernel)⟩
theorem lw_p9 : lw_okq (⟨"SunriseRoof$Reader", "split", "([BI)V"⟩, 7) := ⟨⟨by decide +kernel, by decide +kernel⟩, List.mem_of_getElem? (i := 266) (by decide +kernel), List.mem_of_getElem? (i := 639) (by decide +kernel), List.mem_of_getElem? (i := 640) (by decide +kernel)⟩
theorem lw_p10 : lw_okq (⟨"SunriseRoof$Reader", "addToken", "(II)V"⟩, 7) := ⟨⟨by decide +kernel, by decide +kernel⟩, List.mem_of_getElem? (i := 266) (by decide +kernel), List.mem_of_getElem? (i := 704) (by decide +kernel), List.mem_of_getElem? (i := 705) (by decide +kernel)⟩
theorem lw_p11 : lw_okq (⟨"SunriseRoof$Reader", "readOrder", "()Z"⟩, 7) := ⟨⟨by decide +kernel, by decide +kernel⟩, List.mem_of_getElem? (i := 266) (by decide +kernel), List.mem_of_getElem? (i := 715) (by decide +kernel), List.mem_of_getElem? (i := 716) (by decide +kernel)⟩
theorem lw_p12 : lw_okq (⟨"SunriseRoof$Reader", "inHand", "()I"⟩, 7) := ⟨⟨by decide +kernel, by decide +kernel⟩, List.mem_of_getElem? (i := 266) (by decide +kernel), List.mem_of_getElem? (i := 719) (by decide +kernel), List.mem_of_getElem? (i := 720) (by decide +kernel)⟩
theorem lw_p13 : lw_okq (⟨"SunriseRoof$Reader", "readSum", "(I)Z"⟩, 7) := ⟨⟨by decide +kernel, by decide +kernel⟩, List.mem_of_getElem? (i := 266) (by decide +kernel), List.mem_of_getElem? (i := 727) (by decide +kernel), List.mem_of_getElem? (i := 728) (by decide +kernel)⟩
theorem lw_p14 : lw_okq (⟨"SunriseRoof$Reader", "readOperand", "(I)Z"⟩, 7) := ⟨⟨by decide +kernel, by decide +kernel⟩, List.mem_of_getElem? (i := 266) (by decide +kernel), List.mem_of_getElem? (i := 731) (by decide +kernel), List.mem_of_getElem? (i := 732) (by decide +kernel)⟩
theorem lw_p15 : lw_okq (⟨"SunriseRoof$Reader", "takeOrderWord", "(I)I"⟩, 7) := ⟨⟨by decide +kernel, by decide +kernel⟩, List.mem_of_getElem? (i := 266) (by decide +kernel), List.mem_of_getElem? (i := 739) (by decide +kernel), List.mem_of_getElem? (i := 740) (by decide +kernel)⟩
def lw_privs_1 : List (MethodName × Nat) := [(⟨"SunriseRoof", "refuse", "(I)I"⟩, 17), (⟨"SunriseRoof", "agreeChanged", "(I)I"⟩, 17), (⟨"SunriseRoof", "agree", "(I)I"⟩, 17), (⟨"SunriseRoof$Site", "withoutLaw", "(III)I"⟩, 20), (⟨"SunriseRoof$Site", "hasCraft", "(II)Z"⟩, 20), (⟨"SunriseRoof$Site", "writeWords", "(II)V"⟩, 20), (⟨"SunriseRoof", "writeNumber", "(II)V"⟩, 17), (⟨"SunriseRoof", "emptyTape", "()I"⟩, 17), (⟨"SunriseRoof", "addWrittenPart", "(I)Z"⟩, 17), (⟨"SunriseRoof$Reader", "split", "([BI)V"⟩, 7), (⟨"SunriseRoof$Reader", "addToken", "(II)V"⟩, 7), (⟨"SunriseRoof$Reader", "readOrder", "()Z"⟩, 7), (⟨"SunriseRoof$Reader", "inHand", "()I"⟩, 7), (⟨"SunriseRoof$Reader", "readSum", "(I)Z"⟩, 7), (⟨"SunriseRoof$Reader", "readOperand", "(I)Z"⟩, 7), (⟨"SunriseRoof$Reader", "takeOrderWord", "(I)I"⟩, 7)]
theorem lw_r1 : ∀ q ∈ lw_privs_1, lw_okq q := List.forall_mem_cons.mpr ⟨lw_p0, List.forall_mem_cons.mpr ⟨lw_p1, List.forall_mem_cons.mpr ⟨lw_p2, List.forall_mem_cons.mpr ⟨lw_p3, List.forall_mem_cons.mpr ⟨lw_p4, List.forall_mem_cons.mpr ⟨lw_p5, List.forall_mem_cons.mpr ⟨lw_p6, List.forall_mem_cons.mpr ⟨lw_p7, List.forall_mem_cons.mpr ⟨lw_p8, List.forall_mem_cons.mpr ⟨lw_p9, List.forall_mem_cons.mpr ⟨lw_p10, List.forall_mem_cons.mpr ⟨lw_p11, List.forall_mem_cons.mpr ⟨lw_p12, List.forall_mem_cons.mpr ⟨lw_p13, List.forall_mem_cons.mpr ⟨lw_p14, List.forall_mem_cons.mpr ⟨lw_p15, fun _ h => absurd h List.not_mem_nil⟩⟩⟩⟩⟩⟩⟩⟩⟩⟩⟩⟩⟩⟩⟩⟩
theorem lw_p16 : lw_okq (⟨"SunriseRoof$Reader", "takeLawWord", "(I)I"⟩, 7) := ⟨⟨by decide +kernel, by decide +kernel⟩, List.mem_of_getElem? (i := 266) (by decide +kernel), List.mem_of_getElem? (i := 743) (by decide +kernel), List.mem_of_getElem? (i := 744) (by decide +kernel)⟩
theorem lw_p17 : lw_okq (⟨"SunriseRoof$Reader", "emitIfAny", "(I)V"⟩, 7) := ⟨⟨by decide +kernel, by decide +kernel⟩, List.mem_of_getElem? (i := 266) (by decide +kernel), List.mem_of_getElem? (i := 747) (by decide +kernel), List.mem_of_getElem? (i := 748) (by decide +kernel)⟩
theorem lw_p18 : lw_okq (⟨"SunriseRoof$Reader", "readTimes", "()Z"⟩, 7) := ⟨⟨by decide +kernel, by decide +kernel⟩, List.mem_of_getElem? (i := 266) (by decide +kernel), List.mem_of_getElem? (i := 755) (by decide +kernel), List.mem_of_getElem? (i := 756) (by decide +kernel)⟩
theorem lw_p19 : lw_okq (⟨"SunriseRoof$Reader", "readRule", "()Z"⟩, 7) := ⟨⟨by decide +kernel, by decide +kernel⟩, List.mem_of_getElem? (i := 266) (by decide +kernel), List.mem_of_getElem? (i := 763) (by decide +kernel), List.mem_of_getElem? (i := 764) (by decide +kernel)⟩
theorem lw_p20 : lw_okq (⟨"SunriseRoof$Reader", "placeInHand", "()I"⟩, 7) := ⟨⟨by decide +kernel, by decide +kernel⟩, List.mem_of_getElem? (i := 266) (by decide +kernel), List.mem_of_getElem? (i := 767) (by decide +kernel), List.mem_of_getElem? (i := 768) (by decide +kernel)⟩
theorem lw_p21 : lw_okq (⟨"SunriseRoof$Reader", "readTest", "(I)Z"⟩, 7) := ⟨⟨by decide +kernel, by decide +kernel⟩, List.mem_of_getElem? (i := 266) (by decide +kernel), List.mem_of_getElem? (i := 771) (by decide +kernel), List.mem_of_getElem? (i := 772) (by decide +kernel)⟩
theorem lw_p22 : lw_okq (⟨"SunriseRoof$Reader", "readPlain", "(I)Z"⟩, 7) := ⟨⟨by decide +kernel, by decide +kernel⟩, List.mem_of_getElem? (i := 266) (by decide +kernel), List.mem_of_getElem? (i := 775) (by decide +kernel), List.mem_of_getElem? (i := 776) (by decide +kernel)⟩
theorem lw_p23 : lw_okq (⟨"SunriseRoof$Runner", "runOnce", "(LSunriseRoof$Text;I)Z"⟩, 8) := ⟨⟨by decide +kernel, by decide +kernel⟩, List.mem_of_getElem? (i := 230) (by decide +kernel), List.mem_of_getElem? (i := 810) (by decide +kernel), List.mem_of_getElem? (i := 811) (by decide +kernel)⟩
theorem lw_p24 : lw_okq (⟨"SunriseRoof$Runner", "writeWords", "()V"⟩, 8) := ⟨⟨by decide +kernel, by decide +kernel⟩, List.mem_of_getElem? (i := 230) (by decide +kernel), List.mem_of_getElem? (i := 814) (by decide +kernel), List.mem_of_getElem? (i := 815) (by decide +kernel)⟩
theorem lw_p25 : lw_okq (⟨"SunriseRoof$Deeds", "isBuiltOn", "(I)Z"⟩, 2) := ⟨⟨by decide +kernel, by decide +kernel⟩, List.mem_of_getElem? (i := 217) (by decide +kernel), List.mem_of_getElem? (i := 851) (by decide +kernel), List.mem_of_getElem? (i := 852) (by decide +kernel)⟩
theorem lw_p26 : lw_okq (⟨"SunriseRoof$Deeds", "hasAnybody", "(I)Z"⟩, 2) := ⟨⟨by decide +kernel, by decide +kernel⟩, List.mem_of_getElem? (i := 217) (by decide +kernel), List.mem_of_getElem? (i := 855) (by decide +kernel), List.mem_of_getElem? (i := 856) (by decide +kernel)⟩
theorem lw_p27 : lw_okq (⟨"SunriseRoof", "settle", "(I)I"⟩, 17) := ⟨⟨by decide +kernel, by decide +kernel⟩, List.mem_of_getElem? (i := 23) (by decide +kernel), List.mem_of_getElem? (i := 891) (by decide +kernel), List.mem_of_getElem? (i := 892) (by decide +kernel)⟩
theorem lw_p28 : lw_okq (⟨"SunriseRoof$Sequences", "reckonWays", "()V"⟩, 3) := ⟨⟨by decide +kernel, by decide +kernel⟩, List.mem_of_getElem? (i := 388) (by decide +kernel), List.mem_of_getElem? (i := 930) (by decide +kernel), List.mem_of_getElem? (i := 931) (by decide +kernel)⟩
theorem lw_p29 : lw_okq (⟨"SunriseRoof$Sequences", "waysWith", "(II)I"⟩, 3) := ⟨⟨by decide +kernel, by decide +kernel⟩, List.mem_of_getElem? (i := 388) (by decide +kernel), List.mem_of_getElem? (i := 936) (by decide +kernel), List.mem_of_getElem? (i := 937) (by decide +kernel)⟩
theorem lw_p30 : lw_okq (⟨"SunriseRoof$Planner", "noteStanding", "(I[II)Z"⟩, 4) := ⟨⟨by decide +kernel, by decide +kernel⟩, List.mem_of_getElem? (i := 328) (by decide +kernel), List.mem_of_getElem? (i := 964) (by decide +kernel), List.mem_of_getElem? (i := 965) (by decide +kernel)⟩
theorem lw_p31 : lw_okq (⟨"SunriseRoof$Planner", "isStuck", "()Z"⟩, 4) := ⟨⟨by decide +kernel, by decide +kernel⟩, List.mem_of_getElem? (i := 328) (by decide +kernel), List.mem_of_getElem? (i := 979) (by decide +kernel), List.mem_of_getElem? (i := 980) (by decide +kernel)⟩
def lw_privs_2 : List (MethodName × Nat) := [(⟨"SunriseRoof$Reader", "takeLawWord", "(I)I"⟩, 7), (⟨"SunriseRoof$Reader", "emitIfAny", "(I)V"⟩, 7), (⟨"SunriseRoof$Reader", "readTimes", "()Z"⟩, 7), (⟨"SunriseRoof$Reader", "readRule", "()Z"⟩, 7), (⟨"SunriseRoof$Reader", "placeInHand", "()I"⟩, 7), (⟨"SunriseRoof$Reader", "readTest", "(I)Z"⟩, 7), (⟨"SunriseRoof$Reader", "readPlain", "(I)Z"⟩, 7), (⟨"SunriseRoof$Runner", "runOnce", "(LSunriseRoof$Text;I)Z"⟩, 8), (⟨"SunriseRoof$Runner", "writeWords", "()V"⟩, 8), (⟨"SunriseRoof$Deeds", "isBuiltOn", "(I)Z"⟩, 2), (⟨"SunriseRoof$Deeds", "hasAnybody", "(I)Z"⟩, 2), (⟨"SunriseRoof", "settle", "(I)I"⟩, 17), (⟨"SunriseRoof$Sequences", "reckonWays", "()V"⟩, 3), (⟨"SunriseRoof$Sequences", "waysWith", "(II)I"⟩, 3), (⟨"SunriseRoof$Planner", "noteStanding", "(I[II)Z"⟩, 4), (⟨"SunriseRoof$Planner", "isStuck", "()Z"⟩, 4)]
theorem lw_r2 : ∀ q ∈ lw_privs_2, lw_okq q := List.forall_mem_cons.mpr ⟨lw_p16, List.forall_mem_cons.mpr ⟨lw_p17, List.forall_mem_cons.mpr ⟨lw_p18, List.forall_mem_cons.mpr ⟨lw_p19, List.forall_mem_cons.mpr ⟨lw_p20, List.forall_mem_cons.mpr ⟨lw_p21, List.forall_mem_cons.mpr ⟨lw_p22, List.forall_mem_cons.mpr ⟨lw_p23, List.forall_mem_cons.mpr ⟨lw_p24, List.forall_mem_cons.mpr ⟨lw_p25, List.forall_mem_cons.mpr ⟨lw_p26, List.forall_mem_cons.mpr ⟨lw_p27, List.forall_mem_cons.mpr ⟨lw_p28, List.forall_mem_cons.mpr ⟨lw_p29, List.forall_mem_cons.mpr ⟨lw_p30, List.forall_mem_cons.mpr ⟨lw_p31, fun _ h => absurd h List.not_mem_nil⟩⟩⟩⟩⟩⟩⟩⟩⟩⟩⟩⟩⟩⟩⟩⟩
theorem lw_p32 : lw_okq (⟨"SunriseRoof$Study", "openSets", "()V"⟩, 10) := ⟨⟨by decide +kernel, by decide +kernel⟩, List.mem_of_getElem? (i := 350) (by decide +kernel), List.mem_of_getElem? (i := 997) (by decide +kernel), List.mem_of_getElem? (i := 998) (by decide +kernel)⟩
theorem lw_p33 : lw_okq (⟨"SunriseRoof$Study", "ticksWith", "(III)I"⟩, 10) := ⟨⟨by decide +kernel, by decide +kernel⟩, List.mem_of_getElem? (i := 350) (by decide +kernel), List.mem_of_getElem? (i := 1013) (by decide +kernel), List.mem_of_getElem? (i := 1014) (by decide +kernel)⟩
theorem lw_p34 : lw_okq (⟨"SunriseRoof$Study", "fitsAll", "(I)Z"⟩, 10) := ⟨⟨by decide +kernel, by decide +kernel⟩, List.mem_of_getElem? (i := 350) (by decide +kernel), List.mem_of_getElem? (i := 1054) (by decide +kernel), List.mem_of_getElem? (i := 1055) (by decide +kernel)⟩
theorem lw_p35 : lw_okq (⟨"SunriseRoof$Study", "stoodBehind", "(III)Z"⟩, 10) := ⟨⟨by decide +kernel, by decide +kernel⟩, List.mem_of_getElem? (i := 350) (by decide +kernel), List.mem_of_getElem? (i := 1058) (by decide +kernel), List.mem_of_getElem? (i := 1059) (by decide +kernel)⟩
theorem lw_p36 : lw_okq (⟨"SunriseRoof$Study", "mostAlike", "(I)I"⟩, 10) := ⟨⟨by decide +kernel, by decide +kernel⟩, List.mem_of_getElem? (i := 350) (by decide +kernel), List.mem_of_getElem? (i := 1071) (by decide +kernel), List.mem_of_getElem? (i := 1072) (by decide +kernel)⟩
theorem lw_p37 : lw_okq (⟨"SunriseRoofModel", "refuses", "(I)I"⟩, 48) := ⟨⟨by decide +kernel, by decide +kernel⟩, List.mem_of_getElem? (i := 1115) (by decide +kernel), List.mem_of_getElem? (i := 1273) (by decide +kernel), List.mem_of_getElem? (i := 1274) (by decide +kernel)⟩
theorem lw_p38 : lw_okq (⟨"SunriseRoofModel", "good", "(I)I"⟩, 48) := ⟨⟨by decide +kernel, by decide +kernel⟩, List.mem_of_getElem? (i := 1115) (by decide +kernel), List.mem_of_getElem? (i := 1277) (by decide +kernel), List.mem_of_getElem? (i := 1278) (by decide +kernel)⟩
theorem lw_p39 : lw_okq (⟨"SunriseRoofModel", "settled", "(I)I"⟩, 48) := ⟨⟨by decide +kernel, by decide +kernel⟩, List.mem_of_getElem? (i := 1115) (by decide +kernel), List.mem_of_getElem? (i := 1285) (by decide +kernel), List.mem_of_getElem? (i := 1286) (by decide +kernel)⟩
theorem lw_p40 : lw_okq (⟨"SunriseRoofModel", "canPart", "(IIII)Z"⟩, 48) := ⟨⟨by decide +kernel, by decide +kernel⟩, List.mem_of_getElem? (i := 1115) (by decide +kernel), List.mem_of_getElem? (i := 1293) (by decide +kernel), List.mem_of_getElem? (i := 1294) (by decide +kernel)⟩
theorem lw_p41 : lw_okq (⟨"SunriseRoofModel", "addsPart", "(IIII)V"⟩, 48) := ⟨⟨by decide +kernel, by decide +kernel⟩, List.mem_of_getElem? (i := 1115) (by decide +kernel), List.mem_of_getElem? (i := 1297) (by decide +kernel), List.mem_of_getElem? (i := 1298) (by decide +kernel)⟩
theorem lw_p42 : lw_okq (⟨"SunriseRoofModel", "isPart", "(I)Z"⟩, 48) := ⟨⟨by decide +kernel, by decide +kernel⟩, List.mem_of_getElem? (i := 1115) (by decide +kernel), List.mem_of_getElem? (i := 1305) (by decide +kernel), List.mem_of_getElem? (i := 1306) (by decide +kernel)⟩
theorem lw_p43 : lw_okq (⟨"SunriseRoofModel", "isReady", "(I)Z"⟩, 48) := ⟨⟨by decide +kernel, by decide +kernel⟩, List.mem_of_getElem? (i := 1115) (by decide +kernel), List.mem_of_getElem? (i := 1309) (by decide +kernel), List.mem_of_getElem? (i := 1310) (by decide +kernel)⟩
theorem lw_p44 : lw_okq (⟨"SunriseRoofModel", "stands0", "(I)Z"⟩, 48) := ⟨⟨by decide +kernel, by decide +kernel⟩, List.mem_of_getElem? (i := 1115) (by decide +kernel), List.mem_of_getElem? (i := 1313) (by decide +kernel), List.mem_of_getElem? (i := 1314) (by decide +kernel)⟩
theorem lw_p45 : lw_okq (⟨"SunriseRoofModel", "standing", "()I"⟩, 48) := ⟨⟨by decide +kernel, by decide +kernel⟩, List.mem_of_getElem? (i := 1115) (by decide +kernel), List.mem_of_getElem? (i := 1317) (by decide +kernel), List.mem_of_getElem? (i := 1318) (by decide +kernel)⟩
theorem lw_p46 : lw_okq (⟨"SunriseRoofModel", "laysChains", "()V"⟩, 48) := ⟨⟨by decide +kernel, by decide +kernel⟩, List.mem_of_getElem? (i := 1115) (by decide +kernel), List.mem_of_getElem? (i := 1321) (by decide +kernel), List.mem_of_getElem? (i := 1322) (by decide +kernel)⟩
theorem lw_p47 : lw_okq (⟨"SunriseRoofModel", "isBuilder", "(I)Z"⟩, 48) := ⟨⟨by decide +kernel, by decide +kernel⟩, List.mem_of_getElem? (i := 1115) (by decide +kernel), List.mem_of_getElem? (i := 1339) (by decide +kernel), List.mem_of_getElem? (i := 1340) (by decide +kernel)⟩
def lw_privs_3 : List (MethodName × Nat) := [(⟨"SunriseRoof$Study", "openSets", "()V"⟩, 10), (⟨"SunriseRoof$Study", "ticksWith", "(III)I"⟩, 10), (⟨"SunriseRoof$Study", "fitsAll", "(I)Z"⟩, 10), (⟨"SunriseRoof$Study", "stoodBehind", "(III)Z"⟩, 10), (⟨"SunriseRoof$Study", "mostAlike", "(I)I"⟩, 10), (⟨"SunriseRoofModel", "refuses", "(I)I"⟩, 48), (⟨"SunriseRoofModel", "good", "(I)I"⟩, 48), (⟨"SunriseRoofModel", "settled", "(I)I"⟩, 48), (⟨"SunriseRoofModel", "canPart", "(IIII)Z"⟩, 48), (⟨"SunriseRoofModel", "addsPart", "(IIII)V"⟩, 48), (⟨"SunriseRoofModel", "isPart", "(I)Z"⟩, 48), (⟨"SunriseRoofModel", "isReady", "(I)Z"⟩, 48), (⟨"SunriseRoofModel", "stands0", "(I)Z"⟩, 48), (⟨"SunriseRoofModel", "standing", "()I"⟩, 48), (⟨"SunriseRoofModel", "laysChains", "()V"⟩, 48), (⟨"SunriseRoofModel", "isBuilder", "(I)Z"⟩, 48)]
theorem lw_r3 : ∀ q ∈ lw_privs_3, lw_okq q := List.forall_mem_cons.mpr ⟨lw_p32, List.forall_mem_cons.mpr ⟨lw_p33, List.forall_mem_cons.mpr ⟨lw_p34, List.forall_mem_cons.mpr ⟨lw_p35, List.forall_mem_cons.mpr ⟨lw_p36, List.forall_mem_cons.mpr ⟨lw_p37, List.forall_mem_cons.mpr ⟨lw_p38, List.forall_mem_cons.mpr ⟨lw_p39, List.forall_mem_cons.mpr ⟨lw_p40, List.forall_mem_cons.mpr ⟨lw_p41, List.forall_mem_cons.mpr ⟨lw_p42, List.forall_mem_cons.mpr ⟨lw_p43, List.forall_mem_cons.mpr ⟨lw_p44, List.forall_mem_cons.mpr ⟨lw_p45, List.forall_mem_cons.mpr ⟨lw_p46, List.forall_mem_cons.mpr ⟨lw_p47, fun _ h => absurd h List.not_mem_nil⟩⟩⟩⟩⟩⟩⟩⟩⟩⟩⟩⟩⟩⟩⟩⟩
theorem lw_p48 : lw_okq (⟨"SunriseRoofModel", "readsAs", "(Z)Z"⟩, 48) := ⟨⟨by decide +kernel, by decide +kernel⟩, List.mem_of_getElem? (i := 1115) (by decide +kernel), List.mem_of_getElem? (i := 1370) (by decide +kernel), List.mem_of_getElem? (i := 1371) (by decide +kernel)⟩
theorem lw_p49 : lw_okq (⟨"SunriseRoofModel", "reads", "()Z"⟩, 48) := ⟨⟨by decide +kernel, by decide +kernel⟩, List.mem_of_getElem? (i := 1115) (by decide +kernel), List.mem_of_getElem? (i := 1374) (by decide +kernel), List.mem_of_getElem? (i := 1375) (by decide +kernel)⟩
theorem lw_p50 : lw_okq (⟨"SunriseRoofModel", "splits", "(I)V"⟩, 48) := ⟨⟨by decide +kernel, by decide +kernel⟩, List.mem_of_getElem? (i := 1115) (by decide +kernel), List.mem_of_getElem? (i := 1378) (by decide +kernel), List.mem_of_getElem? (i := 1379) (by decide +kernel)⟩
theorem lw_p51 : lw_okq (⟨"SunriseRoofModel", "wordOf", "(II)I"⟩, 48) := ⟨⟨by decide +kernel, by decide +kernel⟩, List.mem_of_getElem? (i := 1115) (by decide +kernel), List.mem_of_getElem? (i := 1388) (by decide +kernel), List.mem_of_getElem? (i := 1389) (by decide +kernel)⟩
theorem lw_p52 : lw_okq (⟨"SunriseRoofModel", "readOne", "()V"⟩, 48) := ⟨⟨by decide +kernel, by decide +kernel⟩, List.mem_of_getElem? (i := 1115) (by decide +kernel), List.mem_of_getElem? (i := 1393) (by decide +kernel), List.mem_of_getElem? (i := 1394) (by decide +kernel)⟩
theorem lw_p53 : lw_okq (⟨"SunriseRoofModel", "readOrder", "()V"⟩, 48) := ⟨⟨by decide +kernel, by decide +kernel⟩, List.mem_of_getElem? (i := 1115) (by decide +kernel), List.mem_of_getElem? (i := 1397) (by decide +kernel), List.mem_of_getElem? (i := 1398) (by decide +kernel)⟩
theorem lw_p54 : lw_okq (⟨"SunriseRoofModel", "takes0", "(I)Z"⟩, 48) := ⟨⟨by decide +kernel, by decide +kernel⟩, List.mem_of_getElem? (i := 1115) (by decide +kernel), List.mem_of_getElem? (i := 1401) (by decide +kernel), List.mem_of_getElem? (i := 1402) (by decide +kernel)⟩
theorem lw_p55 : lw_okq (⟨"SunriseRoofModel", "fine", "()Z"⟩, 48) := ⟨⟨by decide +kernel, by decide +kernel⟩, List.mem_of_getElem? (i := 1115) (by decide +kernel), List.mem_of_getElem? (i := 1405) (by decide +kernel), List.mem_of_getElem? (i := 1406) (by decide +kernel)⟩
theorem lw_p56 : lw_okq (⟨"SunriseRoofModel", "readSum", "(I)V"⟩, 48) := ⟨⟨by decide +kernel, by decide +kernel⟩, List.mem_of_getElem? (i := 1115) (by decide +kernel), List.mem_of_getElem? (i := 1409) (by decide +kernel), List.mem_of_getElem? (i := 1410) (by decide +kernel)⟩
theorem lw_p57 : lw_okq (⟨"SunriseRoofModel", "readTerm", "(I)V"⟩, 48) := ⟨⟨by decide +kernel, by decide +kernel⟩, List.mem_of_getElem? (i := 1115) (by decide +kernel), List.mem_of_getElem? (i := 1413) (by decide +kernel), List.mem_of_getElem? (i := 1414) (by decide +kernel)⟩
theorem lw_p58 : lw_okq (⟨"SunriseRoofModel", "readPart", "(I)V"⟩, 48) := ⟨⟨by decide +kernel, by decide +kernel⟩, List.mem_of_getElem? (i := 1115) (by decide +kernel), List.mem_of_getElem? (i := 1417) (by decide +kernel), List.mem_of_getElem? (i := 1418) (by decide +kernel)⟩
theorem lw_p59 : lw_okq (⟨"SunriseRoofModel", "faults", "()V"⟩, 48) := ⟨⟨by decide +kernel, by decide +kernel⟩, List.mem_of_getElem? (i := 1115) (by decide +kernel), List.mem_of_getElem? (i := 1424) (by decide +kernel), List.mem_of_getElem? (i := 1425) (by decide +kernel)⟩
theorem lw_p60 : lw_okq (⟨"SunriseRoofModel", "must", "(I)V"⟩, 48) := ⟨⟨by decide +kernel, by decide +kernel⟩, List.mem_of_getElem? (i := 1115) (by decide +kernel), List.mem_of_getElem? (i := 1428) (by decide +kernel), List.mem_of_getElem? (i := 1429) (by decide +kernel)⟩
theorem lw_p61 : lw_okq (⟨"SunriseRoofModel", "leaf", "()V"⟩, 48) := ⟨⟨by decide +kernel, by decide +kernel⟩, List.mem_of_getElem? (i := 1115) (by decide +kernel), List.mem_of_getElem? (i := 1432) (by decide +kernel), List.mem_of_getElem? (i := 1433) (by decide +kernel)⟩
theorem lw_p62 : lw_okq (⟨"SunriseRoofModel", "mustNumber", "(II)V"⟩, 48) := ⟨⟨by decide +kernel, by decide +kernel⟩, List.mem_of_getElem? (i := 1115) (by decide +kernel), List.mem_of_getElem? (i := 1436) (by decide +kernel), List.mem_of_getElem? (i := 1437) (by decide +kernel)⟩
theorem lw_p63 : lw_okq (⟨"SunriseRoofModel", "readTest", "(I)V"⟩, 48) := ⟨⟨by decide +kernel, by decide +kernel⟩, List.mem_of_getElem? (i := 1115) (by decide +kernel), List.mem_of_getElem? (i := 1440) (by decide +kernel), List.mem_of_getElem? (i := 1441) (by decide +kernel)⟩
def lw_privs_4 : List (MethodName × Nat) := [(⟨"SunriseRoofModel", "readsAs", "(Z)Z"⟩, 48), (⟨"SunriseRoofModel", "reads", "()Z"⟩, 48), (⟨"SunriseRoofModel", "splits", "(I)V"⟩, 48), (⟨"SunriseRoofModel", "wordOf", "(II)I"⟩, 48), (⟨"SunriseRoofModel", "readOne", "()V"⟩, 48), (⟨"SunriseRoofModel", "readOrder", "()V"⟩, 48), (⟨"SunriseRoofModel", "takes0", "(I)Z"⟩, 48), (⟨"SunriseRoofModel", "fine", "()Z"⟩, 48), (⟨"SunriseRoofModel", "readSum", "(I)V"⟩, 48), (⟨"SunriseRoofModel", "readTerm", "(I)V"⟩, 48), (⟨"SunriseRoofModel", "readPart", "(I)V"⟩, 48), (⟨"SunriseRoofModel", "faults", "()V"⟩, 48), (⟨"SunriseRoofModel", "must", "(I)V"⟩, 48), (⟨"SunriseRoofModel", "leaf", "()V"⟩, 48), (⟨"SunriseRoofModel", "mustNumber", "(II)V"⟩, 48), (⟨"SunriseRoofModel", "readTest", "(I)V"⟩, 48)]
theorem lw_r4 : ∀ q ∈ lw_privs_4, lw_okq q := List.forall_mem_cons.mpr ⟨lw_p48, List.forall_mem_cons.mpr ⟨lw_p49, List.forall_mem_cons.mpr ⟨lw_p50, List.forall_mem_cons.mpr ⟨lw_p51, List.forall_mem_cons.mpr ⟨lw_p52, List.forall_mem_cons.mpr ⟨lw_p53, List.forall_mem_cons.mpr ⟨lw_p54, List.forall_mem_cons.mpr ⟨lw_p55, List.forall_mem_cons.mpr ⟨lw_p56, List.forall_mem_cons.mpr ⟨lw_p57, List.forall_mem_cons.mpr ⟨lw_p58, List.forall_mem_cons.mpr ⟨lw_p59, List.forall_mem_cons.mpr ⟨lw_p60, List.forall_mem_cons.mpr ⟨lw_p61, List.forall_mem_cons.mpr ⟨lw_p62, List.forall_mem_cons.mpr ⟨lw_p63, fun _ h => absurd h List.not_mem_nil⟩⟩⟩⟩⟩⟩⟩⟩⟩⟩⟩⟩⟩⟩⟩⟩
theorem lw_p64 : lw_okq (⟨"SunriseRoofModel", "readBoth", "(I)V"⟩, 48) := ⟨⟨by decide +kernel, by decide +kernel⟩, List.mem_of_getElem? (i := 1115) (by decide +kernel), List.mem_of_getElem? (i := 1444) (by decide +kernel), List.mem_of_getElem? (i := 1445) (by decide +kernel)⟩
theorem lw_p65 : lw_okq (⟨"SunriseRoofModel", "readPlain", "(I)V"⟩, 48) := ⟨⟨by decide +kernel, by decide +kernel⟩, List.mem_of_getElem? (i := 1115) (by decide +kernel), List.mem_of_getElem? (i := 1448) (by decide +kernel), List.mem_of_getElem? (i := 1449) (by decide +kernel)⟩
theorem lw_p66 : lw_okq (⟨"SunriseRoofModel", "readClause", "()V"⟩, 48) := ⟨⟨by decide +kernel, by decide +kernel⟩, List.mem_of_getElem? (i := 1115) (by decide +kernel), List.mem_of_getElem? (i := 1452) (by decide +kernel), List.mem_of_getElem? (i := 1453) (by decide +kernel)⟩
theorem lw_p67 : lw_okq (⟨"SunriseRoofModel", "lays", "(I)V"⟩, 48) := ⟨⟨by decide +kernel, by decide +kernel⟩, List.mem_of_getElem? (i := 1115) (by decide +kernel), List.mem_of_getElem? (i := 1456) (by decide +kernel), List.mem_of_getElem? (i := 1457) (by decide +kernel)⟩
theorem lw_p68 : lw_okq (⟨"SunriseRoofModel", "worksBy", "(II)I"⟩, 48) := ⟨⟨by decide +kernel, by decide +kernel⟩, List.mem_of_getElem? (i := 1115) (by decide +kernel), List.mem_of_getElem? (i := 1472) (by decide +kernel), List.mem_of_getElem? (i := 1473) (by decide +kernel)⟩
theorem lw_p69 : lw_okq (⟨"SunriseRoofModel", "hasCraft", "(II)Z"⟩, 48) := ⟨⟨by decide +kernel, by decide +kernel⟩, List.mem_of_getElem? (i := 1115) (by decide +kernel), List.mem_of_getElem? (i := 1476) (by decide +kernel), List.mem_of_getElem? (i := 1477) (by decide +kernel)⟩
theorem lw_p70 : lw_okq (⟨"SunriseRoofModel", "tells", "(IIIII)I"⟩, 48) := ⟨⟨by decide +kernel, by decide +kernel⟩, List.mem_of_getElem? (i := 1115) (by decide +kernel), List.mem_of_getElem? (i := 1480) (by decide +kernel), List.mem_of_getElem? (i := 1481) (by decide +kernel)⟩
theorem lw_p71 : lw_okq (⟨"SunriseRoofModel", "others", "(II)I"⟩, 48) := ⟨⟨by decide +kernel, by decide +kernel⟩, List.mem_of_getElem? (i := 1115) (by decide +kernel), List.mem_of_getElem? (i := 1484) (by decide +kernel), List.mem_of_getElem? (i := 1485) (by decide +kernel)⟩
theorem lw_p72 : lw_okq (⟨"SunriseRoofModel", "codeAt", "(I)I"⟩, 48) := ⟨⟨by decide +kernel, by decide +kernel⟩, List.mem_of_getElem? (i := 1115) (by decide +kernel), List.mem_of_getElem? (i := 1488) (by decide +kernel), List.mem_of_getElem? (i := 1489) (by decide +kernel)⟩
theorem lw_p73 : lw_okq (⟨"SunriseRoofModel", "sumOf", "(Z)J"⟩, 48) := ⟨⟨by decide +kernel, by decide +kernel⟩, List.mem_of_getElem? (i := 1115) (by decide +kernel), List.mem_of_getElem? (i := 1492) (by decide +kernel), List.mem_of_getElem? (i := 1493) (by decide +kernel)⟩
theorem lw_p74 : lw_okq (⟨"SunriseRoofModel", "termOf", "(Z)J"⟩, 48) := ⟨⟨by decide +kernel, by decide +kernel⟩, List.mem_of_getElem? (i := 1115) (by decide +kernel), List.mem_of_getElem? (i := 1496) (by decide +kernel), List.mem_of_getElem? (i := 1497) (by decide +kernel)⟩
theorem lw_p75 : lw_okq (⟨"SunriseRoofModel", "partOf", "(Z)J"⟩, 48) := ⟨⟨by decide +kernel, by decide +kernel⟩, List.mem_of_getElem? (i := 1115) (by decide +kernel), List.mem_of_getElem? (i := 1500) (by decide +kernel), List.mem_of_getElem? (i := 1501) (by decide +kernel)⟩
theorem lw_p76 : lw_okq (⟨"SunriseRoofModel", "passes0", "(I)Z"⟩, 48) := ⟨⟨by decide +kernel, by decide +kernel⟩, List.mem_of_getElem? (i := 1115) (by decide +kernel), List.mem_of_getElem? (i := 1504) (by decide +kernel), List.mem_of_getElem? (i := 1505) (by decide +kernel)⟩
theorem lw_p77 : lw_okq (⟨"SunriseRoofModel", "orderValue", "(II)I"⟩, 48) := ⟨⟨by decide +kernel, by decide +kernel⟩, List.mem_of_getElem? (i := 1115) (by decide +kernel), List.mem_of_getElem? (i := 1508) (by decide +kernel), List.mem_of_getElem? (i := 1509) (by decide +kernel)⟩
theorem lw_p78 : lw_okq (⟨"SunriseRoofModel", "bounded", "(JZ)J"⟩, 48) := ⟨⟨by decide +kernel, by decide +kernel⟩, List.mem_of_getElem? (i := 1115) (by decide +kernel), List.mem_of_getElem? (i := 1515) (by decide +kernel), List.mem_of_getElem? (i := 1516) (by decide +kernel)⟩
theorem lw_p79 : lw_okq (⟨"SunriseRoofModel", "testOf", "(Z)Z"⟩, 48) := ⟨⟨by decide +kernel, by decide +kernel⟩, List.mem_of_getElem? (i := 1115) (by decide +kernel), List.mem_of_getElem? (i := 1521) (by decide +kernel), List.mem_of_getElem? (i := 1522) (by decide +kernel)⟩
def lw_privs_5 : List (MethodName × Nat) := [(⟨"SunriseRoofModel", "readBoth", "(I)V"⟩, 48), (⟨"SunriseRoofModel", "readPlain", "(I)V"⟩, 48), (⟨"SunriseRoofModel", "readClause", "()V"⟩, 48), (⟨"SunriseRoofModel", "lays", "(I)V"⟩, 48), (⟨"SunriseRoofModel", "worksBy", "(II)I"⟩, 48), (⟨"SunriseRoofModel", "hasCraft", "(II)Z"⟩, 48), (⟨"SunriseRoofModel", "tells", "(IIIII)I"⟩, 48), (⟨"SunriseRoofModel", "others", "(II)I"⟩, 48), (⟨"SunriseRoofModel", "codeAt", "(I)I"⟩, 48), (⟨"SunriseRoofModel", "sumOf", "(Z)J"⟩, 48), (⟨"SunriseRoofModel", "termOf", "(Z)J"⟩, 48), (⟨"SunriseRoofModel", "partOf", "(Z)J"⟩, 48), (⟨"SunriseRoofModel", "passes0", "(I)Z"⟩, 48), (⟨"SunriseRoofModel", "orderValue", "(II)I"⟩, 48), (⟨"SunriseRoofModel", "bounded", "(JZ)J"⟩, 48), (⟨"SunriseRoofModel", "testOf", "(Z)Z"⟩, 48)]
theorem lw_r5 : ∀ q ∈ lw_privs_5, lw_okq q := List.forall_mem_cons.mpr ⟨lw_p64, List.forall_mem_cons.mpr ⟨lw_p65, List.forall_mem_cons.mpr ⟨lw_p66, List.forall_mem_cons.mpr ⟨lw_p67, List.forall_mem_cons.mpr ⟨lw_p68, List.forall_mem_cons.mpr ⟨lw_p69, List.forall_mem_cons.mpr ⟨lw_p70, List.forall_mem_cons.mpr ⟨lw_p71, List.forall_mem_cons.mpr ⟨lw_p72, List.forall_mem_cons.mpr ⟨lw_p73, List.forall_mem_cons.mpr ⟨lw_p74, List.forall_mem_cons.mpr ⟨lw_p75, List.forall_mem_cons.mpr ⟨lw_p76, List.forall_mem_cons.mpr ⟨lw_p77, List.forall_mem_cons.mpr ⟨lw_p78, List.forall_mem_cons.mpr ⟨lw_p79, fun _ h => absurd h List.not_mem_nil⟩⟩⟩⟩⟩⟩⟩⟩⟩⟩⟩⟩⟩⟩⟩⟩
theorem lw_p80 : lw_okq (⟨"SunriseRoofModel", "bothOf", "(Z)Z"⟩, 48) := ⟨⟨by decide +kernel, by decide +kernel⟩, List.mem_of_getElem? (i := 1115) (by decide +kernel), List.mem_of_getElem? (i := 1525) (by decide +kernel), List.mem_of_getElem? (i := 1526) (by decide +kernel)⟩
theorem lw_p81 : lw_okq (⟨"SunriseRoofModel", "plainOf", "(Z)Z"⟩, 48) := ⟨⟨by decide +kernel, by decide +kernel⟩, List.mem_of_getElem? (i := 1115) (by decide +kernel), List.mem_of_getElem? (i := 1529) (by decide +kernel), List.mem_of_getElem? (i := 1530) (by decide +kernel)⟩
theorem lw_p82 : lw_okq (⟨"SunriseRoofModel", "positiveOf", "(Z)Z"⟩, 48) := ⟨⟨by decide +kernel, by decide +kernel⟩, List.mem_of_getElem? (i := 1115) (by decide +kernel), List.mem_of_getElem? (i := 1533) (by decide +kernel), List.mem_of_getElem? (i := 1534) (by decide +kernel)⟩
theorem lw_p83 : lw_okq (⟨"SunriseRoofModel", "tiresBy", "(II)I"⟩, 48) := ⟨⟨by decide +kernel, by decide +kernel⟩, List.mem_of_getElem? (i := 1115) (by decide +kernel), List.mem_of_getElem? (i := 1537) (by decide +kernel), List.mem_of_getElem? (i := 1538) (by decide +kernel)⟩
theorem lw_p84 : lw_okq (⟨"SunriseRoofModel", "showsIn", "(II)I"⟩, 48) := ⟨⟨by decide +kernel, by decide +kernel⟩, List.mem_of_getElem? (i := 1115) (by decide +kernel), List.mem_of_getElem? (i := 1541) (by decide +kernel), List.mem_of_getElem? (i := 1542) (by decide +kernel)⟩
theorem lw_p85 : lw_okq (⟨"SunriseRoofModel", "isBarred", "(II)Z"⟩, 48) := ⟨⟨by decide +kernel, by decide +kernel⟩, List.mem_of_getElem? (i := 1115) (by decide +kernel), List.mem_of_getElem? (i := 1545) (by decide +kernel), List.mem_of_getElem? (i := 1546) (by decide +kernel)⟩
theorem lw_p86 : lw_okq (⟨"SunriseRoofModel", "sendsKept", "(II)I"⟩, 48) := ⟨⟨by decide +kernel, by decide +kernel⟩, List.mem_of_getElem? (i := 1115) (by decide +kernel), List.mem_of_getElem? (i := 1561) (by decide +kernel), List.mem_of_getElem? (i := 1562) (by decide +kernel)⟩
theorem lw_p87 : lw_okq (⟨"SunriseRoofModel", "keeps", "(I)V"⟩, 48) := ⟨⟨by decide +kernel, by decide +kernel⟩, List.mem_of_getElem? (i := 1115) (by decide +kernel), List.mem_of_getElem? (i := 1565) (by decide +kernel), List.mem_of_getElem? (i := 1566) (by decide +kernel)⟩
theorem lw_p88 : lw_okq (⟨"SunriseRoofModel", "goodOr", "(I)I"⟩, 48) := ⟨⟨by decide +kernel, by decide +kernel⟩, List.mem_of_getElem? (i := 1115) (by decide +kernel), List.mem_of_getElem? (i := 1569) (by decide +kernel), List.mem_of_getElem? (i := 1570) (by decide +kernel)⟩
theorem lw_p89 : lw_okq (⟨"SunriseRoofModel", "restsKept", "(I)I"⟩, 48) := ⟨⟨by decide +kernel, by decide +kernel⟩, List.mem_of_getElem? (i := 1115) (by decide +kernel), List.mem_of_getElem? (i := 1577) (by decide +kernel), List.mem_of_getElem? (i := 1578) (by decide +kernel)⟩
theorem lw_p90 : lw_okq (⟨"SunriseRoofModel", "throwsKept", "(I)I"⟩, 48) := ⟨⟨by decide +kernel, by decide +kernel⟩, List.mem_of_getElem? (i := 1115) (by decide +kernel), List.mem_of_getElem? (i := 1585) (by decide +kernel), List.mem_of_getElem? (i := 1586) (by decide +kernel)⟩
theorem lw_p91 : lw_okq (⟨"SunriseRoofModel", "canThrow", "(I)Z"⟩, 48) := ⟨⟨by decide +kernel, by decide +kernel⟩, List.mem_of_getElem? (i := 1115) (by decide +kernel), List.mem_of_getElem? (i := 1589) (by decide +kernel), List.mem_of_getElem? (i := 1590) (by decide +kernel)⟩
theorem lw_p92 : lw_okq (⟨"SunriseRoofModel", "isTouched", "(I)Z"⟩, 48) := ⟨⟨by decide +kernel, by decide +kernel⟩, List.mem_of_getElem? (i := 1115) (by decide +kernel), List.mem_of_getElem? (i := 1593) (by decide +kernel), List.mem_of_getElem? (i := 1594) (by decide +kernel)⟩
theorem lw_p93 : lw_okq (⟨"SunriseRoofModel", "ticksKept", "()I"⟩, 48) := ⟨⟨by decide +kernel, by decide +kernel⟩, List.mem_of_getElem? (i := 1115) (by decide +kernel), List.mem_of_getElem? (i := 1601) (by decide +kernel), List.mem_of_getElem? (i := 1602) (by decide +kernel)⟩
theorem lw_p94 : lw_okq (⟨"SunriseRoofModel", "allBuilders", "()I"⟩, 48) := ⟨⟨by decide +kernel, by decide +kernel⟩, List.mem_of_getElem? (i := 1115) (by decide +kernel), List.mem_of_getElem? (i := 1605) (by decide +kernel), List.mem_of_getElem? (i := 1606) (by decide +kernel)⟩
theorem lw_p95 : lw_okq (⟨"SunriseRoofModel", "ticks", "(I)I"⟩, 48) := ⟨⟨by decide +kernel, by decide +kernel⟩, List.mem_of_getElem? (i := 1115) (by decide +kernel), List.mem_of_getElem? (i := 1609) (by decide +kernel), List.mem_of_getElem? (i := 1610) (by decide +kernel)⟩
def lw_privs_6 : List (MethodName × Nat) := [(⟨"SunriseRoofModel", "bothOf", "(Z)Z"⟩, 48), (⟨"SunriseRoofModel", "plainOf", "(Z)Z"⟩, 48), (⟨"SunriseRoofModel", "positiveOf", "(Z)Z"⟩, 48), (⟨"SunriseRoofModel", "tiresBy", "(II)I"⟩, 48), (⟨"SunriseRoofModel", "showsIn", "(II)I"⟩, 48), (⟨"SunriseRoofModel", "isBarred", "(II)Z"⟩, 48), (⟨"SunriseRoofModel", "sendsKept", "(II)I"⟩, 48), (⟨"SunriseRoofModel", "keeps", "(I)V"⟩, 48), (⟨"SunriseRoofModel", "goodOr", "(I)I"⟩, 48), (⟨"SunriseRoofModel", "restsKept", "(I)I"⟩, 48), (⟨"SunriseRoofModel", "throwsKept", "(I)I"⟩, 48), (⟨"SunriseRoofModel", "canThrow", "(I)Z"⟩, 48), (⟨"SunriseRoofModel", "isTouched", "(I)Z"⟩, 48), (⟨"SunriseRoofModel", "ticksKept", "()I"⟩, 48), (⟨"SunriseRoofModel", "allBuilders", "()I"⟩, 48), (⟨"SunriseRoofModel", "ticks", "(I)I"⟩, 48)]
theorem lw_r6 : ∀ q ∈ lw_privs_6, lw_okq q := List.forall_mem_cons.mpr ⟨lw_p80, List.forall_mem_cons.mpr ⟨lw_p81, List.forall_mem_cons.mpr ⟨lw_p82, List.forall_mem_cons.mpr ⟨lw_p83, List.forall_mem_cons.mpr ⟨lw_p84, List.forall_mem_cons.mpr ⟨lw_p85, List.forall_mem_cons.mpr ⟨lw_p86, List.forall_mem_cons.mpr ⟨lw_p87, List.forall_mem_cons.mpr ⟨lw_p88, List.forall_mem_cons.mpr ⟨lw_p89, List.forall_mem_cons.mpr ⟨lw_p90, List.forall_mem_cons.mpr ⟨lw_p91, List.forall_mem_cons.mpr ⟨lw_p92, List.forall_mem_cons.mpr ⟨lw_p93, List.forall_mem_cons.mpr ⟨lw_p94, List.forall_mem_cons.mpr ⟨lw_p95, fun _ h => absurd h List.not_mem_nil⟩⟩⟩⟩⟩⟩⟩⟩⟩⟩⟩⟩⟩⟩⟩⟩
theorem lw_p96 : lw_okq (⟨"SunriseRoofModel", "laysOrders", "()V"⟩, 48) := ⟨⟨by decide +kernel, by decide +kernel⟩, List.mem_of_getElem? (i := 1115) (by decide +kernel), List.mem_of_getElem? (i := 1624) (by decide +kernel), List.mem_of_getElem? (i := 1625) (by decide +kernel)⟩
theorem lw_p97 : lw_okq (⟨"SunriseRoofModel", "allParts", "()I"⟩, 48) := ⟨⟨by decide +kernel, by decide +kernel⟩, List.mem_of_getElem? (i := 1115) (by decide +kernel), List.mem_of_getElem? (i := 1628) (by decide +kernel), List.mem_of_getElem? (i := 1629) (by decide +kernel)⟩
theorem lw_p98 : lw_okq (⟨"SunriseRoofModel", "canFollow", "(II)Z"⟩, 48) := ⟨⟨by decide +kernel, by decide +kernel⟩, List.mem_of_getElem? (i := 1115) (by decide +kernel), List.mem_of_getElem? (i := 1632) (by decide +kernel), List.mem_of_getElem? (i := 1633) (by decide +kernel)⟩
theorem lw_p99 : lw_okq (⟨"SunriseRoofModel", "planned", "(III)I"⟩, 48) := ⟨⟨by decide +kernel, by decide +kernel⟩, List.mem_of_getElem? (i := 1115) (by decide +kernel), List.mem_of_getElem? (i := 1640) (by decide +kernel), List.mem_of_getElem? (i := 1641) (by decide +kernel)⟩
theorem lw_p100 : lw_okq (⟨"SunriseRoofModel", "begins", "()V"⟩, 48) := ⟨⟨by decide +kernel, by decide +kernel⟩, List.mem_of_getElem? (i := 1115) (by decide +kernel), List.mem_of_getElem? (i := 1644) (by decide +kernel), List.mem_of_getElem? (i := 1645) (by decide +kernel)⟩
theorem lw_p101 : lw_okq (⟨"SunriseRoofModel", "laysAside", "(I)V"⟩, 48) := ⟨⟨by decide +kernel, by decide +kernel⟩, List.mem_of_getElem? (i := 1115) (by decide +kernel), List.mem_of_getElem? (i := 1648) (by decide +kernel), List.mem_of_getElem? (i := 1649) (by decide +kernel)⟩
theorem lw_p102 : lw_okq (⟨"SunriseRoofModel", "areStanding", "(I)Z"⟩, 48) := ⟨⟨by decide +kernel, by decide +kernel⟩, List.mem_of_getElem? (i := 1115) (by decide +kernel), List.mem_of_getElem? (i := 1652) (by decide +kernel), List.mem_of_getElem? (i := 1653) (by decide +kernel)⟩
theorem lw_p103 : lw_okq (⟨"SunriseRoofModel", "sendsAll", "(I)V"⟩, 48) := ⟨⟨by decide +kernel, by decide +kernel⟩, List.mem_of_getElem? (i := 1115) (by decide +kernel), List.mem_of_getElem? (i := 1656) (by decide +kernel), List.mem_of_getElem? (i := 1657) (by decide +kernel)⟩
theorem lw_p104 : lw_okq (⟨"SunriseRoofModel", "bestPart", "(I)I"⟩, 48) := ⟨⟨by decide +kernel, by decide +kernel⟩, List.mem_of_getElem? (i := 1115) (by decide +kernel), List.mem_of_getElem? (i := 1660) (by decide +kernel), List.mem_of_getElem? (i := 1661) (by decide +kernel)⟩
theorem lw_p105 : lw_okq (⟨"SunriseRoofModel", "takesBack", "(I)V"⟩, 48) := ⟨⟨by decide +kernel, by decide +kernel⟩, List.mem_of_getElem? (i := 1115) (by decide +kernel), List.mem_of_getElem? (i := 1664) (by decide +kernel), List.mem_of_getElem? (i := 1665) (by decide +kernel)⟩
theorem lw_p106 : lw_okq (⟨"SunriseRoofModel", "taughtIn", "(II)I"⟩, 48) := ⟨⟨by decide +kernel, by decide +kernel⟩, List.mem_of_getElem? (i := 1115) (by decide +kernel), List.mem_of_getElem? (i := 1677) (by decide +kernel), List.mem_of_getElem? (i := 1678) (by decide +kernel)⟩
theorem lw_p107 : lw_okq (⟨"SunriseRoofModel", "canBeWhose", "(I)Z"⟩, 48) := ⟨⟨by decide +kernel, by decide +kernel⟩, List.mem_of_getElem? (i := 1115) (by decide +kernel), List.mem_of_getElem? (i := 1700) (by decide +kernel), List.mem_of_getElem? (i := 1701) (by decide +kernel)⟩
theorem lw_p108 : lw_okq (⟨"SunriseRoofModel", "lastSight", "()I"⟩, 48) := ⟨⟨by decide +kernel, by decide +kernel⟩, List.mem_of_getElem? (i := 1115) (by decide +kernel), List.mem_of_getElem? (i := 1704) (by decide +kernel), List.mem_of_getElem? (i := 1705) (by decide +kernel)⟩
theorem lw_p109 : lw_okq (⟨"SunriseRoofModel", "areSo", "(I)Z"⟩, 48) := ⟨⟨by decide +kernel, by decide +kernel⟩, List.mem_of_getElem? (i := 1115) (by decide +kernel), List.mem_of_getElem? (i := 1708) (by decide +kernel), List.mem_of_getElem? (i := 1709) (by decide +kernel)⟩
theorem lw_p110 : lw_okq (⟨"SunriseRoofModel", "goesOn", "(I)V"⟩, 48) := ⟨⟨by decide +kernel, by decide +kernel⟩, List.mem_of_getElem? (i := 1115) (by decide +kernel), List.mem_of_getElem? (i := 1712) (by decide +kernel), List.mem_of_getElem? (i := 1713) (by decide +kernel)⟩
theorem lw_p111 : lw_okq (⟨"SunriseRoofModel", "shows", "(I)V"⟩, 48) := ⟨⟨by decide +kernel, by decide +kernel⟩, List.mem_of_getElem? (i := 1115) (by decide +kernel), List.mem_of_getElem? (i := 1720) (by decide +kernel), List.mem_of_getElem? (i := 1721) (by decide +kernel)⟩
def lw_privs_7 : List (MethodName × Nat) := [(⟨"SunriseRoofModel", "laysOrders", "()V"⟩, 48), (⟨"SunriseRoofModel", "allParts", "()I"⟩, 48), (⟨"SunriseRoofModel", "canFollow", "(II)Z"⟩, 48), (⟨"SunriseRoofModel", "planned", "(III)I"⟩, 48), (⟨"SunriseRoofModel", "begins", "()V"⟩, 48), (⟨"SunriseRoofModel", "laysAside", "(I)V"⟩, 48), (⟨"SunriseRoofModel", "areStanding", "(I)Z"⟩, 48), (⟨"SunriseRoofModel", "sendsAll", "(I)V"⟩, 48), (⟨"SunriseRoofModel", "bestPart", "(I)I"⟩, 48), (⟨"SunriseRoofModel", "takesBack", "(I)V"⟩, 48), (⟨"SunriseRoofModel", "taughtIn", "(II)I"⟩, 48), (⟨"SunriseRoofModel", "canBeWhose", "(I)Z"⟩, 48), (⟨"SunriseRoofModel", "lastSight", "()I"⟩, 48), (⟨"SunriseRoofModel", "areSo", "(I)Z"⟩, 48), (⟨"SunriseRoofModel", "goesOn", "(I)V"⟩, 48), (⟨"SunriseRoofModel", "shows", "(I)V"⟩, 48)]
theorem lw_r7 : ∀ q ∈ lw_privs_7, lw_okq q := List.forall_mem_cons.mpr ⟨lw_p96, List.forall_mem_cons.mpr ⟨lw_p97, List.forall_mem_cons.mpr ⟨lw_p98, List.forall_mem_cons.mpr ⟨lw_p99, List.forall_mem_cons.mpr ⟨lw_p100, List.forall_mem_cons.mpr ⟨lw_p101, List.forall_mem_cons.mpr ⟨lw_p102, List.forall_mem_cons.mpr ⟨lw_p103, List.forall_mem_cons.mpr ⟨lw_p104, List.forall_mem_cons.mpr ⟨lw_p105, List.forall_mem_cons.mpr ⟨lw_p106, List.forall_mem_cons.mpr ⟨lw_p107, List.forall_mem_cons.mpr ⟨lw_p108, List.forall_mem_cons.mpr ⟨lw_p109, List.forall_mem_cons.mpr ⟨lw_p110, List.forall_mem_cons.mpr ⟨lw_p111, fun _ h => absurd h List.not_mem_nil⟩⟩⟩⟩⟩⟩⟩⟩⟩⟩⟩⟩⟩⟩⟩⟩
theorem lw_p112 : lw_okq (⟨"SunriseRoofModel", "runs", "(I)Z"⟩, 48) := ⟨⟨by decide +kernel, by decide +kernel⟩, List.mem_of_getElem? (i := 1115) (by decide +kernel), List.mem_of_getElem? (i := 1732) (by decide +kernel), List.mem_of_getElem? (i := 1733) (by decide +kernel)⟩
theorem lw_p113 : lw_okq (⟨"SunriseRoofModel", "goesAlong", "(IZ)V"⟩, 48) := ⟨⟨by decide +kernel, by decide +kernel⟩, List.mem_of_getElem? (i := 1115) (by decide +kernel), List.mem_of_getElem? (i := 1736) (by decide +kernel), List.mem_of_getElem? (i := 1737) (by decide +kernel)⟩
theorem lw_p114 : lw_okq (⟨"SunriseRoofModel", "obeys", "()I"⟩, 48) := ⟨⟨by decide +kernel, by decide +kernel⟩, List.mem_of_getElem? (i := 1115) (by decide +kernel), List.mem_of_getElem? (i := 1740) (by decide +kernel), List.mem_of_getElem? (i := 1741) (by decide +kernel)⟩
theorem lw_p115 : lw_okq (⟨"SunriseRoofModel", "draws", "(I)I"⟩, 48) := ⟨⟨by decide +kernel, by decide +kernel⟩, List.mem_of_getElem? (i := 1115) (by decide +kernel), List.mem_of_getElem? (i := 1752) (by decide +kernel), List.mem_of_getElem? (i := 1753) (by decide +kernel)⟩
def lw_privs_8 : List (MethodName × Nat) := [(⟨"SunriseRoofModel", "runs", "(I)Z"⟩, 48), (⟨"SunriseRoofModel", "goesAlong", "(IZ)V"⟩, 48), (⟨"SunriseRoofModel", "obeys", "()I"⟩, 48), (⟨"SunriseRoofModel", "draws", "(I)I"⟩, 48)]
theorem lw_r8 : ∀ q ∈ lw_privs_8, lw_okq q := List.forall_mem_cons.mpr ⟨lw_p112, List.forall_mem_cons.mpr ⟨lw_p113, List.forall_mem_cons.mpr ⟨lw_p114, List.forall_mem_cons.mpr ⟨lw_p115, fun _ h => absurd h List.not_mem_nil⟩⟩⟩⟩
def lw_privs : List (MethodName × Nat) := lw_privs_1 ++ (lw_privs_2 ++ (lw_privs_3 ++ (lw_privs_4 ++ (lw_privs_5 ++ (lw_privs_6 ++ (lw_privs_7 ++ (lw_privs_8)))))))
def lw_tbl : List Cond := k2_sels lw_privs ++ tables_1
theorem lw_privs_ok : ∀ q ∈ lw_privs, lw_okq q := by
  show ∀ q ∈ lw_privs_1 ++ (lw_privs_2 ++ (lw_privs_3 ++ (lw_privs_4 ++ (lw_privs_5 ++ (lw_privs_6 ++ (lw_privs_7 ++ (lw_privs_8))))))), lw_okq q
  exact List.forall_mem_append.mpr ⟨lw_r1, List.forall_mem_append.mpr ⟨lw_r2, List.forall_mem_append.mpr ⟨lw_r3, List.forall_mem_append.mpr ⟨lw_r4, List.forall_mem_append.mpr ⟨lw_r5, List.forall_mem_append.mpr ⟨lw_r6, List.forall_mem_append.mpr ⟨lw_r7, lw_r8⟩⟩⟩⟩⟩⟩⟩
end
section

def RX0 : String := "SunriseRoof$Deeds"
def TX0 : u_T := fun k => match k with
  | 0 => ("SunriseRoof$Deeds", "site", "LSunriseRoof$Site;", true)
  | _ => ("SunriseRoof$Deeds", "past", "LSunriseRoof$Past;", true)
def tyX0 : Nat → FieldType := fun k => match k with
  | 0 => .object "SunriseRoof$Site"
  | _ => .object "SunriseRoof$Past"
theorem nmX0 : ∀ a, a < 2 → ∀ b, b < 2 → a ≠ b → (TX0 a).2.1 ≠ (TX0 b).2.1 := by decide +kernel
theorem tyX0_ok : ∀ k, k < 2 → parseFieldDescriptor (TX0 k).2.2.1 = some (tyX0 k) := by decide +kernel
abbrev cX0_init : ByteArray := prog_2_method_1_code
def yX0_init : MethodName := ⟨RX0, "<init>", "(LSunriseRoof$Site;LSunriseRoof$Past;)V"⟩
abbrev cX0_sendBuilder : ByteArray := prog_2_method_2_code
def yX0_sendBuilder : MethodName := ⟨RX0, "sendBuilder", "(II)I"⟩
abbrev cX0_restBuilder : ByteArray := prog_2_method_3_code
def yX0_restBuilder : MethodName := ⟨RX0, "restBuilder", "(I)I"⟩
abbrev cX0_razePart : ByteArray := prog_2_method_4_code
def yX0_razePart : MethodName := ⟨RX0, "razePart", "(I)I"⟩
abbrev cX0_passTick : ByteArray := prog_2_method_5_code
def yX0_passTick : MethodName := ⟨RX0, "passTick", "()I"⟩
abbrev cX0_isBuiltOn : ByteArray := prog_2_method_6_code
def yX0_isBuiltOn : MethodName := ⟨RX0, "isBuiltOn", "(I)Z"⟩
abbrev cX0_hasAnybody : ByteArray := prog_2_method_7_code
def yX0_hasAnybody : MethodName := ⟨RX0, "hasAnybody", "(I)Z"⟩
def RX1 : String := "SunriseRoof$Draws"
def TX1 : u_T := fun k => match k with
  | 0 => ("SunriseRoof$Draws", "planner", "LSunriseRoof$Planner;", true)
  | 1 => ("SunriseRoof$Draws", "parts", "I", false)
  | 2 => ("SunriseRoof$Draws", "builders", "I", false)
  | 3 => ("SunriseRoof$Draws", "left", "[I", true)
  | _ => ("SunriseRoof$Draws", "tired", "[I", true)
def tyX1 : Nat → FieldType := fun k => match k with
  | 0 => .object "SunriseRoof$Planner"
  | 1 => .int
  | 2 => .int
  | 3 => .array .int
  | _ => .array .int
theorem nmX1 : ∀ a, a < 5 → ∀ b, b < 5 → a ≠ b → (TX1 a).2.1 ≠ (TX1 b).2.1 := by decide +kernel
theorem tyX1_ok : ∀ k, k < 5 → parseFieldDescriptor (TX1 k).2.2.1 = some (tyX1 k) := by decide +kernel
abbrev cX1_init : ByteArray := prog_3_method_1_code
def yX1_init : MethodName := ⟨RX1, "<init>", "(LSunriseRoof$Planner;)V"⟩
abbrev cX1_drawNights : ByteArray := prog_3_method_2_code
def yX1_drawNights : MethodName := ⟨RX1, "drawNights", "(II)I"⟩
abbrev cX1_endOf : ByteArray := prog_3_method_3_code
def yX1_endOf : MethodName := ⟨RX1, "endOf", "(II)I"⟩
def RX2 : String := "SunriseRoof$Past"
def TX2 : u_T := fun k => match k with
  | 0 => ("SunriseRoof$Past", "kept", "I", false)
  | 1 => ("SunriseRoof$Past", "next", "I", false)
  | _ => ("SunriseRoof$Past", "rows", "[I", true)
def tyX2 : Nat → FieldType := fun k => match k with
  | 0 => .int
  | 1 => .int
  | _ => .array .int
theorem nmX2 : ∀ a, a < 3 → ∀ b, b < 3 → a ≠ b → (TX2 a).2.1 ≠ (TX2 b).2.1 := by decide +kernel
theorem tyX2_ok : ∀ k, k < 3 → parseFieldDescriptor (TX2 k).2.2.1 = some (tyX2 k) := by decide +kernel
abbrev cX2_init : ByteArray := prog_4_method_1_code
def yX2_init : MethodName := ⟨RX2, "<init>", "()V"⟩
abbrev cX2_clear : ByteArray := prog_4_method_2_code
def yX2_clear : MethodName := ⟨RX2, "clear", "()V"⟩
abbrev cX2_copyFrom : ByteArray := prog_4_method_3_code
def yX2_copyFrom : MethodName := ⟨RX2, "copyFrom", "(LSunriseRoof$Past;)V"⟩
abbrev cX2_keep : ByteArray := prog_4_method_4_code
def yX2_keep : MethodName := ⟨RX2, "keep", "(ILSunriseRoof$Site;)V"⟩
abbrev cX2_restoreLatest : ByteArray := prog_4_method_5_code
def yX2_restoreLatest : MethodName := ⟨RX2, "restoreLatest", "(LSunriseRoof$Site;)I"⟩
def RX3 : String := "SunriseRoof$Planner"
def TX3 : u_T := fun k => match k with
  | 0 => ("SunriseRoof$Planner", "paper", "LSunriseRoof$Site;", true)
  | 1 => ("SunriseRoof$Planner", "now", "LSunriseRoof$Site;", true)
  | 2 => ("SunriseRoof$Planner", "pupil", "I", false)
  | _ => ("SunriseRoof$Planner", "lesson", "I", false)
def tyX3 : Nat → FieldType := fun k => match k with
  | 0 => .object "SunriseRoof$Site"
  | 1 => .object "SunriseRoof$Site"
  | 2 => .int
  | _ => .int
theorem nmX3 : ∀ a, a < 4 → ∀ b, b < 4 → a ≠ b → (TX3 a).2.1 ≠ (TX3 b).2.1 := by decide +kernel
theorem tyX3_ok : ∀ k, k < 4 → parseFieldDescriptor (TX3 k).2.2.1 = some (tyX3 k) := by decide +kernel
abbrev cX3_init : ByteArray := prog_5_method_1_code
def yX3_init : MethodName := ⟨RX3, "<init>", "(LSunriseRoof$Site;)V"⟩
abbrev cX3_teach : ByteArray := prog_5_method_2_code
def yX3_teach : MethodName := ⟨RX3, "teach", "(II)V"⟩
abbrev cX3_begin : ByteArray := prog_5_method_3_code
def yX3_begin : MethodName := ⟨RX3, "begin", "()V"⟩
abbrev cX3_run : ByteArray := prog_5_method_4_code
def yX3_run : MethodName := ⟨RX3, "run", "(II[II)I"⟩
abbrev cX3_isStuck : ByteArray := prog_5_method_5_code
def yX3_isStuck : MethodName := ⟨RX3, "isStuck", "()Z"⟩
abbrev cX3_canTick : ByteArray := prog_5_method_6_code
def yX3_canTick : MethodName := ⟨RX3, "canTick", "()Z"⟩
abbrev cX3_allStand : ByteArray := prog_5_method_7_code
def yX3_allStand : MethodName := ⟨RX3, "allStand", "()Z"⟩
abbrev cX3_noteStanding : ByteArray := prog_5_method_8_code
def yX3_noteStanding : MethodName := ⟨RX3, "noteStanding", "(I[II)Z"⟩
abbrev cX3_sendFree : ByteArray := prog_5_method_9_code
def yX3_sendFree : MethodName := ⟨RX3, "sendFree", "(I)V"⟩
abbrev cX3_chanceUnseen : ByteArray := prog_5_method_10_code
def yX3_chanceUnseen : MethodName := ⟨RX3, "chanceUnseen", "(I)J"⟩
def RX4 : String := "SunriseRoof$Reader"
def TX4 : u_T := fun k => match k with
  | 0 => ("SunriseRoof$Reader", "draft", "LSunriseRoof$Text;", true)
  | 1 => ("SunriseRoof$Reader", "tokens", "[I", true)
  | 2 => ("SunriseRoof$Reader", "places", "[I", true)
  | 3 => ("SunriseRoof$Reader", "size", "I", false)
  | 4 => ("SunriseRoof$Reader", "spot", "I", false)
  | 5 => ("SunriseRoof$Reader", "operands", "I", false)
  | _ => ("SunriseRoof$Reader", "ordersMeant", "Z", false)
def tyX4 : Nat → FieldType := fun k => match k with
  | 0 => .object "SunriseRoof$Text"
  | 1 => .array .int
  | 2 => .array .int
  | 3 => .int
  | 4 => .int
  | 5 => .int
  | _ => .boolean
theorem nmX4 : ∀ a, a < 7 → ∀ b, b < 7 → a ≠ b → (TX4 a).2.1 ≠ (TX4 b).2.1 := by decide +kernel
theorem tyX4_ok : ∀ k, k < 7 → parseFieldDescriptor (TX4 k).2.2.1 = some (tyX4 k) := by decide +kernel
abbrev cX4_init : ByteArray := prog_6_method_1_code
def yX4_init : MethodName := ⟨RX4, "<init>", "()V"⟩
abbrev cX4_read : ByteArray := prog_6_method_2_code
def yX4_read : MethodName := ⟨RX4, "read", "([BIZ)I"⟩
abbrev cX4_inHand : ByteArray := prog_6_method_3_code
def yX4_inHand : MethodName := ⟨RX4, "inHand", "()I"⟩
abbrev cX4_placeInHand : ByteArray := prog_6_method_4_code
def yX4_placeInHand : MethodName := ⟨RX4, "placeInHand", "()I"⟩
abbrev cX4_split : ByteArray := prog_6_method_5_code
def yX4_split : MethodName := ⟨RX4, "split", "([BI)V"⟩
abbrev cX4_addToken : ByteArray := prog_6_method_6_code
def yX4_addToken : MethodName := ⟨RX4, "addToken", "(II)V"⟩
abbrev cX4_isLetter : ByteArray := prog_6_method_7_code
def yX4_isLetter : MethodName := ⟨RX4, "isLetter", "(B)Z"⟩
abbrev cX4_isDigit : ByteArray := prog_6_method_8_code
def yX4_isDigit : MethodName := ⟨RX4, "isDigit", "(B)Z"⟩
abbrev cX4_numberToken : ByteArray := prog_6_method_9_code
def yX4_numberToken : MethodName := ⟨RX4, "numberToken", "([BII)I"⟩
abbrev cX4_wordToken : ByteArray := prog_6_method_10_code
def yX4_wordToken : MethodName := ⟨RX4, "wordToken", "([BII)I"⟩
abbrev cX4_readRule : ByteArray := prog_6_method_11_code
def yX4_readRule : MethodName := ⟨RX4, "readRule", "()Z"⟩
abbrev cX4_readOrder : ByteArray := prog_6_method_12_code
def yX4_readOrder : MethodName := ⟨RX4, "readOrder", "()Z"⟩
abbrev cX4_readTimes : ByteArray := prog_6_method_13_code
def yX4_readTimes : MethodName := ⟨RX4, "readTimes", "()Z"⟩
abbrev cX4_readTest : ByteArray := prog_6_method_14_code
def yX4_readTest : MethodName := ⟨RX4, "readTest", "(I)Z"⟩
abbrev cX4_readPlain : ByteArray := prog_6_method_15_code
def yX4_readPlain : MethodName := ⟨RX4, "readPlain", "(I)Z"⟩
abbrev cX4_readSum : ByteArray := prog_6_method_16_code
def yX4_readSum : MethodName := ⟨RX4, "readSum", "(I)Z"⟩
abbrev cX4_emitIfAny : ByteArray := prog_6_method_17_code
def yX4_emitIfAny : MethodName := ⟨RX4, "emitIfAny", "(I)V"⟩
abbrev cX4_readOperand : ByteArray := prog_6_method_18_code
def yX4_readOperand : MethodName := ⟨RX4, "readOperand", "(I)Z"⟩
abbrev cX4_takeLawWord : ByteArray := prog_6_method_19_code
def yX4_takeLawWord : MethodName := ⟨RX4, "takeLawWord", "(I)I"⟩
abbrev cX4_takeOrderWord : ByteArray := prog_6_method_20_code
def yX4_takeOrderWord : MethodName := ⟨RX4, "takeOrderWord", "(I)I"⟩
def RX5 : String := "SunriseRoof$Runner"
def TX5 : u_T := fun k => match k with
  | 0 => ("SunriseRoof$Runner", "site", "LSunriseRoof$Site;", true)
  | 1 => ("SunriseRoof$Runner", "past", "LSunriseRoof$Past;", true)
  | 2 => ("SunriseRoof$Runner", "deeds", "LSunriseRoof$Deeds;", true)
  | 3 => ("SunriseRoof$Runner", "siteAhead", "LSunriseRoof$Site;", true)
  | 4 => ("SunriseRoof$Runner", "pastAhead", "LSunriseRoof$Past;", true)
  | 5 => ("SunriseRoof$Runner", "words", "[J", true)
  | 6 => ("SunriseRoof$Runner", "done", "I", false)
  | _ => ("SunriseRoof$Runner", "stood", "I", false)
def tyX5 : Nat → FieldType := fun k => match k with
  | 0 => .object "SunriseRoof$Site"
  | 1 => .object "SunriseRoof$Past"
  | 2 => .object "SunriseRoof$Deeds"
  | 3 => .object "SunriseRoof$Site"
  | 4 => .object "SunriseRoof$Past"
  | 5 => .array .long
  | 6 => .int
  | _ => .int
theorem nmX5 : ∀ a, a < 8 → ∀ b, b < 8 → a ≠ b → (TX5 a).2.1 ≠ (TX5 b).2.1 := by decide +kernel
theorem tyX5_ok : ∀ k, k < 8 → parseFieldDescriptor (TX5 k).2.2.1 = some (tyX5 k) := by decide +kernel
abbrev cX5_init : ByteArray := prog_7_method_1_code
def yX5_init : MethodName := ⟨RX5, "<init>", "(LSunriseRoof$Site;LSunriseRoof$Past;LSunriseRoof$Deeds;)V"⟩
abbrev cX5_runAll : ByteArray := prog_7_method_2_code
def yX5_runAll : MethodName := ⟨RX5, "runAll", "(LSunriseRoof$Text;)I"⟩
abbrev cX5_runOnce : ByteArray := prog_7_method_3_code
def yX5_runOnce : MethodName := ⟨RX5, "runOnce", "(LSunriseRoof$Text;I)Z"⟩
abbrev cX5_writeWords : ByteArray := prog_7_method_4_code
def yX5_writeWords : MethodName := ⟨RX5, "writeWords", "()V"⟩
def RX6 : String := "SunriseRoof$Sequences"
def TX6 : u_T := fun k => match k with
  | 0 => ("SunriseRoof$Sequences", "site", "LSunriseRoof$Site;", true)
  | 1 => ("SunriseRoof$Sequences", "ways", "[I", true)
  | _ => ("SunriseRoof$Sequences", "known", "Z", false)
def tyX6 : Nat → FieldType := fun k => match k with
  | 0 => .object "SunriseRoof$Site"
  | 1 => .array .int
  | _ => .boolean
theorem nmX6 : ∀ a, a < 3 → ∀ b, b < 3 → a ≠ b → (TX6 a).2.1 ≠ (TX6 b).2.1 := by decide +kernel
theorem tyX6_ok : ∀ k, k < 3 → parseFieldDescriptor (TX6 k).2.2.1 = some (tyX6 k) := by decide +kernel
abbrev cX6_init : ByteArray := prog_8_method_1_code
def yX6_init : MethodName := ⟨RX6, "<init>", "(LSunriseRoof$Site;)V"⟩
abbrev cX6_clear : ByteArray := prog_8_method_2_code
def yX6_clear : MethodName := ⟨RX6, "clear", "()V"⟩
abbrev cX6_total : ByteArray := prog_8_method_3_code
def yX6_total : MethodName := ⟨RX6, "total", "()I"⟩
abbrev cX6_partAt : ByteArray := prog_8_method_4_code
def yX6_partAt : MethodName := ⟨RX6, "partAt", "(II)I"⟩
abbrev cX6_reckonWays : ByteArray := prog_8_method_5_code
def yX6_reckonWays : MethodName := ⟨RX6, "reckonWays", "()V"⟩
abbrev cX6_waysWith : ByteArray := prog_8_method_6_code
def yX6_waysWith : MethodName := ⟨RX6, "waysWith", "(II)I"⟩
def RX7 : String := "SunriseRoof$Site"
def TX7 : u_T := fun k => match k with
  | 0 => ("SunriseRoof$Site", "parts", "I", false)
  | 1 => ("SunriseRoof$Site", "work", "[I", true)
  | 2 => ("SunriseRoof$Site", "needs", "[I", true)
  | 3 => ("SunriseRoof$Site", "craft", "[I", true)
  | 4 => ("SunriseRoof$Site", "heavy", "[I", true)
  | 5 => ("SunriseRoof$Site", "left", "[I", true)
  | 6 => ("SunriseRoof$Site", "builders", "I", false)
  | 7 => ("SunriseRoof$Site", "crafts", "[I", true)
  | 8 => ("SunriseRoof$Site", "pace", "[I", true)
  | 9 => ("SunriseRoof$Site", "tired", "[I", true)
  | 10 => ("SunriseRoof$Site", "place", "[I", true)
  | 11 => ("SunriseRoof$Site", "term", "[I", true)
  | 12 => ("SunriseRoof$Site", "sights", "I", false)
  | 13 => ("SunriseRoof$Site", "sightTick", "[I", true)
  | 14 => ("SunriseRoof$Site", "sightPart", "[I", true)
  | 15 => ("SunriseRoof$Site", "sightStood", "[I", true)
  | 16 => ("SunriseRoof$Site", "laws", "[LSunriseRoof$Text;", true)
  | 17 => ("SunriseRoof$Site", "lawCount", "I", false)
  | 18 => ("SunriseRoof$Site", "inForce", "I", false)
  | _ => ("SunriseRoof$Site", "slate", "LSunriseRoof$Slate;", true)
def tyX7 : Nat → FieldType := fun k => match k with
  | 0 => .int
  | 1 => .array .int
  | 2 => .array .int
  | 3 => .array .int
  | 4 => .array .int
  | 5 => .array .int
  | 6 => .int
  | 7 => .array .int
  | 8 => .array .int
  | 9 => .array .int
  | 10 => .array .int
  | 11 => .array .int
  | 12 => .int
  | 13 => .array .int
  | 14 => .array .int
  | 15 => .array .int
  | 16 => .array (.object "SunriseRoof$Text")
  | 17 => .int
  | 18 => .int
  | _ => .object "SunriseRoof$Slate"
theorem nmX7 : ∀ a, a < 20 → ∀ b, b < 20 → a ≠ b → (TX7 a).2.1 ≠ (TX7 b).2.1 := by decide +kernel
theorem tyX7_ok : ∀ k, k < 20 → parseFieldDescriptor (TX7 k).2.2.1 = some (tyX7 k) := by decide +kernel
abbrev cX7_init : ByteArray := prog_9_method_1_code
def yX7_init : MethodName := ⟨RX7, "<init>", "()V"⟩
abbrev cX7_copyFrom : ByteArray := prog_9_method_2_code
def yX7_copyFrom : MethodName := ⟨RX7, "copyFrom", "(LSunriseRoof$Site;)V"⟩
abbrev cX7_hasPart : ByteArray := prog_9_method_3_code
def yX7_hasPart : MethodName := ⟨RX7, "hasPart", "(I)Z"⟩
abbrev cX7_hasBuilder : ByteArray := prog_9_method_4_code
def yX7_hasBuilder : MethodName := ⟨RX7, "hasBuilder", "(I)Z"⟩
abbrev cX7_addPart : ByteArray := prog_9_method_5_code
def yX7_addPart : MethodName := ⟨RX7, "addPart", "(IIII)I"⟩
abbrev cX7_addBuilder : ByteArray := prog_9_method_6_code
def yX7_addBuilder : MethodName := ⟨RX7, "addBuilder", "(II)I"⟩
abbrev cX7_upMask : ByteArray := prog_9_method_7_code
def yX7_upMask : MethodName := ⟨RX7, "upMask", "()I"⟩
abbrev cX7_readyMask : ByteArray := prog_9_method_8_code
def yX7_readyMask : MethodName := ⟨RX7, "readyMask", "()I"⟩
abbrev cX7_reckonChains : ByteArray := prog_9_method_9_code
def yX7_reckonChains : MethodName := ⟨RX7, "reckonChains", "()I"⟩
abbrev cX7_asked : ByteArray := prog_9_method_10_code
def yX7_asked : MethodName := ⟨RX7, "asked", "(III)I"⟩
abbrev cX7_withoutLaw : ByteArray := prog_9_method_11_code
def yX7_withoutLaw : MethodName := ⟨RX7, "withoutLaw", "(III)I"⟩
abbrev cX7_hasCraft : ByteArray := prog_9_method_12_code
def yX7_hasCraft : MethodName := ⟨RX7, "hasCraft", "(II)Z"⟩
abbrev cX7_writeWords : ByteArray := prog_9_method_13_code
def yX7_writeWords : MethodName := ⟨RX7, "writeWords", "(II)V"⟩
abbrev cX7_workOneTick : ByteArray := prog_9_method_14_code
def yX7_workOneTick : MethodName := ⟨RX7, "workOneTick", "()I"⟩
def RX8 : String := "SunriseRoof$Slate"
def TX8 : u_T := fun k => match k with
  | 0 => ("SunriseRoof$Slate", "words", "[J", true)
  | 1 => ("SunriseRoof$Slate", "stack", "[J", true)
  | 2 => ("SunriseRoof$Slate", "works", "[I", true)
  | 3 => ("SunriseRoof$Slate", "tires", "[I", true)
  | _ => ("SunriseRoof$Slate", "chain", "[I", true)
def tyX8 : Nat → FieldType := fun k => match k with
  | 0 => .array .long
  | 1 => .array .long
  | 2 => .array .int
  | 3 => .array .int
  | _ => .array .int
theorem nmX8 : ∀ a, a < 5 → ∀ b, b < 5 → a ≠ b → (TX8 a).2.1 ≠ (TX8 b).2.1 := by decide +kernel
theorem tyX8_ok : ∀ k, k < 5 → parseFieldDescriptor (TX8 k).2.2.1 = some (tyX8 k) := by decide +kernel
abbrev cX8_init : ByteArray := prog_10_method_1_code
def yX8_init : MethodName := ⟨RX8, "<init>", "()V"⟩
def RX9 : String := "SunriseRoof$Study"
def TX9 : u_T := fun k => match k with
  | 0 => ("SunriseRoof$Study", "site", "LSunriseRoof$Site;", true)
  | 1 => ("SunriseRoof$Study", "planner", "LSunriseRoof$Planner;", true)
  | 2 => ("SunriseRoof$Study", "planRow", "[I", true)
  | 3 => ("SunriseRoof$Study", "lessonRow", "[I", true)
  | 4 => ("SunriseRoof$Study", "setRows", "[I", true)
  | 5 => ("SunriseRoof$Study", "horizon", "I", false)
  | 6 => ("SunriseRoof$Study", "lessonKnown", "Z", false)
  | 7 => ("SunriseRoof$Study", "lesson", "[I", true)
  | 8 => ("SunriseRoof$Study", "fits", "[Z", true)
  | _ => ("SunriseRoof$Study", "tally", "[I", true)
def tyX9 : Nat → FieldType := fun k => match k with
  | 0 => .object "SunriseRoof$Site"
  | 1 => .object "SunriseRoof$Planner"
  | 2 => .array .int
  | 3 => .array .int
  | 4 => .array .int
  | 5 => .int
  | 6 => .boolean
  | 7 => .array .int
  | 8 => .array .boolean
  | _ => .array .int
theorem nmX9 : ∀ a, a < 10 → ∀ b, b < 10 → a ≠ b → (TX9 a).2.1 ≠ (TX9 b).2.1 := by decide +kernel
theorem tyX9_ok : ∀ k, k < 10 → parseFieldDescriptor (TX9 k).2.2.1 = some (tyX9 k) := by decide +kernel
abbrev cX9_init : ByteArray := prog_11_method_1_code
def yX9_init : MethodName := ⟨RX9, "<init>", "(LSunriseRoof$Site;LSunriseRoof$Planner;)V"⟩
abbrev cX9_clear : ByteArray := prog_11_method_2_code
def yX9_clear : MethodName := ⟨RX9, "clear", "()V"⟩
abbrev cX9_planTicks : ByteArray := prog_11_method_3_code
def yX9_planTicks : MethodName := ⟨RX9, "planTicks", "()I"⟩
abbrev cX9_planStood : ByteArray := prog_11_method_4_code
def yX9_planStood : MethodName := ⟨RX9, "planStood", "(I)I"⟩
abbrev cX9_bestLesson : ByteArray := prog_11_method_5_code
def yX9_bestLesson : MethodName := ⟨RX9, "bestLesson", "(I)I"⟩
abbrev cX9_ticksWith : ByteArray := prog_11_method_6_code
def yX9_ticksWith : MethodName := ⟨RX9, "ticksWith", "(III)I"⟩
abbrev cX9_openSets : ByteArray := prog_11_method_7_code
def yX9_openSets : MethodName := ⟨RX9, "openSets", "()V"⟩
abbrev cX9_fewestHands : ByteArray := prog_11_method_8_code
def yX9_fewestHands : MethodName := ⟨RX9, "fewestHands", "()I"⟩
abbrev cX9_suspects : ByteArray := prog_11_method_9_code
def yX9_suspects : MethodName := ⟨RX9, "suspects", "(I)I"⟩
abbrev cX9_fitsAll : ByteArray := prog_11_method_10_code
def yX9_fitsAll : MethodName := ⟨RX9, "fitsAll", "(I)Z"⟩
abbrev cX9_stoodBehind : ByteArray := prog_11_method_11_code
def yX9_stoodBehind : MethodName := ⟨RX9, "stoodBehind", "(III)Z"⟩
abbrev cX9_nextLook : ByteArray := prog_11_method_12_code
def yX9_nextLook : MethodName := ⟨RX9, "nextLook", "(I)I"⟩
abbrev cX9_mostAlike : ByteArray := prog_11_method_13_code
def yX9_mostAlike : MethodName := ⟨RX9, "mostAlike", "(I)I"⟩
def RX10 : String := "SunriseRoof$Text"
def TX10 : u_T := fun k => match k with
  | 0 => ("SunriseRoof$Text", "clauses", "I", false)
  | 1 => ("SunriseRoof$Text", "kinds", "[I", true)
  | 2 => ("SunriseRoof$Text", "times", "[I", true)
  | 3 => ("SunriseRoof$Text", "marks", "[I", true)
  | 4 => ("SunriseRoof$Text", "code", "[I", true)
  | _ => ("SunriseRoof$Text", "size", "I", false)
def tyX10 : Nat → FieldType := fun k => match k with
  | 0 => .int
  | 1 => .array .int
  | 2 => .array .int
  | 3 => .array .int
  | 4 => .array .int
  | _ => .int
theorem nmX10 : ∀ a, a < 6 → ∀ b, b < 6 → a ≠ b → (TX10 a).2.1 ≠ (TX10 b).2.1 := by decide +kernel
theorem tyX10_ok : ∀ k, k < 6 → parseFieldDescriptor (TX10 k).2.2.1 = some (tyX10 k) := by decide +kernel
abbrev cX10_init : ByteArray := prog_12_method_1_code
def yX10_init : MethodName := ⟨RX10, "<init>", "(I)V"⟩
abbrev cX10_copy : ByteArray := prog_12_method_2_code
def yX10_copy : MethodName := ⟨RX10, "copy", "()LSunriseRoof$Text;"⟩
abbrev cX10_clear : ByteArray := prog_12_method_3_code
def yX10_clear : MethodName := ⟨RX10, "clear", "()V"⟩
abbrev cX10_open : ByteArray := prog_12_method_4_code
def yX10_open : MethodName := ⟨RX10, "open", "(I)Z"⟩
abbrev cX10_repeat : ByteArray := prog_12_method_5_code
def yX10_repeat : MethodName := ⟨RX10, "repeat", "(I)V"⟩
abbrev cX10_close : ByteArray := prog_12_method_6_code
def yX10_close : MethodName := ⟨RX10, "close", "(I)V"⟩
abbrev cX10_emit : ByteArray := prog_12_method_7_code
def yX10_emit : MethodName := ⟨RX10, "emit", "(II)I"⟩
abbrev cX10_land : ByteArray := prog_12_method_8_code
def yX10_land : MethodName := ⟨RX10, "land", "(I)V"⟩
abbrev cX10_reckon : ByteArray := prog_12_method_9_code
def yX10_reckon : MethodName := ⟨RX10, "reckon", "(II[J[J)J"⟩
abbrev cX10_joined : ByteArray := prog_12_method_10_code
def yX10_joined : MethodName := ⟨RX10, "joined", "(IJJ)J"⟩
def RX11 : String := "SunriseRoof"
def TX11 : u_T := fun k => match k with
  | 0 => ("SunriseRoof", "now", "LSunriseRoof$Site;", true)
  | 1 => ("SunriseRoof", "past", "LSunriseRoof$Past;", true)
  | 2 => ("SunriseRoof", "deeds", "LSunriseRoof$Deeds;", true)
  | 3 => ("SunriseRoof", "runner", "LSunriseRoof$Runner;", true)
  | 4 => ("SunriseRoof", "reader", "LSunriseRoof$Reader;", true)
  | 5 => ("SunriseRoof", "planner", "LSunriseRoof$Planner;", true)
  | 6 => ("SunriseRoof", "study", "LSunriseRoof$Study;", true)
  | 7 => ("SunriseRoof", "sequences", "LSunriseRoof$Sequences;", true)
  | 8 => ("SunriseRoof", "draws", "LSunriseRoof$Draws;", true)
  | 9 => ("SunriseRoof", "images", "[LSunriseRoof$Site;", true)
  | 10 => ("SunriseRoof", "tape", "[B", true)
  | 11 => ("SunriseRoof", "refusals", "[I", true)
  | 12 => ("SunriseRoof", "tapeSize", "I", false)
  | 13 => ("SunriseRoof", "faultPlace", "I", false)
  | 14 => ("SunriseRoof", "chaffCount", "I", false)
  | 15 => ("SunriseRoof", "stoppedClause", "I", false)
  | _ => ("SunriseRoof", "latestStatus", "I", false)
def tyX11 : Nat → FieldType := fun k => match k with
  | 0 => .object "SunriseRoof$Site"
  | 1 => .object "SunriseRoof$Past"
  | 2 => .object "SunriseRoof$Deeds"
  | 3 => .object "SunriseRoof$Runner"
  | 4 => .object "SunriseRoof$Reader"
  | 5 => .object "SunriseRoof$Planner"
  | 6 => .object "SunriseRoof$Study"
  | 7 => .object "SunriseRoof$Sequences"
  | 8 => .object "SunriseRoof$Draws"
  | 9 => .array (.object "SunriseRoof$Site")
  | 10 => .array .byte
  | 11 => .array .int
  | 12 => .int
  | 13 => .int
  | 14 => .int
  | 15 => .int
  | _ => .int
theorem nmX11 : ∀ a, a < 17 → ∀ b, b < 17 → a ≠ b → (TX11 a).2.1 ≠ (TX11 b).2.1 := by decide +kernel
theorem tyX11_ok : ∀ k, k < 17 → parseFieldDescriptor (TX11 k).2.2.1 = some (tyX11 k) := by decide +kernel
abbrev cX11_init : ByteArray := prog_1_method_1_code
def yX11_init : MethodName := ⟨RX11, "<init>", "()V"⟩
abbrev cX11_part : ByteArray := prog_1_method_2_code
def yX11_part : MethodName := ⟨RX11, "part", "(IIII)I"⟩
abbrev cX11_of : ByteArray := prog_1_method_3_code
def yX11_of : MethodName := ⟨RX11, "of", "(II)I"⟩
abbrev cX11_builder : ByteArray := prog_1_method_4_code
def yX11_builder : MethodName := ⟨RX11, "builder", "(II)I"⟩
abbrev cX11_at : ByteArray := prog_1_method_5_code
def yX11_at : MethodName := ⟨RX11, "at", "(II)I"⟩
abbrev cX11_asks : ByteArray := prog_1_method_6_code
def yX11_asks : MethodName := ⟨RX11, "asks", "(III)I"⟩
abbrev cX11_terms : ByteArray := prog_1_method_7_code
def yX11_terms : MethodName := ⟨RX11, "terms", "(II)I"⟩
abbrev cX11_feed : ByteArray := prog_1_method_8_code
def yX11_feed : MethodName := ⟨RX11, "feed", "(IIIII)I"⟩
abbrev cX11_end : ByteArray := prog_1_method_9_code
def yX11_end : MethodName := ⟨RX11, "end", "(I)I"⟩
abbrev cX11_row : ByteArray := prog_1_method_10_code
def yX11_row : MethodName := ⟨RX11, "row", "()I"⟩
abbrev cX11_chaff : ByteArray := prog_1_method_11_code
def yX11_chaff : MethodName := ⟨RX11, "chaff", "()I"⟩
abbrev cX11_law : ByteArray := prog_1_method_12_code
def yX11_law : MethodName := ⟨RX11, "law", "()I"⟩
abbrev cX11_orders : ByteArray := prog_1_method_13_code
def yX11_orders : MethodName := ⟨RX11, "orders", "()I"⟩
abbrev cX11_fault : ByteArray := prog_1_method_14_code
def yX11_fault : MethodName := ⟨RX11, "fault", "()I"⟩
abbrev cX11_stopped : ByteArray := prog_1_method_15_code
def yX11_stopped : MethodName := ⟨RX11, "stopped", "()I"⟩
abbrev cX11_force : ByteArray := prog_1_method_16_code
def yX11_force : MethodName := ⟨RX11, "force", "(I)I"⟩
abbrev cX11_stands : ByteArray := prog_1_method_17_code
def yX11_stands : MethodName := ⟨RX11, "stands", "(I)I"⟩
abbrev cX11_send : ByteArray := prog_1_method_18_code
def yX11_send : MethodName := ⟨RX11, "send", "(II)I"⟩
abbrev cX11_rest : ByteArray := prog_1_method_19_code
def yX11_rest : MethodName := ⟨RX11, "rest", "(I)I"⟩
abbrev cX11_throwDown : ByteArray := prog_1_method_20_code
def yX11_throwDown : MethodName := ⟨RX11, "throwDown", "(I)I"⟩
abbrev cX11_tick : ByteArray := prog_1_method_21_code
def yX11_tick : MethodName := ⟨RX11, "tick", "()I"⟩
abbrev cX11_undo : ByteArray := prog_1_method_22_code
def yX11_undo : MethodName := ⟨RX11, "undo", "()I"⟩
abbrev cX11_longest : ByteArray := prog_1_method_23_code
def yX11_longest : MethodName := ⟨RX11, "longest", "()I"⟩
abbrev cX11_rows : ByteArray := prog_1_method_24_code
def yX11_rows : MethodName := ⟨RX11, "rows", "(II)I"⟩
abbrev cX11_plan : ByteArray := prog_1_method_25_code
def yX11_plan : MethodName := ⟨RX11, "plan", "(I)I"⟩
abbrev cX11_hands : ByteArray := prog_1_method_26_code
def yX11_hands : MethodName := ⟨RX11, "hands", "(I)I"⟩
abbrev cX11_taught : ByteArray := prog_1_method_27_code
def yX11_taught : MethodName := ⟨RX11, "taught", "(I)I"⟩
abbrev cX11_unseen : ByteArray := prog_1_method_28_code
def yX11_unseen : MethodName := ⟨RX11, "unseen", "(I)J"⟩
abbrev cX11_sight : ByteArray := prog_1_method_29_code
def yX11_sight : MethodName := ⟨RX11, "sight", "(III)I"⟩
abbrev cX11_forget : ByteArray := prog_1_method_30_code
def yX11_forget : MethodName := ⟨RX11, "forget", "()I"⟩
abbrev cX11_whose : ByteArray := prog_1_method_31_code
def yX11_whose : MethodName := ⟨RX11, "whose", "(I)I"⟩
abbrev cX11_look : ByteArray := prog_1_method_32_code
def yX11_look : MethodName := ⟨RX11, "look", "(I)I"⟩
abbrev cX11_nights : ByteArray := prog_1_method_33_code
def yX11_nights : MethodName := ⟨RX11, "nights", "(II)I"⟩
abbrev cX11_drawn : ByteArray := prog_1_method_34_code
def yX11_drawn : MethodName := ⟨RX11, "drawn", "(II)I"⟩
abbrev cX11_image : ByteArray := prog_1_method_35_code
def yX11_image : MethodName := ⟨RX11, "image", "(I)I"⟩
abbrev cX11_back : ByteArray := prog_1_method_36_code
def yX11_back : MethodName := ⟨RX11, "back", "(I)I"⟩
abbrev cX11_count : ByteArray := prog_1_method_37_code
def yX11_count : MethodName := ⟨RX11, "count", "(I)I"⟩
abbrev cX11_status : ByteArray := prog_1_method_38_code
def yX11_status : MethodName := ⟨RX11, "status", "()I"⟩
abbrev cX11_refuse : ByteArray := prog_1_method_39_code
def yX11_refuse : MethodName := ⟨RX11, "refuse", "(I)I"⟩
abbrev cX11_agree : ByteArray := prog_1_method_40_code
def yX11_agree : MethodName := ⟨RX11, "agree", "(I)I"⟩
abbrev cX11_agreeChanged : ByteArray := prog_1_method_41_code
def yX11_agreeChanged : MethodName := ⟨RX11, "agreeChanged", "(I)I"⟩
abbrev cX11_settle : ByteArray := prog_1_method_42_code
def yX11_settle : MethodName := ⟨RX11, "settle", "(I)I"⟩
abbrev cX11_emptyTape : ByteArray := prog_1_method_43_code
def yX11_emptyTape : MethodName := ⟨RX11, "emptyTape", "()I"⟩
abbrev cX11_writeNumber : ByteArray := prog_1_method_44_code
def yX11_writeNumber : MethodName := ⟨RX11, "writeNumber", "(II)V"⟩
abbrev cX11_addWrittenPart : ByteArray := prog_1_method_45_code
def yX11_addWrittenPart : MethodName := ⟨RX11, "addWrittenPart", "(I)Z"⟩
def RX12 : String := "SunriseRoofModel"
def TX12 : u_T := fun k => match k with
  | 0 => ("SunriseRoofModel", "status", "I", false)
  | 1 => ("SunriseRoofModel", "refused", "[I", true)
  | 2 => ("SunriseRoofModel", "kept", "[I", true)
  | 3 => ("SunriseRoofModel", "images", "[I", true)
  | 4 => ("SunriseRoofModel", "hasImage", "[Z", true)
  | 5 => ("SunriseRoofModel", "aside", "[I", true)
  | 6 => ("SunriseRoofModel", "chaff0", "I", false)
  | 7 => ("SunriseRoofModel", "words", "[B", true)
  | 8 => ("SunriseRoofModel", "firstWord", "I", false)
  | 9 => ("SunriseRoofModel", "lastWord", "I", false)
  | 10 => ("SunriseRoofModel", "isOrders", "Z", false)
  | 11 => ("SunriseRoofModel", "tape", "[B", true)
  | 12 => ("SunriseRoofModel", "five", "[I", true)
  | 13 => ("SunriseRoofModel", "taped", "I", false)
  | 14 => ("SunriseRoofModel", "fault", "I", false)
  | 15 => ("SunriseRoofModel", "code", "[I", true)
  | 16 => ("SunriseRoofModel", "value", "[I", true)
  | 17 => ("SunriseRoofModel", "placed", "[I", true)
  | 18 => ("SunriseRoofModel", "tokens", "I", false)
  | 19 => ("SunriseRoofModel", "token", "I", false)
  | 20 => ("SunriseRoofModel", "leaves", "I", false)
  | 21 => ("SunriseRoofModel", "bad", "I", false)
  | 22 => ("SunriseRoofModel", "go", "I", false)
  | 23 => ("SunriseRoofModel", "goEnd", "I", false)
  | 24 => ("SunriseRoofModel", "broken", "Z", false)
  | 25 => ("SunriseRoofModel", "inOrders", "Z", false)
  | 26 => ("SunriseRoofModel", "asked", "[I", true)
  | 27 => ("SunriseRoofModel", "orderDone", "I", false)
  | 28 => ("SunriseRoofModel", "orderStood", "I", false)
  | 29 => ("SunriseRoofModel", "done0", "[I", true)
  | 30 => ("SunriseRoofModel", "tire0", "[I", true)
  | 31 => ("SunriseRoofModel", "left0", "[I", true)
  | 32 => ("SunriseRoofModel", "leftAhead", "[I", true)
  | 33 => ("SunriseRoofModel", "undoMany", "I", false)
  | 34 => ("SunriseRoofModel", "chain", "[I", true)
  | 35 => ("SunriseRoofModel", "orderMany", "[I", true)
  | 36 => ("SunriseRoofModel", "shown", "[I", true)
  | 37 => ("SunriseRoofModel", "stopped0", "I", false)
  | 38 => ("SunriseRoofModel", "orderAt", "I", false)
  | 39 => ("SunriseRoofModel", "timesOf", "I", false)
  | 40 => ("SunriseRoofModel", "head", "I", false)
  | 41 => ("SunriseRoofModel", "sumsAre", "Z", false)
  | 42 => ("SunriseRoofModel", "testIs", "Z", false)
  | 43 => ("SunriseRoofModel", "sums", "[J", true)
  | 44 => ("SunriseRoofModel", "drawnMoved", "[I", true)
  | 45 => ("SunriseRoofModel", "drawnParts", "I", false)
  | 46 => ("SunriseRoofModel", "drawnBuilders", "I", false)
  | _ => ("SunriseRoofModel", "latest", "I", false)
def tyX12 : Nat → FieldType := fun k => match k with
  | 0 => .int
  | 1 => .array .int
  | 2 => .array .int
  | 3 => .array .int
  | 4 => .array .boolean
  | 5 => .array .int
  | 6 => .int
  | 7 => .array .byte
  | 8 => .int
  | 9 => .int
  | 10 => .boolean
  | 11 => .array .byte
  | 12 => .array .int
  | 13 => .int
  | 14 => .int
  | 15 => .array .int
  | 16 => .array .int
  | 17 => .array .int
  | 18 => .int
  | 19 => .int
  | 20 => .int
  | 21 => .int
  | 22 => .int
  | 23 => .int
  | 24 => .boolean
  | 25 => .boolean
  | 26 => .array .int
  | 27 => .int
  | 28 => .int
  | 29 => .array .int
  | 30 => .array .int
  | 31 => .array .int
  | 32 => .array .int
  | 33 => .int
  | 34 => .array .int
  | 35 => .array .int
  | 36 => .array .int
  | 37 => .int
  | 38 => .int
  | 39 => .int
  | 40 => .int
  | 41 => .boolean
  | 42 => .boolean
  | 43 => .array .long
  | 44 => .array .int
  | 45 => .int
  | 46 => .int
  | _ => .int
theorem nmX12 : ∀ a, a < 48 → ∀ b, b < 48 → a ≠ b → (TX12 a).2.1 ≠ (TX12 b).2.1 := by decide +kernel
theorem tyX12_ok : ∀ k, k < 48 → parseFieldDescriptor (TX12 k).2.2.1 = some (tyX12 k) := by decide +kernel
abbrev cX12_lies : ByteArray := prog_14_method_1_code
def yX12_lies : MethodName := ⟨RX12, "lies", "(III)Z"⟩
abbrev cX12_refuses : ByteArray := prog_14_method_2_code
def yX12_refuses : MethodName := ⟨RX12, "refuses", "(I)I"⟩
abbrev cX12_good : ByteArray := prog_14_method_3_code
def yX12_good : MethodName := ⟨RX12, "good", "(I)I"⟩
abbrev cX12_settled : ByteArray := prog_14_method_4_code
def yX12_settled : MethodName := ⟨RX12, "settled", "(I)I"⟩
abbrev cX12_isIn : ByteArray := prog_14_method_5_code
def yX12_isIn : MethodName := ⟨RX12, "isIn", "(II)Z"⟩
abbrev cX12_ones : ByteArray := prog_14_method_6_code
def yX12_ones : MethodName := ⟨RX12, "ones", "(I)I"⟩
abbrev cX12_lesser : ByteArray := prog_14_method_7_code
def yX12_lesser : MethodName := ⟨RX12, "lesser", "(II)I"⟩
abbrev cX12_greater : ByteArray := prog_14_method_8_code
def yX12_greater : MethodName := ⟨RX12, "greater", "(II)I"⟩
abbrev cX12_init : ByteArray := prog_14_method_9_code
def yX12_init : MethodName := ⟨RX12, "<init>", "()V"⟩
abbrev cX12_laysAside : ByteArray := prog_14_method_10_code
def yX12_laysAside : MethodName := ⟨RX12, "laysAside", "(I)V"⟩
abbrev cX12_takesBack : ByteArray := prog_14_method_11_code
def yX12_takesBack : MethodName := ⟨RX12, "takesBack", "(I)V"⟩
abbrev cX12_image : ByteArray := prog_14_method_12_code
def yX12_image : MethodName := ⟨RX12, "image", "(I)I"⟩
abbrev cX12_back : ByteArray := prog_14_method_13_code
def yX12_back : MethodName := ⟨RX12, "back", "(I)I"⟩
abbrev cX12_isPart : ByteArray := prog_14_method_14_code
def yX12_isPart : MethodName := ⟨RX12, "isPart", "(I)Z"⟩
abbrev cX12_isBuilder : ByteArray := prog_14_method_15_code
def yX12_isBuilder : MethodName := ⟨RX12, "isBuilder", "(I)Z"⟩
abbrev cX12_canPart : ByteArray := prog_14_method_16_code
def yX12_canPart : MethodName := ⟨RX12, "canPart", "(IIII)Z"⟩
abbrev cX12_addsPart : ByteArray := prog_14_method_17_code
def yX12_addsPart : MethodName := ⟨RX12, "addsPart", "(IIII)V"⟩
abbrev cX12_part : ByteArray := prog_14_method_18_code
def yX12_part : MethodName := ⟨RX12, "part", "(IIII)I"⟩
abbrev cX12_stands0 : ByteArray := prog_14_method_19_code
def yX12_stands0 : MethodName := ⟨RX12, "stands0", "(I)Z"⟩
abbrev cX12_standing : ByteArray := prog_14_method_20_code
def yX12_standing : MethodName := ⟨RX12, "standing", "()I"⟩
abbrev cX12_allParts : ByteArray := prog_14_method_21_code
def yX12_allParts : MethodName := ⟨RX12, "allParts", "()I"⟩
abbrev cX12_isReady : ByteArray := prog_14_method_22_code
def yX12_isReady : MethodName := ⟨RX12, "isReady", "(I)Z"⟩
abbrev cX12_of : ByteArray := prog_14_method_23_code
def yX12_of : MethodName := ⟨RX12, "of", "(II)I"⟩
abbrev cX12_builder : ByteArray := prog_14_method_24_code
def yX12_builder : MethodName := ⟨RX12, "builder", "(II)I"⟩
abbrev cX12_at : ByteArray := prog_14_method_25_code
def yX12_at : MethodName := ⟨RX12, "at", "(II)I"⟩
abbrev cX12_isTerm : ByteArray := prog_14_method_26_code
def yX12_isTerm : MethodName := ⟨RX12, "isTerm", "(II)Z"⟩
abbrev cX12_terms : ByteArray := prog_14_method_27_code
def yX12_terms : MethodName := ⟨RX12, "terms", "(II)I"⟩
abbrev cX12_row : ByteArray := prog_14_method_28_code
def yX12_row : MethodName := ⟨RX12, "row", "()I"⟩
abbrev cX12_chaff : ByteArray := prog_14_method_29_code
def yX12_chaff : MethodName := ⟨RX12, "chaff", "()I"⟩
abbrev cX12_feed : ByteArray := prog_14_method_30_code
def yX12_feed : MethodName := ⟨RX12, "feed", "(IIIII)I"⟩
abbrev cX12_end : ByteArray := prog_14_method_31_code
def yX12_end : MethodName := ⟨RX12, "end", "(I)I"⟩
abbrev cX12_isSmall : ByteArray := prog_14_method_32_code
def yX12_isSmall : MethodName := ⟨RX12, "isSmall", "(I)Z"⟩
abbrev cX12_isDigit : ByteArray := prog_14_method_33_code
def yX12_isDigit : MethodName := ⟨RX12, "isDigit", "(I)Z"⟩
abbrev cX12_wordOf : ByteArray := prog_14_method_34_code
def yX12_wordOf : MethodName := ⟨RX12, "wordOf", "(II)I"⟩
abbrev cX12_splits : ByteArray := prog_14_method_35_code
def yX12_splits : MethodName := ⟨RX12, "splits", "(I)V"⟩
abbrev cX12_fine : ByteArray := prog_14_method_36_code
def yX12_fine : MethodName := ⟨RX12, "fine", "()Z"⟩
abbrev cX12_faults : ByteArray := prog_14_method_37_code
def yX12_faults : MethodName := ⟨RX12, "faults", "()V"⟩
abbrev cX12_takes0 : ByteArray := prog_14_method_38_code
def yX12_takes0 : MethodName := ⟨RX12, "takes0", "(I)Z"⟩
abbrev cX12_must : ByteArray := prog_14_method_39_code
def yX12_must : MethodName := ⟨RX12, "must", "(I)V"⟩
abbrev cX12_leaf : ByteArray := prog_14_method_40_code
def yX12_leaf : MethodName := ⟨RX12, "leaf", "()V"⟩
abbrev cX12_sign : ByteArray := prog_14_method_41_code
def yX12_sign : MethodName := ⟨RX12, "sign", "(C)I"⟩
abbrev cX12_mustNumber : ByteArray := prog_14_method_42_code
def yX12_mustNumber : MethodName := ⟨RX12, "mustNumber", "(II)V"⟩
abbrev cX12_readClause : ByteArray := prog_14_method_43_code
def yX12_readClause : MethodName := ⟨RX12, "readClause", "()V"⟩
abbrev cX12_readOrder : ByteArray := prog_14_method_44_code
def yX12_readOrder : MethodName := ⟨RX12, "readOrder", "()V"⟩
abbrev cX12_readOne : ByteArray := prog_14_method_45_code
def yX12_readOne : MethodName := ⟨RX12, "readOne", "()V"⟩
abbrev cX12_readTest : ByteArray := prog_14_method_46_code
def yX12_readTest : MethodName := ⟨RX12, "readTest", "(I)V"⟩
abbrev cX12_readBoth : ByteArray := prog_14_method_47_code
def yX12_readBoth : MethodName := ⟨RX12, "readBoth", "(I)V"⟩
abbrev cX12_readPlain : ByteArray := prog_14_method_48_code
def yX12_readPlain : MethodName := ⟨RX12, "readPlain", "(I)V"⟩
abbrev cX12_readSum : ByteArray := prog_14_method_49_code
def yX12_readSum : MethodName := ⟨RX12, "readSum", "(I)V"⟩
abbrev cX12_readTerm : ByteArray := prog_14_method_50_code
def yX12_readTerm : MethodName := ⟨RX12, "readTerm", "(I)V"⟩
abbrev cX12_readPart : ByteArray := prog_14_method_51_code
def yX12_readPart : MethodName := ⟨RX12, "readPart", "(I)V"⟩
abbrev cX12_reads : ByteArray := prog_14_method_52_code
def yX12_reads : MethodName := ⟨RX12, "reads", "()Z"⟩
abbrev cX12_readsAs : ByteArray := prog_14_method_53_code
def yX12_readsAs : MethodName := ⟨RX12, "readsAs", "(Z)Z"⟩
abbrev cX12_lays : ByteArray := prog_14_method_54_code
def yX12_lays : MethodName := ⟨RX12, "lays", "(I)V"⟩
abbrev cX12_law : ByteArray := prog_14_method_55_code
def yX12_law : MethodName := ⟨RX12, "law", "()I"⟩
abbrev cX12_fault : ByteArray := prog_14_method_56_code
def yX12_fault : MethodName := ⟨RX12, "fault", "()I"⟩
abbrev cX12_force : ByteArray := prog_14_method_57_code
def yX12_force : MethodName := ⟨RX12, "force", "(I)I"⟩
abbrev cX12_codeAt : ByteArray := prog_14_method_58_code
def yX12_codeAt : MethodName := ⟨RX12, "codeAt", "(I)I"⟩
abbrev cX12_passes0 : ByteArray := prog_14_method_59_code
def yX12_passes0 : MethodName := ⟨RX12, "passes0", "(I)Z"⟩
abbrev cX12_bounded : ByteArray := prog_14_method_60_code
def yX12_bounded : MethodName := ⟨RX12, "bounded", "(JZ)J"⟩
abbrev cX12_sumOf : ByteArray := prog_14_method_61_code
def yX12_sumOf : MethodName := ⟨RX12, "sumOf", "(Z)J"⟩
abbrev cX12_termOf : ByteArray := prog_14_method_62_code
def yX12_termOf : MethodName := ⟨RX12, "termOf", "(Z)J"⟩
abbrev cX12_partOf : ByteArray := prog_14_method_63_code
def yX12_partOf : MethodName := ⟨RX12, "partOf", "(Z)J"⟩
abbrev cX12_orderValue : ByteArray := prog_14_method_64_code
def yX12_orderValue : MethodName := ⟨RX12, "orderValue", "(II)I"⟩
abbrev cX12_testOf : ByteArray := prog_14_method_65_code
def yX12_testOf : MethodName := ⟨RX12, "testOf", "(Z)Z"⟩
abbrev cX12_bothOf : ByteArray := prog_14_method_66_code
def yX12_bothOf : MethodName := ⟨RX12, "bothOf", "(Z)Z"⟩
abbrev cX12_plainOf : ByteArray := prog_14_method_67_code
def yX12_plainOf : MethodName := ⟨RX12, "plainOf", "(Z)Z"⟩
abbrev cX12_positiveOf : ByteArray := prog_14_method_68_code
def yX12_positiveOf : MethodName := ⟨RX12, "positiveOf", "(Z)Z"⟩
abbrev cX12_hasCraft : ByteArray := prog_14_method_69_code
def yX12_hasCraft : MethodName := ⟨RX12, "hasCraft", "(II)Z"⟩
abbrev cX12_others : ByteArray := prog_14_method_70_code
def yX12_others : MethodName := ⟨RX12, "others", "(II)I"⟩
abbrev cX12_tells : ByteArray := prog_14_method_71_code
def yX12_tells : MethodName := ⟨RX12, "tells", "(IIIII)I"⟩
abbrev cX12_worksBy : ByteArray := prog_14_method_72_code
def yX12_worksBy : MethodName := ⟨RX12, "worksBy", "(II)I"⟩
abbrev cX12_tiresBy : ByteArray := prog_14_method_73_code
def yX12_tiresBy : MethodName := ⟨RX12, "tiresBy", "(II)I"⟩
abbrev cX12_showsIn : ByteArray := prog_14_method_74_code
def yX12_showsIn : MethodName := ⟨RX12, "showsIn", "(II)I"⟩
abbrev cX12_isBarred : ByteArray := prog_14_method_75_code
def yX12_isBarred : MethodName := ⟨RX12, "isBarred", "(II)Z"⟩
abbrev cX12_asks : ByteArray := prog_14_method_76_code
def yX12_asks : MethodName := ⟨RX12, "asks", "(III)I"⟩
abbrev cX12_stands : ByteArray := prog_14_method_77_code
def yX12_stands : MethodName := ⟨RX12, "stands", "(I)I"⟩
abbrev cX12_ticks : ByteArray := prog_14_method_78_code
def yX12_ticks : MethodName := ⟨RX12, "ticks", "(I)I"⟩
abbrev cX12_keeps : ByteArray := prog_14_method_79_code
def yX12_keeps : MethodName := ⟨RX12, "keeps", "(I)V"⟩
abbrev cX12_undo : ByteArray := prog_14_method_80_code
def yX12_undo : MethodName := ⟨RX12, "undo", "()I"⟩
abbrev cX12_goodOr : ByteArray := prog_14_method_81_code
def yX12_goodOr : MethodName := ⟨RX12, "goodOr", "(I)I"⟩
abbrev cX12_sendsKept : ByteArray := prog_14_method_82_code
def yX12_sendsKept : MethodName := ⟨RX12, "sendsKept", "(II)I"⟩
abbrev cX12_restsKept : ByteArray := prog_14_method_83_code
def yX12_restsKept : MethodName := ⟨RX12, "restsKept", "(I)I"⟩
abbrev cX12_isTouched : ByteArray := prog_14_method_84_code
def yX12_isTouched : MethodName := ⟨RX12, "isTouched", "(I)Z"⟩
abbrev cX12_canThrow : ByteArray := prog_14_method_85_code
def yX12_canThrow : MethodName := ⟨RX12, "canThrow", "(I)Z"⟩
abbrev cX12_throwsKept : ByteArray := prog_14_method_86_code
def yX12_throwsKept : MethodName := ⟨RX12, "throwsKept", "(I)I"⟩
abbrev cX12_ticksKept : ByteArray := prog_14_method_87_code
def yX12_ticksKept : MethodName := ⟨RX12, "ticksKept", "()I"⟩
abbrev cX12_allBuilders : ByteArray := prog_14_method_88_code
def yX12_allBuilders : MethodName := ⟨RX12, "allBuilders", "()I"⟩
abbrev cX12_send : ByteArray := prog_14_method_89_code
def yX12_send : MethodName := ⟨RX12, "send", "(II)I"⟩
abbrev cX12_rest : ByteArray := prog_14_method_90_code
def yX12_rest : MethodName := ⟨RX12, "rest", "(I)I"⟩
abbrev cX12_throwDown : ByteArray := prog_14_method_91_code
def yX12_throwDown : MethodName := ⟨RX12, "throwDown", "(I)I"⟩
abbrev cX12_tick : ByteArray := prog_14_method_92_code
def yX12_tick : MethodName := ⟨RX12, "tick", "()I"⟩
abbrev cX12_laysChains : ByteArray := prog_14_method_93_code
def yX12_laysChains : MethodName := ⟨RX12, "laysChains", "()V"⟩
abbrev cX12_longest : ByteArray := prog_14_method_94_code
def yX12_longest : MethodName := ⟨RX12, "longest", "()I"⟩
abbrev cX12_canFollow : ByteArray := prog_14_method_95_code
def yX12_canFollow : MethodName := ⟨RX12, "canFollow", "(II)Z"⟩
abbrev cX12_laysOrders : ByteArray := prog_14_method_96_code
def yX12_laysOrders : MethodName := ⟨RX12, "laysOrders", "()V"⟩
abbrev cX12_rows : ByteArray := prog_14_method_97_code
def yX12_rows : MethodName := ⟨RX12, "rows", "(II)I"⟩
abbrev cX12_begins : ByteArray := prog_14_method_98_code
def yX12_begins : MethodName := ⟨RX12, "begins", "()V"⟩
abbrev cX12_bestPart : ByteArray := prog_14_method_99_code
def yX12_bestPart : MethodName := ⟨RX12, "bestPart", "(I)I"⟩
abbrev cX12_sendsAll : ByteArray := prog_14_method_100_code
def yX12_sendsAll : MethodName := ⟨RX12, "sendsAll", "(I)V"⟩
abbrev cX12_areStanding : ByteArray := prog_14_method_101_code
def yX12_areStanding : MethodName := ⟨RX12, "areStanding", "(I)Z"⟩
abbrev cX12_planned : ByteArray := prog_14_method_102_code
def yX12_planned : MethodName := ⟨RX12, "planned", "(III)I"⟩
abbrev cX12_plan : ByteArray := prog_14_method_103_code
def yX12_plan : MethodName := ⟨RX12, "plan", "(I)I"⟩
abbrev cX12_hands : ByteArray := prog_14_method_104_code
def yX12_hands : MethodName := ⟨RX12, "hands", "(I)I"⟩
abbrev cX12_taughtIn : ByteArray := prog_14_method_105_code
def yX12_taughtIn : MethodName := ⟨RX12, "taughtIn", "(II)I"⟩
abbrev cX12_taught : ByteArray := prog_14_method_106_code
def yX12_taught : MethodName := ⟨RX12, "taught", "(I)I"⟩
abbrev cX12_unseen : ByteArray := prog_14_method_107_code
def yX12_unseen : MethodName := ⟨RX12, "unseen", "(I)J"⟩
abbrev cX12_sight : ByteArray := prog_14_method_108_code
def yX12_sight : MethodName := ⟨RX12, "sight", "(III)I"⟩
abbrev cX12_forget : ByteArray := prog_14_method_109_code
def yX12_forget : MethodName := ⟨RX12, "forget", "()I"⟩
abbrev cX12_areSo : ByteArray := prog_14_method_110_code
def yX12_areSo : MethodName := ⟨RX12, "areSo", "(I)Z"⟩
abbrev cX12_lastSight : ByteArray := prog_14_method_111_code
def yX12_lastSight : MethodName := ⟨RX12, "lastSight", "()I"⟩
abbrev cX12_goesOn : ByteArray := prog_14_method_112_code
def yX12_goesOn : MethodName := ⟨RX12, "goesOn", "(I)V"⟩
abbrev cX12_canBeWhose : ByteArray := prog_14_method_113_code
def yX12_canBeWhose : MethodName := ⟨RX12, "canBeWhose", "(I)Z"⟩
abbrev cX12_whose : ByteArray := prog_14_method_114_code
def yX12_whose : MethodName := ⟨RX12, "whose", "(I)I"⟩
abbrev cX12_shows : ByteArray := prog_14_method_115_code
def yX12_shows : MethodName := ⟨RX12, "shows", "(I)V"⟩
abbrev cX12_look : ByteArray := prog_14_method_116_code
def yX12_look : MethodName := ⟨RX12, "look", "(I)I"⟩
abbrev cX12_stopped : ByteArray := prog_14_method_117_code
def yX12_stopped : MethodName := ⟨RX12, "stopped", "()I"⟩
abbrev cX12_orders : ByteArray := prog_14_method_118_code
def yX12_orders : MethodName := ⟨RX12, "orders", "()I"⟩
abbrev cX12_goesAlong : ByteArray := prog_14_method_119_code
def yX12_goesAlong : MethodName := ⟨RX12, "goesAlong", "(IZ)V"⟩
abbrev cX12_small : ByteArray := prog_14_method_120_code
def yX12_small : MethodName := ⟨RX12, "small", "(J)I"⟩
abbrev cX12_obeys : ByteArray := prog_14_method_121_code
def yX12_obeys : MethodName := ⟨RX12, "obeys", "()I"⟩
abbrev cX12_runs : ByteArray := prog_14_method_122_code
def yX12_runs : MethodName := ⟨RX12, "runs", "(I)Z"⟩
abbrev cX12_draws : ByteArray := prog_14_method_123_code
def yX12_draws : MethodName := ⟨RX12, "draws", "(I)I"⟩
abbrev cX12_nights : ByteArray := prog_14_method_124_code
def yX12_nights : MethodName := ⟨RX12, "nights", "(II)I"⟩
abbrev cX12_drawn : ByteArray := prog_14_method_125_code
def yX12_drawn : MethodName := ⟨RX12, "drawn", "(II)I"⟩
abbrev cX12_count : ByteArray := prog_14_method_126_code
def yX12_count : MethodName := ⟨RX12, "count", "(I)I"⟩
abbrev cX12_status : ByteArray := prog_14_method_127_code
def yX12_status : MethodName := ⟨RX12, "status", "()I"⟩
def RJx145de : String := "java/io/Serializable"
def TJx145de : u_T := fun k => match k with
  | _ => ("", "", "", false)
def tyJx145de : Nat → FieldType := fun k => match k with
  | _ => .int
def RJx9f9b0 : String := "java/lang/CharSequence"
def TJx9f9b0 : u_T := fun k => match k with
  | _ => ("", "", "", false)
def tyJx9f9b0 : Nat → FieldType := fun k => match k with
  | _ => .int
def RJx8e188 : String := "java/lang/Cloneable"
def TJx8e188 : u_T := fun k => match k with
  | _ => ("", "", "", false)
def tyJx8e188 : Nat → FieldType := fun k => match k with
  | _ => .int
def RJxb160c : String := "java/lang/Comparable"
def TJxb160c : u_T := fun k => match k with
  | _ => ("", "", "", false)
def tyJxb160c : Nat → FieldType := fun k => match k with
  | _ => .int
def RJ6 : String := "java/lang/Integer"
def TJ6 : u_T := fun k => match k with
  | _ => ("", "", "", false)
def tyJ6 : Nat → FieldType := fun k => match k with
  | _ => .int
abbrev cJ6_bitCount_0f7a4 : ByteArray := prog_16_method_49_code
def yJ6_bitCount_0f7a4 : MethodName := ⟨RJ6, "bitCount", "(I)I"⟩
def RJ9 : String := "java/lang/Math"
def TJ9 : u_T := fun k => match k with
  | _ => ("", "", "", false)
def tyJ9 : Nat → FieldType := fun k => match k with
  | _ => .int
abbrev cJ9_max_7cf53 : ByteArray := prog_17_method_65_code
def yJ9_max_7cf53 : MethodName := ⟨RJ9, "max", "(II)I"⟩
abbrev cJ9_max_f86c9 : ByteArray := prog_17_method_66_code
def yJ9_max_f86c9 : MethodName := ⟨RJ9, "max", "(JJ)J"⟩
abbrev cJ9_min_7cf53 : ByteArray := prog_17_method_69_code
def yJ9_min_7cf53 : MethodName := ⟨RJ9, "min", "(II)I"⟩
abbrev cJ9_min_f86c9 : ByteArray := prog_17_method_70_code
def yJ9_min_f86c9 : MethodName := ⟨RJ9, "min", "(JJ)J"⟩
def RJ0 : String := "java/lang/String"
def TJ0 : u_T := fun k => match k with
  | _ => ("", "", "", false)
def tyJ0 : Nat → FieldType := fun k => match k with
  | _ => .int
abbrev cJ0_length_8abf5 : ByteArray := prog_18_method_54_code
def yJ0_length_8abf5 : MethodName := ⟨RJ0, "length", "()I"⟩
abbrev cJ0_charAt_5068e : ByteArray := prog_18_method_56_code
def yJ0_charAt_5068e : MethodName := ⟨RJ0, "charAt", "(I)C"⟩
abbrev cJ0_coder_7d493 : ByteArray := prog_18_method_152_code
def yJ0_coder_7d493 : MethodName := ⟨RJ0, "coder", "()B"⟩
abbrev cJ0_isLatin1_aae02 : ByteArray := prog_18_method_154_code
def yJ0_isLatin1_aae02 : MethodName := ⟨RJ0, "isLatin1", "()Z"⟩
abbrev cJ0_checkIndex_df160 : ByteArray := prog_18_method_155_code
def yJ0_checkIndex_df160 : MethodName := ⟨RJ0, "checkIndex", "(II)V"⟩
def RJ1 : String := "java/lang/StringLatin1"
def TJ1 : u_T := fun k => match k with
  | _ => ("", "", "", false)
def tyJ1 : Nat → FieldType := fun k => match k with
  | _ => .int
abbrev cJ1_charAt_3b067 : ByteArray := prog_19_method_2_code
def yJ1_charAt_3b067 : MethodName := ⟨RJ1, "charAt", "([BI)C"⟩
def RJ2 : String := "java/lang/StringUTF16"
def TJ2 : u_T := fun k => match k with
  | _ => ("", "", "", false)
def tyJ2 : Nat → FieldType := fun k => match k with
  | _ => .int
abbrev cJ2_getChar_3b067 : ByteArray := prog_20_method_5_code
def yJ2_getChar_3b067 : MethodName := ⟨RJ2, "getChar", "([BI)C"⟩
abbrev cJ2_length_9d52b : ByteArray := prog_20_method_6_code
def yJ2_length_9d52b : MethodName := ⟨RJ2, "length", "([B)I"⟩
abbrev cJ2_charAt_3b067 : ByteArray := prog_20_method_83_code
def yJ2_charAt_3b067 : MethodName := ⟨RJ2, "charAt", "([BI)C"⟩
abbrev cJ2_checkIndex_2214a : ByteArray := prog_20_method_91_code
def yJ2_checkIndex_2214a : MethodName := ⟨RJ2, "checkIndex", "(I[B)V"⟩
def RJ10 : String := "java/lang/System"
def TJ10 : u_T := fun k => match k with
  | _ => ("", "", "", false)
def tyJ10 : Nat → FieldType := fun k => match k with
  | _ => .int
def RJxfd54e : String := "java/lang/constant/Constable"
def TJxfd54e : u_T := fun k => match k with
  | _ => ("", "", "", false)
def tyJxfd54e : Nat → FieldType := fun k => match k with
  | _ => .int
def RJx3cf43 : String := "java/lang/constant/ConstantDesc"
def TJx3cf43 : u_T := fun k => match k with
  | _ => ("", "", "", false)
def tyJx3cf43 : Nat → FieldType := fun k => match k with
  | _ => .int
def RJ7 : String := "java/util/Arrays"
def TJ7 : u_T := fun k => match k with
  | _ => ("", "", "", false)
def tyJ7 : Nat → FieldType := fun k => match k with
  | _ => .int
abbrev cJ7_fill_53178 : ByteArray := prog_22_method_103_code
def yJ7_fill_53178 : MethodName := ⟨RJ7, "fill", "([II)V"⟩
def RJ3 : String := "jdk/internal/util/Preconditions"
def TJ3 : u_T := fun k => match k with
  | _ => ("", "", "", false)
def tyJ3 : Nat → FieldType := fun k => match k with
  | _ => .int
abbrev cJ3_checkIndex_8e157 : ByteArray := prog_23_method_11_code
def yJ3_checkIndex_8e157 : MethodName := ⟨RJ3, "checkIndex", "(IILjava/util/function/BiFunction;)I"⟩
def RL : String := "SunriseRoofLaw"
abbrev cL_law : ByteArray := code
def yL_law : MethodName := ⟨RL, "law", "([I)Z"⟩
abbrev vwCl : List vw_C := [(RX0, TX0, 2), (RX1, TX1, 5), (RX2, TX2, 3), (RX3, TX3, 4), (RX4, TX4, 7), (RX5, TX5, 8), (RX6, TX6, 3), (RX7, TX7, 20), (RX8, TX8, 5), (RX9, TX9, 10), (RX10, TX10, 6), (RX11, TX11, 17), (RX12, TX12, 48)]
end
section
/-! contracts in one form (kI, kL, kV), their beginning, their end, and calls over a world that is a list of cells -/
def kPc (D : va_G) (tys : List (ClassId × FieldType)) (ws : va_W) (sz : Nat) (U : State) : Prop := U.heap.size = sz ∧ va_P D vwCl ws U.heap ∧ va_K D vwCl tys U ∧ va_D (fun _ => True) ws
def kB (D : va_G) (tys : List (ClassId × FieldType)) {S : Type} (w2 : S → va_W) (A : Nat → Prop) (u : S) (t : State) : Prop := va_P D vwCl (w2 u) t.heap ∧ va_K D vwCl tys t ∧ va_D A (w2 u)
def kI (l : Launch) (y : MethodName) (wd : List Cond) (rm : Room) (D : va_G) (tys : List (ClassId × FieldType)) (av : List Value) (ws : va_W) {S : Type} (post : Int32 → S → Prop) (w2 : S → va_W) (mc ms : Nat) : Prop := ∀ sz, Met l y wd rm (va_Pc av (kPc D tys ws sz)) (va_Qi post (kB D tys w2 (va_A ws sz)) (va_A ws sz)) mc ms (va_A ws sz)
def kL (l : Launch) (y : MethodName) (wd : List Cond) (rm : Room) (D : va_G) (tys : List (ClassId × FieldType)) (av : List Value) (ws : va_W) {S : Type} (post : Int64 → S → Prop) (w2 : S → va_W) (mc ms : Nat) : Prop := ∀ sz, Met l y wd rm (va_Pc av (kPc D tys ws sz)) (va_Ql post (kB D tys w2 (va_A ws sz)) (va_A ws sz)) mc ms (va_A ws sz)
def kV (l : Launch) (y : MethodName) (wd : List Cond) (rm : Room) (D : va_G) (tys : List (ClassId × FieldType)) (av : List Value) (ws : va_W) {S : Type} (post : S → Prop) (w2 : S → va_W) (mc ms : Nat) : Prop := ∀ sz, Met l y wd rm (va_Pc av (kPc D tys ws sz)) (va_Qv post (kB D tys w2 (va_A ws sz)) (va_A ws sz)) mc ms (va_A ws sz)
/-- a method that looks at no cell -/
def kN (l : Launch) (y : MethodName) (wd : List Cond) (rm : Room) (av : List Value) (post : Int32 → Prop) : Prop := Met l y wd rm (va_Pc av (fun _ => True)) (va_Qi (fun r (_ : Unit) => post r) (fun _ _ => True) (fun _ => False)) 0 0 (fun _ => False)
def kQi (D : va_G) (tys : List (ClassId × FieldType)) {S : Type} (post : Int32 → S → Prop) (w2 : S → va_W) (A : Nat → Prop) (below : List Frame) (args : Array Value) (s : State) (mc ms : Nat) : State → Prop := MQ below (va_Qi post (kB D tys w2 A) A) args s mc ms A
def kQl (D : va_G) (tys : List (ClassId × FieldType)) {S : Type} (post : Int64 → S → Prop) (w2 : S → va_W) (A : Nat → Prop) (below : List Frame) (args : Array Value) (s : State) (mc ms : Nat) : State → Prop := MQ below (va_Ql post (kB D tys w2 A) A) args s mc ms A
def kQv (D : va_G) (tys : List (ClassId × FieldType)) {S : Type} (post : S → Prop) (w2 : S → va_W) (A : Nat → Prop) (below : List Frame) (args : Array Value) (s : State) (mc ms : Nat) : State → Prop := MQ below (va_Qv post (kB D tys w2 A) A) args s mc ms A
def kQn (post : Int32 → Prop) (below : List Frame) (args : Array Value) (s : State) : State → Prop := MQ below (va_Qi (fun r (_ : Unit) => post r) (fun _ _ => True) (fun _ => False)) args s 0 0 (fun _ => False)
theorem kblind {av : List Value} {D : va_G} {tys : List (ClassId × FieldType)} {ws : va_W} {sz : Nat} : FrameBlind (va_Pc av (kPc D tys ws sz)) := by
  intro a U g mk h
  obtain ⟨h1, h2, h3, h4, h5⟩ := h
  exact ⟨h1, h2, h3, va_K.moved (u := U) (U := U.calling g mk a) (Vm.Alike.refl U.vm) h4, h5⟩
theorem kpick {ws wc : va_W} {is : List Nat} (h : is.map (fun i => ws[i]?) = wc.map some) : is.filterMap (fun i => ws[i]?) = wc := by
  have h1 : is.filterMap (fun i => ws[i]?) = (is.map (fun i => ws[i]?)).filterMap id := by rw [List.filterMap_map]; rfl
  rw [h1, h, List.filterMap_map]
  simp
section KBODY
variable {l : Launch} {y : MethodName} {wd wd' : List Cond} {rm : Room} {D : va_G} {tys : List (ClassId × FieldType)} {av : List Value} {ws : va_W} {S : Type} {w2 : S → va_W} {mc ms : Nat} {cc : ByteArray} {maxL : Nat} {ret : Option FieldType}
theorem kI.of {post : Int32 → S → Prop} (hy : plainName y.cls = true) (hw : wd = Cond.code y cc maxL ret :: wd') (hlen : (lg_sl av).length ≤ maxL)
    (body : ∀ (p : Program) (e : Env) (s : State) (m : MethodId) (below : List Frame) (meth : Method) (c : Code) (A : Nat → Prop), p.tables.exec = Jvm.exec → c.code = cc → meth.sig.returnType = ret → c.maxLocals = maxL → s.vm.findClass y.cls = some m.cls → (∀ w ∈ wd, w.before av.toArray s = true) → meth.locks = false → meth.name = y.name → va_K D vwCl tys s → va_P D vwCl ws s.heap → va_D A ws → va_S A s.heap s.heap [] → (∀ q, s.heap.size ≤ q → A q) → ∀ ls : Array Slot, lv_has ls maxL (lv_args 0 av) → W p l e rm s m av.toArray below meth c s.heap [] 0 0 (kQi D tys post w2 A below av.toArray s mc ms) (F0 m 0 ls [])) :
    kI l y wd rm D tys av ws post w2 mc ms := by
  intro sz
  refine Met.ofW (cc := cc) (maxL := maxL) (ret := ret) hy hw ?_
  intro p e s m args below meth c s₁ B hml hv
  obtain ⟨rfl, hsz, hP, hK, hD0⟩ := hv
  subst hsz
  rw [lg_entry_eq]
  exact body p e s m below meth c (va_A ws s.heap.size) B.exec B.bytes B.returns hml (findClass_of_methodNamed B.named) (atoms_spec (ws := wd) B.pre) B.notSynchronized (name_of_methodNamed B.named B.method).1 hK hP hD0.self va_S.rf (fun q h => Or.inr h) _ (lv_entry av hlen)
theorem kL.of {post : Int64 → S → Prop} (hy : plainName y.cls = true) (hw : wd = Cond.code y cc maxL ret :: wd') (hlen : (lg_sl av).length ≤ maxL)
    (body : ∀ (p : Program) (e : Env) (s : State) (m : MethodId) (below : List Frame) (meth : Method) (c : Code) (A : Nat → Prop), p.tables.exec = Jvm.exec → c.code = cc → meth.sig.returnType = ret → c.maxLocals = maxL → s.vm.findClass y.cls = some m.cls → (∀ w ∈ wd, w.before av.toArray s = true) → meth.locks = false → meth.name = y.name → va_K D vwCl tys s → va_P D vwCl ws s.heap → va_D A ws → va_S A s.heap s.heap [] → (∀ q, s.heap.size ≤ q → A q) → ∀ ls : Array Slot, lv_has ls maxL (lv_args 0 av) → W p l e rm s m av.toArray below meth c s.heap [] 0 0 (kQl D tys post w2 A below av.toArray s mc ms) (F0 m 0 ls [])) :
    kL l y wd rm D tys av ws post w2 mc ms := by
  intro sz
  refine Met.ofW (cc := cc) (maxL := maxL) (ret := ret) hy hw ?_
  intro p e s m args below meth c s₁ B hml hv
  obtain ⟨rfl, hsz, hP, hK, hD0⟩ := hv
  subst hsz
  rw [lg_entry_eq]
  exact body p e s m below meth c (va_A ws s.heap.size) B.exec B.bytes B.returns hml (findClass_of_methodNamed B.named) (atoms_spec (ws := wd) B.pre) B.notSynchronized (name_of_methodNamed B.named B.method).1 hK hP hD0.self va_S.rf (fun q h => Or.inr h) _ (lv_entry av hlen)
theorem kV.of {post : S → Prop} (hy : plainName y.cls = true) (hw : wd = Cond.code y cc maxL ret :: wd') (hlen : (lg_sl av).length ≤ maxL)
    (body : ∀ (p : Program) (e : Env) (s : State) (m : MethodId) (below : List Frame) (meth : Method) (c : Code) (A : Nat → Prop), p.tables.exec = Jvm.exec → c.code = cc → meth.sig.returnType = ret → c.maxLocals = maxL → s.vm.findClass y.cls = some m.cls → (∀ w ∈ wd, w.before av.toArray s = true) → meth.locks = false → meth.name = y.name → va_K D vwCl tys s → va_P D vwCl ws s.heap → va_D A ws → va_S A s.heap s.heap [] → (∀ q, s.heap.size ≤ q → A q) → ∀ ls : Array Slot, lv_has ls maxL (lv_args 0 av) → W p l e rm s m av.toArray below meth c s.heap [] 0 0 (kQv D tys post w2 A below av.toArray s mc ms) (F0 m 0 ls [])) :
    kV l y wd rm D tys av ws post w2 mc ms := by
  intro sz
  refine Met.ofW (cc := cc) (maxL := maxL) (ret := ret) hy hw ?_
  intro p e s m args below meth c s₁ B hml hv
  obtain ⟨rfl, hsz, hP, hK, hD0⟩ := hv
  subst hsz
  rw [lg_entry_eq]
  exact body p e s m below meth c (va_A ws s.heap.size) B.exec B.bytes B.returns hml (findClass_of_methodNamed B.named) (atoms_spec (ws := wd) B.pre) B.notSynchronized (name_of_methodNamed B.named B.method).1 hK hP hD0.self va_S.rf (fun q h => Or.inr h) _ (lv_entry av hlen)
theorem kN.of {post : Int32 → Prop} (hy : plainName y.cls = true) (hw : wd = Cond.code y cc maxL ret :: wd') (hlen : (lg_sl av).length ≤ maxL)
    (body : ∀ (p : Program) (e : Env) (s : State) (m : MethodId) (below : List Frame) (meth : Method) (c : Code), p.tables.exec = Jvm.exec → c.code = cc → meth.sig.returnType = ret → c.maxLocals = maxL → s.vm.findClass y.cls = some m.cls → (∀ w ∈ wd, w.before av.toArray s = true) → meth.locks = false → va_S (fun _ => False) s.heap s.heap [] → ∀ ls : Array Slot, lv_has ls maxL (lv_args 0 av) → W p l e rm s m av.toArray below meth c s.heap [] 0 0 (kQn post below av.toArray s) (F0 m 0 ls [])) :
    kN l y wd rm av post := by
  refine Met.ofW (cc := cc) (maxL := maxL) (ret := ret) hy hw ?_
  intro p e s m args below meth c s₁ B hml hv
  obtain ⟨rfl, -⟩ := hv
  rw [lg_entry_eq]
  exact body p e s m below meth c B.exec B.bytes B.returns hml (findClass_of_methodNamed B.named) (atoms_spec (ws := wd) B.pre) B.notSynchronized va_S.rf _ (lv_entry av hlen)
end KBODY
section KWALK
variable {p : Program} {l : Launch} {e : Env} {R : Room} {s : State} {m : MethodId} {args : Array Value} {below : List Frame} {meth : Method} {c : Code} {H : Heap} {locs : List Loc} {cells slots : Nat} {Q : State → Prop} {pc : Nat} {ls : Array Slot} {rest st0 : List Value} {cc : ByteArray}
variable {y : MethodName} {bytes : ByteArray} {maxL nL mc ms n index : Nat} {ret : Option FieldType} {wd : List Cond} {rm : Room} {Ts : List Cond} {own C : String} {b : Addr} {As : List Value} {D : va_G} {tys : List (ClassId × FieldType)} {ws wc wr : va_W} {S : Type} {w2 : S → va_W} {A : Nat → Prop}
theorem kI_ret {post : Int32 → S → Prop} {v : Int32} {ty : FieldType} (hx : p.tables.exec = Jvm.exec) (hb : c.code = cc) (hr : meth.sig.returnType = some ty) (hlocks : meth.locks = false) (hn : narrow ty (.int v) = .int v) (hK : va_K D vwCl tys s) (hS : va_S A s.heap H locs) (hdg : decode cc pc = .ok (.ireturn, 1)) (u : S) (hP : va_P D vwCl (w2 u) H) (hD : va_D A (w2 u)) (hpost : post v u) : W p l e R s m args below meth c H locs cells slots (kQi D tys post w2 A below args s cells slots) (F0 m pc ls [.int v]) :=
  W.zret hx hb hr hn (fun t ht hW => ⟨⟨v, u, rfl, hpost, by rw [ht]; exact hP, va_K.moved hW.alike hK, hD⟩, hS.F ht⟩) hS.2.2 hdg hlocks
theorem kN_ret {post : Int32 → Prop} {v : Int32} {ty : FieldType} (hx : p.tables.exec = Jvm.exec) (hb : c.code = cc) (hr : meth.sig.returnType = some ty) (hlocks : meth.locks = false) (hn : narrow ty (.int v) = .int v) (hS : va_S (fun _ => False) s.heap H locs) (hdg : decode cc pc = .ok (.ireturn, 1)) (hpost : post v) : W p l e R s m args below meth c H locs 0 0 (kQn post below args s) (F0 m pc ls [.int v]) :=
  W.zret hx hb hr hn (fun t ht hW => ⟨⟨v, (), rfl, hpost, trivial⟩, hS.F ht⟩) hS.2.2 hdg hlocks
theorem kV_ret {post : S → Prop} (hx : p.tables.exec = Jvm.exec) (hb : c.code = cc) (hr : meth.sig.returnType = none) (hlocks : meth.locks = false) (hK : va_K D vwCl tys s) (hS : va_S A s.heap H locs) (hdg : decode cc pc = .ok (.return_, 1)) (u : S) (hP : va_P D vwCl (w2 u) H) (hD : va_D A (w2 u)) (hpost : post u) : W p l e R s m args below meth c H locs cells slots (kQv D tys post w2 A below args s cells slots) (F0 m pc ls []) :=
  W.vret hx hb hr (fun t ht hW => ⟨⟨u, rfl, hpost, by rw [ht]; exact hP, va_K.moved hW.alike hK, hD⟩, hS.F ht⟩) hS.2.2 hdg hlocks
theorem kL_ret {post : Int64 → S → Prop} {v : Int64} (hx : p.tables.exec = Jvm.exec) (hb : c.code = cc) (hr : meth.sig.returnType = some .long) (hlocks : meth.locks = false) (hK : va_K D vwCl tys s) (hS : va_S A s.heap H locs) (hdg : decode cc pc = .ok (.lreturn, 1)) (u : S) (hP : va_P D vwCl (w2 u) H) (hD : va_D A (w2 u)) (hpost : post v u) : W p l e R s m args below meth c H locs cells slots (kQl D tys post w2 A below args s cells slots) (F0 m pc ls [.long v]) :=
  W.lret hx hb hr (fun t ht hW => ⟨⟨v, u, rfl, hpost, by rw [ht]; exact hP, va_K.moved hW.alike hK, hD⟩, hS.F ht⟩) hS.2.2 hdg hlocks
/-- an instance method, over a part of the world -/
theorem kI.callV {post : Int32 → S → Prop} (F : CallFix p m c cc nL s args Ts own) (hc : kI l y wd rm D tys (.ref b :: As) wc post w2 mc ms) (cw : CallW R s args own C index y bytes maxL ret wd rm mc ms n) (hK : va_K D vwCl tys s) (hP : va_P D vwCl ws H) (hD : va_D A ws) (hS : va_S A s.heap H locs) (hA : ∀ q, s.heap.size ≤ q → A q)
    (isC isR : List Nat) (hC : isC.map (fun i => ws[i]?) = wc.map some) (hR : isR.map (fun i => ws[i]?) = wr.map some) (hnC : va_nd isC = true) (hnR : va_nd isR = true) (hdis : ∀ i ∈ isR, i ∉ isC) (q0 ci : Nat) {T : u_T} {N : Nat} {fs : List Value} (hcl : vwCl[ci]? = some (C, T, N)) (he : wc[q0]? = some (b, .inr (ci, fs)))
    (hn : As.length = n) (hsize : ls.size = nL) (hstack : st0 = As.reverse ++ .ref b :: rest) (hW : (rest.map fun v => v.category).sum ≤ 8) (hdg : decode cc pc = .ok (.invokevirtual index, 3)) (hf : cells + mc ≤ R.cells ∧ slots + ms ≤ R.slots)
    (kk : ∀ (r : Int32) (u : S) (H1 : Heap) (locs1 : List Loc), post r u → va_P D vwCl (wr ++ w2 u) H1 → va_D A (wr ++ w2 u) → va_S A s.heap H1 locs1 → W p l e R s m args below meth c H1 locs1 (cells + mc) (slots + ms) Q (F0 m (pc + 3) ls (.int r :: rest))) : W p l e R s m args below meth c H locs cells slots Q (F0 m pc ls st0) := by
  have hPc := hP.sub isC (kpick hC)
  have hDc := hD.sub isC hnC hC
  have hFc := va_free (wc := wc) hD hS hA isC hC
  refine va_calli (va_runV (As := As) (rest := rest) F (hc H.size) cw ⟨kblind, va_recv hK hPc hcl he, fun U hU hW => ⟨rfl, by rw [hU], by rw [hU]; exact hPc, va_K.moved hW.alike hK, hDc.weaken (fun _ _ _ _ => trivial)⟩⟩ rfl hn hsize hstack (lv_room hW) hdg hf) hS (fun q _ h => hFc q h) hFc (fun r u t H1 locs ht hvm hw hB hz1 hk1 hS => ?_)
  obtain ⟨hP1, hK1, hD1⟩ := hB
  rw [ht] at hP1
  obtain ⟨hP2, hD2⟩ := va_join hP hD isC isR hC hR hnR hdis hk1 hFc hP1 hD1
  exact kk r u H1 locs hw hP2 hD2 hS
theorem kV.callV {post : S → Prop} (F : CallFix p m c cc nL s args Ts own) (hc : kV l y wd rm D tys (.ref b :: As) wc post w2 mc ms) (cw : CallW R s args own C index y bytes maxL ret wd rm mc ms n) (hK : va_K D vwCl tys s) (hP : va_P D vwCl ws H) (hD : va_D A ws) (hS : va_S A s.heap H locs) (hA : ∀ q, s.heap.size ≤ q → A q)
    (isC isR : List Nat) (hC : isC.map (fun i => ws[i]?) = wc.map some) (hR : isR.map (fun i => ws[i]?) = wr.map some) (hnC : va_nd isC = true) (hnR : va_nd isR = true) (hdis : ∀ i ∈ isR, i ∉ isC) (q0 ci : Nat) {T : u_T} {N : Nat} {fs : List Value} (hcl : vwCl[ci]? = some (C, T, N)) (he : wc[q0]? = some (b, .inr (ci, fs)))
    (hn : As.length = n) (hsize : ls.size = nL) (hstack : st0 = As.reverse ++ .ref b :: rest) (hW : (rest.map fun v => v.category).sum ≤ 8) (hdg : decode cc pc = .ok (.invokevirtual index, 3)) (hf : cells + mc ≤ R.cells ∧ slots + ms ≤ R.slots)
    (kk : ∀ (u : S) (H1 : Heap) (locs1 : List Loc), post u → va_P D vwCl (wr ++ w2 u) H1 → va_D A (wr ++ w2 u) → va_S A s.heap H1 locs1 → W p l e R s m args below meth c H1 locs1 (cells + mc) (slots + ms) Q (F0 m (pc + 3) ls rest)) : W p l e R s m args below meth c H locs cells slots Q (F0 m pc ls st0) := by
  have hPc := hP.sub isC (kpick hC)
  have hDc := hD.sub isC hnC hC
  have hFc := va_free (wc := wc) hD hS hA isC hC
  refine va_callv (va_runV (As := As) (rest := rest) F (hc H.size) cw ⟨kblind, va_recv hK hPc hcl he, fun U hU hW => ⟨rfl, by rw [hU], by rw [hU]; exact hPc, va_K.moved hW.alike hK, hDc.weaken (fun _ _ _ _ => trivial)⟩⟩ rfl hn hsize hstack (lv_room hW) hdg hf) hS (fun q _ h => hFc q h) hFc (fun u t H1 locs ht hvm hw hB hz1 hk1 hS => ?_)
  obtain ⟨hP1, hK1, hD1⟩ := hB
  rw [ht] at hP1
  obtain ⟨hP2, hD2⟩ := va_join hP hD isC isR hC hR hnR hdis hk1 hFc hP1 hD1
  exact kk u H1 locs hw hP2 hD2 hS
theorem kL.callV {post : Int64 → S → Prop} (F : CallFix p m c cc nL s args Ts own) (hc : kL l y wd rm D tys (.ref b :: As) wc post w2 mc ms) (cw : CallW R s args own C index y bytes maxL ret wd rm mc ms n) (hK : va_K D vwCl tys s) (hP : va_P D vwCl ws H) (hD : va_D A ws) (hS : va_S A s.heap H locs) (hA : ∀ q, s.heap.size ≤ q → A q)
    (isC isR : List Nat) (hC : isC.map (fun i => ws[i]?) = wc.map some) (hR : isR.map (fun i => ws[i]?) = wr.map some) (hnC : va_nd isC = true) (hnR : va_nd isR = true) (hdis : ∀ i ∈ isR, i ∉ isC) (q0 ci : Nat) {T : u_T} {N : Nat} {fs : List Value} (hcl : vwCl[ci]? = some (C, T, N)) (he : wc[q0]? = some (b, .inr (ci, fs)))
    (hn : As.length = n) (hsize : ls.size = nL) (hstack : st0 = As.reverse ++ .ref b :: rest) (hW : (rest.map fun v => v.category).sum ≤ 8) (hdg : decode cc pc = .ok (.invokevirtual index, 3)) (hf : cells + mc ≤ R.cells ∧ slots + ms ≤ R.slots)
    (kk : ∀ (r : Int64) (u : S) (H1 : Heap) (locs1 : List Loc), post r u → va_P D vwCl (wr ++ w2 u) H1 → va_D A (wr ++ w2 u) → va_S A s.heap H1 locs1 → W p l e R s m args below meth c H1 locs1 (cells + mc) (slots + ms) Q (F0 m (pc + 3) ls (.long r :: rest))) : W p l e R s m args below meth c H locs cells slots Q (F0 m pc ls st0) := by
  have hPc := hP.sub isC (kpick hC)
  have hDc := hD.sub isC hnC hC
  have hFc := va_free (wc := wc) hD hS hA isC hC
  refine va_calll (va_runV (As := As) (rest := rest) F (hc H.size) cw ⟨kblind, va_recv hK hPc hcl he, fun U hU hW => ⟨rfl, by rw [hU], by rw [hU]; exact hPc, va_K.moved hW.alike hK, hDc.weaken (fun _ _ _ _ => trivial)⟩⟩ rfl hn hsize hstack (lv_room hW) hdg hf) hS (fun q _ h => hFc q h) hFc (fun r u t H1 locs ht hvm hw hB hz1 hk1 hS => ?_)
  obtain ⟨hP1, hK1, hD1⟩ := hB
  rw [ht] at hP1
  obtain ⟨hP2, hD2⟩ := va_join hP hD isC isR hC hR hnR hdis hk1 hFc hP1 hD1
  exact kk r u H1 locs hw hP2 hD2 hS
/-- a static method that looks at no cell: the world stays -/
theorem kN.callS {post : Int32 → Prop} (F : CallFix p m c cc nL s args Ts own) (hc : kN l y wd rm As post) (cw : CallB R s args own index y bytes maxL ret wd rm 0 0 n ∧ (Cond.static y).before args s = true) (hP : va_P D vwCl ws H) (hS : va_S A s.heap H locs)
    (hn : As.length = n) (hsize : ls.size = nL) (hstack : st0 = As.reverse ++ rest) (hW : (rest.map fun v => v.category).sum ≤ 8) (hdg : decode cc pc = .ok (.invokestatic index, 3)) (hf : cells + 0 ≤ R.cells ∧ slots + 0 ≤ R.slots)
    (kk : ∀ (r : Int32) (H1 : Heap) (locs1 : List Loc), post r → va_P D vwCl ws H1 → va_S A s.heap H1 locs1 → W p l e R s m args below meth c H1 locs1 cells slots Q (F0 m (pc + 3) ls (.int r :: rest))) : W p l e R s m args below meth c H locs cells slots Q (F0 m pc ls st0) := by
  refine va_calli (va_runS (As := As) (rest := rest) F hc cw ⟨fun a U g mk h => ⟨h.1, trivial⟩, fun U hU hW => ⟨rfl, trivial⟩⟩ rfl hn hsize hstack (lv_room hW) hdg hf) hS (fun q _ h => h.elim) (fun q h => h.elim) (fun r u t H1 locs ht hvm hw hB hz1 hk1 hS => ?_)
  refine kk r H1 locs hw (fun k q hq => ?_) hS
  exact (hP k q hq).kept (hk1 q.1 (hP k q hq).lt (fun h => h))
/-- the number on the stack, by another name -/
theorem k_top {x z : Int32} (h : x = z) (k : W p l e R s m args below meth c H locs cells slots Q (F0 m pc ls (.int z :: rest))) : W p l e R s m args below meth c H locs cells slots Q (F0 m pc ls (.int x :: rest)) := by rw [h]; exact k
theorem k_topl {x z : Int64} (h : x = z) (k : W p l e R s m args below meth c H locs cells slots Q (F0 m pc ls (.long z :: rest))) : W p l e R s m args below meth c H locs cells slots Q (F0 m pc ls (.long x :: rest)) := by rw [h]; exact k
end KWALK
abbrev rmD (d mc ms : Nat) : Room := { frames := d, cells := mc, slots := ms, locals := 64 * d }
theorem k_in {x : Int32} {n : Nat} (h : decide (¬ (x < 0 ∨ n ≤ x.toNatClampNeg)) = true) : vp_in x n := (of_decide_eq_true h : ¬ (x < 0 ∨ n ≤ x.toNatClampNeg))

/-! the words of all methods: one list -/
def kG : List Cond := lw_tbl.filter goodWord
theorem kG_in : ∀ w ∈ kG, w ∈ lw_tbl := fun _ h => (List.mem_filter.mp h).1
theorem kG_good : ∀ w ∈ kG, goodWord w = true := fun _ h => (List.mem_filter.mp h).2
theorem kmem {w : Cond} (h : w ∈ lw_tbl) (hg : goodWord w = true) : w ∈ kG := List.mem_filter.mpr ⟨h, hg⟩
theorem kgG : GoodIn kG kG := fun w h => ⟨h, good_of_word (kG_good w h)⟩
theorem kg1 {w : Cond} (h : w ∈ kG) : w ∈ kG ∧ ((w.onTables && w.keeps) = true ∨ ∃ ty, w = .arrayClass ty) := ⟨h, good_of_word (kG_good w h)⟩
theorem kgC {cw : Cond} (h : cw ∈ kG) : GoodIn kG (cw :: kG) := fun w hw => by
  rcases List.mem_cons.mp hw with e | e
  · rw [e]; exact kg1 h
  · exact kg1 e
theorem kgV {own C : String} {idx : Nat} {y : MethodName} {cw : Cond} (h1 : Cond.methodLink own idx y ∈ kG) (h2 : Cond.instanceMethod y ∈ kG) (h3 : Cond.selects C y y ∈ kG) (h4 : Cond.initialized C ∈ kG) (h5 : cw ∈ kG) : GoodIn kG (wsV own idx C y (cw :: kG)) := fun w hw => by
  unfold wsV at hw
  rcases List.mem_append.mp hw with e | e
  · simp only [List.mem_cons, List.not_mem_nil, or_false] at e
    rcases e with e | e | e | e <;> rw [e]
    · exact kg1 h1
    · exact kg1 h2
    · exact kg1 h3
    · exact kg1 h4
  · exact kgC h5 w e
theorem kgS {own : String} {idx : Nat} {y : MethodName} {cw : Cond} (h1 : Cond.methodLink own idx y ∈ kG) (h2 : Cond.static y ∈ kG) (h4 : Cond.initialized y.cls ∈ kG) (h5 : cw ∈ kG) : GoodIn kG (va_wsS own idx y (cw :: kG)) := fun w hw => by
  unfold va_wsS at hw
  rcases List.mem_append.mp hw with e | e
  · simp only [List.mem_cons, List.not_mem_nil, or_false] at e
    rcases e with e | e | e <;> rw [e]
    · exact kg1 h1
    · exact kg1 h2
    · exact kg1 h4
  · exact kgC h5 w e
theorem kt1 {w : Cond} (i : Nat) (h : tables_1_1[i]? = some w) (hg : goodWord w = true) : w ∈ kG := kmem (have h := List.mem_of_getElem? h; show w ∈ k2_sels lw_privs ++ tables_1 from List.mem_append_right _ (List.mem_append_left _ h)) hg
theorem kp1 {w : Cond} (i : Nat) (h : (k2_sels lw_privs_1)[i]? = some w) (hg : goodWord w = true) : w ∈ kG := kmem (have h := List.mem_of_getElem? h; show w ∈ k2_sels lw_privs ++ tables_1 from List.mem_append_left _ (by unfold k2_sels lw_privs; simp only [List.map_append]; exact List.mem_append_left _ h)) hg
theorem kt2 {w : Cond} (i : Nat) (h : tables_1_2[i]? = some w) (hg : goodWord w = true) : w ∈ kG := kmem (have h := List.mem_of_getElem? h; show w ∈ k2_sels lw_privs ++ tables_1 from List.mem_append_right _ (List.mem_append_right _ (List.mem_append_left _ h))) hg
theorem kp2 {w : Cond} (i : Nat) (h : (k2_sels lw_privs_2)[i]? = some w) (hg : goodWord w = true) : w ∈ kG := kmem (have h := List.mem_of_getElem? h; show w ∈ k2_sels lw_privs ++ tables_1 from List.mem_append_left _ (by unfold k2_sels lw_privs; simp only [List.map_append]; exact List.mem_append_right _ (List.mem_append_left _ h))) hg
theorem kt3 {w : Cond} (i : Nat) (h : tables_1_3[i]? = some w) (hg : goodWord w = true) : w ∈ kG := kmem (have h := List.mem_of_getElem? h; show w ∈ k2_sels lw_privs ++ tables_1 from List.mem_append_right _ (List.mem_append_right _ (List.mem_append_right _ (List.mem_append_left _ h)))) hg
theorem kp3 {w : Cond} (i : Nat) (h : (k2_sels lw_privs_3)[i]? = some w) (hg : goodWord w = true) : w ∈ kG := kmem (have h := List.mem_of_getElem? h; show w ∈ k2_sels lw_privs ++ tables_1 from List.mem_append_left _ (by unfold k2_sels lw_privs; simp only [List.map_append]; exact List.mem_append_right _ (List.mem_append_right _ (List.mem_append_left _ h)))) hg
theorem kt4 {w : Cond} (i : Nat) (h : tables_1_4[i]? = some w) (hg : goodWord w = true) : w ∈ kG := kmem (have h := List.mem_of_getElem? h; show w ∈ k2_sels lw_privs ++ tables_1 from List.mem_append_right _ (List.mem_append_right _ (List.mem_append_right _ (List.mem_append_right _ (List.mem_append_left _ h))))) hg
theorem kp4 {w : Cond} (i : Nat) (h : (k2_sels lw_privs_4)[i]? = some w) (hg : goodWord w = true) : w ∈ kG := kmem (have h := List.mem_of_getElem? h; show w ∈ k2_sels lw_privs ++ tables_1 from List.mem_append_left _ (by unfold k2_sels lw_privs; simp only [List.map_append]; exact List.mem_append_right _ (List.mem_append_right _ (List.mem_append_right _ (List.mem_append_left _ h))))) hg
theorem kt5 {w : Cond} (i : Nat) (h : tables_1_5[i]? = some w) (hg : goodWord w = true) : w ∈ kG := kmem (have h := List.mem_of_getElem? h; show w ∈ k2_sels lw_privs ++ tables_1 from List.mem_append_right _ (List.mem_append_right _ (List.mem_append_right _ (List.mem_append_right _ (List.mem_append_right _ (List.mem_append_left _ h)))))) hg
theorem kp5 {w : Cond} (i : Nat) (h : (k2_sels lw_privs_5)[i]? = some w) (hg : goodWord w = true) : w ∈ kG := kmem (have h := List.mem_of_getElem? h; show w ∈ k2_sels lw_privs ++ tables_1 from List.mem_append_left _ (by unfold k2_sels lw_privs; simp only [List.map_append]; exact List.mem_append_right _ (List.mem_append_right _ (List.mem_append_right _ (List.mem_append_right _ (List.mem_append_left _ h)))))) hg
theorem kt6 {w : Cond} (i : Nat) (h : tables_1_6[i]? = some w) (hg : goodWord w = true) : w ∈ kG := kmem (have h := List.mem_of_getElem? h; show w ∈ k2_sels lw_privs ++ tables_1 from List.mem_append_right _ (List.mem_append_right _ (List.mem_append_right _ (List.mem_append_right _ (List.mem_append_right _ (List.mem_append_right _ (List.mem_append_left _ h))))))) hg
theorem kp6 {w : Cond} (i : Nat) (h : (k2_sels lw_privs_6)[i]? = some w) (hg : goodWord w = true) : w ∈ kG := kmem (have h := List.mem_of_getElem? h; show w ∈ k2_sels lw_privs ++ tables_1 from List.mem_append_left _ (by unfold k2_sels lw_privs; simp only [List.map_append]; exact List.mem_append_right _ (List.mem_append_right _ (List.mem_append_right _ (List.mem_append_right _ (List.mem_append_right _ (List.mem_append_left _ h))))))) hg
theorem kt7 {w : Cond} (i : Nat) (h : tables_1_7[i]? = some w) (hg : goodWord w = true) : w ∈ kG := kmem (have h := List.mem_of_getElem? h; show w ∈ k2_sels lw_privs ++ tables_1 from List.mem_append_right _ (List.mem_append_right _ (List.mem_append_right _ (List.mem_append_right _ (List.mem_append_right _ (List.mem_append_right _ (List.mem_append_right _ (List.mem_append_left _ h)))))))) hg
theorem kp7 {w : Cond} (i : Nat) (h : (k2_sels lw_privs_7)[i]? = some w) (hg : goodWord w = true) : w ∈ kG := kmem (have h := List.mem_of_getElem? h; show w ∈ k2_sels lw_privs ++ tables_1 from List.mem_append_left _ (by unfold k2_sels lw_privs; simp only [List.map_append]; exact List.mem_append_right _ (List.mem_append_right _ (List.mem_append_right _ (List.mem_append_right _ (List.mem_append_right _ (List.mem_append_right _ (List.mem_append_left _ h)))))))) hg
theorem kt8 {w : Cond} (i : Nat) (h : tables_1_8[i]? = some w) (hg : goodWord w = true) : w ∈ kG := kmem (have h := List.mem_of_getElem? h; show w ∈ k2_sels lw_privs ++ tables_1 from List.mem_append_right _ (List.mem_append_right _ (List.mem_append_right _ (List.mem_append_right _ (List.mem_append_right _ (List.mem_append_right _ (List.mem_append_right _ (List.mem_append_right _ (h))))))))) hg
theorem kp8 {w : Cond} (i : Nat) (h : (k2_sels lw_privs_8)[i]? = some w) (hg : goodWord w = true) : w ∈ kG := kmem (have h := List.mem_of_getElem? h; show w ∈ k2_sels lw_privs ++ tables_1 from List.mem_append_left _ (by unfold k2_sels lw_privs; simp only [List.map_append]; exact List.mem_append_right _ (List.mem_append_right _ (List.mem_append_right _ (List.mem_append_right _ (List.mem_append_right _ (List.mem_append_right _ (List.mem_append_right _ (h))))))))) hg
end
section
theorem dX12_lies_0 : decode cX12_lies 0 = .ok (.iload_n 0, 1) := by decide +kernel
theorem dX12_lies_1 : decode cX12_lies 1 = .ok (.iload_n 1, 1) := by decide +kernel
theorem dX12_lies_2 : decode cX12_lies 2 = .ok (.if_icmp .lt 12, 3) := by decide +kernel
theorem dX12_lies_5 : decode cX12_lies 5 = .ok (.iload_n 0, 1) := by decide +kernel
theorem dX12_lies_6 : decode cX12_lies 6 = .ok (.iload_n 2, 1) := by decide +kernel
theorem dX12_lies_7 : decode cX12_lies 7 = .ok (.if_icmp .gt 7, 3) := by decide +kernel
theorem dX12_lies_10 : decode cX12_lies 10 = .ok (.iconst 1, 1) := by decide +kernel
theorem dX12_lies_11 : decode cX12_lies 11 = .ok (.goto 4, 3) := by decide +kernel
theorem dX12_lies_14 : decode cX12_lies 14 = .ok (.iconst 0, 1) := by decide +kernel
theorem dX12_lies_15 : decode cX12_lies 15 = .ok (.ireturn, 1) := by decide +kernel
theorem dX12_refuses_0 : decode cX12_refuses 0 = .ok (.aload_n 0, 1) := by decide +kernel
theorem dX12_refuses_1 : decode cX12_refuses 1 = .ok (.iload_n 1, 1) := by decide +kernel
theorem dX12_refuses_2 : decode cX12_refuses 2 = .ok (.putfield 3, 3) := by decide +kernel
theorem dX12_refuses_5 : decode cX12_refuses 5 = .ok (.aload_n 0, 1) := by decide +kernel
theorem dX12_refuses_6 : decode cX12_refuses 6 = .ok (.getfield 7, 3) := by decide +kernel
theorem dX12_refuses_9 : decode cX12_refuses 9 = .ok (.iload_n 1, 1) := by decide +kernel
theorem dX12_refuses_10 : decode cX12_refuses 10 = .ok (.ineg, 1) := by decide +kernel
theorem dX12_refuses_11 : decode cX12_refuses 11 = .ok (.dup2, 1) := by decide +kernel
theorem dX12_refuses_12 : decode cX12_refuses 12 = .ok (.iaload, 1) := by decide +kernel
theorem dX12_refuses_13 : decode cX12_refuses 13 = .ok (.iconst 1, 1) := by decide +kernel
theorem dX12_refuses_14 : decode cX12_refuses 14 = .ok (.iadd, 1) := by decide +kernel
theorem dX12_refuses_15 : decode cX12_refuses 15 = .ok (.iastore, 1) := by decide +kernel
theorem dX12_refuses_16 : decode cX12_refuses 16 = .ok (.iload_n 1, 1) := by decide +kernel
theorem dX12_refuses_17 : decode cX12_refuses 17 = .ok (.ireturn, 1) := by decide +kernel
theorem dX12_good_0 : decode cX12_good 0 = .ok (.aload_n 0, 1) := by decide +kernel
theorem dX12_good_1 : decode cX12_good 1 = .ok (.iconst 0, 1) := by decide +kernel
theorem dX12_good_2 : decode cX12_good 2 = .ok (.putfield 3, 3) := by decide +kernel
theorem dX12_good_5 : decode cX12_good 5 = .ok (.iload_n 1, 1) := by decide +kernel
theorem dX12_good_6 : decode cX12_good 6 = .ok (.ireturn, 1) := by decide +kernel
theorem dX12_settled_0 : decode cX12_settled 0 = .ok (.aload_n 0, 1) := by decide +kernel
theorem dX12_settled_1 : decode cX12_settled 1 = .ok (.iconst 0, 1) := by decide +kernel
theorem dX12_settled_2 : decode cX12_settled 2 = .ok (.putfield 11, 3) := by decide +kernel
theorem dX12_settled_5 : decode cX12_settled 5 = .ok (.aload_n 0, 1) := by decide +kernel
theorem dX12_settled_6 : decode cX12_settled 6 = .ok (.iload_n 1, 1) := by decide +kernel
theorem dX12_settled_7 : decode cX12_settled 7 = .ok (.invokevirtual 14, 3) := by decide +kernel
theorem dX12_settled_10 : decode cX12_settled 10 = .ok (.ireturn, 1) := by decide +kernel
theorem dX12_ones_0 : decode cX12_ones 0 = .ok (.iconst 0, 1) := by decide +kernel
theorem dX12_ones_1 : decode cX12_ones 1 = .ok (.istore_n 1, 1) := by decide +kernel
theorem dX12_ones_2 : decode cX12_ones 2 = .ok (.iconst 0, 1) := by decide +kernel
theorem dX12_ones_3 : decode cX12_ones 3 = .ok (.istore_n 2, 1) := by decide +kernel
theorem dX12_ones_4 : decode cX12_ones 4 = .ok (.iload_n 2, 1) := by decide +kernel
theorem dX12_ones_5 : decode cX12_ones 5 = .ok (.bipush 10, 2) := by decide +kernel
theorem dX12_ones_7 : decode cX12_ones 7 = .ok (.if_icmp .ge 17, 3) := by decide +kernel
theorem dX12_ones_10 : decode cX12_ones 10 = .ok (.iload_n 1, 1) := by decide +kernel
theorem dX12_ones_11 : decode cX12_ones 11 = .ok (.iload_n 0, 1) := by decide +kernel
theorem dX12_ones_12 : decode cX12_ones 12 = .ok (.iload_n 2, 1) := by decide +kernel
theorem dX12_ones_13 : decode cX12_ones 13 = .ok (.ishr, 1) := by decide +kernel
theorem dX12_ones_14 : decode cX12_ones 14 = .ok (.iconst 1, 1) := by decide +kernel
theorem dX12_ones_15 : decode cX12_ones 15 = .ok (.iand, 1) := by decide +kernel
theorem dX12_ones_16 : decode cX12_ones 16 = .ok (.iadd, 1) := by decide +kernel
theorem dX12_ones_17 : decode cX12_ones 17 = .ok (.istore_n 1, 1) := by decide +kernel
theorem dX12_ones_18 : decode cX12_ones 18 = .ok (.iinc 2 1, 3) := by decide +kernel
theorem dX12_ones_21 : decode cX12_ones 21 = .ok (.goto (-17), 3) := by decide +kernel
theorem dX12_ones_24 : decode cX12_ones 24 = .ok (.iload_n 1, 1) := by decide +kernel
theorem dX12_ones_25 : decode cX12_ones 25 = .ok (.ireturn, 1) := by decide +kernel
theorem dX12_greater_0 : decode cX12_greater 0 = .ok (.iload_n 0, 1) := by decide +kernel
theorem dX12_greater_1 : decode cX12_greater 1 = .ok (.iload_n 1, 1) := by decide +kernel
theorem dX12_greater_2 : decode cX12_greater 2 = .ok (.if_icmp .le 7, 3) := by decide +kernel
theorem dX12_greater_5 : decode cX12_greater 5 = .ok (.iload_n 0, 1) := by decide +kernel
theorem dX12_greater_6 : decode cX12_greater 6 = .ok (.goto 4, 3) := by decide +kernel
theorem dX12_greater_9 : decode cX12_greater 9 = .ok (.iload_n 1, 1) := by decide +kernel
theorem dX12_greater_10 : decode cX12_greater 10 = .ok (.ireturn, 1) := by decide +kernel
theorem dX12_laysAside_0 : decode cX12_laysAside 0 = .ok (.iconst 0, 1) := by decide +kernel
theorem dX12_laysAside_1 : decode cX12_laysAside 1 = .ok (.istore_n 2, 1) := by decide +kernel
theorem dX12_laysAside_2 : decode cX12_laysAside 2 = .ok (.iload_n 2, 1) := by decide +kernel
theorem dX12_laysAside_3 : decode cX12_laysAside 3 = .ok (.bipush 23, 2) := by decide +kernel
theorem dX12_laysAside_5 : decode cX12_laysAside 5 = .ok (.if_icmp .ge 26, 3) := by decide +kernel
theorem dX12_laysAside_8 : decode cX12_laysAside 8 = .ok (.aload_n 0, 1) := by decide +kernel
theorem dX12_laysAside_9 : decode cX12_laysAside 9 = .ok (.getfield 34, 3) := by decide +kernel
theorem dX12_laysAside_12 : decode cX12_laysAside 12 = .ok (.bipush 23, 2) := by decide +kernel
theorem dX12_laysAside_14 : decode cX12_laysAside 14 = .ok (.iload_n 1, 1) := by decide +kernel
theorem dX12_laysAside_15 : decode cX12_laysAside 15 = .ok (.imul, 1) := by decide +kernel
theorem dX12_laysAside_16 : decode cX12_laysAside 16 = .ok (.iload_n 2, 1) := by decide +kernel
theorem dX12_laysAside_17 : decode cX12_laysAside 17 = .ok (.iadd, 1) := by decide +kernel
theorem dX12_laysAside_18 : decode cX12_laysAside 18 = .ok (.aload_n 0, 1) := by decide +kernel
theorem dX12_laysAside_19 : decode cX12_laysAside 19 = .ok (.getfield 24, 3) := by decide +kernel
theorem dX12_laysAside_22 : decode cX12_laysAside 22 = .ok (.iload_n 2, 1) := by decide +kernel
theorem dX12_laysAside_23 : decode cX12_laysAside 23 = .ok (.iaload, 1) := by decide +kernel
theorem dX12_laysAside_24 : decode cX12_laysAside 24 = .ok (.iastore, 1) := by decide +kernel
theorem dX12_laysAside_25 : decode cX12_laysAside 25 = .ok (.iinc 2 1, 3) := by decide +kernel
theorem dX12_laysAside_28 : decode cX12_laysAside 28 = .ok (.goto (-26), 3) := by decide +kernel
theorem dX12_laysAside_31 : decode cX12_laysAside 31 = .ok (.return_, 1) := by decide +kernel
theorem dX12_takesBack_0 : decode cX12_takesBack 0 = .ok (.iconst 0, 1) := by decide +kernel
theorem dX12_takesBack_1 : decode cX12_takesBack 1 = .ok (.istore_n 2, 1) := by decide +kernel
theorem dX12_takesBack_2 : decode cX12_takesBack 2 = .ok (.iload_n 2, 1) := by decide +kernel
theorem dX12_takesBack_3 : decode cX12_takesBack 3 = .ok (.bipush 23, 2) := by decide +kernel
theorem dX12_takesBack_5 : decode cX12_takesBack 5 = .ok (.if_icmp .ge 26, 3) := by decide +kernel
theorem dX12_takesBack_8 : decode cX12_takesBack 8 = .ok (.aload_n 0, 1) := by decide +kernel
theorem dX12_takesBack_9 : decode cX12_takesBack 9 = .ok (.getfield 24, 3) := by decide +kernel
theorem dX12_takesBack_12 : decode cX12_takesBack 12 = .ok (.iload_n 2, 1) := by decide +kernel
theorem dX12_takesBack_13 : decode cX12_takesBack 13 = .ok (.aload_n 0, 1) := by decide +kernel
theorem dX12_takesBack_14 : decode cX12_takesBack 14 = .ok (.getfield 34, 3) := by decide +kernel
theorem dX12_takesBack_17 : decode cX12_takesBack 17 = .ok (.bipush 23, 2) := by decide +kernel
theorem dX12_takesBack_19 : decode cX12_takesBack 19 = .ok (.iload_n 1, 1) := by decide +kernel
theorem dX12_takesBack_20 : decode cX12_takesBack 20 = .ok (.imul, 1) := by decide +kernel
theorem dX12_takesBack_21 : decode cX12_takesBack 21 = .ok (.iload_n 2, 1) := by decide +kernel
theorem dX12_takesBack_22 : decode cX12_takesBack 22 = .ok (.iadd, 1) := by decide +kernel
theorem dX12_takesBack_23 : decode cX12_takesBack 23 = .ok (.iaload, 1) := by decide +kernel
theorem dX12_takesBack_24 : decode cX12_takesBack 24 = .ok (.iastore, 1) := by decide +kernel
theorem dX12_takesBack_25 : decode cX12_takesBack 25 = .ok (.iinc 2 1, 3) := by decide +kernel
theorem dX12_takesBack_28 : decode cX12_takesBack 28 = .ok (.goto (-26), 3) := by decide +kernel
theorem dX12_takesBack_31 : decode cX12_takesBack 31 = .ok (.return_, 1) := by decide +kernel
theorem dX12_image_0 : decode cX12_image 0 = .ok (.iload_n 1, 1) := by decide +kernel
theorem dX12_image_1 : decode cX12_image 1 = .ok (.iconst 0, 1) := by decide +kernel
theorem dX12_image_2 : decode cX12_image 2 = .ok (.iconst 1, 1) := by decide +kernel
theorem dX12_image_3 : decode cX12_image 3 = .ok (.invokestatic 96, 3) := by decide +kernel
theorem dX12_image_6 : decode cX12_image 6 = .ok (.ifCond .ne 9, 3) := by decide +kernel
theorem dX12_image_9 : decode cX12_image 9 = .ok (.aload_n 0, 1) := by decide +kernel
theorem dX12_image_10 : decode cX12_image 10 = .ok (.iconst (-1), 1) := by decide +kernel
theorem dX12_image_11 : decode cX12_image 11 = .ok (.invokevirtual 100, 3) := by decide +kernel
theorem dX12_image_14 : decode cX12_image 14 = .ok (.ireturn, 1) := by decide +kernel
theorem dX12_image_15 : decode cX12_image 15 = .ok (.iconst 0, 1) := by decide +kernel
theorem dX12_image_16 : decode cX12_image 16 = .ok (.istore_n 2, 1) := by decide +kernel
theorem dX12_image_17 : decode cX12_image 17 = .ok (.iload_n 2, 1) := by decide +kernel
theorem dX12_image_18 : decode cX12_image 18 = .ok (.sipush 5714, 3) := by decide +kernel
theorem dX12_image_21 : decode cX12_image 21 = .ok (.if_icmp .ge 27, 3) := by decide +kernel
theorem dX12_image_24 : decode cX12_image 24 = .ok (.aload_n 0, 1) := by decide +kernel
theorem dX12_image_25 : decode cX12_image 25 = .ok (.getfield 27, 3) := by decide +kernel
theorem dX12_image_28 : decode cX12_image 28 = .ok (.sipush 5714, 3) := by decide +kernel
theorem dX12_image_31 : decode cX12_image 31 = .ok (.iload_n 1, 1) := by decide +kernel
theorem dX12_image_32 : decode cX12_image 32 = .ok (.imul, 1) := by decide +kernel
theorem dX12_image_33 : decode cX12_image 33 = .ok (.iload_n 2, 1) := by decide +kernel
theorem dX12_image_34 : decode cX12_image 34 = .ok (.iadd, 1) := by decide +kernel
theorem dX12_image_35 : decode cX12_image 35 = .ok (.aload_n 0, 1) := by decide +kernel
theorem dX12_image_36 : decode cX12_image 36 = .ok (.getfield 24, 3) := by decide +kernel
theorem dX12_image_39 : decode cX12_image 39 = .ok (.iload_n 2, 1) := by decide +kernel
theorem dX12_image_40 : decode cX12_image 40 = .ok (.iaload, 1) := by decide +kernel
theorem dX12_image_41 : decode cX12_image 41 = .ok (.iastore, 1) := by decide +kernel
theorem dX12_image_42 : decode cX12_image 42 = .ok (.iinc 2 1, 3) := by decide +kernel
theorem dX12_image_45 : decode cX12_image 45 = .ok (.goto (-28), 3) := by decide +kernel
theorem dX12_image_48 : decode cX12_image 48 = .ok (.aload_n 0, 1) := by decide +kernel
theorem dX12_image_49 : decode cX12_image 49 = .ok (.getfield 30, 3) := by decide +kernel
theorem dX12_image_52 : decode cX12_image 52 = .ok (.iload_n 1, 1) := by decide +kernel
theorem dX12_image_53 : decode cX12_image 53 = .ok (.iconst 1, 1) := by decide +kernel
theorem dX12_image_54 : decode cX12_image 54 = .ok (.bastore, 1) := by decide +kernel
theorem dX12_image_55 : decode cX12_image 55 = .ok (.aload_n 0, 1) := by decide +kernel
theorem dX12_image_56 : decode cX12_image 56 = .ok (.iconst 0, 1) := by decide +kernel
theorem dX12_image_57 : decode cX12_image 57 = .ok (.invokevirtual 14, 3) := by decide +kernel
theorem dX12_image_60 : decode cX12_image 60 = .ok (.ireturn, 1) := by decide +kernel
theorem dX12_back_0 : decode cX12_back 0 = .ok (.iload_n 1, 1) := by decide +kernel
theorem dX12_back_1 : decode cX12_back 1 = .ok (.iconst 0, 1) := by decide +kernel
theorem dX12_back_2 : decode cX12_back 2 = .ok (.iconst 1, 1) := by decide +kernel
theorem dX12_back_3 : decode cX12_back 3 = .ok (.invokestatic 96, 3) := by decide +kernel
theorem dX12_back_6 : decode cX12_back 6 = .ok (.ifCond .ne 9, 3) := by decide +kernel
theorem dX12_back_9 : decode cX12_back 9 = .ok (.aload_n 0, 1) := by decide +kernel
theorem dX12_back_10 : decode cX12_back 10 = .ok (.iconst (-1), 1) := by decide +kernel
theorem dX12_back_11 : decode cX12_back 11 = .ok (.invokevirtual 100, 3) := by decide +kernel
theorem dX12_back_14 : decode cX12_back 14 = .ok (.ireturn, 1) := by decide +kernel
theorem dX12_back_15 : decode cX12_back 15 = .ok (.aload_n 0, 1) := by decide +kernel
theorem dX12_back_16 : decode cX12_back 16 = .ok (.getfield 30, 3) := by decide +kernel
theorem dX12_back_19 : decode cX12_back 19 = .ok (.iload_n 1, 1) := by decide +kernel
theorem dX12_back_20 : decode cX12_back 20 = .ok (.baload, 1) := by decide +kernel
theorem dX12_back_21 : decode cX12_back 21 = .ok (.ifCond .ne 10, 3) := by decide +kernel
theorem dX12_back_24 : decode cX12_back 24 = .ok (.aload_n 0, 1) := by decide +kernel
theorem dX12_back_25 : decode cX12_back 25 = .ok (.bipush (-2), 2) := by decide +kernel
theorem dX12_back_27 : decode cX12_back 27 = .ok (.invokevirtual 100, 3) := by decide +kernel
theorem dX12_back_30 : decode cX12_back 30 = .ok (.ireturn, 1) := by decide +kernel
theorem dX12_isPart_0 : decode cX12_isPart 0 = .ok (.iload_n 1, 1) := by decide +kernel
theorem dX12_isPart_1 : decode cX12_isPart 1 = .ok (.iconst 0, 1) := by decide +kernel
theorem dX12_isPart_2 : decode cX12_isPart 2 = .ok (.aload_n 0, 1) := by decide +kernel
theorem dX12_isPart_3 : decode cX12_isPart 3 = .ok (.getfield 24, 3) := by decide +kernel
theorem dX12_isPart_6 : decode cX12_isPart 6 = .ok (.bipush 102, 2) := by decide +kernel
theorem dX12_isPart_8 : decode cX12_isPart 8 = .ok (.iaload, 1) := by decide +kernel
theorem dX12_isPart_9 : decode cX12_isPart 9 = .ok (.iconst 1, 1) := by decide +kernel
theorem dX12_isPart_10 : decode cX12_isPart 10 = .ok (.isub, 1) := by decide +kernel
theorem dX12_isPart_11 : decode cX12_isPart 11 = .ok (.invokestatic 96, 3) := by decide +kernel
theorem dX12_isPart_14 : decode cX12_isPart 14 = .ok (.ireturn, 1) := by decide +kernel
theorem dX12_isBuilder_0 : decode cX12_isBuilder 0 = .ok (.iload_n 1, 1) := by decide +kernel
theorem dX12_isBuilder_1 : decode cX12_isBuilder 1 = .ok (.iconst 0, 1) := by decide +kernel
theorem dX12_isBuilder_2 : decode cX12_isBuilder 2 = .ok (.aload_n 0, 1) := by decide +kernel
theorem dX12_isBuilder_3 : decode cX12_isBuilder 3 = .ok (.getfield 24, 3) := by decide +kernel
theorem dX12_isBuilder_6 : decode cX12_isBuilder 6 = .ok (.bipush 103, 2) := by decide +kernel
theorem dX12_isBuilder_8 : decode cX12_isBuilder 8 = .ok (.iaload, 1) := by decide +kernel
theorem dX12_isBuilder_9 : decode cX12_isBuilder 9 = .ok (.iconst 1, 1) := by decide +kernel
theorem dX12_isBuilder_10 : decode cX12_isBuilder 10 = .ok (.isub, 1) := by decide +kernel
theorem dX12_isBuilder_11 : decode cX12_isBuilder 11 = .ok (.invokestatic 96, 3) := by decide +kernel
theorem dX12_isBuilder_14 : decode cX12_isBuilder 14 = .ok (.ireturn, 1) := by decide +kernel
theorem dX12_canPart_0 : decode cX12_canPart 0 = .ok (.iload_n 1, 1) := by decide +kernel
theorem dX12_canPart_1 : decode cX12_canPart 1 = .ok (.iconst 1, 1) := by decide +kernel
theorem dX12_canPart_2 : decode cX12_canPart 2 = .ok (.bipush 99, 2) := by decide +kernel
theorem dX12_canPart_4 : decode cX12_canPart 4 = .ok (.invokestatic 96, 3) := by decide +kernel
theorem dX12_canPart_7 : decode cX12_canPart 7 = .ok (.ifCond .eq 46, 3) := by decide +kernel
theorem dX12_canPart_10 : decode cX12_canPart 10 = .ok (.iload_n 2, 1) := by decide +kernel
theorem dX12_canPart_11 : decode cX12_canPart 11 = .ok (.iconst 0, 1) := by decide +kernel
theorem dX12_canPart_12 : decode cX12_canPart 12 = .ok (.iconst 1, 1) := by decide +kernel
theorem dX12_canPart_13 : decode cX12_canPart 13 = .ok (.aload_n 0, 1) := by decide +kernel
theorem dX12_canPart_14 : decode cX12_canPart 14 = .ok (.getfield 24, 3) := by decide +kernel
theorem dX12_canPart_17 : decode cX12_canPart 17 = .ok (.bipush 102, 2) := by decide +kernel
theorem dX12_canPart_19 : decode cX12_canPart 19 = .ok (.iaload, 1) := by decide +kernel
theorem dX12_canPart_20 : decode cX12_canPart 20 = .ok (.ishl, 1) := by decide +kernel
theorem dX12_canPart_21 : decode cX12_canPart 21 = .ok (.iconst 1, 1) := by decide +kernel
theorem dX12_canPart_22 : decode cX12_canPart 22 = .ok (.isub, 1) := by decide +kernel
theorem dX12_canPart_23 : decode cX12_canPart 23 = .ok (.invokestatic 96, 3) := by decide +kernel
theorem dX12_canPart_26 : decode cX12_canPart 26 = .ok (.ifCond .eq 27, 3) := by decide +kernel
theorem dX12_canPart_29 : decode cX12_canPart 29 = .ok (.iload_n 3, 1) := by decide +kernel
theorem dX12_canPart_30 : decode cX12_canPart 30 = .ok (.iconst 0, 1) := by decide +kernel
theorem dX12_canPart_31 : decode cX12_canPart 31 = .ok (.iconst 3, 1) := by decide +kernel
theorem dX12_canPart_32 : decode cX12_canPart 32 = .ok (.invokestatic 96, 3) := by decide +kernel
theorem dX12_canPart_35 : decode cX12_canPart 35 = .ok (.ifCond .eq 18, 3) := by decide +kernel
theorem dX12_canPart_38 : decode cX12_canPart 38 = .ok (.iload 4, 2) := by decide +kernel
theorem dX12_canPart_40 : decode cX12_canPart 40 = .ok (.iconst 0, 1) := by decide +kernel
theorem dX12_canPart_41 : decode cX12_canPart 41 = .ok (.bipush 9, 2) := by decide +kernel
theorem dX12_canPart_43 : decode cX12_canPart 43 = .ok (.invokestatic 96, 3) := by decide +kernel
theorem dX12_canPart_46 : decode cX12_canPart 46 = .ok (.ifCond .eq 7, 3) := by decide +kernel
theorem dX12_canPart_49 : decode cX12_canPart 49 = .ok (.iconst 1, 1) := by decide +kernel
theorem dX12_canPart_50 : decode cX12_canPart 50 = .ok (.goto 4, 3) := by decide +kernel
theorem dX12_canPart_53 : decode cX12_canPart 53 = .ok (.iconst 0, 1) := by decide +kernel
theorem dX12_canPart_54 : decode cX12_canPart 54 = .ok (.ireturn, 1) := by decide +kernel
theorem dX12_addsPart_0 : decode cX12_addsPart 0 = .ok (.aload_n 0, 1) := by decide +kernel
theorem dX12_addsPart_1 : decode cX12_addsPart 1 = .ok (.getfield 24, 3) := by decide +kernel
theorem dX12_addsPart_4 : decode cX12_addsPart 4 = .ok (.bipush 102, 2) := by decide +kernel
theorem dX12_addsPart_6 : decode cX12_addsPart 6 = .ok (.iaload, 1) := by decide +kernel
theorem dX12_addsPart_7 : decode cX12_addsPart 7 = .ok (.istore 5, 2) := by decide +kernel
theorem dX12_addsPart_9 : decode cX12_addsPart 9 = .ok (.aload_n 0, 1) := by decide +kernel
theorem dX12_addsPart_10 : decode cX12_addsPart 10 = .ok (.getfield 24, 3) := by decide +kernel
theorem dX12_addsPart_13 : decode cX12_addsPart 13 = .ok (.bipush 23, 2) := by decide +kernel
theorem dX12_addsPart_15 : decode cX12_addsPart 15 = .ok (.iload 5, 2) := by decide +kernel
theorem dX12_addsPart_17 : decode cX12_addsPart 17 = .ok (.iadd, 1) := by decide +kernel
theorem dX12_addsPart_18 : decode cX12_addsPart 18 = .ok (.iload_n 1, 1) := by decide +kernel
theorem dX12_addsPart_19 : decode cX12_addsPart 19 = .ok (.iastore, 1) := by decide +kernel
theorem dX12_addsPart_20 : decode cX12_addsPart 20 = .ok (.aload_n 0, 1) := by decide +kernel
theorem dX12_addsPart_21 : decode cX12_addsPart 21 = .ok (.getfield 24, 3) := by decide +kernel
theorem dX12_addsPart_24 : decode cX12_addsPart 24 = .ok (.bipush 33, 2) := by decide +kernel
theorem dX12_addsPart_26 : decode cX12_addsPart 26 = .ok (.iload 5, 2) := by decide +kernel
theorem dX12_addsPart_28 : decode cX12_addsPart 28 = .ok (.iadd, 1) := by decide +kernel
theorem dX12_addsPart_29 : decode cX12_addsPart 29 = .ok (.iload_n 2, 1) := by decide +kernel
theorem dX12_addsPart_30 : decode cX12_addsPart 30 = .ok (.iastore, 1) := by decide +kernel
theorem dX12_addsPart_31 : decode cX12_addsPart 31 = .ok (.aload_n 0, 1) := by decide +kernel
theorem dX12_addsPart_32 : decode cX12_addsPart 32 = .ok (.getfield 24, 3) := by decide +kernel
theorem dX12_addsPart_35 : decode cX12_addsPart 35 = .ok (.bipush 43, 2) := by decide +kernel
theorem dX12_addsPart_37 : decode cX12_addsPart 37 = .ok (.iload 5, 2) := by decide +kernel
theorem dX12_addsPart_39 : decode cX12_addsPart 39 = .ok (.iadd, 1) := by decide +kernel
theorem dX12_addsPart_40 : decode cX12_addsPart 40 = .ok (.iload_n 3, 1) := by decide +kernel
theorem dX12_addsPart_41 : decode cX12_addsPart 41 = .ok (.iastore, 1) := by decide +kernel
theorem dX12_addsPart_42 : decode cX12_addsPart 42 = .ok (.aload_n 0, 1) := by decide +kernel
theorem dX12_addsPart_43 : decode cX12_addsPart 43 = .ok (.getfield 24, 3) := by decide +kernel
theorem dX12_addsPart_46 : decode cX12_addsPart 46 = .ok (.bipush 53, 2) := by decide +kernel
theorem dX12_addsPart_48 : decode cX12_addsPart 48 = .ok (.iload 5, 2) := by decide +kernel
theorem dX12_addsPart_50 : decode cX12_addsPart 50 = .ok (.iadd, 1) := by decide +kernel
theorem dX12_addsPart_51 : decode cX12_addsPart 51 = .ok (.iload 4, 2) := by decide +kernel
theorem dX12_addsPart_53 : decode cX12_addsPart 53 = .ok (.iastore, 1) := by decide +kernel
theorem dX12_addsPart_54 : decode cX12_addsPart 54 = .ok (.aload_n 0, 1) := by decide +kernel
theorem dX12_addsPart_55 : decode cX12_addsPart 55 = .ok (.getfield 24, 3) := by decide +kernel
theorem dX12_addsPart_58 : decode cX12_addsPart 58 = .ok (.iconst 0, 1) := by decide +kernel
theorem dX12_addsPart_59 : decode cX12_addsPart 59 = .ok (.iload 5, 2) := by decide +kernel
theorem dX12_addsPart_61 : decode cX12_addsPart 61 = .ok (.iadd, 1) := by decide +kernel
theorem dX12_addsPart_62 : decode cX12_addsPart 62 = .ok (.iload_n 1, 1) := by decide +kernel
theorem dX12_addsPart_63 : decode cX12_addsPart 63 = .ok (.iastore, 1) := by decide +kernel
theorem dX12_addsPart_64 : decode cX12_addsPart 64 = .ok (.aload_n 0, 1) := by decide +kernel
theorem dX12_addsPart_65 : decode cX12_addsPart 65 = .ok (.getfield 24, 3) := by decide +kernel
theorem dX12_addsPart_68 : decode cX12_addsPart 68 = .ok (.bipush 102, 2) := by decide +kernel
theorem dX12_addsPart_70 : decode cX12_addsPart 70 = .ok (.dup2, 1) := by decide +kernel
theorem dX12_addsPart_71 : decode cX12_addsPart 71 = .ok (.iaload, 1) := by decide +kernel
theorem dX12_addsPart_72 : decode cX12_addsPart 72 = .ok (.iconst 1, 1) := by decide +kernel
theorem dX12_addsPart_73 : decode cX12_addsPart 73 = .ok (.iadd, 1) := by decide +kernel
theorem dX12_addsPart_74 : decode cX12_addsPart 74 = .ok (.iastore, 1) := by decide +kernel
theorem dX12_addsPart_75 : decode cX12_addsPart 75 = .ok (.return_, 1) := by decide +kernel
theorem dX12_part_0 : decode cX12_part 0 = .ok (.aload_n 0, 1) := by decide +kernel
theorem dX12_part_1 : decode cX12_part 1 = .ok (.iload_n 1, 1) := by decide +kernel
theorem dX12_part_2 : decode cX12_part 2 = .ok (.iload_n 2, 1) := by decide +kernel
theorem dX12_part_3 : decode cX12_part 3 = .ok (.iload_n 3, 1) := by decide +kernel
theorem dX12_part_4 : decode cX12_part 4 = .ok (.iload 4, 2) := by decide +kernel
theorem dX12_part_6 : decode cX12_part 6 = .ok (.invokevirtual 106, 3) := by decide +kernel
theorem dX12_part_9 : decode cX12_part 9 = .ok (.ifCond .ne 9, 3) := by decide +kernel
theorem dX12_part_12 : decode cX12_part 12 = .ok (.aload_n 0, 1) := by decide +kernel
theorem dX12_part_13 : decode cX12_part 13 = .ok (.iconst (-1), 1) := by decide +kernel
theorem dX12_part_14 : decode cX12_part 14 = .ok (.invokevirtual 100, 3) := by decide +kernel
theorem dX12_part_17 : decode cX12_part 17 = .ok (.ireturn, 1) := by decide +kernel
theorem dX12_part_18 : decode cX12_part 18 = .ok (.aload_n 0, 1) := by decide +kernel
theorem dX12_part_19 : decode cX12_part 19 = .ok (.getfield 24, 3) := by decide +kernel
theorem dX12_part_22 : decode cX12_part 22 = .ok (.bipush 102, 2) := by decide +kernel
theorem dX12_part_24 : decode cX12_part 24 = .ok (.iaload, 1) := by decide +kernel
theorem dX12_part_25 : decode cX12_part 25 = .ok (.bipush 10, 2) := by decide +kernel
theorem dX12_part_27 : decode cX12_part 27 = .ok (.if_icmp .ne 10, 3) := by decide +kernel
theorem dX12_part_37 : decode cX12_part 37 = .ok (.aload_n 0, 1) := by decide +kernel
theorem dX12_part_38 : decode cX12_part 38 = .ok (.iload_n 1, 1) := by decide +kernel
theorem dX12_part_39 : decode cX12_part 39 = .ok (.iload_n 2, 1) := by decide +kernel
theorem dX12_part_40 : decode cX12_part 40 = .ok (.iload_n 3, 1) := by decide +kernel
theorem dX12_part_41 : decode cX12_part 41 = .ok (.iload 4, 2) := by decide +kernel
theorem dX12_part_43 : decode cX12_part 43 = .ok (.invokevirtual 110, 3) := by decide +kernel
theorem dX12_part_46 : decode cX12_part 46 = .ok (.aload_n 0, 1) := by decide +kernel
theorem dX12_part_47 : decode cX12_part 47 = .ok (.aload_n 0, 1) := by decide +kernel
theorem dX12_part_48 : decode cX12_part 48 = .ok (.getfield 24, 3) := by decide +kernel
theorem dX12_part_51 : decode cX12_part 51 = .ok (.bipush 102, 2) := by decide +kernel
theorem dX12_part_53 : decode cX12_part 53 = .ok (.iaload, 1) := by decide +kernel
theorem dX12_part_54 : decode cX12_part 54 = .ok (.iconst 1, 1) := by decide +kernel
theorem dX12_part_55 : decode cX12_part 55 = .ok (.isub, 1) := by decide +kernel
theorem dX12_part_56 : decode cX12_part 56 = .ok (.invokevirtual 103, 3) := by decide +kernel
theorem dX12_part_59 : decode cX12_part 59 = .ok (.ireturn, 1) := by decide +kernel
theorem dX12_standing_0 : decode cX12_standing 0 = .ok (.iconst 0, 1) := by decide +kernel
theorem dX12_standing_1 : decode cX12_standing 1 = .ok (.istore_n 1, 1) := by decide +kernel
theorem dX12_standing_2 : decode cX12_standing 2 = .ok (.iconst 0, 1) := by decide +kernel
theorem dX12_standing_3 : decode cX12_standing 3 = .ok (.istore_n 2, 1) := by decide +kernel
theorem dX12_standing_4 : decode cX12_standing 4 = .ok (.iload_n 2, 1) := by decide +kernel
theorem dX12_standing_5 : decode cX12_standing 5 = .ok (.aload_n 0, 1) := by decide +kernel
theorem dX12_standing_6 : decode cX12_standing 6 = .ok (.getfield 24, 3) := by decide +kernel
theorem dX12_standing_9 : decode cX12_standing 9 = .ok (.bipush 102, 2) := by decide +kernel
theorem dX12_standing_11 : decode cX12_standing 11 = .ok (.iaload, 1) := by decide +kernel
theorem dX12_standing_12 : decode cX12_standing 12 = .ok (.if_icmp .ge 27, 3) := by decide +kernel
theorem dX12_standing_39 : decode cX12_standing 39 = .ok (.iload_n 1, 1) := by decide +kernel
theorem dX12_standing_40 : decode cX12_standing 40 = .ok (.ireturn, 1) := by decide +kernel
theorem dX12_allParts_0 : decode cX12_allParts 0 = .ok (.iconst 1, 1) := by decide +kernel
theorem dX12_allParts_1 : decode cX12_allParts 1 = .ok (.aload_n 0, 1) := by decide +kernel
theorem dX12_allParts_2 : decode cX12_allParts 2 = .ok (.getfield 24, 3) := by decide +kernel
theorem dX12_allParts_5 : decode cX12_allParts 5 = .ok (.bipush 102, 2) := by decide +kernel
theorem dX12_allParts_7 : decode cX12_allParts 7 = .ok (.iaload, 1) := by decide +kernel
theorem dX12_allParts_8 : decode cX12_allParts 8 = .ok (.ishl, 1) := by decide +kernel
theorem dX12_allParts_9 : decode cX12_allParts 9 = .ok (.iconst 1, 1) := by decide +kernel
theorem dX12_allParts_10 : decode cX12_allParts 10 = .ok (.isub, 1) := by decide +kernel
theorem dX12_allParts_11 : decode cX12_allParts 11 = .ok (.ireturn, 1) := by decide +kernel
theorem dX12_of_0 : decode cX12_of 0 = .ok (.aload_n 0, 1) := by decide +kernel
theorem dX12_of_1 : decode cX12_of 1 = .ok (.iload_n 1, 1) := by decide +kernel
theorem dX12_of_2 : decode cX12_of 2 = .ok (.invokevirtual 122, 3) := by decide +kernel
theorem dX12_of_5 : decode cX12_of 5 = .ok (.ifCond .ne 5, 3) := by decide +kernel
theorem dX12_of_8 : decode cX12_of 8 = .ok (.iconst (-1), 1) := by decide +kernel
theorem dX12_of_9 : decode cX12_of 9 = .ok (.ireturn, 1) := by decide +kernel
theorem dX12_builder_0 : decode cX12_builder 0 = .ok (.iload_n 1, 1) := by decide +kernel
theorem dX12_builder_1 : decode cX12_builder 1 = .ok (.iconst 1, 1) := by decide +kernel
theorem dX12_builder_2 : decode cX12_builder 2 = .ok (.bipush 15, 2) := by decide +kernel
theorem dX12_builder_4 : decode cX12_builder 4 = .ok (.invokestatic 96, 3) := by decide +kernel
theorem dX12_builder_7 : decode cX12_builder 7 = .ok (.ifCond .eq 13, 3) := by decide +kernel
theorem dX12_builder_10 : decode cX12_builder 10 = .ok (.iload_n 2, 1) := by decide +kernel
theorem dX12_builder_11 : decode cX12_builder 11 = .ok (.iconst 1, 1) := by decide +kernel
theorem dX12_builder_12 : decode cX12_builder 12 = .ok (.bipush 9, 2) := by decide +kernel
theorem dX12_builder_14 : decode cX12_builder 14 = .ok (.invokestatic 96, 3) := by decide +kernel
theorem dX12_builder_17 : decode cX12_builder 17 = .ok (.ifCond .ne 9, 3) := by decide +kernel
theorem dX12_builder_20 : decode cX12_builder 20 = .ok (.aload_n 0, 1) := by decide +kernel
theorem dX12_builder_21 : decode cX12_builder 21 = .ok (.iconst (-1), 1) := by decide +kernel
theorem dX12_builder_22 : decode cX12_builder 22 = .ok (.invokevirtual 100, 3) := by decide +kernel
theorem dX12_builder_25 : decode cX12_builder 25 = .ok (.ireturn, 1) := by decide +kernel
theorem dX12_builder_26 : decode cX12_builder 26 = .ok (.aload_n 0, 1) := by decide +kernel
theorem dX12_builder_27 : decode cX12_builder 27 = .ok (.getfield 24, 3) := by decide +kernel
theorem dX12_builder_30 : decode cX12_builder 30 = .ok (.bipush 103, 2) := by decide +kernel
theorem dX12_builder_32 : decode cX12_builder 32 = .ok (.iaload, 1) := by decide +kernel
theorem dX12_builder_33 : decode cX12_builder 33 = .ok (.istore_n 3, 1) := by decide +kernel
theorem dX12_builder_34 : decode cX12_builder 34 = .ok (.iload_n 3, 1) := by decide +kernel
theorem dX12_builder_35 : decode cX12_builder 35 = .ok (.bipush 6, 2) := by decide +kernel
theorem dX12_builder_37 : decode cX12_builder 37 = .ok (.if_icmp .ne 10, 3) := by decide +kernel
theorem dX12_builder_47 : decode cX12_builder 47 = .ok (.aload_n 0, 1) := by decide +kernel
theorem dX12_builder_48 : decode cX12_builder 48 = .ok (.getfield 24, 3) := by decide +kernel
theorem dX12_builder_51 : decode cX12_builder 51 = .ok (.bipush 63, 2) := by decide +kernel
theorem dX12_builder_53 : decode cX12_builder 53 = .ok (.iload_n 3, 1) := by decide +kernel
theorem dX12_builder_54 : decode cX12_builder 54 = .ok (.iadd, 1) := by decide +kernel
theorem dX12_builder_55 : decode cX12_builder 55 = .ok (.iload_n 1, 1) := by decide +kernel
theorem dX12_builder_56 : decode cX12_builder 56 = .ok (.iastore, 1) := by decide +kernel
theorem dX12_builder_57 : decode cX12_builder 57 = .ok (.aload_n 0, 1) := by decide +kernel
theorem dX12_builder_58 : decode cX12_builder 58 = .ok (.getfield 24, 3) := by decide +kernel
theorem dX12_builder_61 : decode cX12_builder 61 = .ok (.bipush 69, 2) := by decide +kernel
theorem dX12_builder_63 : decode cX12_builder 63 = .ok (.iload_n 3, 1) := by decide +kernel
theorem dX12_builder_64 : decode cX12_builder 64 = .ok (.iadd, 1) := by decide +kernel
theorem dX12_builder_65 : decode cX12_builder 65 = .ok (.iload_n 2, 1) := by decide +kernel
theorem dX12_builder_66 : decode cX12_builder 66 = .ok (.iastore, 1) := by decide +kernel
theorem dX12_builder_67 : decode cX12_builder 67 = .ok (.aload_n 0, 1) := by decide +kernel
theorem dX12_builder_68 : decode cX12_builder 68 = .ok (.getfield 24, 3) := by decide +kernel
theorem dX12_builder_71 : decode cX12_builder 71 = .ok (.bipush 10, 2) := by decide +kernel
theorem dX12_builder_73 : decode cX12_builder 73 = .ok (.iload_n 3, 1) := by decide +kernel
theorem dX12_builder_74 : decode cX12_builder 74 = .ok (.iadd, 1) := by decide +kernel
theorem dX12_builder_75 : decode cX12_builder 75 = .ok (.iconst 0, 1) := by decide +kernel
theorem dX12_builder_76 : decode cX12_builder 76 = .ok (.iastore, 1) := by decide +kernel
theorem dX12_builder_77 : decode cX12_builder 77 = .ok (.aload_n 0, 1) := by decide +kernel
theorem dX12_builder_78 : decode cX12_builder 78 = .ok (.getfield 24, 3) := by decide +kernel
theorem dX12_builder_81 : decode cX12_builder 81 = .ok (.bipush 16, 2) := by decide +kernel
theorem dX12_builder_83 : decode cX12_builder 83 = .ok (.iload_n 3, 1) := by decide +kernel
theorem dX12_builder_84 : decode cX12_builder 84 = .ok (.iadd, 1) := by decide +kernel
theorem dX12_builder_85 : decode cX12_builder 85 = .ok (.iconst (-1), 1) := by decide +kernel
theorem dX12_builder_86 : decode cX12_builder 86 = .ok (.iastore, 1) := by decide +kernel
theorem dX12_builder_87 : decode cX12_builder 87 = .ok (.aload_n 0, 1) := by decide +kernel
theorem dX12_builder_88 : decode cX12_builder 88 = .ok (.getfield 24, 3) := by decide +kernel
theorem dX12_builder_91 : decode cX12_builder 91 = .ok (.bipush 103, 2) := by decide +kernel
theorem dX12_builder_93 : decode cX12_builder 93 = .ok (.dup2, 1) := by decide +kernel
theorem dX12_builder_94 : decode cX12_builder 94 = .ok (.iaload, 1) := by decide +kernel
theorem dX12_builder_95 : decode cX12_builder 95 = .ok (.iconst 1, 1) := by decide +kernel
theorem dX12_builder_96 : decode cX12_builder 96 = .ok (.iadd, 1) := by decide +kernel
theorem dX12_builder_97 : decode cX12_builder 97 = .ok (.iastore, 1) := by decide +kernel
theorem dX12_builder_98 : decode cX12_builder 98 = .ok (.aload_n 0, 1) := by decide +kernel
theorem dX12_builder_99 : decode cX12_builder 99 = .ok (.iload_n 3, 1) := by decide +kernel
theorem dX12_builder_100 : decode cX12_builder 100 = .ok (.invokevirtual 103, 3) := by decide +kernel
theorem dX12_builder_103 : decode cX12_builder 103 = .ok (.ireturn, 1) := by decide +kernel
theorem dX12_at_0 : decode cX12_at 0 = .ok (.aload_n 0, 1) := by decide +kernel
theorem dX12_at_1 : decode cX12_at 1 = .ok (.iload_n 1, 1) := by decide +kernel
theorem dX12_at_2 : decode cX12_at 2 = .ok (.invokevirtual 131, 3) := by decide +kernel
theorem dX12_at_5 : decode cX12_at 5 = .ok (.ifCond .ne 5, 3) := by decide +kernel
theorem dX12_at_8 : decode cX12_at 8 = .ok (.iconst (-1), 1) := by decide +kernel
theorem dX12_at_9 : decode cX12_at 9 = .ok (.ireturn, 1) := by decide +kernel
theorem dX12_isTerm_0 : decode cX12_isTerm 0 = .ok (.iload_n 0, 1) := by decide +kernel
theorem dX12_isTerm_1 : decode cX12_isTerm 1 = .ok (.tableswitch 64 0 3 #[31, 40, 48, 56], 31) := by decide +kernel
theorem dX12_isTerm_32 : decode cX12_isTerm 32 = .ok (.iload_n 1, 1) := by decide +kernel
theorem dX12_isTerm_33 : decode cX12_isTerm 33 = .ok (.iconst 0, 1) := by decide +kernel
theorem dX12_isTerm_34 : decode cX12_isTerm 34 = .ok (.sipush 999, 3) := by decide +kernel
theorem dX12_isTerm_37 : decode cX12_isTerm 37 = .ok (.invokestatic 96, 3) := by decide +kernel
theorem dX12_isTerm_40 : decode cX12_isTerm 40 = .ok (.ireturn, 1) := by decide +kernel
theorem dX12_isTerm_41 : decode cX12_isTerm 41 = .ok (.iload_n 1, 1) := by decide +kernel
theorem dX12_isTerm_42 : decode cX12_isTerm 42 = .ok (.iconst 1, 1) := by decide +kernel
theorem dX12_isTerm_43 : decode cX12_isTerm 43 = .ok (.bipush 99, 2) := by decide +kernel
theorem dX12_isTerm_45 : decode cX12_isTerm 45 = .ok (.invokestatic 96, 3) := by decide +kernel
theorem dX12_isTerm_48 : decode cX12_isTerm 48 = .ok (.ireturn, 1) := by decide +kernel
theorem dX12_isTerm_49 : decode cX12_isTerm 49 = .ok (.iload_n 1, 1) := by decide +kernel
theorem dX12_isTerm_50 : decode cX12_isTerm 50 = .ok (.iconst 0, 1) := by decide +kernel
theorem dX12_isTerm_51 : decode cX12_isTerm 51 = .ok (.bipush 10, 2) := by decide +kernel
theorem dX12_isTerm_53 : decode cX12_isTerm 53 = .ok (.invokestatic 96, 3) := by decide +kernel
theorem dX12_isTerm_56 : decode cX12_isTerm 56 = .ok (.ireturn, 1) := by decide +kernel
theorem dX12_isTerm_57 : decode cX12_isTerm 57 = .ok (.iload_n 1, 1) := by decide +kernel
theorem dX12_isTerm_58 : decode cX12_isTerm 58 = .ok (.iconst 0, 1) := by decide +kernel
theorem dX12_isTerm_59 : decode cX12_isTerm 59 = .ok (.bipush 9, 2) := by decide +kernel
theorem dX12_isTerm_61 : decode cX12_isTerm 61 = .ok (.invokestatic 96, 3) := by decide +kernel
theorem dX12_isTerm_64 : decode cX12_isTerm 64 = .ok (.ireturn, 1) := by decide +kernel
theorem dX12_isTerm_65 : decode cX12_isTerm 65 = .ok (.iconst 0, 1) := by decide +kernel
theorem dX12_isTerm_66 : decode cX12_isTerm 66 = .ok (.ireturn, 1) := by decide +kernel
theorem dX12_terms_0 : decode cX12_terms 0 = .ok (.iload_n 1, 1) := by decide +kernel
theorem dX12_terms_1 : decode cX12_terms 1 = .ok (.iload_n 2, 1) := by decide +kernel
theorem dX12_terms_2 : decode cX12_terms 2 = .ok (.invokestatic 134, 3) := by decide +kernel
theorem dX12_terms_5 : decode cX12_terms 5 = .ok (.ifCond .ne 9, 3) := by decide +kernel
theorem dX12_terms_8 : decode cX12_terms 8 = .ok (.aload_n 0, 1) := by decide +kernel
theorem dX12_terms_9 : decode cX12_terms 9 = .ok (.iconst (-1), 1) := by decide +kernel
theorem dX12_terms_10 : decode cX12_terms 10 = .ok (.invokevirtual 100, 3) := by decide +kernel
theorem dX12_terms_13 : decode cX12_terms 13 = .ok (.ireturn, 1) := by decide +kernel
theorem dX12_terms_14 : decode cX12_terms 14 = .ok (.iload_n 1, 1) := by decide +kernel
theorem dX12_terms_15 : decode cX12_terms 15 = .ok (.ifCond .ne 8, 3) := by decide +kernel
theorem dX12_terms_18 : decode cX12_terms 18 = .ok (.bipush 22, 2) := by decide +kernel
theorem dX12_terms_20 : decode cX12_terms 20 = .ok (.goto 9, 3) := by decide +kernel
theorem dX12_terms_23 : decode cX12_terms 23 = .ok (.bipush 99, 2) := by decide +kernel
theorem dX12_terms_25 : decode cX12_terms 25 = .ok (.iload_n 1, 1) := by decide +kernel
theorem dX12_terms_26 : decode cX12_terms 26 = .ok (.iadd, 1) := by decide +kernel
theorem dX12_terms_27 : decode cX12_terms 27 = .ok (.iconst 1, 1) := by decide +kernel
theorem dX12_terms_28 : decode cX12_terms 28 = .ok (.isub, 1) := by decide +kernel
theorem dX12_terms_29 : decode cX12_terms 29 = .ok (.istore_n 3, 1) := by decide +kernel
theorem dX12_terms_30 : decode cX12_terms 30 = .ok (.aload_n 0, 1) := by decide +kernel
theorem dX12_terms_31 : decode cX12_terms 31 = .ok (.getfield 24, 3) := by decide +kernel
theorem dX12_terms_34 : decode cX12_terms 34 = .ok (.iload_n 3, 1) := by decide +kernel
theorem dX12_terms_35 : decode cX12_terms 35 = .ok (.iaload, 1) := by decide +kernel
theorem dX12_terms_36 : decode cX12_terms 36 = .ok (.istore 4, 2) := by decide +kernel
theorem dX12_terms_38 : decode cX12_terms 38 = .ok (.aload_n 0, 1) := by decide +kernel
theorem dX12_terms_39 : decode cX12_terms 39 = .ok (.getfield 24, 3) := by decide +kernel
theorem dX12_terms_42 : decode cX12_terms 42 = .ok (.iload_n 3, 1) := by decide +kernel
theorem dX12_terms_43 : decode cX12_terms 43 = .ok (.iload_n 2, 1) := by decide +kernel
theorem dX12_terms_44 : decode cX12_terms 44 = .ok (.iastore, 1) := by decide +kernel
theorem dX12_terms_45 : decode cX12_terms 45 = .ok (.aload_n 0, 1) := by decide +kernel
theorem dX12_terms_46 : decode cX12_terms 46 = .ok (.iload 4, 2) := by decide +kernel
theorem dX12_terms_48 : decode cX12_terms 48 = .ok (.invokevirtual 103, 3) := by decide +kernel
theorem dX12_terms_51 : decode cX12_terms 51 = .ok (.ireturn, 1) := by decide +kernel
theorem dX12_row_0 : decode cX12_row 0 = .ok (.aload_n 0, 1) := by decide +kernel
theorem dX12_row_1 : decode cX12_row 1 = .ok (.getfield 138, 3) := by decide +kernel
theorem dX12_row_4 : decode cX12_row 4 = .ok (.istore_n 1, 1) := by decide +kernel
theorem dX12_row_5 : decode cX12_row 5 = .ok (.aload_n 0, 1) := by decide +kernel
theorem dX12_row_6 : decode cX12_row 6 = .ok (.iconst 0, 1) := by decide +kernel
theorem dX12_row_7 : decode cX12_row 7 = .ok (.putfield 138, 3) := by decide +kernel
theorem dX12_row_10 : decode cX12_row 10 = .ok (.iload_n 1, 1) := by decide +kernel
theorem dX12_row_11 : decode cX12_row 11 = .ok (.ifCond .ne 10, 3) := by decide +kernel
theorem dX12_row_14 : decode cX12_row 14 = .ok (.aload_n 0, 1) := by decide +kernel
theorem dX12_row_15 : decode cX12_row 15 = .ok (.bipush (-6), 2) := by decide +kernel
theorem dX12_row_17 : decode cX12_row 17 = .ok (.invokevirtual 100, 3) := by decide +kernel
theorem dX12_row_20 : decode cX12_row 20 = .ok (.ireturn, 1) := by decide +kernel
theorem dX12_chaff_0 : decode cX12_chaff 0 = .ok (.aload_n 0, 1) := by decide +kernel
theorem dX12_chaff_1 : decode cX12_chaff 1 = .ok (.getfield 141, 3) := by decide +kernel
theorem dX12_chaff_4 : decode cX12_chaff 4 = .ok (.ireturn, 1) := by decide +kernel
theorem dX12_feed_0 : decode cX12_feed 0 = .ok (.aload_n 0, 1) := by decide +kernel
theorem dX12_feed_1 : decode cX12_feed 1 = .ok (.getfield 138, 3) := by decide +kernel
theorem dX12_feed_4 : decode cX12_feed 4 = .ok (.bipush 20, 2) := by decide +kernel
theorem dX12_feed_6 : decode cX12_feed 6 = .ok (.iadd, 1) := by decide +kernel
theorem dX12_feed_7 : decode cX12_feed 7 = .ok (.sipush 400, 3) := by decide +kernel
theorem dX12_feed_10 : decode cX12_feed 10 = .ok (.if_icmp .le 5, 3) := by decide +kernel
theorem dX12_feed_15 : decode cX12_feed 15 = .ok (.aload_n 0, 1) := by decide +kernel
theorem dX12_feed_16 : decode cX12_feed 16 = .ok (.getfield 44, 3) := by decide +kernel
theorem dX12_feed_19 : decode cX12_feed 19 = .ok (.iconst 0, 1) := by decide +kernel
theorem dX12_feed_20 : decode cX12_feed 20 = .ok (.iload_n 1, 1) := by decide +kernel
theorem dX12_feed_21 : decode cX12_feed 21 = .ok (.iastore, 1) := by decide +kernel
theorem dX12_feed_22 : decode cX12_feed 22 = .ok (.aload_n 0, 1) := by decide +kernel
theorem dX12_feed_23 : decode cX12_feed 23 = .ok (.getfield 44, 3) := by decide +kernel
theorem dX12_feed_26 : decode cX12_feed 26 = .ok (.iconst 1, 1) := by decide +kernel
theorem dX12_feed_27 : decode cX12_feed 27 = .ok (.iload_n 2, 1) := by decide +kernel
theorem dX12_feed_28 : decode cX12_feed 28 = .ok (.iastore, 1) := by decide +kernel
theorem dX12_feed_29 : decode cX12_feed 29 = .ok (.aload_n 0, 1) := by decide +kernel
theorem dX12_feed_30 : decode cX12_feed 30 = .ok (.getfield 44, 3) := by decide +kernel
theorem dX12_feed_33 : decode cX12_feed 33 = .ok (.iconst 2, 1) := by decide +kernel
theorem dX12_feed_34 : decode cX12_feed 34 = .ok (.iload_n 3, 1) := by decide +kernel
theorem dX12_feed_35 : decode cX12_feed 35 = .ok (.iastore, 1) := by decide +kernel
theorem dX12_feed_36 : decode cX12_feed 36 = .ok (.aload_n 0, 1) := by decide +kernel
theorem dX12_feed_37 : decode cX12_feed 37 = .ok (.getfield 44, 3) := by decide +kernel
theorem dX12_feed_40 : decode cX12_feed 40 = .ok (.iconst 3, 1) := by decide +kernel
theorem dX12_feed_41 : decode cX12_feed 41 = .ok (.iload 4, 2) := by decide +kernel
theorem dX12_feed_43 : decode cX12_feed 43 = .ok (.iastore, 1) := by decide +kernel
theorem dX12_feed_44 : decode cX12_feed 44 = .ok (.aload_n 0, 1) := by decide +kernel
theorem dX12_feed_45 : decode cX12_feed 45 = .ok (.getfield 44, 3) := by decide +kernel
theorem dX12_feed_48 : decode cX12_feed 48 = .ok (.iconst 4, 1) := by decide +kernel
theorem dX12_feed_49 : decode cX12_feed 49 = .ok (.iload 5, 2) := by decide +kernel
theorem dX12_feed_51 : decode cX12_feed 51 = .ok (.iastore, 1) := by decide +kernel
theorem dX12_feed_52 : decode cX12_feed 52 = .ok (.iconst 0, 1) := by decide +kernel
theorem dX12_feed_53 : decode cX12_feed 53 = .ok (.istore 6, 2) := by decide +kernel
theorem dX12_feed_55 : decode cX12_feed 55 = .ok (.iload 6, 2) := by decide +kernel
theorem dX12_feed_57 : decode cX12_feed 57 = .ok (.bipush 20, 2) := by decide +kernel
theorem dX12_feed_59 : decode cX12_feed 59 = .ok (.if_icmp .ge 42, 3) := by decide +kernel
theorem dX12_feed_62 : decode cX12_feed 62 = .ok (.aload_n 0, 1) := by decide +kernel
theorem dX12_feed_63 : decode cX12_feed 63 = .ok (.getfield 41, 3) := by decide +kernel
theorem dX12_feed_66 : decode cX12_feed 66 = .ok (.aload_n 0, 1) := by decide +kernel
theorem dX12_feed_67 : decode cX12_feed 67 = .ok (.getfield 138, 3) := by decide +kernel
theorem dX12_feed_70 : decode cX12_feed 70 = .ok (.iload 6, 2) := by decide +kernel
theorem dX12_feed_72 : decode cX12_feed 72 = .ok (.iadd, 1) := by decide +kernel
theorem dX12_feed_73 : decode cX12_feed 73 = .ok (.aload_n 0, 1) := by decide +kernel
theorem dX12_feed_74 : decode cX12_feed 74 = .ok (.getfield 44, 3) := by decide +kernel
theorem dX12_feed_77 : decode cX12_feed 77 = .ok (.iload 6, 2) := by decide +kernel
theorem dX12_feed_79 : decode cX12_feed 79 = .ok (.iconst 4, 1) := by decide +kernel
theorem dX12_feed_80 : decode cX12_feed 80 = .ok (.idiv, 1) := by decide +kernel
theorem dX12_feed_81 : decode cX12_feed 81 = .ok (.iaload, 1) := by decide +kernel
theorem dX12_feed_82 : decode cX12_feed 82 = .ok (.bipush 24, 2) := by decide +kernel
theorem dX12_feed_84 : decode cX12_feed 84 = .ok (.bipush 8, 2) := by decide +kernel
theorem dX12_feed_86 : decode cX12_feed 86 = .ok (.iload 6, 2) := by decide +kernel
theorem dX12_feed_88 : decode cX12_feed 88 = .ok (.iconst 4, 1) := by decide +kernel
theorem dX12_feed_89 : decode cX12_feed 89 = .ok (.irem, 1) := by decide +kernel
theorem dX12_feed_90 : decode cX12_feed 90 = .ok (.imul, 1) := by decide +kernel
theorem dX12_feed_91 : decode cX12_feed 91 = .ok (.isub, 1) := by decide +kernel
theorem dX12_feed_92 : decode cX12_feed 92 = .ok (.ishr, 1) := by decide +kernel
theorem dX12_feed_93 : decode cX12_feed 93 = .ok (.i2b, 1) := by decide +kernel
theorem dX12_feed_94 : decode cX12_feed 94 = .ok (.bastore, 1) := by decide +kernel
theorem dX12_feed_95 : decode cX12_feed 95 = .ok (.iinc 6 1, 3) := by decide +kernel
theorem dX12_feed_98 : decode cX12_feed 98 = .ok (.goto (-43), 3) := by decide +kernel
theorem dX12_feed_101 : decode cX12_feed 101 = .ok (.aload_n 0, 1) := by decide +kernel
theorem dX12_feed_102 : decode cX12_feed 102 = .ok (.dup, 1) := by decide +kernel
theorem dX12_feed_103 : decode cX12_feed 103 = .ok (.getfield 138, 3) := by decide +kernel
theorem dX12_feed_106 : decode cX12_feed 106 = .ok (.bipush 20, 2) := by decide +kernel
theorem dX12_feed_108 : decode cX12_feed 108 = .ok (.iadd, 1) := by decide +kernel
theorem dX12_feed_109 : decode cX12_feed 109 = .ok (.putfield 138, 3) := by decide +kernel
theorem dX12_feed_112 : decode cX12_feed 112 = .ok (.aload_n 0, 1) := by decide +kernel
theorem dX12_feed_113 : decode cX12_feed 113 = .ok (.getfield 138, 3) := by decide +kernel
theorem dX12_feed_116 : decode cX12_feed 116 = .ok (.ireturn, 1) := by decide +kernel
theorem dX12_end_0 : decode cX12_end 0 = .ok (.iload_n 1, 1) := by decide +kernel
theorem dX12_end_1 : decode cX12_end 1 = .ok (.iconst 0, 1) := by decide +kernel
theorem dX12_end_2 : decode cX12_end 2 = .ok (.aload_n 0, 1) := by decide +kernel
theorem dX12_end_3 : decode cX12_end 3 = .ok (.getfield 138, 3) := by decide +kernel
theorem dX12_end_6 : decode cX12_end 6 = .ok (.invokestatic 96, 3) := by decide +kernel
theorem dX12_end_9 : decode cX12_end 9 = .ok (.ifCond .ne 5, 3) := by decide +kernel
theorem dX12_end_12 : decode cX12_end 12 = .ok (.iconst (-1), 1) := by decide +kernel
theorem dX12_end_13 : decode cX12_end 13 = .ok (.ireturn, 1) := by decide +kernel
theorem dX12_end_14 : decode cX12_end 14 = .ok (.aload_n 0, 1) := by decide +kernel
theorem dX12_end_15 : decode cX12_end 15 = .ok (.iload_n 1, 1) := by decide +kernel
theorem dX12_end_16 : decode cX12_end 16 = .ok (.putfield 138, 3) := by decide +kernel
theorem dX12_end_19 : decode cX12_end 19 = .ok (.iload_n 1, 1) := by decide +kernel
theorem dX12_end_20 : decode cX12_end 20 = .ok (.ireturn, 1) := by decide +kernel
theorem dX12_splits_0 : decode cX12_splits 0 = .ok (.aload_n 0, 1) := by decide +kernel
theorem dX12_splits_1 : decode cX12_splits 1 = .ok (.iconst 0, 1) := by decide +kernel
theorem dX12_splits_2 : decode cX12_splits 2 = .ok (.putfield 144, 3) := by decide +kernel
theorem dX12_splits_5 : decode cX12_splits 5 = .ok (.iconst 0, 1) := by decide +kernel
theorem dX12_splits_6 : decode cX12_splits 6 = .ok (.istore_n 2, 1) := by decide +kernel
theorem dX12_splits_7 : decode cX12_splits 7 = .ok (.iload_n 2, 1) := by decide +kernel
theorem dX12_splits_8 : decode cX12_splits 8 = .ok (.iload_n 1, 1) := by decide +kernel
theorem dX12_splits_9 : decode cX12_splits 9 = .ok (.if_icmp .ge 254, 3) := by decide +kernel
theorem dX12_splits_263 : decode cX12_splits 263 = .ok (.aload_n 0, 1) := by decide +kernel
theorem dX12_splits_264 : decode cX12_splits 264 = .ok (.getfield 56, 3) := by decide +kernel
theorem dX12_splits_267 : decode cX12_splits 267 = .ok (.aload_n 0, 1) := by decide +kernel
theorem dX12_splits_268 : decode cX12_splits 268 = .ok (.getfield 144, 3) := by decide +kernel
theorem dX12_splits_271 : decode cX12_splits 271 = .ok (.iload_n 1, 1) := by decide +kernel
theorem dX12_splits_272 : decode cX12_splits 272 = .ok (.iastore, 1) := by decide +kernel
theorem dX12_splits_273 : decode cX12_splits 273 = .ok (.aload_n 0, 1) := by decide +kernel
theorem dX12_splits_274 : decode cX12_splits 274 = .ok (.getfield 50, 3) := by decide +kernel
theorem dX12_splits_277 : decode cX12_splits 277 = .ok (.aload_n 0, 1) := by decide +kernel
theorem dX12_splits_278 : decode cX12_splits 278 = .ok (.getfield 144, 3) := by decide +kernel
theorem dX12_splits_281 : decode cX12_splits 281 = .ok (.iconst 0, 1) := by decide +kernel
theorem dX12_splits_282 : decode cX12_splits 282 = .ok (.iastore, 1) := by decide +kernel
theorem dX12_splits_283 : decode cX12_splits 283 = .ok (.aload_n 0, 1) := by decide +kernel
theorem dX12_splits_284 : decode cX12_splits 284 = .ok (.getfield 53, 3) := by decide +kernel
theorem dX12_splits_287 : decode cX12_splits 287 = .ok (.aload_n 0, 1) := by decide +kernel
theorem dX12_splits_288 : decode cX12_splits 288 = .ok (.getfield 144, 3) := by decide +kernel
theorem dX12_splits_291 : decode cX12_splits 291 = .ok (.iconst 0, 1) := by decide +kernel
theorem dX12_splits_292 : decode cX12_splits 292 = .ok (.iastore, 1) := by decide +kernel
theorem dX12_splits_293 : decode cX12_splits 293 = .ok (.return_, 1) := by decide +kernel
theorem dX12_fine_0 : decode cX12_fine 0 = .ok (.aload_n 0, 1) := by decide +kernel
theorem dX12_fine_1 : decode cX12_fine 1 = .ok (.getfield 158, 3) := by decide +kernel
theorem dX12_fine_4 : decode cX12_fine 4 = .ok (.iconst (-1), 1) := by decide +kernel
theorem dX12_fine_5 : decode cX12_fine 5 = .ok (.if_icmp .ne 7, 3) := by decide +kernel
theorem dX12_fine_8 : decode cX12_fine 8 = .ok (.iconst 1, 1) := by decide +kernel
theorem dX12_fine_9 : decode cX12_fine 9 = .ok (.goto 4, 3) := by decide +kernel
theorem dX12_fine_12 : decode cX12_fine 12 = .ok (.iconst 0, 1) := by decide +kernel
theorem dX12_fine_13 : decode cX12_fine 13 = .ok (.ireturn, 1) := by decide +kernel
theorem dX12_faults_0 : decode cX12_faults 0 = .ok (.aload_n 0, 1) := by decide +kernel
theorem dX12_faults_1 : decode cX12_faults 1 = .ok (.invokevirtual 161, 3) := by decide +kernel
theorem dX12_faults_4 : decode cX12_faults 4 = .ok (.ifCond .eq 16, 3) := by decide +kernel
theorem dX12_faults_7 : decode cX12_faults 7 = .ok (.aload_n 0, 1) := by decide +kernel
theorem dX12_faults_8 : decode cX12_faults 8 = .ok (.aload_n 0, 1) := by decide +kernel
theorem dX12_faults_9 : decode cX12_faults 9 = .ok (.getfield 56, 3) := by decide +kernel
theorem dX12_faults_12 : decode cX12_faults 12 = .ok (.aload_n 0, 1) := by decide +kernel
theorem dX12_faults_13 : decode cX12_faults 13 = .ok (.getfield 165, 3) := by decide +kernel
theorem dX12_faults_16 : decode cX12_faults 16 = .ok (.iaload, 1) := by decide +kernel
theorem dX12_faults_17 : decode cX12_faults 17 = .ok (.putfield 158, 3) := by decide +kernel
theorem dX12_faults_20 : decode cX12_faults 20 = .ok (.return_, 1) := by decide +kernel
theorem dX12_takes0_0 : decode cX12_takes0 0 = .ok (.aload_n 0, 1) := by decide +kernel
theorem dX12_takes0_1 : decode cX12_takes0 1 = .ok (.invokevirtual 161, 3) := by decide +kernel
theorem dX12_takes0_4 : decode cX12_takes0 4 = .ok (.ifCond .eq 20, 3) := by decide +kernel
theorem dX12_takes0_7 : decode cX12_takes0 7 = .ok (.aload_n 0, 1) := by decide +kernel
theorem dX12_takes0_8 : decode cX12_takes0 8 = .ok (.getfield 50, 3) := by decide +kernel
theorem dX12_takes0_11 : decode cX12_takes0 11 = .ok (.aload_n 0, 1) := by decide +kernel
theorem dX12_takes0_12 : decode cX12_takes0 12 = .ok (.getfield 165, 3) := by decide +kernel
theorem dX12_takes0_15 : decode cX12_takes0 15 = .ok (.iaload, 1) := by decide +kernel
theorem dX12_takes0_16 : decode cX12_takes0 16 = .ok (.iload_n 1, 1) := by decide +kernel
theorem dX12_takes0_17 : decode cX12_takes0 17 = .ok (.if_icmp .ne 7, 3) := by decide +kernel
theorem dX12_takes0_24 : decode cX12_takes0 24 = .ok (.iconst 0, 1) := by decide +kernel
theorem dX12_takes0_25 : decode cX12_takes0 25 = .ok (.istore_n 2, 1) := by decide +kernel
theorem dX12_takes0_26 : decode cX12_takes0 26 = .ok (.iload_n 2, 1) := by decide +kernel
theorem dX12_takes0_27 : decode cX12_takes0 27 = .ok (.ifCond .eq 13, 3) := by decide +kernel
theorem dX12_takes0_40 : decode cX12_takes0 40 = .ok (.iload_n 2, 1) := by decide +kernel
theorem dX12_takes0_41 : decode cX12_takes0 41 = .ok (.ireturn, 1) := by decide +kernel
theorem dX12_must_0 : decode cX12_must 0 = .ok (.aload_n 0, 1) := by decide +kernel
theorem dX12_must_1 : decode cX12_must 1 = .ok (.iload_n 1, 1) := by decide +kernel
theorem dX12_must_2 : decode cX12_must 2 = .ok (.invokevirtual 168, 3) := by decide +kernel
theorem dX12_must_5 : decode cX12_must 5 = .ok (.ifCond .ne 7, 3) := by decide +kernel
theorem dX12_must_8 : decode cX12_must 8 = .ok (.aload_n 0, 1) := by decide +kernel
theorem dX12_must_9 : decode cX12_must 9 = .ok (.invokevirtual 171, 3) := by decide +kernel
theorem dX12_must_12 : decode cX12_must 12 = .ok (.return_, 1) := by decide +kernel
theorem dX12_sign_0 : decode cX12_sign 0 = .ok (.bipush 100, 2) := by decide +kernel
theorem dX12_sign_2 : decode cX12_sign 2 = .ok (.iload_n 0, 1) := by decide +kernel
theorem dX12_sign_3 : decode cX12_sign 3 = .ok (.iadd, 1) := by decide +kernel
theorem dX12_sign_4 : decode cX12_sign 4 = .ok (.ireturn, 1) := by decide +kernel
theorem dX12_readClause_0 : decode cX12_readClause 0 = .ok (.aload_n 0, 1) := by decide +kernel
theorem dX12_readClause_1 : decode cX12_readClause 1 = .ok (.iconst 1, 1) := by decide +kernel
theorem dX12_readClause_2 : decode cX12_readClause 2 = .ok (.invokevirtual 168, 3) := by decide +kernel
theorem dX12_readClause_5 : decode cX12_readClause 5 = .ok (.ifCond .ne 19, 3) := by decide +kernel
theorem dX12_readClause_8 : decode cX12_readClause 8 = .ok (.aload_n 0, 1) := by decide +kernel
theorem dX12_readClause_9 : decode cX12_readClause 9 = .ok (.iconst 2, 1) := by decide +kernel
theorem dX12_readClause_10 : decode cX12_readClause 10 = .ok (.invokevirtual 168, 3) := by decide +kernel
theorem dX12_readClause_13 : decode cX12_readClause 13 = .ok (.ifCond .ne 11, 3) := by decide +kernel
theorem dX12_readClause_16 : decode cX12_readClause 16 = .ok (.aload_n 0, 1) := by decide +kernel
theorem dX12_readClause_17 : decode cX12_readClause 17 = .ok (.iconst 3, 1) := by decide +kernel
theorem dX12_readClause_18 : decode cX12_readClause 18 = .ok (.invokevirtual 168, 3) := by decide +kernel
theorem dX12_readClause_21 : decode cX12_readClause 21 = .ok (.ifCond .eq 11, 3) := by decide +kernel
theorem dX12_readClause_32 : decode cX12_readClause 32 = .ok (.aload_n 0, 1) := by decide +kernel
theorem dX12_readClause_33 : decode cX12_readClause 33 = .ok (.iconst 4, 1) := by decide +kernel
theorem dX12_readClause_34 : decode cX12_readClause 34 = .ok (.invokevirtual 181, 3) := by decide +kernel
theorem dX12_readClause_37 : decode cX12_readClause 37 = .ok (.aload_n 0, 1) := by decide +kernel
theorem dX12_readClause_38 : decode cX12_readClause 38 = .ok (.iconst 5, 1) := by decide +kernel
theorem dX12_readClause_39 : decode cX12_readClause 39 = .ok (.invokevirtual 168, 3) := by decide +kernel
theorem dX12_readClause_42 : decode cX12_readClause 42 = .ok (.ifCond .eq 8, 3) := by decide +kernel
theorem dX12_readClause_50 : decode cX12_readClause 50 = .ok (.return_, 1) := by decide +kernel
theorem dX12_readOrder_0 : decode cX12_readOrder 0 = .ok (.aload_n 0, 1) := by decide +kernel
theorem dX12_readOrder_1 : decode cX12_readOrder 1 = .ok (.bipush 23, 2) := by decide +kernel
theorem dX12_readOrder_3 : decode cX12_readOrder 3 = .ok (.invokevirtual 168, 3) := by decide +kernel
theorem dX12_readOrder_6 : decode cX12_readOrder 6 = .ok (.ifCond .eq 22, 3) := by decide +kernel
theorem dX12_readOrder_28 : decode cX12_readOrder 28 = .ok (.aload_n 0, 1) := by decide +kernel
theorem dX12_readOrder_29 : decode cX12_readOrder 29 = .ok (.bipush 25, 2) := by decide +kernel
theorem dX12_readOrder_31 : decode cX12_readOrder 31 = .ok (.invokevirtual 168, 3) := by decide +kernel
theorem dX12_readOrder_34 : decode cX12_readOrder 34 = .ok (.ifCond .ne 12, 3) := by decide +kernel
theorem dX12_readOrder_37 : decode cX12_readOrder 37 = .ok (.aload_n 0, 1) := by decide +kernel
theorem dX12_readOrder_38 : decode cX12_readOrder 38 = .ok (.bipush 26, 2) := by decide +kernel
theorem dX12_readOrder_40 : decode cX12_readOrder 40 = .ok (.invokevirtual 168, 3) := by decide +kernel
theorem dX12_readOrder_43 : decode cX12_readOrder 43 = .ok (.ifCond .eq 11, 3) := by decide +kernel
theorem dX12_readOrder_54 : decode cX12_readOrder 54 = .ok (.aload_n 0, 1) := by decide +kernel
theorem dX12_readOrder_55 : decode cX12_readOrder 55 = .ok (.bipush 27, 2) := by decide +kernel
theorem dX12_readOrder_57 : decode cX12_readOrder 57 = .ok (.invokevirtual 181, 3) := by decide +kernel
theorem dX12_readOrder_60 : decode cX12_readOrder 60 = .ok (.aload_n 0, 1) := by decide +kernel
theorem dX12_readOrder_61 : decode cX12_readOrder 61 = .ok (.bipush 28, 2) := by decide +kernel
theorem dX12_readOrder_63 : decode cX12_readOrder 63 = .ok (.invokevirtual 168, 3) := by decide +kernel
theorem dX12_readOrder_66 : decode cX12_readOrder 66 = .ok (.ifCond .eq 10, 3) := by decide +kernel
theorem dX12_readOrder_76 : decode cX12_readOrder 76 = .ok (.aload_n 0, 1) := by decide +kernel
theorem dX12_readOrder_77 : decode cX12_readOrder 77 = .ok (.iconst 5, 1) := by decide +kernel
theorem dX12_readOrder_78 : decode cX12_readOrder 78 = .ok (.invokevirtual 168, 3) := by decide +kernel
theorem dX12_readOrder_81 : decode cX12_readOrder 81 = .ok (.ifCond .eq 8, 3) := by decide +kernel
theorem dX12_readOrder_89 : decode cX12_readOrder 89 = .ok (.return_, 1) := by decide +kernel
theorem dX12_readOne_0 : decode cX12_readOne 0 = .ok (.aload_n 0, 1) := by decide +kernel
theorem dX12_readOne_1 : decode cX12_readOne 1 = .ok (.getfield 191, 3) := by decide +kernel
theorem dX12_readOne_4 : decode cX12_readOne 4 = .ok (.ifCond .eq 10, 3) := by decide +kernel
theorem dX12_readOne_7 : decode cX12_readOne 7 = .ok (.aload_n 0, 1) := by decide +kernel
theorem dX12_readOne_8 : decode cX12_readOne 8 = .ok (.invokevirtual 195, 3) := by decide +kernel
theorem dX12_readOne_11 : decode cX12_readOne 11 = .ok (.goto 7, 3) := by decide +kernel
theorem dX12_readOne_14 : decode cX12_readOne 14 = .ok (.aload_n 0, 1) := by decide +kernel
theorem dX12_readOne_15 : decode cX12_readOne 15 = .ok (.invokevirtual 198, 3) := by decide +kernel
theorem dX12_readOne_18 : decode cX12_readOne 18 = .ok (.return_, 1) := by decide +kernel
theorem dX12_reads_0 : decode cX12_reads 0 = .ok (.aload_n 0, 1) := by decide +kernel
theorem dX12_reads_1 : decode cX12_reads 1 = .ok (.aload_n 0, 1) := by decide +kernel
theorem dX12_reads_2 : decode cX12_reads 2 = .ok (.getfield 138, 3) := by decide +kernel
theorem dX12_reads_5 : decode cX12_reads 5 = .ok (.invokevirtual 226, 3) := by decide +kernel
theorem dX12_reads_8 : decode cX12_reads 8 = .ok (.aload_n 0, 1) := by decide +kernel
theorem dX12_reads_9 : decode cX12_reads 9 = .ok (.iconst 0, 1) := by decide +kernel
theorem dX12_reads_10 : decode cX12_reads 10 = .ok (.putfield 138, 3) := by decide +kernel
theorem dX12_reads_13 : decode cX12_reads 13 = .ok (.aload_n 0, 1) := by decide +kernel
theorem dX12_reads_14 : decode cX12_reads 14 = .ok (.iconst 0, 1) := by decide +kernel
theorem dX12_reads_15 : decode cX12_reads 15 = .ok (.putfield 165, 3) := by decide +kernel
theorem dX12_reads_18 : decode cX12_reads 18 = .ok (.aload_n 0, 1) := by decide +kernel
theorem dX12_reads_19 : decode cX12_reads 19 = .ok (.iconst 0, 1) := by decide +kernel
theorem dX12_reads_20 : decode cX12_reads 20 = .ok (.putfield 174, 3) := by decide +kernel
theorem dX12_reads_23 : decode cX12_reads 23 = .ok (.aload_n 0, 1) := by decide +kernel
theorem dX12_reads_24 : decode cX12_reads 24 = .ok (.iconst (-1), 1) := by decide +kernel
theorem dX12_reads_25 : decode cX12_reads 25 = .ok (.putfield 158, 3) := by decide +kernel
theorem dX12_reads_28 : decode cX12_reads 28 = .ok (.aload_n 0, 1) := by decide +kernel
theorem dX12_reads_29 : decode cX12_reads 29 = .ok (.invokevirtual 229, 3) := by decide +kernel
theorem dX12_reads_32 : decode cX12_reads 32 = .ok (.iconst 1, 1) := by decide +kernel
theorem dX12_reads_33 : decode cX12_reads 33 = .ok (.istore_n 1, 1) := by decide +kernel
theorem dX12_reads_34 : decode cX12_reads 34 = .ok (.aload_n 0, 1) := by decide +kernel
theorem dX12_reads_35 : decode cX12_reads 35 = .ok (.bipush 59, 2) := by decide +kernel
theorem dX12_reads_37 : decode cX12_reads 37 = .ok (.invokestatic 207, 3) := by decide +kernel
theorem dX12_reads_40 : decode cX12_reads 40 = .ok (.invokevirtual 168, 3) := by decide +kernel
theorem dX12_reads_43 : decode cX12_reads 43 = .ok (.ifCond .eq 30, 3) := by decide +kernel
theorem dX12_reads_73 : decode cX12_reads 73 = .ok (.aload_n 0, 1) := by decide +kernel
theorem dX12_reads_74 : decode cX12_reads 74 = .ok (.invokevirtual 161, 3) := by decide +kernel
theorem dX12_reads_77 : decode cX12_reads 77 = .ok (.ifCond .eq 18, 3) := by decide +kernel
theorem dX12_reads_95 : decode cX12_reads 95 = .ok (.aload_n 0, 1) := by decide +kernel
theorem dX12_reads_96 : decode cX12_reads 96 = .ok (.aload_n 0, 1) := by decide +kernel
theorem dX12_reads_97 : decode cX12_reads 97 = .ok (.getfield 158, 3) := by decide +kernel
theorem dX12_reads_100 : decode cX12_reads 100 = .ok (.putfield 47, 3) := by decide +kernel
theorem dX12_reads_103 : decode cX12_reads 103 = .ok (.aload_n 0, 1) := by decide +kernel
theorem dX12_reads_104 : decode cX12_reads 104 = .ok (.invokevirtual 161, 3) := by decide +kernel
theorem dX12_reads_107 : decode cX12_reads 107 = .ok (.ireturn, 1) := by decide +kernel
theorem dX12_readsAs_0 : decode cX12_readsAs 0 = .ok (.aload_n 0, 1) := by decide +kernel
theorem dX12_readsAs_1 : decode cX12_readsAs 1 = .ok (.iload_n 1, 1) := by decide +kernel
theorem dX12_readsAs_2 : decode cX12_readsAs 2 = .ok (.putfield 191, 3) := by decide +kernel
theorem dX12_readsAs_5 : decode cX12_readsAs 5 = .ok (.aload_n 0, 1) := by decide +kernel
theorem dX12_readsAs_6 : decode cX12_readsAs 6 = .ok (.iload_n 1, 1) := by decide +kernel
theorem dX12_readsAs_7 : decode cX12_readsAs 7 = .ok (.ifCond .eq 8, 3) := by decide +kernel
theorem dX12_readsAs_10 : decode cX12_readsAs 10 = .ok (.bipush 16, 2) := by decide +kernel
theorem dX12_readsAs_12 : decode cX12_readsAs 12 = .ok (.goto 5, 3) := by decide +kernel
theorem dX12_readsAs_15 : decode cX12_readsAs 15 = .ok (.bipush 9, 2) := by decide +kernel
theorem dX12_readsAs_17 : decode cX12_readsAs 17 = .ok (.putfield 217, 3) := by decide +kernel
theorem dX12_readsAs_20 : decode cX12_readsAs 20 = .ok (.aload_n 0, 1) := by decide +kernel
theorem dX12_readsAs_21 : decode cX12_readsAs 21 = .ok (.iload_n 1, 1) := by decide +kernel
theorem dX12_readsAs_22 : decode cX12_readsAs 22 = .ok (.ifCond .eq 8, 3) := by decide +kernel
theorem dX12_readsAs_25 : decode cX12_readsAs 25 = .ok (.bipush 22, 2) := by decide +kernel
theorem dX12_readsAs_27 : decode cX12_readsAs 27 = .ok (.goto 5, 3) := by decide +kernel
theorem dX12_readsAs_30 : decode cX12_readsAs 30 = .ok (.bipush 18, 2) := by decide +kernel
theorem dX12_readsAs_32 : decode cX12_readsAs 32 = .ok (.putfield 220, 3) := by decide +kernel
theorem dX12_readsAs_35 : decode cX12_readsAs 35 = .ok (.aload_n 0, 1) := by decide +kernel
theorem dX12_readsAs_36 : decode cX12_readsAs 36 = .ok (.invokevirtual 232, 3) := by decide +kernel
theorem dX12_readsAs_39 : decode cX12_readsAs 39 = .ok (.ireturn, 1) := by decide +kernel
theorem dX12_law_0 : decode cX12_law 0 = .ok (.aload_n 0, 1) := by decide +kernel
theorem dX12_law_1 : decode cX12_law 1 = .ok (.getfield 24, 3) := by decide +kernel
theorem dX12_law_4 : decode cX12_law 4 = .ok (.bipush 105, 2) := by decide +kernel
theorem dX12_law_6 : decode cX12_law 6 = .ok (.iaload, 1) := by decide +kernel
theorem dX12_law_7 : decode cX12_law 7 = .ok (.bipush 6, 2) := by decide +kernel
theorem dX12_law_9 : decode cX12_law 9 = .ok (.if_icmp .ne 15, 3) := by decide +kernel
theorem dX12_law_24 : decode cX12_law 24 = .ok (.aload_n 0, 1) := by decide +kernel
theorem dX12_law_25 : decode cX12_law 25 = .ok (.iconst 0, 1) := by decide +kernel
theorem dX12_law_26 : decode cX12_law 26 = .ok (.invokevirtual 235, 3) := by decide +kernel
theorem dX12_law_29 : decode cX12_law 29 = .ok (.ifCond .ne 10, 3) := by decide +kernel
theorem dX12_law_32 : decode cX12_law 32 = .ok (.aload_n 0, 1) := by decide +kernel
theorem dX12_law_33 : decode cX12_law 33 = .ok (.bipush (-6), 2) := by decide +kernel
theorem dX12_law_35 : decode cX12_law 35 = .ok (.invokevirtual 100, 3) := by decide +kernel
theorem dX12_law_38 : decode cX12_law 38 = .ok (.ireturn, 1) := by decide +kernel
theorem dX12_fault_0 : decode cX12_fault 0 = .ok (.aload_n 0, 1) := by decide +kernel
theorem dX12_fault_1 : decode cX12_fault 1 = .ok (.getfield 47, 3) := by decide +kernel
theorem dX12_fault_4 : decode cX12_fault 4 = .ok (.ireturn, 1) := by decide +kernel
theorem dX12_force_0 : decode cX12_force 0 = .ok (.iload_n 1, 1) := by decide +kernel
theorem dX12_force_1 : decode cX12_force 1 = .ok (.iconst (-1), 1) := by decide +kernel
theorem dX12_force_2 : decode cX12_force 2 = .ok (.aload_n 0, 1) := by decide +kernel
theorem dX12_force_3 : decode cX12_force 3 = .ok (.getfield 24, 3) := by decide +kernel
theorem dX12_force_6 : decode cX12_force 6 = .ok (.bipush 105, 2) := by decide +kernel
theorem dX12_force_8 : decode cX12_force 8 = .ok (.iaload, 1) := by decide +kernel
theorem dX12_force_9 : decode cX12_force 9 = .ok (.iconst 1, 1) := by decide +kernel
theorem dX12_force_10 : decode cX12_force 10 = .ok (.isub, 1) := by decide +kernel
theorem dX12_force_11 : decode cX12_force 11 = .ok (.invokestatic 96, 3) := by decide +kernel
theorem dX12_force_14 : decode cX12_force 14 = .ok (.ifCond .ne 10, 3) := by decide +kernel
theorem dX12_force_17 : decode cX12_force 17 = .ok (.aload_n 0, 1) := by decide +kernel
theorem dX12_force_18 : decode cX12_force 18 = .ok (.bipush (-2), 2) := by decide +kernel
theorem dX12_force_20 : decode cX12_force 20 = .ok (.invokevirtual 100, 3) := by decide +kernel
theorem dX12_force_23 : decode cX12_force 23 = .ok (.ireturn, 1) := by decide +kernel
theorem dX12_force_24 : decode cX12_force 24 = .ok (.aload_n 0, 1) := by decide +kernel
theorem dX12_force_25 : decode cX12_force 25 = .ok (.getfield 24, 3) := by decide +kernel
theorem dX12_force_28 : decode cX12_force 28 = .ok (.bipush 106, 2) := by decide +kernel
theorem dX12_force_30 : decode cX12_force 30 = .ok (.iaload, 1) := by decide +kernel
theorem dX12_force_31 : decode cX12_force 31 = .ok (.istore_n 2, 1) := by decide +kernel
theorem dX12_force_32 : decode cX12_force 32 = .ok (.aload_n 0, 1) := by decide +kernel
theorem dX12_force_33 : decode cX12_force 33 = .ok (.getfield 24, 3) := by decide +kernel
theorem dX12_force_36 : decode cX12_force 36 = .ok (.bipush 106, 2) := by decide +kernel
theorem dX12_force_38 : decode cX12_force 38 = .ok (.iload_n 1, 1) := by decide +kernel
theorem dX12_force_39 : decode cX12_force 39 = .ok (.iastore, 1) := by decide +kernel
theorem dX12_force_40 : decode cX12_force 40 = .ok (.aload_n 0, 1) := by decide +kernel
theorem dX12_force_41 : decode cX12_force 41 = .ok (.iload_n 2, 1) := by decide +kernel
theorem dX12_force_42 : decode cX12_force 42 = .ok (.invokevirtual 14, 3) := by decide +kernel
theorem dX12_force_45 : decode cX12_force 45 = .ok (.ireturn, 1) := by decide +kernel
theorem dX12_asks_0 : decode cX12_asks 0 = .ok (.aload_n 0, 1) := by decide +kernel
theorem dX12_asks_1 : decode cX12_asks 1 = .ok (.iload_n 1, 1) := by decide +kernel
theorem dX12_asks_2 : decode cX12_asks 2 = .ok (.invokevirtual 131, 3) := by decide +kernel
theorem dX12_asks_5 : decode cX12_asks 5 = .ok (.ifCond .eq 11, 3) := by decide +kernel
theorem dX12_asks_16 : decode cX12_asks 16 = .ok (.iconst (-1), 1) := by decide +kernel
theorem dX12_asks_17 : decode cX12_asks 17 = .ok (.ireturn, 1) := by decide +kernel
theorem dX12_stands_0 : decode cX12_stands 0 = .ok (.iload_n 1, 1) := by decide +kernel
theorem dX12_stands_1 : decode cX12_stands 1 = .ok (.iconst 0, 1) := by decide +kernel
theorem dX12_stands_2 : decode cX12_stands 2 = .ok (.iconst 1, 1) := by decide +kernel
theorem dX12_stands_3 : decode cX12_stands 3 = .ok (.invokestatic 96, 3) := by decide +kernel
theorem dX12_stands_6 : decode cX12_stands 6 = .ok (.ifCond .ne 5, 3) := by decide +kernel
theorem dX12_stands_9 : decode cX12_stands 9 = .ok (.iconst (-1), 1) := by decide +kernel
theorem dX12_stands_10 : decode cX12_stands 10 = .ok (.ireturn, 1) := by decide +kernel
theorem dX12_stands_11 : decode cX12_stands 11 = .ok (.iload_n 1, 1) := by decide +kernel
theorem dX12_stands_12 : decode cX12_stands 12 = .ok (.ifCond .ne 8, 3) := by decide +kernel
theorem dX12_stands_15 : decode cX12_stands 15 = .ok (.aload_n 0, 1) := by decide +kernel
theorem dX12_stands_16 : decode cX12_stands 16 = .ok (.invokevirtual 118, 3) := by decide +kernel
theorem dX12_stands_19 : decode cX12_stands 19 = .ok (.ireturn, 1) := by decide +kernel
theorem dX12_stands_20 : decode cX12_stands 20 = .ok (.iconst 0, 1) := by decide +kernel
theorem dX12_stands_21 : decode cX12_stands 21 = .ok (.istore_n 2, 1) := by decide +kernel
theorem dX12_stands_22 : decode cX12_stands 22 = .ok (.iconst 0, 1) := by decide +kernel
theorem dX12_stands_23 : decode cX12_stands 23 = .ok (.istore_n 3, 1) := by decide +kernel
theorem dX12_stands_24 : decode cX12_stands 24 = .ok (.iload_n 3, 1) := by decide +kernel
theorem dX12_stands_25 : decode cX12_stands 25 = .ok (.aload_n 0, 1) := by decide +kernel
theorem dX12_stands_26 : decode cX12_stands 26 = .ok (.getfield 24, 3) := by decide +kernel
theorem dX12_stands_29 : decode cX12_stands 29 = .ok (.bipush 102, 2) := by decide +kernel
theorem dX12_stands_31 : decode cX12_stands 31 = .ok (.iaload, 1) := by decide +kernel
theorem dX12_stands_32 : decode cX12_stands 32 = .ok (.if_icmp .ge 27, 3) := by decide +kernel
theorem dX12_stands_59 : decode cX12_stands 59 = .ok (.iload_n 2, 1) := by decide +kernel
theorem dX12_stands_60 : decode cX12_stands 60 = .ok (.ireturn, 1) := by decide +kernel
theorem dX12_ticks_0 : decode cX12_ticks 0 = .ok (.aload_n 0, 1) := by decide +kernel
theorem dX12_ticks_1 : decode cX12_ticks 1 = .ok (.invokevirtual 118, 3) := by decide +kernel
theorem dX12_ticks_4 : decode cX12_ticks 4 = .ok (.istore_n 2, 1) := by decide +kernel
theorem dX12_ticks_5 : decode cX12_ticks 5 = .ok (.iconst 0, 1) := by decide +kernel
theorem dX12_ticks_6 : decode cX12_ticks 6 = .ok (.istore_n 3, 1) := by decide +kernel
theorem dX12_ticks_7 : decode cX12_ticks 7 = .ok (.iload_n 3, 1) := by decide +kernel
theorem dX12_ticks_8 : decode cX12_ticks 8 = .ok (.aload_n 0, 1) := by decide +kernel
theorem dX12_ticks_9 : decode cX12_ticks 9 = .ok (.getfield 24, 3) := by decide +kernel
theorem dX12_ticks_12 : decode cX12_ticks 12 = .ok (.bipush 103, 2) := by decide +kernel
theorem dX12_ticks_14 : decode cX12_ticks 14 = .ok (.iaload, 1) := by decide +kernel
theorem dX12_ticks_15 : decode cX12_ticks 15 = .ok (.if_icmp .ge 96, 3) := by decide +kernel
theorem dX12_ticks_111 : decode cX12_ticks 111 = .ok (.iconst 0, 1) := by decide +kernel
theorem dX12_ticks_112 : decode cX12_ticks 112 = .ok (.istore_n 3, 1) := by decide +kernel
theorem dX12_ticks_113 : decode cX12_ticks 113 = .ok (.iload_n 3, 1) := by decide +kernel
theorem dX12_ticks_114 : decode cX12_ticks 114 = .ok (.aload_n 0, 1) := by decide +kernel
theorem dX12_ticks_115 : decode cX12_ticks 115 = .ok (.getfield 24, 3) := by decide +kernel
theorem dX12_ticks_118 : decode cX12_ticks 118 = .ok (.bipush 103, 2) := by decide +kernel
theorem dX12_ticks_120 : decode cX12_ticks 120 = .ok (.iaload, 1) := by decide +kernel
theorem dX12_ticks_121 : decode cX12_ticks 121 = .ok (.if_icmp .ge 100, 3) := by decide +kernel
theorem dX12_ticks_221 : decode cX12_ticks 221 = .ok (.iconst 0, 1) := by decide +kernel
theorem dX12_ticks_222 : decode cX12_ticks 222 = .ok (.istore_n 3, 1) := by decide +kernel
theorem dX12_ticks_223 : decode cX12_ticks 223 = .ok (.iload_n 3, 1) := by decide +kernel
theorem dX12_ticks_224 : decode cX12_ticks 224 = .ok (.aload_n 0, 1) := by decide +kernel
theorem dX12_ticks_225 : decode cX12_ticks 225 = .ok (.getfield 24, 3) := by decide +kernel
theorem dX12_ticks_228 : decode cX12_ticks 228 = .ok (.bipush 103, 2) := by decide +kernel
theorem dX12_ticks_230 : decode cX12_ticks 230 = .ok (.iaload, 1) := by decide +kernel
theorem dX12_ticks_231 : decode cX12_ticks 231 = .ok (.if_icmp .ge 48, 3) := by decide +kernel
theorem dX12_ticks_279 : decode cX12_ticks 279 = .ok (.aload_n 0, 1) := by decide +kernel
theorem dX12_ticks_280 : decode cX12_ticks 280 = .ok (.getfield 24, 3) := by decide +kernel
theorem dX12_ticks_283 : decode cX12_ticks 283 = .ok (.bipush 22, 2) := by decide +kernel
theorem dX12_ticks_285 : decode cX12_ticks 285 = .ok (.dup2, 1) := by decide +kernel
theorem dX12_ticks_286 : decode cX12_ticks 286 = .ok (.iaload, 1) := by decide +kernel
theorem dX12_ticks_287 : decode cX12_ticks 287 = .ok (.iconst 1, 1) := by decide +kernel
theorem dX12_ticks_288 : decode cX12_ticks 288 = .ok (.iadd, 1) := by decide +kernel
theorem dX12_ticks_289 : decode cX12_ticks 289 = .ok (.iastore, 1) := by decide +kernel
theorem dX12_ticks_290 : decode cX12_ticks 290 = .ok (.aload_n 0, 1) := by decide +kernel
theorem dX12_ticks_291 : decode cX12_ticks 291 = .ok (.invokevirtual 118, 3) := by decide +kernel
theorem dX12_ticks_294 : decode cX12_ticks 294 = .ok (.iload_n 2, 1) := by decide +kernel
theorem dX12_ticks_295 : decode cX12_ticks 295 = .ok (.iconst (-1), 1) := by decide +kernel
theorem dX12_ticks_296 : decode cX12_ticks 296 = .ok (.ixor, 1) := by decide +kernel
theorem dX12_ticks_297 : decode cX12_ticks 297 = .ok (.iand, 1) := by decide +kernel
theorem dX12_ticks_298 : decode cX12_ticks 298 = .ok (.invokestatic 287, 3) := by decide +kernel
theorem dX12_ticks_301 : decode cX12_ticks 301 = .ok (.ireturn, 1) := by decide +kernel
theorem dX12_keeps_0 : decode cX12_keeps 0 = .ok (.bipush 24, 2) := by decide +kernel
theorem dX12_keeps_2 : decode cX12_keeps 2 = .ok (.istore_n 2, 1) := by decide +kernel
theorem dX12_keeps_3 : decode cX12_keeps 3 = .ok (.aload_n 0, 1) := by decide +kernel
theorem dX12_keeps_4 : decode cX12_keeps 4 = .ok (.getfield 11, 3) := by decide +kernel
theorem dX12_keeps_7 : decode cX12_keeps 7 = .ok (.bipush 16, 2) := by decide +kernel
theorem dX12_keeps_9 : decode cX12_keeps 9 = .ok (.if_icmp .ne 43, 3) := by decide +kernel
theorem dX12_keeps_52 : decode cX12_keeps 52 = .ok (.iconst 0, 1) := by decide +kernel
theorem dX12_keeps_53 : decode cX12_keeps 53 = .ok (.istore_n 3, 1) := by decide +kernel
theorem dX12_keeps_54 : decode cX12_keeps 54 = .ok (.iload_n 3, 1) := by decide +kernel
theorem dX12_keeps_55 : decode cX12_keeps 55 = .ok (.bipush 23, 2) := by decide +kernel
theorem dX12_keeps_57 : decode cX12_keeps 57 = .ok (.if_icmp .ge 28, 3) := by decide +kernel
theorem dX12_keeps_60 : decode cX12_keeps 60 = .ok (.aload_n 0, 1) := by decide +kernel
theorem dX12_keeps_61 : decode cX12_keeps 61 = .ok (.getfield 68, 3) := by decide +kernel
theorem dX12_keeps_64 : decode cX12_keeps 64 = .ok (.iload_n 2, 1) := by decide +kernel
theorem dX12_keeps_65 : decode cX12_keeps 65 = .ok (.aload_n 0, 1) := by decide +kernel
theorem dX12_keeps_66 : decode cX12_keeps 66 = .ok (.getfield 11, 3) := by decide +kernel
theorem dX12_keeps_69 : decode cX12_keeps 69 = .ok (.imul, 1) := by decide +kernel
theorem dX12_keeps_70 : decode cX12_keeps 70 = .ok (.iload_n 3, 1) := by decide +kernel
theorem dX12_keeps_71 : decode cX12_keeps 71 = .ok (.iadd, 1) := by decide +kernel
theorem dX12_keeps_72 : decode cX12_keeps 72 = .ok (.aload_n 0, 1) := by decide +kernel
theorem dX12_keeps_73 : decode cX12_keeps 73 = .ok (.getfield 24, 3) := by decide +kernel
theorem dX12_keeps_76 : decode cX12_keeps 76 = .ok (.iload_n 3, 1) := by decide +kernel
theorem dX12_keeps_77 : decode cX12_keeps 77 = .ok (.iaload, 1) := by decide +kernel
theorem dX12_keeps_78 : decode cX12_keeps 78 = .ok (.iastore, 1) := by decide +kernel
theorem dX12_keeps_79 : decode cX12_keeps 79 = .ok (.iinc 3 1, 3) := by decide +kernel
theorem dX12_keeps_82 : decode cX12_keeps 82 = .ok (.goto (-28), 3) := by decide +kernel
theorem dX12_keeps_85 : decode cX12_keeps 85 = .ok (.aload_n 0, 1) := by decide +kernel
theorem dX12_keeps_86 : decode cX12_keeps 86 = .ok (.getfield 68, 3) := by decide +kernel
theorem dX12_keeps_89 : decode cX12_keeps 89 = .ok (.iload_n 2, 1) := by decide +kernel
theorem dX12_keeps_90 : decode cX12_keeps 90 = .ok (.aload_n 0, 1) := by decide +kernel
theorem dX12_keeps_91 : decode cX12_keeps 91 = .ok (.getfield 11, 3) := by decide +kernel
theorem dX12_keeps_94 : decode cX12_keeps 94 = .ok (.imul, 1) := by decide +kernel
theorem dX12_keeps_95 : decode cX12_keeps 95 = .ok (.bipush 23, 2) := by decide +kernel
theorem dX12_keeps_97 : decode cX12_keeps 97 = .ok (.iadd, 1) := by decide +kernel
theorem dX12_keeps_98 : decode cX12_keeps 98 = .ok (.iload_n 1, 1) := by decide +kernel
theorem dX12_keeps_99 : decode cX12_keeps 99 = .ok (.iastore, 1) := by decide +kernel
theorem dX12_keeps_100 : decode cX12_keeps 100 = .ok (.aload_n 0, 1) := by decide +kernel
theorem dX12_keeps_101 : decode cX12_keeps 101 = .ok (.dup, 1) := by decide +kernel
theorem dX12_keeps_102 : decode cX12_keeps 102 = .ok (.getfield 11, 3) := by decide +kernel
theorem dX12_keeps_105 : decode cX12_keeps 105 = .ok (.iconst 1, 1) := by decide +kernel
theorem dX12_keeps_106 : decode cX12_keeps 106 = .ok (.iadd, 1) := by decide +kernel
theorem dX12_keeps_107 : decode cX12_keeps 107 = .ok (.putfield 11, 3) := by decide +kernel
theorem dX12_keeps_110 : decode cX12_keeps 110 = .ok (.return_, 1) := by decide +kernel
theorem dX12_undo_0 : decode cX12_undo 0 = .ok (.aload_n 0, 1) := by decide +kernel
theorem dX12_undo_1 : decode cX12_undo 1 = .ok (.getfield 11, 3) := by decide +kernel
theorem dX12_undo_4 : decode cX12_undo 4 = .ok (.ifCond .ne 10, 3) := by decide +kernel
theorem dX12_undo_7 : decode cX12_undo 7 = .ok (.aload_n 0, 1) := by decide +kernel
theorem dX12_undo_8 : decode cX12_undo 8 = .ok (.bipush (-3), 2) := by decide +kernel
theorem dX12_undo_10 : decode cX12_undo 10 = .ok (.invokevirtual 100, 3) := by decide +kernel
theorem dX12_undo_13 : decode cX12_undo 13 = .ok (.ireturn, 1) := by decide +kernel
theorem dX12_goodOr_0 : decode cX12_goodOr 0 = .ok (.iload_n 1, 1) := by decide +kernel
theorem dX12_goodOr_1 : decode cX12_goodOr 1 = .ok (.ifCond .ge 11, 3) := by decide +kernel
theorem dX12_goodOr_4 : decode cX12_goodOr 4 = .ok (.aload_n 0, 1) := by decide +kernel
theorem dX12_goodOr_5 : decode cX12_goodOr 5 = .ok (.iload_n 1, 1) := by decide +kernel
theorem dX12_goodOr_6 : decode cX12_goodOr 6 = .ok (.invokevirtual 100, 3) := by decide +kernel
theorem dX12_goodOr_9 : decode cX12_goodOr 9 = .ok (.goto 8, 3) := by decide +kernel
theorem dX12_goodOr_12 : decode cX12_goodOr 12 = .ok (.aload_n 0, 1) := by decide +kernel
theorem dX12_goodOr_13 : decode cX12_goodOr 13 = .ok (.iload_n 1, 1) := by decide +kernel
theorem dX12_goodOr_14 : decode cX12_goodOr 14 = .ok (.invokevirtual 14, 3) := by decide +kernel
theorem dX12_goodOr_17 : decode cX12_goodOr 17 = .ok (.ireturn, 1) := by decide +kernel
theorem dX12_sendsKept_0 : decode cX12_sendsKept 0 = .ok (.aload_n 0, 1) := by decide +kernel
theorem dX12_sendsKept_1 : decode cX12_sendsKept 1 = .ok (.iload_n 1, 1) := by decide +kernel
theorem dX12_sendsKept_2 : decode cX12_sendsKept 2 = .ok (.invokevirtual 131, 3) := by decide +kernel
theorem dX12_sendsKept_5 : decode cX12_sendsKept 5 = .ok (.ifCond .eq 11, 3) := by decide +kernel
theorem dX12_sendsKept_16 : decode cX12_sendsKept 16 = .ok (.bipush (-2), 2) := by decide +kernel
theorem dX12_sendsKept_18 : decode cX12_sendsKept 18 = .ok (.ireturn, 1) := by decide +kernel
theorem dX12_restsKept_0 : decode cX12_restsKept 0 = .ok (.aload_n 0, 1) := by decide +kernel
theorem dX12_restsKept_1 : decode cX12_restsKept 1 = .ok (.iload_n 1, 1) := by decide +kernel
theorem dX12_restsKept_2 : decode cX12_restsKept 2 = .ok (.invokevirtual 131, 3) := by decide +kernel
theorem dX12_restsKept_5 : decode cX12_restsKept 5 = .ok (.ifCond .ne 6, 3) := by decide +kernel
theorem dX12_restsKept_8 : decode cX12_restsKept 8 = .ok (.bipush (-2), 2) := by decide +kernel
theorem dX12_restsKept_10 : decode cX12_restsKept 10 = .ok (.ireturn, 1) := by decide +kernel
theorem dX12_throwsKept_0 : decode cX12_throwsKept 0 = .ok (.aload_n 0, 1) := by decide +kernel
theorem dX12_throwsKept_1 : decode cX12_throwsKept 1 = .ok (.iload_n 1, 1) := by decide +kernel
theorem dX12_throwsKept_2 : decode cX12_throwsKept 2 = .ok (.invokevirtual 122, 3) := by decide +kernel
theorem dX12_throwsKept_5 : decode cX12_throwsKept 5 = .ok (.ifCond .ne 6, 3) := by decide +kernel
theorem dX12_throwsKept_8 : decode cX12_throwsKept 8 = .ok (.bipush (-2), 2) := by decide +kernel
theorem dX12_throwsKept_10 : decode cX12_throwsKept 10 = .ok (.ireturn, 1) := by decide +kernel
theorem dX12_ticksKept_0 : decode cX12_ticksKept 0 = .ok (.aload_n 0, 1) := by decide +kernel
theorem dX12_ticksKept_1 : decode cX12_ticksKept 1 = .ok (.getfield 24, 3) := by decide +kernel
theorem dX12_ticksKept_4 : decode cX12_ticksKept 4 = .ok (.bipush 22, 2) := by decide +kernel
theorem dX12_ticksKept_6 : decode cX12_ticksKept 6 = .ok (.iaload, 1) := by decide +kernel
theorem dX12_ticksKept_7 : decode cX12_ticksKept 7 = .ok (.sipush 999, 3) := by decide +kernel
theorem dX12_ticksKept_10 : decode cX12_ticksKept 10 = .ok (.if_icmp .ne 6, 3) := by decide +kernel
theorem dX12_ticksKept_16 : decode cX12_ticksKept 16 = .ok (.aload_n 0, 1) := by decide +kernel
theorem dX12_ticksKept_17 : decode cX12_ticksKept 17 = .ok (.iconst 3, 1) := by decide +kernel
theorem dX12_ticksKept_18 : decode cX12_ticksKept 18 = .ok (.invokevirtual 333, 3) := by decide +kernel
theorem dX12_ticksKept_21 : decode cX12_ticksKept 21 = .ok (.aload_n 0, 1) := by decide +kernel
theorem dX12_ticksKept_22 : decode cX12_ticksKept 22 = .ok (.aload_n 0, 1) := by decide +kernel
theorem dX12_ticksKept_23 : decode cX12_ticksKept 23 = .ok (.invokevirtual 342, 3) := by decide +kernel
theorem dX12_ticksKept_26 : decode cX12_ticksKept 26 = .ok (.invokevirtual 345, 3) := by decide +kernel
theorem dX12_ticksKept_29 : decode cX12_ticksKept 29 = .ok (.ireturn, 1) := by decide +kernel
theorem dX12_allBuilders_0 : decode cX12_allBuilders 0 = .ok (.iconst 1, 1) := by decide +kernel
theorem dX12_allBuilders_1 : decode cX12_allBuilders 1 = .ok (.aload_n 0, 1) := by decide +kernel
theorem dX12_allBuilders_2 : decode cX12_allBuilders 2 = .ok (.getfield 24, 3) := by decide +kernel
theorem dX12_allBuilders_5 : decode cX12_allBuilders 5 = .ok (.bipush 103, 2) := by decide +kernel
theorem dX12_allBuilders_7 : decode cX12_allBuilders 7 = .ok (.iaload, 1) := by decide +kernel
theorem dX12_allBuilders_8 : decode cX12_allBuilders 8 = .ok (.ishl, 1) := by decide +kernel
theorem dX12_allBuilders_9 : decode cX12_allBuilders 9 = .ok (.iconst 1, 1) := by decide +kernel
theorem dX12_allBuilders_10 : decode cX12_allBuilders 10 = .ok (.isub, 1) := by decide +kernel
theorem dX12_allBuilders_11 : decode cX12_allBuilders 11 = .ok (.ireturn, 1) := by decide +kernel
theorem dX12_send_0 : decode cX12_send 0 = .ok (.aload_n 0, 1) := by decide +kernel
theorem dX12_send_1 : decode cX12_send 1 = .ok (.aload_n 0, 1) := by decide +kernel
theorem dX12_send_2 : decode cX12_send 2 = .ok (.iload_n 1, 1) := by decide +kernel
theorem dX12_send_3 : decode cX12_send 3 = .ok (.iload_n 2, 1) := by decide +kernel
theorem dX12_send_4 : decode cX12_send 4 = .ok (.invokevirtual 348, 3) := by decide +kernel
theorem dX12_send_7 : decode cX12_send 7 = .ok (.invokevirtual 351, 3) := by decide +kernel
theorem dX12_send_10 : decode cX12_send 10 = .ok (.ireturn, 1) := by decide +kernel
theorem dX12_rest_0 : decode cX12_rest 0 = .ok (.aload_n 0, 1) := by decide +kernel
theorem dX12_rest_1 : decode cX12_rest 1 = .ok (.aload_n 0, 1) := by decide +kernel
theorem dX12_rest_2 : decode cX12_rest 2 = .ok (.iload_n 1, 1) := by decide +kernel
theorem dX12_rest_3 : decode cX12_rest 3 = .ok (.invokevirtual 354, 3) := by decide +kernel
theorem dX12_rest_6 : decode cX12_rest 6 = .ok (.invokevirtual 351, 3) := by decide +kernel
theorem dX12_rest_9 : decode cX12_rest 9 = .ok (.ireturn, 1) := by decide +kernel
theorem dX12_throwDown_0 : decode cX12_throwDown 0 = .ok (.aload_n 0, 1) := by decide +kernel
theorem dX12_throwDown_1 : decode cX12_throwDown 1 = .ok (.aload_n 0, 1) := by decide +kernel
theorem dX12_throwDown_2 : decode cX12_throwDown 2 = .ok (.iload_n 1, 1) := by decide +kernel
theorem dX12_throwDown_3 : decode cX12_throwDown 3 = .ok (.invokevirtual 357, 3) := by decide +kernel
theorem dX12_throwDown_6 : decode cX12_throwDown 6 = .ok (.invokevirtual 351, 3) := by decide +kernel
theorem dX12_throwDown_9 : decode cX12_throwDown 9 = .ok (.ireturn, 1) := by decide +kernel
theorem dX12_tick_0 : decode cX12_tick 0 = .ok (.aload_n 0, 1) := by decide +kernel
theorem dX12_tick_1 : decode cX12_tick 1 = .ok (.aload_n 0, 1) := by decide +kernel
theorem dX12_tick_2 : decode cX12_tick 2 = .ok (.invokevirtual 360, 3) := by decide +kernel
theorem dX12_tick_5 : decode cX12_tick 5 = .ok (.invokevirtual 351, 3) := by decide +kernel
theorem dX12_tick_8 : decode cX12_tick 8 = .ok (.ireturn, 1) := by decide +kernel
theorem dX12_laysChains_0 : decode cX12_laysChains 0 = .ok (.aload_n 0, 1) := by decide +kernel
theorem dX12_laysChains_1 : decode cX12_laysChains 1 = .ok (.getfield 24, 3) := by decide +kernel
theorem dX12_laysChains_4 : decode cX12_laysChains 4 = .ok (.bipush 102, 2) := by decide +kernel
theorem dX12_laysChains_6 : decode cX12_laysChains 6 = .ok (.iaload, 1) := by decide +kernel
theorem dX12_laysChains_7 : decode cX12_laysChains 7 = .ok (.iconst 1, 1) := by decide +kernel
theorem dX12_laysChains_8 : decode cX12_laysChains 8 = .ok (.isub, 1) := by decide +kernel
theorem dX12_laysChains_9 : decode cX12_laysChains 9 = .ok (.istore_n 1, 1) := by decide +kernel
theorem dX12_laysChains_10 : decode cX12_laysChains 10 = .ok (.iload_n 1, 1) := by decide +kernel
theorem dX12_laysChains_11 : decode cX12_laysChains 11 = .ok (.ifCond .lt 83, 3) := by decide +kernel
theorem dX12_laysChains_94 : decode cX12_laysChains 94 = .ok (.return_, 1) := by decide +kernel
theorem dX12_longest_0 : decode cX12_longest 0 = .ok (.aload_n 0, 1) := by decide +kernel
theorem dX12_longest_1 : decode cX12_longest 1 = .ok (.invokevirtual 128, 3) := by decide +kernel
theorem dX12_longest_4 : decode cX12_longest 4 = .ok (.iconst 0, 1) := by decide +kernel
theorem dX12_longest_5 : decode cX12_longest 5 = .ok (.istore_n 1, 1) := by decide +kernel
theorem dX12_longest_6 : decode cX12_longest 6 = .ok (.iconst 0, 1) := by decide +kernel
theorem dX12_longest_7 : decode cX12_longest 7 = .ok (.istore_n 2, 1) := by decide +kernel
theorem dX12_longest_8 : decode cX12_longest 8 = .ok (.iload_n 2, 1) := by decide +kernel
theorem dX12_longest_9 : decode cX12_longest 9 = .ok (.aload_n 0, 1) := by decide +kernel
theorem dX12_longest_10 : decode cX12_longest 10 = .ok (.getfield 24, 3) := by decide +kernel
theorem dX12_longest_13 : decode cX12_longest 13 = .ok (.bipush 102, 2) := by decide +kernel
theorem dX12_longest_15 : decode cX12_longest 15 = .ok (.iaload, 1) := by decide +kernel
theorem dX12_longest_16 : decode cX12_longest 16 = .ok (.if_icmp .ge 20, 3) := by decide +kernel
theorem dX12_longest_36 : decode cX12_longest 36 = .ok (.iload_n 1, 1) := by decide +kernel
theorem dX12_longest_37 : decode cX12_longest 37 = .ok (.ireturn, 1) := by decide +kernel
theorem dX12_laysOrders_0 : decode cX12_laysOrders 0 = .ok (.aload_n 0, 1) := by decide +kernel
theorem dX12_laysOrders_1 : decode cX12_laysOrders 1 = .ok (.invokevirtual 363, 3) := by decide +kernel
theorem dX12_laysOrders_4 : decode cX12_laysOrders 4 = .ok (.istore_n 1, 1) := by decide +kernel
theorem dX12_laysOrders_5 : decode cX12_laysOrders 5 = .ok (.aload_n 0, 1) := by decide +kernel
theorem dX12_laysOrders_6 : decode cX12_laysOrders 6 = .ok (.getfield 77, 3) := by decide +kernel
theorem dX12_laysOrders_9 : decode cX12_laysOrders 9 = .ok (.iload_n 1, 1) := by decide +kernel
theorem dX12_laysOrders_10 : decode cX12_laysOrders 10 = .ok (.iconst 1, 1) := by decide +kernel
theorem dX12_laysOrders_11 : decode cX12_laysOrders 11 = .ok (.iastore, 1) := by decide +kernel
theorem dX12_laysOrders_12 : decode cX12_laysOrders 12 = .ok (.iload_n 1, 1) := by decide +kernel
theorem dX12_laysOrders_13 : decode cX12_laysOrders 13 = .ok (.iconst 1, 1) := by decide +kernel
theorem dX12_laysOrders_14 : decode cX12_laysOrders 14 = .ok (.isub, 1) := by decide +kernel
theorem dX12_laysOrders_15 : decode cX12_laysOrders 15 = .ok (.istore_n 2, 1) := by decide +kernel
theorem dX12_laysOrders_16 : decode cX12_laysOrders 16 = .ok (.iload_n 2, 1) := by decide +kernel
theorem dX12_laysOrders_17 : decode cX12_laysOrders 17 = .ok (.ifCond .lt 67, 3) := by decide +kernel
theorem dX12_laysOrders_84 : decode cX12_laysOrders 84 = .ok (.return_, 1) := by decide +kernel
theorem dX12_rows_0 : decode cX12_rows 0 = .ok (.iload_n 1, 1) := by decide +kernel
theorem dX12_rows_1 : decode cX12_rows 1 = .ok (.iconst (-1), 1) := by decide +kernel
theorem dX12_rows_2 : decode cX12_rows 2 = .ok (.if_icmp .ge 5, 3) := by decide +kernel
theorem dX12_rows_5 : decode cX12_rows 5 = .ok (.iconst (-1), 1) := by decide +kernel
theorem dX12_rows_6 : decode cX12_rows 6 = .ok (.ireturn, 1) := by decide +kernel
theorem dX12_rows_7 : decode cX12_rows 7 = .ok (.aload_n 0, 1) := by decide +kernel
theorem dX12_rows_8 : decode cX12_rows 8 = .ok (.invokevirtual 369, 3) := by decide +kernel
theorem dX12_rows_11 : decode cX12_rows 11 = .ok (.aload_n 0, 1) := by decide +kernel
theorem dX12_rows_12 : decode cX12_rows 12 = .ok (.invokevirtual 118, 3) := by decide +kernel
theorem dX12_rows_15 : decode cX12_rows 15 = .ok (.istore_n 3, 1) := by decide +kernel
theorem dX12_rows_16 : decode cX12_rows 16 = .ok (.iload_n 1, 1) := by decide +kernel
theorem dX12_rows_17 : decode cX12_rows 17 = .ok (.iconst (-1), 1) := by decide +kernel
theorem dX12_rows_18 : decode cX12_rows 18 = .ok (.if_icmp .ne 10, 3) := by decide +kernel
theorem dX12_rows_21 : decode cX12_rows 21 = .ok (.aload_n 0, 1) := by decide +kernel
theorem dX12_rows_22 : decode cX12_rows 22 = .ok (.getfield 77, 3) := by decide +kernel
theorem dX12_rows_25 : decode cX12_rows 25 = .ok (.iload_n 3, 1) := by decide +kernel
theorem dX12_rows_26 : decode cX12_rows 26 = .ok (.iaload, 1) := by decide +kernel
theorem dX12_rows_27 : decode cX12_rows 27 = .ok (.ireturn, 1) := by decide +kernel
theorem dX12_rows_28 : decode cX12_rows 28 = .ok (.iload_n 1, 1) := by decide +kernel
theorem dX12_rows_29 : decode cX12_rows 29 = .ok (.istore 4, 2) := by decide +kernel
theorem dX12_rows_31 : decode cX12_rows 31 = .ok (.iload_n 1, 1) := by decide +kernel
theorem dX12_rows_32 : decode cX12_rows 32 = .ok (.aload_n 0, 1) := by decide +kernel
theorem dX12_rows_33 : decode cX12_rows 33 = .ok (.getfield 77, 3) := by decide +kernel
theorem dX12_rows_36 : decode cX12_rows 36 = .ok (.iload_n 3, 1) := by decide +kernel
theorem dX12_rows_37 : decode cX12_rows 37 = .ok (.iaload, 1) := by decide +kernel
theorem dX12_rows_38 : decode cX12_rows 38 = .ok (.if_icmp .ge 25, 3) := by decide +kernel
theorem dX12_rows_41 : decode cX12_rows 41 = .ok (.iload_n 2, 1) := by decide +kernel
theorem dX12_rows_42 : decode cX12_rows 42 = .ok (.iconst 0, 1) := by decide +kernel
theorem dX12_rows_43 : decode cX12_rows 43 = .ok (.aload_n 0, 1) := by decide +kernel
theorem dX12_rows_44 : decode cX12_rows 44 = .ok (.getfield 24, 3) := by decide +kernel
theorem dX12_rows_47 : decode cX12_rows 47 = .ok (.bipush 102, 2) := by decide +kernel
theorem dX12_rows_49 : decode cX12_rows 49 = .ok (.iaload, 1) := by decide +kernel
theorem dX12_rows_50 : decode cX12_rows 50 = .ok (.iload_n 3, 1) := by decide +kernel
theorem dX12_rows_51 : decode cX12_rows 51 = .ok (.invokestatic 287, 3) := by decide +kernel
theorem dX12_rows_54 : decode cX12_rows 54 = .ok (.isub, 1) := by decide +kernel
theorem dX12_rows_55 : decode cX12_rows 55 = .ok (.iconst 1, 1) := by decide +kernel
theorem dX12_rows_56 : decode cX12_rows 56 = .ok (.isub, 1) := by decide +kernel
theorem dX12_rows_57 : decode cX12_rows 57 = .ok (.invokestatic 96, 3) := by decide +kernel
theorem dX12_rows_60 : decode cX12_rows 60 = .ok (.ifCond .ne 5, 3) := by decide +kernel
theorem dX12_rows_63 : decode cX12_rows 63 = .ok (.iconst (-1), 1) := by decide +kernel
theorem dX12_rows_64 : decode cX12_rows 64 = .ok (.ireturn, 1) := by decide +kernel
theorem dX12_begins_0 : decode cX12_begins 0 = .ok (.aload_n 0, 1) := by decide +kernel
theorem dX12_begins_1 : decode cX12_begins 1 = .ok (.iconst 0, 1) := by decide +kernel
theorem dX12_begins_2 : decode cX12_begins 2 = .ok (.invokevirtual 372, 3) := by decide +kernel
theorem dX12_begins_5 : decode cX12_begins 5 = .ok (.iconst 0, 1) := by decide +kernel
theorem dX12_begins_6 : decode cX12_begins 6 = .ok (.istore_n 1, 1) := by decide +kernel
theorem dX12_begins_7 : decode cX12_begins 7 = .ok (.iload_n 1, 1) := by decide +kernel
theorem dX12_begins_8 : decode cX12_begins 8 = .ok (.bipush 6, 2) := by decide +kernel
theorem dX12_begins_10 : decode cX12_begins 10 = .ok (.if_icmp .ge 19, 3) := by decide +kernel
theorem dX12_begins_13 : decode cX12_begins 13 = .ok (.aload_n 0, 1) := by decide +kernel
theorem dX12_begins_14 : decode cX12_begins 14 = .ok (.getfield 24, 3) := by decide +kernel
theorem dX12_begins_17 : decode cX12_begins 17 = .ok (.bipush 16, 2) := by decide +kernel
theorem dX12_begins_19 : decode cX12_begins 19 = .ok (.iload_n 1, 1) := by decide +kernel
theorem dX12_begins_20 : decode cX12_begins 20 = .ok (.iadd, 1) := by decide +kernel
theorem dX12_begins_21 : decode cX12_begins 21 = .ok (.iconst (-1), 1) := by decide +kernel
theorem dX12_begins_22 : decode cX12_begins 22 = .ok (.iastore, 1) := by decide +kernel
theorem dX12_begins_23 : decode cX12_begins 23 = .ok (.iinc 1 1, 3) := by decide +kernel
theorem dX12_begins_26 : decode cX12_begins 26 = .ok (.goto (-19), 3) := by decide +kernel
theorem dX12_begins_29 : decode cX12_begins 29 = .ok (.return_, 1) := by decide +kernel
theorem dX12_sendsAll_0 : decode cX12_sendsAll 0 = .ok (.aload_n 0, 1) := by decide +kernel
theorem dX12_sendsAll_1 : decode cX12_sendsAll 1 = .ok (.invokevirtual 128, 3) := by decide +kernel
theorem dX12_sendsAll_4 : decode cX12_sendsAll 4 = .ok (.iconst 0, 1) := by decide +kernel
theorem dX12_sendsAll_5 : decode cX12_sendsAll 5 = .ok (.istore_n 2, 1) := by decide +kernel
theorem dX12_sendsAll_6 : decode cX12_sendsAll 6 = .ok (.iload_n 2, 1) := by decide +kernel
theorem dX12_sendsAll_7 : decode cX12_sendsAll 7 = .ok (.aload_n 0, 1) := by decide +kernel
theorem dX12_sendsAll_8 : decode cX12_sendsAll 8 = .ok (.getfield 24, 3) := by decide +kernel
theorem dX12_sendsAll_11 : decode cX12_sendsAll 11 = .ok (.bipush 103, 2) := by decide +kernel
theorem dX12_sendsAll_13 : decode cX12_sendsAll 13 = .ok (.iaload, 1) := by decide +kernel
theorem dX12_sendsAll_14 : decode cX12_sendsAll 14 = .ok (.if_icmp .ge 44, 3) := by decide +kernel
theorem dX12_sendsAll_58 : decode cX12_sendsAll 58 = .ok (.return_, 1) := by decide +kernel
theorem dX12_areStanding_0 : decode cX12_areStanding 0 = .ok (.iload_n 1, 1) := by decide +kernel
theorem dX12_areStanding_1 : decode cX12_areStanding 1 = .ok (.aload_n 0, 1) := by decide +kernel
theorem dX12_areStanding_2 : decode cX12_areStanding 2 = .ok (.invokevirtual 118, 3) := by decide +kernel
theorem dX12_areStanding_5 : decode cX12_areStanding 5 = .ok (.iconst (-1), 1) := by decide +kernel
theorem dX12_areStanding_6 : decode cX12_areStanding 6 = .ok (.ixor, 1) := by decide +kernel
theorem dX12_areStanding_7 : decode cX12_areStanding 7 = .ok (.iand, 1) := by decide +kernel
theorem dX12_areStanding_8 : decode cX12_areStanding 8 = .ok (.ifCond .ne 7, 3) := by decide +kernel
theorem dX12_areStanding_11 : decode cX12_areStanding 11 = .ok (.iconst 1, 1) := by decide +kernel
theorem dX12_areStanding_12 : decode cX12_areStanding 12 = .ok (.goto 4, 3) := by decide +kernel
theorem dX12_areStanding_16 : decode cX12_areStanding 16 = .ok (.ireturn, 1) := by decide +kernel
theorem dX12_planned_0 : decode cX12_planned 0 = .ok (.aload_n 0, 1) := by decide +kernel
theorem dX12_planned_1 : decode cX12_planned 1 = .ok (.invokevirtual 378, 3) := by decide +kernel
theorem dX12_planned_4 : decode cX12_planned 4 = .ok (.iconst 0, 1) := by decide +kernel
theorem dX12_planned_5 : decode cX12_planned 5 = .ok (.istore 4, 2) := by decide +kernel
theorem dX12_planned_7 : decode cX12_planned 7 = .ok (.iload 4, 2) := by decide +kernel
theorem dX12_planned_9 : decode cX12_planned 9 = .ok (.iload_n 3, 1) := by decide +kernel
theorem dX12_planned_10 : decode cX12_planned 10 = .ok (.if_icmp .ge 28, 3) := by decide +kernel
theorem dX12_planned_13 : decode cX12_planned 13 = .ok (.aload_n 0, 1) := by decide +kernel
theorem dX12_planned_14 : decode cX12_planned 14 = .ok (.iload_n 2, 1) := by decide +kernel
theorem dX12_planned_15 : decode cX12_planned 15 = .ok (.invokevirtual 381, 3) := by decide +kernel
theorem dX12_planned_18 : decode cX12_planned 18 = .ok (.ifCond .ne 20, 3) := by decide +kernel
theorem dX12_planned_38 : decode cX12_planned 38 = .ok (.aload_n 0, 1) := by decide +kernel
theorem dX12_planned_39 : decode cX12_planned 39 = .ok (.iload_n 2, 1) := by decide +kernel
theorem dX12_planned_40 : decode cX12_planned 40 = .ok (.invokevirtual 381, 3) := by decide +kernel
theorem dX12_planned_43 : decode cX12_planned 43 = .ok (.ifCond .eq 8, 3) := by decide +kernel
theorem dX12_planned_46 : decode cX12_planned 46 = .ok (.iload 4, 2) := by decide +kernel
theorem dX12_planned_48 : decode cX12_planned 48 = .ok (.goto 4, 3) := by decide +kernel
theorem dX12_planned_52 : decode cX12_planned 52 = .ok (.istore 5, 2) := by decide +kernel
theorem dX12_planned_54 : decode cX12_planned 54 = .ok (.aload_n 0, 1) := by decide +kernel
theorem dX12_planned_55 : decode cX12_planned 55 = .ok (.iconst 0, 1) := by decide +kernel
theorem dX12_planned_56 : decode cX12_planned 56 = .ok (.invokevirtual 387, 3) := by decide +kernel
theorem dX12_planned_59 : decode cX12_planned 59 = .ok (.iload 5, 2) := by decide +kernel
theorem dX12_planned_61 : decode cX12_planned 61 = .ok (.ireturn, 1) := by decide +kernel
theorem dX12_plan_0 : decode cX12_plan 0 = .ok (.iload_n 1, 1) := by decide +kernel
theorem dX12_plan_1 : decode cX12_plan 1 = .ok (.iconst (-1), 1) := by decide +kernel
theorem dX12_plan_2 : decode cX12_plan 2 = .ok (.if_icmp .eq 13, 3) := by decide +kernel
theorem dX12_plan_5 : decode cX12_plan 5 = .ok (.aload_n 0, 1) := by decide +kernel
theorem dX12_plan_6 : decode cX12_plan 6 = .ok (.iload_n 1, 1) := by decide +kernel
theorem dX12_plan_7 : decode cX12_plan 7 = .ok (.invokevirtual 122, 3) := by decide +kernel
theorem dX12_plan_10 : decode cX12_plan 10 = .ok (.ifCond .ne 5, 3) := by decide +kernel
theorem dX12_plan_13 : decode cX12_plan 13 = .ok (.iconst (-1), 1) := by decide +kernel
theorem dX12_plan_14 : decode cX12_plan 14 = .ok (.ireturn, 1) := by decide +kernel
theorem dX12_plan_15 : decode cX12_plan 15 = .ok (.aload_n 0, 1) := by decide +kernel
theorem dX12_plan_16 : decode cX12_plan 16 = .ok (.aload_n 0, 1) := by decide +kernel
theorem dX12_plan_17 : decode cX12_plan 17 = .ok (.invokevirtual 342, 3) := by decide +kernel
theorem dX12_plan_20 : decode cX12_plan 20 = .ok (.iload_n 1, 1) := by decide +kernel
theorem dX12_plan_21 : decode cX12_plan 21 = .ok (.iconst (-1), 1) := by decide +kernel
theorem dX12_plan_22 : decode cX12_plan 22 = .ok (.if_icmp .ne 10, 3) := by decide +kernel
theorem dX12_plan_25 : decode cX12_plan 25 = .ok (.aload_n 0, 1) := by decide +kernel
theorem dX12_plan_26 : decode cX12_plan 26 = .ok (.invokevirtual 363, 3) := by decide +kernel
theorem dX12_plan_29 : decode cX12_plan 29 = .ok (.goto 6, 3) := by decide +kernel
theorem dX12_plan_35 : decode cX12_plan 35 = .ok (.sipush 200, 3) := by decide +kernel
theorem dX12_plan_38 : decode cX12_plan 38 = .ok (.invokevirtual 390, 3) := by decide +kernel
theorem dX12_plan_41 : decode cX12_plan 41 = .ok (.ireturn, 1) := by decide +kernel
theorem dX12_hands_0 : decode cX12_hands 0 = .ok (.iload_n 1, 1) := by decide +kernel
theorem dX12_hands_1 : decode cX12_hands 1 = .ok (.iconst 0, 1) := by decide +kernel
theorem dX12_hands_2 : decode cX12_hands 2 = .ok (.iconst 1, 1) := by decide +kernel
theorem dX12_hands_3 : decode cX12_hands 3 = .ok (.invokestatic 96, 3) := by decide +kernel
theorem dX12_hands_6 : decode cX12_hands 6 = .ok (.ifCond .ne 5, 3) := by decide +kernel
theorem dX12_hands_9 : decode cX12_hands 9 = .ok (.iconst (-1), 1) := by decide +kernel
theorem dX12_hands_10 : decode cX12_hands 10 = .ok (.ireturn, 1) := by decide +kernel
theorem dX12_hands_11 : decode cX12_hands 11 = .ok (.iconst (-1), 1) := by decide +kernel
theorem dX12_hands_12 : decode cX12_hands 12 = .ok (.istore_n 2, 1) := by decide +kernel
theorem dX12_hands_13 : decode cX12_hands 13 = .ok (.iconst 0, 1) := by decide +kernel
theorem dX12_hands_14 : decode cX12_hands 14 = .ok (.istore_n 3, 1) := by decide +kernel
theorem dX12_hands_15 : decode cX12_hands 15 = .ok (.iload_n 3, 1) := by decide +kernel
theorem dX12_hands_16 : decode cX12_hands 16 = .ok (.aload_n 0, 1) := by decide +kernel
theorem dX12_hands_17 : decode cX12_hands 17 = .ok (.invokevirtual 342, 3) := by decide +kernel
theorem dX12_hands_20 : decode cX12_hands 20 = .ok (.if_icmp .gt 50, 3) := by decide +kernel
theorem dX12_hands_23 : decode cX12_hands 23 = .ok (.iload_n 2, 1) := by decide +kernel
theorem dX12_hands_24 : decode cX12_hands 24 = .ok (.iconst (-1), 1) := by decide +kernel
theorem dX12_hands_25 : decode cX12_hands 25 = .ok (.if_icmp .eq 17, 3) := by decide +kernel
theorem dX12_hands_42 : decode cX12_hands 42 = .ok (.aload_n 0, 1) := by decide +kernel
theorem dX12_hands_43 : decode cX12_hands 43 = .ok (.iload_n 3, 1) := by decide +kernel
theorem dX12_hands_44 : decode cX12_hands 44 = .ok (.aload_n 0, 1) := by decide +kernel
theorem dX12_hands_45 : decode cX12_hands 45 = .ok (.invokevirtual 363, 3) := by decide +kernel
theorem dX12_hands_48 : decode cX12_hands 48 = .ok (.aload_n 0, 1) := by decide +kernel
theorem dX12_hands_49 : decode cX12_hands 49 = .ok (.getfield 24, 3) := by decide +kernel
theorem dX12_hands_52 : decode cX12_hands 52 = .ok (.bipush 99, 2) := by decide +kernel
theorem dX12_hands_54 : decode cX12_hands 54 = .ok (.iaload, 1) := by decide +kernel
theorem dX12_hands_55 : decode cX12_hands 55 = .ok (.invokevirtual 390, 3) := by decide +kernel
theorem dX12_hands_58 : decode cX12_hands 58 = .ok (.iconst (-1), 1) := by decide +kernel
theorem dX12_hands_59 : decode cX12_hands 59 = .ok (.if_icmp .eq 5, 3) := by decide +kernel
theorem dX12_hands_62 : decode cX12_hands 62 = .ok (.iload_n 3, 1) := by decide +kernel
theorem dX12_hands_63 : decode cX12_hands 63 = .ok (.istore_n 2, 1) := by decide +kernel
theorem dX12_hands_64 : decode cX12_hands 64 = .ok (.iinc 3 1, 3) := by decide +kernel
theorem dX12_hands_67 : decode cX12_hands 67 = .ok (.goto (-52), 3) := by decide +kernel
theorem dX12_hands_70 : decode cX12_hands 70 = .ok (.iload_n 2, 1) := by decide +kernel
theorem dX12_hands_71 : decode cX12_hands 71 = .ok (.iconst (-1), 1) := by decide +kernel
theorem dX12_hands_72 : decode cX12_hands 72 = .ok (.if_icmp .eq 8, 3) := by decide +kernel
theorem dX12_hands_75 : decode cX12_hands 75 = .ok (.iload_n 1, 1) := by decide +kernel
theorem dX12_hands_76 : decode cX12_hands 76 = .ok (.iconst 1, 1) := by decide +kernel
theorem dX12_hands_77 : decode cX12_hands 77 = .ok (.if_icmp .ne 7, 3) := by decide +kernel
theorem dX12_hands_80 : decode cX12_hands 80 = .ok (.iload_n 2, 1) := by decide +kernel
theorem dX12_hands_81 : decode cX12_hands 81 = .ok (.goto 7, 3) := by decide +kernel
theorem dX12_hands_84 : decode cX12_hands 84 = .ok (.iload_n 2, 1) := by decide +kernel
theorem dX12_hands_85 : decode cX12_hands 85 = .ok (.invokestatic 287, 3) := by decide +kernel
theorem dX12_hands_88 : decode cX12_hands 88 = .ok (.ireturn, 1) := by decide +kernel
theorem dX12_taught_0 : decode cX12_taught 0 = .ok (.iload_n 1, 1) := by decide +kernel
theorem dX12_taught_1 : decode cX12_taught 1 = .ok (.iconst 0, 1) := by decide +kernel
theorem dX12_taught_2 : decode cX12_taught 2 = .ok (.iconst 2, 1) := by decide +kernel
theorem dX12_taught_3 : decode cX12_taught 3 = .ok (.invokestatic 96, 3) := by decide +kernel
theorem dX12_taught_6 : decode cX12_taught 6 = .ok (.ifCond .ne 5, 3) := by decide +kernel
theorem dX12_taught_9 : decode cX12_taught 9 = .ok (.iconst (-1), 1) := by decide +kernel
theorem dX12_taught_10 : decode cX12_taught 10 = .ok (.ireturn, 1) := by decide +kernel
theorem dX12_taught_11 : decode cX12_taught 11 = .ok (.aload_n 0, 1) := by decide +kernel
theorem dX12_taught_12 : decode cX12_taught 12 = .ok (.iconst (-1), 1) := by decide +kernel
theorem dX12_taught_13 : decode cX12_taught 13 = .ok (.invokevirtual 394, 3) := by decide +kernel
theorem dX12_taught_16 : decode cX12_taught 16 = .ok (.istore_n 2, 1) := by decide +kernel
theorem dX12_taught_17 : decode cX12_taught 17 = .ok (.iload_n 2, 1) := by decide +kernel
theorem dX12_taught_18 : decode cX12_taught 18 = .ok (.iconst (-1), 1) := by decide +kernel
theorem dX12_taught_19 : decode cX12_taught 19 = .ok (.if_icmp .ne 8, 3) := by decide +kernel
theorem dX12_taught_27 : decode cX12_taught 27 = .ok (.iload_n 2, 1) := by decide +kernel
theorem dX12_taught_28 : decode cX12_taught 28 = .ok (.istore_n 3, 1) := by decide +kernel
theorem dX12_taught_29 : decode cX12_taught 29 = .ok (.iconst (-1), 1) := by decide +kernel
theorem dX12_taught_30 : decode cX12_taught 30 = .ok (.istore 4, 2) := by decide +kernel
theorem dX12_taught_32 : decode cX12_taught 32 = .ok (.iconst 0, 1) := by decide +kernel
theorem dX12_taught_33 : decode cX12_taught 33 = .ok (.istore 5, 2) := by decide +kernel
theorem dX12_taught_35 : decode cX12_taught 35 = .ok (.iload 5, 2) := by decide +kernel
theorem dX12_taught_37 : decode cX12_taught 37 = .ok (.aload_n 0, 1) := by decide +kernel
theorem dX12_taught_38 : decode cX12_taught 38 = .ok (.getfield 24, 3) := by decide +kernel
theorem dX12_taught_41 : decode cX12_taught 41 = .ok (.bipush 103, 2) := by decide +kernel
theorem dX12_taught_43 : decode cX12_taught 43 = .ok (.iaload, 1) := by decide +kernel
theorem dX12_taught_44 : decode cX12_taught 44 = .ok (.if_icmp .ge 76, 3) := by decide +kernel
theorem dX12_taught_120 : decode cX12_taught 120 = .ok (.iload 4, 2) := by decide +kernel
theorem dX12_taught_122 : decode cX12_taught 122 = .ok (.iconst (-1), 1) := by decide +kernel
theorem dX12_taught_123 : decode cX12_taught 123 = .ok (.if_icmp .ne 5, 3) := by decide +kernel
theorem dX12_taught_126 : decode cX12_taught 126 = .ok (.iconst (-1), 1) := by decide +kernel
theorem dX12_taught_127 : decode cX12_taught 127 = .ok (.ireturn, 1) := by decide +kernel
theorem dX12_unseen_0 : decode cX12_unseen 0 = .ok (.iload_n 1, 1) := by decide +kernel
theorem dX12_unseen_1 : decode cX12_unseen 1 = .ok (.iconst 0, 1) := by decide +kernel
theorem dX12_unseen_2 : decode cX12_unseen 2 = .ok (.bipush 99, 2) := by decide +kernel
theorem dX12_unseen_4 : decode cX12_unseen 4 = .ok (.invokestatic 96, 3) := by decide +kernel
theorem dX12_unseen_7 : decode cX12_unseen 7 = .ok (.ifCond .ne 7, 3) := by decide +kernel
theorem dX12_unseen_10 : decode cX12_unseen 10 = .ok (.ldc2_w 400, 3) := by decide +kernel
theorem dX12_unseen_13 : decode cX12_unseen 13 = .ok (.lreturn, 1) := by decide +kernel
theorem dX12_unseen_14 : decode cX12_unseen 14 = .ok (.aload_n 0, 1) := by decide +kernel
theorem dX12_unseen_15 : decode cX12_unseen 15 = .ok (.invokevirtual 378, 3) := by decide +kernel
theorem dX12_unseen_18 : decode cX12_unseen 18 = .ok (.ldc2_w 402, 3) := by decide +kernel
theorem dX12_unseen_21 : decode cX12_unseen 21 = .ok (.lstore_n 2, 1) := by decide +kernel
theorem dX12_unseen_22 : decode cX12_unseen 22 = .ok (.iconst 0, 1) := by decide +kernel
theorem dX12_unseen_23 : decode cX12_unseen 23 = .ok (.istore 4, 2) := by decide +kernel
theorem dX12_unseen_25 : decode cX12_unseen 25 = .ok (.iload 4, 2) := by decide +kernel
theorem dX12_unseen_27 : decode cX12_unseen 27 = .ok (.iload_n 1, 1) := by decide +kernel
theorem dX12_unseen_28 : decode cX12_unseen 28 = .ok (.if_icmp .ge 99, 3) := by decide +kernel
theorem dX12_unseen_31 : decode cX12_unseen 31 = .ok (.aload_n 0, 1) := by decide +kernel
theorem dX12_unseen_32 : decode cX12_unseen 32 = .ok (.aload_n 0, 1) := by decide +kernel
theorem dX12_unseen_33 : decode cX12_unseen 33 = .ok (.invokevirtual 363, 3) := by decide +kernel
theorem dX12_unseen_36 : decode cX12_unseen 36 = .ok (.invokevirtual 381, 3) := by decide +kernel
theorem dX12_unseen_39 : decode cX12_unseen 39 = .ok (.ifCond .ne 88, 3) := by decide +kernel
theorem dX12_unseen_127 : decode cX12_unseen 127 = .ok (.aload_n 0, 1) := by decide +kernel
theorem dX12_unseen_128 : decode cX12_unseen 128 = .ok (.iconst 0, 1) := by decide +kernel
theorem dX12_unseen_129 : decode cX12_unseen 129 = .ok (.invokevirtual 387, 3) := by decide +kernel
theorem dX12_unseen_132 : decode cX12_unseen 132 = .ok (.lload_n 2, 1) := by decide +kernel
theorem dX12_unseen_133 : decode cX12_unseen 133 = .ok (.lreturn, 1) := by decide +kernel
theorem dX12_sight_0 : decode cX12_sight 0 = .ok (.iload_n 1, 1) := by decide +kernel
theorem dX12_sight_1 : decode cX12_sight 1 = .ok (.iconst 0, 1) := by decide +kernel
theorem dX12_sight_2 : decode cX12_sight 2 = .ok (.bipush 99, 2) := by decide +kernel
theorem dX12_sight_4 : decode cX12_sight 4 = .ok (.invokestatic 96, 3) := by decide +kernel
theorem dX12_sight_7 : decode cX12_sight 7 = .ok (.ifCond .eq 12, 3) := by decide +kernel
theorem dX12_sight_10 : decode cX12_sight 10 = .ok (.iload_n 3, 1) := by decide +kernel
theorem dX12_sight_11 : decode cX12_sight 11 = .ok (.iconst 0, 1) := by decide +kernel
theorem dX12_sight_12 : decode cX12_sight 12 = .ok (.iconst 1, 1) := by decide +kernel
theorem dX12_sight_13 : decode cX12_sight 13 = .ok (.invokestatic 96, 3) := by decide +kernel
theorem dX12_sight_16 : decode cX12_sight 16 = .ok (.ifCond .ne 9, 3) := by decide +kernel
theorem dX12_sight_19 : decode cX12_sight 19 = .ok (.aload_n 0, 1) := by decide +kernel
theorem dX12_sight_20 : decode cX12_sight 20 = .ok (.iconst (-1), 1) := by decide +kernel
theorem dX12_sight_21 : decode cX12_sight 21 = .ok (.invokevirtual 100, 3) := by decide +kernel
theorem dX12_sight_24 : decode cX12_sight 24 = .ok (.ireturn, 1) := by decide +kernel
theorem dX12_sight_25 : decode cX12_sight 25 = .ok (.aload_n 0, 1) := by decide +kernel
theorem dX12_sight_26 : decode cX12_sight 26 = .ok (.iload_n 2, 1) := by decide +kernel
theorem dX12_sight_27 : decode cX12_sight 27 = .ok (.invokevirtual 122, 3) := by decide +kernel
theorem dX12_sight_30 : decode cX12_sight 30 = .ok (.ifCond .ne 10, 3) := by decide +kernel
theorem dX12_sight_33 : decode cX12_sight 33 = .ok (.aload_n 0, 1) := by decide +kernel
theorem dX12_sight_34 : decode cX12_sight 34 = .ok (.bipush (-2), 2) := by decide +kernel
theorem dX12_sight_36 : decode cX12_sight 36 = .ok (.invokevirtual 100, 3) := by decide +kernel
theorem dX12_sight_39 : decode cX12_sight 39 = .ok (.ireturn, 1) := by decide +kernel
theorem dX12_forget_0 : decode cX12_forget 0 = .ok (.aload_n 0, 1) := by decide +kernel
theorem dX12_forget_1 : decode cX12_forget 1 = .ok (.getfield 24, 3) := by decide +kernel
theorem dX12_forget_4 : decode cX12_forget 4 = .ok (.bipush 104, 2) := by decide +kernel
theorem dX12_forget_6 : decode cX12_forget 6 = .ok (.iaload, 1) := by decide +kernel
theorem dX12_forget_7 : decode cX12_forget 7 = .ok (.istore_n 1, 1) := by decide +kernel
theorem dX12_forget_8 : decode cX12_forget 8 = .ok (.aload_n 0, 1) := by decide +kernel
theorem dX12_forget_9 : decode cX12_forget 9 = .ok (.getfield 24, 3) := by decide +kernel
theorem dX12_forget_12 : decode cX12_forget 12 = .ok (.bipush 104, 2) := by decide +kernel
theorem dX12_forget_14 : decode cX12_forget 14 = .ok (.iconst 0, 1) := by decide +kernel
theorem dX12_forget_15 : decode cX12_forget 15 = .ok (.iastore, 1) := by decide +kernel
theorem dX12_forget_16 : decode cX12_forget 16 = .ok (.iload_n 1, 1) := by decide +kernel
theorem dX12_forget_17 : decode cX12_forget 17 = .ok (.ireturn, 1) := by decide +kernel
theorem dX12_areSo_0 : decode cX12_areSo 0 = .ok (.iconst 1, 1) := by decide +kernel
theorem dX12_areSo_1 : decode cX12_areSo 1 = .ok (.istore_n 2, 1) := by decide +kernel
theorem dX12_areSo_2 : decode cX12_areSo 2 = .ok (.iconst 0, 1) := by decide +kernel
theorem dX12_areSo_3 : decode cX12_areSo 3 = .ok (.istore_n 3, 1) := by decide +kernel
theorem dX12_areSo_4 : decode cX12_areSo 4 = .ok (.iload_n 3, 1) := by decide +kernel
theorem dX12_areSo_5 : decode cX12_areSo 5 = .ok (.aload_n 0, 1) := by decide +kernel
theorem dX12_areSo_6 : decode cX12_areSo 6 = .ok (.getfield 24, 3) := by decide +kernel
theorem dX12_areSo_9 : decode cX12_areSo 9 = .ok (.bipush 104, 2) := by decide +kernel
theorem dX12_areSo_11 : decode cX12_areSo 11 = .ok (.iaload, 1) := by decide +kernel
theorem dX12_areSo_12 : decode cX12_areSo 12 = .ok (.if_icmp .ge 76, 3) := by decide +kernel
theorem dX12_areSo_88 : decode cX12_areSo 88 = .ok (.iload_n 2, 1) := by decide +kernel
theorem dX12_areSo_89 : decode cX12_areSo 89 = .ok (.ireturn, 1) := by decide +kernel
theorem dX12_lastSight_0 : decode cX12_lastSight 0 = .ok (.iconst 0, 1) := by decide +kernel
theorem dX12_lastSight_1 : decode cX12_lastSight 1 = .ok (.istore_n 1, 1) := by decide +kernel
theorem dX12_lastSight_2 : decode cX12_lastSight 2 = .ok (.iconst 0, 1) := by decide +kernel
theorem dX12_lastSight_3 : decode cX12_lastSight 3 = .ok (.istore_n 2, 1) := by decide +kernel
theorem dX12_lastSight_4 : decode cX12_lastSight 4 = .ok (.iload_n 2, 1) := by decide +kernel
theorem dX12_lastSight_5 : decode cX12_lastSight 5 = .ok (.aload_n 0, 1) := by decide +kernel
theorem dX12_lastSight_6 : decode cX12_lastSight 6 = .ok (.getfield 24, 3) := by decide +kernel
theorem dX12_lastSight_9 : decode cX12_lastSight 9 = .ok (.bipush 104, 2) := by decide +kernel
theorem dX12_lastSight_11 : decode cX12_lastSight 11 = .ok (.iaload, 1) := by decide +kernel
theorem dX12_lastSight_12 : decode cX12_lastSight 12 = .ok (.if_icmp .ge 25, 3) := by decide +kernel
theorem dX12_lastSight_37 : decode cX12_lastSight 37 = .ok (.iload_n 1, 1) := by decide +kernel
theorem dX12_lastSight_38 : decode cX12_lastSight 38 = .ok (.ireturn, 1) := by decide +kernel
theorem dX12_goesOn_0 : decode cX12_goesOn 0 = .ok (.aload_n 0, 1) := by decide +kernel
theorem dX12_goesOn_1 : decode cX12_goesOn 1 = .ok (.aload_n 0, 1) := by decide +kernel
theorem dX12_goesOn_2 : decode cX12_goesOn 2 = .ok (.invokevirtual 363, 3) := by decide +kernel
theorem dX12_goesOn_5 : decode cX12_goesOn 5 = .ok (.invokevirtual 381, 3) := by decide +kernel
theorem dX12_goesOn_8 : decode cX12_goesOn 8 = .ok (.ifCond .eq 4, 3) := by decide +kernel
theorem dX12_goesOn_11 : decode cX12_goesOn 11 = .ok (.return_, 1) := by decide +kernel
theorem dX12_canBeWhose_0 : decode cX12_canBeWhose 0 = .ok (.aload_n 0, 1) := by decide +kernel
theorem dX12_canBeWhose_1 : decode cX12_canBeWhose 1 = .ok (.invokevirtual 378, 3) := by decide +kernel
theorem dX12_canBeWhose_4 : decode cX12_canBeWhose 4 = .ok (.aload_n 0, 1) := by decide +kernel
theorem dX12_canBeWhose_5 : decode cX12_canBeWhose 5 = .ok (.invokevirtual 406, 3) := by decide +kernel
theorem dX12_canBeWhose_8 : decode cX12_canBeWhose 8 = .ok (.istore_n 2, 1) := by decide +kernel
theorem dX12_canBeWhose_9 : decode cX12_canBeWhose 9 = .ok (.aload_n 0, 1) := by decide +kernel
theorem dX12_canBeWhose_10 : decode cX12_canBeWhose 10 = .ok (.iconst 0, 1) := by decide +kernel
theorem dX12_canBeWhose_11 : decode cX12_canBeWhose 11 = .ok (.invokevirtual 409, 3) := by decide +kernel
theorem dX12_canBeWhose_14 : decode cX12_canBeWhose 14 = .ok (.istore_n 3, 1) := by decide +kernel
theorem dX12_canBeWhose_15 : decode cX12_canBeWhose 15 = .ok (.iconst 1, 1) := by decide +kernel
theorem dX12_canBeWhose_16 : decode cX12_canBeWhose 16 = .ok (.istore 4, 2) := by decide +kernel
theorem dX12_canBeWhose_18 : decode cX12_canBeWhose 18 = .ok (.iload 4, 2) := by decide +kernel
theorem dX12_canBeWhose_20 : decode cX12_canBeWhose 20 = .ok (.iload_n 2, 1) := by decide +kernel
theorem dX12_canBeWhose_21 : decode cX12_canBeWhose 21 = .ok (.if_icmp .gt 25, 3) := by decide +kernel
theorem dX12_canBeWhose_46 : decode cX12_canBeWhose 46 = .ok (.aload_n 0, 1) := by decide +kernel
theorem dX12_canBeWhose_47 : decode cX12_canBeWhose 47 = .ok (.iconst 0, 1) := by decide +kernel
theorem dX12_canBeWhose_48 : decode cX12_canBeWhose 48 = .ok (.invokevirtual 387, 3) := by decide +kernel
theorem dX12_canBeWhose_51 : decode cX12_canBeWhose 51 = .ok (.iload_n 3, 1) := by decide +kernel
theorem dX12_canBeWhose_52 : decode cX12_canBeWhose 52 = .ok (.ireturn, 1) := by decide +kernel
theorem dX12_whose_0 : decode cX12_whose 0 = .ok (.iload_n 1, 1) := by decide +kernel
theorem dX12_whose_1 : decode cX12_whose 1 = .ok (.iconst (-1), 1) := by decide +kernel
theorem dX12_whose_2 : decode cX12_whose 2 = .ok (.if_icmp .ge 5, 3) := by decide +kernel
theorem dX12_whose_5 : decode cX12_whose 5 = .ok (.iconst (-1), 1) := by decide +kernel
theorem dX12_whose_6 : decode cX12_whose 6 = .ok (.ireturn, 1) := by decide +kernel
theorem dX12_whose_7 : decode cX12_whose 7 = .ok (.iconst 0, 1) := by decide +kernel
theorem dX12_whose_8 : decode cX12_whose 8 = .ok (.istore_n 2, 1) := by decide +kernel
theorem dX12_whose_9 : decode cX12_whose 9 = .ok (.iconst 0, 1) := by decide +kernel
theorem dX12_whose_10 : decode cX12_whose 10 = .ok (.istore_n 3, 1) := by decide +kernel
theorem dX12_whose_11 : decode cX12_whose 11 = .ok (.iload_n 3, 1) := by decide +kernel
theorem dX12_whose_12 : decode cX12_whose 12 = .ok (.aload_n 0, 1) := by decide +kernel
theorem dX12_whose_13 : decode cX12_whose 13 = .ok (.invokevirtual 342, 3) := by decide +kernel
theorem dX12_whose_16 : decode cX12_whose 16 = .ok (.if_icmp .gt 30, 3) := by decide +kernel
theorem dX12_whose_19 : decode cX12_whose 19 = .ok (.aload_n 0, 1) := by decide +kernel
theorem dX12_whose_20 : decode cX12_whose 20 = .ok (.iload_n 3, 1) := by decide +kernel
theorem dX12_whose_21 : decode cX12_whose 21 = .ok (.invokevirtual 415, 3) := by decide +kernel
theorem dX12_whose_24 : decode cX12_whose 24 = .ok (.ifCond .ne 6, 3) := by decide +kernel
theorem dX12_whose_30 : decode cX12_whose 30 = .ok (.iload_n 2, 1) := by decide +kernel
theorem dX12_whose_31 : decode cX12_whose 31 = .ok (.iload_n 1, 1) := by decide +kernel
theorem dX12_whose_32 : decode cX12_whose 32 = .ok (.if_icmp .ne 5, 3) := by decide +kernel
theorem dX12_whose_35 : decode cX12_whose 35 = .ok (.iload_n 3, 1) := by decide +kernel
theorem dX12_whose_36 : decode cX12_whose 36 = .ok (.ireturn, 1) := by decide +kernel
theorem dX12_whose_37 : decode cX12_whose 37 = .ok (.iinc 2 1, 3) := by decide +kernel
theorem dX12_whose_40 : decode cX12_whose 40 = .ok (.iinc 3 1, 3) := by decide +kernel
theorem dX12_whose_43 : decode cX12_whose 43 = .ok (.goto (-32), 3) := by decide +kernel
theorem dX12_whose_46 : decode cX12_whose 46 = .ok (.iload_n 1, 1) := by decide +kernel
theorem dX12_whose_47 : decode cX12_whose 47 = .ok (.iconst (-1), 1) := by decide +kernel
theorem dX12_whose_48 : decode cX12_whose 48 = .ok (.if_icmp .ne 7, 3) := by decide +kernel
theorem dX12_whose_51 : decode cX12_whose 51 = .ok (.iload_n 2, 1) := by decide +kernel
theorem dX12_whose_52 : decode cX12_whose 52 = .ok (.goto 4, 3) := by decide +kernel
theorem dX12_whose_55 : decode cX12_whose 55 = .ok (.iconst (-1), 1) := by decide +kernel
theorem dX12_whose_56 : decode cX12_whose 56 = .ok (.ireturn, 1) := by decide +kernel
theorem dX12_shows_0 : decode cX12_shows 0 = .ok (.aload_n 0, 1) := by decide +kernel
theorem dX12_shows_1 : decode cX12_shows 1 = .ok (.invokevirtual 378, 3) := by decide +kernel
theorem dX12_shows_4 : decode cX12_shows 4 = .ok (.iconst 0, 1) := by decide +kernel
theorem dX12_shows_5 : decode cX12_shows 5 = .ok (.istore_n 2, 1) := by decide +kernel
theorem dX12_shows_6 : decode cX12_shows 6 = .ok (.iload_n 2, 1) := by decide +kernel
theorem dX12_shows_7 : decode cX12_shows 7 = .ok (.bipush 40, 2) := by decide +kernel
theorem dX12_shows_9 : decode cX12_shows 9 = .ok (.if_icmp .gt 35, 3) := by decide +kernel
theorem dX12_shows_12 : decode cX12_shows 12 = .ok (.aload_n 0, 1) := by decide +kernel
theorem dX12_shows_13 : decode cX12_shows 13 = .ok (.getfield 80, 3) := by decide +kernel
theorem dX12_shows_16 : decode cX12_shows 16 = .ok (.bipush 11, 2) := by decide +kernel
theorem dX12_shows_18 : decode cX12_shows 18 = .ok (.iload_n 2, 1) := by decide +kernel
theorem dX12_shows_19 : decode cX12_shows 19 = .ok (.imul, 1) := by decide +kernel
theorem dX12_shows_20 : decode cX12_shows 20 = .ok (.aload_n 0, 1) := by decide +kernel
theorem dX12_shows_21 : decode cX12_shows 21 = .ok (.invokevirtual 118, 3) := by decide +kernel
theorem dX12_shows_24 : decode cX12_shows 24 = .ok (.invokestatic 287, 3) := by decide +kernel
theorem dX12_shows_27 : decode cX12_shows 27 = .ok (.iadd, 1) := by decide +kernel
theorem dX12_shows_28 : decode cX12_shows 28 = .ok (.dup2, 1) := by decide +kernel
theorem dX12_shows_29 : decode cX12_shows 29 = .ok (.iaload, 1) := by decide +kernel
theorem dX12_shows_30 : decode cX12_shows 30 = .ok (.iconst 1, 1) := by decide +kernel
theorem dX12_shows_31 : decode cX12_shows 31 = .ok (.iadd, 1) := by decide +kernel
theorem dX12_shows_32 : decode cX12_shows 32 = .ok (.iastore, 1) := by decide +kernel
theorem dX12_shows_33 : decode cX12_shows 33 = .ok (.aload_n 0, 1) := by decide +kernel
theorem dX12_shows_34 : decode cX12_shows 34 = .ok (.iload_n 1, 1) := by decide +kernel
theorem dX12_shows_35 : decode cX12_shows 35 = .ok (.invokevirtual 412, 3) := by decide +kernel
theorem dX12_shows_38 : decode cX12_shows 38 = .ok (.iinc 2 1, 3) := by decide +kernel
theorem dX12_shows_41 : decode cX12_shows 41 = .ok (.goto (-35), 3) := by decide +kernel
theorem dX12_shows_44 : decode cX12_shows 44 = .ok (.aload_n 0, 1) := by decide +kernel
theorem dX12_shows_45 : decode cX12_shows 45 = .ok (.iconst 0, 1) := by decide +kernel
theorem dX12_shows_46 : decode cX12_shows 46 = .ok (.invokevirtual 387, 3) := by decide +kernel
theorem dX12_shows_49 : decode cX12_shows 49 = .ok (.return_, 1) := by decide +kernel
theorem dX12_look_0 : decode cX12_look 0 = .ok (.iload_n 1, 1) := by decide +kernel
theorem dX12_look_1 : decode cX12_look 1 = .ok (.iconst 0, 1) := by decide +kernel
theorem dX12_look_2 : decode cX12_look 2 = .ok (.iconst 1, 1) := by decide +kernel
theorem dX12_look_3 : decode cX12_look 3 = .ok (.invokestatic 96, 3) := by decide +kernel
theorem dX12_look_6 : decode cX12_look 6 = .ok (.ifCond .ne 5, 3) := by decide +kernel
theorem dX12_look_9 : decode cX12_look 9 = .ok (.iconst (-1), 1) := by decide +kernel
theorem dX12_look_10 : decode cX12_look 10 = .ok (.ireturn, 1) := by decide +kernel
theorem dX12_look_11 : decode cX12_look 11 = .ok (.iconst 0, 1) := by decide +kernel
theorem dX12_look_12 : decode cX12_look 12 = .ok (.istore_n 2, 1) := by decide +kernel
theorem dX12_look_13 : decode cX12_look 13 = .ok (.iconst 0, 1) := by decide +kernel
theorem dX12_look_14 : decode cX12_look 14 = .ok (.istore_n 3, 1) := by decide +kernel
theorem dX12_look_15 : decode cX12_look 15 = .ok (.iload_n 3, 1) := by decide +kernel
theorem dX12_look_16 : decode cX12_look 16 = .ok (.sipush 451, 3) := by decide +kernel
theorem dX12_look_19 : decode cX12_look 19 = .ok (.if_icmp .ge 16, 3) := by decide +kernel
theorem dX12_look_22 : decode cX12_look 22 = .ok (.aload_n 0, 1) := by decide +kernel
theorem dX12_look_23 : decode cX12_look 23 = .ok (.getfield 80, 3) := by decide +kernel
theorem dX12_look_26 : decode cX12_look 26 = .ok (.iload_n 3, 1) := by decide +kernel
theorem dX12_look_27 : decode cX12_look 27 = .ok (.iconst 0, 1) := by decide +kernel
theorem dX12_look_28 : decode cX12_look 28 = .ok (.iastore, 1) := by decide +kernel
theorem dX12_look_29 : decode cX12_look 29 = .ok (.iinc 3 1, 3) := by decide +kernel
theorem dX12_look_32 : decode cX12_look 32 = .ok (.goto (-17), 3) := by decide +kernel
theorem dX12_look_35 : decode cX12_look 35 = .ok (.iconst 0, 1) := by decide +kernel
theorem dX12_look_36 : decode cX12_look 36 = .ok (.istore_n 3, 1) := by decide +kernel
theorem dX12_look_37 : decode cX12_look 37 = .ok (.iload_n 3, 1) := by decide +kernel
theorem dX12_look_38 : decode cX12_look 38 = .ok (.aload_n 0, 1) := by decide +kernel
theorem dX12_look_39 : decode cX12_look 39 = .ok (.invokevirtual 342, 3) := by decide +kernel
theorem dX12_look_42 : decode cX12_look 42 = .ok (.if_icmp .gt 28, 3) := by decide +kernel
theorem dX12_look_45 : decode cX12_look 45 = .ok (.aload_n 0, 1) := by decide +kernel
theorem dX12_look_46 : decode cX12_look 46 = .ok (.iload_n 3, 1) := by decide +kernel
theorem dX12_look_47 : decode cX12_look 47 = .ok (.invokevirtual 415, 3) := by decide +kernel
theorem dX12_look_50 : decode cX12_look 50 = .ok (.ifCond .ne 6, 3) := by decide +kernel
theorem dX12_look_56 : decode cX12_look 56 = .ok (.iinc 2 1, 3) := by decide +kernel
theorem dX12_look_59 : decode cX12_look 59 = .ok (.aload_n 0, 1) := by decide +kernel
theorem dX12_look_60 : decode cX12_look 60 = .ok (.iload_n 3, 1) := by decide +kernel
theorem dX12_look_61 : decode cX12_look 61 = .ok (.invokevirtual 418, 3) := by decide +kernel
theorem dX12_look_64 : decode cX12_look 64 = .ok (.iinc 3 1, 3) := by decide +kernel
theorem dX12_look_67 : decode cX12_look 67 = .ok (.goto (-30), 3) := by decide +kernel
theorem dX12_look_70 : decode cX12_look 70 = .ok (.iconst (-1), 1) := by decide +kernel
theorem dX12_look_71 : decode cX12_look 71 = .ok (.istore_n 3, 1) := by decide +kernel
theorem dX12_look_72 : decode cX12_look 72 = .ok (.ldc 157, 2) := by decide +kernel
theorem dX12_look_74 : decode cX12_look 74 = .ok (.istore 4, 2) := by decide +kernel
theorem dX12_look_76 : decode cX12_look 76 = .ok (.iconst 0, 1) := by decide +kernel
theorem dX12_look_77 : decode cX12_look 77 = .ok (.istore 5, 2) := by decide +kernel
theorem dX12_look_79 : decode cX12_look 79 = .ok (.iload 5, 2) := by decide +kernel
theorem dX12_look_81 : decode cX12_look 81 = .ok (.bipush 40, 2) := by decide +kernel
theorem dX12_look_83 : decode cX12_look 83 = .ok (.if_icmp .gt 69, 3) := by decide +kernel
theorem dX12_look_86 : decode cX12_look 86 = .ok (.iload_n 2, 1) := by decide +kernel
theorem dX12_look_87 : decode cX12_look 87 = .ok (.ifCond .le 65, 3) := by decide +kernel
theorem dX12_look_90 : decode cX12_look 90 = .ok (.iconst 0, 1) := by decide +kernel
theorem dX12_look_91 : decode cX12_look 91 = .ok (.istore 6, 2) := by decide +kernel
theorem dX12_look_93 : decode cX12_look 93 = .ok (.iconst 0, 1) := by decide +kernel
theorem dX12_look_94 : decode cX12_look 94 = .ok (.istore 7, 2) := by decide +kernel
theorem dX12_look_96 : decode cX12_look 96 = .ok (.iload 7, 2) := by decide +kernel
theorem dX12_look_98 : decode cX12_look 98 = .ok (.bipush 10, 2) := by decide +kernel
theorem dX12_look_100 : decode cX12_look 100 = .ok (.if_icmp .gt 29, 3) := by decide +kernel
theorem dX12_look_103 : decode cX12_look 103 = .ok (.iload 6, 2) := by decide +kernel
theorem dX12_look_105 : decode cX12_look 105 = .ok (.aload_n 0, 1) := by decide +kernel
theorem dX12_look_106 : decode cX12_look 106 = .ok (.getfield 80, 3) := by decide +kernel
theorem dX12_look_109 : decode cX12_look 109 = .ok (.bipush 11, 2) := by decide +kernel
theorem dX12_look_111 : decode cX12_look 111 = .ok (.iload 5, 2) := by decide +kernel
theorem dX12_look_113 : decode cX12_look 113 = .ok (.imul, 1) := by decide +kernel
theorem dX12_look_114 : decode cX12_look 114 = .ok (.iload 7, 2) := by decide +kernel
theorem dX12_look_116 : decode cX12_look 116 = .ok (.iadd, 1) := by decide +kernel
theorem dX12_look_117 : decode cX12_look 117 = .ok (.iaload, 1) := by decide +kernel
theorem dX12_look_118 : decode cX12_look 118 = .ok (.invokestatic 327, 3) := by decide +kernel
theorem dX12_look_121 : decode cX12_look 121 = .ok (.istore 6, 2) := by decide +kernel
theorem dX12_look_123 : decode cX12_look 123 = .ok (.iinc 7 1, 3) := by decide +kernel
theorem dX12_look_126 : decode cX12_look 126 = .ok (.goto (-30), 3) := by decide +kernel
theorem dX12_look_129 : decode cX12_look 129 = .ok (.iload 6, 2) := by decide +kernel
theorem dX12_look_131 : decode cX12_look 131 = .ok (.iload 4, 2) := by decide +kernel
theorem dX12_look_133 : decode cX12_look 133 = .ok (.if_icmp .lt 6, 3) := by decide +kernel
theorem dX12_look_136 : decode cX12_look 136 = .ok (.goto 10, 3) := by decide +kernel
theorem dX12_look_139 : decode cX12_look 139 = .ok (.iload 6, 2) := by decide +kernel
theorem dX12_look_141 : decode cX12_look 141 = .ok (.istore 4, 2) := by decide +kernel
theorem dX12_look_143 : decode cX12_look 143 = .ok (.iload 5, 2) := by decide +kernel
theorem dX12_look_145 : decode cX12_look 145 = .ok (.istore_n 3, 1) := by decide +kernel
theorem dX12_look_146 : decode cX12_look 146 = .ok (.iinc 5 1, 3) := by decide +kernel
theorem dX12_look_149 : decode cX12_look 149 = .ok (.goto (-70), 3) := by decide +kernel
theorem dX12_look_152 : decode cX12_look 152 = .ok (.iload_n 3, 1) := by decide +kernel
theorem dX12_look_153 : decode cX12_look 153 = .ok (.iconst (-1), 1) := by decide +kernel
theorem dX12_look_154 : decode cX12_look 154 = .ok (.if_icmp .eq 7, 3) := by decide +kernel
theorem dX12_look_157 : decode cX12_look 157 = .ok (.iload_n 1, 1) := by decide +kernel
theorem dX12_look_158 : decode cX12_look 158 = .ok (.ifCond .ne 7, 3) := by decide +kernel
theorem dX12_look_161 : decode cX12_look 161 = .ok (.iload_n 3, 1) := by decide +kernel
theorem dX12_look_162 : decode cX12_look 162 = .ok (.goto 5, 3) := by decide +kernel
theorem dX12_look_165 : decode cX12_look 165 = .ok (.iload 4, 2) := by decide +kernel
theorem dX12_look_167 : decode cX12_look 167 = .ok (.ireturn, 1) := by decide +kernel
theorem dX12_stopped_0 : decode cX12_stopped 0 = .ok (.aload_n 0, 1) := by decide +kernel
theorem dX12_stopped_1 : decode cX12_stopped 1 = .ok (.getfield 83, 3) := by decide +kernel
theorem dX12_stopped_4 : decode cX12_stopped 4 = .ok (.ireturn, 1) := by decide +kernel
theorem dX12_orders_0 : decode cX12_orders 0 = .ok (.aload_n 0, 1) := by decide +kernel
theorem dX12_orders_1 : decode cX12_orders 1 = .ok (.iconst (-1), 1) := by decide +kernel
theorem dX12_orders_2 : decode cX12_orders 2 = .ok (.putfield 83, 3) := by decide +kernel
theorem dX12_orders_5 : decode cX12_orders 5 = .ok (.aload_n 0, 1) := by decide +kernel
theorem dX12_orders_6 : decode cX12_orders 6 = .ok (.iconst 1, 1) := by decide +kernel
theorem dX12_orders_7 : decode cX12_orders 7 = .ok (.invokevirtual 235, 3) := by decide +kernel
theorem dX12_orders_10 : decode cX12_orders 10 = .ok (.ifCond .ne 10, 3) := by decide +kernel
theorem dX12_orders_13 : decode cX12_orders 13 = .ok (.aload_n 0, 1) := by decide +kernel
theorem dX12_orders_14 : decode cX12_orders 14 = .ok (.bipush (-6), 2) := by decide +kernel
theorem dX12_orders_16 : decode cX12_orders 16 = .ok (.invokevirtual 100, 3) := by decide +kernel
theorem dX12_orders_19 : decode cX12_orders 19 = .ok (.ireturn, 1) := by decide +kernel
theorem dX12_draws_0 : decode cX12_draws 0 = .ok (.aload_n 0, 1) := by decide +kernel
theorem dX12_draws_1 : decode cX12_draws 1 = .ok (.ldc2_w 452, 3) := by decide +kernel
theorem dX12_draws_4 : decode cX12_draws 4 = .ok (.aload_n 0, 1) := by decide +kernel
theorem dX12_draws_5 : decode cX12_draws 5 = .ok (.getfield 454, 3) := by decide +kernel
theorem dX12_draws_8 : decode cX12_draws 8 = .ok (.i2l, 1) := by decide +kernel
theorem dX12_draws_9 : decode cX12_draws 9 = .ok (.lmul, 1) := by decide +kernel
theorem dX12_draws_10 : decode cX12_draws 10 = .ok (.ldc2_w 457, 3) := by decide +kernel
theorem dX12_draws_13 : decode cX12_draws 13 = .ok (.ladd, 1) := by decide +kernel
theorem dX12_draws_14 : decode cX12_draws 14 = .ok (.ldc2_w 459, 3) := by decide +kernel
theorem dX12_draws_17 : decode cX12_draws 17 = .ok (.lrem, 1) := by decide +kernel
theorem dX12_draws_18 : decode cX12_draws 18 = .ok (.l2i, 1) := by decide +kernel
theorem dX12_draws_19 : decode cX12_draws 19 = .ok (.putfield 454, 3) := by decide +kernel
theorem dX12_draws_22 : decode cX12_draws 22 = .ok (.aload_n 0, 1) := by decide +kernel
theorem dX12_draws_23 : decode cX12_draws 23 = .ok (.getfield 454, 3) := by decide +kernel
theorem dX12_draws_26 : decode cX12_draws 26 = .ok (.iload_n 1, 1) := by decide +kernel
theorem dX12_draws_27 : decode cX12_draws 27 = .ok (.irem, 1) := by decide +kernel
theorem dX12_draws_28 : decode cX12_draws 28 = .ok (.ireturn, 1) := by decide +kernel
theorem dX12_nights_0 : decode cX12_nights 0 = .ok (.iload_n 1, 1) := by decide +kernel
theorem dX12_nights_1 : decode cX12_nights 1 = .ok (.iconst 0, 1) := by decide +kernel
theorem dX12_nights_2 : decode cX12_nights 2 = .ok (.ldc 157, 2) := by decide +kernel
theorem dX12_nights_4 : decode cX12_nights 4 = .ok (.invokestatic 96, 3) := by decide +kernel
theorem dX12_nights_7 : decode cX12_nights 7 = .ok (.ifCond .eq 13, 3) := by decide +kernel
theorem dX12_nights_10 : decode cX12_nights 10 = .ok (.iload_n 2, 1) := by decide +kernel
theorem dX12_nights_11 : decode cX12_nights 11 = .ok (.iconst 1, 1) := by decide +kernel
theorem dX12_nights_12 : decode cX12_nights 12 = .ok (.bipush 20, 2) := by decide +kernel
theorem dX12_nights_14 : decode cX12_nights 14 = .ok (.invokestatic 96, 3) := by decide +kernel
theorem dX12_nights_17 : decode cX12_nights 17 = .ok (.ifCond .ne 9, 3) := by decide +kernel
theorem dX12_nights_20 : decode cX12_nights 20 = .ok (.aload_n 0, 1) := by decide +kernel
theorem dX12_nights_21 : decode cX12_nights 21 = .ok (.iconst (-1), 1) := by decide +kernel
theorem dX12_nights_22 : decode cX12_nights 22 = .ok (.invokevirtual 100, 3) := by decide +kernel
theorem dX12_nights_25 : decode cX12_nights 25 = .ok (.ireturn, 1) := by decide +kernel
theorem dX12_nights_26 : decode cX12_nights 26 = .ok (.aload_n 0, 1) := by decide +kernel
theorem dX12_nights_27 : decode cX12_nights 27 = .ok (.iload_n 1, 1) := by decide +kernel
theorem dX12_nights_28 : decode cX12_nights 28 = .ok (.putfield 454, 3) := by decide +kernel
theorem dX12_nights_31 : decode cX12_nights 31 = .ok (.aload_n 0, 1) := by decide +kernel
theorem dX12_nights_32 : decode cX12_nights 32 = .ok (.aload_n 0, 1) := by decide +kernel
theorem dX12_nights_33 : decode cX12_nights 33 = .ok (.getfield 24, 3) := by decide +kernel
theorem dX12_nights_36 : decode cX12_nights 36 = .ok (.bipush 102, 2) := by decide +kernel
theorem dX12_nights_38 : decode cX12_nights 38 = .ok (.iaload, 1) := by decide +kernel
theorem dX12_nights_39 : decode cX12_nights 39 = .ok (.putfield 93, 3) := by decide +kernel
theorem dX12_nights_42 : decode cX12_nights 42 = .ok (.aload_n 0, 1) := by decide +kernel
theorem dX12_nights_43 : decode cX12_nights 43 = .ok (.aload_n 0, 1) := by decide +kernel
theorem dX12_nights_44 : decode cX12_nights 44 = .ok (.getfield 24, 3) := by decide +kernel
theorem dX12_nights_47 : decode cX12_nights 47 = .ok (.bipush 103, 2) := by decide +kernel
theorem dX12_nights_49 : decode cX12_nights 49 = .ok (.iaload, 1) := by decide +kernel
theorem dX12_nights_50 : decode cX12_nights 50 = .ok (.putfield 461, 3) := by decide +kernel
theorem dX12_nights_53 : decode cX12_nights 53 = .ok (.iconst 0, 1) := by decide +kernel
theorem dX12_nights_54 : decode cX12_nights 54 = .ok (.istore_n 3, 1) := by decide +kernel
theorem dX12_nights_55 : decode cX12_nights 55 = .ok (.iconst 0, 1) := by decide +kernel
theorem dX12_nights_56 : decode cX12_nights 56 = .ok (.istore 4, 2) := by decide +kernel
theorem dX12_nights_58 : decode cX12_nights 58 = .ok (.iload 4, 2) := by decide +kernel
theorem dX12_nights_60 : decode cX12_nights 60 = .ok (.iload_n 2, 1) := by decide +kernel
theorem dX12_nights_61 : decode cX12_nights 61 = .ok (.if_icmp .ge 135, 3) := by decide +kernel
theorem dX12_nights_64 : decode cX12_nights 64 = .ok (.aload_n 0, 1) := by decide +kernel
theorem dX12_nights_65 : decode cX12_nights 65 = .ok (.invokevirtual 378, 3) := by decide +kernel
theorem dX12_nights_68 : decode cX12_nights 68 = .ok (.iconst 0, 1) := by decide +kernel
theorem dX12_nights_69 : decode cX12_nights 69 = .ok (.istore 5, 2) := by decide +kernel
theorem dX12_nights_71 : decode cX12_nights 71 = .ok (.iload 5, 2) := by decide +kernel
theorem dX12_nights_73 : decode cX12_nights 73 = .ok (.aload_n 0, 1) := by decide +kernel
theorem dX12_nights_74 : decode cX12_nights 74 = .ok (.getfield 24, 3) := by decide +kernel
theorem dX12_nights_77 : decode cX12_nights 77 = .ok (.bipush 99, 2) := by decide +kernel
theorem dX12_nights_79 : decode cX12_nights 79 = .ok (.iaload, 1) := by decide +kernel
theorem dX12_nights_80 : decode cX12_nights 80 = .ok (.if_icmp .ge 56, 3) := by decide +kernel
theorem dX12_nights_83 : decode cX12_nights 83 = .ok (.aload_n 0, 1) := by decide +kernel
theorem dX12_nights_84 : decode cX12_nights 84 = .ok (.aload_n 0, 1) := by decide +kernel
theorem dX12_nights_85 : decode cX12_nights 85 = .ok (.invokevirtual 342, 3) := by decide +kernel
theorem dX12_nights_88 : decode cX12_nights 88 = .ok (.invokevirtual 384, 3) := by decide +kernel
theorem dX12_nights_91 : decode cX12_nights 91 = .ok (.aload_n 0, 1) := by decide +kernel
theorem dX12_nights_92 : decode cX12_nights 92 = .ok (.bipush 10, 2) := by decide +kernel
theorem dX12_nights_94 : decode cX12_nights 94 = .ok (.invokevirtual 464, 3) := by decide +kernel
theorem dX12_nights_97 : decode cX12_nights 97 = .ok (.aload_n 0, 1) := by decide +kernel
theorem dX12_nights_98 : decode cX12_nights 98 = .ok (.getfield 24, 3) := by decide +kernel
theorem dX12_nights_101 : decode cX12_nights 101 = .ok (.bipush 100, 2) := by decide +kernel
theorem dX12_nights_103 : decode cX12_nights 103 = .ok (.iaload, 1) := by decide +kernel
theorem dX12_nights_104 : decode cX12_nights 104 = .ok (.if_icmp .ge 17, 3) := by decide +kernel
theorem dX12_nights_107 : decode cX12_nights 107 = .ok (.aload_n 0, 1) := by decide +kernel
theorem dX12_nights_108 : decode cX12_nights 108 = .ok (.getfield 24, 3) := by decide +kernel
theorem dX12_nights_111 : decode cX12_nights 111 = .ok (.bipush 22, 2) := by decide +kernel
theorem dX12_nights_113 : decode cX12_nights 113 = .ok (.dup2, 1) := by decide +kernel
theorem dX12_nights_114 : decode cX12_nights 114 = .ok (.iaload, 1) := by decide +kernel
theorem dX12_nights_115 : decode cX12_nights 115 = .ok (.iconst 1, 1) := by decide +kernel
theorem dX12_nights_116 : decode cX12_nights 116 = .ok (.iadd, 1) := by decide +kernel
theorem dX12_nights_117 : decode cX12_nights 117 = .ok (.iastore, 1) := by decide +kernel
theorem dX12_nights_118 : decode cX12_nights 118 = .ok (.goto 12, 3) := by decide +kernel
theorem dX12_nights_121 : decode cX12_nights 121 = .ok (.aload_n 0, 1) := by decide +kernel
theorem dX12_nights_122 : decode cX12_nights 122 = .ok (.aload_n 0, 1) := by decide +kernel
theorem dX12_nights_123 : decode cX12_nights 123 = .ok (.invokevirtual 342, 3) := by decide +kernel
theorem dX12_nights_126 : decode cX12_nights 126 = .ok (.invokevirtual 345, 3) := by decide +kernel
theorem dX12_nights_129 : decode cX12_nights 129 = .ok (.pop, 1) := by decide +kernel
theorem dX12_nights_130 : decode cX12_nights 130 = .ok (.iinc 5 1, 3) := by decide +kernel
theorem dX12_nights_133 : decode cX12_nights 133 = .ok (.goto (-62), 3) := by decide +kernel
theorem dX12_nights_136 : decode cX12_nights 136 = .ok (.iload_n 3, 1) := by decide +kernel
theorem dX12_nights_137 : decode cX12_nights 137 = .ok (.aload_n 0, 1) := by decide +kernel
theorem dX12_nights_138 : decode cX12_nights 138 = .ok (.aload_n 0, 1) := by decide +kernel
theorem dX12_nights_139 : decode cX12_nights 139 = .ok (.invokevirtual 363, 3) := by decide +kernel
theorem dX12_nights_142 : decode cX12_nights 142 = .ok (.invokevirtual 381, 3) := by decide +kernel
theorem dX12_nights_145 : decode cX12_nights 145 = .ok (.ifCond .eq 7, 3) := by decide +kernel
theorem dX12_nights_148 : decode cX12_nights 148 = .ok (.iconst 1, 1) := by decide +kernel
theorem dX12_nights_149 : decode cX12_nights 149 = .ok (.goto 4, 3) := by decide +kernel
theorem dX12_nights_153 : decode cX12_nights 153 = .ok (.iadd, 1) := by decide +kernel
theorem dX12_nights_154 : decode cX12_nights 154 = .ok (.istore_n 3, 1) := by decide +kernel
theorem dX12_nights_155 : decode cX12_nights 155 = .ok (.iconst 0, 1) := by decide +kernel
theorem dX12_nights_156 : decode cX12_nights 156 = .ok (.istore 5, 2) := by decide +kernel
theorem dX12_nights_158 : decode cX12_nights 158 = .ok (.iload 5, 2) := by decide +kernel
theorem dX12_nights_160 : decode cX12_nights 160 = .ok (.bipush 23, 2) := by decide +kernel
theorem dX12_nights_162 : decode cX12_nights 162 = .ok (.if_icmp .ge 23, 3) := by decide +kernel
theorem dX12_nights_165 : decode cX12_nights 165 = .ok (.aload_n 0, 1) := by decide +kernel
theorem dX12_nights_166 : decode cX12_nights 166 = .ok (.getfield 90, 3) := by decide +kernel
theorem dX12_nights_169 : decode cX12_nights 169 = .ok (.iload 5, 2) := by decide +kernel
theorem dX12_nights_171 : decode cX12_nights 171 = .ok (.aload_n 0, 1) := by decide +kernel
theorem dX12_nights_172 : decode cX12_nights 172 = .ok (.getfield 24, 3) := by decide +kernel
theorem dX12_nights_175 : decode cX12_nights 175 = .ok (.iload 5, 2) := by decide +kernel
theorem dX12_nights_177 : decode cX12_nights 177 = .ok (.iaload, 1) := by decide +kernel
theorem dX12_nights_178 : decode cX12_nights 178 = .ok (.iastore, 1) := by decide +kernel
theorem dX12_nights_179 : decode cX12_nights 179 = .ok (.iinc 5 1, 3) := by decide +kernel
theorem dX12_nights_182 : decode cX12_nights 182 = .ok (.goto (-24), 3) := by decide +kernel
theorem dX12_nights_185 : decode cX12_nights 185 = .ok (.aload_n 0, 1) := by decide +kernel
theorem dX12_nights_186 : decode cX12_nights 186 = .ok (.iconst 0, 1) := by decide +kernel
theorem dX12_nights_187 : decode cX12_nights 187 = .ok (.invokevirtual 387, 3) := by decide +kernel
theorem dX12_nights_190 : decode cX12_nights 190 = .ok (.iinc 4 1, 3) := by decide +kernel
theorem dX12_nights_193 : decode cX12_nights 193 = .ok (.goto (-135), 3) := by decide +kernel
theorem dX12_nights_196 : decode cX12_nights 196 = .ok (.aload_n 0, 1) := by decide +kernel
theorem dX12_nights_197 : decode cX12_nights 197 = .ok (.iload_n 3, 1) := by decide +kernel
theorem dX12_nights_198 : decode cX12_nights 198 = .ok (.invokevirtual 14, 3) := by decide +kernel
theorem dX12_nights_201 : decode cX12_nights 201 = .ok (.ireturn, 1) := by decide +kernel
theorem dX12_drawn_0 : decode cX12_drawn 0 = .ok (.aload_n 0, 1) := by decide +kernel
theorem dX12_drawn_1 : decode cX12_drawn 1 = .ok (.getfield 93, 3) := by decide +kernel
theorem dX12_drawn_4 : decode cX12_drawn 4 = .ok (.iconst (-1), 1) := by decide +kernel
theorem dX12_drawn_5 : decode cX12_drawn 5 = .ok (.if_icmp .eq 37, 3) := by decide +kernel
theorem dX12_drawn_42 : decode cX12_drawn 42 = .ok (.iconst (-1), 1) := by decide +kernel
theorem dX12_drawn_43 : decode cX12_drawn 43 = .ok (.ireturn, 1) := by decide +kernel
theorem dX12_count_0 : decode cX12_count 0 = .ok (.iload_n 1, 1) := by decide +kernel
theorem dX12_count_1 : decode cX12_count 1 = .ok (.tableswitch 187 0 16 #[83, 91, 99, 107, 115, 123, 128, 133, 133, 133, 143, 150, 158, 166, 174, 174, 174], 83) := by decide +kernel
theorem dX12_count_84 : decode cX12_count 84 = .ok (.aload_n 0, 1) := by decide +kernel
theorem dX12_count_85 : decode cX12_count 85 = .ok (.getfield 24, 3) := by decide +kernel
theorem dX12_count_88 : decode cX12_count 88 = .ok (.bipush 102, 2) := by decide +kernel
theorem dX12_count_90 : decode cX12_count 90 = .ok (.iaload, 1) := by decide +kernel
theorem dX12_count_91 : decode cX12_count 91 = .ok (.ireturn, 1) := by decide +kernel
theorem dX12_count_92 : decode cX12_count 92 = .ok (.aload_n 0, 1) := by decide +kernel
theorem dX12_count_93 : decode cX12_count 93 = .ok (.invokevirtual 118, 3) := by decide +kernel
theorem dX12_count_96 : decode cX12_count 96 = .ok (.invokestatic 287, 3) := by decide +kernel
theorem dX12_count_99 : decode cX12_count 99 = .ok (.ireturn, 1) := by decide +kernel
theorem dX12_count_100 : decode cX12_count 100 = .ok (.aload_n 0, 1) := by decide +kernel
theorem dX12_count_101 : decode cX12_count 101 = .ok (.getfield 24, 3) := by decide +kernel
theorem dX12_count_104 : decode cX12_count 104 = .ok (.bipush 103, 2) := by decide +kernel
theorem dX12_count_106 : decode cX12_count 106 = .ok (.iaload, 1) := by decide +kernel
theorem dX12_count_107 : decode cX12_count 107 = .ok (.ireturn, 1) := by decide +kernel
theorem dX12_count_108 : decode cX12_count 108 = .ok (.aload_n 0, 1) := by decide +kernel
theorem dX12_count_109 : decode cX12_count 109 = .ok (.getfield 24, 3) := by decide +kernel
theorem dX12_count_112 : decode cX12_count 112 = .ok (.bipush 104, 2) := by decide +kernel
theorem dX12_count_114 : decode cX12_count 114 = .ok (.iaload, 1) := by decide +kernel
theorem dX12_count_115 : decode cX12_count 115 = .ok (.ireturn, 1) := by decide +kernel
theorem dX12_count_116 : decode cX12_count 116 = .ok (.aload_n 0, 1) := by decide +kernel
theorem dX12_count_117 : decode cX12_count 117 = .ok (.getfield 24, 3) := by decide +kernel
theorem dX12_count_120 : decode cX12_count 120 = .ok (.bipush 105, 2) := by decide +kernel
theorem dX12_count_122 : decode cX12_count 122 = .ok (.iaload, 1) := by decide +kernel
theorem dX12_count_123 : decode cX12_count 123 = .ok (.ireturn, 1) := by decide +kernel
theorem dX12_count_124 : decode cX12_count 124 = .ok (.aload_n 0, 1) := by decide +kernel
theorem dX12_count_125 : decode cX12_count 125 = .ok (.getfield 11, 3) := by decide +kernel
theorem dX12_count_128 : decode cX12_count 128 = .ok (.ireturn, 1) := by decide +kernel
theorem dX12_count_129 : decode cX12_count 129 = .ok (.aload_n 0, 1) := by decide +kernel
theorem dX12_count_130 : decode cX12_count 130 = .ok (.getfield 138, 3) := by decide +kernel
theorem dX12_count_133 : decode cX12_count 133 = .ok (.ireturn, 1) := by decide +kernel
theorem dX12_count_134 : decode cX12_count 134 = .ok (.aload_n 0, 1) := by decide +kernel
theorem dX12_count_135 : decode cX12_count 135 = .ok (.getfield 7, 3) := by decide +kernel
theorem dX12_count_138 : decode cX12_count 138 = .ok (.iload_n 1, 1) := by decide +kernel
theorem dX12_count_139 : decode cX12_count 139 = .ok (.bipush 6, 2) := by decide +kernel
theorem dX12_count_141 : decode cX12_count 141 = .ok (.isub, 1) := by decide +kernel
theorem dX12_count_142 : decode cX12_count 142 = .ok (.iaload, 1) := by decide +kernel
theorem dX12_count_143 : decode cX12_count 143 = .ok (.ireturn, 1) := by decide +kernel
theorem dX12_count_144 : decode cX12_count 144 = .ok (.aload_n 0, 1) := by decide +kernel
theorem dX12_count_145 : decode cX12_count 145 = .ok (.getfield 7, 3) := by decide +kernel
theorem dX12_count_148 : decode cX12_count 148 = .ok (.iconst 5, 1) := by decide +kernel
theorem dX12_count_149 : decode cX12_count 149 = .ok (.iaload, 1) := by decide +kernel
theorem dX12_count_150 : decode cX12_count 150 = .ok (.ireturn, 1) := by decide +kernel
theorem dX12_count_151 : decode cX12_count 151 = .ok (.aload_n 0, 1) := by decide +kernel
theorem dX12_count_152 : decode cX12_count 152 = .ok (.getfield 7, 3) := by decide +kernel
theorem dX12_count_155 : decode cX12_count 155 = .ok (.bipush 6, 2) := by decide +kernel
theorem dX12_count_157 : decode cX12_count 157 = .ok (.iaload, 1) := by decide +kernel
theorem dX12_count_158 : decode cX12_count 158 = .ok (.ireturn, 1) := by decide +kernel
theorem dX12_count_159 : decode cX12_count 159 = .ok (.aload_n 0, 1) := by decide +kernel
theorem dX12_count_160 : decode cX12_count 160 = .ok (.getfield 24, 3) := by decide +kernel
theorem dX12_count_163 : decode cX12_count 163 = .ok (.bipush 106, 2) := by decide +kernel
theorem dX12_count_165 : decode cX12_count 165 = .ok (.iaload, 1) := by decide +kernel
theorem dX12_count_166 : decode cX12_count 166 = .ok (.ireturn, 1) := by decide +kernel
theorem dX12_count_167 : decode cX12_count 167 = .ok (.aload_n 0, 1) := by decide +kernel
theorem dX12_count_168 : decode cX12_count 168 = .ok (.getfield 24, 3) := by decide +kernel
theorem dX12_count_171 : decode cX12_count 171 = .ok (.bipush 22, 2) := by decide +kernel
theorem dX12_count_173 : decode cX12_count 173 = .ok (.iaload, 1) := by decide +kernel
theorem dX12_count_174 : decode cX12_count 174 = .ok (.ireturn, 1) := by decide +kernel
theorem dX12_count_175 : decode cX12_count 175 = .ok (.aload_n 0, 1) := by decide +kernel
theorem dX12_count_176 : decode cX12_count 176 = .ok (.getfield 24, 3) := by decide +kernel
theorem dX12_count_179 : decode cX12_count 179 = .ok (.bipush 99, 2) := by decide +kernel
theorem dX12_count_181 : decode cX12_count 181 = .ok (.iload_n 1, 1) := by decide +kernel
theorem dX12_count_182 : decode cX12_count 182 = .ok (.iadd, 1) := by decide +kernel
theorem dX12_count_183 : decode cX12_count 183 = .ok (.bipush 14, 2) := by decide +kernel
theorem dX12_count_185 : decode cX12_count 185 = .ok (.isub, 1) := by decide +kernel
theorem dX12_count_186 : decode cX12_count 186 = .ok (.iaload, 1) := by decide +kernel
theorem dX12_count_187 : decode cX12_count 187 = .ok (.ireturn, 1) := by decide +kernel
theorem dX12_count_188 : decode cX12_count 188 = .ok (.iconst (-1), 1) := by decide +kernel
theorem dX12_count_189 : decode cX12_count 189 = .ok (.ireturn, 1) := by decide +kernel
theorem dX12_status_0 : decode cX12_status 0 = .ok (.aload_n 0, 1) := by decide +kernel
theorem dX12_status_1 : decode cX12_status 1 = .ok (.getfield 3, 3) := by decide +kernel
theorem dX12_status_4 : decode cX12_status 4 = .ok (.ireturn, 1) := by decide +kernel
end
section
theorem inC12 : ∀ w ∈ u_ws RX12 TX12 48, w ∈ kG := by
  intro w h
  obtain ⟨k, hk, rfl⟩ := List.mem_map.mp h
  have hk := List.mem_range.mp hk
  match k, hk with
  | 0, _ => exact kt5 208 rfl rfl
  | 1, _ => exact kt5 210 rfl rfl
  | 2, _ => exact kt5 212 rfl rfl
  | 3, _ => exact kt5 214 rfl rfl
  | 4, _ => exact kt5 216 rfl rfl
  | 5, _ => exact kt5 218 rfl rfl
  | 6, _ => exact kt5 220 rfl rfl
  | 7, _ => exact kt5 222 rfl rfl
  | 8, _ => exact kt5 224 rfl rfl
  | 9, _ => exact kt5 226 rfl rfl
  | 10, _ => exact kt5 228 rfl rfl
  | 11, _ => exact kt5 230 rfl rfl
  | 12, _ => exact kt5 232 rfl rfl
  | 13, _ => exact kt5 234 rfl rfl
  | 14, _ => exact kt5 236 rfl rfl
  | 15, _ => exact kt5 238 rfl rfl
  | 16, _ => exact kt6 0 rfl rfl
  | 17, _ => exact kt6 2 rfl rfl
  | 18, _ => exact kt6 4 rfl rfl
  | 19, _ => exact kt6 6 rfl rfl
  | 20, _ => exact kt6 8 rfl rfl
  | 21, _ => exact kt6 10 rfl rfl
  | 22, _ => exact kt6 12 rfl rfl
  | 23, _ => exact kt6 14 rfl rfl
  | 24, _ => exact kt6 16 rfl rfl
  | 25, _ => exact kt6 18 rfl rfl
  | 26, _ => exact kt6 20 rfl rfl
  | 27, _ => exact kt6 22 rfl rfl
  | 28, _ => exact kt6 24 rfl rfl
  | 29, _ => exact kt6 26 rfl rfl
  | 30, _ => exact kt6 28 rfl rfl
  | 31, _ => exact kt6 30 rfl rfl
  | 32, _ => exact kt6 32 rfl rfl
  | 33, _ => exact kt6 34 rfl rfl
  | 34, _ => exact kt6 36 rfl rfl
  | 35, _ => exact kt6 38 rfl rfl
  | 36, _ => exact kt6 40 rfl rfl
  | 37, _ => exact kt6 42 rfl rfl
  | 38, _ => exact kt6 44 rfl rfl
  | 39, _ => exact kt6 46 rfl rfl
  | 40, _ => exact kt6 48 rfl rfl
  | 41, _ => exact kt6 50 rfl rfl
  | 42, _ => exact kt6 52 rfl rfl
  | 43, _ => exact kt6 54 rfl rfl
  | 44, _ => exact kt6 56 rfl rfl
  | 45, _ => exact kt6 58 rfl rfl
  | 46, _ => exact kt6 60 rfl rfl
  | 47, _ => exact kt6 62 rfl rfl
  | k + 48, hk => exact absurd hk (by omega)
theorem wt5_162 : Cond.fieldLink RX12 24 "SunriseRoofModel" "kept" "[I" ∈ kG := kt5 162 rfl rfl
theorem wt6_69 : Cond.methodLink RX12 96 yX12_lies ∈ kG := kt6 69 rfl rfl
theorem wt6_70 : Cond.static yX12_lies ∈ kG := kt6 70 rfl rfl
theorem wt1_14 : Cond.initialized RX12 ∈ kG := kt1 14 rfl rfl
theorem wt6_71 : Cond.code yX12_lies cX12_lies 3 (some .boolean) ∈ kG := kt6 71 rfl rfl
theorem wt5_160 : Cond.fieldLink RX12 3 "SunriseRoofModel" "status" "I" ∈ kG := kt5 160 rfl rfl
theorem wt5_193 : Cond.fieldLink RX12 11 "SunriseRoofModel" "undoMany" "I" ∈ kG := kt5 193 rfl rfl
theorem wt6_76 : Cond.methodLink RX12 14 yX12_good ∈ kG := kt6 76 rfl rfl
theorem wt6_78 : Cond.instanceMethod yX12_good ∈ kG := kt6 78 rfl rfl
theorem wp3_6 : Cond.selects RX12 yX12_good yX12_good ∈ kG := kp3 6 rfl rfl
theorem wt6_79 : Cond.code yX12_good cX12_good 2 (some .int) ∈ kG := kt6 79 rfl rfl
theorem wt5_161 : Cond.fieldLink RX12 7 "SunriseRoofModel" "refused" "[I" ∈ kG := kt5 161 rfl rfl
theorem wt6_92 : Cond.methodLink RX12 106 yX12_canPart ∈ kG := kt6 92 rfl rfl
theorem wt6_94 : Cond.instanceMethod yX12_canPart ∈ kG := kt6 94 rfl rfl
theorem wp3_8 : Cond.selects RX12 yX12_canPart yX12_canPart ∈ kG := kp3 8 rfl rfl
theorem wt6_95 : Cond.code yX12_canPart cX12_canPart 5 (some .boolean) ∈ kG := kt6 95 rfl rfl
theorem wt6_96 : Cond.methodLink RX12 110 yX12_addsPart ∈ kG := kt6 96 rfl rfl
theorem wt6_98 : Cond.instanceMethod yX12_addsPart ∈ kG := kt6 98 rfl rfl
theorem wp3_9 : Cond.selects RX12 yX12_addsPart yX12_addsPart ∈ kG := kp3 9 rfl rfl
theorem wt6_99 : Cond.code yX12_addsPart cX12_addsPart 6 none ∈ kG := kt6 99 rfl rfl
theorem wt6_84 : Cond.methodLink RX12 103 yX12_settled ∈ kG := kt6 84 rfl rfl
theorem wt6_86 : Cond.instanceMethod yX12_settled ∈ kG := kt6 86 rfl rfl
theorem wp3_7 : Cond.selects RX12 yX12_settled yX12_settled ∈ kG := kp3 7 rfl rfl
theorem wt6_87 : Cond.code yX12_settled cX12_settled 2 (some .int) ∈ kG := kt6 87 rfl rfl
theorem wt6_72 : Cond.methodLink RX12 100 yX12_refuses ∈ kG := kt6 72 rfl rfl
theorem wt6_74 : Cond.instanceMethod yX12_refuses ∈ kG := kt6 74 rfl rfl
theorem wp3_5 : Cond.selects RX12 yX12_refuses yX12_refuses ∈ kG := kp3 5 rfl rfl
theorem wt6_75 : Cond.code yX12_refuses cX12_refuses 2 (some .int) ∈ kG := kt6 75 rfl rfl
theorem wt6_104 : Cond.methodLink RX12 122 yX12_isPart ∈ kG := kt6 104 rfl rfl
theorem wt6_106 : Cond.instanceMethod yX12_isPart ∈ kG := kt6 106 rfl rfl
theorem wp3_10 : Cond.selects RX12 yX12_isPart yX12_isPart ∈ kG := kp3 10 rfl rfl
theorem wt6_107 : Cond.code yX12_isPart cX12_isPart 2 (some .boolean) ∈ kG := kt6 107 rfl rfl
theorem wt6_138 : Cond.methodLink RX12 131 yX12_isBuilder ∈ kG := kt6 138 rfl rfl
theorem wt6_140 : Cond.instanceMethod yX12_isBuilder ∈ kG := kt6 140 rfl rfl
theorem wp3_15 : Cond.selects RX12 yX12_isBuilder yX12_isBuilder ∈ kG := kp3 15 rfl rfl
theorem wt6_141 : Cond.code yX12_isBuilder cX12_isBuilder 2 (some .boolean) ∈ kG := kt6 141 rfl rfl
theorem wt5_173 : Cond.fieldLink RX12 138 "SunriseRoofModel" "taped" "I" ∈ kG := kt5 173 rfl rfl
theorem wt5_166 : Cond.fieldLink RX12 141 "SunriseRoofModel" "chaff0" "I" ∈ kG := kt5 166 rfl rfl
theorem wt5_174 : Cond.fieldLink RX12 47 "SunriseRoofModel" "fault" "I" ∈ kG := kt5 174 rfl rfl
theorem wt5_197 : Cond.fieldLink RX12 83 "SunriseRoofModel" "stopped0" "I" ∈ kG := kt5 197 rfl rfl
theorem wt6_116 : Cond.methodLink RX12 118 yX12_standing ∈ kG := kt6 116 rfl rfl
theorem wt6_118 : Cond.instanceMethod yX12_standing ∈ kG := kt6 118 rfl rfl
theorem wp3_13 : Cond.selects RX12 yX12_standing yX12_standing ∈ kG := kp3 13 rfl rfl
theorem wt6_119 : Cond.code yX12_standing cX12_standing 3 (some .int) ∈ kG := kt6 119 rfl rfl
theorem wt7_120 : Cond.methodLink RX12 348 yX12_sendsKept ∈ kG := kt7 120 rfl rfl
theorem wt7_122 : Cond.instanceMethod yX12_sendsKept ∈ kG := kt7 122 rfl rfl
theorem wp6_6 : Cond.selects RX12 yX12_sendsKept yX12_sendsKept ∈ kG := kp6 6 rfl rfl
theorem wt7_123 : Cond.code yX12_sendsKept cX12_sendsKept 3 (some .int) ∈ kG := kt7 123 rfl rfl
theorem wt7_128 : Cond.methodLink RX12 351 yX12_goodOr ∈ kG := kt7 128 rfl rfl
theorem wt7_130 : Cond.instanceMethod yX12_goodOr ∈ kG := kt7 130 rfl rfl
theorem wp6_8 : Cond.selects RX12 yX12_goodOr yX12_goodOr ∈ kG := kp6 8 rfl rfl
theorem wt7_131 : Cond.code yX12_goodOr cX12_goodOr 2 (some .int) ∈ kG := kt7 131 rfl rfl
theorem wt7_136 : Cond.methodLink RX12 354 yX12_restsKept ∈ kG := kt7 136 rfl rfl
theorem wt7_138 : Cond.instanceMethod yX12_restsKept ∈ kG := kt7 138 rfl rfl
theorem wp6_9 : Cond.selects RX12 yX12_restsKept yX12_restsKept ∈ kG := kp6 9 rfl rfl
theorem wt7_139 : Cond.code yX12_restsKept cX12_restsKept 3 (some .int) ∈ kG := kt7 139 rfl rfl
theorem wt7_144 : Cond.methodLink RX12 357 yX12_throwsKept ∈ kG := kt7 144 rfl rfl
theorem wt7_146 : Cond.instanceMethod yX12_throwsKept ∈ kG := kt7 146 rfl rfl
theorem wp6_10 : Cond.selects RX12 yX12_throwsKept yX12_throwsKept ∈ kG := kp6 10 rfl rfl
theorem wt7_147 : Cond.code yX12_throwsKept cX12_throwsKept 2 (some .int) ∈ kG := kt7 147 rfl rfl
theorem wt6_120 : Cond.methodLink RX12 128 yX12_laysChains ∈ kG := kt6 120 rfl rfl
theorem wt6_122 : Cond.instanceMethod yX12_laysChains ∈ kG := kt6 122 rfl rfl
theorem wp3_14 : Cond.selects RX12 yX12_laysChains yX12_laysChains ∈ kG := kp3 14 rfl rfl
theorem wt6_123 : Cond.code yX12_laysChains cX12_laysChains 4 none ∈ kG := kt6 123 rfl rfl
theorem wt7_187 : Cond.methodLink RX12 363 yX12_allParts ∈ kG := kt7 187 rfl rfl
theorem wt7_189 : Cond.instanceMethod yX12_allParts ∈ kG := kt7 189 rfl rfl
theorem wp7_1 : Cond.selects RX12 yX12_allParts yX12_allParts ∈ kG := kp7 1 rfl rfl
theorem wt7_190 : Cond.code yX12_allParts cX12_allParts 1 (some .int) ∈ kG := kt7 190 rfl rfl
theorem wt5_195 : Cond.fieldLink RX12 77 "SunriseRoofModel" "orderMany" "[I" ∈ kG := kt5 195 rfl rfl
theorem wt5_205 : Cond.fieldLink RX12 93 "SunriseRoofModel" "drawnParts" "I" ∈ kG := kt5 205 rfl rfl
theorem wt5_165 : Cond.fieldLink RX12 34 "SunriseRoofModel" "aside" "[I" ∈ kG := kt5 165 rfl rfl
theorem wt7_207 : Cond.methodLink RX12 372 yX12_laysAside ∈ kG := kt7 207 rfl rfl
theorem wt7_209 : Cond.instanceMethod yX12_laysAside ∈ kG := kt7 209 rfl rfl
theorem wp7_5 : Cond.selects RX12 yX12_laysAside yX12_laysAside ∈ kG := kp7 5 rfl rfl
theorem wt7_210 : Cond.code yX12_laysAside cX12_laysAside 3 none ∈ kG := kt7 210 rfl rfl
theorem wt7_203 : Cond.methodLink RX12 378 yX12_begins ∈ kG := kt7 203 rfl rfl
theorem wt7_205 : Cond.instanceMethod yX12_begins ∈ kG := kt7 205 rfl rfl
theorem wp7_4 : Cond.selects RX12 yX12_begins yX12_begins ∈ kG := kp7 4 rfl rfl
theorem wt7_206 : Cond.code yX12_begins cX12_begins 2 none ∈ kG := kt7 206 rfl rfl
theorem wt7_211 : Cond.methodLink RX12 381 yX12_areStanding ∈ kG := kt7 211 rfl rfl
theorem wt7_213 : Cond.instanceMethod yX12_areStanding ∈ kG := kt7 213 rfl rfl
theorem wp7_6 : Cond.selects RX12 yX12_areStanding yX12_areStanding ∈ kG := kp7 6 rfl rfl
theorem wt7_214 : Cond.code yX12_areStanding cX12_areStanding 2 (some .boolean) ∈ kG := kt7 214 rfl rfl
theorem wt7_223 : Cond.methodLink RX12 387 yX12_takesBack ∈ kG := kt7 223 rfl rfl
theorem wt7_225 : Cond.instanceMethod yX12_takesBack ∈ kG := kt7 225 rfl rfl
theorem wp7_9 : Cond.selects RX12 yX12_takesBack yX12_takesBack ∈ kG := kp7 9 rfl rfl
theorem wt7_226 : Cond.code yX12_takesBack cX12_takesBack 3 none ∈ kG := kt7 226 rfl rfl
theorem wt8_23 : Cond.methodLink RX12 406 yX12_lastSight ∈ kG := kt8 23 rfl rfl
theorem wt8_25 : Cond.instanceMethod yX12_lastSight ∈ kG := kt8 25 rfl rfl
theorem wp7_12 : Cond.selects RX12 yX12_lastSight yX12_lastSight ∈ kG := kp7 12 rfl rfl
theorem wt8_26 : Cond.code yX12_lastSight cX12_lastSight 3 (some .int) ∈ kG := kt8 26 rfl rfl
theorem wt8_27 : Cond.methodLink RX12 409 yX12_areSo ∈ kG := kt8 27 rfl rfl
theorem wt8_29 : Cond.instanceMethod yX12_areSo ∈ kG := kt8 29 rfl rfl
theorem wp7_13 : Cond.selects RX12 yX12_areSo yX12_areSo ∈ kG := kp7 13 rfl rfl
theorem wt8_30 : Cond.code yX12_areSo cX12_areSo 4 (some .boolean) ∈ kG := kt8 30 rfl rfl
theorem wt6_146 : Cond.methodLink RX12 134 yX12_isTerm ∈ kG := kt6 146 rfl rfl
theorem wt6_147 : Cond.static yX12_isTerm ∈ kG := kt6 147 rfl rfl
theorem wt6_148 : Cond.code yX12_isTerm cX12_isTerm 2 (some .boolean) ∈ kG := kt6 148 rfl rfl
theorem wt5_172 : Cond.fieldLink RX12 44 "SunriseRoofModel" "five" "[I" ∈ kG := kt5 172 rfl rfl
theorem wt5_171 : Cond.fieldLink RX12 41 "SunriseRoofModel" "tape" "[B" ∈ kG := kt5 171 rfl rfl
theorem wt5_178 : Cond.fieldLink RX12 144 "SunriseRoofModel" "tokens" "I" ∈ kG := kt5 178 rfl rfl
theorem wt5_177 : Cond.fieldLink RX12 56 "SunriseRoofModel" "placed" "[I" ∈ kG := kt5 177 rfl rfl
theorem wt5_175 : Cond.fieldLink RX12 50 "SunriseRoofModel" "code" "[I" ∈ kG := kt5 175 rfl rfl
theorem wt5_176 : Cond.fieldLink RX12 53 "SunriseRoofModel" "value" "[I" ∈ kG := kt5 176 rfl rfl
theorem wt5_181 : Cond.fieldLink RX12 158 "SunriseRoofModel" "bad" "I" ∈ kG := kt5 181 rfl rfl
theorem wt6_204 : Cond.methodLink RX12 161 yX12_fine ∈ kG := kt6 204 rfl rfl
theorem wt6_206 : Cond.instanceMethod yX12_fine ∈ kG := kt6 206 rfl rfl
theorem wp4_7 : Cond.selects RX12 yX12_fine yX12_fine ∈ kG := kp4 7 rfl rfl
theorem wt6_207 : Cond.code yX12_fine cX12_fine 1 (some .boolean) ∈ kG := kt6 207 rfl rfl
theorem wt5_179 : Cond.fieldLink RX12 165 "SunriseRoofModel" "token" "I" ∈ kG := kt5 179 rfl rfl
theorem wt6_200 : Cond.methodLink RX12 168 yX12_takes0 ∈ kG := kt6 200 rfl rfl
theorem wt6_202 : Cond.instanceMethod yX12_takes0 ∈ kG := kt6 202 rfl rfl
theorem wp4_6 : Cond.selects RX12 yX12_takes0 yX12_takes0 ∈ kG := kp4 6 rfl rfl
theorem wt6_203 : Cond.code yX12_takes0 cX12_takes0 3 (some .boolean) ∈ kG := kt6 203 rfl rfl
theorem wt6_223 : Cond.methodLink RX12 171 yX12_faults ∈ kG := kt6 223 rfl rfl
theorem wt6_225 : Cond.instanceMethod yX12_faults ∈ kG := kt6 225 rfl rfl
theorem wp4_11 : Cond.selects RX12 yX12_faults yX12_faults ∈ kG := kp4 11 rfl rfl
theorem wt6_226 : Cond.code yX12_faults cX12_faults 1 none ∈ kG := kt6 226 rfl rfl
theorem wt6_227 : Cond.methodLink RX12 181 yX12_must ∈ kG := kt6 227 rfl rfl
theorem wt6_229 : Cond.instanceMethod yX12_must ∈ kG := kt6 229 rfl rfl
theorem wp4_12 : Cond.selects RX12 yX12_must yX12_must ∈ kG := kp4 12 rfl rfl
theorem wt6_230 : Cond.code yX12_must cX12_must 2 none ∈ kG := kt6 230 rfl rfl
theorem wt5_170 : Cond.fieldLink RX12 191 "SunriseRoofModel" "isOrders" "Z" ∈ kG := kt5 170 rfl rfl
theorem wt7_11 : Cond.methodLink RX12 198 yX12_readClause ∈ kG := kt7 11 rfl rfl
theorem wt7_13 : Cond.instanceMethod yX12_readClause ∈ kG := kt7 13 rfl rfl
theorem wp5_2 : Cond.selects RX12 yX12_readClause yX12_readClause ∈ kG := kp5 2 rfl rfl
theorem wt7_14 : Cond.code yX12_readClause cX12_readClause 1 none ∈ kG := kt7 14 rfl rfl
theorem wt6_196 : Cond.methodLink RX12 195 yX12_readOrder ∈ kG := kt6 196 rfl rfl
theorem wt6_198 : Cond.instanceMethod yX12_readOrder ∈ kG := kt6 198 rfl rfl
theorem wp4_5 : Cond.selects RX12 yX12_readOrder yX12_readOrder ∈ kG := kp4 5 rfl rfl
theorem wt6_199 : Cond.code yX12_readOrder cX12_readOrder 1 none ∈ kG := kt6 199 rfl rfl
theorem wt6_177 : Cond.methodLink RX12 226 yX12_splits ∈ kG := kt6 177 rfl rfl
theorem wt6_179 : Cond.instanceMethod yX12_splits ∈ kG := kt6 179 rfl rfl
theorem wp4_2 : Cond.selects RX12 yX12_splits yX12_splits ∈ kG := kp4 2 rfl rfl
theorem wt6_180 : Cond.code yX12_splits cX12_splits 6 none ∈ kG := kt6 180 rfl rfl
theorem wt5_180 : Cond.fieldLink RX12 174 "SunriseRoofModel" "leaves" "I" ∈ kG := kt5 180 rfl rfl
theorem wt6_192 : Cond.methodLink RX12 229 yX12_readOne ∈ kG := kt6 192 rfl rfl
theorem wt6_194 : Cond.instanceMethod yX12_readOne ∈ kG := kt6 194 rfl rfl
theorem wp4_4 : Cond.selects RX12 yX12_readOne yX12_readOne ∈ kG := kp4 4 rfl rfl
theorem wt6_195 : Cond.code yX12_readOne cX12_readOne 1 none ∈ kG := kt6 195 rfl rfl
theorem wt6_220 : Cond.methodLink RX12 207 yX12_sign ∈ kG := kt6 220 rfl rfl
theorem wt6_221 : Cond.static yX12_sign ∈ kG := kt6 221 rfl rfl
theorem wt6_222 : Cond.code yX12_sign cX12_sign 1 (some .int) ∈ kG := kt6 222 rfl rfl
theorem wt5_168 : Cond.fieldLink RX12 217 "SunriseRoofModel" "firstWord" "I" ∈ kG := kt5 168 rfl rfl
theorem wt5_169 : Cond.fieldLink RX12 220 "SunriseRoofModel" "lastWord" "I" ∈ kG := kt5 169 rfl rfl
theorem wt6_173 : Cond.methodLink RX12 232 yX12_reads ∈ kG := kt6 173 rfl rfl
theorem wt6_175 : Cond.instanceMethod yX12_reads ∈ kG := kt6 175 rfl rfl
theorem wp4_1 : Cond.selects RX12 yX12_reads yX12_reads ∈ kG := kp4 1 rfl rfl
theorem wt6_176 : Cond.code yX12_reads cX12_reads 2 (some .boolean) ∈ kG := kt6 176 rfl rfl
theorem wt6_169 : Cond.methodLink RX12 235 yX12_readsAs ∈ kG := kt6 169 rfl rfl
theorem wt6_171 : Cond.instanceMethod yX12_readsAs ∈ kG := kt6 171 rfl rfl
theorem wp4_0 : Cond.selects RX12 yX12_readsAs yX12_readsAs ∈ kG := kp4 0 rfl rfl
theorem wt6_172 : Cond.code yX12_readsAs cX12_readsAs 2 (some .boolean) ∈ kG := kt6 172 rfl rfl
theorem wt5_191 : Cond.fieldLink RX12 68 "SunriseRoofModel" "left0" "[I" ∈ kG := kt5 191 rfl rfl
theorem wt7_71 : Cond.methodLink RX12 287 yX12_ones ∈ kG := kt7 71 rfl rfl
theorem wt7_72 : Cond.static yX12_ones ∈ kG := kt7 72 rfl rfl
theorem wt7_73 : Cond.code yX12_ones cX12_ones 3 (some .int) ∈ kG := kt7 73 rfl rfl
theorem wt7_124 : Cond.methodLink RX12 333 yX12_keeps ∈ kG := kt7 124 rfl rfl
theorem wt7_126 : Cond.instanceMethod yX12_keeps ∈ kG := kt7 126 rfl rfl
theorem wp6_7 : Cond.selects RX12 yX12_keeps yX12_keeps ∈ kG := kp6 7 rfl rfl
theorem wt7_127 : Cond.code yX12_keeps cX12_keeps 4 none ∈ kG := kt7 127 rfl rfl
theorem wt7_164 : Cond.methodLink RX12 342 yX12_allBuilders ∈ kG := kt7 164 rfl rfl
theorem wt7_166 : Cond.instanceMethod yX12_allBuilders ∈ kG := kt7 166 rfl rfl
theorem wp6_14 : Cond.selects RX12 yX12_allBuilders yX12_allBuilders ∈ kG := kp6 14 rfl rfl
theorem wt7_167 : Cond.code yX12_allBuilders cX12_allBuilders 1 (some .int) ∈ kG := kt7 167 rfl rfl
theorem wt7_168 : Cond.methodLink RX12 345 yX12_ticks ∈ kG := kt7 168 rfl rfl
theorem wt7_170 : Cond.instanceMethod yX12_ticks ∈ kG := kt7 170 rfl rfl
theorem wp6_15 : Cond.selects RX12 yX12_ticks yX12_ticks ∈ kG := kp6 15 rfl rfl
theorem wt7_171 : Cond.code yX12_ticks cX12_ticks 5 (some .int) ∈ kG := kt7 171 rfl rfl
theorem wt7_160 : Cond.methodLink RX12 360 yX12_ticksKept ∈ kG := kt7 160 rfl rfl
theorem wt7_162 : Cond.instanceMethod yX12_ticksKept ∈ kG := kt7 162 rfl rfl
theorem wp6_13 : Cond.selects RX12 yX12_ticksKept yX12_ticksKept ∈ kG := kp6 13 rfl rfl
theorem wt7_163 : Cond.code yX12_ticksKept cX12_ticksKept 1 (some .int) ∈ kG := kt7 163 rfl rfl
theorem wt7_183 : Cond.methodLink RX12 369 yX12_laysOrders ∈ kG := kt7 183 rfl rfl
theorem wt7_185 : Cond.instanceMethod yX12_laysOrders ∈ kG := kt7 185 rfl rfl
theorem wp7_0 : Cond.selects RX12 yX12_laysOrders yX12_laysOrders ∈ kG := kp7 0 rfl rfl
theorem wt7_186 : Cond.code yX12_laysOrders cX12_laysOrders 5 none ∈ kG := kt7 186 rfl rfl
theorem wt7_199 : Cond.methodLink RX12 390 yX12_planned ∈ kG := kt7 199 rfl rfl
theorem wt7_201 : Cond.instanceMethod yX12_planned ∈ kG := kt7 201 rfl rfl
theorem wp7_3 : Cond.selects RX12 yX12_planned yX12_planned ∈ kG := kp7 3 rfl rfl
theorem wt7_202 : Cond.code yX12_planned cX12_planned 6 (some .int) ∈ kG := kt7 202 rfl rfl
theorem wt7_235 : Cond.methodLink RX12 394 yX12_plan ∈ kG := kt7 235 rfl rfl
theorem wt7_196 : Cond.instanceMethod yX12_plan ∈ kG := kt7 196 rfl rfl
theorem wt7_197 : Cond.selects RX12 yX12_plan yX12_plan ∈ kG := kt7 197 rfl rfl
theorem wt7_198 : Cond.code yX12_plan cX12_plan 2 (some .int) ∈ kG := kt7 198 rfl rfl
theorem wt8_5 : Cond.constantLong RX12 402 (1000000000000) ∈ kG := kt8 5 rfl rfl
theorem wt8_4 : Cond.constantLong RX12 400 (-1) ∈ kG := kt8 4 rfl rfl
theorem wt8_19 : Cond.methodLink RX12 415 yX12_canBeWhose ∈ kG := kt8 19 rfl rfl
theorem wt8_21 : Cond.instanceMethod yX12_canBeWhose ∈ kG := kt8 21 rfl rfl
theorem wp7_11 : Cond.selects RX12 yX12_canBeWhose yX12_canBeWhose ∈ kG := kp7 11 rfl rfl
theorem wt8_22 : Cond.code yX12_canBeWhose cX12_canBeWhose 5 (some .boolean) ∈ kG := kt8 22 rfl rfl
theorem wt5_164 : Cond.fieldLink RX12 30 "SunriseRoofModel" "hasImage" "[Z" ∈ kG := kt5 164 rfl rfl
theorem wt5_163 : Cond.fieldLink RX12 27 "SunriseRoofModel" "images" "[I" ∈ kG := kt5 163 rfl rfl
theorem wt8_75 : Cond.constantLong RX12 452 (1103) ∈ kG := kt8 75 rfl rfl
theorem wt5_207 : Cond.fieldLink RX12 454 "SunriseRoofModel" "latest" "I" ∈ kG := kt5 207 rfl rfl
theorem wt8_76 : Cond.constantLong RX12 457 (12345) ∈ kG := kt8 76 rfl rfl
theorem wt8_77 : Cond.constantLong RX12 459 (1000003) ∈ kG := kt8 77 rfl rfl
theorem wt6_191 : Cond.constant RX12 157 (1000000) ∈ kG := kt6 191 rfl rfl
theorem wt5_206 : Cond.fieldLink RX12 461 "SunriseRoofModel" "drawnBuilders" "I" ∈ kG := kt5 206 rfl rfl
theorem wt5_204 : Cond.fieldLink RX12 90 "SunriseRoofModel" "drawnMoved" "[I" ∈ kG := kt5 204 rfl rfl
theorem wt7_215 : Cond.methodLink RX12 384 yX12_sendsAll ∈ kG := kt7 215 rfl rfl
theorem wt7_217 : Cond.instanceMethod yX12_sendsAll ∈ kG := kt7 217 rfl rfl
theorem wp7_7 : Cond.selects RX12 yX12_sendsAll yX12_sendsAll ∈ kG := kp7 7 rfl rfl
theorem wt7_218 : Cond.code yX12_sendsAll cX12_sendsAll 3 none ∈ kG := kt7 218 rfl rfl
theorem wt8_71 : Cond.methodLink RX12 464 yX12_draws ∈ kG := kt8 71 rfl rfl
theorem wt8_73 : Cond.instanceMethod yX12_draws ∈ kG := kt8 73 rfl rfl
theorem wp8_3 : Cond.selects RX12 yX12_draws yX12_draws ∈ kG := kp8 3 rfl rfl
theorem wt8_74 : Cond.code yX12_draws cX12_draws 2 (some .int) ∈ kG := kt8 74 rfl rfl
theorem wt5_196 : Cond.fieldLink RX12 80 "SunriseRoofModel" "shown" "[I" ∈ kG := kt5 196 rfl rfl
theorem wt8_31 : Cond.methodLink RX12 412 yX12_goesOn ∈ kG := kt8 31 rfl rfl
theorem wt8_33 : Cond.instanceMethod yX12_goesOn ∈ kG := kt8 33 rfl rfl
theorem wp7_14 : Cond.selects RX12 yX12_goesOn yX12_goesOn ∈ kG := kp7 14 rfl rfl
theorem wt8_34 : Cond.code yX12_goesOn cX12_goesOn 2 none ∈ kG := kt8 34 rfl rfl
theorem wt8_39 : Cond.methodLink RX12 418 yX12_shows ∈ kG := kt8 39 rfl rfl
theorem wt8_41 : Cond.instanceMethod yX12_shows ∈ kG := kt8 41 rfl rfl
theorem wp7_15 : Cond.selects RX12 yX12_shows yX12_shows ∈ kG := kp7 15 rfl rfl
theorem wt8_42 : Cond.code yX12_shows cX12_shows 3 none ∈ kG := kt8 42 rfl rfl
theorem wt6_127 : Cond.methodLink RX12 327 yX12_greater ∈ kG := kt6 127 rfl rfl
theorem wt6_128 : Cond.static yX12_greater ∈ kG := kt6 128 rfl rfl
theorem wt6_129 : Cond.code yX12_greater cX12_greater 2 (some .int) ∈ kG := kt6 129 rfl rfl
end
section
/-- the classes of arrays, by number: int, byte, boolean, long, Site, Text -/
abbrev tysK (K : Nat → ClassId) : List (ClassId × FieldType) := [(K 0, .int), (K 1, .byte), (K 2, .boolean), (K 3, .long), (K 4, .object "SunriseRoof$Site"), (K 5, .object "SunriseRoof$Text")]
abbrev mS : Type := (Nat → Int32) × (Nat → Nat → Int32) × (Nat → Int64)
/-- the reference's object: numbers f by slot, rows r by slot -/
def mO (f : Nat → Int32) (r : Nat → Nat) : List Value := [.int (f 0), .ref (r 1), .ref (r 2), .ref (r 3), .ref (r 4), .ref (r 5), .int (f 6), .ref (r 7), .int (f 8), .int (f 9), .int (f 10), .ref (r 11), .ref (r 12), .int (f 13), .int (f 14), .ref (r 15), .ref (r 16), .ref (r 17), .int (f 18), .int (f 19), .int (f 20), .int (f 21), .int (f 22), .int (f 23), .int (f 24), .int (f 25), .ref (r 26), .int (f 27), .int (f 28), .ref (r 29), .ref (r 30), .ref (r 31), .ref (r 32), .int (f 33), .ref (r 34), .ref (r 35), .ref (r 36), .int (f 37), .int (f 38), .int (f 39), .int (f 40), .int (f 41), .int (f 42), .ref (r 43), .ref (r 44), .int (f 45), .int (f 46), .int (f 47)]
/-- the reference's cells -/
def mW (K : Nat → ClassId) (o : Nat) (r : Nat → Nat) (f : Nat → Int32) (a : Nat → Nat → Int32) (g : Nat → Int64) : va_W := [(o, .inr (12, mO f r)), (r 1, .inl (K 0, 7, .inl (a 1))), (r 2, .inl (K 0, 5714, .inl (a 2))), (r 3, .inl (K 0, 11428, .inl (a 3))), (r 4, .inl (K 2, 2, .inl (a 4))), (r 5, .inl (K 0, 46, .inl (a 5))), (r 7, .inl (K 1, 146, .inl (a 7))), (r 11, .inl (K 1, 400, .inl (a 11))), (r 12, .inl (K 0, 5, .inl (a 12))), (r 15, .inl (K 0, 401, .inl (a 15))), (r 16, .inl (K 0, 401, .inl (a 16))), (r 17, .inl (K 0, 401, .inl (a 17))), (r 26, .inl (K 0, 10, .inl (a 26))), (r 29, .inl (K 0, 6, .inl (a 29))), (r 30, .inl (K 0, 6, .inl (a 30))), (r 31, .inl (K 0, 384, .inl (a 31))), (r 32, .inl (K 0, 384, .inl (a 32))), (r 34, .inl (K 0, 10, .inl (a 34))), (r 35, .inl (K 0, 1024, .inl (a 35))), (r 36, .inl (K 0, 451, .inl (a 36))), (r 43, .inl (K 3, 2, .inr (.inl g))), (r 44, .inl (K 0, 23, .inl (a 44)))]
abbrev mIs : List Nat := [0, 1, 2, 3, 4, 5, 6, 7, 8, 9, 10, 11, 12, 13, 14, 15, 16, 17, 18, 19, 20, 21]
def mLies (x lo hi : Int32) : Int32 := if x < lo then 0 else if hi < x then 0 else 1
theorem mLies_e {x lo hi : Int32} (h : hi < lo) : mLies x lo hi = 0 := by
  unfold mLies
  by_cases h1 : x < lo
  · rw [if_pos h1]
  · rw [if_neg h1, if_pos (by rw [Int32.lt_iff_toInt_lt] at *; omega)]
theorem mLies_01 (x lo hi : Int32) : mLies x lo hi = 0 ∨ mLies x lo hi = 1 := by
  unfold mLies
  by_cases h1 : x < lo
  · rw [if_pos h1]; exact Or.inl rfl
  · rw [if_neg h1]
    by_cases h2 : hi < x
    · rw [if_pos h2]; exact Or.inl rfl
    · rw [if_neg h2]; exact Or.inr rfl
def mIsTerm (x y : Int32) : Int32 := if x = 0 then mLies y 0 999 else if x = 1 then mLies y 1 99 else if x = 2 then mLies y 0 10 else if x = 3 then mLies y 0 9 else 0
theorem mLies_n (x lo hi : Int32) : narrow .boolean (.int (mLies x lo hi)) = .int (mLies x lo hi) := by
  rcases mLies_01 x lo hi with h | h <;> rw [h] <;> rfl

theorem mLies_q {x : Int32} (h0 : ¬ x = 0) (h1 : ¬ x = 1) : mLies x 0 1 = 0 := by
  unfold mLies
  by_cases h2 : x < 0
  · rw [if_pos h2]
  · rw [if_neg h2, if_pos]
    have g0 := lv_neT h0 (a := 0) (by decide +kernel)
    have g1 := lv_neT h1 (a := 1) (by decide +kernel)
    rw [Int32.lt_iff_toInt_lt] at *
    have e0 : (0 : Int32).toInt = 0 := by decide +kernel
    have e1 : (1 : Int32).toInt = 1 := by decide +kernel
    omega
theorem mLies_N {y : Int32} (h : ¬ mLies y 1 20 = 0) : ∃ N : Nat, N ≤ 20 ∧ y = nI N := by
  unfold mLies at h
  by_cases h2 : y < 1
  · rw [if_pos h2] at h; exact absurd rfl h
  · rw [if_neg h2] at h
    by_cases h3 : 20 < y
    · rw [if_pos h3] at h; exact absurd rfl h
    · have hn : ¬ y < 0 := by
        intro q
        apply h2
        rw [Int32.lt_iff_toInt_lt] at *
        have e0 : (0 : Int32).toInt = 0 := by decide +kernel
        have e1 : (1 : Int32).toInt = 1 := by decide +kernel
        omega
      refine nI_of2 (M := 20) (n := 20) (by decide +kernel) hn ?_
      rw [Int32.lt_iff_toInt_lt] at h3
      rw [Int32.le_iff_toInt_le]
      omega
def mCount (x : Int32) : Int32 := if x = 12 then -1 else if x = 14 then 30 else if x = 15 then 2 else if x = 0 ∨ x = 1 ∨ x = 2 ∨ x = 3 ∨ x = 4 ∨ x = 5 ∨ x = 6 ∨ x = 7 ∨ x = 8 ∨ x = 9 ∨ x = 10 ∨ x = 11 ∨ x = 13 ∨ x = 16 then 0 else -1
theorem kz_step {f : Nat → Int32} {i : Nat} (h : ∀ j, j < i → f j = 0) : ∀ j, j < i + 1 → upd f i 0 j = 0 := by
  intro j hj
  by_cases e : j = i
  · rw [e]; exact pk_us
  · rw [pk_un e]; exact h j (by omega)
def mSh (i j : Nat) : Int32 := if j % 11 = 0 ∧ j / 11 < i then 1 else 0
theorem mSh_0 (j : Nat) : mSh 0 j = 0 := by unfold mSh; rw [if_neg (by omega)]
theorem ks_at {i : Nat} : mSh i (11 * i + 0) = 0 := by unfold mSh; rw [if_neg (by omega)]
theorem ks_step {f : Nat → Int32} {i : Nat} (h : ∀ j, j < 451 → f j = mSh i j) {v : Int32} (hv : v = 1) : ∀ j, j < 451 → upd f (11 * i + 0) v j = mSh (i + 1) j := by
  intro j hj
  by_cases e : j = 11 * i + 0
  · rw [e, pk_us, hv]; unfold mSh; rw [if_pos (by omega)]
  · rw [pk_un e, h j hj]
    unfold mSh
    by_cases c : j % 11 = 0 ∧ j / 11 < i
    · rw [if_pos c, if_pos (by omega)]
    · rw [if_neg c, if_neg (by omega)]
theorem ks_one {i : Nat} (h : i < 41) : mSh 41 (11 * i + 0) = 1 := by unfold mSh; rw [if_pos (by omega)]
theorem ks_nil {i n : Nat} (h0 : 0 < n) (h : n < 11) : mSh 41 (11 * i + n) = 0 := by unfold mSh; rw [if_neg (by omega)]

theorem cl_0 : (0 : Int32).toNatClampNeg = 0 := by decide +kernel
theorem cl_1 : (1 : Int32).toNatClampNeg = 1 := by decide +kernel
theorem cl_2 : (2 : Int32).toNatClampNeg = 2 := by decide +kernel
theorem cl_3 : (3 : Int32).toNatClampNeg = 3 := by decide +kernel
theorem cl_4 : (4 : Int32).toNatClampNeg = 4 := by decide +kernel
theorem cl_5 : (5 : Int32).toNatClampNeg = 5 := by decide +kernel
theorem cl_6 : (6 : Int32).toNatClampNeg = 6 := by decide +kernel
theorem cl_7 : (7 : Int32).toNatClampNeg = 7 := by decide +kernel
theorem cl_8 : (8 : Int32).toNatClampNeg = 8 := by decide +kernel
theorem cl_9 : (9 : Int32).toNatClampNeg = 9 := by decide +kernel
theorem cl_10 : (10 : Int32).toNatClampNeg = 10 := by decide +kernel
theorem cl_16 : (16 : Int32).toNatClampNeg = 16 := by decide +kernel
theorem cl_22 : (22 : Int32).toNatClampNeg = 22 := by decide +kernel
theorem cl_23 : (23 : Int32).toNatClampNeg = 23 := by decide +kernel
theorem cl_33 : (33 : Int32).toNatClampNeg = 33 := by decide +kernel
theorem cl_43 : (43 : Int32).toNatClampNeg = 43 := by decide +kernel
theorem cl_53 : (53 : Int32).toNatClampNeg = 53 := by decide +kernel
theorem cl_63 : (63 : Int32).toNatClampNeg = 63 := by decide +kernel
theorem cl_69 : (69 : Int32).toNatClampNeg = 69 := by decide +kernel
theorem cl_99 : (99 : Int32).toNatClampNeg = 99 := by decide +kernel
theorem cl_100 : (100 : Int32).toNatClampNeg = 100 := by decide +kernel
theorem cl_101 : (101 : Int32).toNatClampNeg = 101 := by decide +kernel
theorem cl_102 : (102 : Int32).toNatClampNeg = 102 := by decide +kernel
theorem cl_103 : (103 : Int32).toNatClampNeg = 103 := by decide +kernel
theorem cl_104 : (104 : Int32).toNatClampNeg = 104 := by decide +kernel
theorem cl_105 : (105 : Int32).toNatClampNeg = 105 := by decide +kernel
theorem cl_106 : (106 : Int32).toNatClampNeg = 106 := by decide +kernel
end
section
set_option maxHeartbeats 4000000 in
set_option maxRecDepth 100000 in
theorem c_lies (l : Launch) (x : Int32) (lo : Int32) (hi : Int32)  : kN l yX12_lies (Cond.code yX12_lies cX12_lies 3 (some .boolean) :: kG) (rmD 1 0 0) [.int x, .int lo, .int hi] (fun v => v = mLies x lo hi) := by
  refine kN.of (cc := cX12_lies) (maxL := 3) (ret := (some .boolean)) (by decide) rfl (Nat.le_of_ble_eq_true rfl) ?_
  intro p e s m below meth c hx hb hr hml hown hts hlocks hS ls hl
  have hg : ∀ w ∈ kG, w.before _ s = true := fun w h => hts w (List.mem_cons_of_mem _ h)
  have hown : s.vm.findClass RX12 = some m.cls := hown
  have hl : lv_has ls 3 [(0, .int x), (1, .int lo), (2, .int hi)] := hl
  refine lv_iload_n hx hb dX12_lies_0 rfl (lv_at hl 0 rfl) ?_
  refine lv_iload_n hx hb dX12_lies_1 rfl (lv_at hl 1 rfl) ?_
  refine lv_icmp_lt (tgt := 14) hx hb dX12_lies_2 (by decide) (fun c1 => ?_) (fun c1 => ?_)
  · refine lv_iconst (v := 0) hx hb dX12_lies_14 (by decide) ?_
    exact kN_ret (v := 0) hx hb hr hlocks (by decide +kernel) hS dX12_lies_15 (by simp [mLies, c1])
  · refine lv_iload_n hx hb dX12_lies_5 rfl (lv_at hl 0 rfl) ?_
    refine lv_iload_n hx hb dX12_lies_6 rfl (lv_at hl 2 rfl) ?_
    refine lv_icmp_gt (tgt := 14) hx hb dX12_lies_7 (by decide) (fun c2 => ?_) (fun c2 => ?_)
    · refine lv_iconst (v := 0) hx hb dX12_lies_14 (by decide) ?_
      exact kN_ret (v := 0) hx hb hr hlocks (by decide +kernel) hS dX12_lies_15 (by simp [mLies, c1, c2])
    · refine lv_iconst (v := 1) hx hb dX12_lies_10 (by decide) ?_
      refine lv_goto (tgt := 15) hx hb dX12_lies_11 (by decide) ?_
      exact kN_ret (v := 1) hx hb hr hlocks (by decide +kernel) hS dX12_lies_15 (by simp [mLies, c1, c2])
set_option maxHeartbeats 4000000 in
set_option maxRecDepth 100000 in
theorem c_ones0 (l : Launch)   : kN l yX12_ones (Cond.code yX12_ones cX12_ones 3 (some .int) :: kG) (rmD 1 0 0) [.int 0] (fun v => v = 0) := by
  refine kN.of (cc := cX12_ones) (maxL := 3) (ret := (some .int)) (by decide) rfl (Nat.le_of_ble_eq_true rfl) ?_
  intro p e s m below meth c hx hb hr hml hown hts hlocks hS ls hl
  have hg : ∀ w ∈ kG, w.before _ s = true := fun w h => hts w (List.mem_cons_of_mem _ h)
  have hown : s.vm.findClass RX12 = some m.cls := hown
  have hl : lv_has ls 3 [(0, .int 0)] := hl
  refine lv_iconst (v := 0) hx hb dX12_ones_0 (by decide) ?_
  refine lv_istore_n (lv' := [(1, .int 0), (0, .int 0)]) hx hb dX12_ones_1 rfl hl (by decide) rfl (fun ls hl => ?_)
  refine lv_iconst (v := 0) hx hb dX12_ones_2 (by decide) ?_
  refine lv_istore_n (lv' := [(2, .int 0), (1, .int 0), (0, .int 0)]) hx hb dX12_ones_3 rfl hl (by decide) rfl (fun ls hl => ?_)
  refine lv_iload_n hx hb dX12_ones_4 rfl (lv_at hl 0 rfl) ?_
  refine lv_bipush (v := 10) hx hb dX12_ones_5 (by decide) ?_
  refine lv_icmp_ge (tgt := 24) hx hb dX12_ones_7 (by decide) (fun c1 => absurd c1 (by decide +kernel)) (fun c1 => ?_)
  refine lv_iload_n hx hb dX12_ones_10 rfl (lv_at hl 1 rfl) ?_
  refine lv_iload_n hx hb dX12_ones_11 rfl (lv_at hl 2 rfl) ?_
  refine lv_iload_n hx hb dX12_ones_12 rfl (lv_at hl 0 rfl) ?_
  refine lv_ishr hx hb dX12_ones_13 ?_
  refine k_top (z := 0) (by decide +kernel) ?_
  refine lv_iconst (v := 1) hx hb dX12_ones_14 (by decide) ?_
  refine lv_iand hx hb dX12_ones_15 ?_
  refine k_top (z := 0) (by decide +kernel) ?_
  refine lv_iadd hx hb dX12_ones_16 ?_
  refine k_top (z := 0) (by decide +kernel) ?_
  refine lv_istore_n (lv' := [(1, .int 0), (2, .int 0), (0, .int 0)]) hx hb dX12_ones_17 rfl hl (by decide) rfl (fun ls hl => ?_)
  refine lv_iinc (v := 1) (lv' := [(2, .int 1), (1, .int 0), (0, .int 0)]) hx hb dX12_ones_18 hl (k := 1) rfl (by decide +kernel) (by decide) rfl (fun ls hl => ?_)
  refine lv_goto (tgt := 4) hx hb dX12_ones_21 (by decide) ?_
  refine lv_iload_n hx hb dX12_ones_4 rfl (lv_at hl 0 rfl) ?_
  refine lv_bipush (v := 10) hx hb dX12_ones_5 (by decide) ?_
  refine lv_icmp_ge (tgt := 24) hx hb dX12_ones_7 (by decide) (fun c2 => absurd c2 (by decide +kernel)) (fun c2 => ?_)
  refine lv_iload_n hx hb dX12_ones_10 rfl (lv_at hl 1 rfl) ?_
  refine lv_iload_n hx hb dX12_ones_11 rfl (lv_at hl 2 rfl) ?_
  refine lv_iload_n hx hb dX12_ones_12 rfl (lv_at hl 0 rfl) ?_
  refine lv_ishr hx hb dX12_ones_13 ?_
  refine k_top (z := 0) (by decide +kernel) ?_
  refine lv_iconst (v := 1) hx hb dX12_ones_14 (by decide) ?_
  refine lv_iand hx hb dX12_ones_15 ?_
  refine k_top (z := 0) (by decide +kernel) ?_
  refine lv_iadd hx hb dX12_ones_16 ?_
  refine k_top (z := 0) (by decide +kernel) ?_
  refine lv_istore_n (lv' := [(1, .int 0), (2, .int 1), (0, .int 0)]) hx hb dX12_ones_17 rfl hl (by decide) rfl (fun ls hl => ?_)
  refine lv_iinc (v := 2) (lv' := [(2, .int 2), (1, .int 0), (0, .int 0)]) hx hb dX12_ones_18 hl (k := 1) rfl (by decide +kernel) (by decide) rfl (fun ls hl => ?_)
  refine lv_goto (tgt := 4) hx hb dX12_ones_21 (by decide) ?_
  refine lv_iload_n hx hb dX12_ones_4 rfl (lv_at hl 0 rfl) ?_
  refine lv_bipush (v := 10) hx hb dX12_ones_5 (by decide) ?_
  refine lv_icmp_ge (tgt := 24) hx hb dX12_ones_7 (by decide) (fun c3 => absurd c3 (by decide +kernel)) (fun c3 => ?_)
  refine lv_iload_n hx hb dX12_ones_10 rfl (lv_at hl 1 rfl) ?_
  refine lv_iload_n hx hb dX12_ones_11 rfl (lv_at hl 2 rfl) ?_
  refine lv_iload_n hx hb dX12_ones_12 rfl (lv_at hl 0 rfl) ?_
  refine lv_ishr hx hb dX12_ones_13 ?_
  refine k_top (z := 0) (by decide +kernel) ?_
  refine lv_iconst (v := 1) hx hb dX12_ones_14 (by decide) ?_
  refine lv_iand hx hb dX12_ones_15 ?_
  refine k_top (z := 0) (by decide +kernel) ?_
  refine lv_iadd hx hb dX12_ones_16 ?_
  refine k_top (z := 0) (by decide +kernel) ?_
  refine lv_istore_n (lv' := [(1, .int 0), (2, .int 2), (0, .int 0)]) hx hb dX12_ones_17 rfl hl (by decide) rfl (fun ls hl => ?_)
  refine lv_iinc (v := 3) (lv' := [(2, .int 3), (1, .int 0), (0, .int 0)]) hx hb dX12_ones_18 hl (k := 1) rfl (by decide +kernel) (by decide) rfl (fun ls hl => ?_)
  refine lv_goto (tgt := 4) hx hb dX12_ones_21 (by decide) ?_
  refine lv_iload_n hx hb dX12_ones_4 rfl (lv_at hl 0 rfl) ?_
  refine lv_bipush (v := 10) hx hb dX12_ones_5 (by decide) ?_
  refine lv_icmp_ge (tgt := 24) hx hb dX12_ones_7 (by decide) (fun c4 => absurd c4 (by decide +kernel)) (fun c4 => ?_)
  refine lv_iload_n hx hb dX12_ones_10 rfl (lv_at hl 1 rfl) ?_
  refine lv_iload_n hx hb dX12_ones_11 rfl (lv_at hl 2 rfl) ?_
  refine lv_iload_n hx hb dX12_ones_12 rfl (lv_at hl 0 rfl) ?_
  refine lv_ishr hx hb dX12_ones_13 ?_
  refine k_top (z := 0) (by decide +kernel) ?_
  refine lv_iconst (v := 1) hx hb dX12_ones_14 (by decide) ?_
  refine lv_iand hx hb dX12_ones_15 ?_
  refine k_top (z := 0) (by decide +kernel) ?_
  refine lv_iadd hx hb dX12_ones_16 ?_
  refine k_top (z := 0) (by decide +kernel) ?_
  refine lv_istore_n (lv' := [(1, .int 0), (2, .int 3), (0, .int 0)]) hx hb dX12_ones_17 rfl hl (by decide) rfl (fun ls hl => ?_)
  refine lv_iinc (v := 4) (lv' := [(2, .int 4), (1, .int 0), (0, .int 0)]) hx hb dX12_ones_18 hl (k := 1) rfl (by decide +kernel) (by decide) rfl (fun ls hl => ?_)
  refine lv_goto (tgt := 4) hx hb dX12_ones_21 (by decide) ?_
  refine lv_iload_n hx hb dX12_ones_4 rfl (lv_at hl 0 rfl) ?_
  refine lv_bipush (v := 10) hx hb dX12_ones_5 (by decide) ?_
  refine lv_icmp_ge (tgt := 24) hx hb dX12_ones_7 (by decide) (fun c5 => absurd c5 (by decide +kernel)) (fun c5 => ?_)
  refine lv_iload_n hx hb dX12_ones_10 rfl (lv_at hl 1 rfl) ?_
  refine lv_iload_n hx hb dX12_ones_11 rfl (lv_at hl 2 rfl) ?_
  refine lv_iload_n hx hb dX12_ones_12 rfl (lv_at hl 0 rfl) ?_
  refine lv_ishr hx hb dX12_ones_13 ?_
  refine k_top (z := 0) (by decide +kernel) ?_
  refine lv_iconst (v := 1) hx hb dX12_ones_14 (by decide) ?_
  refine lv_iand hx hb dX12_ones_15 ?_
  refine k_top (z := 0) (by decide +kernel) ?_
  refine lv_iadd hx hb dX12_ones_16 ?_
  refine k_top (z := 0) (by decide +kernel) ?_
  refine lv_istore_n (lv' := [(1, .int 0), (2, .int 4), (0, .int 0)]) hx hb dX12_ones_17 rfl hl (by decide) rfl (fun ls hl => ?_)
  refine lv_iinc (v := 5) (lv' := [(2, .int 5), (1, .int 0), (0, .int 0)]) hx hb dX12_ones_18 hl (k := 1) rfl (by decide +kernel) (by decide) rfl (fun ls hl => ?_)
  refine lv_goto (tgt := 4) hx hb dX12_ones_21 (by decide) ?_
  refine lv_iload_n hx hb dX12_ones_4 rfl (lv_at hl 0 rfl) ?_
  refine lv_bipush (v := 10) hx hb dX12_ones_5 (by decide) ?_
  refine lv_icmp_ge (tgt := 24) hx hb dX12_ones_7 (by decide) (fun c6 => absurd c6 (by decide +kernel)) (fun c6 => ?_)
  refine lv_iload_n hx hb dX12_ones_10 rfl (lv_at hl 1 rfl) ?_
  refine lv_iload_n hx hb dX12_ones_11 rfl (lv_at hl 2 rfl) ?_
  refine lv_iload_n hx hb dX12_ones_12 rfl (lv_at hl 0 rfl) ?_
  refine lv_ishr hx hb dX12_ones_13 ?_
  refine k_top (z := 0) (by decide +kernel) ?_
  refine lv_iconst (v := 1) hx hb dX12_ones_14 (by decide) ?_
  refine lv_iand hx hb dX12_ones_15 ?_
  refine k_top (z := 0) (by decide +kernel) ?_
  refine lv_iadd hx hb dX12_ones_16 ?_
  refine k_top (z := 0) (by decide +kernel) ?_
  refine lv_istore_n (lv' := [(1, .int 0), (2, .int 5), (0, .int 0)]) hx hb dX12_ones_17 rfl hl (by decide) rfl (fun ls hl => ?_)
  refine lv_iinc (v := 6) (lv' := [(2, .int 6), (1, .int 0), (0, .int 0)]) hx hb dX12_ones_18 hl (k := 1) rfl (by decide +kernel) (by decide) rfl (fun ls hl => ?_)
  refine lv_goto (tgt := 4) hx hb dX12_ones_21 (by decide) ?_
  refine lv_iload_n hx hb dX12_ones_4 rfl (lv_at hl 0 rfl) ?_
  refine lv_bipush (v := 10) hx hb dX12_ones_5 (by decide) ?_
  refine lv_icmp_ge (tgt := 24) hx hb dX12_ones_7 (by decide) (fun c7 => absurd c7 (by decide +kernel)) (fun c7 => ?_)
  refine lv_iload_n hx hb dX12_ones_10 rfl (lv_at hl 1 rfl) ?_
  refine lv_iload_n hx hb dX12_ones_11 rfl (lv_at hl 2 rfl) ?_
  refine lv_iload_n hx hb dX12_ones_12 rfl (lv_at hl 0 rfl) ?_
  refine lv_ishr hx hb dX12_ones_13 ?_
  refine k_top (z := 0) (by decide +kernel) ?_
  refine lv_iconst (v := 1) hx hb dX12_ones_14 (by decide) ?_
  refine lv_iand hx hb dX12_ones_15 ?_
  refine k_top (z := 0) (by decide +kernel) ?_
  refine lv_iadd hx hb dX12_ones_16 ?_
  refine k_top (z := 0) (by decide +kernel) ?_
  refine lv_istore_n (lv' := [(1, .int 0), (2, .int 6), (0, .int 0)]) hx hb dX12_ones_17 rfl hl (by decide) rfl (fun ls hl => ?_)
  refine lv_iinc (v := 7) (lv' := [(2, .int 7), (1, .int 0), (0, .int 0)]) hx hb dX12_ones_18 hl (k := 1) rfl (by decide +kernel) (by decide) rfl (fun ls hl => ?_)
  refine lv_goto (tgt := 4) hx hb dX12_ones_21 (by decide) ?_
  refine lv_iload_n hx hb dX12_ones_4 rfl (lv_at hl 0 rfl) ?_
  refine lv_bipush (v := 10) hx hb dX12_ones_5 (by decide) ?_
  refine lv_icmp_ge (tgt := 24) hx hb dX12_ones_7 (by decide) (fun c8 => absurd c8 (by decide +kernel)) (fun c8 => ?_)
  refine lv_iload_n hx hb dX12_ones_10 rfl (lv_at hl 1 rfl) ?_
  refine lv_iload_n hx hb dX12_ones_11 rfl (lv_at hl 2 rfl) ?_
  refine lv_iload_n hx hb dX12_ones_12 rfl (lv_at hl 0 rfl) ?_
  refine lv_ishr hx hb dX12_ones_13 ?_
  refine k_top (z := 0) (by decide +kernel) ?_
  refine lv_iconst (v := 1) hx hb dX12_ones_14 (by decide) ?_
  refine lv_iand hx hb dX12_ones_15 ?_
  refine k_top (z := 0) (by decide +kernel) ?_
  refine lv_iadd hx hb dX12_ones_16 ?_
  refine k_top (z := 0) (by decide +kernel) ?_
  refine lv_istore_n (lv' := [(1, .int 0), (2, .int 7), (0, .int 0)]) hx hb dX12_ones_17 rfl hl (by decide) rfl (fun ls hl => ?_)
  refine lv_iinc (v := 8) (lv' := [(2, .int 8), (1, .int 0), (0, .int 0)]) hx hb dX12_ones_18 hl (k := 1) rfl (by decide +kernel) (by decide) rfl (fun ls hl => ?_)
  refine lv_goto (tgt := 4) hx hb dX12_ones_21 (by decide) ?_
  refine lv_iload_n hx hb dX12_ones_4 rfl (lv_at hl 0 rfl) ?_
  refine lv_bipush (v := 10) hx hb dX12_ones_5 (by decide) ?_
  refine lv_icmp_ge (tgt := 24) hx hb dX12_ones_7 (by decide) (fun c9 => absurd c9 (by decide +kernel)) (fun c9 => ?_)
  refine lv_iload_n hx hb dX12_ones_10 rfl (lv_at hl 1 rfl) ?_
  refine lv_iload_n hx hb dX12_ones_11 rfl (lv_at hl 2 rfl) ?_
  refine lv_iload_n hx hb dX12_ones_12 rfl (lv_at hl 0 rfl) ?_
  refine lv_ishr hx hb dX12_ones_13 ?_
  refine k_top (z := 0) (by decide +kernel) ?_
  refine lv_iconst (v := 1) hx hb dX12_ones_14 (by decide) ?_
  refine lv_iand hx hb dX12_ones_15 ?_
  refine k_top (z := 0) (by decide +kernel) ?_
  refine lv_iadd hx hb dX12_ones_16 ?_
  refine k_top (z := 0) (by decide +kernel) ?_
  refine lv_istore_n (lv' := [(1, .int 0), (2, .int 8), (0, .int 0)]) hx hb dX12_ones_17 rfl hl (by decide) rfl (fun ls hl => ?_)
  refine lv_iinc (v := 9) (lv' := [(2, .int 9), (1, .int 0), (0, .int 0)]) hx hb dX12_ones_18 hl (k := 1) rfl (by decide +kernel) (by decide) rfl (fun ls hl => ?_)
  refine lv_goto (tgt := 4) hx hb dX12_ones_21 (by decide) ?_
  refine lv_iload_n hx hb dX12_ones_4 rfl (lv_at hl 0 rfl) ?_
  refine lv_bipush (v := 10) hx hb dX12_ones_5 (by decide) ?_
  refine lv_icmp_ge (tgt := 24) hx hb dX12_ones_7 (by decide) (fun c10 => absurd c10 (by decide +kernel)) (fun c10 => ?_)
  refine lv_iload_n hx hb dX12_ones_10 rfl (lv_at hl 1 rfl) ?_
  refine lv_iload_n hx hb dX12_ones_11 rfl (lv_at hl 2 rfl) ?_
  refine lv_iload_n hx hb dX12_ones_12 rfl (lv_at hl 0 rfl) ?_
  refine lv_ishr hx hb dX12_ones_13 ?_
  refine k_top (z := 0) (by decide +kernel) ?_
  refine lv_iconst (v := 1) hx hb dX12_ones_14 (by decide) ?_
  refine lv_iand hx hb dX12_ones_15 ?_
  refine k_top (z := 0) (by decide +kernel) ?_
  refine lv_iadd hx hb dX12_ones_16 ?_
  refine k_top (z := 0) (by decide +kernel) ?_
  refine lv_istore_n (lv' := [(1, .int 0), (2, .int 9), (0, .int 0)]) hx hb dX12_ones_17 rfl hl (by decide) rfl (fun ls hl => ?_)
  refine lv_iinc (v := 10) (lv' := [(2, .int 10), (1, .int 0), (0, .int 0)]) hx hb dX12_ones_18 hl (k := 1) rfl (by decide +kernel) (by decide) rfl (fun ls hl => ?_)
  refine lv_goto (tgt := 4) hx hb dX12_ones_21 (by decide) ?_
  refine lv_iload_n hx hb dX12_ones_4 rfl (lv_at hl 0 rfl) ?_
  refine lv_bipush (v := 10) hx hb dX12_ones_5 (by decide) ?_
  refine lv_icmp_ge (tgt := 24) hx hb dX12_ones_7 (by decide) (fun c11 => ?_) (fun c11 => absurd (by decide +kernel) c11)
  refine lv_iload_n hx hb dX12_ones_24 rfl (lv_at hl 1 rfl) ?_
  exact kN_ret (v := 0) hx hb hr hlocks rfl hS dX12_ones_25 rfl
set_option maxHeartbeats 4000000 in
set_option maxRecDepth 100000 in
theorem c_standing (l : Launch) {D : va_G} {K : Nat → ClassId} (o : Nat) (r : Nat → Nat) (f : Nat → Int32) (a : Nat → Nat → Int32) (g : Nat → Int64) (h0 : a 2 102 = 0)   : kI l yX12_standing (Cond.code yX12_standing cX12_standing 3 (some .int) :: kG) (rmD 1 0 0) D (tysK K) [.ref o] (mW K o r f a g) (fun v (_ : Unit) => v = 0) (fun _ => mW K o r f a g) 0 0 := by
  refine kI.of (cc := cX12_standing) (maxL := 3) (ret := (some .int)) (by decide) rfl (Nat.le_of_ble_eq_true rfl) ?_
  intro p e s m below meth c A hx hb hr hml hown hts hlocks hnm hK hP hD hS hA ls hl
  have hg : ∀ w ∈ kG, w.before _ s = true := fun w h => hts w (List.mem_cons_of_mem _ h)
  have hown : s.vm.findClass RX12 = some m.cls := hown
  have hl : lv_has ls 3 [(0, .ref o)] := hl
  refine lv_iconst (v := 0) hx hb dX12_standing_0 (by decide) ?_
  refine lv_istore_n (lv' := [(1, .int 0), (0, .ref o)]) hx hb dX12_standing_1 rfl hl (by decide) rfl (fun ls hl => ?_)
  refine lv_iconst (v := 0) hx hb dX12_standing_2 (by decide) ?_
  refine lv_istore_n (lv' := [(2, .int 0), (1, .int 0), (0, .ref o)]) hx hb dX12_standing_3 rfl hl (by decide) rfl (fun ls hl => ?_)
  refine lv_iload_n hx hb dX12_standing_4 rfl (lv_at hl 0 rfl) ?_
  refine lv_aload_n hx hb dX12_standing_5 rfl (lv_at hl 2 rfl) ?_
  refine va_get (D := D) (ci := 12) (v := .ref (r 2)) (C := RX12) (T := TX12) (N := 48) hx hb hg inC12 hown hK hP 0 rfl rfl 2 (by decide) (hg _ wt5_162) (fun _ h9 => h9) rfl dX12_standing_6 ?_
  refine lv_bipush (v := 102) hx hb dX12_standing_9 (by decide) ?_
  refine va_iald hx hb hK hP 2 0 rfl rfl (k_in (by decide +kernel)) dX12_standing_11 ?_
  refine k_top (z := 0) (by rw [cl_102]; exact h0) ?_
  refine lv_icmp_ge (tgt := 39) hx hb dX12_standing_12 (by decide) (fun c1 => ?_) (fun c1 => absurd (by decide +kernel) c1)
  refine lv_iload_n hx hb dX12_standing_39 rfl (lv_at hl 1 rfl) ?_
  exact kI_ret (v := 0) hx hb hr hlocks rfl hK hS dX12_standing_40 () hP hD rfl
set_option maxHeartbeats 4000000 in
set_option maxRecDepth 100000 in
theorem c_allParts (l : Launch) {D : va_G} {K : Nat → ClassId} (o : Nat) (r : Nat → Nat) (f : Nat → Int32) (a : Nat → Nat → Int32) (g : Nat → Int64) (h0 : a 2 102 = 0)   : kI l yX12_allParts (Cond.code yX12_allParts cX12_allParts 1 (some .int) :: kG) (rmD 1 0 0) D (tysK K) [.ref o] (mW K o r f a g) (fun v (_ : Unit) => v = 0) (fun _ => mW K o r f a g) 0 0 := by
  refine kI.of (cc := cX12_allParts) (maxL := 1) (ret := (some .int)) (by decide) rfl (Nat.le_of_ble_eq_true rfl) ?_
  intro p e s m below meth c A hx hb hr hml hown hts hlocks hnm hK hP hD hS hA ls hl
  have hg : ∀ w ∈ kG, w.before _ s = true := fun w h => hts w (List.mem_cons_of_mem _ h)
  have hown : s.vm.findClass RX12 = some m.cls := hown
  have hl : lv_has ls 1 [(0, .ref o)] := hl
  refine lv_iconst (v := 1) hx hb dX12_allParts_0 (by decide) ?_
  refine lv_aload_n hx hb dX12_allParts_1 rfl (lv_at hl 0 rfl) ?_
  refine va_get (D := D) (ci := 12) (v := .ref (r 2)) (C := RX12) (T := TX12) (N := 48) hx hb hg inC12 hown hK hP 0 rfl rfl 2 (by decide) (hg _ wt5_162) (fun _ h9 => h9) rfl dX12_allParts_2 ?_
  refine lv_bipush (v := 102) hx hb dX12_allParts_5 (by decide) ?_
  refine va_iald hx hb hK hP 2 0 rfl rfl (k_in (by decide +kernel)) dX12_allParts_7 ?_
  refine k_top (z := 0) (by rw [cl_102]; exact h0) ?_
  refine lv_ishl hx hb dX12_allParts_8 ?_
  refine k_top (z := 1) (by decide +kernel) ?_
  refine lv_iconst (v := 1) hx hb dX12_allParts_9 (by decide) ?_
  refine lv_isub hx hb dX12_allParts_10 ?_
  refine k_top (z := 0) (by decide +kernel) ?_
  exact kI_ret (v := 0) hx hb hr hlocks rfl hK hS dX12_allParts_11 () hP hD rfl
set_option maxHeartbeats 4000000 in
set_option maxRecDepth 100000 in
theorem c_allBuilders (l : Launch) {D : va_G} {K : Nat → ClassId} (o : Nat) (r : Nat → Nat) (f : Nat → Int32) (a : Nat → Nat → Int32) (g : Nat → Int64) (h0 : a 2 103 = 0)   : kI l yX12_allBuilders (Cond.code yX12_allBuilders cX12_allBuilders 1 (some .int) :: kG) (rmD 1 0 0) D (tysK K) [.ref o] (mW K o r f a g) (fun v (_ : Unit) => v = 0) (fun _ => mW K o r f a g) 0 0 := by
  refine kI.of (cc := cX12_allBuilders) (maxL := 1) (ret := (some .int)) (by decide) rfl (Nat.le_of_ble_eq_true rfl) ?_
  intro p e s m below meth c A hx hb hr hml hown hts hlocks hnm hK hP hD hS hA ls hl
  have hg : ∀ w ∈ kG, w.before _ s = true := fun w h => hts w (List.mem_cons_of_mem _ h)
  have hown : s.vm.findClass RX12 = some m.cls := hown
  have hl : lv_has ls 1 [(0, .ref o)] := hl
  refine lv_iconst (v := 1) hx hb dX12_allBuilders_0 (by decide) ?_
  refine lv_aload_n hx hb dX12_allBuilders_1 rfl (lv_at hl 0 rfl) ?_
  refine va_get (D := D) (ci := 12) (v := .ref (r 2)) (C := RX12) (T := TX12) (N := 48) hx hb hg inC12 hown hK hP 0 rfl rfl 2 (by decide) (hg _ wt5_162) (fun _ h9 => h9) rfl dX12_allBuilders_2 ?_
  refine lv_bipush (v := 103) hx hb dX12_allBuilders_5 (by decide) ?_
  refine va_iald hx hb hK hP 2 0 rfl rfl (k_in (by decide +kernel)) dX12_allBuilders_7 ?_
  refine k_top (z := 0) (by rw [cl_103]; exact h0) ?_
  refine lv_ishl hx hb dX12_allBuilders_8 ?_
  refine k_top (z := 1) (by decide +kernel) ?_
  refine lv_iconst (v := 1) hx hb dX12_allBuilders_9 (by decide) ?_
  refine lv_isub hx hb dX12_allBuilders_10 ?_
  refine k_top (z := 0) (by decide +kernel) ?_
  exact kI_ret (v := 0) hx hb hr hlocks rfl hK hS dX12_allBuilders_11 () hP hD rfl
set_option maxHeartbeats 4000000 in
set_option maxRecDepth 100000 in
theorem c_isPart (l : Launch) {D : va_G} {K : Nat → ClassId} (o : Nat) (r : Nat → Nat) (f : Nat → Int32) (a : Nat → Nat → Int32) (g : Nat → Int64) (h0 : a 2 102 = 0) (x : Int32)  : kI l yX12_isPart (Cond.code yX12_isPart cX12_isPart 2 (some .boolean) :: kG) (rmD 2 0 0) D (tysK K) [.ref o, .int x] (mW K o r f a g) (fun v (_ : Unit) => v = 0) (fun _ => mW K o r f a g) 0 0 := by
  refine kI.of (cc := cX12_isPart) (maxL := 2) (ret := (some .boolean)) (by decide) rfl (Nat.le_of_ble_eq_true rfl) ?_
  intro p e s m below meth c A hx hb hr hml hown hts hlocks hnm hK hP hD hS hA ls hl
  have hg : ∀ w ∈ kG, w.before _ s = true := fun w h => hts w (List.mem_cons_of_mem _ h)
  have hown : s.vm.findClass RX12 = some m.cls := hown
  have hl : lv_has ls 2 [(0, .ref o), (1, .int x)] := hl
  refine lv_iload_n hx hb dX12_isPart_0 rfl (lv_at hl 1 rfl) ?_
  refine lv_iconst (v := 0) hx hb dX12_isPart_1 (by decide) ?_
  refine lv_aload_n hx hb dX12_isPart_2 rfl (lv_at hl 0 rfl) ?_
  refine va_get (D := D) (ci := 12) (v := .ref (r 2)) (C := RX12) (T := TX12) (N := 48) hx hb hg inC12 hown hK hP 0 rfl rfl 2 (by decide) (hg _ wt5_162) (fun _ h9 => h9) rfl dX12_isPart_3 ?_
  refine lv_bipush (v := 102) hx hb dX12_isPart_6 (by decide) ?_
  refine va_iald hx hb hK hP 2 0 rfl rfl (k_in (by decide +kernel)) dX12_isPart_8 ?_
  refine k_top (z := 0) (by rw [cl_102]; exact h0) ?_
  refine lv_iconst (v := 1) hx hb dX12_isPart_9 (by decide) ?_
  refine lv_isub hx hb dX12_isPart_10 ?_
  refine k_top (z := (-1)) (by decide +kernel) ?_
  refine kN.callS (As := [.int x, .int 0, .int (-1)]) (rest := []) ⟨hx, hb, hml, hown, hg⟩ (c_lies l x 0 (-1)) (va_cwS 3 hg (kgS wt6_69 wt6_70 wt1_14 wt6_71) rfl rfl rfl (by decide +kernel) ⟨by decide, by decide⟩) hP hS rfl hl.1 rfl (Nat.le_of_ble_eq_true rfl) dX12_isPart_11 ⟨by decide, by decide⟩ (fun v2 H locs hw1 hP hS => ?_)
  refine k_top (z := 0) (hw1.trans (mLies_e (by decide +kernel))) ?_
  exact kI_ret (v := 0) hx hb hr hlocks (by decide +kernel) hK hS dX12_isPart_14 () hP hD rfl
set_option maxHeartbeats 4000000 in
set_option maxRecDepth 100000 in
theorem c_isBuilder (l : Launch) {D : va_G} {K : Nat → ClassId} (o : Nat) (r : Nat → Nat) (f : Nat → Int32) (a : Nat → Nat → Int32) (g : Nat → Int64) (h0 : a 2 103 = 0) (x : Int32)  : kI l yX12_isBuilder (Cond.code yX12_isBuilder cX12_isBuilder 2 (some .boolean) :: kG) (rmD 2 0 0) D (tysK K) [.ref o, .int x] (mW K o r f a g) (fun v (_ : Unit) => v = 0) (fun _ => mW K o r f a g) 0 0 := by
  refine kI.of (cc := cX12_isBuilder) (maxL := 2) (ret := (some .boolean)) (by decide) rfl (Nat.le_of_ble_eq_true rfl) ?_
  intro p e s m below meth c A hx hb hr hml hown hts hlocks hnm hK hP hD hS hA ls hl
  have hg : ∀ w ∈ kG, w.before _ s = true := fun w h => hts w (List.mem_cons_of_mem _ h)
  have hown : s.vm.findClass RX12 = some m.cls := hown
  have hl : lv_has ls 2 [(0, .ref o), (1, .int x)] := hl
  refine lv_iload_n hx hb dX12_isBuilder_0 rfl (lv_at hl 1 rfl) ?_
  refine lv_iconst (v := 0) hx hb dX12_isBuilder_1 (by decide) ?_
  refine lv_aload_n hx hb dX12_isBuilder_2 rfl (lv_at hl 0 rfl) ?_
  refine va_get (D := D) (ci := 12) (v := .ref (r 2)) (C := RX12) (T := TX12) (N := 48) hx hb hg inC12 hown hK hP 0 rfl rfl 2 (by decide) (hg _ wt5_162) (fun _ h9 => h9) rfl dX12_isBuilder_3 ?_
  refine lv_bipush (v := 103) hx hb dX12_isBuilder_6 (by decide) ?_
  refine va_iald hx hb hK hP 2 0 rfl rfl (k_in (by decide +kernel)) dX12_isBuilder_8 ?_
  refine k_top (z := 0) (by rw [cl_103]; exact h0) ?_
  refine lv_iconst (v := 1) hx hb dX12_isBuilder_9 (by decide) ?_
  refine lv_isub hx hb dX12_isBuilder_10 ?_
  refine k_top (z := (-1)) (by decide +kernel) ?_
  refine kN.callS (As := [.int x, .int 0, .int (-1)]) (rest := []) ⟨hx, hb, hml, hown, hg⟩ (c_lies l x 0 (-1)) (va_cwS 3 hg (kgS wt6_69 wt6_70 wt1_14 wt6_71) rfl rfl rfl (by decide +kernel) ⟨by decide, by decide⟩) hP hS rfl hl.1 rfl (Nat.le_of_ble_eq_true rfl) dX12_isBuilder_11 ⟨by decide, by decide⟩ (fun v2 H locs hw1 hP hS => ?_)
  refine k_top (z := 0) (hw1.trans (mLies_e (by decide +kernel))) ?_
  exact kI_ret (v := 0) hx hb hr hlocks (by decide +kernel) hK hS dX12_isBuilder_14 () hP hD rfl
set_option maxHeartbeats 4000000 in
set_option maxRecDepth 100000 in
theorem c_good (l : Launch) {D : va_G} {K : Nat → ClassId} (o : Nat) (r : Nat → Nat) (f : Nat → Int32) (a : Nat → Nat → Int32) (g : Nat → Int64)  (x : Int32)  : kI l yX12_good (Cond.code yX12_good cX12_good 2 (some .int) :: kG) (rmD 1 0 0) D (tysK K) [.ref o, .int x] (mW K o r f a g) (fun v (u : mS) => v = x) (fun u => mW K o r u.1 u.2.1 u.2.2) 0 0 := by
  refine kI.of (cc := cX12_good) (maxL := 2) (ret := (some .int)) (by decide) rfl (Nat.le_of_ble_eq_true rfl) ?_
  intro p e s m below meth c A hx hb hr hml hown hts hlocks hnm hK hP hD hS hA ls hl
  have hg : ∀ w ∈ kG, w.before _ s = true := fun w h => hts w (List.mem_cons_of_mem _ h)
  have hown : s.vm.findClass RX12 = some m.cls := hown
  have hl : lv_has ls 2 [(0, .ref o), (1, .int x)] := hl
  refine lv_aload_n hx hb dX12_good_0 rfl (lv_at hl 0 rfl) ?_
  refine lv_iconst (v := 0) hx hb dX12_good_1 (by decide) ?_
  refine va_put (D := D) (ci := 12) (v := .int 0) (ty := .int) (C := RX12) (T := TX12) (N := 48) hx hb hg inC12 tyX12 tyX12_ok nmX12 hown hK hP hD hS 0 rfl rfl 0 (by decide) (hg _ wt5_160) (fun _ h9 => h9) rfl (by decide +kernel) rfl rfl (Nat.le_of_ble_eq_true rfl) dX12_good_2 (fun H locs hP hD hS => ?_)
  have hP : va_P D vwCl (mW K o r (upd f 0 0) a g) H := hP
  have hD : va_D A (mW K o r (upd f 0 0) a g) := hD
  generalize ef_1 : upd f 0 0 = f_1 at hP hD
  refine lv_iload_n hx hb dX12_good_5 rfl (lv_at hl 1 rfl) ?_
  exact kI_ret (v := x) hx hb hr hlocks rfl hK hS dX12_good_6 (f_1, a, g) hP hD rfl
set_option maxHeartbeats 4000000 in
set_option maxRecDepth 100000 in
theorem c_settled (l : Launch) {D : va_G} {K : Nat → ClassId} (o : Nat) (r : Nat → Nat) (f : Nat → Int32) (a : Nat → Nat → Int32) (g : Nat → Int64)  (x : Int32)  : kI l yX12_settled (Cond.code yX12_settled cX12_settled 2 (some .int) :: kG) (rmD 2 0 0) D (tysK K) [.ref o, .int x] (mW K o r f a g) (fun v (u : mS) => v = x) (fun u => mW K o r u.1 u.2.1 u.2.2) 0 0 := by
  refine kI.of (cc := cX12_settled) (maxL := 2) (ret := (some .int)) (by decide) rfl (Nat.le_of_ble_eq_true rfl) ?_
  intro p e s m below meth c A hx hb hr hml hown hts hlocks hnm hK hP hD hS hA ls hl
  have hg : ∀ w ∈ kG, w.before _ s = true := fun w h => hts w (List.mem_cons_of_mem _ h)
  have hown : s.vm.findClass RX12 = some m.cls := hown
  have hl : lv_has ls 2 [(0, .ref o), (1, .int x)] := hl
  refine lv_aload_n hx hb dX12_settled_0 rfl (lv_at hl 0 rfl) ?_
  refine lv_iconst (v := 0) hx hb dX12_settled_1 (by decide) ?_
  refine va_put (D := D) (ci := 12) (v := .int 0) (ty := .int) (C := RX12) (T := TX12) (N := 48) hx hb hg inC12 tyX12 tyX12_ok nmX12 hown hK hP hD hS 0 rfl rfl 33 (by decide) (hg _ wt5_193) (fun _ h9 => h9) rfl (by decide +kernel) rfl rfl (Nat.le_of_ble_eq_true rfl) dX12_settled_2 (fun H locs hP hD hS => ?_)
  have hP : va_P D vwCl (mW K o r (upd f 33 0) a g) H := hP
  have hD : va_D A (mW K o r (upd f 33 0) a g) := hD
  generalize ef_1 : upd f 33 0 = f_1 at hP hD
  refine lv_aload_n hx hb dX12_settled_5 rfl (lv_at hl 0 rfl) ?_
  refine lv_iload_n hx hb dX12_settled_6 rfl (lv_at hl 1 rfl) ?_
  refine kI.callV (As := [.int x]) (rest := []) ⟨hx, hb, hml, hown, hg⟩ (c_good l o r f_1 a g  x) (cwV 1 hg (kgV wt6_76 wt6_78 wp3_6 wt1_14 wt6_79) rfl rfl rfl (by decide +kernel) ⟨by decide, by decide⟩) hK hP hD hS hA mIs [] rfl (wr := []) rfl rfl rfl (fun i h => by cases h) 0 12 rfl rfl rfl hl.1 rfl (Nat.le_of_ble_eq_true rfl) dX12_settled_7 ⟨by decide, by decide⟩ (fun v4 u3 H locs hw2 hP hD hS => ?_)
  obtain ⟨f5, a6, g7⟩ := u3
  have hP : va_P D vwCl (mW K o r f5 a6 g7) H := hP
  have hD : va_D A (mW K o r f5 a6 g7) := hD
  refine k_top (z := x) hw2 ?_
  exact kI_ret (v := x) hx hb hr hlocks rfl hK hS dX12_settled_10 (f5, a6, g7) hP hD rfl
end
section
set_option maxHeartbeats 4000000 in
set_option maxRecDepth 100000 in
theorem c_refuses1 (l : Launch) {D : va_G} {K : Nat → ClassId} (o : Nat) (r : Nat → Nat) (f : Nat → Int32) (a : Nat → Nat → Int32) (g : Nat → Int64)    : kI l yX12_refuses (Cond.code yX12_refuses cX12_refuses 2 (some .int) :: kG) (rmD 1 0 0) D (tysK K) [.ref o, .int (-1)] (mW K o r f a g) (fun v (u : mS) => v = (-1)) (fun u => mW K o r u.1 u.2.1 u.2.2) 0 0 := by
  refine kI.of (cc := cX12_refuses) (maxL := 2) (ret := (some .int)) (by decide) rfl (Nat.le_of_ble_eq_true rfl) ?_
  intro p e s m below meth c A hx hb hr hml hown hts hlocks hnm hK hP hD hS hA ls hl
  have hg : ∀ w ∈ kG, w.before _ s = true := fun w h => hts w (List.mem_cons_of_mem _ h)
  have hown : s.vm.findClass RX12 = some m.cls := hown
  have hl : lv_has ls 2 [(0, .ref o), (1, .int (-1))] := hl
  refine lv_aload_n hx hb dX12_refuses_0 rfl (lv_at hl 0 rfl) ?_
  refine lv_iload_n hx hb dX12_refuses_1 rfl (lv_at hl 1 rfl) ?_
  refine va_put (D := D) (ci := 12) (v := .int (-1)) (ty := .int) (C := RX12) (T := TX12) (N := 48) hx hb hg inC12 tyX12 tyX12_ok nmX12 hown hK hP hD hS 0 rfl rfl 0 (by decide) (hg _ wt5_160) (fun _ h9 => h9) rfl (by decide +kernel) rfl rfl (Nat.le_of_ble_eq_true rfl) dX12_refuses_2 (fun H locs hP hD hS => ?_)
  have hP : va_P D vwCl (mW K o r (upd f 0 (-1)) a g) H := hP
  have hD : va_D A (mW K o r (upd f 0 (-1)) a g) := hD
  generalize ef_1 : upd f 0 (-1) = f_1 at hP hD
  refine lv_aload_n hx hb dX12_refuses_5 rfl (lv_at hl 0 rfl) ?_
  refine va_get (D := D) (ci := 12) (v := .ref (r 1)) (C := RX12) (T := TX12) (N := 48) hx hb hg inC12 hown hK hP 0 rfl rfl 1 (by decide) (hg _ wt5_161) (fun _ h9 => h9) rfl dX12_refuses_6 ?_
  refine lv_iload_n hx hb dX12_refuses_9 rfl (lv_at hl 1 rfl) ?_
  refine lv_ineg hx hb dX12_refuses_10 ?_
  refine k_top (z := 1) (by decide +kernel) ?_
  refine lv_dup2_11 hx hb dX12_refuses_11 rfl rfl ?_
  refine va_iald hx hb hK hP 1 0 rfl rfl (k_in (by decide +kernel)) dX12_refuses_12 ?_
  refine lv_topi (fun t2 et2 => ?_)
  rw [cl_1] at et2
  refine lv_iconst (v := 1) hx hb dX12_refuses_13 (by decide) ?_
  refine lv_iadd hx hb dX12_refuses_14 ?_
  refine lv_topi (fun t3 et3 => ?_)
  refine va_iast hx hb hK hP hD hS 1 0 rfl rfl (k_in (by decide +kernel)) dX12_refuses_15 (fun H locs hP hD hS => ?_)
  rw [cl_1] at hP hD
  have hP : va_P D vwCl (mW K o r f_1 (va_up a 1 (upd (a 1) 1 t3)) g) H := hP
  have hD : va_D A (mW K o r f_1 (va_up a 1 (upd (a 1) 1 t3)) g) := hD
  generalize ea_4 : va_up a 1 (upd (a 1) 1 t3) = a_4 at hP hD
  refine lv_iload_n hx hb dX12_refuses_16 rfl (lv_at hl 1 rfl) ?_
  exact kI_ret (v := (-1)) hx hb hr hlocks rfl hK hS dX12_refuses_17 (f_1, a_4, g) hP hD rfl
set_option maxHeartbeats 4000000 in
set_option maxRecDepth 100000 in
theorem c_refuses2 (l : Launch) {D : va_G} {K : Nat → ClassId} (o : Nat) (r : Nat → Nat) (f : Nat → Int32) (a : Nat → Nat → Int32) (g : Nat → Int64)    : kI l yX12_refuses (Cond.code yX12_refuses cX12_refuses 2 (some .int) :: kG) (rmD 1 0 0) D (tysK K) [.ref o, .int (-2)] (mW K o r f a g) (fun v (u : mS) => v = (-2)) (fun u => mW K o r u.1 u.2.1 u.2.2) 0 0 := by
  refine kI.of (cc := cX12_refuses) (maxL := 2) (ret := (some .int)) (by decide) rfl (Nat.le_of_ble_eq_true rfl) ?_
  intro p e s m below meth c A hx hb hr hml hown hts hlocks hnm hK hP hD hS hA ls hl
  have hg : ∀ w ∈ kG, w.before _ s = true := fun w h => hts w (List.mem_cons_of_mem _ h)
  have hown : s.vm.findClass RX12 = some m.cls := hown
  have hl : lv_has ls 2 [(0, .ref o), (1, .int (-2))] := hl
  refine lv_aload_n hx hb dX12_refuses_0 rfl (lv_at hl 0 rfl) ?_
  refine lv_iload_n hx hb dX12_refuses_1 rfl (lv_at hl 1 rfl) ?_
  refine va_put (D := D) (ci := 12) (v := .int (-2)) (ty := .int) (C := RX12) (T := TX12) (N := 48) hx hb hg inC12 tyX12 tyX12_ok nmX12 hown hK hP hD hS 0 rfl rfl 0 (by decide) (hg _ wt5_160) (fun _ h9 => h9) rfl (by decide +kernel) rfl rfl (Nat.le_of_ble_eq_true rfl) dX12_refuses_2 (fun H locs hP hD hS => ?_)
  have hP : va_P D vwCl (mW K o r (upd f 0 (-2)) a g) H := hP
  have hD : va_D A (mW K o r (upd f 0 (-2)) a g) := hD
  generalize ef_1 : upd f 0 (-2) = f_1 at hP hD
  refine lv_aload_n hx hb dX12_refuses_5 rfl (lv_at hl 0 rfl) ?_
  refine va_get (D := D) (ci := 12) (v := .ref (r 1)) (C := RX12) (T := TX12) (N := 48) hx hb hg inC12 hown hK hP 0 rfl rfl 1 (by decide) (hg _ wt5_161) (fun _ h9 => h9) rfl dX12_refuses_6 ?_
  refine lv_iload_n hx hb dX12_refuses_9 rfl (lv_at hl 1 rfl) ?_
  refine lv_ineg hx hb dX12_refuses_10 ?_
  refine k_top (z := 2) (by decide +kernel) ?_
  refine lv_dup2_11 hx hb dX12_refuses_11 rfl rfl ?_
  refine va_iald hx hb hK hP 1 0 rfl rfl (k_in (by decide +kernel)) dX12_refuses_12 ?_
  refine lv_topi (fun t2 et2 => ?_)
  rw [cl_2] at et2
  refine lv_iconst (v := 1) hx hb dX12_refuses_13 (by decide) ?_
  refine lv_iadd hx hb dX12_refuses_14 ?_
  refine lv_topi (fun t3 et3 => ?_)
  refine va_iast hx hb hK hP hD hS 1 0 rfl rfl (k_in (by decide +kernel)) dX12_refuses_15 (fun H locs hP hD hS => ?_)
  rw [cl_2] at hP hD
  have hP : va_P D vwCl (mW K o r f_1 (va_up a 1 (upd (a 1) 2 t3)) g) H := hP
  have hD : va_D A (mW K o r f_1 (va_up a 1 (upd (a 1) 2 t3)) g) := hD
  generalize ea_4 : va_up a 1 (upd (a 1) 2 t3) = a_4 at hP hD
  refine lv_iload_n hx hb dX12_refuses_16 rfl (lv_at hl 1 rfl) ?_
  exact kI_ret (v := (-2)) hx hb hr hlocks rfl hK hS dX12_refuses_17 (f_1, a_4, g) hP hD rfl
set_option maxHeartbeats 4000000 in
set_option maxRecDepth 100000 in
theorem c_refuses3 (l : Launch) {D : va_G} {K : Nat → ClassId} (o : Nat) (r : Nat → Nat) (f : Nat → Int32) (a : Nat → Nat → Int32) (g : Nat → Int64)    : kI l yX12_refuses (Cond.code yX12_refuses cX12_refuses 2 (some .int) :: kG) (rmD 1 0 0) D (tysK K) [.ref o, .int (-3)] (mW K o r f a g) (fun v (u : mS) => v = (-3)) (fun u => mW K o r u.1 u.2.1 u.2.2) 0 0 := by
  refine kI.of (cc := cX12_refuses) (maxL := 2) (ret := (some .int)) (by decide) rfl (Nat.le_of_ble_eq_true rfl) ?_
  intro p e s m below meth c A hx hb hr hml hown hts hlocks hnm hK hP hD hS hA ls hl
  have hg : ∀ w ∈ kG, w.before _ s = true := fun w h => hts w (List.mem_cons_of_mem _ h)
  have hown : s.vm.findClass RX12 = some m.cls := hown
  have hl : lv_has ls 2 [(0, .ref o), (1, .int (-3))] := hl
  refine lv_aload_n hx hb dX12_refuses_0 rfl (lv_at hl 0 rfl) ?_
  refine lv_iload_n hx hb dX12_refuses_1 rfl (lv_at hl 1 rfl) ?_
  refine va_put (D := D) (ci := 12) (v := .int (-3)) (ty := .int) (C := RX12) (T := TX12) (N := 48) hx hb hg inC12 tyX12 tyX12_ok nmX12 hown hK hP hD hS 0 rfl rfl 0 (by decide) (hg _ wt5_160) (fun _ h9 => h9) rfl (by decide +kernel) rfl rfl (Nat.le_of_ble_eq_true rfl) dX12_refuses_2 (fun H locs hP hD hS => ?_)
  have hP : va_P D vwCl (mW K o r (upd f 0 (-3)) a g) H := hP
  have hD : va_D A (mW K o r (upd f 0 (-3)) a g) := hD
  generalize ef_1 : upd f 0 (-3) = f_1 at hP hD
  refine lv_aload_n hx hb dX12_refuses_5 rfl (lv_at hl 0 rfl) ?_
  refine va_get (D := D) (ci := 12) (v := .ref (r 1)) (C := RX12) (T := TX12) (N := 48) hx hb hg inC12 hown hK hP 0 rfl rfl 1 (by decide) (hg _ wt5_161) (fun _ h9 => h9) rfl dX12_refuses_6 ?_
  refine lv_iload_n hx hb dX12_refuses_9 rfl (lv_at hl 1 rfl) ?_
  refine lv_ineg hx hb dX12_refuses_10 ?_
  refine k_top (z := 3) (by decide +kernel) ?_
  refine lv_dup2_11 hx hb dX12_refuses_11 rfl rfl ?_
  refine va_iald hx hb hK hP 1 0 rfl rfl (k_in (by decide +kernel)) dX12_refuses_12 ?_
  refine lv_topi (fun t2 et2 => ?_)
  rw [cl_3] at et2
  refine lv_iconst (v := 1) hx hb dX12_refuses_13 (by decide) ?_
  refine lv_iadd hx hb dX12_refuses_14 ?_
  refine lv_topi (fun t3 et3 => ?_)
  refine va_iast hx hb hK hP hD hS 1 0 rfl rfl (k_in (by decide +kernel)) dX12_refuses_15 (fun H locs hP hD hS => ?_)
  rw [cl_3] at hP hD
  have hP : va_P D vwCl (mW K o r f_1 (va_up a 1 (upd (a 1) 3 t3)) g) H := hP
  have hD : va_D A (mW K o r f_1 (va_up a 1 (upd (a 1) 3 t3)) g) := hD
  generalize ea_4 : va_up a 1 (upd (a 1) 3 t3) = a_4 at hP hD
  refine lv_iload_n hx hb dX12_refuses_16 rfl (lv_at hl 1 rfl) ?_
  exact kI_ret (v := (-3)) hx hb hr hlocks rfl hK hS dX12_refuses_17 (f_1, a_4, g) hP hD rfl
set_option maxHeartbeats 4000000 in
set_option maxRecDepth 100000 in
theorem c_refuses6 (l : Launch) {D : va_G} {K : Nat → ClassId} (o : Nat) (r : Nat → Nat) (f : Nat → Int32) (a : Nat → Nat → Int32) (g : Nat → Int64)    : kI l yX12_refuses (Cond.code yX12_refuses cX12_refuses 2 (some .int) :: kG) (rmD 1 0 0) D (tysK K) [.ref o, .int (-6)] (mW K o r f a g) (fun v (u : mS) => v = (-6)) (fun u => mW K o r u.1 u.2.1 u.2.2) 0 0 := by
  refine kI.of (cc := cX12_refuses) (maxL := 2) (ret := (some .int)) (by decide) rfl (Nat.le_of_ble_eq_true rfl) ?_
  intro p e s m below meth c A hx hb hr hml hown hts hlocks hnm hK hP hD hS hA ls hl
  have hg : ∀ w ∈ kG, w.before _ s = true := fun w h => hts w (List.mem_cons_of_mem _ h)
  have hown : s.vm.findClass RX12 = some m.cls := hown
  have hl : lv_has ls 2 [(0, .ref o), (1, .int (-6))] := hl
  refine lv_aload_n hx hb dX12_refuses_0 rfl (lv_at hl 0 rfl) ?_
  refine lv_iload_n hx hb dX12_refuses_1 rfl (lv_at hl 1 rfl) ?_
  refine va_put (D := D) (ci := 12) (v := .int (-6)) (ty := .int) (C := RX12) (T := TX12) (N := 48) hx hb hg inC12 tyX12 tyX12_ok nmX12 hown hK hP hD hS 0 rfl rfl 0 (by decide) (hg _ wt5_160) (fun _ h9 => h9) rfl (by decide +kernel) rfl rfl (Nat.le_of_ble_eq_true rfl) dX12_refuses_2 (fun H locs hP hD hS => ?_)
  have hP : va_P D vwCl (mW K o r (upd f 0 (-6)) a g) H := hP
  have hD : va_D A (mW K o r (upd f 0 (-6)) a g) := hD
  generalize ef_1 : upd f 0 (-6) = f_1 at hP hD
  refine lv_aload_n hx hb dX12_refuses_5 rfl (lv_at hl 0 rfl) ?_
  refine va_get (D := D) (ci := 12) (v := .ref (r 1)) (C := RX12) (T := TX12) (N := 48) hx hb hg inC12 hown hK hP 0 rfl rfl 1 (by decide) (hg _ wt5_161) (fun _ h9 => h9) rfl dX12_refuses_6 ?_
  refine lv_iload_n hx hb dX12_refuses_9 rfl (lv_at hl 1 rfl) ?_
  refine lv_ineg hx hb dX12_refuses_10 ?_
  refine k_top (z := 6) (by decide +kernel) ?_
  refine lv_dup2_11 hx hb dX12_refuses_11 rfl rfl ?_
  refine va_iald hx hb hK hP 1 0 rfl rfl (k_in (by decide +kernel)) dX12_refuses_12 ?_
  refine lv_topi (fun t2 et2 => ?_)
  rw [cl_6] at et2
  refine lv_iconst (v := 1) hx hb dX12_refuses_13 (by decide) ?_
  refine lv_iadd hx hb dX12_refuses_14 ?_
  refine lv_topi (fun t3 et3 => ?_)
  refine va_iast hx hb hK hP hD hS 1 0 rfl rfl (k_in (by decide +kernel)) dX12_refuses_15 (fun H locs hP hD hS => ?_)
  rw [cl_6] at hP hD
  have hP : va_P D vwCl (mW K o r f_1 (va_up a 1 (upd (a 1) 6 t3)) g) H := hP
  have hD : va_D A (mW K o r f_1 (va_up a 1 (upd (a 1) 6 t3)) g) := hD
  generalize ea_4 : va_up a 1 (upd (a 1) 6 t3) = a_4 at hP hD
  refine lv_iload_n hx hb dX12_refuses_16 rfl (lv_at hl 1 rfl) ?_
  exact kI_ret (v := (-6)) hx hb hr hlocks rfl hK hS dX12_refuses_17 (f_1, a_4, g) hP hD rfl
set_option maxHeartbeats 4000000 in
set_option maxRecDepth 100000 in
theorem c_canPart (l : Launch) {D : va_G} {K : Nat → ClassId} (o : Nat) (r : Nat → Nat) (f : Nat → Int32) (a : Nat → Nat → Int32) (g : Nat → Int64) (h0 : a 2 102 = 0) (x : Int32) (y : Int32) (z : Int32) (w : Int32)  : kI l yX12_canPart (Cond.code yX12_canPart cX12_canPart 5 (some .boolean) :: kG) (rmD 2 0 0) D (tysK K) [.ref o, .int x, .int y, .int z, .int w] (mW K o r f a g) (fun v (_ : Unit) => v = (if mLies x 1 99 = 0 then 0 else if mLies y 0 0 = 0 then 0 else if mLies z 0 3 = 0 then 0 else if mLies w 0 9 = 0 then 0 else 1)) (fun _ => mW K o r f a g) 0 0 := by
  refine kI.of (cc := cX12_canPart) (maxL := 5) (ret := (some .boolean)) (by decide) rfl (Nat.le_of_ble_eq_true rfl) ?_
  intro p e s m below meth c A hx hb hr hml hown hts hlocks hnm hK hP hD hS hA ls hl
  have hg : ∀ w ∈ kG, w.before _ s = true := fun w h => hts w (List.mem_cons_of_mem _ h)
  have hown : s.vm.findClass RX12 = some m.cls := hown
  have hl : lv_has ls 5 [(0, .ref o), (1, .int x), (2, .int y), (3, .int z), (4, .int w)] := hl
  refine lv_iload_n hx hb dX12_canPart_0 rfl (lv_at hl 1 rfl) ?_
  refine lv_iconst (v := 1) hx hb dX12_canPart_1 (by decide) ?_
  refine lv_bipush (v := 99) hx hb dX12_canPart_2 (by decide) ?_
  refine kN.callS (As := [.int x, .int 1, .int 99]) (rest := []) ⟨hx, hb, hml, hown, hg⟩ (c_lies l x 1 99) (va_cwS 3 hg (kgS wt6_69 wt6_70 wt1_14 wt6_71) rfl rfl rfl (by decide +kernel) ⟨by decide, by decide⟩) hP hS rfl hl.1 rfl (Nat.le_of_ble_eq_true rfl) dX12_canPart_4 ⟨by decide, by decide⟩ (fun v2 H locs hw1 hP hS => ?_)
  refine k_top (z := mLies x 1 99) hw1 ?_
  refine lv_if_eq (tgt := 53) hx hb dX12_canPart_7 (by decide) (fun c3 => ?_) (fun c3 => ?_)
  · refine lv_iconst (v := 0) hx hb dX12_canPart_53 (by decide) ?_
    exact kI_ret (v := 0) hx hb hr hlocks (by decide +kernel) hK hS dX12_canPart_54 () hP hD (by simp [c3])
  · refine lv_iload_n hx hb dX12_canPart_10 rfl (lv_at hl 2 rfl) ?_
    refine lv_iconst (v := 0) hx hb dX12_canPart_11 (by decide) ?_
    refine lv_iconst (v := 1) hx hb dX12_canPart_12 (by decide) ?_
    refine lv_aload_n hx hb dX12_canPart_13 rfl (lv_at hl 0 rfl) ?_
    refine va_get (D := D) (ci := 12) (v := .ref (r 2)) (C := RX12) (T := TX12) (N := 48) hx hb hg inC12 hown hK hP 0 rfl rfl 2 (by decide) (hg _ wt5_162) (fun _ h9 => h9) rfl dX12_canPart_14 ?_
    refine lv_bipush (v := 102) hx hb dX12_canPart_17 (by decide) ?_
    refine va_iald hx hb hK hP 2 0 rfl rfl (k_in (by decide +kernel)) dX12_canPart_19 ?_
    refine k_top (z := 0) (by rw [cl_102]; exact h0) ?_
    refine lv_ishl hx hb dX12_canPart_20 ?_
    refine k_top (z := 1) (by decide +kernel) ?_
    refine lv_iconst (v := 1) hx hb dX12_canPart_21 (by decide) ?_
    refine lv_isub hx hb dX12_canPart_22 ?_
    refine k_top (z := 0) (by decide +kernel) ?_
    refine kN.callS (As := [.int y, .int 0, .int 0]) (rest := []) ⟨hx, hb, hml, hown, hg⟩ (c_lies l y 0 0) (va_cwS 3 hg (kgS wt6_69 wt6_70 wt1_14 wt6_71) rfl rfl rfl (by decide +kernel) ⟨by decide, by decide⟩) hP hS rfl hl.1 rfl (Nat.le_of_ble_eq_true rfl) dX12_canPart_23 ⟨by decide, by decide⟩ (fun v5 H locs hw4 hP hS => ?_)
    refine k_top (z := mLies y 0 0) hw4 ?_
    refine lv_if_eq (tgt := 53) hx hb dX12_canPart_26 (by decide) (fun c6 => ?_) (fun c6 => ?_)
    · refine lv_iconst (v := 0) hx hb dX12_canPart_53 (by decide) ?_
      exact kI_ret (v := 0) hx hb hr hlocks (by decide +kernel) hK hS dX12_canPart_54 () hP hD (by simp [c3, c6])
    · refine lv_iload_n hx hb dX12_canPart_29 rfl (lv_at hl 3 rfl) ?_
      refine lv_iconst (v := 0) hx hb dX12_canPart_30 (by decide) ?_
      refine lv_iconst (v := 3) hx hb dX12_canPart_31 (by decide) ?_
      refine kN.callS (As := [.int z, .int 0, .int 3]) (rest := []) ⟨hx, hb, hml, hown, hg⟩ (c_lies l z 0 3) (va_cwS 3 hg (kgS wt6_69 wt6_70 wt1_14 wt6_71) rfl rfl rfl (by decide +kernel) ⟨by decide, by decide⟩) hP hS rfl hl.1 rfl (Nat.le_of_ble_eq_true rfl) dX12_canPart_32 ⟨by decide, by decide⟩ (fun v8 H locs hw7 hP hS => ?_)
      refine k_top (z := mLies z 0 3) hw7 ?_
      refine lv_if_eq (tgt := 53) hx hb dX12_canPart_35 (by decide) (fun c9 => ?_) (fun c9 => ?_)
      · refine lv_iconst (v := 0) hx hb dX12_canPart_53 (by decide) ?_
        exact kI_ret (v := 0) hx hb hr hlocks (by decide +kernel) hK hS dX12_canPart_54 () hP hD (by simp [c3, c6, c9])
      · refine lv_iload hx hb dX12_canPart_38 (lv_at hl 4 rfl) ?_
        refine lv_iconst (v := 0) hx hb dX12_canPart_40 (by decide) ?_
        refine lv_bipush (v := 9) hx hb dX12_canPart_41 (by decide) ?_
        refine kN.callS (As := [.int w, .int 0, .int 9]) (rest := []) ⟨hx, hb, hml, hown, hg⟩ (c_lies l w 0 9) (va_cwS 3 hg (kgS wt6_69 wt6_70 wt1_14 wt6_71) rfl rfl rfl (by decide +kernel) ⟨by decide, by decide⟩) hP hS rfl hl.1 rfl (Nat.le_of_ble_eq_true rfl) dX12_canPart_43 ⟨by decide, by decide⟩ (fun v11 H locs hw10 hP hS => ?_)
        refine k_top (z := mLies w 0 9) hw10 ?_
        refine lv_if_eq (tgt := 53) hx hb dX12_canPart_46 (by decide) (fun c12 => ?_) (fun c12 => ?_)
        · refine lv_iconst (v := 0) hx hb dX12_canPart_53 (by decide) ?_
          exact kI_ret (v := 0) hx hb hr hlocks (by decide +kernel) hK hS dX12_canPart_54 () hP hD (by simp [c3, c6, c9, c12])
        · refine lv_iconst (v := 1) hx hb dX12_canPart_49 (by decide) ?_
          refine lv_goto (tgt := 54) hx hb dX12_canPart_50 (by decide) ?_
          exact kI_ret (v := 1) hx hb hr hlocks (by decide +kernel) hK hS dX12_canPart_54 () hP hD (by simp [c3, c6, c9, c12])
set_option maxHeartbeats 4000000 in
set_option maxRecDepth 100000 in
theorem c_addsPart (l : Launch) {D : va_G} {K : Nat → ClassId} (o : Nat) (r : Nat → Nat) (f : Nat → Int32) (a : Nat → Nat → Int32) (g : Nat → Int64) (h0 : a 2 102 = 0) (x : Int32) (y : Int32) (z : Int32) (w : Int32)  : kV l yX12_addsPart (Cond.code yX12_addsPart cX12_addsPart 6 none :: kG) (rmD 1 0 0) D (tysK K) [.ref o, .int x, .int y, .int z, .int w] (mW K o r f a g) (fun (u : mS) => u.2.1 2 102 = 1) (fun u => mW K o r u.1 u.2.1 u.2.2) 0 0 := by
  refine kV.of (cc := cX12_addsPart) (maxL := 6) (ret := none) (by decide) rfl (Nat.le_of_ble_eq_true rfl) ?_
  intro p e s m below meth c A hx hb hr hml hown hts hlocks hnm hK hP hD hS hA ls hl
  have hg : ∀ w ∈ kG, w.before _ s = true := fun w h => hts w (List.mem_cons_of_mem _ h)
  have hown : s.vm.findClass RX12 = some m.cls := hown
  have hl : lv_has ls 6 [(0, .ref o), (1, .int x), (2, .int y), (3, .int z), (4, .int w)] := hl
  refine lv_aload_n hx hb dX12_addsPart_0 rfl (lv_at hl 0 rfl) ?_
  refine va_get (D := D) (ci := 12) (v := .ref (r 2)) (C := RX12) (T := TX12) (N := 48) hx hb hg inC12 hown hK hP 0 rfl rfl 2 (by decide) (hg _ wt5_162) (fun _ h9 => h9) rfl dX12_addsPart_1 ?_
  refine lv_bipush (v := 102) hx hb dX12_addsPart_4 (by decide) ?_
  refine va_iald hx hb hK hP 2 0 rfl rfl (k_in (by decide +kernel)) dX12_addsPart_6 ?_
  refine k_top (z := 0) (by rw [cl_102]; exact h0) ?_
  refine lv_istore (lv' := [(5, .int 0), (0, .ref o), (1, .int x), (2, .int y), (3, .int z), (4, .int w)]) hx hb dX12_addsPart_7 hl (by decide) rfl (fun ls hl => ?_)
  refine lv_aload_n hx hb dX12_addsPart_9 rfl (lv_at hl 1 rfl) ?_
  refine va_get (D := D) (ci := 12) (v := .ref (r 2)) (C := RX12) (T := TX12) (N := 48) hx hb hg inC12 hown hK hP 0 rfl rfl 2 (by decide) (hg _ wt5_162) (fun _ h9 => h9) rfl dX12_addsPart_10 ?_
  refine lv_bipush (v := 23) hx hb dX12_addsPart_13 (by decide) ?_
  refine lv_iload hx hb dX12_addsPart_15 (lv_at hl 0 rfl) ?_
  refine lv_iadd hx hb dX12_addsPart_17 ?_
  refine k_top (z := 23) (by decide +kernel) ?_
  refine lv_iload_n hx hb dX12_addsPart_18 rfl (lv_at hl 2 rfl) ?_
  refine va_iast hx hb hK hP hD hS 2 0 rfl rfl (k_in (by decide +kernel)) dX12_addsPart_19 (fun H locs hP hD hS => ?_)
  rw [cl_23] at hP hD
  have hP : va_P D vwCl (mW K o r f (va_up a 2 (upd (a 2) 23 x)) g) H := hP
  have hD : va_D A (mW K o r f (va_up a 2 (upd (a 2) 23 x)) g) := hD
  generalize ea_1 : va_up a 2 (upd (a 2) 23 x) = a_1 at hP hD
  refine lv_aload_n hx hb dX12_addsPart_20 rfl (lv_at hl 1 rfl) ?_
  refine va_get (D := D) (ci := 12) (v := .ref (r 2)) (C := RX12) (T := TX12) (N := 48) hx hb hg inC12 hown hK hP 0 rfl rfl 2 (by decide) (hg _ wt5_162) (fun _ h9 => h9) rfl dX12_addsPart_21 ?_
  refine lv_bipush (v := 33) hx hb dX12_addsPart_24 (by decide) ?_
  refine lv_iload hx hb dX12_addsPart_26 (lv_at hl 0 rfl) ?_
  refine lv_iadd hx hb dX12_addsPart_28 ?_
  refine k_top (z := 33) (by decide +kernel) ?_
  refine lv_iload_n hx hb dX12_addsPart_29 rfl (lv_at hl 3 rfl) ?_
  refine va_iast hx hb hK hP hD hS 2 0 rfl rfl (k_in (by decide +kernel)) dX12_addsPart_30 (fun H locs hP hD hS => ?_)
  rw [cl_33] at hP hD
  have hP : va_P D vwCl (mW K o r f (va_up a_1 2 (upd (a_1 2) 33 y)) g) H := hP
  have hD : va_D A (mW K o r f (va_up a_1 2 (upd (a_1 2) 33 y)) g) := hD
  generalize ea_2 : va_up a_1 2 (upd (a_1 2) 33 y) = a_2 at hP hD
  refine lv_aload_n hx hb dX12_addsPart_31 rfl (lv_at hl 1 rfl) ?_
  refine va_get (D := D) (ci := 12) (v := .ref (r 2)) (C := RX12) (T := TX12) (N := 48) hx hb hg inC12 hown hK hP 0 rfl rfl 2 (by decide) (hg _ wt5_162) (fun _ h9 => h9) rfl dX12_addsPart_32 ?_
  refine lv_bipush (v := 43) hx hb dX12_addsPart_35 (by decide) ?_
  refine lv_iload hx hb dX12_addsPart_37 (lv_at hl 0 rfl) ?_
  refine lv_iadd hx hb dX12_addsPart_39 ?_
  refine k_top (z := 43) (by decide +kernel) ?_
  refine lv_iload_n hx hb dX12_addsPart_40 rfl (lv_at hl 4 rfl) ?_
  refine va_iast hx hb hK hP hD hS 2 0 rfl rfl (k_in (by decide +kernel)) dX12_addsPart_41 (fun H locs hP hD hS => ?_)
  rw [cl_43] at hP hD
  have hP : va_P D vwCl (mW K o r f (va_up a_2 2 (upd (a_2 2) 43 z)) g) H := hP
  have hD : va_D A (mW K o r f (va_up a_2 2 (upd (a_2 2) 43 z)) g) := hD
  generalize ea_3 : va_up a_2 2 (upd (a_2 2) 43 z) = a_3 at hP hD
  refine lv_aload_n hx hb dX12_addsPart_42 rfl (lv_at hl 1 rfl) ?_
  refine va_get (D := D) (ci := 12) (v := .ref (r 2)) (C := RX12) (T := TX12) (N := 48) hx hb hg inC12 hown hK hP 0 rfl rfl 2 (by decide) (hg _ wt5_162) (fun _ h9 => h9) rfl dX12_addsPart_43 ?_
  refine lv_bipush (v := 53) hx hb dX12_addsPart_46 (by decide) ?_
  refine lv_iload hx hb dX12_addsPart_48 (lv_at hl 0 rfl) ?_
  refine lv_iadd hx hb dX12_addsPart_50 ?_
  refine k_top (z := 53) (by decide +kernel) ?_
  refine lv_iload hx hb dX12_addsPart_51 (lv_at hl 5 rfl) ?_
  refine va_iast hx hb hK hP hD hS 2 0 rfl rfl (k_in (by decide +kernel)) dX12_addsPart_53 (fun H locs hP hD hS => ?_)
  rw [cl_53] at hP hD
  have hP : va_P D vwCl (mW K o r f (va_up a_3 2 (upd (a_3 2) 53 w)) g) H := hP
  have hD : va_D A (mW K o r f (va_up a_3 2 (upd (a_3 2) 53 w)) g) := hD
  generalize ea_4 : va_up a_3 2 (upd (a_3 2) 53 w) = a_4 at hP hD
  refine lv_aload_n hx hb dX12_addsPart_54 rfl (lv_at hl 1 rfl) ?_
  refine va_get (D := D) (ci := 12) (v := .ref (r 2)) (C := RX12) (T := TX12) (N := 48) hx hb hg inC12 hown hK hP 0 rfl rfl 2 (by decide) (hg _ wt5_162) (fun _ h9 => h9) rfl dX12_addsPart_55 ?_
  refine lv_iconst (v := 0) hx hb dX12_addsPart_58 (by decide) ?_
  refine lv_iload hx hb dX12_addsPart_59 (lv_at hl 0 rfl) ?_
  refine lv_iadd hx hb dX12_addsPart_61 ?_
  refine k_top (z := 0) (by decide +kernel) ?_
  refine lv_iload_n hx hb dX12_addsPart_62 rfl (lv_at hl 2 rfl) ?_
  refine va_iast hx hb hK hP hD hS 2 0 rfl rfl (k_in (by decide +kernel)) dX12_addsPart_63 (fun H locs hP hD hS => ?_)
  rw [cl_0] at hP hD
  have hP : va_P D vwCl (mW K o r f (va_up a_4 2 (upd (a_4 2) 0 x)) g) H := hP
  have hD : va_D A (mW K o r f (va_up a_4 2 (upd (a_4 2) 0 x)) g) := hD
  generalize ea_5 : va_up a_4 2 (upd (a_4 2) 0 x) = a_5 at hP hD
  refine lv_aload_n hx hb dX12_addsPart_64 rfl (lv_at hl 1 rfl) ?_
  refine va_get (D := D) (ci := 12) (v := .ref (r 2)) (C := RX12) (T := TX12) (N := 48) hx hb hg inC12 hown hK hP 0 rfl rfl 2 (by decide) (hg _ wt5_162) (fun _ h9 => h9) rfl dX12_addsPart_65 ?_
  refine lv_bipush (v := 102) hx hb dX12_addsPart_68 (by decide) ?_
  refine lv_dup2_11 hx hb dX12_addsPart_70 rfl rfl ?_
  refine va_iald hx hb hK hP 2 0 rfl rfl (k_in (by decide +kernel)) dX12_addsPart_71 ?_
  refine k_top (z := 0) (by rw [cl_102]; exact ((show a_5 2 102 = a_4 2 102 from by rw [← ea_5]; rfl).trans ((show a_4 2 102 = a_3 2 102 from by rw [← ea_4]; rfl).trans ((show a_3 2 102 = a_2 2 102 from by rw [← ea_3]; rfl).trans ((show a_2 2 102 = a_1 2 102 from by rw [← ea_2]; rfl).trans ((show a_1 2 102 = a 2 102 from by rw [← ea_1]; rfl).trans h0)))))) ?_
  refine lv_iconst (v := 1) hx hb dX12_addsPart_72 (by decide) ?_
  refine lv_iadd hx hb dX12_addsPart_73 ?_
  refine k_top (z := 1) (by decide +kernel) ?_
  refine va_iast hx hb hK hP hD hS 2 0 rfl rfl (k_in (by decide +kernel)) dX12_addsPart_74 (fun H locs hP hD hS => ?_)
  rw [cl_102] at hP hD
  have hP : va_P D vwCl (mW K o r f (va_up a_5 2 (upd (a_5 2) 102 1)) g) H := hP
  have hD : va_D A (mW K o r f (va_up a_5 2 (upd (a_5 2) 102 1)) g) := hD
  generalize ea_6 : va_up a_5 2 (upd (a_5 2) 102 1) = a_6 at hP hD
  exact kV_ret hx hb hr hlocks hK hS dX12_addsPart_75 (f, a_6, g) hP hD (show a_6 2 102 = 1 from by rw [← ea_6]; rfl)
set_option maxHeartbeats 4000000 in
set_option maxRecDepth 100000 in
theorem c_part (l : Launch) {D : va_G} {K : Nat → ClassId} (o : Nat) (r : Nat → Nat) (f : Nat → Int32) (a : Nat → Nat → Int32) (g : Nat → Int64) (h0 : a 2 102 = 0) (x : Int32) (y : Int32) (z : Int32) (w : Int32)  : kI l yX12_part (Cond.code yX12_part cX12_part 5 (some .int) :: kG) (rmD 3 0 0) D (tysK K) [.ref o, .int x, .int y, .int z, .int w] (mW K o r f a g) (fun v (u : mS) => v = (if (if mLies x 1 99 = 0 then (0 : Int32) else if mLies y 0 0 = 0 then 0 else if mLies z 0 3 = 0 then 0 else if mLies w 0 9 = 0 then 0 else 1) = 0 then (-1 : Int32) else 0)) (fun u => mW K o r u.1 u.2.1 u.2.2) 0 0 := by
  refine kI.of (cc := cX12_part) (maxL := 5) (ret := (some .int)) (by decide) rfl (Nat.le_of_ble_eq_true rfl) ?_
  intro p e s m below meth c A hx hb hr hml hown hts hlocks hnm hK hP hD hS hA ls hl
  have hg : ∀ w ∈ kG, w.before _ s = true := fun w h => hts w (List.mem_cons_of_mem _ h)
  have hown : s.vm.findClass RX12 = some m.cls := hown
  have hl : lv_has ls 5 [(0, .ref o), (1, .int x), (2, .int y), (3, .int z), (4, .int w)] := hl
  refine lv_aload_n hx hb dX12_part_0 rfl (lv_at hl 0 rfl) ?_
  refine lv_iload_n hx hb dX12_part_1 rfl (lv_at hl 1 rfl) ?_
  refine lv_iload_n hx hb dX12_part_2 rfl (lv_at hl 2 rfl) ?_
  refine lv_iload_n hx hb dX12_part_3 rfl (lv_at hl 3 rfl) ?_
  refine lv_iload hx hb dX12_part_4 (lv_at hl 4 rfl) ?_
  refine kI.callV (As := [.int x, .int y, .int z, .int w]) (rest := []) ⟨hx, hb, hml, hown, hg⟩ (c_canPart l o r f a g h0 x y z w) (cwV 4 hg (kgV wt6_92 wt6_94 wp3_8 wt1_14 wt6_95) rfl rfl rfl (by decide +kernel) ⟨by decide, by decide⟩) hK hP hD hS hA mIs [] rfl (wr := []) rfl rfl rfl (fun i h => by cases h) 0 12 rfl rfl rfl hl.1 rfl (Nat.le_of_ble_eq_true rfl) dX12_part_6 ⟨by decide, by decide⟩ (fun v3 u2 H locs hw1 hP hD hS => ?_)
  have hP : va_P D vwCl (mW K o r f a g) H := hP
  have hD : va_D A (mW K o r f a g) := hD
  refine k_top (z := (if mLies x 1 99 = 0 then 0 else if mLies y 0 0 = 0 then 0 else if mLies z 0 3 = 0 then 0 else if mLies w 0 9 = 0 then 0 else 1)) hw1 ?_
  refine lv_if_ne (tgt := 18) hx hb dX12_part_9 (by decide) (fun c4 => ?_) (fun c4 => ?_)
  · refine lv_aload_n hx hb dX12_part_18 rfl (lv_at hl 0 rfl) ?_
    refine va_get (D := D) (ci := 12) (v := .ref (r 2)) (C := RX12) (T := TX12) (N := 48) hx hb hg inC12 hown hK hP 0 rfl rfl 2 (by decide) (hg _ wt5_162) (fun _ h9 => h9) rfl dX12_part_19 ?_
    refine lv_bipush (v := 102) hx hb dX12_part_22 (by decide) ?_
    refine va_iald hx hb hK hP 2 0 rfl rfl (k_in (by decide +kernel)) dX12_part_24 ?_
    refine k_top (z := 0) (by rw [cl_102]; exact h0) ?_
    refine lv_bipush (v := 10) hx hb dX12_part_25 (by decide) ?_
    refine lv_icmp_ne (tgt := 37) hx hb dX12_part_27 (by decide) (fun c5 => ?_) (fun c5 => absurd c5 (by decide +kernel))
    refine lv_aload_n hx hb dX12_part_37 rfl (lv_at hl 0 rfl) ?_
    refine lv_iload_n hx hb dX12_part_38 rfl (lv_at hl 1 rfl) ?_
    refine lv_iload_n hx hb dX12_part_39 rfl (lv_at hl 2 rfl) ?_
    refine lv_iload_n hx hb dX12_part_40 rfl (lv_at hl 3 rfl) ?_
    refine lv_iload hx hb dX12_part_41 (lv_at hl 4 rfl) ?_
    refine kV.callV (As := [.int x, .int y, .int z, .int w]) (rest := []) ⟨hx, hb, hml, hown, hg⟩ (c_addsPart l o r f a g h0 x y z w) (cwV 4 hg (kgV wt6_96 wt6_98 wp3_9 wt1_14 wt6_99) rfl rfl rfl (by decide +kernel) ⟨by decide, by decide⟩) hK hP hD hS hA mIs [] rfl (wr := []) rfl rfl rfl (fun i h => by cases h) 0 12 rfl rfl rfl hl.1 rfl (Nat.le_of_ble_eq_true rfl) dX12_part_43 ⟨by decide, by decide⟩ (fun u7 H locs hw6 hP hD hS => ?_)
    obtain ⟨f9, a10, g11⟩ := u7
    have hP : va_P D vwCl (mW K o r f9 a10 g11) H := hP
    have hD : va_D A (mW K o r f9 a10 g11) := hD
    refine lv_aload_n hx hb dX12_part_46 rfl (lv_at hl 0 rfl) ?_
    refine lv_aload_n hx hb dX12_part_47 rfl (lv_at hl 0 rfl) ?_
    refine va_get (D := D) (ci := 12) (v := .ref (r 2)) (C := RX12) (T := TX12) (N := 48) hx hb hg inC12 hown hK hP 0 rfl rfl 2 (by decide) (hg _ wt5_162) (fun _ h9 => h9) rfl dX12_part_48 ?_
    refine lv_bipush (v := 102) hx hb dX12_part_51 (by decide) ?_
    refine va_iald hx hb hK hP 2 0 rfl rfl (k_in (by decide +kernel)) dX12_part_53 ?_
    refine k_top (z := 1) (by rw [cl_102]; exact hw6) ?_
    refine lv_iconst (v := 1) hx hb dX12_part_54 (by decide) ?_
    refine lv_isub hx hb dX12_part_55 ?_
    refine k_top (z := 0) (by decide +kernel) ?_
    refine kI.callV (As := [.int 0]) (rest := []) ⟨hx, hb, hml, hown, hg⟩ (c_settled l o r f9 a10 g11  0) (cwV 1 hg (kgV wt6_84 wt6_86 wp3_7 wt1_14 wt6_87) rfl rfl rfl (by decide +kernel) ⟨by decide, by decide⟩) hK hP hD hS hA mIs [] rfl (wr := []) rfl rfl rfl (fun i h => by cases h) 0 12 rfl rfl rfl hl.1 rfl (Nat.le_of_ble_eq_true rfl) dX12_part_56 ⟨by decide, by decide⟩ (fun v14 u13 H locs hw12 hP hD hS => ?_)
    obtain ⟨f15, a16, g17⟩ := u13
    have hP : va_P D vwCl (mW K o r f15 a16 g17) H := hP
    have hD : va_D A (mW K o r f15 a16 g17) := hD
    refine k_top (z := 0) (hw12) ?_
    exact kI_ret (v := 0) hx hb hr hlocks rfl hK hS dX12_part_59 (f15, a16, g17) hP hD (by simp [c4])
  · refine lv_aload_n hx hb dX12_part_12 rfl (lv_at hl 0 rfl) ?_
    refine lv_iconst (v := (-1)) hx hb dX12_part_13 (by decide) ?_
    refine kI.callV (As := [.int (-1)]) (rest := []) ⟨hx, hb, hml, hown, hg⟩ (c_refuses1 l o r f a g  ) (cwV 1 hg (kgV wt6_72 wt6_74 wp3_5 wt1_14 wt6_75) rfl rfl rfl (by decide +kernel) ⟨by decide, by decide⟩) hK hP hD hS hA mIs [] rfl (wr := []) rfl rfl rfl (fun i h => by cases h) 0 12 rfl rfl rfl hl.1 rfl (Nat.le_of_ble_eq_true rfl) dX12_part_14 ⟨by decide, by decide⟩ (fun v20 u19 H locs hw18 hP hD hS => ?_)
    obtain ⟨f21, a22, g23⟩ := u19
    have hP : va_P D vwCl (mW K o r f21 a22 g23) H := hP
    have hD : va_D A (mW K o r f21 a22 g23) := hD
    refine k_top (z := (-1)) (hw18) ?_
    exact kI_ret (v := (-1)) hx hb hr hlocks rfl hK hS dX12_part_17 (f21, a22, g23) hP hD (by simp [c4])
set_option maxHeartbeats 4000000 in
set_option maxRecDepth 100000 in
theorem c_of (l : Launch) {D : va_G} {K : Nat → ClassId} (o : Nat) (r : Nat → Nat) (f : Nat → Int32) (a : Nat → Nat → Int32) (g : Nat → Int64) (h0 : a 2 102 = 0) (x : Int32) (y : Int32)  : kI l yX12_of (Cond.code yX12_of cX12_of 3 (some .int) :: kG) (rmD 3 0 0) D (tysK K) [.ref o, .int x, .int y] (mW K o r f a g) (fun v (_ : Unit) => v = (-1)) (fun _ => mW K o r f a g) 0 0 := by
  refine kI.of (cc := cX12_of) (maxL := 3) (ret := (some .int)) (by decide) rfl (Nat.le_of_ble_eq_true rfl) ?_
  intro p e s m below meth c A hx hb hr hml hown hts hlocks hnm hK hP hD hS hA ls hl
  have hg : ∀ w ∈ kG, w.before _ s = true := fun w h => hts w (List.mem_cons_of_mem _ h)
  have hown : s.vm.findClass RX12 = some m.cls := hown
  have hl : lv_has ls 3 [(0, .ref o), (1, .int x), (2, .int y)] := hl
  refine lv_aload_n hx hb dX12_of_0 rfl (lv_at hl 0 rfl) ?_
  refine lv_iload_n hx hb dX12_of_1 rfl (lv_at hl 1 rfl) ?_
  refine kI.callV (As := [.int x]) (rest := []) ⟨hx, hb, hml, hown, hg⟩ (c_isPart l o r f a g h0 x) (cwV 1 hg (kgV wt6_104 wt6_106 wp3_10 wt1_14 wt6_107) rfl rfl rfl (by decide +kernel) ⟨by decide, by decide⟩) hK hP hD hS hA mIs [] rfl (wr := []) rfl rfl rfl (fun i h => by cases h) 0 12 rfl rfl rfl hl.1 rfl (Nat.le_of_ble_eq_true rfl) dX12_of_2 ⟨by decide, by decide⟩ (fun v3 u2 H locs hw1 hP hD hS => ?_)
  have hP : va_P D vwCl (mW K o r f a g) H := hP
  have hD : va_D A (mW K o r f a g) := hD
  refine k_top (z := 0) (hw1) ?_
  refine lv_if_ne (tgt := 10) hx hb dX12_of_5 (by decide) (fun c4 => absurd (by decide +kernel) c4) (fun c4 => ?_)
  refine lv_iconst (v := (-1)) hx hb dX12_of_8 (by decide) ?_
  exact kI_ret (v := (-1)) hx hb hr hlocks rfl hK hS dX12_of_9 () hP hD rfl
set_option maxHeartbeats 4000000 in
set_option maxRecDepth 100000 in
theorem c_builder (l : Launch) {D : va_G} {K : Nat → ClassId} (o : Nat) (r : Nat → Nat) (f : Nat → Int32) (a : Nat → Nat → Int32) (g : Nat → Int64) (h0 : a 2 103 = 0) (x : Int32) (y : Int32)  : kI l yX12_builder (Cond.code yX12_builder cX12_builder 4 (some .int) :: kG) (rmD 3 0 0) D (tysK K) [.ref o, .int x, .int y] (mW K o r f a g) (fun v (u : mS) => v = (if mLies x 1 15 = 0 then (-1 : Int32) else if mLies y 1 9 = 0 then -1 else 0)) (fun u => mW K o r u.1 u.2.1 u.2.2) 0 0 := by
  refine kI.of (cc := cX12_builder) (maxL := 4) (ret := (some .int)) (by decide) rfl (Nat.le_of_ble_eq_true rfl) ?_
  intro p e s m below meth c A hx hb hr hml hown hts hlocks hnm hK hP hD hS hA ls hl
  have hg : ∀ w ∈ kG, w.before _ s = true := fun w h => hts w (List.mem_cons_of_mem _ h)
  have hown : s.vm.findClass RX12 = some m.cls := hown
  have hl : lv_has ls 4 [(0, .ref o), (1, .int x), (2, .int y)] := hl
  refine lv_iload_n hx hb dX12_builder_0 rfl (lv_at hl 1 rfl) ?_
  refine lv_iconst (v := 1) hx hb dX12_builder_1 (by decide) ?_
  refine lv_bipush (v := 15) hx hb dX12_builder_2 (by decide) ?_
  refine kN.callS (As := [.int x, .int 1, .int 15]) (rest := []) ⟨hx, hb, hml, hown, hg⟩ (c_lies l x 1 15) (va_cwS 3 hg (kgS wt6_69 wt6_70 wt1_14 wt6_71) rfl rfl rfl (by decide +kernel) ⟨by decide, by decide⟩) hP hS rfl hl.1 rfl (Nat.le_of_ble_eq_true rfl) dX12_builder_4 ⟨by decide, by decide⟩ (fun v2 H locs hw1 hP hS => ?_)
  refine k_top (z := mLies x 1 15) hw1 ?_
  refine lv_if_eq (tgt := 20) hx hb dX12_builder_7 (by decide) (fun c3 => ?_) (fun c3 => ?_)
  · refine lv_aload_n hx hb dX12_builder_20 rfl (lv_at hl 0 rfl) ?_
    refine lv_iconst (v := (-1)) hx hb dX12_builder_21 (by decide) ?_
    refine kI.callV (As := [.int (-1)]) (rest := []) ⟨hx, hb, hml, hown, hg⟩ (c_refuses1 l o r f a g  ) (cwV 1 hg (kgV wt6_72 wt6_74 wp3_5 wt1_14 wt6_75) rfl rfl rfl (by decide +kernel) ⟨by decide, by decide⟩) hK hP hD hS hA mIs [] rfl (wr := []) rfl rfl rfl (fun i h => by cases h) 0 12 rfl rfl rfl hl.1 rfl (Nat.le_of_ble_eq_true rfl) dX12_builder_22 ⟨by decide, by decide⟩ (fun v6 u5 H locs hw4 hP hD hS => ?_)
    obtain ⟨f7, a8, g9⟩ := u5
    have hP : va_P D vwCl (mW K o r f7 a8 g9) H := hP
    have hD : va_D A (mW K o r f7 a8 g9) := hD
    refine k_top (z := (-1)) (hw4) ?_
    exact kI_ret (v := (-1)) hx hb hr hlocks rfl hK hS dX12_builder_25 (f7, a8, g9) hP hD (by simp [c3])
  · refine lv_iload_n hx hb dX12_builder_10 rfl (lv_at hl 2 rfl) ?_
    refine lv_iconst (v := 1) hx hb dX12_builder_11 (by decide) ?_
    refine lv_bipush (v := 9) hx hb dX12_builder_12 (by decide) ?_
    refine kN.callS (As := [.int y, .int 1, .int 9]) (rest := []) ⟨hx, hb, hml, hown, hg⟩ (c_lies l y 1 9) (va_cwS 3 hg (kgS wt6_69 wt6_70 wt1_14 wt6_71) rfl rfl rfl (by decide +kernel) ⟨by decide, by decide⟩) hP hS rfl hl.1 rfl (Nat.le_of_ble_eq_true rfl) dX12_builder_14 ⟨by decide, by decide⟩ (fun v11 H locs hw10 hP hS => ?_)
    refine k_top (z := mLies y 1 9) hw10 ?_
    refine lv_if_ne (tgt := 26) hx hb dX12_builder_17 (by decide) (fun c12 => ?_) (fun c12 => ?_)
    · refine lv_aload_n hx hb dX12_builder_26 rfl (lv_at hl 0 rfl) ?_
      refine va_get (D := D) (ci := 12) (v := .ref (r 2)) (C := RX12) (T := TX12) (N := 48) hx hb hg inC12 hown hK hP 0 rfl rfl 2 (by decide) (hg _ wt5_162) (fun _ h9 => h9) rfl dX12_builder_27 ?_
      refine lv_bipush (v := 103) hx hb dX12_builder_30 (by decide) ?_
      refine va_iald hx hb hK hP 2 0 rfl rfl (k_in (by decide +kernel)) dX12_builder_32 ?_
      refine k_top (z := 0) (by rw [cl_103]; exact h0) ?_
      refine lv_istore_n (lv' := [(3, .int 0), (0, .ref o), (1, .int x), (2, .int y)]) hx hb dX12_builder_33 rfl hl (by decide) rfl (fun ls hl => ?_)
      refine lv_iload_n hx hb dX12_builder_34 rfl (lv_at hl 0 rfl) ?_
      refine lv_bipush (v := 6) hx hb dX12_builder_35 (by decide) ?_
      refine lv_icmp_ne (tgt := 47) hx hb dX12_builder_37 (by decide) (fun c13 => ?_) (fun c13 => absurd c13 (by decide +kernel))
      refine lv_aload_n hx hb dX12_builder_47 rfl (lv_at hl 1 rfl) ?_
      refine va_get (D := D) (ci := 12) (v := .ref (r 2)) (C := RX12) (T := TX12) (N := 48) hx hb hg inC12 hown hK hP 0 rfl rfl 2 (by decide) (hg _ wt5_162) (fun _ h9 => h9) rfl dX12_builder_48 ?_
      refine lv_bipush (v := 63) hx hb dX12_builder_51 (by decide) ?_
      refine lv_iload_n hx hb dX12_builder_53 rfl (lv_at hl 0 rfl) ?_
      refine lv_iadd hx hb dX12_builder_54 ?_
      refine k_top (z := 63) (by decide +kernel) ?_
      refine lv_iload_n hx hb dX12_builder_55 rfl (lv_at hl 2 rfl) ?_
      refine va_iast hx hb hK hP hD hS 2 0 rfl rfl (k_in (by decide +kernel)) dX12_builder_56 (fun H locs hP hD hS => ?_)
      rw [cl_63] at hP hD
      have hP : va_P D vwCl (mW K o r f (va_up a 2 (upd (a 2) 63 x)) g) H := hP
      have hD : va_D A (mW K o r f (va_up a 2 (upd (a 2) 63 x)) g) := hD
      generalize ea_14 : va_up a 2 (upd (a 2) 63 x) = a_14 at hP hD
      refine lv_aload_n hx hb dX12_builder_57 rfl (lv_at hl 1 rfl) ?_
      refine va_get (D := D) (ci := 12) (v := .ref (r 2)) (C := RX12) (T := TX12) (N := 48) hx hb hg inC12 hown hK hP 0 rfl rfl 2 (by decide) (hg _ wt5_162) (fun _ h9 => h9) rfl dX12_builder_58 ?_
      refine lv_bipush (v := 69) hx hb dX12_builder_61 (by decide) ?_
      refine lv_iload_n hx hb dX12_builder_63 rfl (lv_at hl 0 rfl) ?_
      refine lv_iadd hx hb dX12_builder_64 ?_
      refine k_top (z := 69) (by decide +kernel) ?_
      refine lv_iload_n hx hb dX12_builder_65 rfl (lv_at hl 3 rfl) ?_
      refine va_iast hx hb hK hP hD hS 2 0 rfl rfl (k_in (by decide +kernel)) dX12_builder_66 (fun H locs hP hD hS => ?_)
      rw [cl_69] at hP hD
      have hP : va_P D vwCl (mW K o r f (va_up a_14 2 (upd (a_14 2) 69 y)) g) H := hP
      have hD : va_D A (mW K o r f (va_up a_14 2 (upd (a_14 2) 69 y)) g) := hD
      generalize ea_15 : va_up a_14 2 (upd (a_14 2) 69 y) = a_15 at hP hD
      refine lv_aload_n hx hb dX12_builder_67 rfl (lv_at hl 1 rfl) ?_
      refine va_get (D := D) (ci := 12) (v := .ref (r 2)) (C := RX12) (T := TX12) (N := 48) hx hb hg inC12 hown hK hP 0 rfl rfl 2 (by decide) (hg _ wt5_162) (fun _ h9 => h9) rfl dX12_builder_68 ?_
      refine lv_bipush (v := 10) hx hb dX12_builder_71 (by decide) ?_
      refine lv_iload_n hx hb dX12_builder_73 rfl (lv_at hl 0 rfl) ?_
      refine lv_iadd hx hb dX12_builder_74 ?_
      refine k_top (z := 10) (by decide +kernel) ?_
      refine lv_iconst (v := 0) hx hb dX12_builder_75 (by decide) ?_
      refine va_iast hx hb hK hP hD hS 2 0 rfl rfl (k_in (by decide +kernel)) dX12_builder_76 (fun H locs hP hD hS => ?_)
      rw [cl_10] at hP hD
      have hP : va_P D vwCl (mW K o r f (va_up a_15 2 (upd (a_15 2) 10 0)) g) H := hP
      have hD : va_D A (mW K o r f (va_up a_15 2 (upd (a_15 2) 10 0)) g) := hD
      generalize ea_16 : va_up a_15 2 (upd (a_15 2) 10 0) = a_16 at hP hD
      refine lv_aload_n hx hb dX12_builder_77 rfl (lv_at hl 1 rfl) ?_
      refine va_get (D := D) (ci := 12) (v := .ref (r 2)) (C := RX12) (T := TX12) (N := 48) hx hb hg inC12 hown hK hP 0 rfl rfl 2 (by decide) (hg _ wt5_162) (fun _ h9 => h9) rfl dX12_builder_78 ?_
      refine lv_bipush (v := 16) hx hb dX12_builder_81 (by decide) ?_
      refine lv_iload_n hx hb dX12_builder_83 rfl (lv_at hl 0 rfl) ?_
      refine lv_iadd hx hb dX12_builder_84 ?_
      refine k_top (z := 16) (by decide +kernel) ?_
      refine lv_iconst (v := (-1)) hx hb dX12_builder_85 (by decide) ?_
      refine va_iast hx hb hK hP hD hS 2 0 rfl rfl (k_in (by decide +kernel)) dX12_builder_86 (fun H locs hP hD hS => ?_)
      rw [cl_16] at hP hD
      have hP : va_P D vwCl (mW K o r f (va_up a_16 2 (upd (a_16 2) 16 (-1))) g) H := hP
      have hD : va_D A (mW K o r f (va_up a_16 2 (upd (a_16 2) 16 (-1))) g) := hD
      generalize ea_17 : va_up a_16 2 (upd (a_16 2) 16 (-1)) = a_17 at hP hD
      refine lv_aload_n hx hb dX12_builder_87 rfl (lv_at hl 1 rfl) ?_
      refine va_get (D := D) (ci := 12) (v := .ref (r 2)) (C := RX12) (T := TX12) (N := 48) hx hb hg inC12 hown hK hP 0 rfl rfl 2 (by decide) (hg _ wt5_162) (fun _ h9 => h9) rfl dX12_builder_88 ?_
      refine lv_bipush (v := 103) hx hb dX12_builder_91 (by decide) ?_
      refine lv_dup2_11 hx hb dX12_builder_93 rfl rfl ?_
      refine va_iald hx hb hK hP 2 0 rfl rfl (k_in (by decide +kernel)) dX12_builder_94 ?_
      refine k_top (z := 0) (by rw [cl_103]; exact ((show a_17 2 103 = a_16 2 103 from by rw [← ea_17]; rfl).trans ((show a_16 2 103 = a_15 2 103 from by rw [← ea_16]; rfl).trans ((show a_15 2 103 = a_14 2 103 from by rw [← ea_15]; rfl).trans ((show a_14 2 103 = a 2 103 from by rw [← ea_14]; rfl).trans h0))))) ?_
      refine lv_iconst (v := 1) hx hb dX12_builder_95 (by decide) ?_
      refine lv_iadd hx hb dX12_builder_96 ?_
      refine k_top (z := 1) (by decide +kernel) ?_
      refine va_iast hx hb hK hP hD hS 2 0 rfl rfl (k_in (by decide +kernel)) dX12_builder_97 (fun H locs hP hD hS => ?_)
      rw [cl_103] at hP hD
      have hP : va_P D vwCl (mW K o r f (va_up a_17 2 (upd (a_17 2) 103 1)) g) H := hP
      have hD : va_D A (mW K o r f (va_up a_17 2 (upd (a_17 2) 103 1)) g) := hD
      generalize ea_18 : va_up a_17 2 (upd (a_17 2) 103 1) = a_18 at hP hD
      refine lv_aload_n hx hb dX12_builder_98 rfl (lv_at hl 1 rfl) ?_
      refine lv_iload_n hx hb dX12_builder_99 rfl (lv_at hl 0 rfl) ?_
      refine kI.callV (As := [.int 0]) (rest := []) ⟨hx, hb, hml, hown, hg⟩ (c_settled l o r f a_18 g  0) (cwV 1 hg (kgV wt6_84 wt6_86 wp3_7 wt1_14 wt6_87) rfl rfl rfl (by decide +kernel) ⟨by decide, by decide⟩) hK hP hD hS hA mIs [] rfl (wr := []) rfl rfl rfl (fun i h => by cases h) 0 12 rfl rfl rfl hl.1 rfl (Nat.le_of_ble_eq_true rfl) dX12_builder_100 ⟨by decide, by decide⟩ (fun v21 u20 H locs hw19 hP hD hS => ?_)
      obtain ⟨f22, a23, g24⟩ := u20
      have hP : va_P D vwCl (mW K o r f22 a23 g24) H := hP
      have hD : va_D A (mW K o r f22 a23 g24) := hD
      refine k_top (z := 0) (hw19) ?_
      exact kI_ret (v := 0) hx hb hr hlocks rfl hK hS dX12_builder_103 (f22, a23, g24) hP hD (by simp [c3, c12])
    · refine lv_aload_n hx hb dX12_builder_20 rfl (lv_at hl 0 rfl) ?_
      refine lv_iconst (v := (-1)) hx hb dX12_builder_21 (by decide) ?_
      refine kI.callV (As := [.int (-1)]) (rest := []) ⟨hx, hb, hml, hown, hg⟩ (c_refuses1 l o r f a g  ) (cwV 1 hg (kgV wt6_72 wt6_74 wp3_5 wt1_14 wt6_75) rfl rfl rfl (by decide +kernel) ⟨by decide, by decide⟩) hK hP hD hS hA mIs [] rfl (wr := []) rfl rfl rfl (fun i h => by cases h) 0 12 rfl rfl rfl hl.1 rfl (Nat.le_of_ble_eq_true rfl) dX12_builder_22 ⟨by decide, by decide⟩ (fun v27 u26 H locs hw25 hP hD hS => ?_)
      obtain ⟨f28, a29, g30⟩ := u26
      have hP : va_P D vwCl (mW K o r f28 a29 g30) H := hP
      have hD : va_D A (mW K o r f28 a29 g30) := hD
      refine k_top (z := (-1)) (hw25) ?_
      exact kI_ret (v := (-1)) hx hb hr hlocks rfl hK hS dX12_builder_25 (f28, a29, g30) hP hD (by simp [c3, c12])
set_option maxHeartbeats 4000000 in
set_option maxRecDepth 100000 in
theorem c_at (l : Launch) {D : va_G} {K : Nat → ClassId} (o : Nat) (r : Nat → Nat) (f : Nat → Int32) (a : Nat → Nat → Int32) (g : Nat → Int64) (h0 : a 2 103 = 0) (x : Int32) (y : Int32)  : kI l yX12_at (Cond.code yX12_at cX12_at 3 (some .int) :: kG) (rmD 3 0 0) D (tysK K) [.ref o, .int x, .int y] (mW K o r f a g) (fun v (_ : Unit) => v = (-1)) (fun _ => mW K o r f a g) 0 0 := by
  refine kI.of (cc := cX12_at) (maxL := 3) (ret := (some .int)) (by decide) rfl (Nat.le_of_ble_eq_true rfl) ?_
  intro p e s m below meth c A hx hb hr hml hown hts hlocks hnm hK hP hD hS hA ls hl
  have hg : ∀ w ∈ kG, w.before _ s = true := fun w h => hts w (List.mem_cons_of_mem _ h)
  have hown : s.vm.findClass RX12 = some m.cls := hown
  have hl : lv_has ls 3 [(0, .ref o), (1, .int x), (2, .int y)] := hl
  refine lv_aload_n hx hb dX12_at_0 rfl (lv_at hl 0 rfl) ?_
  refine lv_iload_n hx hb dX12_at_1 rfl (lv_at hl 1 rfl) ?_
  refine kI.callV (As := [.int x]) (rest := []) ⟨hx, hb, hml, hown, hg⟩ (c_isBuilder l o r f a g h0 x) (cwV 1 hg (kgV wt6_138 wt6_140 wp3_15 wt1_14 wt6_141) rfl rfl rfl (by decide +kernel) ⟨by decide, by decide⟩) hK hP hD hS hA mIs [] rfl (wr := []) rfl rfl rfl (fun i h => by cases h) 0 12 rfl rfl rfl hl.1 rfl (Nat.le_of_ble_eq_true rfl) dX12_at_2 ⟨by decide, by decide⟩ (fun v3 u2 H locs hw1 hP hD hS => ?_)
  have hP : va_P D vwCl (mW K o r f a g) H := hP
  have hD : va_D A (mW K o r f a g) := hD
  refine k_top (z := 0) (hw1) ?_
  refine lv_if_ne (tgt := 10) hx hb dX12_at_5 (by decide) (fun c4 => absurd (by decide +kernel) c4) (fun c4 => ?_)
  refine lv_iconst (v := (-1)) hx hb dX12_at_8 (by decide) ?_
  exact kI_ret (v := (-1)) hx hb hr hlocks rfl hK hS dX12_at_9 () hP hD rfl
set_option maxHeartbeats 4000000 in
set_option maxRecDepth 100000 in
theorem c_asks (l : Launch) {D : va_G} {K : Nat → ClassId} (o : Nat) (r : Nat → Nat) (f : Nat → Int32) (a : Nat → Nat → Int32) (g : Nat → Int64) (h0 : a 2 103 = 0) (x : Int32) (y : Int32) (z : Int32)  : kI l yX12_asks (Cond.code yX12_asks cX12_asks 4 (some .int) :: kG) (rmD 3 0 0) D (tysK K) [.ref o, .int x, .int y, .int z] (mW K o r f a g) (fun v (_ : Unit) => v = (-1)) (fun _ => mW K o r f a g) 0 0 := by
  refine kI.of (cc := cX12_asks) (maxL := 4) (ret := (some .int)) (by decide) rfl (Nat.le_of_ble_eq_true rfl) ?_
  intro p e s m below meth c A hx hb hr hml hown hts hlocks hnm hK hP hD hS hA ls hl
  have hg : ∀ w ∈ kG, w.before _ s = true := fun w h => hts w (List.mem_cons_of_mem _ h)
  have hown : s.vm.findClass RX12 = some m.cls := hown
  have hl : lv_has ls 4 [(0, .ref o), (1, .int x), (2, .int y), (3, .int z)] := hl
  refine lv_aload_n hx hb dX12_asks_0 rfl (lv_at hl 0 rfl) ?_
  refine lv_iload_n hx hb dX12_asks_1 rfl (lv_at hl 1 rfl) ?_
  refine kI.callV (As := [.int x]) (rest := []) ⟨hx, hb, hml, hown, hg⟩ (c_isBuilder l o r f a g h0 x) (cwV 1 hg (kgV wt6_138 wt6_140 wp3_15 wt1_14 wt6_141) rfl rfl rfl (by decide +kernel) ⟨by decide, by decide⟩) hK hP hD hS hA mIs [] rfl (wr := []) rfl rfl rfl (fun i h => by cases h) 0 12 rfl rfl rfl hl.1 rfl (Nat.le_of_ble_eq_true rfl) dX12_asks_2 ⟨by decide, by decide⟩ (fun v3 u2 H locs hw1 hP hD hS => ?_)
  have hP : va_P D vwCl (mW K o r f a g) H := hP
  have hD : va_D A (mW K o r f a g) := hD
  refine k_top (z := 0) (hw1) ?_
  refine lv_if_eq (tgt := 16) hx hb dX12_asks_5 (by decide) (fun c4 => ?_) (fun c4 => absurd (by decide +kernel) c4)
  refine lv_iconst (v := (-1)) hx hb dX12_asks_16 (by decide) ?_
  exact kI_ret (v := (-1)) hx hb hr hlocks rfl hK hS dX12_asks_17 () hP hD rfl
set_option maxHeartbeats 4000000 in
set_option maxRecDepth 100000 in
theorem c_isTerm (l : Launch) (x : Int32) (y : Int32)  : kN l yX12_isTerm (Cond.code yX12_isTerm cX12_isTerm 2 (some .boolean) :: kG) (rmD 2 0 0) [.int x, .int y] (fun v => v = mIsTerm x y) := by
  refine kN.of (cc := cX12_isTerm) (maxL := 2) (ret := (some .boolean)) (by decide) rfl (Nat.le_of_ble_eq_true rfl) ?_
  intro p e s m below meth c hx hb hr hml hown hts hlocks hS ls hl
  have hg : ∀ w ∈ kG, w.before _ s = true := fun w h => hts w (List.mem_cons_of_mem _ h)
  have hown : s.vm.findClass RX12 = some m.cls := hown
  have hl : lv_has ls 2 [(0, .int x), (1, .int y)] := hl
  refine lv_iload_n hx hb dX12_isTerm_0 rfl (lv_at hl 0 rfl) ?_
  by_cases q1 : x = 0
  · subst q1
    refine lv_tableIn (tgt := 32) hx hb dX12_isTerm_1 (by decide +kernel) (by decide +kernel) (by rfl) (by decide) ?_
    refine lv_iload_n hx hb dX12_isTerm_32 rfl (lv_at hl 1 rfl) ?_
    refine lv_iconst (v := 0) hx hb dX12_isTerm_33 (by decide) ?_
    refine lv_sipush (v := 999) hx hb dX12_isTerm_34 (by decide) ?_
    refine kN.callS (As := [.int y, .int 0, .int 999]) (rest := []) ⟨hx, hb, hml, hown, hg⟩ (c_lies l y 0 999) (va_cwS 3 hg (kgS wt6_69 wt6_70 wt1_14 wt6_71) rfl rfl rfl (by decide +kernel) ⟨by decide, by decide⟩) (D := (fun _ => 0, fun _ _ => 0)) (ws := []) (fun k q h => by cases k <;> cases h) hS rfl hl.1 rfl (Nat.le_of_ble_eq_true rfl) dX12_isTerm_37 ⟨by decide, by decide⟩ (fun v3 H locs hw2 hP hS => ?_)
    refine k_top (z := mLies y 0 999) hw2 ?_
    exact kN_ret (v := mLies y 0 999) hx hb hr hlocks (mLies_n _ _ _) hS dX12_isTerm_40 rfl
  by_cases q4 : x = 1
  · subst q4
    refine lv_tableIn (tgt := 41) hx hb dX12_isTerm_1 (by decide +kernel) (by decide +kernel) (by rfl) (by decide) ?_
    refine lv_iload_n hx hb dX12_isTerm_41 rfl (lv_at hl 1 rfl) ?_
    refine lv_iconst (v := 1) hx hb dX12_isTerm_42 (by decide) ?_
    refine lv_bipush (v := 99) hx hb dX12_isTerm_43 (by decide) ?_
    refine kN.callS (As := [.int y, .int 1, .int 99]) (rest := []) ⟨hx, hb, hml, hown, hg⟩ (c_lies l y 1 99) (va_cwS 3 hg (kgS wt6_69 wt6_70 wt1_14 wt6_71) rfl rfl rfl (by decide +kernel) ⟨by decide, by decide⟩) (D := (fun _ => 0, fun _ _ => 0)) (ws := []) (fun k q h => by cases k <;> cases h) hS rfl hl.1 rfl (Nat.le_of_ble_eq_true rfl) dX12_isTerm_45 ⟨by decide, by decide⟩ (fun v6 H locs hw5 hP hS => ?_)
    refine k_top (z := mLies y 1 99) hw5 ?_
    exact kN_ret (v := mLies y 1 99) hx hb hr hlocks (mLies_n _ _ _) hS dX12_isTerm_48 rfl
  by_cases q7 : x = 2
  · subst q7
    refine lv_tableIn (tgt := 49) hx hb dX12_isTerm_1 (by decide +kernel) (by decide +kernel) (by rfl) (by decide) ?_
    refine lv_iload_n hx hb dX12_isTerm_49 rfl (lv_at hl 1 rfl) ?_
    refine lv_iconst (v := 0) hx hb dX12_isTerm_50 (by decide) ?_
    refine lv_bipush (v := 10) hx hb dX12_isTerm_51 (by decide) ?_
    refine kN.callS (As := [.int y, .int 0, .int 10]) (rest := []) ⟨hx, hb, hml, hown, hg⟩ (c_lies l y 0 10) (va_cwS 3 hg (kgS wt6_69 wt6_70 wt1_14 wt6_71) rfl rfl rfl (by decide +kernel) ⟨by decide, by decide⟩) (D := (fun _ => 0, fun _ _ => 0)) (ws := []) (fun k q h => by cases k <;> cases h) hS rfl hl.1 rfl (Nat.le_of_ble_eq_true rfl) dX12_isTerm_53 ⟨by decide, by decide⟩ (fun v9 H locs hw8 hP hS => ?_)
    refine k_top (z := mLies y 0 10) hw8 ?_
    exact kN_ret (v := mLies y 0 10) hx hb hr hlocks (mLies_n _ _ _) hS dX12_isTerm_56 rfl
  by_cases q10 : x = 3
  · subst q10
    refine lv_tableIn (tgt := 57) hx hb dX12_isTerm_1 (by decide +kernel) (by decide +kernel) (by rfl) (by decide) ?_
    refine lv_iload_n hx hb dX12_isTerm_57 rfl (lv_at hl 1 rfl) ?_
    refine lv_iconst (v := 0) hx hb dX12_isTerm_58 (by decide) ?_
    refine lv_bipush (v := 9) hx hb dX12_isTerm_59 (by decide) ?_
    refine kN.callS (As := [.int y, .int 0, .int 9]) (rest := []) ⟨hx, hb, hml, hown, hg⟩ (c_lies l y 0 9) (va_cwS 3 hg (kgS wt6_69 wt6_70 wt1_14 wt6_71) rfl rfl rfl (by decide +kernel) ⟨by decide, by decide⟩) (D := (fun _ => 0, fun _ _ => 0)) (ws := []) (fun k q h => by cases k <;> cases h) hS rfl hl.1 rfl (Nat.le_of_ble_eq_true rfl) dX12_isTerm_61 ⟨by decide, by decide⟩ (fun v12 H locs hw11 hP hS => ?_)
    refine k_top (z := mLies y 0 9) hw11 ?_
    exact kN_ret (v := mLies y 0 9) hx hb hr hlocks (mLies_n _ _ _) hS dX12_isTerm_64 rfl
  refine lv_tableOut (tgt := 65) hx hb dX12_isTerm_1 (by have gq1 := lv_neT q1 (a := 0) (by decide +kernel); have gq4 := lv_neT q4 (a := 1) (by decide +kernel); have gq7 := lv_neT q7 (a := 2) (by decide +kernel); have gq10 := lv_neT q10 (a := 3) (by decide +kernel); omega) (by decide) ?_
  refine lv_iconst (v := 0) hx hb dX12_isTerm_65 (by decide) ?_
  exact kN_ret (v := 0) hx hb hr hlocks (by decide +kernel) hS dX12_isTerm_66 (by simp [mIsTerm, q1, q4, q7, q10])
set_option maxHeartbeats 4000000 in
set_option maxRecDepth 100000 in
theorem c_row (l : Launch) {D : va_G} {K : Nat → ClassId} (o : Nat) (r : Nat → Nat) (f : Nat → Int32) (a : Nat → Nat → Int32) (g : Nat → Int64) (h0 : f 13 = 0)   : kI l yX12_row (Cond.code yX12_row cX12_row 6 (some .int) :: kG) (rmD 2 0 0) D (tysK K) [.ref o] (mW K o r f a g) (fun v (u : mS) => v = (-6)) (fun u => mW K o r u.1 u.2.1 u.2.2) 0 0 := by
  refine kI.of (cc := cX12_row) (maxL := 6) (ret := (some .int)) (by decide) rfl (Nat.le_of_ble_eq_true rfl) ?_
  intro p e s m below meth c A hx hb hr hml hown hts hlocks hnm hK hP hD hS hA ls hl
  have hg : ∀ w ∈ kG, w.before _ s = true := fun w h => hts w (List.mem_cons_of_mem _ h)
  have hown : s.vm.findClass RX12 = some m.cls := hown
  have hl : lv_has ls 6 [(0, .ref o)] := hl
  refine lv_aload_n hx hb dX12_row_0 rfl (lv_at hl 0 rfl) ?_
  refine va_get (D := D) (ci := 12) (v := .int (f 13)) (C := RX12) (T := TX12) (N := 48) hx hb hg inC12 hown hK hP 0 rfl rfl 13 (by decide) (hg _ wt5_173) (fun _ h9 => h9) rfl dX12_row_1 ?_
  refine k_top (z := 0) h0 ?_
  refine lv_istore_n (lv' := [(1, .int 0), (0, .ref o)]) hx hb dX12_row_4 rfl hl (by decide) rfl (fun ls hl => ?_)
  refine lv_aload_n hx hb dX12_row_5 rfl (lv_at hl 1 rfl) ?_
  refine lv_iconst (v := 0) hx hb dX12_row_6 (by decide) ?_
  refine va_put (D := D) (ci := 12) (v := .int 0) (ty := .int) (C := RX12) (T := TX12) (N := 48) hx hb hg inC12 tyX12 tyX12_ok nmX12 hown hK hP hD hS 0 rfl rfl 13 (by decide) (hg _ wt5_173) (fun _ h9 => h9) rfl (by decide +kernel) rfl rfl (Nat.le_of_ble_eq_true rfl) dX12_row_7 (fun H locs hP hD hS => ?_)
  have hP : va_P D vwCl (mW K o r (upd f 13 0) a g) H := hP
  have hD : va_D A (mW K o r (upd f 13 0) a g) := hD
  generalize ef_1 : upd f 13 0 = f_1 at hP hD
  refine lv_iload_n hx hb dX12_row_10 rfl (lv_at hl 0 rfl) ?_
  refine lv_if_ne (tgt := 21) hx hb dX12_row_11 (by decide) (fun c2 => absurd (by decide +kernel) c2) (fun c2 => ?_)
  refine lv_aload_n hx hb dX12_row_14 rfl (lv_at hl 1 rfl) ?_
  refine lv_bipush (v := (-6)) hx hb dX12_row_15 (by decide) ?_
  refine kI.callV (As := [.int (-6)]) (rest := []) ⟨hx, hb, hml, hown, hg⟩ (c_refuses6 l o r f_1 a g  ) (cwV 1 hg (kgV wt6_72 wt6_74 wp3_5 wt1_14 wt6_75) rfl rfl rfl (by decide +kernel) ⟨by decide, by decide⟩) hK hP hD hS hA mIs [] rfl (wr := []) rfl rfl rfl (fun i h => by cases h) 0 12 rfl rfl rfl hl.1 rfl (Nat.le_of_ble_eq_true rfl) dX12_row_17 ⟨by decide, by decide⟩ (fun v5 u4 H locs hw3 hP hD hS => ?_)
  obtain ⟨f6, a7, g8⟩ := u4
  have hP : va_P D vwCl (mW K o r f6 a7 g8) H := hP
  have hD : va_D A (mW K o r f6 a7 g8) := hD
  refine k_top (z := (-6)) (hw3) ?_
  exact kI_ret (v := (-6)) hx hb hr hlocks rfl hK hS dX12_row_20 (f6, a7, g8) hP hD rfl
set_option maxHeartbeats 4000000 in
set_option maxRecDepth 100000 in
theorem c_chaff (l : Launch) {D : va_G} {K : Nat → ClassId} (o : Nat) (r : Nat → Nat) (f : Nat → Int32) (a : Nat → Nat → Int32) (g : Nat → Int64) (h0 : f 6 = 0)   : kI l yX12_chaff (Cond.code yX12_chaff cX12_chaff 1 (some .int) :: kG) (rmD 1 0 0) D (tysK K) [.ref o] (mW K o r f a g) (fun v (_ : Unit) => v = 0) (fun _ => mW K o r f a g) 0 0 := by
  refine kI.of (cc := cX12_chaff) (maxL := 1) (ret := (some .int)) (by decide) rfl (Nat.le_of_ble_eq_true rfl) ?_
  intro p e s m below meth c A hx hb hr hml hown hts hlocks hnm hK hP hD hS hA ls hl
  have hg : ∀ w ∈ kG, w.before _ s = true := fun w h => hts w (List.mem_cons_of_mem _ h)
  have hown : s.vm.findClass RX12 = some m.cls := hown
  have hl : lv_has ls 1 [(0, .ref o)] := hl
  refine lv_aload_n hx hb dX12_chaff_0 rfl (lv_at hl 0 rfl) ?_
  refine va_get (D := D) (ci := 12) (v := .int (f 6)) (C := RX12) (T := TX12) (N := 48) hx hb hg inC12 hown hK hP 0 rfl rfl 6 (by decide) (hg _ wt5_166) (fun _ h9 => h9) rfl dX12_chaff_1 ?_
  refine k_top (z := 0) h0 ?_
  exact kI_ret (v := 0) hx hb hr hlocks rfl hK hS dX12_chaff_4 () hP hD rfl
set_option maxHeartbeats 4000000 in
set_option maxRecDepth 100000 in
theorem c_end (l : Launch) {D : va_G} {K : Nat → ClassId} (o : Nat) (r : Nat → Nat) (f : Nat → Int32) (a : Nat → Nat → Int32) (g : Nat → Int64) (h0 : f 13 = 0) (x : Int32)  : kI l yX12_end (Cond.code yX12_end cX12_end 2 (some .int) :: kG) (rmD 2 0 0) D (tysK K) [.ref o, .int x] (mW K o r f a g) (fun v (u : mS) => v = (if mLies x 0 0 = 0 then (-1 : Int32) else x)) (fun u => mW K o r u.1 u.2.1 u.2.2) 0 0 := by
  refine kI.of (cc := cX12_end) (maxL := 2) (ret := (some .int)) (by decide) rfl (Nat.le_of_ble_eq_true rfl) ?_
  intro p e s m below meth c A hx hb hr hml hown hts hlocks hnm hK hP hD hS hA ls hl
  have hg : ∀ w ∈ kG, w.before _ s = true := fun w h => hts w (List.mem_cons_of_mem _ h)
  have hown : s.vm.findClass RX12 = some m.cls := hown
  have hl : lv_has ls 2 [(0, .ref o), (1, .int x)] := hl
  refine lv_iload_n hx hb dX12_end_0 rfl (lv_at hl 1 rfl) ?_
  refine lv_iconst (v := 0) hx hb dX12_end_1 (by decide) ?_
  refine lv_aload_n hx hb dX12_end_2 rfl (lv_at hl 0 rfl) ?_
  refine va_get (D := D) (ci := 12) (v := .int (f 13)) (C := RX12) (T := TX12) (N := 48) hx hb hg inC12 hown hK hP 0 rfl rfl 13 (by decide) (hg _ wt5_173) (fun _ h9 => h9) rfl dX12_end_3 ?_
  refine k_top (z := 0) h0 ?_
  refine kN.callS (As := [.int x, .int 0, .int 0]) (rest := []) ⟨hx, hb, hml, hown, hg⟩ (c_lies l x 0 0) (va_cwS 3 hg (kgS wt6_69 wt6_70 wt1_14 wt6_71) rfl rfl rfl (by decide +kernel) ⟨by decide, by decide⟩) hP hS rfl hl.1 rfl (Nat.le_of_ble_eq_true rfl) dX12_end_6 ⟨by decide, by decide⟩ (fun v2 H locs hw1 hP hS => ?_)
  refine k_top (z := mLies x 0 0) hw1 ?_
  refine lv_if_ne (tgt := 14) hx hb dX12_end_9 (by decide) (fun c3 => ?_) (fun c3 => ?_)
  · refine lv_aload_n hx hb dX12_end_14 rfl (lv_at hl 0 rfl) ?_
    refine lv_iload_n hx hb dX12_end_15 rfl (lv_at hl 1 rfl) ?_
    refine va_put (D := D) (ci := 12) (v := .int x) (ty := .int) (C := RX12) (T := TX12) (N := 48) hx hb hg inC12 tyX12 tyX12_ok nmX12 hown hK hP hD hS 0 rfl rfl 13 (by decide) (hg _ wt5_173) (fun _ h9 => h9) rfl (by decide +kernel) rfl rfl (Nat.le_of_ble_eq_true rfl) dX12_end_16 (fun H locs hP hD hS => ?_)
    have hP : va_P D vwCl (mW K o r (upd f 13 x) a g) H := hP
    have hD : va_D A (mW K o r (upd f 13 x) a g) := hD
    generalize ef_4 : upd f 13 x = f_4 at hP hD
    refine lv_iload_n hx hb dX12_end_19 rfl (lv_at hl 1 rfl) ?_
    exact kI_ret (v := x) hx hb hr hlocks rfl hK hS dX12_end_20 (f_4, a, g) hP hD (by simp [c3])
  · refine lv_iconst (v := (-1)) hx hb dX12_end_12 (by decide) ?_
    exact kI_ret (v := (-1)) hx hb hr hlocks rfl hK hS dX12_end_13 (f, a, g) hP hD (by simp [c3])
set_option maxHeartbeats 4000000 in
set_option maxRecDepth 100000 in
theorem c_fault (l : Launch) {D : va_G} {K : Nat → ClassId} (o : Nat) (r : Nat → Nat) (f : Nat → Int32) (a : Nat → Nat → Int32) (g : Nat → Int64) (h0 : f 14 = (-1))   : kI l yX12_fault (Cond.code yX12_fault cX12_fault 1 (some .int) :: kG) (rmD 1 0 0) D (tysK K) [.ref o] (mW K o r f a g) (fun v (_ : Unit) => v = (-1)) (fun _ => mW K o r f a g) 0 0 := by
  refine kI.of (cc := cX12_fault) (maxL := 1) (ret := (some .int)) (by decide) rfl (Nat.le_of_ble_eq_true rfl) ?_
  intro p e s m below meth c A hx hb hr hml hown hts hlocks hnm hK hP hD hS hA ls hl
  have hg : ∀ w ∈ kG, w.before _ s = true := fun w h => hts w (List.mem_cons_of_mem _ h)
  have hown : s.vm.findClass RX12 = some m.cls := hown
  have hl : lv_has ls 1 [(0, .ref o)] := hl
  refine lv_aload_n hx hb dX12_fault_0 rfl (lv_at hl 0 rfl) ?_
  refine va_get (D := D) (ci := 12) (v := .int (f 14)) (C := RX12) (T := TX12) (N := 48) hx hb hg inC12 hown hK hP 0 rfl rfl 14 (by decide) (hg _ wt5_174) (fun _ h9 => h9) rfl dX12_fault_1 ?_
  refine k_top (z := (-1)) h0 ?_
  exact kI_ret (v := (-1)) hx hb hr hlocks rfl hK hS dX12_fault_4 () hP hD rfl
set_option maxHeartbeats 4000000 in
set_option maxRecDepth 100000 in
theorem c_stopped (l : Launch) {D : va_G} {K : Nat → ClassId} (o : Nat) (r : Nat → Nat) (f : Nat → Int32) (a : Nat → Nat → Int32) (g : Nat → Int64) (h0 : f 37 = (-1))   : kI l yX12_stopped (Cond.code yX12_stopped cX12_stopped 1 (some .int) :: kG) (rmD 1 0 0) D (tysK K) [.ref o] (mW K o r f a g) (fun v (_ : Unit) => v = (-1)) (fun _ => mW K o r f a g) 0 0 := by
  refine kI.of (cc := cX12_stopped) (maxL := 1) (ret := (some .int)) (by decide) rfl (Nat.le_of_ble_eq_true rfl) ?_
  intro p e s m below meth c A hx hb hr hml hown hts hlocks hnm hK hP hD hS hA ls hl
  have hg : ∀ w ∈ kG, w.before _ s = true := fun w h => hts w (List.mem_cons_of_mem _ h)
  have hown : s.vm.findClass RX12 = some m.cls := hown
  have hl : lv_has ls 1 [(0, .ref o)] := hl
  refine lv_aload_n hx hb dX12_stopped_0 rfl (lv_at hl 0 rfl) ?_
  refine va_get (D := D) (ci := 12) (v := .int (f 37)) (C := RX12) (T := TX12) (N := 48) hx hb hg inC12 hown hK hP 0 rfl rfl 37 (by decide) (hg _ wt5_197) (fun _ h9 => h9) rfl dX12_stopped_1 ?_
  refine k_top (z := (-1)) h0 ?_
  exact kI_ret (v := (-1)) hx hb hr hlocks rfl hK hS dX12_stopped_4 () hP hD rfl
set_option maxHeartbeats 4000000 in
set_option maxRecDepth 100000 in
theorem c_status (l : Launch) {D : va_G} {K : Nat → ClassId} (o : Nat) (r : Nat → Nat) (f : Nat → Int32) (a : Nat → Nat → Int32) (g : Nat → Int64) (h0 : f 0 = 0)   : kI l yX12_status (Cond.code yX12_status cX12_status 1 (some .int) :: kG) (rmD 1 0 0) D (tysK K) [.ref o] (mW K o r f a g) (fun v (_ : Unit) => v = 0) (fun _ => mW K o r f a g) 0 0 := by
  refine kI.of (cc := cX12_status) (maxL := 1) (ret := (some .int)) (by decide) rfl (Nat.le_of_ble_eq_true rfl) ?_
  intro p e s m below meth c A hx hb hr hml hown hts hlocks hnm hK hP hD hS hA ls hl
  have hg : ∀ w ∈ kG, w.before _ s = true := fun w h => hts w (List.mem_cons_of_mem _ h)
  have hown : s.vm.findClass RX12 = some m.cls := hown
  have hl : lv_has ls 1 [(0, .ref o)] := hl
  refine lv_aload_n hx hb dX12_status_0 rfl (lv_at hl 0 rfl) ?_
  refine va_get (D := D) (ci := 12) (v := .int (f 0)) (C := RX12) (T := TX12) (N := 48) hx hb hg inC12 hown hK hP 0 rfl rfl 0 (by decide) (hg _ wt5_160) (fun _ h9 => h9) rfl dX12_status_1 ?_
  refine k_top (z := 0) h0 ?_
  exact kI_ret (v := 0) hx hb hr hlocks rfl hK hS dX12_status_4 () hP hD rfl
set_option maxHeartbeats 4000000 in
set_option maxRecDepth 100000 in
theorem c_force (l : Launch) {D : va_G} {K : Nat → ClassId} (o : Nat) (r : Nat → Nat) (f : Nat → Int32) (a : Nat → Nat → Int32) (g : Nat → Int64) (h0 : a 2 105 = 0) (h1 : a 2 106 = (-1)) (x : Int32)  : kI l yX12_force (Cond.code yX12_force cX12_force 3 (some .int) :: kG) (rmD 2 0 0) D (tysK K) [.ref o, .int x] (mW K o r f a g) (fun v (u : mS) => v = (if mLies x (-1) (-1) = 0 then (-2 : Int32) else -1)) (fun u => mW K o r u.1 u.2.1 u.2.2) 0 0 := by
  refine kI.of (cc := cX12_force) (maxL := 3) (ret := (some .int)) (by decide) rfl (Nat.le_of_ble_eq_true rfl) ?_
  intro p e s m below meth c A hx hb hr hml hown hts hlocks hnm hK hP hD hS hA ls hl
  have hg : ∀ w ∈ kG, w.before _ s = true := fun w h => hts w (List.mem_cons_of_mem _ h)
  have hown : s.vm.findClass RX12 = some m.cls := hown
  have hl : lv_has ls 3 [(0, .ref o), (1, .int x)] := hl
  refine lv_iload_n hx hb dX12_force_0 rfl (lv_at hl 1 rfl) ?_
  refine lv_iconst (v := (-1)) hx hb dX12_force_1 (by decide) ?_
  refine lv_aload_n hx hb dX12_force_2 rfl (lv_at hl 0 rfl) ?_
  refine va_get (D := D) (ci := 12) (v := .ref (r 2)) (C := RX12) (T := TX12) (N := 48) hx hb hg inC12 hown hK hP 0 rfl rfl 2 (by decide) (hg _ wt5_162) (fun _ h9 => h9) rfl dX12_force_3 ?_
  refine lv_bipush (v := 105) hx hb dX12_force_6 (by decide) ?_
  refine va_iald hx hb hK hP 2 0 rfl rfl (k_in (by decide +kernel)) dX12_force_8 ?_
  refine k_top (z := 0) (by rw [cl_105]; exact h0) ?_
  refine lv_iconst (v := 1) hx hb dX12_force_9 (by decide) ?_
  refine lv_isub hx hb dX12_force_10 ?_
  refine k_top (z := (-1)) (by decide +kernel) ?_
  refine kN.callS (As := [.int x, .int (-1), .int (-1)]) (rest := []) ⟨hx, hb, hml, hown, hg⟩ (c_lies l x (-1) (-1)) (va_cwS 3 hg (kgS wt6_69 wt6_70 wt1_14 wt6_71) rfl rfl rfl (by decide +kernel) ⟨by decide, by decide⟩) hP hS rfl hl.1 rfl (Nat.le_of_ble_eq_true rfl) dX12_force_11 ⟨by decide, by decide⟩ (fun v2 H locs hw1 hP hS => ?_)
  refine k_top (z := mLies x (-1) (-1)) hw1 ?_
  refine lv_if_ne (tgt := 24) hx hb dX12_force_14 (by decide) (fun c3 => ?_) (fun c3 => ?_)
  · refine lv_aload_n hx hb dX12_force_24 rfl (lv_at hl 0 rfl) ?_
    refine va_get (D := D) (ci := 12) (v := .ref (r 2)) (C := RX12) (T := TX12) (N := 48) hx hb hg inC12 hown hK hP 0 rfl rfl 2 (by decide) (hg _ wt5_162) (fun _ h9 => h9) rfl dX12_force_25 ?_
    refine lv_bipush (v := 106) hx hb dX12_force_28 (by decide) ?_
    refine va_iald hx hb hK hP 2 0 rfl rfl (k_in (by decide +kernel)) dX12_force_30 ?_
    refine k_top (z := (-1)) (by rw [cl_106]; exact h1) ?_
    refine lv_istore_n (lv' := [(2, .int (-1)), (0, .ref o), (1, .int x)]) hx hb dX12_force_31 rfl hl (by decide) rfl (fun ls hl => ?_)
    refine lv_aload_n hx hb dX12_force_32 rfl (lv_at hl 1 rfl) ?_
    refine va_get (D := D) (ci := 12) (v := .ref (r 2)) (C := RX12) (T := TX12) (N := 48) hx hb hg inC12 hown hK hP 0 rfl rfl 2 (by decide) (hg _ wt5_162) (fun _ h9 => h9) rfl dX12_force_33 ?_
    refine lv_bipush (v := 106) hx hb dX12_force_36 (by decide) ?_
    refine lv_iload_n hx hb dX12_force_38 rfl (lv_at hl 2 rfl) ?_
    refine va_iast hx hb hK hP hD hS 2 0 rfl rfl (k_in (by decide +kernel)) dX12_force_39 (fun H locs hP hD hS => ?_)
    rw [cl_106] at hP hD
    have hP : va_P D vwCl (mW K o r f (va_up a 2 (upd (a 2) 106 x)) g) H := hP
    have hD : va_D A (mW K o r f (va_up a 2 (upd (a 2) 106 x)) g) := hD
    generalize ea_4 : va_up a 2 (upd (a 2) 106 x) = a_4 at hP hD
    refine lv_aload_n hx hb dX12_force_40 rfl (lv_at hl 1 rfl) ?_
    refine lv_iload_n hx hb dX12_force_41 rfl (lv_at hl 0 rfl) ?_
    refine kI.callV (As := [.int (-1)]) (rest := []) ⟨hx, hb, hml, hown, hg⟩ (c_good l o r f a_4 g  (-1)) (cwV 1 hg (kgV wt6_76 wt6_78 wp3_6 wt1_14 wt6_79) rfl rfl rfl (by decide +kernel) ⟨by decide, by decide⟩) hK hP hD hS hA mIs [] rfl (wr := []) rfl rfl rfl (fun i h => by cases h) 0 12 rfl rfl rfl hl.1 rfl (Nat.le_of_ble_eq_true rfl) dX12_force_42 ⟨by decide, by decide⟩ (fun v7 u6 H locs hw5 hP hD hS => ?_)
    obtain ⟨f8, a9, g10⟩ := u6
    have hP : va_P D vwCl (mW K o r f8 a9 g10) H := hP
    have hD : va_D A (mW K o r f8 a9 g10) := hD
    refine k_top (z := (-1)) (hw5) ?_
    exact kI_ret (v := (-1)) hx hb hr hlocks rfl hK hS dX12_force_45 (f8, a9, g10) hP hD (by simp [c3])
  · refine lv_aload_n hx hb dX12_force_17 rfl (lv_at hl 0 rfl) ?_
    refine lv_bipush (v := (-2)) hx hb dX12_force_18 (by decide) ?_
    refine kI.callV (As := [.int (-2)]) (rest := []) ⟨hx, hb, hml, hown, hg⟩ (c_refuses2 l o r f a g  ) (cwV 1 hg (kgV wt6_72 wt6_74 wp3_5 wt1_14 wt6_75) rfl rfl rfl (by decide +kernel) ⟨by decide, by decide⟩) hK hP hD hS hA mIs [] rfl (wr := []) rfl rfl rfl (fun i h => by cases h) 0 12 rfl rfl rfl hl.1 rfl (Nat.le_of_ble_eq_true rfl) dX12_force_20 ⟨by decide, by decide⟩ (fun v13 u12 H locs hw11 hP hD hS => ?_)
    obtain ⟨f14, a15, g16⟩ := u12
    have hP : va_P D vwCl (mW K o r f14 a15 g16) H := hP
    have hD : va_D A (mW K o r f14 a15 g16) := hD
    refine k_top (z := (-2)) (hw11) ?_
    exact kI_ret (v := (-2)) hx hb hr hlocks rfl hK hS dX12_force_23 (f14, a15, g16) hP hD (by simp [c3])
set_option maxHeartbeats 4000000 in
set_option maxRecDepth 100000 in
theorem c_stands (l : Launch) {D : va_G} {K : Nat → ClassId} (o : Nat) (r : Nat → Nat) (f : Nat → Int32) (a : Nat → Nat → Int32) (g : Nat → Int64) (h0 : a 2 102 = 0) (x : Int32)  : kI l yX12_stands (Cond.code yX12_stands cX12_stands 4 (some .int) :: kG) (rmD 2 0 0) D (tysK K) [.ref o, .int x] (mW K o r f a g) (fun v (_ : Unit) => v = (if mLies x 0 1 = 0 then (-1 : Int32) else 0)) (fun _ => mW K o r f a g) 0 0 := by
  refine kI.of (cc := cX12_stands) (maxL := 4) (ret := (some .int)) (by decide) rfl (Nat.le_of_ble_eq_true rfl) ?_
  intro p e s m below meth c A hx hb hr hml hown hts hlocks hnm hK hP hD hS hA ls hl
  have hg : ∀ w ∈ kG, w.before _ s = true := fun w h => hts w (List.mem_cons_of_mem _ h)
  have hown : s.vm.findClass RX12 = some m.cls := hown
  have hl : lv_has ls 4 [(0, .ref o), (1, .int x)] := hl
  refine lv_iload_n hx hb dX12_stands_0 rfl (lv_at hl 1 rfl) ?_
  refine lv_iconst (v := 0) hx hb dX12_stands_1 (by decide) ?_
  refine lv_iconst (v := 1) hx hb dX12_stands_2 (by decide) ?_
  refine kN.callS (As := [.int x, .int 0, .int 1]) (rest := []) ⟨hx, hb, hml, hown, hg⟩ (c_lies l x 0 1) (va_cwS 3 hg (kgS wt6_69 wt6_70 wt1_14 wt6_71) rfl rfl rfl (by decide +kernel) ⟨by decide, by decide⟩) hP hS rfl hl.1 rfl (Nat.le_of_ble_eq_true rfl) dX12_stands_3 ⟨by decide, by decide⟩ (fun v2 H locs hw1 hP hS => ?_)
  refine k_top (z := mLies x 0 1) hw1 ?_
  refine lv_if_ne (tgt := 11) hx hb dX12_stands_6 (by decide) (fun c3 => ?_) (fun c3 => ?_)
  · refine lv_iload_n hx hb dX12_stands_11 rfl (lv_at hl 1 rfl) ?_
    refine lv_if_ne (tgt := 20) hx hb dX12_stands_12 (by decide) (fun c4 => ?_) (fun c4 => ?_)
    · refine lv_iconst (v := 0) hx hb dX12_stands_20 (by decide) ?_
      refine lv_istore_n (lv' := [(2, .int 0), (0, .ref o), (1, .int x)]) hx hb dX12_stands_21 rfl hl (by decide) rfl (fun ls hl => ?_)
      refine lv_iconst (v := 0) hx hb dX12_stands_22 (by decide) ?_
      refine lv_istore_n (lv' := [(3, .int 0), (2, .int 0), (0, .ref o), (1, .int x)]) hx hb dX12_stands_23 rfl hl (by decide) rfl (fun ls hl => ?_)
      refine lv_iload_n hx hb dX12_stands_24 rfl (lv_at hl 0 rfl) ?_
      refine lv_aload_n hx hb dX12_stands_25 rfl (lv_at hl 2 rfl) ?_
      refine va_get (D := D) (ci := 12) (v := .ref (r 2)) (C := RX12) (T := TX12) (N := 48) hx hb hg inC12 hown hK hP 0 rfl rfl 2 (by decide) (hg _ wt5_162) (fun _ h9 => h9) rfl dX12_stands_26 ?_
      refine lv_bipush (v := 102) hx hb dX12_stands_29 (by decide) ?_
      refine va_iald hx hb hK hP 2 0 rfl rfl (k_in (by decide +kernel)) dX12_stands_31 ?_
      refine k_top (z := 0) (by rw [cl_102]; exact h0) ?_
      refine lv_icmp_ge (tgt := 59) hx hb dX12_stands_32 (by decide) (fun c5 => ?_) (fun c5 => absurd (by decide +kernel) c5)
      refine lv_iload_n hx hb dX12_stands_59 rfl (lv_at hl 1 rfl) ?_
      exact kI_ret (v := 0) hx hb hr hlocks rfl hK hS dX12_stands_60 () hP hD (by simp [c3])
    · refine lv_aload_n hx hb dX12_stands_15 rfl (lv_at hl 0 rfl) ?_
      refine kI.callV (As := []) (rest := []) ⟨hx, hb, hml, hown, hg⟩ (c_standing l o r f a g h0 ) (cwV 0 hg (kgV wt6_116 wt6_118 wp3_13 wt1_14 wt6_119) rfl rfl rfl (by decide +kernel) ⟨by decide, by decide⟩) hK hP hD hS hA mIs [] rfl (wr := []) rfl rfl rfl (fun i h => by cases h) 0 12 rfl rfl rfl hl.1 rfl (Nat.le_of_ble_eq_true rfl) dX12_stands_16 ⟨by decide, by decide⟩ (fun v8 u7 H locs hw6 hP hD hS => ?_)
      have hP : va_P D vwCl (mW K o r f a g) H := hP
      have hD : va_D A (mW K o r f a g) := hD
      refine k_top (z := 0) (hw6) ?_
      exact kI_ret (v := 0) hx hb hr hlocks rfl hK hS dX12_stands_19 () hP hD (by simp [c3])
  · refine lv_iconst (v := (-1)) hx hb dX12_stands_9 (by decide) ?_
    exact kI_ret (v := (-1)) hx hb hr hlocks rfl hK hS dX12_stands_10 () hP hD (by simp [c3])
set_option maxHeartbeats 4000000 in
set_option maxRecDepth 100000 in
theorem c_sendsKept (l : Launch) {D : va_G} {K : Nat → ClassId} (o : Nat) (r : Nat → Nat) (f : Nat → Int32) (a : Nat → Nat → Int32) (g : Nat → Int64) (h0 : a 2 103 = 0) (x : Int32) (y : Int32)  : kI l yX12_sendsKept (Cond.code yX12_sendsKept cX12_sendsKept 3 (some .int) :: kG) (rmD 3 0 0) D (tysK K) [.ref o, .int x, .int y] (mW K o r f a g) (fun v (_ : Unit) => v = (-2)) (fun _ => mW K o r f a g) 0 0 := by
  refine kI.of (cc := cX12_sendsKept) (maxL := 3) (ret := (some .int)) (by decide) rfl (Nat.le_of_ble_eq_true rfl) ?_
  intro p e s m below meth c A hx hb hr hml hown hts hlocks hnm hK hP hD hS hA ls hl
  have hg : ∀ w ∈ kG, w.before _ s = true := fun w h => hts w (List.mem_cons_of_mem _ h)
  have hown : s.vm.findClass RX12 = some m.cls := hown
  have hl : lv_has ls 3 [(0, .ref o), (1, .int x), (2, .int y)] := hl
  refine lv_aload_n hx hb dX12_sendsKept_0 rfl (lv_at hl 0 rfl) ?_
  refine lv_iload_n hx hb dX12_sendsKept_1 rfl (lv_at hl 1 rfl) ?_
  refine kI.callV (As := [.int x]) (rest := []) ⟨hx, hb, hml, hown, hg⟩ (c_isBuilder l o r f a g h0 x) (cwV 1 hg (kgV wt6_138 wt6_140 wp3_15 wt1_14 wt6_141) rfl rfl rfl (by decide +kernel) ⟨by decide, by decide⟩) hK hP hD hS hA mIs [] rfl (wr := []) rfl rfl rfl (fun i h => by cases h) 0 12 rfl rfl rfl hl.1 rfl (Nat.le_of_ble_eq_true rfl) dX12_sendsKept_2 ⟨by decide, by decide⟩ (fun v3 u2 H locs hw1 hP hD hS => ?_)
  have hP : va_P D vwCl (mW K o r f a g) H := hP
  have hD : va_D A (mW K o r f a g) := hD
  refine k_top (z := 0) (hw1) ?_
  refine lv_if_eq (tgt := 16) hx hb dX12_sendsKept_5 (by decide) (fun c4 => ?_) (fun c4 => absurd (by decide +kernel) c4)
  refine lv_bipush (v := (-2)) hx hb dX12_sendsKept_16 (by decide) ?_
  exact kI_ret (v := (-2)) hx hb hr hlocks rfl hK hS dX12_sendsKept_18 () hP hD rfl
set_option maxHeartbeats 4000000 in
set_option maxRecDepth 100000 in
theorem c_restsKept (l : Launch) {D : va_G} {K : Nat → ClassId} (o : Nat) (r : Nat → Nat) (f : Nat → Int32) (a : Nat → Nat → Int32) (g : Nat → Int64) (h0 : a 2 103 = 0) (x : Int32)  : kI l yX12_restsKept (Cond.code yX12_restsKept cX12_restsKept 3 (some .int) :: kG) (rmD 3 0 0) D (tysK K) [.ref o, .int x] (mW K o r f a g) (fun v (_ : Unit) => v = (-2)) (fun _ => mW K o r f a g) 0 0 := by
  refine kI.of (cc := cX12_restsKept) (maxL := 3) (ret := (some .int)) (by decide) rfl (Nat.le_of_ble_eq_true rfl) ?_
  intro p e s m below meth c A hx hb hr hml hown hts hlocks hnm hK hP hD hS hA ls hl
  have hg : ∀ w ∈ kG, w.before _ s = true := fun w h => hts w (List.mem_cons_of_mem _ h)
  have hown : s.vm.findClass RX12 = some m.cls := hown
  have hl : lv_has ls 3 [(0, .ref o), (1, .int x)] := hl
  refine lv_aload_n hx hb dX12_restsKept_0 rfl (lv_at hl 0 rfl) ?_
  refine lv_iload_n hx hb dX12_restsKept_1 rfl (lv_at hl 1 rfl) ?_
  refine kI.callV (As := [.int x]) (rest := []) ⟨hx, hb, hml, hown, hg⟩ (c_isBuilder l o r f a g h0 x) (cwV 1 hg (kgV wt6_138 wt6_140 wp3_15 wt1_14 wt6_141) rfl rfl rfl (by decide +kernel) ⟨by decide, by decide⟩) hK hP hD hS hA mIs [] rfl (wr := []) rfl rfl rfl (fun i h => by cases h) 0 12 rfl rfl rfl hl.1 rfl (Nat.le_of_ble_eq_true rfl) dX12_restsKept_2 ⟨by decide, by decide⟩ (fun v3 u2 H locs hw1 hP hD hS => ?_)
  have hP : va_P D vwCl (mW K o r f a g) H := hP
  have hD : va_D A (mW K o r f a g) := hD
  refine k_top (z := 0) (hw1) ?_
  refine lv_if_ne (tgt := 11) hx hb dX12_restsKept_5 (by decide) (fun c4 => absurd (by decide +kernel) c4) (fun c4 => ?_)
  refine lv_bipush (v := (-2)) hx hb dX12_restsKept_8 (by decide) ?_
  exact kI_ret (v := (-2)) hx hb hr hlocks rfl hK hS dX12_restsKept_10 () hP hD rfl
set_option maxHeartbeats 4000000 in
set_option maxRecDepth 100000 in
theorem c_throwsKept (l : Launch) {D : va_G} {K : Nat → ClassId} (o : Nat) (r : Nat → Nat) (f : Nat → Int32) (a : Nat → Nat → Int32) (g : Nat → Int64) (h0 : a 2 102 = 0) (x : Int32)  : kI l yX12_throwsKept (Cond.code yX12_throwsKept cX12_throwsKept 2 (some .int) :: kG) (rmD 3 0 0) D (tysK K) [.ref o, .int x] (mW K o r f a g) (fun v (_ : Unit) => v = (-2)) (fun _ => mW K o r f a g) 0 0 := by
  refine kI.of (cc := cX12_throwsKept) (maxL := 2) (ret := (some .int)) (by decide) rfl (Nat.le_of_ble_eq_true rfl) ?_
  intro p e s m below meth c A hx hb hr hml hown hts hlocks hnm hK hP hD hS hA ls hl
  have hg : ∀ w ∈ kG, w.before _ s = true := fun w h => hts w (List.mem_cons_of_mem _ h)
  have hown : s.vm.findClass RX12 = some m.cls := hown
  have hl : lv_has ls 2 [(0, .ref o), (1, .int x)] := hl
  refine lv_aload_n hx hb dX12_throwsKept_0 rfl (lv_at hl 0 rfl) ?_
  refine lv_iload_n hx hb dX12_throwsKept_1 rfl (lv_at hl 1 rfl) ?_
  refine kI.callV (As := [.int x]) (rest := []) ⟨hx, hb, hml, hown, hg⟩ (c_isPart l o r f a g h0 x) (cwV 1 hg (kgV wt6_104 wt6_106 wp3_10 wt1_14 wt6_107) rfl rfl rfl (by decide +kernel) ⟨by decide, by decide⟩) hK hP hD hS hA mIs [] rfl (wr := []) rfl rfl rfl (fun i h => by cases h) 0 12 rfl rfl rfl hl.1 rfl (Nat.le_of_ble_eq_true rfl) dX12_throwsKept_2 ⟨by decide, by decide⟩ (fun v3 u2 H locs hw1 hP hD hS => ?_)
  have hP : va_P D vwCl (mW K o r f a g) H := hP
  have hD : va_D A (mW K o r f a g) := hD
  refine k_top (z := 0) (hw1) ?_
  refine lv_if_ne (tgt := 11) hx hb dX12_throwsKept_5 (by decide) (fun c4 => absurd (by decide +kernel) c4) (fun c4 => ?_)
  refine lv_bipush (v := (-2)) hx hb dX12_throwsKept_8 (by decide) ?_
  exact kI_ret (v := (-2)) hx hb hr hlocks rfl hK hS dX12_throwsKept_10 () hP hD rfl
set_option maxHeartbeats 4000000 in
set_option maxRecDepth 100000 in
theorem c_goodOr2 (l : Launch) {D : va_G} {K : Nat → ClassId} (o : Nat) (r : Nat → Nat) (f : Nat → Int32) (a : Nat → Nat → Int32) (g : Nat → Int64)    : kI l yX12_goodOr (Cond.code yX12_goodOr cX12_goodOr 2 (some .int) :: kG) (rmD 2 0 0) D (tysK K) [.ref o, .int (-2)] (mW K o r f a g) (fun v (u : mS) => v = (-2)) (fun u => mW K o r u.1 u.2.1 u.2.2) 0 0 := by
  refine kI.of (cc := cX12_goodOr) (maxL := 2) (ret := (some .int)) (by decide) rfl (Nat.le_of_ble_eq_true rfl) ?_
  intro p e s m below meth c A hx hb hr hml hown hts hlocks hnm hK hP hD hS hA ls hl
  have hg : ∀ w ∈ kG, w.before _ s = true := fun w h => hts w (List.mem_cons_of_mem _ h)
  have hown : s.vm.findClass RX12 = some m.cls := hown
  have hl : lv_has ls 2 [(0, .ref o), (1, .int (-2))] := hl
  refine lv_iload_n hx hb dX12_goodOr_0 rfl (lv_at hl 1 rfl) ?_
  refine lv_if_ge (tgt := 12) hx hb dX12_goodOr_1 (by decide) (fun c1 => absurd c1 (by decide +kernel)) (fun c1 => ?_)
  refine lv_aload_n hx hb dX12_goodOr_4 rfl (lv_at hl 0 rfl) ?_
  refine lv_iload_n hx hb dX12_goodOr_5 rfl (lv_at hl 1 rfl) ?_
  refine kI.callV (As := [.int (-2)]) (rest := []) ⟨hx, hb, hml, hown, hg⟩ (c_refuses2 l o r f a g  ) (cwV 1 hg (kgV wt6_72 wt6_74 wp3_5 wt1_14 wt6_75) rfl rfl rfl (by decide +kernel) ⟨by decide, by decide⟩) hK hP hD hS hA mIs [] rfl (wr := []) rfl rfl rfl (fun i h => by cases h) 0 12 rfl rfl rfl hl.1 rfl (Nat.le_of_ble_eq_true rfl) dX12_goodOr_6 ⟨by decide, by decide⟩ (fun v4 u3 H locs hw2 hP hD hS => ?_)
  obtain ⟨f5, a6, g7⟩ := u3
  have hP : va_P D vwCl (mW K o r f5 a6 g7) H := hP
  have hD : va_D A (mW K o r f5 a6 g7) := hD
  refine k_top (z := (-2)) (hw2) ?_
  refine lv_goto (tgt := 17) hx hb dX12_goodOr_9 (by decide) ?_
  exact kI_ret (v := (-2)) hx hb hr hlocks rfl hK hS dX12_goodOr_17 (f5, a6, g7) hP hD rfl
set_option maxHeartbeats 4000000 in
set_option maxRecDepth 100000 in
theorem c_goodOr0 (l : Launch) {D : va_G} {K : Nat → ClassId} (o : Nat) (r : Nat → Nat) (f : Nat → Int32) (a : Nat → Nat → Int32) (g : Nat → Int64)    : kI l yX12_goodOr (Cond.code yX12_goodOr cX12_goodOr 2 (some .int) :: kG) (rmD 2 0 0) D (tysK K) [.ref o, .int 0] (mW K o r f a g) (fun v (u : mS) => v = 0) (fun u => mW K o r u.1 u.2.1 u.2.2) 0 0 := by
  refine kI.of (cc := cX12_goodOr) (maxL := 2) (ret := (some .int)) (by decide) rfl (Nat.le_of_ble_eq_true rfl) ?_
  intro p e s m below meth c A hx hb hr hml hown hts hlocks hnm hK hP hD hS hA ls hl
  have hg : ∀ w ∈ kG, w.before _ s = true := fun w h => hts w (List.mem_cons_of_mem _ h)
  have hown : s.vm.findClass RX12 = some m.cls := hown
  have hl : lv_has ls 2 [(0, .ref o), (1, .int 0)] := hl
  refine lv_iload_n hx hb dX12_goodOr_0 rfl (lv_at hl 1 rfl) ?_
  refine lv_if_ge (tgt := 12) hx hb dX12_goodOr_1 (by decide) (fun c1 => ?_) (fun c1 => absurd (by decide +kernel) c1)
  refine lv_aload_n hx hb dX12_goodOr_12 rfl (lv_at hl 0 rfl) ?_
  refine lv_iload_n hx hb dX12_goodOr_13 rfl (lv_at hl 1 rfl) ?_
  refine kI.callV (As := [.int 0]) (rest := []) ⟨hx, hb, hml, hown, hg⟩ (c_good l o r f a g  0) (cwV 1 hg (kgV wt6_76 wt6_78 wp3_6 wt1_14 wt6_79) rfl rfl rfl (by decide +kernel) ⟨by decide, by decide⟩) hK hP hD hS hA mIs [] rfl (wr := []) rfl rfl rfl (fun i h => by cases h) 0 12 rfl rfl rfl hl.1 rfl (Nat.le_of_ble_eq_true rfl) dX12_goodOr_14 ⟨by decide, by decide⟩ (fun v4 u3 H locs hw2 hP hD hS => ?_)
  obtain ⟨f5, a6, g7⟩ := u3
  have hP : va_P D vwCl (mW K o r f5 a6 g7) H := hP
  have hD : va_D A (mW K o r f5 a6 g7) := hD
  refine k_top (z := 0) (hw2) ?_
  exact kI_ret (v := 0) hx hb hr hlocks rfl hK hS dX12_goodOr_17 (f5, a6, g7) hP hD rfl
set_option maxHeartbeats 4000000 in
set_option maxRecDepth 100000 in
theorem c_send (l : Launch) {D : va_G} {K : Nat → ClassId} (o : Nat) (r : Nat → Nat) (f : Nat → Int32) (a : Nat → Nat → Int32) (g : Nat → Int64) (h0 : a 2 103 = 0) (x : Int32) (y : Int32)  : kI l yX12_send (Cond.code yX12_send cX12_send 3 (some .int) :: kG) (rmD 4 0 0) D (tysK K) [.ref o, .int x, .int y] (mW K o r f a g) (fun v (u : mS) => v = (-2)) (fun u => mW K o r u.1 u.2.1 u.2.2) 0 0 := by
  refine kI.of (cc := cX12_send) (maxL := 3) (ret := (some .int)) (by decide) rfl (Nat.le_of_ble_eq_true rfl) ?_
  intro p e s m below meth c A hx hb hr hml hown hts hlocks hnm hK hP hD hS hA ls hl
  have hg : ∀ w ∈ kG, w.before _ s = true := fun w h => hts w (List.mem_cons_of_mem _ h)
  have hown : s.vm.findClass RX12 = some m.cls := hown
  have hl : lv_has ls 3 [(0, .ref o), (1, .int x), (2, .int y)] := hl
  refine lv_aload_n hx hb dX12_send_0 rfl (lv_at hl 0 rfl) ?_
  refine lv_aload_n hx hb dX12_send_1 rfl (lv_at hl 0 rfl) ?_
  refine lv_iload_n hx hb dX12_send_2 rfl (lv_at hl 1 rfl) ?_
  refine lv_iload_n hx hb dX12_send_3 rfl (lv_at hl 2 rfl) ?_
  refine kI.callV (As := [.int x, .int y]) (rest := [.ref o]) ⟨hx, hb, hml, hown, hg⟩ (c_sendsKept l o r f a g h0 x y) (cwV 2 hg (kgV wt7_120 wt7_122 wp6_6 wt1_14 wt7_123) rfl rfl rfl (by decide +kernel) ⟨by decide, by decide⟩) hK hP hD hS hA mIs [] rfl (wr := []) rfl rfl rfl (fun i h => by cases h) 0 12 rfl rfl rfl hl.1 rfl (Nat.le_of_ble_eq_true rfl) dX12_send_4 ⟨by decide, by decide⟩ (fun v3 u2 H locs hw1 hP hD hS => ?_)
  have hP : va_P D vwCl (mW K o r f a g) H := hP
  have hD : va_D A (mW K o r f a g) := hD
  refine k_top (z := (-2)) (hw1) ?_
  refine kI.callV (As := [.int (-2)]) (rest := []) ⟨hx, hb, hml, hown, hg⟩ (c_goodOr2 l o r f a g  ) (cwV 1 hg (kgV wt7_128 wt7_130 wp6_8 wt1_14 wt7_131) rfl rfl rfl (by decide +kernel) ⟨by decide, by decide⟩) hK hP hD hS hA mIs [] rfl (wr := []) rfl rfl rfl (fun i h => by cases h) 0 12 rfl rfl rfl hl.1 rfl (Nat.le_of_ble_eq_true rfl) dX12_send_7 ⟨by decide, by decide⟩ (fun v6 u5 H locs hw4 hP hD hS => ?_)
  obtain ⟨f7, a8, g9⟩ := u5
  have hP : va_P D vwCl (mW K o r f7 a8 g9) H := hP
  have hD : va_D A (mW K o r f7 a8 g9) := hD
  refine k_top (z := (-2)) (hw4) ?_
  exact kI_ret (v := (-2)) hx hb hr hlocks rfl hK hS dX12_send_10 (f7, a8, g9) hP hD rfl
set_option maxHeartbeats 4000000 in
set_option maxRecDepth 100000 in
theorem c_rest (l : Launch) {D : va_G} {K : Nat → ClassId} (o : Nat) (r : Nat → Nat) (f : Nat → Int32) (a : Nat → Nat → Int32) (g : Nat → Int64) (h0 : a 2 103 = 0) (x : Int32)  : kI l yX12_rest (Cond.code yX12_rest cX12_rest 2 (some .int) :: kG) (rmD 4 0 0) D (tysK K) [.ref o, .int x] (mW K o r f a g) (fun v (u : mS) => v = (-2)) (fun u => mW K o r u.1 u.2.1 u.2.2) 0 0 := by
  refine kI.of (cc := cX12_rest) (maxL := 2) (ret := (some .int)) (by decide) rfl (Nat.le_of_ble_eq_true rfl) ?_
  intro p e s m below meth c A hx hb hr hml hown hts hlocks hnm hK hP hD hS hA ls hl
  have hg : ∀ w ∈ kG, w.before _ s = true := fun w h => hts w (List.mem_cons_of_mem _ h)
  have hown : s.vm.findClass RX12 = some m.cls := hown
  have hl : lv_has ls 2 [(0, .ref o), (1, .int x)] := hl
  refine lv_aload_n hx hb dX12_rest_0 rfl (lv_at hl 0 rfl) ?_
  refine lv_aload_n hx hb dX12_rest_1 rfl (lv_at hl 0 rfl) ?_
  refine lv_iload_n hx hb dX12_rest_2 rfl (lv_at hl 1 rfl) ?_
  refine kI.callV (As := [.int x]) (rest := [.ref o]) ⟨hx, hb, hml, hown, hg⟩ (c_restsKept l o r f a g h0 x) (cwV 1 hg (kgV wt7_136 wt7_138 wp6_9 wt1_14 wt7_139) rfl rfl rfl (by decide +kernel) ⟨by decide, by decide⟩) hK hP hD hS hA mIs [] rfl (wr := []) rfl rfl rfl (fun i h => by cases h) 0 12 rfl rfl rfl hl.1 rfl (Nat.le_of_ble_eq_true rfl) dX12_rest_3 ⟨by decide, by decide⟩ (fun v3 u2 H locs hw1 hP hD hS => ?_)
  have hP : va_P D vwCl (mW K o r f a g) H := hP
  have hD : va_D A (mW K o r f a g) := hD
  refine k_top (z := (-2)) (hw1) ?_
  refine kI.callV (As := [.int (-2)]) (rest := []) ⟨hx, hb, hml, hown, hg⟩ (c_goodOr2 l o r f a g  ) (cwV 1 hg (kgV wt7_128 wt7_130 wp6_8 wt1_14 wt7_131) rfl rfl rfl (by decide +kernel) ⟨by decide, by decide⟩) hK hP hD hS hA mIs [] rfl (wr := []) rfl rfl rfl (fun i h => by cases h) 0 12 rfl rfl rfl hl.1 rfl (Nat.le_of_ble_eq_true rfl) dX12_rest_6 ⟨by decide, by decide⟩ (fun v6 u5 H locs hw4 hP hD hS => ?_)
  obtain ⟨f7, a8, g9⟩ := u5
  have hP : va_P D vwCl (mW K o r f7 a8 g9) H := hP
  have hD : va_D A (mW K o r f7 a8 g9) := hD
  refine k_top (z := (-2)) (hw4) ?_
  exact kI_ret (v := (-2)) hx hb hr hlocks rfl hK hS dX12_rest_9 (f7, a8, g9) hP hD rfl
set_option maxHeartbeats 4000000 in
set_option maxRecDepth 100000 in
theorem c_throwDown (l : Launch) {D : va_G} {K : Nat → ClassId} (o : Nat) (r : Nat → Nat) (f : Nat → Int32) (a : Nat → Nat → Int32) (g : Nat → Int64) (h0 : a 2 102 = 0) (x : Int32)  : kI l yX12_throwDown (Cond.code yX12_throwDown cX12_throwDown 2 (some .int) :: kG) (rmD 4 0 0) D (tysK K) [.ref o, .int x] (mW K o r f a g) (fun v (u : mS) => v = (-2)) (fun u => mW K o r u.1 u.2.1 u.2.2) 0 0 := by
  refine kI.of (cc := cX12_throwDown) (maxL := 2) (ret := (some .int)) (by decide) rfl (Nat.le_of_ble_eq_true rfl) ?_
  intro p e s m below meth c A hx hb hr hml hown hts hlocks hnm hK hP hD hS hA ls hl
  have hg : ∀ w ∈ kG, w.before _ s = true := fun w h => hts w (List.mem_cons_of_mem _ h)
  have hown : s.vm.findClass RX12 = some m.cls := hown
  have hl : lv_has ls 2 [(0, .ref o), (1, .int x)] := hl
  refine lv_aload_n hx hb dX12_throwDown_0 rfl (lv_at hl 0 rfl) ?_
  refine lv_aload_n hx hb dX12_throwDown_1 rfl (lv_at hl 0 rfl) ?_
  refine lv_iload_n hx hb dX12_throwDown_2 rfl (lv_at hl 1 rfl) ?_
  refine kI.callV (As := [.int x]) (rest := [.ref o]) ⟨hx, hb, hml, hown, hg⟩ (c_throwsKept l o r f a g h0 x) (cwV 1 hg (kgV wt7_144 wt7_146 wp6_10 wt1_14 wt7_147) rfl rfl rfl (by decide +kernel) ⟨by decide, by decide⟩) hK hP hD hS hA mIs [] rfl (wr := []) rfl rfl rfl (fun i h => by cases h) 0 12 rfl rfl rfl hl.1 rfl (Nat.le_of_ble_eq_true rfl) dX12_throwDown_3 ⟨by decide, by decide⟩ (fun v3 u2 H locs hw1 hP hD hS => ?_)
  have hP : va_P D vwCl (mW K o r f a g) H := hP
  have hD : va_D A (mW K o r f a g) := hD
  refine k_top (z := (-2)) (hw1) ?_
  refine kI.callV (As := [.int (-2)]) (rest := []) ⟨hx, hb, hml, hown, hg⟩ (c_goodOr2 l o r f a g  ) (cwV 1 hg (kgV wt7_128 wt7_130 wp6_8 wt1_14 wt7_131) rfl rfl rfl (by decide +kernel) ⟨by decide, by decide⟩) hK hP hD hS hA mIs [] rfl (wr := []) rfl rfl rfl (fun i h => by cases h) 0 12 rfl rfl rfl hl.1 rfl (Nat.le_of_ble_eq_true rfl) dX12_throwDown_6 ⟨by decide, by decide⟩ (fun v6 u5 H locs hw4 hP hD hS => ?_)
  obtain ⟨f7, a8, g9⟩ := u5
  have hP : va_P D vwCl (mW K o r f7 a8 g9) H := hP
  have hD : va_D A (mW K o r f7 a8 g9) := hD
  refine k_top (z := (-2)) (hw4) ?_
  exact kI_ret (v := (-2)) hx hb hr hlocks rfl hK hS dX12_throwDown_9 (f7, a8, g9) hP hD rfl
end
section
set_option maxHeartbeats 4000000 in
set_option maxRecDepth 100000 in
theorem c_undo (l : Launch) {D : va_G} {K : Nat → ClassId} (o : Nat) (r : Nat → Nat) (f : Nat → Int32) (a : Nat → Nat → Int32) (g : Nat → Int64) (h0 : f 33 = 0)   : kI l yX12_undo (Cond.code yX12_undo cX12_undo 3 (some .int) :: kG) (rmD 2 0 0) D (tysK K) [.ref o] (mW K o r f a g) (fun v (u : mS) => v = (-3)) (fun u => mW K o r u.1 u.2.1 u.2.2) 0 0 := by
  refine kI.of (cc := cX12_undo) (maxL := 3) (ret := (some .int)) (by decide) rfl (Nat.le_of_ble_eq_true rfl) ?_
  intro p e s m below meth c A hx hb hr hml hown hts hlocks hnm hK hP hD hS hA ls hl
  have hg : ∀ w ∈ kG, w.before _ s = true := fun w h => hts w (List.mem_cons_of_mem _ h)
  have hown : s.vm.findClass RX12 = some m.cls := hown
  have hl : lv_has ls 3 [(0, .ref o)] := hl
  refine lv_aload_n hx hb dX12_undo_0 rfl (lv_at hl 0 rfl) ?_
  refine va_get (D := D) (ci := 12) (v := .int (f 33)) (C := RX12) (T := TX12) (N := 48) hx hb hg inC12 hown hK hP 0 rfl rfl 33 (by decide) (hg _ wt5_193) (fun _ h9 => h9) rfl dX12_undo_1 ?_
  refine k_top (z := 0) h0 ?_
  refine lv_if_ne (tgt := 14) hx hb dX12_undo_4 (by decide) (fun c1 => absurd (by decide +kernel) c1) (fun c1 => ?_)
  refine lv_aload_n hx hb dX12_undo_7 rfl (lv_at hl 0 rfl) ?_
  refine lv_bipush (v := (-3)) hx hb dX12_undo_8 (by decide) ?_
  refine kI.callV (As := [.int (-3)]) (rest := []) ⟨hx, hb, hml, hown, hg⟩ (c_refuses3 l o r f a g  ) (cwV 1 hg (kgV wt6_72 wt6_74 wp3_5 wt1_14 wt6_75) rfl rfl rfl (by decide +kernel) ⟨by decide, by decide⟩) hK hP hD hS hA mIs [] rfl (wr := []) rfl rfl rfl (fun i h => by cases h) 0 12 rfl rfl rfl hl.1 rfl (Nat.le_of_ble_eq_true rfl) dX12_undo_10 ⟨by decide, by decide⟩ (fun v4 u3 H locs hw2 hP hD hS => ?_)
  obtain ⟨f5, a6, g7⟩ := u3
  have hP : va_P D vwCl (mW K o r f5 a6 g7) H := hP
  have hD : va_D A (mW K o r f5 a6 g7) := hD
  refine k_top (z := (-3)) (hw2) ?_
  exact kI_ret (v := (-3)) hx hb hr hlocks rfl hK hS dX12_undo_13 (f5, a6, g7) hP hD rfl
set_option maxHeartbeats 4000000 in
set_option maxRecDepth 100000 in
theorem c_laysChains (l : Launch) {D : va_G} {K : Nat → ClassId} (o : Nat) (r : Nat → Nat) (f : Nat → Int32) (a : Nat → Nat → Int32) (g : Nat → Int64) (h0 : a 2 102 = 0)   : kV l yX12_laysChains (Cond.code yX12_laysChains cX12_laysChains 4 none :: kG) (rmD 1 0 0) D (tysK K) [.ref o] (mW K o r f a g) (fun (_ : Unit) => True) (fun _ => mW K o r f a g) 0 0 := by
  refine kV.of (cc := cX12_laysChains) (maxL := 4) (ret := none) (by decide) rfl (Nat.le_of_ble_eq_true rfl) ?_
  intro p e s m below meth c A hx hb hr hml hown hts hlocks hnm hK hP hD hS hA ls hl
  have hg : ∀ w ∈ kG, w.before _ s = true := fun w h => hts w (List.mem_cons_of_mem _ h)
  have hown : s.vm.findClass RX12 = some m.cls := hown
  have hl : lv_has ls 4 [(0, .ref o)] := hl
  refine lv_aload_n hx hb dX12_laysChains_0 rfl (lv_at hl 0 rfl) ?_
  refine va_get (D := D) (ci := 12) (v := .ref (r 2)) (C := RX12) (T := TX12) (N := 48) hx hb hg inC12 hown hK hP 0 rfl rfl 2 (by decide) (hg _ wt5_162) (fun _ h9 => h9) rfl dX12_laysChains_1 ?_
  refine lv_bipush (v := 102) hx hb dX12_laysChains_4 (by decide) ?_
  refine va_iald hx hb hK hP 2 0 rfl rfl (k_in (by decide +kernel)) dX12_laysChains_6 ?_
  refine k_top (z := 0) (by rw [cl_102]; exact h0) ?_
  refine lv_iconst (v := 1) hx hb dX12_laysChains_7 (by decide) ?_
  refine lv_isub hx hb dX12_laysChains_8 ?_
  refine k_top (z := (-1)) (by decide +kernel) ?_
  refine lv_istore_n (lv' := [(1, .int (-1)), (0, .ref o)]) hx hb dX12_laysChains_9 rfl hl (by decide) rfl (fun ls hl => ?_)
  refine lv_iload_n hx hb dX12_laysChains_10 rfl (lv_at hl 0 rfl) ?_
  refine lv_if_lt (tgt := 94) hx hb dX12_laysChains_11 (by decide) (fun c1 => ?_) (fun c1 => absurd (by decide +kernel) c1)
  exact kV_ret hx hb hr hlocks hK hS dX12_laysChains_94 () hP hD trivial
set_option maxHeartbeats 4000000 in
set_option maxRecDepth 100000 in
theorem c_longest (l : Launch) {D : va_G} {K : Nat → ClassId} (o : Nat) (r : Nat → Nat) (f : Nat → Int32) (a : Nat → Nat → Int32) (g : Nat → Int64) (h0 : a 2 102 = 0)   : kI l yX12_longest (Cond.code yX12_longest cX12_longest 3 (some .int) :: kG) (rmD 2 0 0) D (tysK K) [.ref o] (mW K o r f a g) (fun v (_ : Unit) => v = 0) (fun _ => mW K o r f a g) 0 0 := by
  refine kI.of (cc := cX12_longest) (maxL := 3) (ret := (some .int)) (by decide) rfl (Nat.le_of_ble_eq_true rfl) ?_
  intro p e s m below meth c A hx hb hr hml hown hts hlocks hnm hK hP hD hS hA ls hl
  have hg : ∀ w ∈ kG, w.before _ s = true := fun w h => hts w (List.mem_cons_of_mem _ h)
  have hown : s.vm.findClass RX12 = some m.cls := hown
  have hl : lv_has ls 3 [(0, .ref o)] := hl
  refine lv_aload_n hx hb dX12_longest_0 rfl (lv_at hl 0 rfl) ?_
  refine kV.callV (As := []) (rest := []) ⟨hx, hb, hml, hown, hg⟩ (c_laysChains l o r f a g h0 ) (cwV 0 hg (kgV wt6_120 wt6_122 wp3_14 wt1_14 wt6_123) rfl rfl rfl (by decide +kernel) ⟨by decide, by decide⟩) hK hP hD hS hA mIs [] rfl (wr := []) rfl rfl rfl (fun i h => by cases h) 0 12 rfl rfl rfl hl.1 rfl (Nat.le_of_ble_eq_true rfl) dX12_longest_1 ⟨by decide, by decide⟩ (fun u2 H locs hw1 hP hD hS => ?_)
  have hP : va_P D vwCl (mW K o r f a g) H := hP
  have hD : va_D A (mW K o r f a g) := hD
  refine lv_iconst (v := 0) hx hb dX12_longest_4 (by decide) ?_
  refine lv_istore_n (lv' := [(1, .int 0), (0, .ref o)]) hx hb dX12_longest_5 rfl hl (by decide) rfl (fun ls hl => ?_)
  refine lv_iconst (v := 0) hx hb dX12_longest_6 (by decide) ?_
  refine lv_istore_n (lv' := [(2, .int 0), (1, .int 0), (0, .ref o)]) hx hb dX12_longest_7 rfl hl (by decide) rfl (fun ls hl => ?_)
  refine lv_iload_n hx hb dX12_longest_8 rfl (lv_at hl 0 rfl) ?_
  refine lv_aload_n hx hb dX12_longest_9 rfl (lv_at hl 2 rfl) ?_
  refine va_get (D := D) (ci := 12) (v := .ref (r 2)) (C := RX12) (T := TX12) (N := 48) hx hb hg inC12 hown hK hP 0 rfl rfl 2 (by decide) (hg _ wt5_162) (fun _ h9 => h9) rfl dX12_longest_10 ?_
  refine lv_bipush (v := 102) hx hb dX12_longest_13 (by decide) ?_
  refine va_iald hx hb hK hP 2 0 rfl rfl (k_in (by decide +kernel)) dX12_longest_15 ?_
  refine k_top (z := 0) (by rw [cl_102]; exact h0) ?_
  refine lv_icmp_ge (tgt := 36) hx hb dX12_longest_16 (by decide) (fun c4 => ?_) (fun c4 => absurd (by decide +kernel) c4)
  refine lv_iload_n hx hb dX12_longest_36 rfl (lv_at hl 1 rfl) ?_
  exact kI_ret (v := 0) hx hb hr hlocks rfl hK hS dX12_longest_37 () hP hD rfl
set_option maxHeartbeats 4000000 in
set_option maxRecDepth 100000 in
theorem c_laysOrders (l : Launch) {D : va_G} {K : Nat → ClassId} (o : Nat) (r : Nat → Nat) (f : Nat → Int32) (a : Nat → Nat → Int32) (g : Nat → Int64) (h0 : a 2 102 = 0)   : kV l yX12_laysOrders (Cond.code yX12_laysOrders cX12_laysOrders 5 none :: kG) (rmD 2 0 0) D (tysK K) [.ref o] (mW K o r f a g) (fun (u : mS) => u.2.1 2 102 = 0 ∧ u.2.1 35 0 = 1) (fun u => mW K o r u.1 u.2.1 u.2.2) 0 0 := by
  refine kV.of (cc := cX12_laysOrders) (maxL := 5) (ret := none) (by decide) rfl (Nat.le_of_ble_eq_true rfl) ?_
  intro p e s m below meth c A hx hb hr hml hown hts hlocks hnm hK hP hD hS hA ls hl
  have hg : ∀ w ∈ kG, w.before _ s = true := fun w h => hts w (List.mem_cons_of_mem _ h)
  have hown : s.vm.findClass RX12 = some m.cls := hown
  have hl : lv_has ls 5 [(0, .ref o)] := hl
  refine lv_aload_n hx hb dX12_laysOrders_0 rfl (lv_at hl 0 rfl) ?_
  refine kI.callV (As := []) (rest := []) ⟨hx, hb, hml, hown, hg⟩ (c_allParts l o r f a g h0 ) (cwV 0 hg (kgV wt7_187 wt7_189 wp7_1 wt1_14 wt7_190) rfl rfl rfl (by decide +kernel) ⟨by decide, by decide⟩) hK hP hD hS hA mIs [] rfl (wr := []) rfl rfl rfl (fun i h => by cases h) 0 12 rfl rfl rfl hl.1 rfl (Nat.le_of_ble_eq_true rfl) dX12_laysOrders_1 ⟨by decide, by decide⟩ (fun v3 u2 H locs hw1 hP hD hS => ?_)
  have hP : va_P D vwCl (mW K o r f a g) H := hP
  have hD : va_D A (mW K o r f a g) := hD
  refine k_top (z := 0) (hw1) ?_
  refine lv_istore_n (lv' := [(1, .int 0), (0, .ref o)]) hx hb dX12_laysOrders_4 rfl hl (by decide) rfl (fun ls hl => ?_)
  refine lv_aload_n hx hb dX12_laysOrders_5 rfl (lv_at hl 1 rfl) ?_
  refine va_get (D := D) (ci := 12) (v := .ref (r 35)) (C := RX12) (T := TX12) (N := 48) hx hb hg inC12 hown hK hP 0 rfl rfl 35 (by decide) (hg _ wt5_195) (fun _ h9 => h9) rfl dX12_laysOrders_6 ?_
  refine lv_iload_n hx hb dX12_laysOrders_9 rfl (lv_at hl 0 rfl) ?_
  refine lv_iconst (v := 1) hx hb dX12_laysOrders_10 (by decide) ?_
  refine va_iast hx hb hK hP hD hS 18 0 rfl rfl (k_in (by decide +kernel)) dX12_laysOrders_11 (fun H locs hP hD hS => ?_)
  rw [cl_0] at hP hD
  have hP : va_P D vwCl (mW K o r f (va_up a 35 (upd (a 35) 0 1)) g) H := hP
  have hD : va_D A (mW K o r f (va_up a 35 (upd (a 35) 0 1)) g) := hD
  generalize ea_4 : va_up a 35 (upd (a 35) 0 1) = a_4 at hP hD
  refine lv_iload_n hx hb dX12_laysOrders_12 rfl (lv_at hl 0 rfl) ?_
  refine lv_iconst (v := 1) hx hb dX12_laysOrders_13 (by decide) ?_
  refine lv_isub hx hb dX12_laysOrders_14 ?_
  refine k_top (z := (-1)) (by decide +kernel) ?_
  refine lv_istore_n (lv' := [(2, .int (-1)), (1, .int 0), (0, .ref o)]) hx hb dX12_laysOrders_15 rfl hl (by decide) rfl (fun ls hl => ?_)
  refine lv_iload_n hx hb dX12_laysOrders_16 rfl (lv_at hl 0 rfl) ?_
  refine lv_if_lt (tgt := 84) hx hb dX12_laysOrders_17 (by decide) (fun c5 => ?_) (fun c5 => absurd (by decide +kernel) c5)
  exact kV_ret hx hb hr hlocks hK hS dX12_laysOrders_84 (f, a_4, g) hP hD ⟨((show a_4 2 102 = a 2 102 from by rw [← ea_4]; rfl).trans h0), (show a_4 35 0 = 1 from by rw [← ea_4]; rfl)⟩
set_option maxHeartbeats 4000000 in
set_option maxRecDepth 100000 in
theorem c_drawn (l : Launch) {D : va_G} {K : Nat → ClassId} (o : Nat) (r : Nat → Nat) (f : Nat → Int32) (a : Nat → Nat → Int32) (g : Nat → Int64) (h0 : f 45 = (-1)) (x : Int32) (y : Int32)  : kI l yX12_drawn (Cond.code yX12_drawn cX12_drawn 3 (some .int) :: kG) (rmD 1 0 0) D (tysK K) [.ref o, .int x, .int y] (mW K o r f a g) (fun v (_ : Unit) => v = (-1)) (fun _ => mW K o r f a g) 0 0 := by
  refine kI.of (cc := cX12_drawn) (maxL := 3) (ret := (some .int)) (by decide) rfl (Nat.le_of_ble_eq_true rfl) ?_
  intro p e s m below meth c A hx hb hr hml hown hts hlocks hnm hK hP hD hS hA ls hl
  have hg : ∀ w ∈ kG, w.before _ s = true := fun w h => hts w (List.mem_cons_of_mem _ h)
  have hown : s.vm.findClass RX12 = some m.cls := hown
  have hl : lv_has ls 3 [(0, .ref o), (1, .int x), (2, .int y)] := hl
  refine lv_aload_n hx hb dX12_drawn_0 rfl (lv_at hl 0 rfl) ?_
  refine va_get (D := D) (ci := 12) (v := .int (f 45)) (C := RX12) (T := TX12) (N := 48) hx hb hg inC12 hown hK hP 0 rfl rfl 45 (by decide) (hg _ wt5_205) (fun _ h9 => h9) rfl dX12_drawn_1 ?_
  refine k_top (z := (-1)) h0 ?_
  refine lv_iconst (v := (-1)) hx hb dX12_drawn_4 (by decide) ?_
  refine lv_icmp_eq (tgt := 42) hx hb dX12_drawn_5 (by decide) (fun c1 => ?_) (fun c1 => absurd (by decide +kernel) c1)
  refine lv_iconst (v := (-1)) hx hb dX12_drawn_42 (by decide) ?_
  exact kI_ret (v := (-1)) hx hb hr hlocks rfl hK hS dX12_drawn_43 () hP hD rfl
set_option maxHeartbeats 4000000 in
set_option maxRecDepth 100000 in
theorem c_sight (l : Launch) {D : va_G} {K : Nat → ClassId} (o : Nat) (r : Nat → Nat) (f : Nat → Int32) (a : Nat → Nat → Int32) (g : Nat → Int64) (h0 : a 2 102 = 0) (x : Int32) (y : Int32) (z : Int32)  : kI l yX12_sight (Cond.code yX12_sight cX12_sight 5 (some .int) :: kG) (rmD 3 0 0) D (tysK K) [.ref o, .int x, .int y, .int z] (mW K o r f a g) (fun v (u : mS) => v = (if mLies x 0 99 = 0 then (-1 : Int32) else if mLies z 0 1 = 0 then -1 else -2)) (fun u => mW K o r u.1 u.2.1 u.2.2) 0 0 := by
  refine kI.of (cc := cX12_sight) (maxL := 5) (ret := (some .int)) (by decide) rfl (Nat.le_of_ble_eq_true rfl) ?_
  intro p e s m below meth c A hx hb hr hml hown hts hlocks hnm hK hP hD hS hA ls hl
  have hg : ∀ w ∈ kG, w.before _ s = true := fun w h => hts w (List.mem_cons_of_mem _ h)
  have hown : s.vm.findClass RX12 = some m.cls := hown
  have hl : lv_has ls 5 [(0, .ref o), (1, .int x), (2, .int y), (3, .int z)] := hl
  refine lv_iload_n hx hb dX12_sight_0 rfl (lv_at hl 1 rfl) ?_
  refine lv_iconst (v := 0) hx hb dX12_sight_1 (by decide) ?_
  refine lv_bipush (v := 99) hx hb dX12_sight_2 (by decide) ?_
  refine kN.callS (As := [.int x, .int 0, .int 99]) (rest := []) ⟨hx, hb, hml, hown, hg⟩ (c_lies l x 0 99) (va_cwS 3 hg (kgS wt6_69 wt6_70 wt1_14 wt6_71) rfl rfl rfl (by decide +kernel) ⟨by decide, by decide⟩) hP hS rfl hl.1 rfl (Nat.le_of_ble_eq_true rfl) dX12_sight_4 ⟨by decide, by decide⟩ (fun v2 H locs hw1 hP hS => ?_)
  refine k_top (z := mLies x 0 99) hw1 ?_
  refine lv_if_eq (tgt := 19) hx hb dX12_sight_7 (by decide) (fun c3 => ?_) (fun c3 => ?_)
  · refine lv_aload_n hx hb dX12_sight_19 rfl (lv_at hl 0 rfl) ?_
    refine lv_iconst (v := (-1)) hx hb dX12_sight_20 (by decide) ?_
    refine kI.callV (As := [.int (-1)]) (rest := []) ⟨hx, hb, hml, hown, hg⟩ (c_refuses1 l o r f a g  ) (cwV 1 hg (kgV wt6_72 wt6_74 wp3_5 wt1_14 wt6_75) rfl rfl rfl (by decide +kernel) ⟨by decide, by decide⟩) hK hP hD hS hA mIs [] rfl (wr := []) rfl rfl rfl (fun i h => by cases h) 0 12 rfl rfl rfl hl.1 rfl (Nat.le_of_ble_eq_true rfl) dX12_sight_21 ⟨by decide, by decide⟩ (fun v6 u5 H locs hw4 hP hD hS => ?_)
    obtain ⟨f7, a8, g9⟩ := u5
    have hP : va_P D vwCl (mW K o r f7 a8 g9) H := hP
    have hD : va_D A (mW K o r f7 a8 g9) := hD
    refine k_top (z := (-1)) (hw4) ?_
    exact kI_ret (v := (-1)) hx hb hr hlocks rfl hK hS dX12_sight_24 (f7, a8, g9) hP hD (by simp [c3])
  · refine lv_iload_n hx hb dX12_sight_10 rfl (lv_at hl 3 rfl) ?_
    refine lv_iconst (v := 0) hx hb dX12_sight_11 (by decide) ?_
    refine lv_iconst (v := 1) hx hb dX12_sight_12 (by decide) ?_
    refine kN.callS (As := [.int z, .int 0, .int 1]) (rest := []) ⟨hx, hb, hml, hown, hg⟩ (c_lies l z 0 1) (va_cwS 3 hg (kgS wt6_69 wt6_70 wt1_14 wt6_71) rfl rfl rfl (by decide +kernel) ⟨by decide, by decide⟩) hP hS rfl hl.1 rfl (Nat.le_of_ble_eq_true rfl) dX12_sight_13 ⟨by decide, by decide⟩ (fun v11 H locs hw10 hP hS => ?_)
    refine k_top (z := mLies z 0 1) hw10 ?_
    refine lv_if_ne (tgt := 25) hx hb dX12_sight_16 (by decide) (fun c12 => ?_) (fun c12 => ?_)
    · refine lv_aload_n hx hb dX12_sight_25 rfl (lv_at hl 0 rfl) ?_
      refine lv_iload_n hx hb dX12_sight_26 rfl (lv_at hl 2 rfl) ?_
      refine kI.callV (As := [.int y]) (rest := []) ⟨hx, hb, hml, hown, hg⟩ (c_isPart l o r f a g h0 y) (cwV 1 hg (kgV wt6_104 wt6_106 wp3_10 wt1_14 wt6_107) rfl rfl rfl (by decide +kernel) ⟨by decide, by decide⟩) hK hP hD hS hA mIs [] rfl (wr := []) rfl rfl rfl (fun i h => by cases h) 0 12 rfl rfl rfl hl.1 rfl (Nat.le_of_ble_eq_true rfl) dX12_sight_27 ⟨by decide, by decide⟩ (fun v15 u14 H locs hw13 hP hD hS => ?_)
      have hP : va_P D vwCl (mW K o r f a g) H := hP
      have hD : va_D A (mW K o r f a g) := hD
      refine k_top (z := 0) (hw13) ?_
      refine lv_if_ne (tgt := 40) hx hb dX12_sight_30 (by decide) (fun c16 => absurd (by decide +kernel) c16) (fun c16 => ?_)
      refine lv_aload_n hx hb dX12_sight_33 rfl (lv_at hl 0 rfl) ?_
      refine lv_bipush (v := (-2)) hx hb dX12_sight_34 (by decide) ?_
      refine kI.callV (As := [.int (-2)]) (rest := []) ⟨hx, hb, hml, hown, hg⟩ (c_refuses2 l o r f a g  ) (cwV 1 hg (kgV wt6_72 wt6_74 wp3_5 wt1_14 wt6_75) rfl rfl rfl (by decide +kernel) ⟨by decide, by decide⟩) hK hP hD hS hA mIs [] rfl (wr := []) rfl rfl rfl (fun i h => by cases h) 0 12 rfl rfl rfl hl.1 rfl (Nat.le_of_ble_eq_true rfl) dX12_sight_36 ⟨by decide, by decide⟩ (fun v19 u18 H locs hw17 hP hD hS => ?_)
      obtain ⟨f20, a21, g22⟩ := u18
      have hP : va_P D vwCl (mW K o r f20 a21 g22) H := hP
      have hD : va_D A (mW K o r f20 a21 g22) := hD
      refine k_top (z := (-2)) (hw17) ?_
      exact kI_ret (v := (-2)) hx hb hr hlocks rfl hK hS dX12_sight_39 (f20, a21, g22) hP hD (by simp [c3, c12])
    · refine lv_aload_n hx hb dX12_sight_19 rfl (lv_at hl 0 rfl) ?_
      refine lv_iconst (v := (-1)) hx hb dX12_sight_20 (by decide) ?_
      refine kI.callV (As := [.int (-1)]) (rest := []) ⟨hx, hb, hml, hown, hg⟩ (c_refuses1 l o r f a g  ) (cwV 1 hg (kgV wt6_72 wt6_74 wp3_5 wt1_14 wt6_75) rfl rfl rfl (by decide +kernel) ⟨by decide, by decide⟩) hK hP hD hS hA mIs [] rfl (wr := []) rfl rfl rfl (fun i h => by cases h) 0 12 rfl rfl rfl hl.1 rfl (Nat.le_of_ble_eq_true rfl) dX12_sight_21 ⟨by decide, by decide⟩ (fun v25 u24 H locs hw23 hP hD hS => ?_)
      obtain ⟨f26, a27, g28⟩ := u24
      have hP : va_P D vwCl (mW K o r f26 a27 g28) H := hP
      have hD : va_D A (mW K o r f26 a27 g28) := hD
      refine k_top (z := (-1)) (hw23) ?_
      exact kI_ret (v := (-1)) hx hb hr hlocks rfl hK hS dX12_sight_24 (f26, a27, g28) hP hD (by simp [c3, c12])
set_option maxHeartbeats 4000000 in
set_option maxRecDepth 100000 in
theorem c_forget (l : Launch) {D : va_G} {K : Nat → ClassId} (o : Nat) (r : Nat → Nat) (f : Nat → Int32) (a : Nat → Nat → Int32) (g : Nat → Int64) (h0 : a 2 104 = 0)   : kI l yX12_forget (Cond.code yX12_forget cX12_forget 2 (some .int) :: kG) (rmD 1 0 0) D (tysK K) [.ref o] (mW K o r f a g) (fun v (u : mS) => v = 0) (fun u => mW K o r u.1 u.2.1 u.2.2) 0 0 := by
  refine kI.of (cc := cX12_forget) (maxL := 2) (ret := (some .int)) (by decide) rfl (Nat.le_of_ble_eq_true rfl) ?_
  intro p e s m below meth c A hx hb hr hml hown hts hlocks hnm hK hP hD hS hA ls hl
  have hg : ∀ w ∈ kG, w.before _ s = true := fun w h => hts w (List.mem_cons_of_mem _ h)
  have hown : s.vm.findClass RX12 = some m.cls := hown
  have hl : lv_has ls 2 [(0, .ref o)] := hl
  refine lv_aload_n hx hb dX12_forget_0 rfl (lv_at hl 0 rfl) ?_
  refine va_get (D := D) (ci := 12) (v := .ref (r 2)) (C := RX12) (T := TX12) (N := 48) hx hb hg inC12 hown hK hP 0 rfl rfl 2 (by decide) (hg _ wt5_162) (fun _ h9 => h9) rfl dX12_forget_1 ?_
  refine lv_bipush (v := 104) hx hb dX12_forget_4 (by decide) ?_
  refine va_iald hx hb hK hP 2 0 rfl rfl (k_in (by decide +kernel)) dX12_forget_6 ?_
  refine k_top (z := 0) (by rw [cl_104]; exact h0) ?_
  refine lv_istore_n (lv' := [(1, .int 0), (0, .ref o)]) hx hb dX12_forget_7 rfl hl (by decide) rfl (fun ls hl => ?_)
  refine lv_aload_n hx hb dX12_forget_8 rfl (lv_at hl 1 rfl) ?_
  refine va_get (D := D) (ci := 12) (v := .ref (r 2)) (C := RX12) (T := TX12) (N := 48) hx hb hg inC12 hown hK hP 0 rfl rfl 2 (by decide) (hg _ wt5_162) (fun _ h9 => h9) rfl dX12_forget_9 ?_
  refine lv_bipush (v := 104) hx hb dX12_forget_12 (by decide) ?_
  refine lv_iconst (v := 0) hx hb dX12_forget_14 (by decide) ?_
  refine va_iast hx hb hK hP hD hS 2 0 rfl rfl (k_in (by decide +kernel)) dX12_forget_15 (fun H locs hP hD hS => ?_)
  rw [cl_104] at hP hD
  have hP : va_P D vwCl (mW K o r f (va_up a 2 (upd (a 2) 104 0)) g) H := hP
  have hD : va_D A (mW K o r f (va_up a 2 (upd (a 2) 104 0)) g) := hD
  generalize ea_1 : va_up a 2 (upd (a 2) 104 0) = a_1 at hP hD
  refine lv_iload_n hx hb dX12_forget_16 rfl (lv_at hl 0 rfl) ?_
  exact kI_ret (v := 0) hx hb hr hlocks rfl hK hS dX12_forget_17 (f, a_1, g) hP hD rfl
set_option maxHeartbeats 4000000 in
set_option maxRecDepth 100000 in
theorem c_laysAside0 (l : Launch) {D : va_G} {K : Nat → ClassId} (o : Nat) (r : Nat → Nat) (f : Nat → Int32) (a : Nat → Nat → Int32) (g : Nat → Int64) (h0 : a 2 102 = 0) (h1 : a 2 103 = 0) (h2 : a 2 104 = 0) (h3 : a 2 99 = 30) (h4 : a 2 100 = 2)   : kV l yX12_laysAside (Cond.code yX12_laysAside cX12_laysAside 3 none :: kG) (rmD 1 0 0) D (tysK K) [.ref o, .int 0] (mW K o r f a g) (fun (u : mS) => u.2.1 2 102 = 0 ∧ u.2.1 2 103 = 0 ∧ u.2.1 2 104 = 0 ∧ u.2.1 2 99 = 30 ∧ u.2.1 2 100 = 2) (fun u => mW K o r u.1 u.2.1 u.2.2) 0 0 := by
  refine kV.of (cc := cX12_laysAside) (maxL := 3) (ret := none) (by decide) rfl (Nat.le_of_ble_eq_true rfl) ?_
  intro p e s m below meth c A hx hb hr hml hown hts hlocks hnm hK hP hD hS hA ls hl
  have hg : ∀ w ∈ kG, w.before _ s = true := fun w h => hts w (List.mem_cons_of_mem _ h)
  have hown : s.vm.findClass RX12 = some m.cls := hown
  have hl : lv_has ls 3 [(0, .ref o), (1, .int 0)] := hl
  refine lv_iconst (v := 0) hx hb dX12_laysAside_0 (by decide) ?_
  refine lv_istore_n (lv' := [(2, .int 0), (0, .ref o), (1, .int 0)]) hx hb dX12_laysAside_1 rfl hl (by decide) rfl (fun ls hl => ?_)
  have lp1 : ∀ (n i : Nat) (F : Nat → Int32) (B : Nat → Nat → Int32) (G : Nat → Int64) (H : Heap) (locs : List Loc) (ls : Array Slot), i + n = 23 → B 2 102 = 0 → B 2 103 = 0 → B 2 104 = 0 → B 2 99 = 30 → B 2 100 = 2 → va_P D vwCl (mW K o r F B G) H → va_D A (mW K o r F B G) → va_S A s.heap H locs → lv_has ls 3 [(2, .int (nI i)), (0, .ref o), (1, .int 0)] → W p l e (rmD 1 0 0) s m ([.ref o, .int 0] : List Value).toArray below meth c H locs 0 0 (kQv D (tysK K) (fun (u : mS) => u.2.1 2 102 = 0 ∧ u.2.1 2 103 = 0 ∧ u.2.1 2 104 = 0 ∧ u.2.1 2 99 = 30 ∧ u.2.1 2 100 = 2) (fun u => mW K o r u.1 u.2.1 u.2.2) A below ([.ref o, .int 0] : List Value).toArray s 0 0) (F0 m 2 ls []) := by
    intro n
    induction n with
    | zero =>
      intro i F B G H locs ls hin z0 z1 z2 z3 z4 hP hD hS hl
      obtain rfl : 23 = i := by omega
      have hl : lv_has ls 3 [(2, .int 23), (0, .ref o), (1, .int 0)] := hl
      refine lv_iload_n hx hb dX12_laysAside_2 rfl (lv_at hl 0 rfl) ?_
      refine lv_bipush (v := 23) hx hb dX12_laysAside_3 (by decide) ?_
      refine lv_icmp_ge (tgt := 31) hx hb dX12_laysAside_5 (by decide) (fun c2 => ?_) (fun c2 => absurd (by decide +kernel) c2)
      exact kV_ret hx hb hr hlocks hK hS dX12_laysAside_31 (F, B, G) hP hD ⟨z0, z1, z2, z3, z4⟩
    | succ n ih =>
      intro i F B G H locs ls hin z0 z1 z2 z3 z4 hP hD hS hl
      have hlt : i < 23 := by omega
      refine lv_iload_n hx hb dX12_laysAside_2 rfl (lv_at hl 0 rfl) ?_
      refine lv_bipush (v := 23) hx hb dX12_laysAside_3 (by decide) ?_
      refine lv_icmp_ge (tgt := 31) hx hb dX12_laysAside_5 (by decide) (fun c3 => absurd c3 (nI_ge (b := 23) hlt (by decide))) (fun c3 => ?_)
      refine lv_aload_n hx hb dX12_laysAside_8 rfl (lv_at hl 1 rfl) ?_
      refine va_get (D := D) (ci := 12) (v := .ref (r 5)) (C := RX12) (T := TX12) (N := 48) hx hb hg inC12 hown hK hP 0 rfl rfl 5 (by decide) (hg _ wt5_165) (fun _ h9 => h9) rfl dX12_laysAside_9 ?_
      refine lv_bipush (v := 23) hx hb dX12_laysAside_12 (by decide) ?_
      refine lv_iload_n hx hb dX12_laysAside_14 rfl (lv_at hl 2 rfl) ?_
      refine lv_imul hx hb dX12_laysAside_15 ?_
      refine k_top (z := 0) (by decide +kernel) ?_
      refine lv_iload_n hx hb dX12_laysAside_16 rfl (lv_at hl 0 rfl) ?_
      refine lv_iadd hx hb dX12_laysAside_17 ?_
      refine k_top (z := nI (0 + i)) (nI_add 0 i) ?_
      refine lv_aload_n hx hb dX12_laysAside_18 rfl (lv_at hl 1 rfl) ?_
      refine va_get (D := D) (ci := 12) (v := .ref (r 2)) (C := RX12) (T := TX12) (N := 48) hx hb hg inC12 hown hK hP 0 rfl rfl 2 (by decide) (hg _ wt5_162) (fun _ h9 => h9) rfl dX12_laysAside_19 ?_
      refine lv_iload_n hx hb dX12_laysAside_22 rfl (lv_at hl 0 rfl) ?_
      refine va_iald hx hb hK hP 2 0 rfl rfl (vp_in_nI (by omega) (by decide)) dX12_laysAside_23 ?_
      refine lv_topi (fun t4 et4 => ?_)
      rw [nI_clamp (n := i) (by omega)] at et4
      refine va_iast hx hb hK hP hD hS 5 0 rfl rfl (vp_in_nI (by omega) (by decide)) dX12_laysAside_24 (fun H locs hP hD hS => ?_)
      rw [nI_clamp (n := (0 + i)) (by omega)] at hP hD
      have hP : va_P D vwCl (mW K o r F (va_up B 5 (upd (B 5) (0 + i) t4)) G) H := hP
      have hD : va_D A (mW K o r F (va_up B 5 (upd (B 5) (0 + i) t4)) G) := hD
      generalize ea_5 : va_up B 5 (upd (B 5) (0 + i) t4) = a_5 at hP hD
      refine lv_iinc (v := nI (i + 1)) (lv' := [(2, .int (nI (i + 1))), (0, .ref o), (1, .int 0)]) hx hb dX12_laysAside_25 hl (k := 0) rfl (nI_1 _) (by decide) rfl (fun ls hl => ?_)
      refine lv_goto (tgt := 2) hx hb dX12_laysAside_28 (by decide) ?_
      exact ih (i + 1) F a_5 G _ _ _ (by omega) ((show a_5 2 102 = B 2 102 from by rw [← ea_5]; rfl).trans z0) ((show a_5 2 103 = B 2 103 from by rw [← ea_5]; rfl).trans z1) ((show a_5 2 104 = B 2 104 from by rw [← ea_5]; rfl).trans z2) ((show a_5 2 99 = B 2 99 from by rw [← ea_5]; rfl).trans z3) ((show a_5 2 100 = B 2 100 from by rw [← ea_5]; rfl).trans z4) hP hD hS (lv_sub hl [0, 1, 2] rfl)
  exact lp1 (23 - 0) 0 f a g _ _ _ (by omega) h0 h1 h2 h3 h4 hP hD hS hl
set_option maxHeartbeats 4000000 in
set_option maxRecDepth 100000 in
theorem c_laysAside1 (l : Launch) {D : va_G} {K : Nat → ClassId} (o : Nat) (r : Nat → Nat) (f : Nat → Int32) (a : Nat → Nat → Int32) (g : Nat → Int64) (h0 : a 2 102 = 0) (h1 : a 2 103 = 0) (h2 : a 2 104 = 0) (h3 : a 2 99 = 30) (h4 : a 2 100 = 2)   : kV l yX12_laysAside (Cond.code yX12_laysAside cX12_laysAside 3 none :: kG) (rmD 1 0 0) D (tysK K) [.ref o, .int 1] (mW K o r f a g) (fun (u : mS) => u.2.1 2 102 = 0 ∧ u.2.1 2 103 = 0 ∧ u.2.1 2 104 = 0 ∧ u.2.1 2 99 = 30 ∧ u.2.1 2 100 = 2) (fun u => mW K o r u.1 u.2.1 u.2.2) 0 0 := by
  refine kV.of (cc := cX12_laysAside) (maxL := 3) (ret := none) (by decide) rfl (Nat.le_of_ble_eq_true rfl) ?_
  intro p e s m below meth c A hx hb hr hml hown hts hlocks hnm hK hP hD hS hA ls hl
  have hg : ∀ w ∈ kG, w.before _ s = true := fun w h => hts w (List.mem_cons_of_mem _ h)
  have hown : s.vm.findClass RX12 = some m.cls := hown
  have hl : lv_has ls 3 [(0, .ref o), (1, .int 1)] := hl
  refine lv_iconst (v := 0) hx hb dX12_laysAside_0 (by decide) ?_
  refine lv_istore_n (lv' := [(2, .int 0), (0, .ref o), (1, .int 1)]) hx hb dX12_laysAside_1 rfl hl (by decide) rfl (fun ls hl => ?_)
  have lp1 : ∀ (n i : Nat) (F : Nat → Int32) (B : Nat → Nat → Int32) (G : Nat → Int64) (H : Heap) (locs : List Loc) (ls : Array Slot), i + n = 23 → B 2 102 = 0 → B 2 103 = 0 → B 2 104 = 0 → B 2 99 = 30 → B 2 100 = 2 → va_P D vwCl (mW K o r F B G) H → va_D A (mW K o r F B G) → va_S A s.heap H locs → lv_has ls 3 [(2, .int (nI i)), (0, .ref o), (1, .int 1)] → W p l e (rmD 1 0 0) s m ([.ref o, .int 1] : List Value).toArray below meth c H locs 0 0 (kQv D (tysK K) (fun (u : mS) => u.2.1 2 102 = 0 ∧ u.2.1 2 103 = 0 ∧ u.2.1 2 104 = 0 ∧ u.2.1 2 99 = 30 ∧ u.2.1 2 100 = 2) (fun u => mW K o r u.1 u.2.1 u.2.2) A below ([.ref o, .int 1] : List Value).toArray s 0 0) (F0 m 2 ls []) := by
    intro n
    induction n with
    | zero =>
      intro i F B G H locs ls hin z0 z1 z2 z3 z4 hP hD hS hl
      obtain rfl : 23 = i := by omega
      have hl : lv_has ls 3 [(2, .int 23), (0, .ref o), (1, .int 1)] := hl
      refine lv_iload_n hx hb dX12_laysAside_2 rfl (lv_at hl 0 rfl) ?_
      refine lv_bipush (v := 23) hx hb dX12_laysAside_3 (by decide) ?_
      refine lv_icmp_ge (tgt := 31) hx hb dX12_laysAside_5 (by decide) (fun c2 => ?_) (fun c2 => absurd (by decide +kernel) c2)
      exact kV_ret hx hb hr hlocks hK hS dX12_laysAside_31 (F, B, G) hP hD ⟨z0, z1, z2, z3, z4⟩
    | succ n ih =>
      intro i F B G H locs ls hin z0 z1 z2 z3 z4 hP hD hS hl
      have hlt : i < 23 := by omega
      refine lv_iload_n hx hb dX12_laysAside_2 rfl (lv_at hl 0 rfl) ?_
      refine lv_bipush (v := 23) hx hb dX12_laysAside_3 (by decide) ?_
      refine lv_icmp_ge (tgt := 31) hx hb dX12_laysAside_5 (by decide) (fun c3 => absurd c3 (nI_ge (b := 23) hlt (by decide))) (fun c3 => ?_)
      refine lv_aload_n hx hb dX12_laysAside_8 rfl (lv_at hl 1 rfl) ?_
      refine va_get (D := D) (ci := 12) (v := .ref (r 5)) (C := RX12) (T := TX12) (N := 48) hx hb hg inC12 hown hK hP 0 rfl rfl 5 (by decide) (hg _ wt5_165) (fun _ h9 => h9) rfl dX12_laysAside_9 ?_
      refine lv_bipush (v := 23) hx hb dX12_laysAside_12 (by decide) ?_
      refine lv_iload_n hx hb dX12_laysAside_14 rfl (lv_at hl 2 rfl) ?_
      refine lv_imul hx hb dX12_laysAside_15 ?_
      refine k_top (z := 23) (by decide +kernel) ?_
      refine lv_iload_n hx hb dX12_laysAside_16 rfl (lv_at hl 0 rfl) ?_
      refine lv_iadd hx hb dX12_laysAside_17 ?_
      refine k_top (z := nI (23 + i)) (nI_add 23 i) ?_
      refine lv_aload_n hx hb dX12_laysAside_18 rfl (lv_at hl 1 rfl) ?_
      refine va_get (D := D) (ci := 12) (v := .ref (r 2)) (C := RX12) (T := TX12) (N := 48) hx hb hg inC12 hown hK hP 0 rfl rfl 2 (by decide) (hg _ wt5_162) (fun _ h9 => h9) rfl dX12_laysAside_19 ?_
      refine lv_iload_n hx hb dX12_laysAside_22 rfl (lv_at hl 0 rfl) ?_
      refine va_iald hx hb hK hP 2 0 rfl rfl (vp_in_nI (by omega) (by decide)) dX12_laysAside_23 ?_
      refine lv_topi (fun t4 et4 => ?_)
      rw [nI_clamp (n := i) (by omega)] at et4
      refine va_iast hx hb hK hP hD hS 5 0 rfl rfl (vp_in_nI (by omega) (by decide)) dX12_laysAside_24 (fun H locs hP hD hS => ?_)
      rw [nI_clamp (n := (23 + i)) (by omega)] at hP hD
      have hP : va_P D vwCl (mW K o r F (va_up B 5 (upd (B 5) (23 + i) t4)) G) H := hP
      have hD : va_D A (mW K o r F (va_up B 5 (upd (B 5) (23 + i) t4)) G) := hD
      generalize ea_5 : va_up B 5 (upd (B 5) (23 + i) t4) = a_5 at hP hD
      refine lv_iinc (v := nI (i + 1)) (lv' := [(2, .int (nI (i + 1))), (0, .ref o), (1, .int 1)]) hx hb dX12_laysAside_25 hl (k := 0) rfl (nI_1 _) (by decide) rfl (fun ls hl => ?_)
      refine lv_goto (tgt := 2) hx hb dX12_laysAside_28 (by decide) ?_
      exact ih (i + 1) F a_5 G _ _ _ (by omega) ((show a_5 2 102 = B 2 102 from by rw [← ea_5]; rfl).trans z0) ((show a_5 2 103 = B 2 103 from by rw [← ea_5]; rfl).trans z1) ((show a_5 2 104 = B 2 104 from by rw [← ea_5]; rfl).trans z2) ((show a_5 2 99 = B 2 99 from by rw [← ea_5]; rfl).trans z3) ((show a_5 2 100 = B 2 100 from by rw [← ea_5]; rfl).trans z4) hP hD hS (lv_sub hl [0, 1, 2] rfl)
  exact lp1 (23 - 0) 0 f a g _ _ _ (by omega) h0 h1 h2 h3 h4 hP hD hS hl
set_option maxHeartbeats 4000000 in
set_option maxRecDepth 100000 in
theorem c_takesBack0 (l : Launch) {D : va_G} {K : Nat → ClassId} (o : Nat) (r : Nat → Nat) (f : Nat → Int32) (a : Nat → Nat → Int32) (g : Nat → Int64) (h0 : a 2 102 = 0) (h1 : a 2 103 = 0) (h2 : a 2 104 = 0) (h3 : a 2 99 = 30) (h4 : a 2 100 = 2)   : kV l yX12_takesBack (Cond.code yX12_takesBack cX12_takesBack 3 none :: kG) (rmD 1 0 0) D (tysK K) [.ref o, .int 0] (mW K o r f a g) (fun (u : mS) => u.2.1 2 102 = 0 ∧ u.2.1 2 103 = 0 ∧ u.2.1 2 104 = 0 ∧ u.2.1 2 99 = 30 ∧ u.2.1 2 100 = 2) (fun u => mW K o r u.1 u.2.1 u.2.2) 0 0 := by
  refine kV.of (cc := cX12_takesBack) (maxL := 3) (ret := none) (by decide) rfl (Nat.le_of_ble_eq_true rfl) ?_
  intro p e s m below meth c A hx hb hr hml hown hts hlocks hnm hK hP hD hS hA ls hl
  have hg : ∀ w ∈ kG, w.before _ s = true := fun w h => hts w (List.mem_cons_of_mem _ h)
  have hown : s.vm.findClass RX12 = some m.cls := hown
  have hl : lv_has ls 3 [(0, .ref o), (1, .int 0)] := hl
  refine lv_iconst (v := 0) hx hb dX12_takesBack_0 (by decide) ?_
  refine lv_istore_n (lv' := [(2, .int 0), (0, .ref o), (1, .int 0)]) hx hb dX12_takesBack_1 rfl hl (by decide) rfl (fun ls hl => ?_)
  have lp1 : ∀ (n i : Nat) (F : Nat → Int32) (B : Nat → Nat → Int32) (G : Nat → Int64) (H : Heap) (locs : List Loc) (ls : Array Slot), i + n = 23 → B 2 102 = 0 → B 2 103 = 0 → B 2 104 = 0 → B 2 99 = 30 → B 2 100 = 2 → va_P D vwCl (mW K o r F B G) H → va_D A (mW K o r F B G) → va_S A s.heap H locs → lv_has ls 3 [(2, .int (nI i)), (0, .ref o), (1, .int 0)] → W p l e (rmD 1 0 0) s m ([.ref o, .int 0] : List Value).toArray below meth c H locs 0 0 (kQv D (tysK K) (fun (u : mS) => u.2.1 2 102 = 0 ∧ u.2.1 2 103 = 0 ∧ u.2.1 2 104 = 0 ∧ u.2.1 2 99 = 30 ∧ u.2.1 2 100 = 2) (fun u => mW K o r u.1 u.2.1 u.2.2) A below ([.ref o, .int 0] : List Value).toArray s 0 0) (F0 m 2 ls []) := by
    intro n
    induction n with
    | zero =>
      intro i F B G H locs ls hin z0 z1 z2 z3 z4 hP hD hS hl
      obtain rfl : 23 = i := by omega
      have hl : lv_has ls 3 [(2, .int 23), (0, .ref o), (1, .int 0)] := hl
      refine lv_iload_n hx hb dX12_takesBack_2 rfl (lv_at hl 0 rfl) ?_
      refine lv_bipush (v := 23) hx hb dX12_takesBack_3 (by decide) ?_
      refine lv_icmp_ge (tgt := 31) hx hb dX12_takesBack_5 (by decide) (fun c2 => ?_) (fun c2 => absurd (by decide +kernel) c2)
      exact kV_ret hx hb hr hlocks hK hS dX12_takesBack_31 (F, B, G) hP hD ⟨z0, z1, z2, z3, z4⟩
    | succ n ih =>
      intro i F B G H locs ls hin z0 z1 z2 z3 z4 hP hD hS hl
      have hlt : i < 23 := by omega
      refine lv_iload_n hx hb dX12_takesBack_2 rfl (lv_at hl 0 rfl) ?_
      refine lv_bipush (v := 23) hx hb dX12_takesBack_3 (by decide) ?_
      refine lv_icmp_ge (tgt := 31) hx hb dX12_takesBack_5 (by decide) (fun c3 => absurd c3 (nI_ge (b := 23) hlt (by decide))) (fun c3 => ?_)
      refine lv_aload_n hx hb dX12_takesBack_8 rfl (lv_at hl 1 rfl) ?_
      refine va_get (D := D) (ci := 12) (v := .ref (r 2)) (C := RX12) (T := TX12) (N := 48) hx hb hg inC12 hown hK hP 0 rfl rfl 2 (by decide) (hg _ wt5_162) (fun _ h9 => h9) rfl dX12_takesBack_9 ?_
      refine lv_iload_n hx hb dX12_takesBack_12 rfl (lv_at hl 0 rfl) ?_
      refine lv_aload_n hx hb dX12_takesBack_13 rfl (lv_at hl 1 rfl) ?_
      refine va_get (D := D) (ci := 12) (v := .ref (r 5)) (C := RX12) (T := TX12) (N := 48) hx hb hg inC12 hown hK hP 0 rfl rfl 5 (by decide) (hg _ wt5_165) (fun _ h9 => h9) rfl dX12_takesBack_14 ?_
      refine lv_bipush (v := 23) hx hb dX12_takesBack_17 (by decide) ?_
      refine lv_iload_n hx hb dX12_takesBack_19 rfl (lv_at hl 2 rfl) ?_
      refine lv_imul hx hb dX12_takesBack_20 ?_
      refine k_top (z := 0) (by decide +kernel) ?_
      refine lv_iload_n hx hb dX12_takesBack_21 rfl (lv_at hl 0 rfl) ?_
      refine lv_iadd hx hb dX12_takesBack_22 ?_
      refine k_top (z := nI (0 + i)) (nI_add 0 i) ?_
      refine va_iald hx hb hK hP 5 0 rfl rfl (vp_in_nI (by omega) (by decide)) dX12_takesBack_23 ?_
      refine lv_topi (fun t4 et4 => ?_)
      rw [nI_clamp (n := (0 + i)) (by omega)] at et4
      refine va_iast hx hb hK hP hD hS 2 0 rfl rfl (vp_in_nI (by omega) (by decide)) dX12_takesBack_24 (fun H locs hP hD hS => ?_)
      rw [nI_clamp (n := i) (by omega)] at hP hD
      have hP : va_P D vwCl (mW K o r F (va_up B 2 (upd (B 2) i t4)) G) H := hP
      have hD : va_D A (mW K o r F (va_up B 2 (upd (B 2) i t4)) G) := hD
      generalize ea_5 : va_up B 2 (upd (B 2) i t4) = a_5 at hP hD
      refine lv_iinc (v := nI (i + 1)) (lv' := [(2, .int (nI (i + 1))), (0, .ref o), (1, .int 0)]) hx hb dX12_takesBack_25 hl (k := 0) rfl (nI_1 _) (by decide) rfl (fun ls hl => ?_)
      refine lv_goto (tgt := 2) hx hb dX12_takesBack_28 (by decide) ?_
      exact ih (i + 1) F a_5 G _ _ _ (by omega) ((show a_5 2 102 = B 2 102 from by rw [← ea_5]; exact pk_un (by omega)).trans z0) ((show a_5 2 103 = B 2 103 from by rw [← ea_5]; exact pk_un (by omega)).trans z1) ((show a_5 2 104 = B 2 104 from by rw [← ea_5]; exact pk_un (by omega)).trans z2) ((show a_5 2 99 = B 2 99 from by rw [← ea_5]; exact pk_un (by omega)).trans z3) ((show a_5 2 100 = B 2 100 from by rw [← ea_5]; exact pk_un (by omega)).trans z4) hP hD hS (lv_sub hl [0, 1, 2] rfl)
  exact lp1 (23 - 0) 0 f a g _ _ _ (by omega) h0 h1 h2 h3 h4 hP hD hS hl
set_option maxHeartbeats 4000000 in
set_option maxRecDepth 100000 in
theorem c_begins (l : Launch) {D : va_G} {K : Nat → ClassId} (o : Nat) (r : Nat → Nat) (f : Nat → Int32) (a : Nat → Nat → Int32) (g : Nat → Int64) (h0 : a 2 102 = 0) (h1 : a 2 103 = 0) (h2 : a 2 104 = 0) (h3 : a 2 99 = 30) (h4 : a 2 100 = 2)   : kV l yX12_begins (Cond.code yX12_begins cX12_begins 2 none :: kG) (rmD 2 0 0) D (tysK K) [.ref o] (mW K o r f a g) (fun (u : mS) => u.2.1 2 102 = 0 ∧ u.2.1 2 103 = 0 ∧ u.2.1 2 104 = 0 ∧ u.2.1 2 99 = 30 ∧ u.2.1 2 100 = 2) (fun u => mW K o r u.1 u.2.1 u.2.2) 0 0 := by
  refine kV.of (cc := cX12_begins) (maxL := 2) (ret := none) (by decide) rfl (Nat.le_of_ble_eq_true rfl) ?_
  intro p e s m below meth c A hx hb hr hml hown hts hlocks hnm hK hP hD hS hA ls hl
  have hg : ∀ w ∈ kG, w.before _ s = true := fun w h => hts w (List.mem_cons_of_mem _ h)
  have hown : s.vm.findClass RX12 = some m.cls := hown
  have hl : lv_has ls 2 [(0, .ref o)] := hl
  refine lv_aload_n hx hb dX12_begins_0 rfl (lv_at hl 0 rfl) ?_
  refine lv_iconst (v := 0) hx hb dX12_begins_1 (by decide) ?_
  refine kV.callV (As := [.int 0]) (rest := []) ⟨hx, hb, hml, hown, hg⟩ (c_laysAside0 l o r f a g h0 h1 h2 h3 h4 ) (cwV 1 hg (kgV wt7_207 wt7_209 wp7_5 wt1_14 wt7_210) rfl rfl rfl (by decide +kernel) ⟨by decide, by decide⟩) hK hP hD hS hA mIs [] rfl (wr := []) rfl rfl rfl (fun i h => by cases h) 0 12 rfl rfl rfl hl.1 rfl (Nat.le_of_ble_eq_true rfl) dX12_begins_2 ⟨by decide, by decide⟩ (fun u2 H locs hw1 hP hD hS => ?_)
  obtain ⟨f4, a5, g6⟩ := u2
  have hP : va_P D vwCl (mW K o r f4 a5 g6) H := hP
  have hD : va_D A (mW K o r f4 a5 g6) := hD
  refine lv_iconst (v := 0) hx hb dX12_begins_5 (by decide) ?_
  refine lv_istore_n (lv' := [(1, .int 0), (0, .ref o)]) hx hb dX12_begins_6 rfl hl (by decide) rfl (fun ls hl => ?_)
  have lp7 : ∀ (n i : Nat) (F : Nat → Int32) (B : Nat → Nat → Int32) (G : Nat → Int64) (H : Heap) (locs : List Loc) (ls : Array Slot), i + n = 6 → B 2 102 = 0 → B 2 103 = 0 → B 2 104 = 0 → B 2 99 = 30 → B 2 100 = 2 → va_P D vwCl (mW K o r F B G) H → va_D A (mW K o r F B G) → va_S A s.heap H locs → lv_has ls 2 [(1, .int (nI i)), (0, .ref o)] → W p l e (rmD 2 0 0) s m ([.ref o] : List Value).toArray below meth c H locs 0 0 (kQv D (tysK K) (fun (u : mS) => u.2.1 2 102 = 0 ∧ u.2.1 2 103 = 0 ∧ u.2.1 2 104 = 0 ∧ u.2.1 2 99 = 30 ∧ u.2.1 2 100 = 2) (fun u => mW K o r u.1 u.2.1 u.2.2) A below ([.ref o] : List Value).toArray s 0 0) (F0 m 7 ls []) := by
    intro n
    induction n with
    | zero =>
      intro i F B G H locs ls hin z0 z1 z2 z3 z4 hP hD hS hl
      obtain rfl : 6 = i := by omega
      have hl : lv_has ls 2 [(1, .int 6), (0, .ref o)] := hl
      refine lv_iload_n hx hb dX12_begins_7 rfl (lv_at hl 0 rfl) ?_
      refine lv_bipush (v := 6) hx hb dX12_begins_8 (by decide) ?_
      refine lv_icmp_ge (tgt := 29) hx hb dX12_begins_10 (by decide) (fun c8 => ?_) (fun c8 => absurd (by decide +kernel) c8)
      exact kV_ret hx hb hr hlocks hK hS dX12_begins_29 (F, B, G) hP hD ⟨z0, z1, z2, z3, z4⟩
    | succ n ih =>
      intro i F B G H locs ls hin z0 z1 z2 z3 z4 hP hD hS hl
      have hlt : i < 6 := by omega
      refine lv_iload_n hx hb dX12_begins_7 rfl (lv_at hl 0 rfl) ?_
      refine lv_bipush (v := 6) hx hb dX12_begins_8 (by decide) ?_
      refine lv_icmp_ge (tgt := 29) hx hb dX12_begins_10 (by decide) (fun c9 => absurd c9 (nI_ge (b := 6) hlt (by decide))) (fun c9 => ?_)
      refine lv_aload_n hx hb dX12_begins_13 rfl (lv_at hl 1 rfl) ?_
      refine va_get (D := D) (ci := 12) (v := .ref (r 2)) (C := RX12) (T := TX12) (N := 48) hx hb hg inC12 hown hK hP 0 rfl rfl 2 (by decide) (hg _ wt5_162) (fun _ h9 => h9) rfl dX12_begins_14 ?_
      refine lv_bipush (v := 16) hx hb dX12_begins_17 (by decide) ?_
      refine lv_iload_n hx hb dX12_begins_19 rfl (lv_at hl 0 rfl) ?_
      refine lv_iadd hx hb dX12_begins_20 ?_
      refine k_top (z := nI (16 + i)) (nI_add 16 i) ?_
      refine lv_iconst (v := (-1)) hx hb dX12_begins_21 (by decide) ?_
      refine va_iast hx hb hK hP hD hS 2 0 rfl rfl (vp_in_nI (by omega) (by decide)) dX12_begins_22 (fun H locs hP hD hS => ?_)
      rw [nI_clamp (n := (16 + i)) (by omega)] at hP hD
      have hP : va_P D vwCl (mW K o r F (va_up B 2 (upd (B 2) (16 + i) (-1))) G) H := hP
      have hD : va_D A (mW K o r F (va_up B 2 (upd (B 2) (16 + i) (-1))) G) := hD
      generalize ea_10 : va_up B 2 (upd (B 2) (16 + i) (-1)) = a_10 at hP hD
      refine lv_iinc (v := nI (i + 1)) (lv' := [(1, .int (nI (i + 1))), (0, .ref o)]) hx hb dX12_begins_23 hl (k := 0) rfl (nI_1 _) (by decide) rfl (fun ls hl => ?_)
      refine lv_goto (tgt := 7) hx hb dX12_begins_26 (by decide) ?_
      exact ih (i + 1) F a_10 G _ _ _ (by omega) ((show a_10 2 102 = B 2 102 from by rw [← ea_10]; exact pk_un (by omega)).trans z0) ((show a_10 2 103 = B 2 103 from by rw [← ea_10]; exact pk_un (by omega)).trans z1) ((show a_10 2 104 = B 2 104 from by rw [← ea_10]; exact pk_un (by omega)).trans z2) ((show a_10 2 99 = B 2 99 from by rw [← ea_10]; exact pk_un (by omega)).trans z3) ((show a_10 2 100 = B 2 100 from by rw [← ea_10]; exact pk_un (by omega)).trans z4) hP hD hS (lv_sub hl [0, 1] rfl)
  exact lp7 (6 - 0) 0 f4 a5 g6 _ _ _ (by omega) hw1.1 hw1.2.1 hw1.2.2.1 hw1.2.2.2.1 hw1.2.2.2.2 hP hD hS hl
set_option maxHeartbeats 4000000 in
set_option maxRecDepth 100000 in
theorem c_areStanding (l : Launch) {D : va_G} {K : Nat → ClassId} (o : Nat) (r : Nat → Nat) (f : Nat → Int32) (a : Nat → Nat → Int32) (g : Nat → Int64) (h0 : a 2 102 = 0)   : kI l yX12_areStanding (Cond.code yX12_areStanding cX12_areStanding 2 (some .boolean) :: kG) (rmD 2 0 0) D (tysK K) [.ref o, .int 0] (mW K o r f a g) (fun v (_ : Unit) => v = 1) (fun _ => mW K o r f a g) 0 0 := by
  refine kI.of (cc := cX12_areStanding) (maxL := 2) (ret := (some .boolean)) (by decide) rfl (Nat.le_of_ble_eq_true rfl) ?_
  intro p e s m below meth c A hx hb hr hml hown hts hlocks hnm hK hP hD hS hA ls hl
  have hg : ∀ w ∈ kG, w.before _ s = true := fun w h => hts w (List.mem_cons_of_mem _ h)
  have hown : s.vm.findClass RX12 = some m.cls := hown
  have hl : lv_has ls 2 [(0, .ref o), (1, .int 0)] := hl
  refine lv_iload_n hx hb dX12_areStanding_0 rfl (lv_at hl 1 rfl) ?_
  refine lv_aload_n hx hb dX12_areStanding_1 rfl (lv_at hl 0 rfl) ?_
  refine kI.callV (As := []) (rest := [.int 0]) ⟨hx, hb, hml, hown, hg⟩ (c_standing l o r f a g h0 ) (cwV 0 hg (kgV wt6_116 wt6_118 wp3_13 wt1_14 wt6_119) rfl rfl rfl (by decide +kernel) ⟨by decide, by decide⟩) hK hP hD hS hA mIs [] rfl (wr := []) rfl rfl rfl (fun i h => by cases h) 0 12 rfl rfl rfl hl.1 rfl (Nat.le_of_ble_eq_true rfl) dX12_areStanding_2 ⟨by decide, by decide⟩ (fun v3 u2 H locs hw1 hP hD hS => ?_)
  have hP : va_P D vwCl (mW K o r f a g) H := hP
  have hD : va_D A (mW K o r f a g) := hD
  refine k_top (z := 0) (hw1) ?_
  refine lv_iconst (v := (-1)) hx hb dX12_areStanding_5 (by decide) ?_
  refine lv_ixor hx hb dX12_areStanding_6 ?_
  refine k_top (z := (-1)) (by decide +kernel) ?_
  refine lv_iand hx hb dX12_areStanding_7 ?_
  refine k_top (z := 0) (by decide +kernel) ?_
  refine lv_if_ne (tgt := 15) hx hb dX12_areStanding_8 (by decide) (fun c4 => absurd (by decide +kernel) c4) (fun c4 => ?_)
  refine lv_iconst (v := 1) hx hb dX12_areStanding_11 (by decide) ?_
  refine lv_goto (tgt := 16) hx hb dX12_areStanding_12 (by decide) ?_
  exact kI_ret (v := 1) hx hb hr hlocks (by decide +kernel) hK hS dX12_areStanding_16 () hP hD rfl
set_option maxHeartbeats 4000000 in
set_option maxRecDepth 100000 in
theorem c_planned30 (l : Launch) {D : va_G} {K : Nat → ClassId} (o : Nat) (r : Nat → Nat) (f : Nat → Int32) (a : Nat → Nat → Int32) (g : Nat → Int64) (h0 : a 2 102 = 0) (h1 : a 2 103 = 0) (h2 : a 2 104 = 0) (h3 : a 2 99 = 30) (h4 : a 2 100 = 2)   : kI l yX12_planned (Cond.code yX12_planned cX12_planned 6 (some .int) :: kG) (rmD 3 0 0) D (tysK K) [.ref o, .int 0, .int 0, .int 30] (mW K o r f a g) (fun v (u : mS) => v = 0 ∧ u.2.1 2 102 = 0 ∧ u.2.1 2 103 = 0 ∧ u.2.1 2 104 = 0 ∧ u.2.1 2 99 = 30 ∧ u.2.1 2 100 = 2) (fun u => mW K o r u.1 u.2.1 u.2.2) 0 0 := by
  refine kI.of (cc := cX12_planned) (maxL := 6) (ret := (some .int)) (by decide) rfl (Nat.le_of_ble_eq_true rfl) ?_
  intro p e s m below meth c A hx hb hr hml hown hts hlocks hnm hK hP hD hS hA ls hl
  have hg : ∀ w ∈ kG, w.before _ s = true := fun w h => hts w (List.mem_cons_of_mem _ h)
  have hown : s.vm.findClass RX12 = some m.cls := hown
  have hl : lv_has ls 6 [(0, .ref o), (1, .int 0), (2, .int 0), (3, .int 30)] := hl
  refine lv_aload_n hx hb dX12_planned_0 rfl (lv_at hl 0 rfl) ?_
  refine kV.callV (As := []) (rest := []) ⟨hx, hb, hml, hown, hg⟩ (c_begins l o r f a g h0 h1 h2 h3 h4 ) (cwV 0 hg (kgV wt7_203 wt7_205 wp7_4 wt1_14 wt7_206) rfl rfl rfl (by decide +kernel) ⟨by decide, by decide⟩) hK hP hD hS hA mIs [] rfl (wr := []) rfl rfl rfl (fun i h => by cases h) 0 12 rfl rfl rfl hl.1 rfl (Nat.le_of_ble_eq_true rfl) dX12_planned_1 ⟨by decide, by decide⟩ (fun u2 H locs hw1 hP hD hS => ?_)
  obtain ⟨f4, a5, g6⟩ := u2
  have hP : va_P D vwCl (mW K o r f4 a5 g6) H := hP
  have hD : va_D A (mW K o r f4 a5 g6) := hD
  refine lv_iconst (v := 0) hx hb dX12_planned_4 (by decide) ?_
  refine lv_istore (lv' := [(4, .int 0), (0, .ref o), (1, .int 0), (2, .int 0), (3, .int 30)]) hx hb dX12_planned_5 hl (by decide) rfl (fun ls hl => ?_)
  refine lv_iload hx hb dX12_planned_7 (lv_at hl 0 rfl) ?_
  refine lv_iload_n hx hb dX12_planned_9 rfl (lv_at hl 4 rfl) ?_
  refine lv_icmp_ge (tgt := 38) hx hb dX12_planned_10 (by decide) (fun c7 => absurd c7 (by decide +kernel)) (fun c7 => ?_)
  refine lv_aload_n hx hb dX12_planned_13 rfl (lv_at hl 1 rfl) ?_
  refine lv_iload_n hx hb dX12_planned_14 rfl (lv_at hl 3 rfl) ?_
  refine kI.callV (As := [.int 0]) (rest := []) ⟨hx, hb, hml, hown, hg⟩ (c_areStanding l o r f4 a5 g6 hw1.1 ) (cwV 1 hg (kgV wt7_211 wt7_213 wp7_6 wt1_14 wt7_214) rfl rfl rfl (by decide +kernel) ⟨by decide, by decide⟩) hK hP hD hS hA mIs [] rfl (wr := []) rfl rfl rfl (fun i h => by cases h) 0 12 rfl rfl rfl hl.1 rfl (Nat.le_of_ble_eq_true rfl) dX12_planned_15 ⟨by decide, by decide⟩ (fun v10 u9 H locs hw8 hP hD hS => ?_)
  have hP : va_P D vwCl (mW K o r f4 a5 g6) H := hP
  have hD : va_D A (mW K o r f4 a5 g6) := hD
  refine k_top (z := 1) (hw8) ?_
  refine lv_if_ne (tgt := 38) hx hb dX12_planned_18 (by decide) (fun c11 => ?_) (fun c11 => absurd c11 (by decide +kernel))
  refine lv_aload_n hx hb dX12_planned_38 rfl (lv_at hl 1 rfl) ?_
  refine lv_iload_n hx hb dX12_planned_39 rfl (lv_at hl 3 rfl) ?_
  refine kI.callV (As := [.int 0]) (rest := []) ⟨hx, hb, hml, hown, hg⟩ (c_areStanding l o r f4 a5 g6 hw1.1 ) (cwV 1 hg (kgV wt7_211 wt7_213 wp7_6 wt1_14 wt7_214) rfl rfl rfl (by decide +kernel) ⟨by decide, by decide⟩) hK hP hD hS hA mIs [] rfl (wr := []) rfl rfl rfl (fun i h => by cases h) 0 12 rfl rfl rfl hl.1 rfl (Nat.le_of_ble_eq_true rfl) dX12_planned_40 ⟨by decide, by decide⟩ (fun v14 u13 H locs hw12 hP hD hS => ?_)
  have hP : va_P D vwCl (mW K o r f4 a5 g6) H := hP
  have hD : va_D A (mW K o r f4 a5 g6) := hD
  refine k_top (z := 1) (hw12) ?_
  refine lv_if_eq (tgt := 51) hx hb dX12_planned_43 (by decide) (fun c15 => absurd c15 (by decide +kernel)) (fun c15 => ?_)
  refine lv_iload hx hb dX12_planned_46 (lv_at hl 0 rfl) ?_
  refine lv_goto (tgt := 52) hx hb dX12_planned_48 (by decide) ?_
  refine lv_istore (lv' := [(5, .int 0), (4, .int 0), (0, .ref o), (1, .int 0), (2, .int 0), (3, .int 30)]) hx hb dX12_planned_52 hl (by decide) rfl (fun ls hl => ?_)
  refine lv_aload_n hx hb dX12_planned_54 rfl (lv_at hl 2 rfl) ?_
  refine lv_iconst (v := 0) hx hb dX12_planned_55 (by decide) ?_
  refine kV.callV (As := [.int 0]) (rest := []) ⟨hx, hb, hml, hown, hg⟩ (c_takesBack0 l o r f4 a5 g6 hw1.1 hw1.2.1 hw1.2.2.1 hw1.2.2.2.1 hw1.2.2.2.2 ) (cwV 1 hg (kgV wt7_223 wt7_225 wp7_9 wt1_14 wt7_226) rfl rfl rfl (by decide +kernel) ⟨by decide, by decide⟩) hK hP hD hS hA mIs [] rfl (wr := []) rfl rfl rfl (fun i h => by cases h) 0 12 rfl rfl rfl hl.1 rfl (Nat.le_of_ble_eq_true rfl) dX12_planned_56 ⟨by decide, by decide⟩ (fun u17 H locs hw16 hP hD hS => ?_)
  obtain ⟨f19, a20, g21⟩ := u17
  have hP : va_P D vwCl (mW K o r f19 a20 g21) H := hP
  have hD : va_D A (mW K o r f19 a20 g21) := hD
  refine lv_iload hx hb dX12_planned_59 (lv_at hl 0 rfl) ?_
  exact kI_ret (v := 0) hx hb hr hlocks rfl hK hS dX12_planned_61 (f19, a20, g21) hP hD ⟨rfl, hw16.1, hw16.2.1, hw16.2.2.1, hw16.2.2.2.1, hw16.2.2.2.2⟩
set_option maxHeartbeats 4000000 in
set_option maxRecDepth 100000 in
theorem c_planned200 (l : Launch) {D : va_G} {K : Nat → ClassId} (o : Nat) (r : Nat → Nat) (f : Nat → Int32) (a : Nat → Nat → Int32) (g : Nat → Int64) (h0 : a 2 102 = 0) (h1 : a 2 103 = 0) (h2 : a 2 104 = 0) (h3 : a 2 99 = 30) (h4 : a 2 100 = 2)   : kI l yX12_planned (Cond.code yX12_planned cX12_planned 6 (some .int) :: kG) (rmD 3 0 0) D (tysK K) [.ref o, .int 0, .int 0, .int 200] (mW K o r f a g) (fun v (u : mS) => v = 0 ∧ u.2.1 2 102 = 0 ∧ u.2.1 2 103 = 0 ∧ u.2.1 2 104 = 0 ∧ u.2.1 2 99 = 30 ∧ u.2.1 2 100 = 2) (fun u => mW K o r u.1 u.2.1 u.2.2) 0 0 := by
  refine kI.of (cc := cX12_planned) (maxL := 6) (ret := (some .int)) (by decide) rfl (Nat.le_of_ble_eq_true rfl) ?_
  intro p e s m below meth c A hx hb hr hml hown hts hlocks hnm hK hP hD hS hA ls hl
  have hg : ∀ w ∈ kG, w.before _ s = true := fun w h => hts w (List.mem_cons_of_mem _ h)
  have hown : s.vm.findClass RX12 = some m.cls := hown
  have hl : lv_has ls 6 [(0, .ref o), (1, .int 0), (2, .int 0), (3, .int 200)] := hl
  refine lv_aload_n hx hb dX12_planned_0 rfl (lv_at hl 0 rfl) ?_
  refine kV.callV (As := []) (rest := []) ⟨hx, hb, hml, hown, hg⟩ (c_begins l o r f a g h0 h1 h2 h3 h4 ) (cwV 0 hg (kgV wt7_203 wt7_205 wp7_4 wt1_14 wt7_206) rfl rfl rfl (by decide +kernel) ⟨by decide, by decide⟩) hK hP hD hS hA mIs [] rfl (wr := []) rfl rfl rfl (fun i h => by cases h) 0 12 rfl rfl rfl hl.1 rfl (Nat.le_of_ble_eq_true rfl) dX12_planned_1 ⟨by decide, by decide⟩ (fun u2 H locs hw1 hP hD hS => ?_)
  obtain ⟨f4, a5, g6⟩ := u2
  have hP : va_P D vwCl (mW K o r f4 a5 g6) H := hP
  have hD : va_D A (mW K o r f4 a5 g6) := hD
  refine lv_iconst (v := 0) hx hb dX12_planned_4 (by decide) ?_
  refine lv_istore (lv' := [(4, .int 0), (0, .ref o), (1, .int 0), (2, .int 0), (3, .int 200)]) hx hb dX12_planned_5 hl (by decide) rfl (fun ls hl => ?_)
  refine lv_iload hx hb dX12_planned_7 (lv_at hl 0 rfl) ?_
  refine lv_iload_n hx hb dX12_planned_9 rfl (lv_at hl 4 rfl) ?_
  refine lv_icmp_ge (tgt := 38) hx hb dX12_planned_10 (by decide) (fun c7 => absurd c7 (by decide +kernel)) (fun c7 => ?_)
  refine lv_aload_n hx hb dX12_planned_13 rfl (lv_at hl 1 rfl) ?_
  refine lv_iload_n hx hb dX12_planned_14 rfl (lv_at hl 3 rfl) ?_
  refine kI.callV (As := [.int 0]) (rest := []) ⟨hx, hb, hml, hown, hg⟩ (c_areStanding l o r f4 a5 g6 hw1.1 ) (cwV 1 hg (kgV wt7_211 wt7_213 wp7_6 wt1_14 wt7_214) rfl rfl rfl (by decide +kernel) ⟨by decide, by decide⟩) hK hP hD hS hA mIs [] rfl (wr := []) rfl rfl rfl (fun i h => by cases h) 0 12 rfl rfl rfl hl.1 rfl (Nat.le_of_ble_eq_true rfl) dX12_planned_15 ⟨by decide, by decide⟩ (fun v10 u9 H locs hw8 hP hD hS => ?_)
  have hP : va_P D vwCl (mW K o r f4 a5 g6) H := hP
  have hD : va_D A (mW K o r f4 a5 g6) := hD
  refine k_top (z := 1) (hw8) ?_
  refine lv_if_ne (tgt := 38) hx hb dX12_planned_18 (by decide) (fun c11 => ?_) (fun c11 => absurd c11 (by decide +kernel))
  refine lv_aload_n hx hb dX12_planned_38 rfl (lv_at hl 1 rfl) ?_
  refine lv_iload_n hx hb dX12_planned_39 rfl (lv_at hl 3 rfl) ?_
  refine kI.callV (As := [.int 0]) (rest := []) ⟨hx, hb, hml, hown, hg⟩ (c_areStanding l o r f4 a5 g6 hw1.1 ) (cwV 1 hg (kgV wt7_211 wt7_213 wp7_6 wt1_14 wt7_214) rfl rfl rfl (by decide +kernel) ⟨by decide, by decide⟩) hK hP hD hS hA mIs [] rfl (wr := []) rfl rfl rfl (fun i h => by cases h) 0 12 rfl rfl rfl hl.1 rfl (Nat.le_of_ble_eq_true rfl) dX12_planned_40 ⟨by decide, by decide⟩ (fun v14 u13 H locs hw12 hP hD hS => ?_)
  have hP : va_P D vwCl (mW K o r f4 a5 g6) H := hP
  have hD : va_D A (mW K o r f4 a5 g6) := hD
  refine k_top (z := 1) (hw12) ?_
  refine lv_if_eq (tgt := 51) hx hb dX12_planned_43 (by decide) (fun c15 => absurd c15 (by decide +kernel)) (fun c15 => ?_)
  refine lv_iload hx hb dX12_planned_46 (lv_at hl 0 rfl) ?_
  refine lv_goto (tgt := 52) hx hb dX12_planned_48 (by decide) ?_
  refine lv_istore (lv' := [(5, .int 0), (4, .int 0), (0, .ref o), (1, .int 0), (2, .int 0), (3, .int 200)]) hx hb dX12_planned_52 hl (by decide) rfl (fun ls hl => ?_)
  refine lv_aload_n hx hb dX12_planned_54 rfl (lv_at hl 2 rfl) ?_
  refine lv_iconst (v := 0) hx hb dX12_planned_55 (by decide) ?_
  refine kV.callV (As := [.int 0]) (rest := []) ⟨hx, hb, hml, hown, hg⟩ (c_takesBack0 l o r f4 a5 g6 hw1.1 hw1.2.1 hw1.2.2.1 hw1.2.2.2.1 hw1.2.2.2.2 ) (cwV 1 hg (kgV wt7_223 wt7_225 wp7_9 wt1_14 wt7_226) rfl rfl rfl (by decide +kernel) ⟨by decide, by decide⟩) hK hP hD hS hA mIs [] rfl (wr := []) rfl rfl rfl (fun i h => by cases h) 0 12 rfl rfl rfl hl.1 rfl (Nat.le_of_ble_eq_true rfl) dX12_planned_56 ⟨by decide, by decide⟩ (fun u17 H locs hw16 hP hD hS => ?_)
  obtain ⟨f19, a20, g21⟩ := u17
  have hP : va_P D vwCl (mW K o r f19 a20 g21) H := hP
  have hD : va_D A (mW K o r f19 a20 g21) := hD
  refine lv_iload hx hb dX12_planned_59 (lv_at hl 0 rfl) ?_
  exact kI_ret (v := 0) hx hb hr hlocks rfl hK hS dX12_planned_61 (f19, a20, g21) hP hD ⟨rfl, hw16.1, hw16.2.1, hw16.2.2.1, hw16.2.2.2.1, hw16.2.2.2.2⟩
set_option maxHeartbeats 4000000 in
set_option maxRecDepth 100000 in
theorem c_lastSight (l : Launch) {D : va_G} {K : Nat → ClassId} (o : Nat) (r : Nat → Nat) (f : Nat → Int32) (a : Nat → Nat → Int32) (g : Nat → Int64) (h0 : a 2 104 = 0)   : kI l yX12_lastSight (Cond.code yX12_lastSight cX12_lastSight 3 (some .int) :: kG) (rmD 1 0 0) D (tysK K) [.ref o] (mW K o r f a g) (fun v (_ : Unit) => v = 0) (fun _ => mW K o r f a g) 0 0 := by
  refine kI.of (cc := cX12_lastSight) (maxL := 3) (ret := (some .int)) (by decide) rfl (Nat.le_of_ble_eq_true rfl) ?_
  intro p e s m below meth c A hx hb hr hml hown hts hlocks hnm hK hP hD hS hA ls hl
  have hg : ∀ w ∈ kG, w.before _ s = true := fun w h => hts w (List.mem_cons_of_mem _ h)
  have hown : s.vm.findClass RX12 = some m.cls := hown
  have hl : lv_has ls 3 [(0, .ref o)] := hl
  refine lv_iconst (v := 0) hx hb dX12_lastSight_0 (by decide) ?_
  refine lv_istore_n (lv' := [(1, .int 0), (0, .ref o)]) hx hb dX12_lastSight_1 rfl hl (by decide) rfl (fun ls hl => ?_)
  refine lv_iconst (v := 0) hx hb dX12_lastSight_2 (by decide) ?_
  refine lv_istore_n (lv' := [(2, .int 0), (1, .int 0), (0, .ref o)]) hx hb dX12_lastSight_3 rfl hl (by decide) rfl (fun ls hl => ?_)
  refine lv_iload_n hx hb dX12_lastSight_4 rfl (lv_at hl 0 rfl) ?_
  refine lv_aload_n hx hb dX12_lastSight_5 rfl (lv_at hl 2 rfl) ?_
  refine va_get (D := D) (ci := 12) (v := .ref (r 2)) (C := RX12) (T := TX12) (N := 48) hx hb hg inC12 hown hK hP 0 rfl rfl 2 (by decide) (hg _ wt5_162) (fun _ h9 => h9) rfl dX12_lastSight_6 ?_
  refine lv_bipush (v := 104) hx hb dX12_lastSight_9 (by decide) ?_
  refine va_iald hx hb hK hP 2 0 rfl rfl (k_in (by decide +kernel)) dX12_lastSight_11 ?_
  refine k_top (z := 0) (by rw [cl_104]; exact h0) ?_
  refine lv_icmp_ge (tgt := 37) hx hb dX12_lastSight_12 (by decide) (fun c1 => ?_) (fun c1 => absurd (by decide +kernel) c1)
  refine lv_iload_n hx hb dX12_lastSight_37 rfl (lv_at hl 1 rfl) ?_
  exact kI_ret (v := 0) hx hb hr hlocks rfl hK hS dX12_lastSight_38 () hP hD rfl
set_option maxHeartbeats 4000000 in
set_option maxRecDepth 100000 in
theorem c_areSo (l : Launch) {D : va_G} {K : Nat → ClassId} (o : Nat) (r : Nat → Nat) (f : Nat → Int32) (a : Nat → Nat → Int32) (g : Nat → Int64) (h0 : a 2 104 = 0) (x : Int32)  : kI l yX12_areSo (Cond.code yX12_areSo cX12_areSo 4 (some .boolean) :: kG) (rmD 1 0 0) D (tysK K) [.ref o, .int x] (mW K o r f a g) (fun v (_ : Unit) => v = 1) (fun _ => mW K o r f a g) 0 0 := by
  refine kI.of (cc := cX12_areSo) (maxL := 4) (ret := (some .boolean)) (by decide) rfl (Nat.le_of_ble_eq_true rfl) ?_
  intro p e s m below meth c A hx hb hr hml hown hts hlocks hnm hK hP hD hS hA ls hl
  have hg : ∀ w ∈ kG, w.before _ s = true := fun w h => hts w (List.mem_cons_of_mem _ h)
  have hown : s.vm.findClass RX12 = some m.cls := hown
  have hl : lv_has ls 4 [(0, .ref o), (1, .int x)] := hl
  refine lv_iconst (v := 1) hx hb dX12_areSo_0 (by decide) ?_
  refine lv_istore_n (lv' := [(2, .int 1), (0, .ref o), (1, .int x)]) hx hb dX12_areSo_1 rfl hl (by decide) rfl (fun ls hl => ?_)
  refine lv_iconst (v := 0) hx hb dX12_areSo_2 (by decide) ?_
  refine lv_istore_n (lv' := [(3, .int 0), (2, .int 1), (0, .ref o), (1, .int x)]) hx hb dX12_areSo_3 rfl hl (by decide) rfl (fun ls hl => ?_)
  refine lv_iload_n hx hb dX12_areSo_4 rfl (lv_at hl 0 rfl) ?_
  refine lv_aload_n hx hb dX12_areSo_5 rfl (lv_at hl 2 rfl) ?_
  refine va_get (D := D) (ci := 12) (v := .ref (r 2)) (C := RX12) (T := TX12) (N := 48) hx hb hg inC12 hown hK hP 0 rfl rfl 2 (by decide) (hg _ wt5_162) (fun _ h9 => h9) rfl dX12_areSo_6 ?_
  refine lv_bipush (v := 104) hx hb dX12_areSo_9 (by decide) ?_
  refine va_iald hx hb hK hP 2 0 rfl rfl (k_in (by decide +kernel)) dX12_areSo_11 ?_
  refine k_top (z := 0) (by rw [cl_104]; exact h0) ?_
  refine lv_icmp_ge (tgt := 88) hx hb dX12_areSo_12 (by decide) (fun c1 => ?_) (fun c1 => absurd (by decide +kernel) c1)
  refine lv_iload_n hx hb dX12_areSo_88 rfl (lv_at hl 1 rfl) ?_
  exact kI_ret (v := 1) hx hb hr hlocks (by decide +kernel) hK hS dX12_areSo_89 () hP hD rfl
set_option maxHeartbeats 4000000 in
set_option maxRecDepth 100000 in
theorem c_canBeWhose (l : Launch) {D : va_G} {K : Nat → ClassId} (o : Nat) (r : Nat → Nat) (f : Nat → Int32) (a : Nat → Nat → Int32) (g : Nat → Int64) (h0 : a 2 102 = 0) (h1 : a 2 103 = 0) (h2 : a 2 104 = 0) (h3 : a 2 99 = 30) (h4 : a 2 100 = 2)   : kI l yX12_canBeWhose (Cond.code yX12_canBeWhose cX12_canBeWhose 5 (some .boolean) :: kG) (rmD 3 0 0) D (tysK K) [.ref o, .int 0] (mW K o r f a g) (fun v (u : mS) => v = 1 ∧ u.2.1 2 102 = 0 ∧ u.2.1 2 103 = 0 ∧ u.2.1 2 104 = 0 ∧ u.2.1 2 99 = 30 ∧ u.2.1 2 100 = 2) (fun u => mW K o r u.1 u.2.1 u.2.2) 0 0 := by
  refine kI.of (cc := cX12_canBeWhose) (maxL := 5) (ret := (some .boolean)) (by decide) rfl (Nat.le_of_ble_eq_true rfl) ?_
  intro p e s m below meth c A hx hb hr hml hown hts hlocks hnm hK hP hD hS hA ls hl
  have hg : ∀ w ∈ kG, w.before _ s = true := fun w h => hts w (List.mem_cons_of_mem _ h)
  have hown : s.vm.findClass RX12 = some m.cls := hown
  have hl : lv_has ls 5 [(0, .ref o), (1, .int 0)] := hl
  refine lv_aload_n hx hb dX12_canBeWhose_0 rfl (lv_at hl 0 rfl) ?_
  refine kV.callV (As := []) (rest := []) ⟨hx, hb, hml, hown, hg⟩ (c_begins l o r f a g h0 h1 h2 h3 h4 ) (cwV 0 hg (kgV wt7_203 wt7_205 wp7_4 wt1_14 wt7_206) rfl rfl rfl (by decide +kernel) ⟨by decide, by decide⟩) hK hP hD hS hA mIs [] rfl (wr := []) rfl rfl rfl (fun i h => by cases h) 0 12 rfl rfl rfl hl.1 rfl (Nat.le_of_ble_eq_true rfl) dX12_canBeWhose_1 ⟨by decide, by decide⟩ (fun u2 H locs hw1 hP hD hS => ?_)
  obtain ⟨f4, a5, g6⟩ := u2
  have hP : va_P D vwCl (mW K o r f4 a5 g6) H := hP
  have hD : va_D A (mW K o r f4 a5 g6) := hD
  refine lv_aload_n hx hb dX12_canBeWhose_4 rfl (lv_at hl 0 rfl) ?_
  refine kI.callV (As := []) (rest := []) ⟨hx, hb, hml, hown, hg⟩ (c_lastSight l o r f4 a5 g6 hw1.2.2.1 ) (cwV 0 hg (kgV wt8_23 wt8_25 wp7_12 wt1_14 wt8_26) rfl rfl rfl (by decide +kernel) ⟨by decide, by decide⟩) hK hP hD hS hA mIs [] rfl (wr := []) rfl rfl rfl (fun i h => by cases h) 0 12 rfl rfl rfl hl.1 rfl (Nat.le_of_ble_eq_true rfl) dX12_canBeWhose_5 ⟨by decide, by decide⟩ (fun v9 u8 H locs hw7 hP hD hS => ?_)
  have hP : va_P D vwCl (mW K o r f4 a5 g6) H := hP
  have hD : va_D A (mW K o r f4 a5 g6) := hD
  refine k_top (z := 0) (hw7) ?_
  refine lv_istore_n (lv' := [(2, .int 0), (0, .ref o), (1, .int 0)]) hx hb dX12_canBeWhose_8 rfl hl (by decide) rfl (fun ls hl => ?_)
  refine lv_aload_n hx hb dX12_canBeWhose_9 rfl (lv_at hl 1 rfl) ?_
  refine lv_iconst (v := 0) hx hb dX12_canBeWhose_10 (by decide) ?_
  refine kI.callV (As := [.int 0]) (rest := []) ⟨hx, hb, hml, hown, hg⟩ (c_areSo l o r f4 a5 g6 hw1.2.2.1 0) (cwV 1 hg (kgV wt8_27 wt8_29 wp7_13 wt1_14 wt8_30) rfl rfl rfl (by decide +kernel) ⟨by decide, by decide⟩) hK hP hD hS hA mIs [] rfl (wr := []) rfl rfl rfl (fun i h => by cases h) 0 12 rfl rfl rfl hl.1 rfl (Nat.le_of_ble_eq_true rfl) dX12_canBeWhose_11 ⟨by decide, by decide⟩ (fun v12 u11 H locs hw10 hP hD hS => ?_)
  have hP : va_P D vwCl (mW K o r f4 a5 g6) H := hP
  have hD : va_D A (mW K o r f4 a5 g6) := hD
  refine k_top (z := 1) (hw10) ?_
  refine lv_istore_n (lv' := [(3, .int 1), (2, .int 0), (0, .ref o), (1, .int 0)]) hx hb dX12_canBeWhose_14 rfl hl (by decide) rfl (fun ls hl => ?_)
  refine lv_iconst (v := 1) hx hb dX12_canBeWhose_15 (by decide) ?_
  refine lv_istore (lv' := [(4, .int 1), (3, .int 1), (2, .int 0), (0, .ref o), (1, .int 0)]) hx hb dX12_canBeWhose_16 hl (by decide) rfl (fun ls hl => ?_)
  refine lv_iload hx hb dX12_canBeWhose_18 (lv_at hl 0 rfl) ?_
  refine lv_iload_n hx hb dX12_canBeWhose_20 rfl (lv_at hl 2 rfl) ?_
  refine lv_icmp_gt (tgt := 46) hx hb dX12_canBeWhose_21 (by decide) (fun c13 => ?_) (fun c13 => absurd (by decide +kernel) c13)
  refine lv_aload_n hx hb dX12_canBeWhose_46 rfl (lv_at hl 3 rfl) ?_
  refine lv_iconst (v := 0) hx hb dX12_canBeWhose_47 (by decide) ?_
  refine kV.callV (As := [.int 0]) (rest := []) ⟨hx, hb, hml, hown, hg⟩ (c_takesBack0 l o r f4 a5 g6 hw1.1 hw1.2.1 hw1.2.2.1 hw1.2.2.2.1 hw1.2.2.2.2 ) (cwV 1 hg (kgV wt7_223 wt7_225 wp7_9 wt1_14 wt7_226) rfl rfl rfl (by decide +kernel) ⟨by decide, by decide⟩) hK hP hD hS hA mIs [] rfl (wr := []) rfl rfl rfl (fun i h => by cases h) 0 12 rfl rfl rfl hl.1 rfl (Nat.le_of_ble_eq_true rfl) dX12_canBeWhose_48 ⟨by decide, by decide⟩ (fun u15 H locs hw14 hP hD hS => ?_)
  obtain ⟨f17, a18, g19⟩ := u15
  have hP : va_P D vwCl (mW K o r f17 a18 g19) H := hP
  have hD : va_D A (mW K o r f17 a18 g19) := hD
  refine lv_iload_n hx hb dX12_canBeWhose_51 rfl (lv_at hl 1 rfl) ?_
  exact kI_ret (v := 1) hx hb hr hlocks (by decide +kernel) hK hS dX12_canBeWhose_52 (f17, a18, g19) hP hD ⟨rfl, hw14.1, hw14.2.1, hw14.2.2.1, hw14.2.2.2.1, hw14.2.2.2.2⟩
end
section
set_option maxHeartbeats 4000000 in
set_option maxRecDepth 100000 in
theorem c_terms (l : Launch) {D : va_G} {K : Nat → ClassId} (o : Nat) (r : Nat → Nat) (f : Nat → Int32) (a : Nat → Nat → Int32) (g : Nat → Int64) (h0 : a 2 22 = 0) (h1 : a 2 99 = 30) (h2 : a 2 100 = 2) (h3 : a 2 101 = 0) (x : Int32) (y : Int32)  : kI l yX12_terms (Cond.code yX12_terms cX12_terms 5 (some .int) :: kG) (rmD 3 0 0) D (tysK K) [.ref o, .int x, .int y] (mW K o r f a g) (fun v (u : mS) => v = (if mIsTerm x y = 0 then (-1 : Int32) else if x = 1 then 30 else if x = 2 then 2 else 0)) (fun u => mW K o r u.1 u.2.1 u.2.2) 0 0 := by
  refine kI.of (cc := cX12_terms) (maxL := 5) (ret := (some .int)) (by decide) rfl (Nat.le_of_ble_eq_true rfl) ?_
  intro p e s m below meth c A hx hb hr hml hown hts hlocks hnm hK hP hD hS hA ls hl
  have hg : ∀ w ∈ kG, w.before _ s = true := fun w h => hts w (List.mem_cons_of_mem _ h)
  have hown : s.vm.findClass RX12 = some m.cls := hown
  have hl : lv_has ls 5 [(0, .ref o), (1, .int x), (2, .int y)] := hl
  by_cases q1 : x = 0
  · subst q1
    have hl : lv_has ls 5 [(0, .ref o), (1, .int 0), (2, .int y)] := hl
    refine lv_iload_n hx hb dX12_terms_0 rfl (lv_at hl 1 rfl) ?_
    refine lv_iload_n hx hb dX12_terms_1 rfl (lv_at hl 2 rfl) ?_
    refine kN.callS (As := [.int 0, .int y]) (rest := []) ⟨hx, hb, hml, hown, hg⟩ (c_isTerm l 0 y) (va_cwS 2 hg (kgS wt6_146 wt6_147 wt1_14 wt6_148) rfl rfl rfl (by decide +kernel) ⟨by decide, by decide⟩) hP hS rfl hl.1 rfl (Nat.le_of_ble_eq_true rfl) dX12_terms_2 ⟨by decide, by decide⟩ (fun v3 H locs hw2 hP hS => ?_)
    refine k_top (z := mLies y 0 999) (hw2.trans (by simp [mIsTerm])) ?_
    refine lv_if_ne (tgt := 14) hx hb dX12_terms_5 (by decide) (fun c4 => ?_) (fun c4 => ?_)
    · refine lv_iload_n hx hb dX12_terms_14 rfl (lv_at hl 1 rfl) ?_
      refine lv_if_ne (tgt := 23) hx hb dX12_terms_15 (by decide) (fun c5 => absurd (by decide +kernel) c5) (fun c5 => ?_)
      refine lv_bipush (v := 22) hx hb dX12_terms_18 (by decide) ?_
      refine lv_goto (tgt := 29) hx hb dX12_terms_20 (by decide) ?_
      refine lv_istore_n (lv' := [(3, .int 22), (0, .ref o), (1, .int 0), (2, .int y)]) hx hb dX12_terms_29 rfl hl (by decide) rfl (fun ls hl => ?_)
      refine lv_aload_n hx hb dX12_terms_30 rfl (lv_at hl 1 rfl) ?_
      refine va_get (D := D) (ci := 12) (v := .ref (r 2)) (C := RX12) (T := TX12) (N := 48) hx hb hg inC12 hown hK hP 0 rfl rfl 2 (by decide) (hg _ wt5_162) (fun _ h9 => h9) rfl dX12_terms_31 ?_
      refine lv_iload_n hx hb dX12_terms_34 rfl (lv_at hl 0 rfl) ?_
      refine va_iald hx hb hK hP 2 0 rfl rfl (k_in (by decide +kernel)) dX12_terms_35 ?_
      refine k_top (z := 0) (by rw [cl_22]; exact h0) ?_
      refine lv_istore (lv' := [(4, .int 0), (3, .int 22), (0, .ref o), (1, .int 0), (2, .int y)]) hx hb dX12_terms_36 hl (by decide) rfl (fun ls hl => ?_)
      refine lv_aload_n hx hb dX12_terms_38 rfl (lv_at hl 2 rfl) ?_
      refine va_get (D := D) (ci := 12) (v := .ref (r 2)) (C := RX12) (T := TX12) (N := 48) hx hb hg inC12 hown hK hP 0 rfl rfl 2 (by decide) (hg _ wt5_162) (fun _ h9 => h9) rfl dX12_terms_39 ?_
      refine lv_iload_n hx hb dX12_terms_42 rfl (lv_at hl 1 rfl) ?_
      refine lv_iload_n hx hb dX12_terms_43 rfl (lv_at hl 4 rfl) ?_
      refine va_iast hx hb hK hP hD hS 2 0 rfl rfl (k_in (by decide +kernel)) dX12_terms_44 (fun H locs hP hD hS => ?_)
      rw [cl_22] at hP hD
      have hP : va_P D vwCl (mW K o r f (va_up a 2 (upd (a 2) 22 y)) g) H := hP
      have hD : va_D A (mW K o r f (va_up a 2 (upd (a 2) 22 y)) g) := hD
      generalize ea_6 : va_up a 2 (upd (a 2) 22 y) = a_6 at hP hD
      refine lv_aload_n hx hb dX12_terms_45 rfl (lv_at hl 2 rfl) ?_
      refine lv_iload hx hb dX12_terms_46 (lv_at hl 0 rfl) ?_
      refine kI.callV (As := [.int 0]) (rest := []) ⟨hx, hb, hml, hown, hg⟩ (c_settled l o r f a_6 g  0) (cwV 1 hg (kgV wt6_84 wt6_86 wp3_7 wt1_14 wt6_87) rfl rfl rfl (by decide +kernel) ⟨by decide, by decide⟩) hK hP hD hS hA mIs [] rfl (wr := []) rfl rfl rfl (fun i h => by cases h) 0 12 rfl rfl rfl hl.1 rfl (Nat.le_of_ble_eq_true rfl) dX12_terms_48 ⟨by decide, by decide⟩ (fun v9 u8 H locs hw7 hP hD hS => ?_)
      obtain ⟨f10, a11, g12⟩ := u8
      have hP : va_P D vwCl (mW K o r f10 a11 g12) H := hP
      have hD : va_D A (mW K o r f10 a11 g12) := hD
      refine k_top (z := 0) (hw7) ?_
      exact kI_ret (v := 0) hx hb hr hlocks rfl hK hS dX12_terms_51 (f10, a11, g12) hP hD (by simp [mIsTerm, c4])
    · refine lv_aload_n hx hb dX12_terms_8 rfl (lv_at hl 0 rfl) ?_
      refine lv_iconst (v := (-1)) hx hb dX12_terms_9 (by decide) ?_
      refine kI.callV (As := [.int (-1)]) (rest := []) ⟨hx, hb, hml, hown, hg⟩ (c_refuses1 l o r f a g  ) (cwV 1 hg (kgV wt6_72 wt6_74 wp3_5 wt1_14 wt6_75) rfl rfl rfl (by decide +kernel) ⟨by decide, by decide⟩) hK hP hD hS hA mIs [] rfl (wr := []) rfl rfl rfl (fun i h => by cases h) 0 12 rfl rfl rfl hl.1 rfl (Nat.le_of_ble_eq_true rfl) dX12_terms_10 ⟨by decide, by decide⟩ (fun v15 u14 H locs hw13 hP hD hS => ?_)
      obtain ⟨f16, a17, g18⟩ := u14
      have hP : va_P D vwCl (mW K o r f16 a17 g18) H := hP
      have hD : va_D A (mW K o r f16 a17 g18) := hD
      refine k_top (z := (-1)) (hw13) ?_
      exact kI_ret (v := (-1)) hx hb hr hlocks rfl hK hS dX12_terms_13 (f16, a17, g18) hP hD (by simp [mIsTerm, c4])
  by_cases q19 : x = 1
  · subst q19
    have hl : lv_has ls 5 [(0, .ref o), (1, .int 1), (2, .int y)] := hl
    refine lv_iload_n hx hb dX12_terms_0 rfl (lv_at hl 1 rfl) ?_
    refine lv_iload_n hx hb dX12_terms_1 rfl (lv_at hl 2 rfl) ?_
    refine kN.callS (As := [.int 1, .int y]) (rest := []) ⟨hx, hb, hml, hown, hg⟩ (c_isTerm l 1 y) (va_cwS 2 hg (kgS wt6_146 wt6_147 wt1_14 wt6_148) rfl rfl rfl (by decide +kernel) ⟨by decide, by decide⟩) hP hS rfl hl.1 rfl (Nat.le_of_ble_eq_true rfl) dX12_terms_2 ⟨by decide, by decide⟩ (fun v21 H locs hw20 hP hS => ?_)
    refine k_top (z := mLies y 1 99) (hw20.trans (by simp [mIsTerm])) ?_
    refine lv_if_ne (tgt := 14) hx hb dX12_terms_5 (by decide) (fun c22 => ?_) (fun c22 => ?_)
    · refine lv_iload_n hx hb dX12_terms_14 rfl (lv_at hl 1 rfl) ?_
      refine lv_if_ne (tgt := 23) hx hb dX12_terms_15 (by decide) (fun c23 => ?_) (fun c23 => absurd c23 (by decide +kernel))
      refine lv_bipush (v := 99) hx hb dX12_terms_23 (by decide) ?_
      refine lv_iload_n hx hb dX12_terms_25 rfl (lv_at hl 1 rfl) ?_
      refine lv_iadd hx hb dX12_terms_26 ?_
      refine k_top (z := 100) (by decide +kernel) ?_
      refine lv_iconst (v := 1) hx hb dX12_terms_27 (by decide) ?_
      refine lv_isub hx hb dX12_terms_28 ?_
      refine k_top (z := 99) (by decide +kernel) ?_
      refine lv_istore_n (lv' := [(3, .int 99), (0, .ref o), (1, .int 1), (2, .int y)]) hx hb dX12_terms_29 rfl hl (by decide) rfl (fun ls hl => ?_)
      refine lv_aload_n hx hb dX12_terms_30 rfl (lv_at hl 1 rfl) ?_
      refine va_get (D := D) (ci := 12) (v := .ref (r 2)) (C := RX12) (T := TX12) (N := 48) hx hb hg inC12 hown hK hP 0 rfl rfl 2 (by decide) (hg _ wt5_162) (fun _ h9 => h9) rfl dX12_terms_31 ?_
      refine lv_iload_n hx hb dX12_terms_34 rfl (lv_at hl 0 rfl) ?_
      refine va_iald hx hb hK hP 2 0 rfl rfl (k_in (by decide +kernel)) dX12_terms_35 ?_
      refine k_top (z := 30) (by rw [cl_99]; exact h1) ?_
      refine lv_istore (lv' := [(4, .int 30), (3, .int 99), (0, .ref o), (1, .int 1), (2, .int y)]) hx hb dX12_terms_36 hl (by decide) rfl (fun ls hl => ?_)
      refine lv_aload_n hx hb dX12_terms_38 rfl (lv_at hl 2 rfl) ?_
      refine va_get (D := D) (ci := 12) (v := .ref (r 2)) (C := RX12) (T := TX12) (N := 48) hx hb hg inC12 hown hK hP 0 rfl rfl 2 (by decide) (hg _ wt5_162) (fun _ h9 => h9) rfl dX12_terms_39 ?_
      refine lv_iload_n hx hb dX12_terms_42 rfl (lv_at hl 1 rfl) ?_
      refine lv_iload_n hx hb dX12_terms_43 rfl (lv_at hl 4 rfl) ?_
      refine va_iast hx hb hK hP hD hS 2 0 rfl rfl (k_in (by decide +kernel)) dX12_terms_44 (fun H locs hP hD hS => ?_)
      rw [cl_99] at hP hD
      have hP : va_P D vwCl (mW K o r f (va_up a 2 (upd (a 2) 99 y)) g) H := hP
      have hD : va_D A (mW K o r f (va_up a 2 (upd (a 2) 99 y)) g) := hD
      generalize ea_24 : va_up a 2 (upd (a 2) 99 y) = a_24 at hP hD
      refine lv_aload_n hx hb dX12_terms_45 rfl (lv_at hl 2 rfl) ?_
      refine lv_iload hx hb dX12_terms_46 (lv_at hl 0 rfl) ?_
      refine kI.callV (As := [.int 30]) (rest := []) ⟨hx, hb, hml, hown, hg⟩ (c_settled l o r f a_24 g  30) (cwV 1 hg (kgV wt6_84 wt6_86 wp3_7 wt1_14 wt6_87) rfl rfl rfl (by decide +kernel) ⟨by decide, by decide⟩) hK hP hD hS hA mIs [] rfl (wr := []) rfl rfl rfl (fun i h => by cases h) 0 12 rfl rfl rfl hl.1 rfl (Nat.le_of_ble_eq_true rfl) dX12_terms_48 ⟨by decide, by decide⟩ (fun v27 u26 H locs hw25 hP hD hS => ?_)
      obtain ⟨f28, a29, g30⟩ := u26
      have hP : va_P D vwCl (mW K o r f28 a29 g30) H := hP
      have hD : va_D A (mW K o r f28 a29 g30) := hD
      refine k_top (z := 30) (hw25) ?_
      exact kI_ret (v := 30) hx hb hr hlocks rfl hK hS dX12_terms_51 (f28, a29, g30) hP hD (by simp [mIsTerm, c22])
    · refine lv_aload_n hx hb dX12_terms_8 rfl (lv_at hl 0 rfl) ?_
      refine lv_iconst (v := (-1)) hx hb dX12_terms_9 (by decide) ?_
      refine kI.callV (As := [.int (-1)]) (rest := []) ⟨hx, hb, hml, hown, hg⟩ (c_refuses1 l o r f a g  ) (cwV 1 hg (kgV wt6_72 wt6_74 wp3_5 wt1_14 wt6_75) rfl rfl rfl (by decide +kernel) ⟨by decide, by decide⟩) hK hP hD hS hA mIs [] rfl (wr := []) rfl rfl rfl (fun i h => by cases h) 0 12 rfl rfl rfl hl.1 rfl (Nat.le_of_ble_eq_true rfl) dX12_terms_10 ⟨by decide, by decide⟩ (fun v33 u32 H locs hw31 hP hD hS => ?_)
      obtain ⟨f34, a35, g36⟩ := u32
      have hP : va_P D vwCl (mW K o r f34 a35 g36) H := hP
      have hD : va_D A (mW K o r f34 a35 g36) := hD
      refine k_top (z := (-1)) (hw31) ?_
      exact kI_ret (v := (-1)) hx hb hr hlocks rfl hK hS dX12_terms_13 (f34, a35, g36) hP hD (by simp [mIsTerm, c22])
  by_cases q37 : x = 2
  · subst q37
    have hl : lv_has ls 5 [(0, .ref o), (1, .int 2), (2, .int y)] := hl
    refine lv_iload_n hx hb dX12_terms_0 rfl (lv_at hl 1 rfl) ?_
    refine lv_iload_n hx hb dX12_terms_1 rfl (lv_at hl 2 rfl) ?_
    refine kN.callS (As := [.int 2, .int y]) (rest := []) ⟨hx, hb, hml, hown, hg⟩ (c_isTerm l 2 y) (va_cwS 2 hg (kgS wt6_146 wt6_147 wt1_14 wt6_148) rfl rfl rfl (by decide +kernel) ⟨by decide, by decide⟩) hP hS rfl hl.1 rfl (Nat.le_of_ble_eq_true rfl) dX12_terms_2 ⟨by decide, by decide⟩ (fun v39 H locs hw38 hP hS => ?_)
    refine k_top (z := mLies y 0 10) (hw38.trans (by simp [mIsTerm])) ?_
    refine lv_if_ne (tgt := 14) hx hb dX12_terms_5 (by decide) (fun c40 => ?_) (fun c40 => ?_)
    · refine lv_iload_n hx hb dX12_terms_14 rfl (lv_at hl 1 rfl) ?_
      refine lv_if_ne (tgt := 23) hx hb dX12_terms_15 (by decide) (fun c41 => ?_) (fun c41 => absurd c41 (by decide +kernel))
      refine lv_bipush (v := 99) hx hb dX12_terms_23 (by decide) ?_
      refine lv_iload_n hx hb dX12_terms_25 rfl (lv_at hl 1 rfl) ?_
      refine lv_iadd hx hb dX12_terms_26 ?_
      refine k_top (z := 101) (by decide +kernel) ?_
      refine lv_iconst (v := 1) hx hb dX12_terms_27 (by decide) ?_
      refine lv_isub hx hb dX12_terms_28 ?_
      refine k_top (z := 100) (by decide +kernel) ?_
      refine lv_istore_n (lv' := [(3, .int 100), (0, .ref o), (1, .int 2), (2, .int y)]) hx hb dX12_terms_29 rfl hl (by decide) rfl (fun ls hl => ?_)
      refine lv_aload_n hx hb dX12_terms_30 rfl (lv_at hl 1 rfl) ?_
      refine va_get (D := D) (ci := 12) (v := .ref (r 2)) (C := RX12) (T := TX12) (N := 48) hx hb hg inC12 hown hK hP 0 rfl rfl 2 (by decide) (hg _ wt5_162) (fun _ h9 => h9) rfl dX12_terms_31 ?_
      refine lv_iload_n hx hb dX12_terms_34 rfl (lv_at hl 0 rfl) ?_
      refine va_iald hx hb hK hP 2 0 rfl rfl (k_in (by decide +kernel)) dX12_terms_35 ?_
      refine k_top (z := 2) (by rw [cl_100]; exact h2) ?_
      refine lv_istore (lv' := [(4, .int 2), (3, .int 100), (0, .ref o), (1, .int 2), (2, .int y)]) hx hb dX12_terms_36 hl (by decide) rfl (fun ls hl => ?_)
      refine lv_aload_n hx hb dX12_terms_38 rfl (lv_at hl 2 rfl) ?_
      refine va_get (D := D) (ci := 12) (v := .ref (r 2)) (C := RX12) (T := TX12) (N := 48) hx hb hg inC12 hown hK hP 0 rfl rfl 2 (by decide) (hg _ wt5_162) (fun _ h9 => h9) rfl dX12_terms_39 ?_
      refine lv_iload_n hx hb dX12_terms_42 rfl (lv_at hl 1 rfl) ?_
      refine lv_iload_n hx hb dX12_terms_43 rfl (lv_at hl 4 rfl) ?_
      refine va_iast hx hb hK hP hD hS 2 0 rfl rfl (k_in (by decide +kernel)) dX12_terms_44 (fun H locs hP hD hS => ?_)
      rw [cl_100] at hP hD
      have hP : va_P D vwCl (mW K o r f (va_up a 2 (upd (a 2) 100 y)) g) H := hP
      have hD : va_D A (mW K o r f (va_up a 2 (upd (a 2) 100 y)) g) := hD
      generalize ea_42 : va_up a 2 (upd (a 2) 100 y) = a_42 at hP hD
      refine lv_aload_n hx hb dX12_terms_45 rfl (lv_at hl 2 rfl) ?_
      refine lv_iload hx hb dX12_terms_46 (lv_at hl 0 rfl) ?_
      refine kI.callV (As := [.int 2]) (rest := []) ⟨hx, hb, hml, hown, hg⟩ (c_settled l o r f a_42 g  2) (cwV 1 hg (kgV wt6_84 wt6_86 wp3_7 wt1_14 wt6_87) rfl rfl rfl (by decide +kernel) ⟨by decide, by decide⟩) hK hP hD hS hA mIs [] rfl (wr := []) rfl rfl rfl (fun i h => by cases h) 0 12 rfl rfl rfl hl.1 rfl (Nat.le_of_ble_eq_true rfl) dX12_terms_48 ⟨by decide, by decide⟩ (fun v45 u44 H locs hw43 hP hD hS => ?_)
      obtain ⟨f46, a47, g48⟩ := u44
      have hP : va_P D vwCl (mW K o r f46 a47 g48) H := hP
      have hD : va_D A (mW K o r f46 a47 g48) := hD
      refine k_top (z := 2) (hw43) ?_
      exact kI_ret (v := 2) hx hb hr hlocks rfl hK hS dX12_terms_51 (f46, a47, g48) hP hD (by simp [mIsTerm, c40])
    · refine lv_aload_n hx hb dX12_terms_8 rfl (lv_at hl 0 rfl) ?_
      refine lv_iconst (v := (-1)) hx hb dX12_terms_9 (by decide) ?_
      refine kI.callV (As := [.int (-1)]) (rest := []) ⟨hx, hb, hml, hown, hg⟩ (c_refuses1 l o r f a g  ) (cwV 1 hg (kgV wt6_72 wt6_74 wp3_5 wt1_14 wt6_75) rfl rfl rfl (by decide +kernel) ⟨by decide, by decide⟩) hK hP hD hS hA mIs [] rfl (wr := []) rfl rfl rfl (fun i h => by cases h) 0 12 rfl rfl rfl hl.1 rfl (Nat.le_of_ble_eq_true rfl) dX12_terms_10 ⟨by decide, by decide⟩ (fun v51 u50 H locs hw49 hP hD hS => ?_)
      obtain ⟨f52, a53, g54⟩ := u50
      have hP : va_P D vwCl (mW K o r f52 a53 g54) H := hP
      have hD : va_D A (mW K o r f52 a53 g54) := hD
      refine k_top (z := (-1)) (hw49) ?_
      exact kI_ret (v := (-1)) hx hb hr hlocks rfl hK hS dX12_terms_13 (f52, a53, g54) hP hD (by simp [mIsTerm, c40])
  by_cases q55 : x = 3
  · subst q55
    have hl : lv_has ls 5 [(0, .ref o), (1, .int 3), (2, .int y)] := hl
    refine lv_iload_n hx hb dX12_terms_0 rfl (lv_at hl 1 rfl) ?_
    refine lv_iload_n hx hb dX12_terms_1 rfl (lv_at hl 2 rfl) ?_
    refine kN.callS (As := [.int 3, .int y]) (rest := []) ⟨hx, hb, hml, hown, hg⟩ (c_isTerm l 3 y) (va_cwS 2 hg (kgS wt6_146 wt6_147 wt1_14 wt6_148) rfl rfl rfl (by decide +kernel) ⟨by decide, by decide⟩) hP hS rfl hl.1 rfl (Nat.le_of_ble_eq_true rfl) dX12_terms_2 ⟨by decide, by decide⟩ (fun v57 H locs hw56 hP hS => ?_)
    refine k_top (z := mLies y 0 9) (hw56.trans (by simp [mIsTerm])) ?_
    refine lv_if_ne (tgt := 14) hx hb dX12_terms_5 (by decide) (fun c58 => ?_) (fun c58 => ?_)
    · refine lv_iload_n hx hb dX12_terms_14 rfl (lv_at hl 1 rfl) ?_
      refine lv_if_ne (tgt := 23) hx hb dX12_terms_15 (by decide) (fun c59 => ?_) (fun c59 => absurd c59 (by decide +kernel))
      refine lv_bipush (v := 99) hx hb dX12_terms_23 (by decide) ?_
      refine lv_iload_n hx hb dX12_terms_25 rfl (lv_at hl 1 rfl) ?_
      refine lv_iadd hx hb dX12_terms_26 ?_
      refine k_top (z := 102) (by decide +kernel) ?_
      refine lv_iconst (v := 1) hx hb dX12_terms_27 (by decide) ?_
      refine lv_isub hx hb dX12_terms_28 ?_
      refine k_top (z := 101) (by decide +kernel) ?_
      refine lv_istore_n (lv' := [(3, .int 101), (0, .ref o), (1, .int 3), (2, .int y)]) hx hb dX12_terms_29 rfl hl (by decide) rfl (fun ls hl => ?_)
      refine lv_aload_n hx hb dX12_terms_30 rfl (lv_at hl 1 rfl) ?_
      refine va_get (D := D) (ci := 12) (v := .ref (r 2)) (C := RX12) (T := TX12) (N := 48) hx hb hg inC12 hown hK hP 0 rfl rfl 2 (by decide) (hg _ wt5_162) (fun _ h9 => h9) rfl dX12_terms_31 ?_
      refine lv_iload_n hx hb dX12_terms_34 rfl (lv_at hl 0 rfl) ?_
      refine va_iald hx hb hK hP 2 0 rfl rfl (k_in (by decide +kernel)) dX12_terms_35 ?_
      refine k_top (z := 0) (by rw [cl_101]; exact h3) ?_
      refine lv_istore (lv' := [(4, .int 0), (3, .int 101), (0, .ref o), (1, .int 3), (2, .int y)]) hx hb dX12_terms_36 hl (by decide) rfl (fun ls hl => ?_)
      refine lv_aload_n hx hb dX12_terms_38 rfl (lv_at hl 2 rfl) ?_
      refine va_get (D := D) (ci := 12) (v := .ref (r 2)) (C := RX12) (T := TX12) (N := 48) hx hb hg inC12 hown hK hP 0 rfl rfl 2 (by decide) (hg _ wt5_162) (fun _ h9 => h9) rfl dX12_terms_39 ?_
      refine lv_iload_n hx hb dX12_terms_42 rfl (lv_at hl 1 rfl) ?_
      refine lv_iload_n hx hb dX12_terms_43 rfl (lv_at hl 4 rfl) ?_
      refine va_iast hx hb hK hP hD hS 2 0 rfl rfl (k_in (by decide +kernel)) dX12_terms_44 (fun H locs hP hD hS => ?_)
      rw [cl_101] at hP hD
      have hP : va_P D vwCl (mW K o r f (va_up a 2 (upd (a 2) 101 y)) g) H := hP
      have hD : va_D A (mW K o r f (va_up a 2 (upd (a 2) 101 y)) g) := hD
      generalize ea_60 : va_up a 2 (upd (a 2) 101 y) = a_60 at hP hD
      refine lv_aload_n hx hb dX12_terms_45 rfl (lv_at hl 2 rfl) ?_
      refine lv_iload hx hb dX12_terms_46 (lv_at hl 0 rfl) ?_
      refine kI.callV (As := [.int 0]) (rest := []) ⟨hx, hb, hml, hown, hg⟩ (c_settled l o r f a_60 g  0) (cwV 1 hg (kgV wt6_84 wt6_86 wp3_7 wt1_14 wt6_87) rfl rfl rfl (by decide +kernel) ⟨by decide, by decide⟩) hK hP hD hS hA mIs [] rfl (wr := []) rfl rfl rfl (fun i h => by cases h) 0 12 rfl rfl rfl hl.1 rfl (Nat.le_of_ble_eq_true rfl) dX12_terms_48 ⟨by decide, by decide⟩ (fun v63 u62 H locs hw61 hP hD hS => ?_)
      obtain ⟨f64, a65, g66⟩ := u62
      have hP : va_P D vwCl (mW K o r f64 a65 g66) H := hP
      have hD : va_D A (mW K o r f64 a65 g66) := hD
      refine k_top (z := 0) (hw61) ?_
      exact kI_ret (v := 0) hx hb hr hlocks rfl hK hS dX12_terms_51 (f64, a65, g66) hP hD (by simp [mIsTerm, c58])
    · refine lv_aload_n hx hb dX12_terms_8 rfl (lv_at hl 0 rfl) ?_
      refine lv_iconst (v := (-1)) hx hb dX12_terms_9 (by decide) ?_
      refine kI.callV (As := [.int (-1)]) (rest := []) ⟨hx, hb, hml, hown, hg⟩ (c_refuses1 l o r f a g  ) (cwV 1 hg (kgV wt6_72 wt6_74 wp3_5 wt1_14 wt6_75) rfl rfl rfl (by decide +kernel) ⟨by decide, by decide⟩) hK hP hD hS hA mIs [] rfl (wr := []) rfl rfl rfl (fun i h => by cases h) 0 12 rfl rfl rfl hl.1 rfl (Nat.le_of_ble_eq_true rfl) dX12_terms_10 ⟨by decide, by decide⟩ (fun v69 u68 H locs hw67 hP hD hS => ?_)
      obtain ⟨f70, a71, g72⟩ := u68
      have hP : va_P D vwCl (mW K o r f70 a71 g72) H := hP
      have hD : va_D A (mW K o r f70 a71 g72) := hD
      refine k_top (z := (-1)) (hw67) ?_
      exact kI_ret (v := (-1)) hx hb hr hlocks rfl hK hS dX12_terms_13 (f70, a71, g72) hP hD (by simp [mIsTerm, c58])
  refine lv_iload_n hx hb dX12_terms_0 rfl (lv_at hl 1 rfl) ?_
  refine lv_iload_n hx hb dX12_terms_1 rfl (lv_at hl 2 rfl) ?_
  refine kN.callS (As := [.int x, .int y]) (rest := []) ⟨hx, hb, hml, hown, hg⟩ (c_isTerm l x y) (va_cwS 2 hg (kgS wt6_146 wt6_147 wt1_14 wt6_148) rfl rfl rfl (by decide +kernel) ⟨by decide, by decide⟩) hP hS rfl hl.1 rfl (Nat.le_of_ble_eq_true rfl) dX12_terms_2 ⟨by decide, by decide⟩ (fun v74 H locs hw73 hP hS => ?_)
  refine k_top (z := 0) (hw73.trans (by simp [mIsTerm, q1, q19, q37, q55])) ?_
  refine lv_if_ne (tgt := 14) hx hb dX12_terms_5 (by decide) (fun c75 => absurd (by decide +kernel) c75) (fun c75 => ?_)
  refine lv_aload_n hx hb dX12_terms_8 rfl (lv_at hl 0 rfl) ?_
  refine lv_iconst (v := (-1)) hx hb dX12_terms_9 (by decide) ?_
  refine kI.callV (As := [.int (-1)]) (rest := []) ⟨hx, hb, hml, hown, hg⟩ (c_refuses1 l o r f a g  ) (cwV 1 hg (kgV wt6_72 wt6_74 wp3_5 wt1_14 wt6_75) rfl rfl rfl (by decide +kernel) ⟨by decide, by decide⟩) hK hP hD hS hA mIs [] rfl (wr := []) rfl rfl rfl (fun i h => by cases h) 0 12 rfl rfl rfl hl.1 rfl (Nat.le_of_ble_eq_true rfl) dX12_terms_10 ⟨by decide, by decide⟩ (fun v78 u77 H locs hw76 hP hD hS => ?_)
  obtain ⟨f79, a80, g81⟩ := u77
  have hP : va_P D vwCl (mW K o r f79 a80 g81) H := hP
  have hD : va_D A (mW K o r f79 a80 g81) := hD
  refine k_top (z := (-1)) (hw76) ?_
  exact kI_ret (v := (-1)) hx hb hr hlocks rfl hK hS dX12_terms_13 (f79, a80, g81) hP hD (by simp [mIsTerm, q1, q19, q37, q55])
set_option maxHeartbeats 4000000 in
set_option maxRecDepth 100000 in
theorem c_feed (l : Launch) {D : va_G} {K : Nat → ClassId} (o : Nat) (r : Nat → Nat) (f : Nat → Int32) (a : Nat → Nat → Int32) (g : Nat → Int64) (h0 : f 13 = 0) (x0 : Int32) (x1 : Int32) (x2 : Int32) (x3 : Int32) (x4 : Int32)  : kI l yX12_feed (Cond.code yX12_feed cX12_feed 7 (some .int) :: kG) (rmD 1 0 0) D (tysK K) [.ref o, .int x0, .int x1, .int x2, .int x3, .int x4] (mW K o r f a g) (fun v (u : mS) => v = 20) (fun u => mW K o r u.1 u.2.1 u.2.2) 0 0 := by
  refine kI.of (cc := cX12_feed) (maxL := 7) (ret := (some .int)) (by decide) rfl (Nat.le_of_ble_eq_true rfl) ?_
  intro p e s m below meth c A hx hb hr hml hown hts hlocks hnm hK hP hD hS hA ls hl
  have hg : ∀ w ∈ kG, w.before _ s = true := fun w h => hts w (List.mem_cons_of_mem _ h)
  have hown : s.vm.findClass RX12 = some m.cls := hown
  have hl : lv_has ls 7 [(0, .ref o), (1, .int x0), (2, .int x1), (3, .int x2), (4, .int x3), (5, .int x4)] := hl
  refine lv_aload_n hx hb dX12_feed_0 rfl (lv_at hl 0 rfl) ?_
  refine va_get (D := D) (ci := 12) (v := .int (f 13)) (C := RX12) (T := TX12) (N := 48) hx hb hg inC12 hown hK hP 0 rfl rfl 13 (by decide) (hg _ wt5_173) (fun _ h9 => h9) rfl dX12_feed_1 ?_
  refine k_top (z := 0) h0 ?_
  refine lv_bipush (v := 20) hx hb dX12_feed_4 (by decide) ?_
  refine lv_iadd hx hb dX12_feed_6 ?_
  refine k_top (z := 20) (by decide +kernel) ?_
  refine lv_sipush (v := 400) hx hb dX12_feed_7 (by decide) ?_
  refine lv_icmp_le (tgt := 15) hx hb dX12_feed_10 (by decide) (fun c1 => ?_) (fun c1 => absurd (by decide +kernel) c1)
  refine lv_aload_n hx hb dX12_feed_15 rfl (lv_at hl 0 rfl) ?_
  refine va_get (D := D) (ci := 12) (v := .ref (r 12)) (C := RX12) (T := TX12) (N := 48) hx hb hg inC12 hown hK hP 0 rfl rfl 12 (by decide) (hg _ wt5_172) (fun _ h9 => h9) rfl dX12_feed_16 ?_
  refine lv_iconst (v := 0) hx hb dX12_feed_19 (by decide) ?_
  refine lv_iload_n hx hb dX12_feed_20 rfl (lv_at hl 1 rfl) ?_
  refine va_iast hx hb hK hP hD hS 8 0 rfl rfl (k_in (by decide +kernel)) dX12_feed_21 (fun H locs hP hD hS => ?_)
  rw [cl_0] at hP hD
  have hP : va_P D vwCl (mW K o r f (va_up a 12 (upd (a 12) 0 x0)) g) H := hP
  have hD : va_D A (mW K o r f (va_up a 12 (upd (a 12) 0 x0)) g) := hD
  generalize ea_2 : va_up a 12 (upd (a 12) 0 x0) = a_2 at hP hD
  refine lv_aload_n hx hb dX12_feed_22 rfl (lv_at hl 0 rfl) ?_
  refine va_get (D := D) (ci := 12) (v := .ref (r 12)) (C := RX12) (T := TX12) (N := 48) hx hb hg inC12 hown hK hP 0 rfl rfl 12 (by decide) (hg _ wt5_172) (fun _ h9 => h9) rfl dX12_feed_23 ?_
  refine lv_iconst (v := 1) hx hb dX12_feed_26 (by decide) ?_
  refine lv_iload_n hx hb dX12_feed_27 rfl (lv_at hl 2 rfl) ?_
  refine va_iast hx hb hK hP hD hS 8 0 rfl rfl (k_in (by decide +kernel)) dX12_feed_28 (fun H locs hP hD hS => ?_)
  rw [cl_1] at hP hD
  have hP : va_P D vwCl (mW K o r f (va_up a_2 12 (upd (a_2 12) 1 x1)) g) H := hP
  have hD : va_D A (mW K o r f (va_up a_2 12 (upd (a_2 12) 1 x1)) g) := hD
  generalize ea_3 : va_up a_2 12 (upd (a_2 12) 1 x1) = a_3 at hP hD
  refine lv_aload_n hx hb dX12_feed_29 rfl (lv_at hl 0 rfl) ?_
  refine va_get (D := D) (ci := 12) (v := .ref (r 12)) (C := RX12) (T := TX12) (N := 48) hx hb hg inC12 hown hK hP 0 rfl rfl 12 (by decide) (hg _ wt5_172) (fun _ h9 => h9) rfl dX12_feed_30 ?_
  refine lv_iconst (v := 2) hx hb dX12_feed_33 (by decide) ?_
  refine lv_iload_n hx hb dX12_feed_34 rfl (lv_at hl 3 rfl) ?_
  refine va_iast hx hb hK hP hD hS 8 0 rfl rfl (k_in (by decide +kernel)) dX12_feed_35 (fun H locs hP hD hS => ?_)
  rw [cl_2] at hP hD
  have hP : va_P D vwCl (mW K o r f (va_up a_3 12 (upd (a_3 12) 2 x2)) g) H := hP
  have hD : va_D A (mW K o r f (va_up a_3 12 (upd (a_3 12) 2 x2)) g) := hD
  generalize ea_4 : va_up a_3 12 (upd (a_3 12) 2 x2) = a_4 at hP hD
  refine lv_aload_n hx hb dX12_feed_36 rfl (lv_at hl 0 rfl) ?_
  refine va_get (D := D) (ci := 12) (v := .ref (r 12)) (C := RX12) (T := TX12) (N := 48) hx hb hg inC12 hown hK hP 0 rfl rfl 12 (by decide) (hg _ wt5_172) (fun _ h9 => h9) rfl dX12_feed_37 ?_
  refine lv_iconst (v := 3) hx hb dX12_feed_40 (by decide) ?_
  refine lv_iload hx hb dX12_feed_41 (lv_at hl 4 rfl) ?_
  refine va_iast hx hb hK hP hD hS 8 0 rfl rfl (k_in (by decide +kernel)) dX12_feed_43 (fun H locs hP hD hS => ?_)
  rw [cl_3] at hP hD
  have hP : va_P D vwCl (mW K o r f (va_up a_4 12 (upd (a_4 12) 3 x3)) g) H := hP
  have hD : va_D A (mW K o r f (va_up a_4 12 (upd (a_4 12) 3 x3)) g) := hD
  generalize ea_5 : va_up a_4 12 (upd (a_4 12) 3 x3) = a_5 at hP hD
  refine lv_aload_n hx hb dX12_feed_44 rfl (lv_at hl 0 rfl) ?_
  refine va_get (D := D) (ci := 12) (v := .ref (r 12)) (C := RX12) (T := TX12) (N := 48) hx hb hg inC12 hown hK hP 0 rfl rfl 12 (by decide) (hg _ wt5_172) (fun _ h9 => h9) rfl dX12_feed_45 ?_
  refine lv_iconst (v := 4) hx hb dX12_feed_48 (by decide) ?_
  refine lv_iload hx hb dX12_feed_49 (lv_at hl 5 rfl) ?_
  refine va_iast hx hb hK hP hD hS 8 0 rfl rfl (k_in (by decide +kernel)) dX12_feed_51 (fun H locs hP hD hS => ?_)
  rw [cl_4] at hP hD
  have hP : va_P D vwCl (mW K o r f (va_up a_5 12 (upd (a_5 12) 4 x4)) g) H := hP
  have hD : va_D A (mW K o r f (va_up a_5 12 (upd (a_5 12) 4 x4)) g) := hD
  generalize ea_6 : va_up a_5 12 (upd (a_5 12) 4 x4) = a_6 at hP hD
  refine lv_iconst (v := 0) hx hb dX12_feed_52 (by decide) ?_
  refine lv_istore (lv' := [(6, .int 0), (0, .ref o), (1, .int x0), (2, .int x1), (3, .int x2), (4, .int x3), (5, .int x4)]) hx hb dX12_feed_53 hl (by decide) rfl (fun ls hl => ?_)
  have lp7 : ∀ (n i : Nat) (F : Nat → Int32) (B : Nat → Nat → Int32) (G : Nat → Int64) (H : Heap) (locs : List Loc) (ls : Array Slot), i + n = 20 → F 13 = 0 → va_P D vwCl (mW K o r F B G) H → va_D A (mW K o r F B G) → va_S A s.heap H locs → lv_has ls 7 [(6, .int (nI i)), (0, .ref o), (1, .int x0), (2, .int x1), (3, .int x2), (4, .int x3), (5, .int x4)] → W p l e (rmD 1 0 0) s m ([.ref o, .int x0, .int x1, .int x2, .int x3, .int x4] : List Value).toArray below meth c H locs 0 0 (kQi D (tysK K) (fun v (u : mS) => v = 20) (fun u => mW K o r u.1 u.2.1 u.2.2) A below ([.ref o, .int x0, .int x1, .int x2, .int x3, .int x4] : List Value).toArray s 0 0) (F0 m 55 ls []) := by
    intro n
    induction n with
    | zero =>
      intro i F B G H locs ls hin z0 hP hD hS hl
      obtain rfl : 20 = i := by omega
      have hl : lv_has ls 7 [(6, .int 20), (0, .ref o), (1, .int x0), (2, .int x1), (3, .int x2), (4, .int x3), (5, .int x4)] := hl
      refine lv_iload hx hb dX12_feed_55 (lv_at hl 0 rfl) ?_
      refine lv_bipush (v := 20) hx hb dX12_feed_57 (by decide) ?_
      refine lv_icmp_ge (tgt := 101) hx hb dX12_feed_59 (by decide) (fun c8 => ?_) (fun c8 => absurd (by decide +kernel) c8)
      refine lv_aload_n hx hb dX12_feed_101 rfl (lv_at hl 1 rfl) ?_
      refine lv_dup hx hb dX12_feed_102 rfl ?_
      refine va_get (D := D) (ci := 12) (v := .int (F 13)) (C := RX12) (T := TX12) (N := 48) hx hb hg inC12 hown hK hP 0 rfl rfl 13 (by decide) (hg _ wt5_173) (fun _ h9 => h9) rfl dX12_feed_103 ?_
      refine k_top (z := 0) z0 ?_
      refine lv_bipush (v := 20) hx hb dX12_feed_106 (by decide) ?_
      refine lv_iadd hx hb dX12_feed_108 ?_
      refine k_top (z := 20) (by decide +kernel) ?_
      refine va_put (D := D) (ci := 12) (v := .int 20) (ty := .int) (C := RX12) (T := TX12) (N := 48) hx hb hg inC12 tyX12 tyX12_ok nmX12 hown hK hP hD hS 0 rfl rfl 13 (by decide) (hg _ wt5_173) (fun _ h9 => h9) rfl (by decide +kernel) rfl rfl (Nat.le_of_ble_eq_true rfl) dX12_feed_109 (fun H locs hP hD hS => ?_)
      have hP : va_P D vwCl (mW K o r (upd F 13 20) B G) H := hP
      have hD : va_D A (mW K o r (upd F 13 20) B G) := hD
      generalize ef_9 : upd F 13 20 = f_9 at hP hD
      refine lv_aload_n hx hb dX12_feed_112 rfl (lv_at hl 1 rfl) ?_
      refine va_get (D := D) (ci := 12) (v := .int (f_9 13)) (C := RX12) (T := TX12) (N := 48) hx hb hg inC12 hown hK hP 0 rfl rfl 13 (by decide) (hg _ wt5_173) (fun _ h9 => h9) rfl dX12_feed_113 ?_
      refine k_top (z := 20) (show f_9 13 = 20 from by rw [← ef_9]; rfl) ?_
      exact kI_ret (v := 20) hx hb hr hlocks rfl hK hS dX12_feed_116 (f_9, B, G) hP hD rfl
    | succ n ih =>
      intro i F B G H locs ls hin z0 hP hD hS hl
      have hlt : i < 20 := by omega
      refine lv_iload hx hb dX12_feed_55 (lv_at hl 0 rfl) ?_
      refine lv_bipush (v := 20) hx hb dX12_feed_57 (by decide) ?_
      refine lv_icmp_ge (tgt := 101) hx hb dX12_feed_59 (by decide) (fun c10 => absurd c10 (nI_ge (b := 20) hlt (by decide))) (fun c10 => ?_)
      refine lv_aload_n hx hb dX12_feed_62 rfl (lv_at hl 1 rfl) ?_
      refine va_get (D := D) (ci := 12) (v := .ref (r 11)) (C := RX12) (T := TX12) (N := 48) hx hb hg inC12 hown hK hP 0 rfl rfl 11 (by decide) (hg _ wt5_171) (fun _ h9 => h9) rfl dX12_feed_63 ?_
      refine lv_aload_n hx hb dX12_feed_66 rfl (lv_at hl 1 rfl) ?_
      refine va_get (D := D) (ci := 12) (v := .int (F 13)) (C := RX12) (T := TX12) (N := 48) hx hb hg inC12 hown hK hP 0 rfl rfl 13 (by decide) (hg _ wt5_173) (fun _ h9 => h9) rfl dX12_feed_67 ?_
      refine k_top (z := 0) z0 ?_
      refine lv_iload hx hb dX12_feed_70 (lv_at hl 0 rfl) ?_
      refine lv_iadd hx hb dX12_feed_72 ?_
      refine k_top (z := nI (0 + i)) (nI_add 0 i) ?_
      refine lv_aload_n hx hb dX12_feed_73 rfl (lv_at hl 1 rfl) ?_
      refine va_get (D := D) (ci := 12) (v := .ref (r 12)) (C := RX12) (T := TX12) (N := 48) hx hb hg inC12 hown hK hP 0 rfl rfl 12 (by decide) (hg _ wt5_172) (fun _ h9 => h9) rfl dX12_feed_74 ?_
      refine lv_iload hx hb dX12_feed_77 (lv_at hl 0 rfl) ?_
      refine lv_iconst (v := 4) hx hb dX12_feed_79 (by decide) ?_
      refine lv_idiv hx hb dX12_feed_80 (by decide +kernel) ?_
      refine k_top (z := nI (i / 4)) (pk_div (by omega) (by decide) (by decide)) ?_
      refine va_iald hx hb hK hP 8 0 rfl rfl (vp_in_nI (by omega) (by decide)) dX12_feed_81 ?_
      refine lv_topi (fun t11 et11 => ?_)
      rw [nI_clamp (n := (i / 4)) (by omega)] at et11
      refine lv_bipush (v := 24) hx hb dX12_feed_82 (by decide) ?_
      refine lv_bipush (v := 8) hx hb dX12_feed_84 (by decide) ?_
      refine lv_iload hx hb dX12_feed_86 (lv_at hl 0 rfl) ?_
      refine lv_iconst (v := 4) hx hb dX12_feed_88 (by decide) ?_
      refine lv_irem hx hb dX12_feed_89 (by decide +kernel) ?_
      refine k_top (z := nI (i % 4)) (pk_rem (by omega) (by decide) (by decide)) ?_
      refine lv_imul hx hb dX12_feed_90 ?_
      refine k_top (z := nI (8 * (i % 4))) (pk_mul 8 (i % 4)) ?_
      refine lv_isub hx hb dX12_feed_91 ?_
      refine lv_topi (fun t12 et12 => ?_)
      refine lv_ishr hx hb dX12_feed_92 ?_
      refine lv_topi (fun t13 et13 => ?_)
      refine lv_i2b hx hb dX12_feed_93 rfl ?_
      refine lv_topi (fun t15 et15 => ?_)
      refine va_bast hx hb hK hP hD hS 7 1 rfl rfl (vp_in_nI (by omega) (by decide)) dX12_feed_94 (fun H locs hP hD hS => ?_)
      rw [nI_clamp (n := (0 + i)) (by omega)] at hP hD
      have hP : va_P D vwCl (mW K o r F (va_up B 11 (upd (B 11) (0 + i) (vp_nar .byte t15))) G) H := hP
      have hD : va_D A (mW K o r F (va_up B 11 (upd (B 11) (0 + i) (vp_nar .byte t15))) G) := hD
      generalize ea_16 : va_up B 11 (upd (B 11) (0 + i) (vp_nar .byte t15)) = a_16 at hP hD
      refine lv_iinc (v := nI (i + 1)) (lv' := [(6, .int (nI (i + 1))), (0, .ref o), (1, .int x0), (2, .int x1), (3, .int x2), (4, .int x3), (5, .int x4)]) hx hb dX12_feed_95 hl (k := 0) rfl (nI_1 _) (by decide) rfl (fun ls hl => ?_)
      refine lv_goto (tgt := 55) hx hb dX12_feed_98 (by decide) ?_
      exact ih (i + 1) F a_16 G _ _ _ (by omega) z0 hP hD hS (lv_sub hl [0, 1, 2, 3, 4, 5, 6] rfl)
  exact lp7 (20 - 0) 0 f a_6 g _ _ _ (by omega) h0 hP hD hS hl
set_option maxHeartbeats 4000000 in
set_option maxRecDepth 100000 in
theorem c_splits0 (l : Launch) {D : va_G} {K : Nat → ClassId} (o : Nat) (r : Nat → Nat) (f : Nat → Int32) (a : Nat → Nat → Int32) (g : Nat → Int64) (h0 : f 10 = 0)   : kV l yX12_splits (Cond.code yX12_splits cX12_splits 6 none :: kG) (rmD 1 0 0) D (tysK K) [.ref o, .int 0] (mW K o r f a g) (fun (u : mS) => u.1 18 = 0 ∧ u.2.1 17 0 = 0 ∧ u.2.1 15 0 = 0 ∧ u.1 10 = 0) (fun u => mW K o r u.1 u.2.1 u.2.2) 0 0 := by
  refine kV.of (cc := cX12_splits) (maxL := 6) (ret := none) (by decide) rfl (Nat.le_of_ble_eq_true rfl) ?_
  intro p e s m below meth c A hx hb hr hml hown hts hlocks hnm hK hP hD hS hA ls hl
  have hg : ∀ w ∈ kG, w.before _ s = true := fun w h => hts w (List.mem_cons_of_mem _ h)
  have hown : s.vm.findClass RX12 = some m.cls := hown
  have hl : lv_has ls 6 [(0, .ref o), (1, .int 0)] := hl
  refine lv_aload_n hx hb dX12_splits_0 rfl (lv_at hl 0 rfl) ?_
  refine lv_iconst (v := 0) hx hb dX12_splits_1 (by decide) ?_
  refine va_put (D := D) (ci := 12) (v := .int 0) (ty := .int) (C := RX12) (T := TX12) (N := 48) hx hb hg inC12 tyX12 tyX12_ok nmX12 hown hK hP hD hS 0 rfl rfl 18 (by decide) (hg _ wt5_178) (fun _ h9 => h9) rfl (by decide +kernel) rfl rfl (Nat.le_of_ble_eq_true rfl) dX12_splits_2 (fun H locs hP hD hS => ?_)
  have hP : va_P D vwCl (mW K o r (upd f 18 0) a g) H := hP
  have hD : va_D A (mW K o r (upd f 18 0) a g) := hD
  generalize ef_1 : upd f 18 0 = f_1 at hP hD
  refine lv_iconst (v := 0) hx hb dX12_splits_5 (by decide) ?_
  refine lv_istore_n (lv' := [(2, .int 0), (0, .ref o), (1, .int 0)]) hx hb dX12_splits_6 rfl hl (by decide) rfl (fun ls hl => ?_)
  refine lv_iload_n hx hb dX12_splits_7 rfl (lv_at hl 0 rfl) ?_
  refine lv_iload_n hx hb dX12_splits_8 rfl (lv_at hl 2 rfl) ?_
  refine lv_icmp_ge (tgt := 263) hx hb dX12_splits_9 (by decide) (fun c2 => ?_) (fun c2 => absurd (by decide +kernel) c2)
  refine lv_aload_n hx hb dX12_splits_263 rfl (lv_at hl 1 rfl) ?_
  refine va_get (D := D) (ci := 12) (v := .ref (r 17)) (C := RX12) (T := TX12) (N := 48) hx hb hg inC12 hown hK hP 0 rfl rfl 17 (by decide) (hg _ wt5_177) (fun _ h9 => h9) rfl dX12_splits_264 ?_
  refine lv_aload_n hx hb dX12_splits_267 rfl (lv_at hl 1 rfl) ?_
  refine va_get (D := D) (ci := 12) (v := .int (f_1 18)) (C := RX12) (T := TX12) (N := 48) hx hb hg inC12 hown hK hP 0 rfl rfl 18 (by decide) (hg _ wt5_178) (fun _ h9 => h9) rfl dX12_splits_268 ?_
  refine k_top (z := 0) (show f_1 18 = 0 from by rw [← ef_1]; rfl) ?_
  refine lv_iload_n hx hb dX12_splits_271 rfl (lv_at hl 2 rfl) ?_
  refine va_iast hx hb hK hP hD hS 11 0 rfl rfl (k_in (by decide +kernel)) dX12_splits_272 (fun H locs hP hD hS => ?_)
  rw [cl_0] at hP hD
  have hP : va_P D vwCl (mW K o r f_1 (va_up a 17 (upd (a 17) 0 0)) g) H := hP
  have hD : va_D A (mW K o r f_1 (va_up a 17 (upd (a 17) 0 0)) g) := hD
  generalize ea_3 : va_up a 17 (upd (a 17) 0 0) = a_3 at hP hD
  refine lv_aload_n hx hb dX12_splits_273 rfl (lv_at hl 1 rfl) ?_
  refine va_get (D := D) (ci := 12) (v := .ref (r 15)) (C := RX12) (T := TX12) (N := 48) hx hb hg inC12 hown hK hP 0 rfl rfl 15 (by decide) (hg _ wt5_175) (fun _ h9 => h9) rfl dX12_splits_274 ?_
  refine lv_aload_n hx hb dX12_splits_277 rfl (lv_at hl 1 rfl) ?_
  refine va_get (D := D) (ci := 12) (v := .int (f_1 18)) (C := RX12) (T := TX12) (N := 48) hx hb hg inC12 hown hK hP 0 rfl rfl 18 (by decide) (hg _ wt5_178) (fun _ h9 => h9) rfl dX12_splits_278 ?_
  refine k_top (z := 0) (show f_1 18 = 0 from by rw [← ef_1]; rfl) ?_
  refine lv_iconst (v := 0) hx hb dX12_splits_281 (by decide) ?_
  refine va_iast hx hb hK hP hD hS 9 0 rfl rfl (k_in (by decide +kernel)) dX12_splits_282 (fun H locs hP hD hS => ?_)
  rw [cl_0] at hP hD
  have hP : va_P D vwCl (mW K o r f_1 (va_up a_3 15 (upd (a_3 15) 0 0)) g) H := hP
  have hD : va_D A (mW K o r f_1 (va_up a_3 15 (upd (a_3 15) 0 0)) g) := hD
  generalize ea_4 : va_up a_3 15 (upd (a_3 15) 0 0) = a_4 at hP hD
  refine lv_aload_n hx hb dX12_splits_283 rfl (lv_at hl 1 rfl) ?_
  refine va_get (D := D) (ci := 12) (v := .ref (r 16)) (C := RX12) (T := TX12) (N := 48) hx hb hg inC12 hown hK hP 0 rfl rfl 16 (by decide) (hg _ wt5_176) (fun _ h9 => h9) rfl dX12_splits_284 ?_
  refine lv_aload_n hx hb dX12_splits_287 rfl (lv_at hl 1 rfl) ?_
  refine va_get (D := D) (ci := 12) (v := .int (f_1 18)) (C := RX12) (T := TX12) (N := 48) hx hb hg inC12 hown hK hP 0 rfl rfl 18 (by decide) (hg _ wt5_178) (fun _ h9 => h9) rfl dX12_splits_288 ?_
  refine k_top (z := 0) (show f_1 18 = 0 from by rw [← ef_1]; rfl) ?_
  refine lv_iconst (v := 0) hx hb dX12_splits_291 (by decide) ?_
  refine va_iast hx hb hK hP hD hS 10 0 rfl rfl (k_in (by decide +kernel)) dX12_splits_292 (fun H locs hP hD hS => ?_)
  rw [cl_0] at hP hD
  have hP : va_P D vwCl (mW K o r f_1 (va_up a_4 16 (upd (a_4 16) 0 0)) g) H := hP
  have hD : va_D A (mW K o r f_1 (va_up a_4 16 (upd (a_4 16) 0 0)) g) := hD
  generalize ea_5 : va_up a_4 16 (upd (a_4 16) 0 0) = a_5 at hP hD
  exact kV_ret hx hb hr hlocks hK hS dX12_splits_293 (f_1, a_5, g) hP hD ⟨(show f_1 18 = 0 from by rw [← ef_1]; rfl), ((show a_5 17 0 = a_4 17 0 from by rw [← ea_5]; rfl).trans ((show a_4 17 0 = a_3 17 0 from by rw [← ea_4]; rfl).trans (show a_3 17 0 = 0 from by rw [← ea_3]; rfl))), ((show a_5 15 0 = a_4 15 0 from by rw [← ea_5]; rfl).trans (show a_4 15 0 = 0 from by rw [← ea_4]; rfl)), ((show f_1 10 = f 10 from by rw [← ef_1]; rfl).trans h0)⟩
set_option maxHeartbeats 4000000 in
set_option maxRecDepth 100000 in
theorem c_splits1 (l : Launch) {D : va_G} {K : Nat → ClassId} (o : Nat) (r : Nat → Nat) (f : Nat → Int32) (a : Nat → Nat → Int32) (g : Nat → Int64) (h0 : f 10 = 1)   : kV l yX12_splits (Cond.code yX12_splits cX12_splits 6 none :: kG) (rmD 1 0 0) D (tysK K) [.ref o, .int 0] (mW K o r f a g) (fun (u : mS) => u.1 18 = 0 ∧ u.2.1 17 0 = 0 ∧ u.2.1 15 0 = 0 ∧ u.1 10 = 1) (fun u => mW K o r u.1 u.2.1 u.2.2) 0 0 := by
  refine kV.of (cc := cX12_splits) (maxL := 6) (ret := none) (by decide) rfl (Nat.le_of_ble_eq_true rfl) ?_
  intro p e s m below meth c A hx hb hr hml hown hts hlocks hnm hK hP hD hS hA ls hl
  have hg : ∀ w ∈ kG, w.before _ s = true := fun w h => hts w (List.mem_cons_of_mem _ h)
  have hown : s.vm.findClass RX12 = some m.cls := hown
  have hl : lv_has ls 6 [(0, .ref o), (1, .int 0)] := hl
  refine lv_aload_n hx hb dX12_splits_0 rfl (lv_at hl 0 rfl) ?_
  refine lv_iconst (v := 0) hx hb dX12_splits_1 (by decide) ?_
  refine va_put (D := D) (ci := 12) (v := .int 0) (ty := .int) (C := RX12) (T := TX12) (N := 48) hx hb hg inC12 tyX12 tyX12_ok nmX12 hown hK hP hD hS 0 rfl rfl 18 (by decide) (hg _ wt5_178) (fun _ h9 => h9) rfl (by decide +kernel) rfl rfl (Nat.le_of_ble_eq_true rfl) dX12_splits_2 (fun H locs hP hD hS => ?_)
  have hP : va_P D vwCl (mW K o r (upd f 18 0) a g) H := hP
  have hD : va_D A (mW K o r (upd f 18 0) a g) := hD
  generalize ef_1 : upd f 18 0 = f_1 at hP hD
  refine lv_iconst (v := 0) hx hb dX12_splits_5 (by decide) ?_
  refine lv_istore_n (lv' := [(2, .int 0), (0, .ref o), (1, .int 0)]) hx hb dX12_splits_6 rfl hl (by decide) rfl (fun ls hl => ?_)
  refine lv_iload_n hx hb dX12_splits_7 rfl (lv_at hl 0 rfl) ?_
  refine lv_iload_n hx hb dX12_splits_8 rfl (lv_at hl 2 rfl) ?_
  refine lv_icmp_ge (tgt := 263) hx hb dX12_splits_9 (by decide) (fun c2 => ?_) (fun c2 => absurd (by decide +kernel) c2)
  refine lv_aload_n hx hb dX12_splits_263 rfl (lv_at hl 1 rfl) ?_
  refine va_get (D := D) (ci := 12) (v := .ref (r 17)) (C := RX12) (T := TX12) (N := 48) hx hb hg inC12 hown hK hP 0 rfl rfl 17 (by decide) (hg _ wt5_177) (fun _ h9 => h9) rfl dX12_splits_264 ?_
  refine lv_aload_n hx hb dX12_splits_267 rfl (lv_at hl 1 rfl) ?_
  refine va_get (D := D) (ci := 12) (v := .int (f_1 18)) (C := RX12) (T := TX12) (N := 48) hx hb hg inC12 hown hK hP 0 rfl rfl 18 (by decide) (hg _ wt5_178) (fun _ h9 => h9) rfl dX12_splits_268 ?_
  refine k_top (z := 0) (show f_1 18 = 0 from by rw [← ef_1]; rfl) ?_
  refine lv_iload_n hx hb dX12_splits_271 rfl (lv_at hl 2 rfl) ?_
  refine va_iast hx hb hK hP hD hS 11 0 rfl rfl (k_in (by decide +kernel)) dX12_splits_272 (fun H locs hP hD hS => ?_)
  rw [cl_0] at hP hD
  have hP : va_P D vwCl (mW K o r f_1 (va_up a 17 (upd (a 17) 0 0)) g) H := hP
  have hD : va_D A (mW K o r f_1 (va_up a 17 (upd (a 17) 0 0)) g) := hD
  generalize ea_3 : va_up a 17 (upd (a 17) 0 0) = a_3 at hP hD
  refine lv_aload_n hx hb dX12_splits_273 rfl (lv_at hl 1 rfl) ?_
  refine va_get (D := D) (ci := 12) (v := .ref (r 15)) (C := RX12) (T := TX12) (N := 48) hx hb hg inC12 hown hK hP 0 rfl rfl 15 (by decide) (hg _ wt5_175) (fun _ h9 => h9) rfl dX12_splits_274 ?_
  refine lv_aload_n hx hb dX12_splits_277 rfl (lv_at hl 1 rfl) ?_
  refine va_get (D := D) (ci := 12) (v := .int (f_1 18)) (C := RX12) (T := TX12) (N := 48) hx hb hg inC12 hown hK hP 0 rfl rfl 18 (by decide) (hg _ wt5_178) (fun _ h9 => h9) rfl dX12_splits_278 ?_
  refine k_top (z := 0) (show f_1 18 = 0 from by rw [← ef_1]; rfl) ?_
  refine lv_iconst (v := 0) hx hb dX12_splits_281 (by decide) ?_
  refine va_iast hx hb hK hP hD hS 9 0 rfl rfl (k_in (by decide +kernel)) dX12_splits_282 (fun H locs hP hD hS => ?_)
  rw [cl_0] at hP hD
  have hP : va_P D vwCl (mW K o r f_1 (va_up a_3 15 (upd (a_3 15) 0 0)) g) H := hP
  have hD : va_D A (mW K o r f_1 (va_up a_3 15 (upd (a_3 15) 0 0)) g) := hD
  generalize ea_4 : va_up a_3 15 (upd (a_3 15) 0 0) = a_4 at hP hD
  refine lv_aload_n hx hb dX12_splits_283 rfl (lv_at hl 1 rfl) ?_
  refine va_get (D := D) (ci := 12) (v := .ref (r 16)) (C := RX12) (T := TX12) (N := 48) hx hb hg inC12 hown hK hP 0 rfl rfl 16 (by decide) (hg _ wt5_176) (fun _ h9 => h9) rfl dX12_splits_284 ?_
  refine lv_aload_n hx hb dX12_splits_287 rfl (lv_at hl 1 rfl) ?_
  refine va_get (D := D) (ci := 12) (v := .int (f_1 18)) (C := RX12) (T := TX12) (N := 48) hx hb hg inC12 hown hK hP 0 rfl rfl 18 (by decide) (hg _ wt5_178) (fun _ h9 => h9) rfl dX12_splits_288 ?_
  refine k_top (z := 0) (show f_1 18 = 0 from by rw [← ef_1]; rfl) ?_
  refine lv_iconst (v := 0) hx hb dX12_splits_291 (by decide) ?_
  refine va_iast hx hb hK hP hD hS 10 0 rfl rfl (k_in (by decide +kernel)) dX12_splits_292 (fun H locs hP hD hS => ?_)
  rw [cl_0] at hP hD
  have hP : va_P D vwCl (mW K o r f_1 (va_up a_4 16 (upd (a_4 16) 0 0)) g) H := hP
  have hD : va_D A (mW K o r f_1 (va_up a_4 16 (upd (a_4 16) 0 0)) g) := hD
  generalize ea_5 : va_up a_4 16 (upd (a_4 16) 0 0) = a_5 at hP hD
  exact kV_ret hx hb hr hlocks hK hS dX12_splits_293 (f_1, a_5, g) hP hD ⟨(show f_1 18 = 0 from by rw [← ef_1]; rfl), ((show a_5 17 0 = a_4 17 0 from by rw [← ea_5]; rfl).trans ((show a_4 17 0 = a_3 17 0 from by rw [← ea_4]; rfl).trans (show a_3 17 0 = 0 from by rw [← ea_3]; rfl))), ((show a_5 15 0 = a_4 15 0 from by rw [← ea_5]; rfl).trans (show a_4 15 0 = 0 from by rw [← ea_4]; rfl)), ((show f_1 10 = f 10 from by rw [← ef_1]; rfl).trans h0)⟩
set_option maxHeartbeats 4000000 in
set_option maxRecDepth 100000 in
theorem c_fineBad (l : Launch) {D : va_G} {K : Nat → ClassId} (o : Nat) (r : Nat → Nat) (f : Nat → Int32) (a : Nat → Nat → Int32) (g : Nat → Int64) (h0 : f 21 = 0)   : kI l yX12_fine (Cond.code yX12_fine cX12_fine 1 (some .boolean) :: kG) (rmD 1 0 0) D (tysK K) [.ref o] (mW K o r f a g) (fun v (_ : Unit) => v = 0) (fun _ => mW K o r f a g) 0 0 := by
  refine kI.of (cc := cX12_fine) (maxL := 1) (ret := (some .boolean)) (by decide) rfl (Nat.le_of_ble_eq_true rfl) ?_
  intro p e s m below meth c A hx hb hr hml hown hts hlocks hnm hK hP hD hS hA ls hl
  have hg : ∀ w ∈ kG, w.before _ s = true := fun w h => hts w (List.mem_cons_of_mem _ h)
  have hown : s.vm.findClass RX12 = some m.cls := hown
  have hl : lv_has ls 1 [(0, .ref o)] := hl
  refine lv_aload_n hx hb dX12_fine_0 rfl (lv_at hl 0 rfl) ?_
  refine va_get (D := D) (ci := 12) (v := .int (f 21)) (C := RX12) (T := TX12) (N := 48) hx hb hg inC12 hown hK hP 0 rfl rfl 21 (by decide) (hg _ wt5_181) (fun _ h9 => h9) rfl dX12_fine_1 ?_
  refine k_top (z := 0) h0 ?_
  refine lv_iconst (v := (-1)) hx hb dX12_fine_4 (by decide) ?_
  refine lv_icmp_ne (tgt := 12) hx hb dX12_fine_5 (by decide) (fun c1 => ?_) (fun c1 => absurd c1 (by decide +kernel))
  refine lv_iconst (v := 0) hx hb dX12_fine_12 (by decide) ?_
  exact kI_ret (v := 0) hx hb hr hlocks (by decide +kernel) hK hS dX12_fine_13 () hP hD rfl
set_option maxHeartbeats 4000000 in
set_option maxRecDepth 100000 in
theorem c_fine (l : Launch) {D : va_G} {K : Nat → ClassId} (o : Nat) (r : Nat → Nat) (f : Nat → Int32) (a : Nat → Nat → Int32) (g : Nat → Int64) (h0 : f 21 = (-1))   : kI l yX12_fine (Cond.code yX12_fine cX12_fine 1 (some .boolean) :: kG) (rmD 1 0 0) D (tysK K) [.ref o] (mW K o r f a g) (fun v (_ : Unit) => v = 1) (fun _ => mW K o r f a g) 0 0 := by
  refine kI.of (cc := cX12_fine) (maxL := 1) (ret := (some .boolean)) (by decide) rfl (Nat.le_of_ble_eq_true rfl) ?_
  intro p e s m below meth c A hx hb hr hml hown hts hlocks hnm hK hP hD hS hA ls hl
  have hg : ∀ w ∈ kG, w.before _ s = true := fun w h => hts w (List.mem_cons_of_mem _ h)
  have hown : s.vm.findClass RX12 = some m.cls := hown
  have hl : lv_has ls 1 [(0, .ref o)] := hl
  refine lv_aload_n hx hb dX12_fine_0 rfl (lv_at hl 0 rfl) ?_
  refine va_get (D := D) (ci := 12) (v := .int (f 21)) (C := RX12) (T := TX12) (N := 48) hx hb hg inC12 hown hK hP 0 rfl rfl 21 (by decide) (hg _ wt5_181) (fun _ h9 => h9) rfl dX12_fine_1 ?_
  refine k_top (z := (-1)) h0 ?_
  refine lv_iconst (v := (-1)) hx hb dX12_fine_4 (by decide) ?_
  refine lv_icmp_ne (tgt := 12) hx hb dX12_fine_5 (by decide) (fun c1 => absurd (by decide +kernel) c1) (fun c1 => ?_)
  refine lv_iconst (v := 1) hx hb dX12_fine_8 (by decide) ?_
  refine lv_goto (tgt := 13) hx hb dX12_fine_9 (by decide) ?_
  exact kI_ret (v := 1) hx hb hr hlocks (by decide +kernel) hK hS dX12_fine_13 () hP hD rfl
set_option maxHeartbeats 4000000 in
set_option maxRecDepth 100000 in
theorem c_sign (l : Launch)   : kN l yX12_sign (Cond.code yX12_sign cX12_sign 1 (some .int) :: kG) (rmD 1 0 0) [.int 59] (fun v => v = 159) := by
  refine kN.of (cc := cX12_sign) (maxL := 1) (ret := (some .int)) (by decide) rfl (Nat.le_of_ble_eq_true rfl) ?_
  intro p e s m below meth c hx hb hr hml hown hts hlocks hS ls hl
  have hg : ∀ w ∈ kG, w.before _ s = true := fun w h => hts w (List.mem_cons_of_mem _ h)
  have hown : s.vm.findClass RX12 = some m.cls := hown
  have hl : lv_has ls 1 [(0, .int 59)] := hl
  refine lv_bipush (v := 100) hx hb dX12_sign_0 (by decide) ?_
  refine lv_iload_n hx hb dX12_sign_2 rfl (lv_at hl 0 rfl) ?_
  refine lv_iadd hx hb dX12_sign_3 ?_
  refine k_top (z := 159) (by decide +kernel) ?_
  exact kN_ret (v := 159) hx hb hr hlocks rfl hS dX12_sign_4 rfl
set_option maxHeartbeats 4000000 in
set_option maxRecDepth 100000 in
theorem c_takesBad (l : Launch) {D : va_G} {K : Nat → ClassId} (o : Nat) (r : Nat → Nat) (f : Nat → Int32) (a : Nat → Nat → Int32) (g : Nat → Int64) (h0 : f 21 = 0) (x : Int32)  : kI l yX12_takes0 (Cond.code yX12_takes0 cX12_takes0 3 (some .boolean) :: kG) (rmD 2 0 0) D (tysK K) [.ref o, .int x] (mW K o r f a g) (fun v (_ : Unit) => v = 0) (fun _ => mW K o r f a g) 0 0 := by
  refine kI.of (cc := cX12_takes0) (maxL := 3) (ret := (some .boolean)) (by decide) rfl (Nat.le_of_ble_eq_true rfl) ?_
  intro p e s m below meth c A hx hb hr hml hown hts hlocks hnm hK hP hD hS hA ls hl
  have hg : ∀ w ∈ kG, w.before _ s = true := fun w h => hts w (List.mem_cons_of_mem _ h)
  have hown : s.vm.findClass RX12 = some m.cls := hown
  have hl : lv_has ls 3 [(0, .ref o), (1, .int x)] := hl
  refine lv_aload_n hx hb dX12_takes0_0 rfl (lv_at hl 0 rfl) ?_
  refine kI.callV (As := []) (rest := []) ⟨hx, hb, hml, hown, hg⟩ (c_fineBad l o r f a g h0 ) (cwV 0 hg (kgV wt6_204 wt6_206 wp4_7 wt1_14 wt6_207) rfl rfl rfl (by decide +kernel) ⟨by decide, by decide⟩) hK hP hD hS hA mIs [] rfl (wr := []) rfl rfl rfl (fun i h => by cases h) 0 12 rfl rfl rfl hl.1 rfl (Nat.le_of_ble_eq_true rfl) dX12_takes0_1 ⟨by decide, by decide⟩ (fun v3 u2 H locs hw1 hP hD hS => ?_)
  have hP : va_P D vwCl (mW K o r f a g) H := hP
  have hD : va_D A (mW K o r f a g) := hD
  refine k_top (z := 0) (hw1) ?_
  refine lv_if_eq (tgt := 24) hx hb dX12_takes0_4 (by decide) (fun c4 => ?_) (fun c4 => absurd (by decide +kernel) c4)
  refine lv_iconst (v := 0) hx hb dX12_takes0_24 (by decide) ?_
  refine lv_istore_n (lv' := [(2, .int 0), (0, .ref o), (1, .int x)]) hx hb dX12_takes0_25 rfl hl (by decide) rfl (fun ls hl => ?_)
  refine lv_iload_n hx hb dX12_takes0_26 rfl (lv_at hl 0 rfl) ?_
  refine lv_if_eq (tgt := 40) hx hb dX12_takes0_27 (by decide) (fun c5 => ?_) (fun c5 => absurd (by decide +kernel) c5)
  refine lv_iload_n hx hb dX12_takes0_40 rfl (lv_at hl 0 rfl) ?_
  exact kI_ret (v := 0) hx hb hr hlocks (by decide +kernel) hK hS dX12_takes0_41 () hP hD rfl
set_option maxHeartbeats 4000000 in
set_option maxRecDepth 100000 in
theorem c_takes0 (l : Launch) {D : va_G} {K : Nat → ClassId} (o : Nat) (r : Nat → Nat) (f : Nat → Int32) (a : Nat → Nat → Int32) (g : Nat → Int64) (h0 : f 21 = (-1)) (h1 : f 19 = 0) (h2 : a 15 0 = 0)  (x : Int32) (hc : ¬ x = 0) : kI l yX12_takes0 (Cond.code yX12_takes0 cX12_takes0 3 (some .boolean) :: kG) (rmD 2 0 0) D (tysK K) [.ref o, .int x] (mW K o r f a g) (fun v (_ : Unit) => v = 0) (fun _ => mW K o r f a g) 0 0 := by
  refine kI.of (cc := cX12_takes0) (maxL := 3) (ret := (some .boolean)) (by decide) rfl (Nat.le_of_ble_eq_true rfl) ?_
  intro p e s m below meth c A hx hb hr hml hown hts hlocks hnm hK hP hD hS hA ls hl
  have hg : ∀ w ∈ kG, w.before _ s = true := fun w h => hts w (List.mem_cons_of_mem _ h)
  have hown : s.vm.findClass RX12 = some m.cls := hown
  have hl : lv_has ls 3 [(0, .ref o), (1, .int x)] := hl
  refine lv_aload_n hx hb dX12_takes0_0 rfl (lv_at hl 0 rfl) ?_
  refine kI.callV (As := []) (rest := []) ⟨hx, hb, hml, hown, hg⟩ (c_fine l o r f a g h0 ) (cwV 0 hg (kgV wt6_204 wt6_206 wp4_7 wt1_14 wt6_207) rfl rfl rfl (by decide +kernel) ⟨by decide, by decide⟩) hK hP hD hS hA mIs [] rfl (wr := []) rfl rfl rfl (fun i h => by cases h) 0 12 rfl rfl rfl hl.1 rfl (Nat.le_of_ble_eq_true rfl) dX12_takes0_1 ⟨by decide, by decide⟩ (fun v3 u2 H locs hw1 hP hD hS => ?_)
  have hP : va_P D vwCl (mW K o r f a g) H := hP
  have hD : va_D A (mW K o r f a g) := hD
  refine k_top (z := 1) (hw1) ?_
  refine lv_if_eq (tgt := 24) hx hb dX12_takes0_4 (by decide) (fun c4 => absurd c4 (by decide +kernel)) (fun c4 => ?_)
  refine lv_aload_n hx hb dX12_takes0_7 rfl (lv_at hl 0 rfl) ?_
  refine va_get (D := D) (ci := 12) (v := .ref (r 15)) (C := RX12) (T := TX12) (N := 48) hx hb hg inC12 hown hK hP 0 rfl rfl 15 (by decide) (hg _ wt5_175) (fun _ h9 => h9) rfl dX12_takes0_8 ?_
  refine lv_aload_n hx hb dX12_takes0_11 rfl (lv_at hl 0 rfl) ?_
  refine va_get (D := D) (ci := 12) (v := .int (f 19)) (C := RX12) (T := TX12) (N := 48) hx hb hg inC12 hown hK hP 0 rfl rfl 19 (by decide) (hg _ wt5_179) (fun _ h9 => h9) rfl dX12_takes0_12 ?_
  refine k_top (z := 0) h1 ?_
  refine va_iald hx hb hK hP 9 0 rfl rfl (k_in (by decide +kernel)) dX12_takes0_15 ?_
  refine k_top (z := 0) (by rw [cl_0]; exact h2) ?_
  refine lv_iload_n hx hb dX12_takes0_16 rfl (lv_at hl 1 rfl) ?_
  refine lv_icmp_ne (tgt := 24) hx hb dX12_takes0_17 (by decide) (fun c5 => ?_) (fun c5 => absurd c5.symm hc)
  refine lv_iconst (v := 0) hx hb dX12_takes0_24 (by decide) ?_
  refine lv_istore_n (lv' := [(2, .int 0), (0, .ref o), (1, .int x)]) hx hb dX12_takes0_25 rfl hl (by decide) rfl (fun ls hl => ?_)
  refine lv_iload_n hx hb dX12_takes0_26 rfl (lv_at hl 0 rfl) ?_
  refine lv_if_eq (tgt := 40) hx hb dX12_takes0_27 (by decide) (fun c6 => ?_) (fun c6 => absurd (by decide +kernel) c6)
  refine lv_iload_n hx hb dX12_takes0_40 rfl (lv_at hl 0 rfl) ?_
  exact kI_ret (v := 0) hx hb hr hlocks (by decide +kernel) hK hS dX12_takes0_41 () hP hD rfl
set_option maxHeartbeats 4000000 in
set_option maxRecDepth 100000 in
theorem c_faults (l : Launch) {D : va_G} {K : Nat → ClassId} (o : Nat) (r : Nat → Nat) (f : Nat → Int32) (a : Nat → Nat → Int32) (g : Nat → Int64) (h0 : f 21 = (-1)) (h1 : f 19 = 0) (h2 : a 15 0 = 0) (h3 : a 17 0 = 0)   : kV l yX12_faults (Cond.code yX12_faults cX12_faults 1 none :: kG) (rmD 2 0 0) D (tysK K) [.ref o] (mW K o r f a g) (fun (u : mS) => u.1 21 = 0) (fun u => mW K o r u.1 u.2.1 u.2.2) 0 0 := by
  refine kV.of (cc := cX12_faults) (maxL := 1) (ret := none) (by decide) rfl (Nat.le_of_ble_eq_true rfl) ?_
  intro p e s m below meth c A hx hb hr hml hown hts hlocks hnm hK hP hD hS hA ls hl
  have hg : ∀ w ∈ kG, w.before _ s = true := fun w h => hts w (List.mem_cons_of_mem _ h)
  have hown : s.vm.findClass RX12 = some m.cls := hown
  have hl : lv_has ls 1 [(0, .ref o)] := hl
  refine lv_aload_n hx hb dX12_faults_0 rfl (lv_at hl 0 rfl) ?_
  refine kI.callV (As := []) (rest := []) ⟨hx, hb, hml, hown, hg⟩ (c_fine l o r f a g h0 ) (cwV 0 hg (kgV wt6_204 wt6_206 wp4_7 wt1_14 wt6_207) rfl rfl rfl (by decide +kernel) ⟨by decide, by decide⟩) hK hP hD hS hA mIs [] rfl (wr := []) rfl rfl rfl (fun i h => by cases h) 0 12 rfl rfl rfl hl.1 rfl (Nat.le_of_ble_eq_true rfl) dX12_faults_1 ⟨by decide, by decide⟩ (fun v3 u2 H locs hw1 hP hD hS => ?_)
  have hP : va_P D vwCl (mW K o r f a g) H := hP
  have hD : va_D A (mW K o r f a g) := hD
  refine k_top (z := 1) (hw1) ?_
  refine lv_if_eq (tgt := 20) hx hb dX12_faults_4 (by decide) (fun c4 => absurd c4 (by decide +kernel)) (fun c4 => ?_)
  refine lv_aload_n hx hb dX12_faults_7 rfl (lv_at hl 0 rfl) ?_
  refine lv_aload_n hx hb dX12_faults_8 rfl (lv_at hl 0 rfl) ?_
  refine va_get (D := D) (ci := 12) (v := .ref (r 17)) (C := RX12) (T := TX12) (N := 48) hx hb hg inC12 hown hK hP 0 rfl rfl 17 (by decide) (hg _ wt5_177) (fun _ h9 => h9) rfl dX12_faults_9 ?_
  refine lv_aload_n hx hb dX12_faults_12 rfl (lv_at hl 0 rfl) ?_
  refine va_get (D := D) (ci := 12) (v := .int (f 19)) (C := RX12) (T := TX12) (N := 48) hx hb hg inC12 hown hK hP 0 rfl rfl 19 (by decide) (hg _ wt5_179) (fun _ h9 => h9) rfl dX12_faults_13 ?_
  refine k_top (z := 0) h1 ?_
  refine va_iald hx hb hK hP 11 0 rfl rfl (k_in (by decide +kernel)) dX12_faults_16 ?_
  refine k_top (z := 0) (by rw [cl_0]; exact h3) ?_
  refine va_put (D := D) (ci := 12) (v := .int 0) (ty := .int) (C := RX12) (T := TX12) (N := 48) hx hb hg inC12 tyX12 tyX12_ok nmX12 hown hK hP hD hS 0 rfl rfl 21 (by decide) (hg _ wt5_181) (fun _ h9 => h9) rfl (by decide +kernel) rfl rfl (Nat.le_of_ble_eq_true rfl) dX12_faults_17 (fun H locs hP hD hS => ?_)
  have hP : va_P D vwCl (mW K o r (upd f 21 0) a g) H := hP
  have hD : va_D A (mW K o r (upd f 21 0) a g) := hD
  generalize ef_5 : upd f 21 0 = f_5 at hP hD
  exact kV_ret hx hb hr hlocks hK hS dX12_faults_20 (f_5, a, g) hP hD (show f_5 21 = 0 from by rw [← ef_5]; rfl)
set_option maxHeartbeats 4000000 in
set_option maxRecDepth 100000 in
theorem c_must (l : Launch) {D : va_G} {K : Nat → ClassId} (o : Nat) (r : Nat → Nat) (f : Nat → Int32) (a : Nat → Nat → Int32) (g : Nat → Int64) (h0 : f 21 = (-1)) (h1 : f 19 = 0) (h2 : a 15 0 = 0) (h3 : a 17 0 = 0)  (x : Int32) (hc : ¬ x = 0) : kV l yX12_must (Cond.code yX12_must cX12_must 2 none :: kG) (rmD 3 0 0) D (tysK K) [.ref o, .int x] (mW K o r f a g) (fun (u : mS) => u.1 21 = 0) (fun u => mW K o r u.1 u.2.1 u.2.2) 0 0 := by
  refine kV.of (cc := cX12_must) (maxL := 2) (ret := none) (by decide) rfl (Nat.le_of_ble_eq_true rfl) ?_
  intro p e s m below meth c A hx hb hr hml hown hts hlocks hnm hK hP hD hS hA ls hl
  have hg : ∀ w ∈ kG, w.before _ s = true := fun w h => hts w (List.mem_cons_of_mem _ h)
  have hown : s.vm.findClass RX12 = some m.cls := hown
  have hl : lv_has ls 2 [(0, .ref o), (1, .int x)] := hl
  refine lv_aload_n hx hb dX12_must_0 rfl (lv_at hl 0 rfl) ?_
  refine lv_iload_n hx hb dX12_must_1 rfl (lv_at hl 1 rfl) ?_
  refine kI.callV (As := [.int x]) (rest := []) ⟨hx, hb, hml, hown, hg⟩ (c_takes0 l o r f a g h0 h1 h2 x hc) (cwV 1 hg (kgV wt6_200 wt6_202 wp4_6 wt1_14 wt6_203) rfl rfl rfl (by decide +kernel) ⟨by decide, by decide⟩) hK hP hD hS hA mIs [] rfl (wr := []) rfl rfl rfl (fun i h => by cases h) 0 12 rfl rfl rfl hl.1 rfl (Nat.le_of_ble_eq_true rfl) dX12_must_2 ⟨by decide, by decide⟩ (fun v3 u2 H locs hw1 hP hD hS => ?_)
  have hP : va_P D vwCl (mW K o r f a g) H := hP
  have hD : va_D A (mW K o r f a g) := hD
  refine k_top (z := 0) (hw1) ?_
  refine lv_if_ne (tgt := 12) hx hb dX12_must_5 (by decide) (fun c4 => absurd (by decide +kernel) c4) (fun c4 => ?_)
  refine lv_aload_n hx hb dX12_must_8 rfl (lv_at hl 0 rfl) ?_
  refine kV.callV (As := []) (rest := []) ⟨hx, hb, hml, hown, hg⟩ (c_faults l o r f a g h0 h1 h2 h3 ) (cwV 0 hg (kgV wt6_223 wt6_225 wp4_11 wt1_14 wt6_226) rfl rfl rfl (by decide +kernel) ⟨by decide, by decide⟩) hK hP hD hS hA mIs [] rfl (wr := []) rfl rfl rfl (fun i h => by cases h) 0 12 rfl rfl rfl hl.1 rfl (Nat.le_of_ble_eq_true rfl) dX12_must_9 ⟨by decide, by decide⟩ (fun u6 H locs hw5 hP hD hS => ?_)
  obtain ⟨f8, a9, g10⟩ := u6
  have hP : va_P D vwCl (mW K o r f8 a9 g10) H := hP
  have hD : va_D A (mW K o r f8 a9 g10) := hD
  exact kV_ret hx hb hr hlocks hK hS dX12_must_12 (f8, a9, g10) hP hD hw5
set_option maxHeartbeats 4000000 in
set_option maxRecDepth 100000 in
theorem c_readClause (l : Launch) {D : va_G} {K : Nat → ClassId} (o : Nat) (r : Nat → Nat) (f : Nat → Int32) (a : Nat → Nat → Int32) (g : Nat → Int64) (h0 : f 21 = (-1)) (h1 : f 19 = 0) (h2 : a 15 0 = 0) (h3 : a 17 0 = 0)   : kV l yX12_readClause (Cond.code yX12_readClause cX12_readClause 1 none :: kG) (rmD 4 0 0) D (tysK K) [.ref o] (mW K o r f a g) (fun (u : mS) => u.1 21 = 0) (fun u => mW K o r u.1 u.2.1 u.2.2) 0 0 := by
  refine kV.of (cc := cX12_readClause) (maxL := 1) (ret := none) (by decide) rfl (Nat.le_of_ble_eq_true rfl) ?_
  intro p e s m below meth c A hx hb hr hml hown hts hlocks hnm hK hP hD hS hA ls hl
  have hg : ∀ w ∈ kG, w.before _ s = true := fun w h => hts w (List.mem_cons_of_mem _ h)
  have hown : s.vm.findClass RX12 = some m.cls := hown
  have hl : lv_has ls 1 [(0, .ref o)] := hl
  refine lv_aload_n hx hb dX12_readClause_0 rfl (lv_at hl 0 rfl) ?_
  refine lv_iconst (v := 1) hx hb dX12_readClause_1 (by decide) ?_
  refine kI.callV (As := [.int 1]) (rest := []) ⟨hx, hb, hml, hown, hg⟩ (c_takes0 l o r f a g h0 h1 h2 1 (by decide +kernel)) (cwV 1 hg (kgV wt6_200 wt6_202 wp4_6 wt1_14 wt6_203) rfl rfl rfl (by decide +kernel) ⟨by decide, by decide⟩) hK hP hD hS hA mIs [] rfl (wr := []) rfl rfl rfl (fun i h => by cases h) 0 12 rfl rfl rfl hl.1 rfl (Nat.le_of_ble_eq_true rfl) dX12_readClause_2 ⟨by decide, by decide⟩ (fun v3 u2 H locs hw1 hP hD hS => ?_)
  have hP : va_P D vwCl (mW K o r f a g) H := hP
  have hD : va_D A (mW K o r f a g) := hD
  refine k_top (z := 0) (hw1) ?_
  refine lv_if_ne (tgt := 24) hx hb dX12_readClause_5 (by decide) (fun c4 => absurd (by decide +kernel) c4) (fun c4 => ?_)
  refine lv_aload_n hx hb dX12_readClause_8 rfl (lv_at hl 0 rfl) ?_
  refine lv_iconst (v := 2) hx hb dX12_readClause_9 (by decide) ?_
  refine kI.callV (As := [.int 2]) (rest := []) ⟨hx, hb, hml, hown, hg⟩ (c_takes0 l o r f a g h0 h1 h2 2 (by decide +kernel)) (cwV 1 hg (kgV wt6_200 wt6_202 wp4_6 wt1_14 wt6_203) rfl rfl rfl (by decide +kernel) ⟨by decide, by decide⟩) hK hP hD hS hA mIs [] rfl (wr := []) rfl rfl rfl (fun i h => by cases h) 0 12 rfl rfl rfl hl.1 rfl (Nat.le_of_ble_eq_true rfl) dX12_readClause_10 ⟨by decide, by decide⟩ (fun v7 u6 H locs hw5 hP hD hS => ?_)
  have hP : va_P D vwCl (mW K o r f a g) H := hP
  have hD : va_D A (mW K o r f a g) := hD
  refine k_top (z := 0) (hw5) ?_
  refine lv_if_ne (tgt := 24) hx hb dX12_readClause_13 (by decide) (fun c8 => absurd (by decide +kernel) c8) (fun c8 => ?_)
  refine lv_aload_n hx hb dX12_readClause_16 rfl (lv_at hl 0 rfl) ?_
  refine lv_iconst (v := 3) hx hb dX12_readClause_17 (by decide) ?_
  refine kI.callV (As := [.int 3]) (rest := []) ⟨hx, hb, hml, hown, hg⟩ (c_takes0 l o r f a g h0 h1 h2 3 (by decide +kernel)) (cwV 1 hg (kgV wt6_200 wt6_202 wp4_6 wt1_14 wt6_203) rfl rfl rfl (by decide +kernel) ⟨by decide, by decide⟩) hK hP hD hS hA mIs [] rfl (wr := []) rfl rfl rfl (fun i h => by cases h) 0 12 rfl rfl rfl hl.1 rfl (Nat.le_of_ble_eq_true rfl) dX12_readClause_18 ⟨by decide, by decide⟩ (fun v11 u10 H locs hw9 hP hD hS => ?_)
  have hP : va_P D vwCl (mW K o r f a g) H := hP
  have hD : va_D A (mW K o r f a g) := hD
  refine k_top (z := 0) (hw9) ?_
  refine lv_if_eq (tgt := 32) hx hb dX12_readClause_21 (by decide) (fun c12 => ?_) (fun c12 => absurd (by decide +kernel) c12)
  refine lv_aload_n hx hb dX12_readClause_32 rfl (lv_at hl 0 rfl) ?_
  refine lv_iconst (v := 4) hx hb dX12_readClause_33 (by decide) ?_
  refine kV.callV (As := [.int 4]) (rest := []) ⟨hx, hb, hml, hown, hg⟩ (c_must l o r f a g h0 h1 h2 h3 4 (by decide +kernel)) (cwV 1 hg (kgV wt6_227 wt6_229 wp4_12 wt1_14 wt6_230) rfl rfl rfl (by decide +kernel) ⟨by decide, by decide⟩) hK hP hD hS hA mIs [] rfl (wr := []) rfl rfl rfl (fun i h => by cases h) 0 12 rfl rfl rfl hl.1 rfl (Nat.le_of_ble_eq_true rfl) dX12_readClause_34 ⟨by decide, by decide⟩ (fun u14 H locs hw13 hP hD hS => ?_)
  obtain ⟨f16, a17, g18⟩ := u14
  have hP : va_P D vwCl (mW K o r f16 a17 g18) H := hP
  have hD : va_D A (mW K o r f16 a17 g18) := hD
  refine lv_aload_n hx hb dX12_readClause_37 rfl (lv_at hl 0 rfl) ?_
  refine lv_iconst (v := 5) hx hb dX12_readClause_38 (by decide) ?_
  refine kI.callV (As := [.int 5]) (rest := []) ⟨hx, hb, hml, hown, hg⟩ (c_takesBad l o r f16 a17 g18 hw13 5) (cwV 1 hg (kgV wt6_200 wt6_202 wp4_6 wt1_14 wt6_203) rfl rfl rfl (by decide +kernel) ⟨by decide, by decide⟩) hK hP hD hS hA mIs [] rfl (wr := []) rfl rfl rfl (fun i h => by cases h) 0 12 rfl rfl rfl hl.1 rfl (Nat.le_of_ble_eq_true rfl) dX12_readClause_39 ⟨by decide, by decide⟩ (fun v21 u20 H locs hw19 hP hD hS => ?_)
  have hP : va_P D vwCl (mW K o r f16 a17 g18) H := hP
  have hD : va_D A (mW K o r f16 a17 g18) := hD
  refine k_top (z := 0) (hw19) ?_
  refine lv_if_eq (tgt := 50) hx hb dX12_readClause_42 (by decide) (fun c22 => ?_) (fun c22 => absurd (by decide +kernel) c22)
  exact kV_ret hx hb hr hlocks hK hS dX12_readClause_50 (f16, a17, g18) hP hD hw13
set_option maxHeartbeats 4000000 in
set_option maxRecDepth 100000 in
theorem c_readOrder (l : Launch) {D : va_G} {K : Nat → ClassId} (o : Nat) (r : Nat → Nat) (f : Nat → Int32) (a : Nat → Nat → Int32) (g : Nat → Int64) (h0 : f 21 = (-1)) (h1 : f 19 = 0) (h2 : a 15 0 = 0) (h3 : a 17 0 = 0)   : kV l yX12_readOrder (Cond.code yX12_readOrder cX12_readOrder 1 none :: kG) (rmD 4 0 0) D (tysK K) [.ref o] (mW K o r f a g) (fun (u : mS) => u.1 21 = 0) (fun u => mW K o r u.1 u.2.1 u.2.2) 0 0 := by
  refine kV.of (cc := cX12_readOrder) (maxL := 1) (ret := none) (by decide) rfl (Nat.le_of_ble_eq_true rfl) ?_
  intro p e s m below meth c A hx hb hr hml hown hts hlocks hnm hK hP hD hS hA ls hl
  have hg : ∀ w ∈ kG, w.before _ s = true := fun w h => hts w (List.mem_cons_of_mem _ h)
  have hown : s.vm.findClass RX12 = some m.cls := hown
  have hl : lv_has ls 1 [(0, .ref o)] := hl
  refine lv_aload_n hx hb dX12_readOrder_0 rfl (lv_at hl 0 rfl) ?_
  refine lv_bipush (v := 23) hx hb dX12_readOrder_1 (by decide) ?_
  refine kI.callV (As := [.int 23]) (rest := []) ⟨hx, hb, hml, hown, hg⟩ (c_takes0 l o r f a g h0 h1 h2 23 (by decide +kernel)) (cwV 1 hg (kgV wt6_200 wt6_202 wp4_6 wt1_14 wt6_203) rfl rfl rfl (by decide +kernel) ⟨by decide, by decide⟩) hK hP hD hS hA mIs [] rfl (wr := []) rfl rfl rfl (fun i h => by cases h) 0 12 rfl rfl rfl hl.1 rfl (Nat.le_of_ble_eq_true rfl) dX12_readOrder_3 ⟨by decide, by decide⟩ (fun v3 u2 H locs hw1 hP hD hS => ?_)
  have hP : va_P D vwCl (mW K o r f a g) H := hP
  have hD : va_D A (mW K o r f a g) := hD
  refine k_top (z := 0) (hw1) ?_
  refine lv_if_eq (tgt := 28) hx hb dX12_readOrder_6 (by decide) (fun c4 => ?_) (fun c4 => absurd (by decide +kernel) c4)
  refine lv_aload_n hx hb dX12_readOrder_28 rfl (lv_at hl 0 rfl) ?_
  refine lv_bipush (v := 25) hx hb dX12_readOrder_29 (by decide) ?_
  refine kI.callV (As := [.int 25]) (rest := []) ⟨hx, hb, hml, hown, hg⟩ (c_takes0 l o r f a g h0 h1 h2 25 (by decide +kernel)) (cwV 1 hg (kgV wt6_200 wt6_202 wp4_6 wt1_14 wt6_203) rfl rfl rfl (by decide +kernel) ⟨by decide, by decide⟩) hK hP hD hS hA mIs [] rfl (wr := []) rfl rfl rfl (fun i h => by cases h) 0 12 rfl rfl rfl hl.1 rfl (Nat.le_of_ble_eq_true rfl) dX12_readOrder_31 ⟨by decide, by decide⟩ (fun v7 u6 H locs hw5 hP hD hS => ?_)
  have hP : va_P D vwCl (mW K o r f a g) H := hP
  have hD : va_D A (mW K o r f a g) := hD
  refine k_top (z := 0) (hw5) ?_
  refine lv_if_ne (tgt := 46) hx hb dX12_readOrder_34 (by decide) (fun c8 => absurd (by decide +kernel) c8) (fun c8 => ?_)
  refine lv_aload_n hx hb dX12_readOrder_37 rfl (lv_at hl 0 rfl) ?_
  refine lv_bipush (v := 26) hx hb dX12_readOrder_38 (by decide) ?_
  refine kI.callV (As := [.int 26]) (rest := []) ⟨hx, hb, hml, hown, hg⟩ (c_takes0 l o r f a g h0 h1 h2 26 (by decide +kernel)) (cwV 1 hg (kgV wt6_200 wt6_202 wp4_6 wt1_14 wt6_203) rfl rfl rfl (by decide +kernel) ⟨by decide, by decide⟩) hK hP hD hS hA mIs [] rfl (wr := []) rfl rfl rfl (fun i h => by cases h) 0 12 rfl rfl rfl hl.1 rfl (Nat.le_of_ble_eq_true rfl) dX12_readOrder_40 ⟨by decide, by decide⟩ (fun v11 u10 H locs hw9 hP hD hS => ?_)
  have hP : va_P D vwCl (mW K o r f a g) H := hP
  have hD : va_D A (mW K o r f a g) := hD
  refine k_top (z := 0) (hw9) ?_
  refine lv_if_eq (tgt := 54) hx hb dX12_readOrder_43 (by decide) (fun c12 => ?_) (fun c12 => absurd (by decide +kernel) c12)
  refine lv_aload_n hx hb dX12_readOrder_54 rfl (lv_at hl 0 rfl) ?_
  refine lv_bipush (v := 27) hx hb dX12_readOrder_55 (by decide) ?_
  refine kV.callV (As := [.int 27]) (rest := []) ⟨hx, hb, hml, hown, hg⟩ (c_must l o r f a g h0 h1 h2 h3 27 (by decide +kernel)) (cwV 1 hg (kgV wt6_227 wt6_229 wp4_12 wt1_14 wt6_230) rfl rfl rfl (by decide +kernel) ⟨by decide, by decide⟩) hK hP hD hS hA mIs [] rfl (wr := []) rfl rfl rfl (fun i h => by cases h) 0 12 rfl rfl rfl hl.1 rfl (Nat.le_of_ble_eq_true rfl) dX12_readOrder_57 ⟨by decide, by decide⟩ (fun u14 H locs hw13 hP hD hS => ?_)
  obtain ⟨f16, a17, g18⟩ := u14
  have hP : va_P D vwCl (mW K o r f16 a17 g18) H := hP
  have hD : va_D A (mW K o r f16 a17 g18) := hD
  refine lv_aload_n hx hb dX12_readOrder_60 rfl (lv_at hl 0 rfl) ?_
  refine lv_bipush (v := 28) hx hb dX12_readOrder_61 (by decide) ?_
  refine kI.callV (As := [.int 28]) (rest := []) ⟨hx, hb, hml, hown, hg⟩ (c_takesBad l o r f16 a17 g18 hw13 28) (cwV 1 hg (kgV wt6_200 wt6_202 wp4_6 wt1_14 wt6_203) rfl rfl rfl (by decide +kernel) ⟨by decide, by decide⟩) hK hP hD hS hA mIs [] rfl (wr := []) rfl rfl rfl (fun i h => by cases h) 0 12 rfl rfl rfl hl.1 rfl (Nat.le_of_ble_eq_true rfl) dX12_readOrder_63 ⟨by decide, by decide⟩ (fun v21 u20 H locs hw19 hP hD hS => ?_)
  have hP : va_P D vwCl (mW K o r f16 a17 g18) H := hP
  have hD : va_D A (mW K o r f16 a17 g18) := hD
  refine k_top (z := 0) (hw19) ?_
  refine lv_if_eq (tgt := 76) hx hb dX12_readOrder_66 (by decide) (fun c22 => ?_) (fun c22 => absurd (by decide +kernel) c22)
  refine lv_aload_n hx hb dX12_readOrder_76 rfl (lv_at hl 0 rfl) ?_
  refine lv_iconst (v := 5) hx hb dX12_readOrder_77 (by decide) ?_
  refine kI.callV (As := [.int 5]) (rest := []) ⟨hx, hb, hml, hown, hg⟩ (c_takesBad l o r f16 a17 g18 hw13 5) (cwV 1 hg (kgV wt6_200 wt6_202 wp4_6 wt1_14 wt6_203) rfl rfl rfl (by decide +kernel) ⟨by decide, by decide⟩) hK hP hD hS hA mIs [] rfl (wr := []) rfl rfl rfl (fun i h => by cases h) 0 12 rfl rfl rfl hl.1 rfl (Nat.le_of_ble_eq_true rfl) dX12_readOrder_78 ⟨by decide, by decide⟩ (fun v25 u24 H locs hw23 hP hD hS => ?_)
  have hP : va_P D vwCl (mW K o r f16 a17 g18) H := hP
  have hD : va_D A (mW K o r f16 a17 g18) := hD
  refine k_top (z := 0) (hw23) ?_
  refine lv_if_eq (tgt := 89) hx hb dX12_readOrder_81 (by decide) (fun c26 => ?_) (fun c26 => absurd (by decide +kernel) c26)
  exact kV_ret hx hb hr hlocks hK hS dX12_readOrder_89 (f16, a17, g18) hP hD hw13
set_option maxHeartbeats 4000000 in
set_option maxRecDepth 100000 in
theorem c_readOneL (l : Launch) {D : va_G} {K : Nat → ClassId} (o : Nat) (r : Nat → Nat) (f : Nat → Int32) (a : Nat → Nat → Int32) (g : Nat → Int64) (h0 : f 21 = (-1)) (h1 : f 19 = 0) (h2 : a 15 0 = 0) (h3 : a 17 0 = 0) (h4 : f 10 = 0)   : kV l yX12_readOne (Cond.code yX12_readOne cX12_readOne 1 none :: kG) (rmD 5 0 0) D (tysK K) [.ref o] (mW K o r f a g) (fun (u : mS) => u.1 21 = 0) (fun u => mW K o r u.1 u.2.1 u.2.2) 0 0 := by
  refine kV.of (cc := cX12_readOne) (maxL := 1) (ret := none) (by decide) rfl (Nat.le_of_ble_eq_true rfl) ?_
  intro p e s m below meth c A hx hb hr hml hown hts hlocks hnm hK hP hD hS hA ls hl
  have hg : ∀ w ∈ kG, w.before _ s = true := fun w h => hts w (List.mem_cons_of_mem _ h)
  have hown : s.vm.findClass RX12 = some m.cls := hown
  have hl : lv_has ls 1 [(0, .ref o)] := hl
  refine lv_aload_n hx hb dX12_readOne_0 rfl (lv_at hl 0 rfl) ?_
  refine va_get (D := D) (ci := 12) (v := .int (f 10)) (C := RX12) (T := TX12) (N := 48) hx hb hg inC12 hown hK hP 0 rfl rfl 10 (by decide) (hg _ wt5_170) (fun _ h9 => h9) rfl dX12_readOne_1 ?_
  refine k_top (z := 0) h4 ?_
  refine lv_if_eq (tgt := 14) hx hb dX12_readOne_4 (by decide) (fun c1 => ?_) (fun c1 => absurd (by decide +kernel) c1)
  refine lv_aload_n hx hb dX12_readOne_14 rfl (lv_at hl 0 rfl) ?_
  refine kV.callV (As := []) (rest := []) ⟨hx, hb, hml, hown, hg⟩ (c_readClause l o r f a g h0 h1 h2 h3 ) (cwV 0 hg (kgV wt7_11 wt7_13 wp5_2 wt1_14 wt7_14) rfl rfl rfl (by decide +kernel) ⟨by decide, by decide⟩) hK hP hD hS hA mIs [] rfl (wr := []) rfl rfl rfl (fun i h => by cases h) 0 12 rfl rfl rfl hl.1 rfl (Nat.le_of_ble_eq_true rfl) dX12_readOne_15 ⟨by decide, by decide⟩ (fun u3 H locs hw2 hP hD hS => ?_)
  obtain ⟨f5, a6, g7⟩ := u3
  have hP : va_P D vwCl (mW K o r f5 a6 g7) H := hP
  have hD : va_D A (mW K o r f5 a6 g7) := hD
  exact kV_ret hx hb hr hlocks hK hS dX12_readOne_18 (f5, a6, g7) hP hD hw2
set_option maxHeartbeats 4000000 in
set_option maxRecDepth 100000 in
theorem c_readOneO (l : Launch) {D : va_G} {K : Nat → ClassId} (o : Nat) (r : Nat → Nat) (f : Nat → Int32) (a : Nat → Nat → Int32) (g : Nat → Int64) (h0 : f 21 = (-1)) (h1 : f 19 = 0) (h2 : a 15 0 = 0) (h3 : a 17 0 = 0) (h4 : f 10 = 1)   : kV l yX12_readOne (Cond.code yX12_readOne cX12_readOne 1 none :: kG) (rmD 5 0 0) D (tysK K) [.ref o] (mW K o r f a g) (fun (u : mS) => u.1 21 = 0) (fun u => mW K o r u.1 u.2.1 u.2.2) 0 0 := by
  refine kV.of (cc := cX12_readOne) (maxL := 1) (ret := none) (by decide) rfl (Nat.le_of_ble_eq_true rfl) ?_
  intro p e s m below meth c A hx hb hr hml hown hts hlocks hnm hK hP hD hS hA ls hl
  have hg : ∀ w ∈ kG, w.before _ s = true := fun w h => hts w (List.mem_cons_of_mem _ h)
  have hown : s.vm.findClass RX12 = some m.cls := hown
  have hl : lv_has ls 1 [(0, .ref o)] := hl
  refine lv_aload_n hx hb dX12_readOne_0 rfl (lv_at hl 0 rfl) ?_
  refine va_get (D := D) (ci := 12) (v := .int (f 10)) (C := RX12) (T := TX12) (N := 48) hx hb hg inC12 hown hK hP 0 rfl rfl 10 (by decide) (hg _ wt5_170) (fun _ h9 => h9) rfl dX12_readOne_1 ?_
  refine k_top (z := 1) h4 ?_
  refine lv_if_eq (tgt := 14) hx hb dX12_readOne_4 (by decide) (fun c1 => absurd c1 (by decide +kernel)) (fun c1 => ?_)
  refine lv_aload_n hx hb dX12_readOne_7 rfl (lv_at hl 0 rfl) ?_
  refine kV.callV (As := []) (rest := []) ⟨hx, hb, hml, hown, hg⟩ (c_readOrder l o r f a g h0 h1 h2 h3 ) (cwV 0 hg (kgV wt6_196 wt6_198 wp4_5 wt1_14 wt6_199) rfl rfl rfl (by decide +kernel) ⟨by decide, by decide⟩) hK hP hD hS hA mIs [] rfl (wr := []) rfl rfl rfl (fun i h => by cases h) 0 12 rfl rfl rfl hl.1 rfl (Nat.le_of_ble_eq_true rfl) dX12_readOne_8 ⟨by decide, by decide⟩ (fun u3 H locs hw2 hP hD hS => ?_)
  obtain ⟨f5, a6, g7⟩ := u3
  have hP : va_P D vwCl (mW K o r f5 a6 g7) H := hP
  have hD : va_D A (mW K o r f5 a6 g7) := hD
  refine lv_goto (tgt := 18) hx hb dX12_readOne_11 (by decide) ?_
  exact kV_ret hx hb hr hlocks hK hS dX12_readOne_18 (f5, a6, g7) hP hD hw2
set_option maxHeartbeats 4000000 in
set_option maxRecDepth 100000 in
theorem c_readsL (l : Launch) {D : va_G} {K : Nat → ClassId} (o : Nat) (r : Nat → Nat) (f : Nat → Int32) (a : Nat → Nat → Int32) (g : Nat → Int64) (h0 : f 13 = 0) (h1 : f 10 = 0)   : kI l yX12_reads (Cond.code yX12_reads cX12_reads 2 (some .boolean) :: kG) (rmD 6 0 0) D (tysK K) [.ref o] (mW K o r f a g) (fun v (u : mS) => v = 0) (fun u => mW K o r u.1 u.2.1 u.2.2) 0 0 := by
  refine kI.of (cc := cX12_reads) (maxL := 2) (ret := (some .boolean)) (by decide) rfl (Nat.le_of_ble_eq_true rfl) ?_
  intro p e s m below meth c A hx hb hr hml hown hts hlocks hnm hK hP hD hS hA ls hl
  have hg : ∀ w ∈ kG, w.before _ s = true := fun w h => hts w (List.mem_cons_of_mem _ h)
  have hown : s.vm.findClass RX12 = some m.cls := hown
  have hl : lv_has ls 2 [(0, .ref o)] := hl
  refine lv_aload_n hx hb dX12_reads_0 rfl (lv_at hl 0 rfl) ?_
  refine lv_aload_n hx hb dX12_reads_1 rfl (lv_at hl 0 rfl) ?_
  refine va_get (D := D) (ci := 12) (v := .int (f 13)) (C := RX12) (T := TX12) (N := 48) hx hb hg inC12 hown hK hP 0 rfl rfl 13 (by decide) (hg _ wt5_173) (fun _ h9 => h9) rfl dX12_reads_2 ?_
  refine k_top (z := 0) h0 ?_
  refine kV.callV (As := [.int 0]) (rest := []) ⟨hx, hb, hml, hown, hg⟩ (c_splits0 l o r f a g h1 ) (cwV 1 hg (kgV wt6_177 wt6_179 wp4_2 wt1_14 wt6_180) rfl rfl rfl (by decide +kernel) ⟨by decide, by decide⟩) hK hP hD hS hA mIs [] rfl (wr := []) rfl rfl rfl (fun i h => by cases h) 0 12 rfl rfl rfl hl.1 rfl (Nat.le_of_ble_eq_true rfl) dX12_reads_5 ⟨by decide, by decide⟩ (fun u2 H locs hw1 hP hD hS => ?_)
  obtain ⟨f4, a5, g6⟩ := u2
  have hP : va_P D vwCl (mW K o r f4 a5 g6) H := hP
  have hD : va_D A (mW K o r f4 a5 g6) := hD
  refine lv_aload_n hx hb dX12_reads_8 rfl (lv_at hl 0 rfl) ?_
  refine lv_iconst (v := 0) hx hb dX12_reads_9 (by decide) ?_
  refine va_put (D := D) (ci := 12) (v := .int 0) (ty := .int) (C := RX12) (T := TX12) (N := 48) hx hb hg inC12 tyX12 tyX12_ok nmX12 hown hK hP hD hS 0 rfl rfl 13 (by decide) (hg _ wt5_173) (fun _ h9 => h9) rfl (by decide +kernel) rfl rfl (Nat.le_of_ble_eq_true rfl) dX12_reads_10 (fun H locs hP hD hS => ?_)
  have hP : va_P D vwCl (mW K o r (upd f4 13 0) a5 g6) H := hP
  have hD : va_D A (mW K o r (upd f4 13 0) a5 g6) := hD
  generalize ef_7 : upd f4 13 0 = f_7 at hP hD
  refine lv_aload_n hx hb dX12_reads_13 rfl (lv_at hl 0 rfl) ?_
  refine lv_iconst (v := 0) hx hb dX12_reads_14 (by decide) ?_
  refine va_put (D := D) (ci := 12) (v := .int 0) (ty := .int) (C := RX12) (T := TX12) (N := 48) hx hb hg inC12 tyX12 tyX12_ok nmX12 hown hK hP hD hS 0 rfl rfl 19 (by decide) (hg _ wt5_179) (fun _ h9 => h9) rfl (by decide +kernel) rfl rfl (Nat.le_of_ble_eq_true rfl) dX12_reads_15 (fun H locs hP hD hS => ?_)
  have hP : va_P D vwCl (mW K o r (upd f_7 19 0) a5 g6) H := hP
  have hD : va_D A (mW K o r (upd f_7 19 0) a5 g6) := hD
  generalize ef_8 : upd f_7 19 0 = f_8 at hP hD
  refine lv_aload_n hx hb dX12_reads_18 rfl (lv_at hl 0 rfl) ?_
  refine lv_iconst (v := 0) hx hb dX12_reads_19 (by decide) ?_
  refine va_put (D := D) (ci := 12) (v := .int 0) (ty := .int) (C := RX12) (T := TX12) (N := 48) hx hb hg inC12 tyX12 tyX12_ok nmX12 hown hK hP hD hS 0 rfl rfl 20 (by decide) (hg _ wt5_180) (fun _ h9 => h9) rfl (by decide +kernel) rfl rfl (Nat.le_of_ble_eq_true rfl) dX12_reads_20 (fun H locs hP hD hS => ?_)
  have hP : va_P D vwCl (mW K o r (upd f_8 20 0) a5 g6) H := hP
  have hD : va_D A (mW K o r (upd f_8 20 0) a5 g6) := hD
  generalize ef_9 : upd f_8 20 0 = f_9 at hP hD
  refine lv_aload_n hx hb dX12_reads_23 rfl (lv_at hl 0 rfl) ?_
  refine lv_iconst (v := (-1)) hx hb dX12_reads_24 (by decide) ?_
  refine va_put (D := D) (ci := 12) (v := .int (-1)) (ty := .int) (C := RX12) (T := TX12) (N := 48) hx hb hg inC12 tyX12 tyX12_ok nmX12 hown hK hP hD hS 0 rfl rfl 21 (by decide) (hg _ wt5_181) (fun _ h9 => h9) rfl (by decide +kernel) rfl rfl (Nat.le_of_ble_eq_true rfl) dX12_reads_25 (fun H locs hP hD hS => ?_)
  have hP : va_P D vwCl (mW K o r (upd f_9 21 (-1)) a5 g6) H := hP
  have hD : va_D A (mW K o r (upd f_9 21 (-1)) a5 g6) := hD
  generalize ef_10 : upd f_9 21 (-1) = f_10 at hP hD
  refine lv_aload_n hx hb dX12_reads_28 rfl (lv_at hl 0 rfl) ?_
  refine kV.callV (As := []) (rest := []) ⟨hx, hb, hml, hown, hg⟩ (c_readOneL l o r f_10 a5 g6 (show f_10 21 = (-1) from by rw [← ef_10]; rfl) ((show f_10 19 = f_9 19 from by rw [← ef_10]; rfl).trans ((show f_9 19 = f_8 19 from by rw [← ef_9]; rfl).trans (show f_8 19 = 0 from by rw [← ef_8]; rfl))) hw1.2.2.1 hw1.2.1 ((show f_10 10 = f_9 10 from by rw [← ef_10]; rfl).trans ((show f_9 10 = f_8 10 from by rw [← ef_9]; rfl).trans ((show f_8 10 = f_7 10 from by rw [← ef_8]; rfl).trans ((show f_7 10 = f4 10 from by rw [← ef_7]; rfl).trans hw1.2.2.2)))) ) (cwV 0 hg (kgV wt6_192 wt6_194 wp4_4 wt1_14 wt6_195) rfl rfl rfl (by decide +kernel) ⟨by decide, by decide⟩) hK hP hD hS hA mIs [] rfl (wr := []) rfl rfl rfl (fun i h => by cases h) 0 12 rfl rfl rfl hl.1 rfl (Nat.le_of_ble_eq_true rfl) dX12_reads_29 ⟨by decide, by decide⟩ (fun u12 H locs hw11 hP hD hS => ?_)
  obtain ⟨f14, a15, g16⟩ := u12
  have hP : va_P D vwCl (mW K o r f14 a15 g16) H := hP
  have hD : va_D A (mW K o r f14 a15 g16) := hD
  refine lv_iconst (v := 1) hx hb dX12_reads_32 (by decide) ?_
  refine lv_istore_n (lv' := [(1, .int 1), (0, .ref o)]) hx hb dX12_reads_33 rfl hl (by decide) rfl (fun ls hl => ?_)
  refine lv_aload_n hx hb dX12_reads_34 rfl (lv_at hl 1 rfl) ?_
  refine lv_bipush (v := 59) hx hb dX12_reads_35 (by decide) ?_
  refine kN.callS (As := [.int 59]) (rest := [.ref o]) ⟨hx, hb, hml, hown, hg⟩ (c_sign l ) (va_cwS 1 hg (kgS wt6_220 wt6_221 wt1_14 wt6_222) rfl rfl rfl (by decide +kernel) ⟨by decide, by decide⟩) hP hS rfl hl.1 rfl (Nat.le_of_ble_eq_true rfl) dX12_reads_37 ⟨by decide, by decide⟩ (fun v18 H locs hw17 hP hS => ?_)
  refine k_top (z := 159) (hw17) ?_
  refine kI.callV (As := [.int 159]) (rest := []) ⟨hx, hb, hml, hown, hg⟩ (c_takesBad l o r f14 a15 g16 hw11 159) (cwV 1 hg (kgV wt6_200 wt6_202 wp4_6 wt1_14 wt6_203) rfl rfl rfl (by decide +kernel) ⟨by decide, by decide⟩) hK hP hD hS hA mIs [] rfl (wr := []) rfl rfl rfl (fun i h => by cases h) 0 12 rfl rfl rfl hl.1 rfl (Nat.le_of_ble_eq_true rfl) dX12_reads_40 ⟨by decide, by decide⟩ (fun v21 u20 H locs hw19 hP hD hS => ?_)
  have hP : va_P D vwCl (mW K o r f14 a15 g16) H := hP
  have hD : va_D A (mW K o r f14 a15 g16) := hD
  refine k_top (z := 0) (hw19) ?_
  refine lv_if_eq (tgt := 73) hx hb dX12_reads_43 (by decide) (fun c22 => ?_) (fun c22 => absurd (by decide +kernel) c22)
  refine lv_aload_n hx hb dX12_reads_73 rfl (lv_at hl 1 rfl) ?_
  refine kI.callV (As := []) (rest := []) ⟨hx, hb, hml, hown, hg⟩ (c_fineBad l o r f14 a15 g16 hw11 ) (cwV 0 hg (kgV wt6_204 wt6_206 wp4_7 wt1_14 wt6_207) rfl rfl rfl (by decide +kernel) ⟨by decide, by decide⟩) hK hP hD hS hA mIs [] rfl (wr := []) rfl rfl rfl (fun i h => by cases h) 0 12 rfl rfl rfl hl.1 rfl (Nat.le_of_ble_eq_true rfl) dX12_reads_74 ⟨by decide, by decide⟩ (fun v25 u24 H locs hw23 hP hD hS => ?_)
  have hP : va_P D vwCl (mW K o r f14 a15 g16) H := hP
  have hD : va_D A (mW K o r f14 a15 g16) := hD
  refine k_top (z := 0) (hw23) ?_
  refine lv_if_eq (tgt := 95) hx hb dX12_reads_77 (by decide) (fun c26 => ?_) (fun c26 => absurd (by decide +kernel) c26)
  refine lv_aload_n hx hb dX12_reads_95 rfl (lv_at hl 1 rfl) ?_
  refine lv_aload_n hx hb dX12_reads_96 rfl (lv_at hl 1 rfl) ?_
  refine va_get (D := D) (ci := 12) (v := .int (f14 21)) (C := RX12) (T := TX12) (N := 48) hx hb hg inC12 hown hK hP 0 rfl rfl 21 (by decide) (hg _ wt5_181) (fun _ h9 => h9) rfl dX12_reads_97 ?_
  refine k_top (z := 0) hw11 ?_
  refine va_put (D := D) (ci := 12) (v := .int 0) (ty := .int) (C := RX12) (T := TX12) (N := 48) hx hb hg inC12 tyX12 tyX12_ok nmX12 hown hK hP hD hS 0 rfl rfl 14 (by decide) (hg _ wt5_174) (fun _ h9 => h9) rfl (by decide +kernel) rfl rfl (Nat.le_of_ble_eq_true rfl) dX12_reads_100 (fun H locs hP hD hS => ?_)
  have hP : va_P D vwCl (mW K o r (upd f14 14 0) a15 g16) H := hP
  have hD : va_D A (mW K o r (upd f14 14 0) a15 g16) := hD
  generalize ef_27 : upd f14 14 0 = f_27 at hP hD
  refine lv_aload_n hx hb dX12_reads_103 rfl (lv_at hl 1 rfl) ?_
  refine kI.callV (As := []) (rest := []) ⟨hx, hb, hml, hown, hg⟩ (c_fineBad l o r f_27 a15 g16 ((show f_27 21 = f14 21 from by rw [← ef_27]; rfl).trans hw11) ) (cwV 0 hg (kgV wt6_204 wt6_206 wp4_7 wt1_14 wt6_207) rfl rfl rfl (by decide +kernel) ⟨by decide, by decide⟩) hK hP hD hS hA mIs [] rfl (wr := []) rfl rfl rfl (fun i h => by cases h) 0 12 rfl rfl rfl hl.1 rfl (Nat.le_of_ble_eq_true rfl) dX12_reads_104 ⟨by decide, by decide⟩ (fun v30 u29 H locs hw28 hP hD hS => ?_)
  have hP : va_P D vwCl (mW K o r f_27 a15 g16) H := hP
  have hD : va_D A (mW K o r f_27 a15 g16) := hD
  refine k_top (z := 0) (hw28) ?_
  exact kI_ret (v := 0) hx hb hr hlocks (by decide +kernel) hK hS dX12_reads_107 (f_27, a15, g16) hP hD rfl
set_option maxHeartbeats 4000000 in
set_option maxRecDepth 100000 in
theorem c_readsO (l : Launch) {D : va_G} {K : Nat → ClassId} (o : Nat) (r : Nat → Nat) (f : Nat → Int32) (a : Nat → Nat → Int32) (g : Nat → Int64) (h0 : f 13 = 0) (h1 : f 10 = 1)   : kI l yX12_reads (Cond.code yX12_reads cX12_reads 2 (some .boolean) :: kG) (rmD 6 0 0) D (tysK K) [.ref o] (mW K o r f a g) (fun v (u : mS) => v = 0) (fun u => mW K o r u.1 u.2.1 u.2.2) 0 0 := by
  refine kI.of (cc := cX12_reads) (maxL := 2) (ret := (some .boolean)) (by decide) rfl (Nat.le_of_ble_eq_true rfl) ?_
  intro p e s m below meth c A hx hb hr hml hown hts hlocks hnm hK hP hD hS hA ls hl
  have hg : ∀ w ∈ kG, w.before _ s = true := fun w h => hts w (List.mem_cons_of_mem _ h)
  have hown : s.vm.findClass RX12 = some m.cls := hown
  have hl : lv_has ls 2 [(0, .ref o)] := hl
  refine lv_aload_n hx hb dX12_reads_0 rfl (lv_at hl 0 rfl) ?_
  refine lv_aload_n hx hb dX12_reads_1 rfl (lv_at hl 0 rfl) ?_
  refine va_get (D := D) (ci := 12) (v := .int (f 13)) (C := RX12) (T := TX12) (N := 48) hx hb hg inC12 hown hK hP 0 rfl rfl 13 (by decide) (hg _ wt5_173) (fun _ h9 => h9) rfl dX12_reads_2 ?_
  refine k_top (z := 0) h0 ?_
  refine kV.callV (As := [.int 0]) (rest := []) ⟨hx, hb, hml, hown, hg⟩ (c_splits1 l o r f a g h1 ) (cwV 1 hg (kgV wt6_177 wt6_179 wp4_2 wt1_14 wt6_180) rfl rfl rfl (by decide +kernel) ⟨by decide, by decide⟩) hK hP hD hS hA mIs [] rfl (wr := []) rfl rfl rfl (fun i h => by cases h) 0 12 rfl rfl rfl hl.1 rfl (Nat.le_of_ble_eq_true rfl) dX12_reads_5 ⟨by decide, by decide⟩ (fun u2 H locs hw1 hP hD hS => ?_)
  obtain ⟨f4, a5, g6⟩ := u2
  have hP : va_P D vwCl (mW K o r f4 a5 g6) H := hP
  have hD : va_D A (mW K o r f4 a5 g6) := hD
  refine lv_aload_n hx hb dX12_reads_8 rfl (lv_at hl 0 rfl) ?_
  refine lv_iconst (v := 0) hx hb dX12_reads_9 (by decide) ?_
  refine va_put (D := D) (ci := 12) (v := .int 0) (ty := .int) (C := RX12) (T := TX12) (N := 48) hx hb hg inC12 tyX12 tyX12_ok nmX12 hown hK hP hD hS 0 rfl rfl 13 (by decide) (hg _ wt5_173) (fun _ h9 => h9) rfl (by decide +kernel) rfl rfl (Nat.le_of_ble_eq_true rfl) dX12_reads_10 (fun H locs hP hD hS => ?_)
  have hP : va_P D vwCl (mW K o r (upd f4 13 0) a5 g6) H := hP
  have hD : va_D A (mW K o r (upd f4 13 0) a5 g6) := hD
  generalize ef_7 : upd f4 13 0 = f_7 at hP hD
  refine lv_aload_n hx hb dX12_reads_13 rfl (lv_at hl 0 rfl) ?_
  refine lv_iconst (v := 0) hx hb dX12_reads_14 (by decide) ?_
  refine va_put (D := D) (ci := 12) (v := .int 0) (ty := .int) (C := RX12) (T := TX12) (N := 48) hx hb hg inC12 tyX12 tyX12_ok nmX12 hown hK hP hD hS 0 rfl rfl 19 (by decide) (hg _ wt5_179) (fun _ h9 => h9) rfl (by decide +kernel) rfl rfl (Nat.le_of_ble_eq_true rfl) dX12_reads_15 (fun H locs hP hD hS => ?_)
  have hP : va_P D vwCl (mW K o r (upd f_7 19 0) a5 g6) H := hP
  have hD : va_D A (mW K o r (upd f_7 19 0) a5 g6) := hD
  generalize ef_8 : upd f_7 19 0 = f_8 at hP hD
  refine lv_aload_n hx hb dX12_reads_18 rfl (lv_at hl 0 rfl) ?_
  refine lv_iconst (v := 0) hx hb dX12_reads_19 (by decide) ?_
  refine va_put (D := D) (ci := 12) (v := .int 0) (ty := .int) (C := RX12) (T := TX12) (N := 48) hx hb hg inC12 tyX12 tyX12_ok nmX12 hown hK hP hD hS 0 rfl rfl 20 (by decide) (hg _ wt5_180) (fun _ h9 => h9) rfl (by decide +kernel) rfl rfl (Nat.le_of_ble_eq_true rfl) dX12_reads_20 (fun H locs hP hD hS => ?_)
  have hP : va_P D vwCl (mW K o r (upd f_8 20 0) a5 g6) H := hP
  have hD : va_D A (mW K o r (upd f_8 20 0) a5 g6) := hD
  generalize ef_9 : upd f_8 20 0 = f_9 at hP hD
  refine lv_aload_n hx hb dX12_reads_23 rfl (lv_at hl 0 rfl) ?_
  refine lv_iconst (v := (-1)) hx hb dX12_reads_24 (by decide) ?_
  refine va_put (D := D) (ci := 12) (v := .int (-1)) (ty := .int) (C := RX12) (T := TX12) (N := 48) hx hb hg inC12 tyX12 tyX12_ok nmX12 hown hK hP hD hS 0 rfl rfl 21 (by decide) (hg _ wt5_181) (fun _ h9 => h9) rfl (by decide +kernel) rfl rfl (Nat.le_of_ble_eq_true rfl) dX12_reads_25 (fun H locs hP hD hS => ?_)
  have hP : va_P D vwCl (mW K o r (upd f_9 21 (-1)) a5 g6) H := hP
  have hD : va_D A (mW K o r (upd f_9 21 (-1)) a5 g6) := hD
  generalize ef_10 : upd f_9 21 (-1) = f_10 at hP hD
  refine lv_aload_n hx hb dX12_reads_28 rfl (lv_at hl 0 rfl) ?_
  refine kV.callV (As := []) (rest := []) ⟨hx, hb, hml, hown, hg⟩ (c_readOneO l o r f_10 a5 g6 (show f_10 21 = (-1) from by rw [← ef_10]; rfl) ((show f_10 19 = f_9 19 from by rw [← ef_10]; rfl).trans ((show f_9 19 = f_8 19 from by rw [← ef_9]; rfl).trans (show f_8 19 = 0 from by rw [← ef_8]; rfl))) hw1.2.2.1 hw1.2.1 ((show f_10 10 = f_9 10 from by rw [← ef_10]; rfl).trans ((show f_9 10 = f_8 10 from by rw [← ef_9]; rfl).trans ((show f_8 10 = f_7 10 from by rw [← ef_8]; rfl).trans ((show f_7 10 = f4 10 from by rw [← ef_7]; rfl).trans hw1.2.2.2)))) ) (cwV 0 hg (kgV wt6_192 wt6_194 wp4_4 wt1_14 wt6_195) rfl rfl rfl (by decide +kernel) ⟨by decide, by decide⟩) hK hP hD hS hA mIs [] rfl (wr := []) rfl rfl rfl (fun i h => by cases h) 0 12 rfl rfl rfl hl.1 rfl (Nat.le_of_ble_eq_true rfl) dX12_reads_29 ⟨by decide, by decide⟩ (fun u12 H locs hw11 hP hD hS => ?_)
  obtain ⟨f14, a15, g16⟩ := u12
  have hP : va_P D vwCl (mW K o r f14 a15 g16) H := hP
  have hD : va_D A (mW K o r f14 a15 g16) := hD
  refine lv_iconst (v := 1) hx hb dX12_reads_32 (by decide) ?_
  refine lv_istore_n (lv' := [(1, .int 1), (0, .ref o)]) hx hb dX12_reads_33 rfl hl (by decide) rfl (fun ls hl => ?_)
  refine lv_aload_n hx hb dX12_reads_34 rfl (lv_at hl 1 rfl) ?_
  refine lv_bipush (v := 59) hx hb dX12_reads_35 (by decide) ?_
  refine kN.callS (As := [.int 59]) (rest := [.ref o]) ⟨hx, hb, hml, hown, hg⟩ (c_sign l ) (va_cwS 1 hg (kgS wt6_220 wt6_221 wt1_14 wt6_222) rfl rfl rfl (by decide +kernel) ⟨by decide, by decide⟩) hP hS rfl hl.1 rfl (Nat.le_of_ble_eq_true rfl) dX12_reads_37 ⟨by decide, by decide⟩ (fun v18 H locs hw17 hP hS => ?_)
  refine k_top (z := 159) (hw17) ?_
  refine kI.callV (As := [.int 159]) (rest := []) ⟨hx, hb, hml, hown, hg⟩ (c_takesBad l o r f14 a15 g16 hw11 159) (cwV 1 hg (kgV wt6_200 wt6_202 wp4_6 wt1_14 wt6_203) rfl rfl rfl (by decide +kernel) ⟨by decide, by decide⟩) hK hP hD hS hA mIs [] rfl (wr := []) rfl rfl rfl (fun i h => by cases h) 0 12 rfl rfl rfl hl.1 rfl (Nat.le_of_ble_eq_true rfl) dX12_reads_40 ⟨by decide, by decide⟩ (fun v21 u20 H locs hw19 hP hD hS => ?_)
  have hP : va_P D vwCl (mW K o r f14 a15 g16) H := hP
  have hD : va_D A (mW K o r f14 a15 g16) := hD
  refine k_top (z := 0) (hw19) ?_
  refine lv_if_eq (tgt := 73) hx hb dX12_reads_43 (by decide) (fun c22 => ?_) (fun c22 => absurd (by decide +kernel) c22)
  refine lv_aload_n hx hb dX12_reads_73 rfl (lv_at hl 1 rfl) ?_
  refine kI.callV (As := []) (rest := []) ⟨hx, hb, hml, hown, hg⟩ (c_fineBad l o r f14 a15 g16 hw11 ) (cwV 0 hg (kgV wt6_204 wt6_206 wp4_7 wt1_14 wt6_207) rfl rfl rfl (by decide +kernel) ⟨by decide, by decide⟩) hK hP hD hS hA mIs [] rfl (wr := []) rfl rfl rfl (fun i h => by cases h) 0 12 rfl rfl rfl hl.1 rfl (Nat.le_of_ble_eq_true rfl) dX12_reads_74 ⟨by decide, by decide⟩ (fun v25 u24 H locs hw23 hP hD hS => ?_)
  have hP : va_P D vwCl (mW K o r f14 a15 g16) H := hP
  have hD : va_D A (mW K o r f14 a15 g16) := hD
  refine k_top (z := 0) (hw23) ?_
  refine lv_if_eq (tgt := 95) hx hb dX12_reads_77 (by decide) (fun c26 => ?_) (fun c26 => absurd (by decide +kernel) c26)
  refine lv_aload_n hx hb dX12_reads_95 rfl (lv_at hl 1 rfl) ?_
  refine lv_aload_n hx hb dX12_reads_96 rfl (lv_at hl 1 rfl) ?_
  refine va_get (D := D) (ci := 12) (v := .int (f14 21)) (C := RX12) (T := TX12) (N := 48) hx hb hg inC12 hown hK hP 0 rfl rfl 21 (by decide) (hg _ wt5_181) (fun _ h9 => h9) rfl dX12_reads_97 ?_
  refine k_top (z := 0) hw11 ?_
  refine va_put (D := D) (ci := 12) (v := .int 0) (ty := .int) (C := RX12) (T := TX12) (N := 48) hx hb hg inC12 tyX12 tyX12_ok nmX12 hown hK hP hD hS 0 rfl rfl 14 (by decide) (hg _ wt5_174) (fun _ h9 => h9) rfl (by decide +kernel) rfl rfl (Nat.le_of_ble_eq_true rfl) dX12_reads_100 (fun H locs hP hD hS => ?_)
  have hP : va_P D vwCl (mW K o r (upd f14 14 0) a15 g16) H := hP
  have hD : va_D A (mW K o r (upd f14 14 0) a15 g16) := hD
  generalize ef_27 : upd f14 14 0 = f_27 at hP hD
  refine lv_aload_n hx hb dX12_reads_103 rfl (lv_at hl 1 rfl) ?_
  refine kI.callV (As := []) (rest := []) ⟨hx, hb, hml, hown, hg⟩ (c_fineBad l o r f_27 a15 g16 ((show f_27 21 = f14 21 from by rw [← ef_27]; rfl).trans hw11) ) (cwV 0 hg (kgV wt6_204 wt6_206 wp4_7 wt1_14 wt6_207) rfl rfl rfl (by decide +kernel) ⟨by decide, by decide⟩) hK hP hD hS hA mIs [] rfl (wr := []) rfl rfl rfl (fun i h => by cases h) 0 12 rfl rfl rfl hl.1 rfl (Nat.le_of_ble_eq_true rfl) dX12_reads_104 ⟨by decide, by decide⟩ (fun v30 u29 H locs hw28 hP hD hS => ?_)
  have hP : va_P D vwCl (mW K o r f_27 a15 g16) H := hP
  have hD : va_D A (mW K o r f_27 a15 g16) := hD
  refine k_top (z := 0) (hw28) ?_
  exact kI_ret (v := 0) hx hb hr hlocks (by decide +kernel) hK hS dX12_reads_107 (f_27, a15, g16) hP hD rfl
end
section
set_option maxHeartbeats 4000000 in
set_option maxRecDepth 100000 in
theorem c_readsAs0 (l : Launch) {D : va_G} {K : Nat → ClassId} (o : Nat) (r : Nat → Nat) (f : Nat → Int32) (a : Nat → Nat → Int32) (g : Nat → Int64) (h0 : f 13 = 0)   : kI l yX12_readsAs (Cond.code yX12_readsAs cX12_readsAs 2 (some .boolean) :: kG) (rmD 7 0 0) D (tysK K) [.ref o, .int 0] (mW K o r f a g) (fun v (u : mS) => v = 0) (fun u => mW K o r u.1 u.2.1 u.2.2) 0 0 := by
  refine kI.of (cc := cX12_readsAs) (maxL := 2) (ret := (some .boolean)) (by decide) rfl (Nat.le_of_ble_eq_true rfl) ?_
  intro p e s m below meth c A hx hb hr hml hown hts hlocks hnm hK hP hD hS hA ls hl
  have hg : ∀ w ∈ kG, w.before _ s = true := fun w h => hts w (List.mem_cons_of_mem _ h)
  have hown : s.vm.findClass RX12 = some m.cls := hown
  have hl : lv_has ls 2 [(0, .ref o), (1, .int 0)] := hl
  refine lv_aload_n hx hb dX12_readsAs_0 rfl (lv_at hl 0 rfl) ?_
  refine lv_iload_n hx hb dX12_readsAs_1 rfl (lv_at hl 1 rfl) ?_
  refine va_put (D := D) (ci := 12) (v := .int 0) (ty := .boolean) (C := RX12) (T := TX12) (N := 48) hx hb hg inC12 tyX12 tyX12_ok nmX12 hown hK hP hD hS 0 rfl rfl 10 (by decide) (hg _ wt5_170) (fun _ h9 => h9) rfl (by decide +kernel) rfl rfl (Nat.le_of_ble_eq_true rfl) dX12_readsAs_2 (fun H locs hP hD hS => ?_)
  have hP : va_P D vwCl (mW K o r (upd f 10 0) a g) H := hP
  have hD : va_D A (mW K o r (upd f 10 0) a g) := hD
  generalize ef_1 : upd f 10 0 = f_1 at hP hD
  refine lv_aload_n hx hb dX12_readsAs_5 rfl (lv_at hl 0 rfl) ?_
  refine lv_iload_n hx hb dX12_readsAs_6 rfl (lv_at hl 1 rfl) ?_
  refine lv_if_eq (tgt := 15) hx hb dX12_readsAs_7 (by decide) (fun c2 => ?_) (fun c2 => absurd (by decide +kernel) c2)
  refine lv_bipush (v := 9) hx hb dX12_readsAs_15 (by decide) ?_
  refine va_put (D := D) (ci := 12) (v := .int 9) (ty := .int) (C := RX12) (T := TX12) (N := 48) hx hb hg inC12 tyX12 tyX12_ok nmX12 hown hK hP hD hS 0 rfl rfl 8 (by decide) (hg _ wt5_168) (fun _ h9 => h9) rfl (by decide +kernel) rfl rfl (Nat.le_of_ble_eq_true rfl) dX12_readsAs_17 (fun H locs hP hD hS => ?_)
  have hP : va_P D vwCl (mW K o r (upd f_1 8 9) a g) H := hP
  have hD : va_D A (mW K o r (upd f_1 8 9) a g) := hD
  generalize ef_3 : upd f_1 8 9 = f_3 at hP hD
  refine lv_aload_n hx hb dX12_readsAs_20 rfl (lv_at hl 0 rfl) ?_
  refine lv_iload_n hx hb dX12_readsAs_21 rfl (lv_at hl 1 rfl) ?_
  refine lv_if_eq (tgt := 30) hx hb dX12_readsAs_22 (by decide) (fun c4 => ?_) (fun c4 => absurd (by decide +kernel) c4)
  refine lv_bipush (v := 18) hx hb dX12_readsAs_30 (by decide) ?_
  refine va_put (D := D) (ci := 12) (v := .int 18) (ty := .int) (C := RX12) (T := TX12) (N := 48) hx hb hg inC12 tyX12 tyX12_ok nmX12 hown hK hP hD hS 0 rfl rfl 9 (by decide) (hg _ wt5_169) (fun _ h9 => h9) rfl (by decide +kernel) rfl rfl (Nat.le_of_ble_eq_true rfl) dX12_readsAs_32 (fun H locs hP hD hS => ?_)
  have hP : va_P D vwCl (mW K o r (upd f_3 9 18) a g) H := hP
  have hD : va_D A (mW K o r (upd f_3 9 18) a g) := hD
  generalize ef_5 : upd f_3 9 18 = f_5 at hP hD
  refine lv_aload_n hx hb dX12_readsAs_35 rfl (lv_at hl 0 rfl) ?_
  refine kI.callV (As := []) (rest := []) ⟨hx, hb, hml, hown, hg⟩ (c_readsL l o r f_5 a g ((show f_5 13 = f_3 13 from by rw [← ef_5]; rfl).trans ((show f_3 13 = f_1 13 from by rw [← ef_3]; rfl).trans ((show f_1 13 = f 13 from by rw [← ef_1]; rfl).trans h0))) ((show f_5 10 = f_3 10 from by rw [← ef_5]; rfl).trans ((show f_3 10 = f_1 10 from by rw [← ef_3]; rfl).trans (show f_1 10 = 0 from by rw [← ef_1]; rfl))) ) (cwV 0 hg (kgV wt6_173 wt6_175 wp4_1 wt1_14 wt6_176) rfl rfl rfl (by decide +kernel) ⟨by decide, by decide⟩) hK hP hD hS hA mIs [] rfl (wr := []) rfl rfl rfl (fun i h => by cases h) 0 12 rfl rfl rfl hl.1 rfl (Nat.le_of_ble_eq_true rfl) dX12_readsAs_36 ⟨by decide, by decide⟩ (fun v8 u7 H locs hw6 hP hD hS => ?_)
  obtain ⟨f9, a10, g11⟩ := u7
  have hP : va_P D vwCl (mW K o r f9 a10 g11) H := hP
  have hD : va_D A (mW K o r f9 a10 g11) := hD
  refine k_top (z := 0) (hw6) ?_
  exact kI_ret (v := 0) hx hb hr hlocks (by decide +kernel) hK hS dX12_readsAs_39 (f9, a10, g11) hP hD rfl
set_option maxHeartbeats 4000000 in
set_option maxRecDepth 100000 in
theorem c_readsAs1 (l : Launch) {D : va_G} {K : Nat → ClassId} (o : Nat) (r : Nat → Nat) (f : Nat → Int32) (a : Nat → Nat → Int32) (g : Nat → Int64) (h0 : f 13 = 0)   : kI l yX12_readsAs (Cond.code yX12_readsAs cX12_readsAs 2 (some .boolean) :: kG) (rmD 7 0 0) D (tysK K) [.ref o, .int 1] (mW K o r f a g) (fun v (u : mS) => v = 0) (fun u => mW K o r u.1 u.2.1 u.2.2) 0 0 := by
  refine kI.of (cc := cX12_readsAs) (maxL := 2) (ret := (some .boolean)) (by decide) rfl (Nat.le_of_ble_eq_true rfl) ?_
  intro p e s m below meth c A hx hb hr hml hown hts hlocks hnm hK hP hD hS hA ls hl
  have hg : ∀ w ∈ kG, w.before _ s = true := fun w h => hts w (List.mem_cons_of_mem _ h)
  have hown : s.vm.findClass RX12 = some m.cls := hown
  have hl : lv_has ls 2 [(0, .ref o), (1, .int 1)] := hl
  refine lv_aload_n hx hb dX12_readsAs_0 rfl (lv_at hl 0 rfl) ?_
  refine lv_iload_n hx hb dX12_readsAs_1 rfl (lv_at hl 1 rfl) ?_
  refine va_put (D := D) (ci := 12) (v := .int 1) (ty := .boolean) (C := RX12) (T := TX12) (N := 48) hx hb hg inC12 tyX12 tyX12_ok nmX12 hown hK hP hD hS 0 rfl rfl 10 (by decide) (hg _ wt5_170) (fun _ h9 => h9) rfl (by decide +kernel) rfl rfl (Nat.le_of_ble_eq_true rfl) dX12_readsAs_2 (fun H locs hP hD hS => ?_)
  have hP : va_P D vwCl (mW K o r (upd f 10 1) a g) H := hP
  have hD : va_D A (mW K o r (upd f 10 1) a g) := hD
  generalize ef_1 : upd f 10 1 = f_1 at hP hD
  refine lv_aload_n hx hb dX12_readsAs_5 rfl (lv_at hl 0 rfl) ?_
  refine lv_iload_n hx hb dX12_readsAs_6 rfl (lv_at hl 1 rfl) ?_
  refine lv_if_eq (tgt := 15) hx hb dX12_readsAs_7 (by decide) (fun c2 => absurd c2 (by decide +kernel)) (fun c2 => ?_)
  refine lv_bipush (v := 16) hx hb dX12_readsAs_10 (by decide) ?_
  refine lv_goto (tgt := 17) hx hb dX12_readsAs_12 (by decide) ?_
  refine va_put (D := D) (ci := 12) (v := .int 16) (ty := .int) (C := RX12) (T := TX12) (N := 48) hx hb hg inC12 tyX12 tyX12_ok nmX12 hown hK hP hD hS 0 rfl rfl 8 (by decide) (hg _ wt5_168) (fun _ h9 => h9) rfl (by decide +kernel) rfl rfl (Nat.le_of_ble_eq_true rfl) dX12_readsAs_17 (fun H locs hP hD hS => ?_)
  have hP : va_P D vwCl (mW K o r (upd f_1 8 16) a g) H := hP
  have hD : va_D A (mW K o r (upd f_1 8 16) a g) := hD
  generalize ef_3 : upd f_1 8 16 = f_3 at hP hD
  refine lv_aload_n hx hb dX12_readsAs_20 rfl (lv_at hl 0 rfl) ?_
  refine lv_iload_n hx hb dX12_readsAs_21 rfl (lv_at hl 1 rfl) ?_
  refine lv_if_eq (tgt := 30) hx hb dX12_readsAs_22 (by decide) (fun c4 => absurd c4 (by decide +kernel)) (fun c4 => ?_)
  refine lv_bipush (v := 22) hx hb dX12_readsAs_25 (by decide) ?_
  refine lv_goto (tgt := 32) hx hb dX12_readsAs_27 (by decide) ?_
  refine va_put (D := D) (ci := 12) (v := .int 22) (ty := .int) (C := RX12) (T := TX12) (N := 48) hx hb hg inC12 tyX12 tyX12_ok nmX12 hown hK hP hD hS 0 rfl rfl 9 (by decide) (hg _ wt5_169) (fun _ h9 => h9) rfl (by decide +kernel) rfl rfl (Nat.le_of_ble_eq_true rfl) dX12_readsAs_32 (fun H locs hP hD hS => ?_)
  have hP : va_P D vwCl (mW K o r (upd f_3 9 22) a g) H := hP
  have hD : va_D A (mW K o r (upd f_3 9 22) a g) := hD
  generalize ef_5 : upd f_3 9 22 = f_5 at hP hD
  refine lv_aload_n hx hb dX12_readsAs_35 rfl (lv_at hl 0 rfl) ?_
  refine kI.callV (As := []) (rest := []) ⟨hx, hb, hml, hown, hg⟩ (c_readsO l o r f_5 a g ((show f_5 13 = f_3 13 from by rw [← ef_5]; rfl).trans ((show f_3 13 = f_1 13 from by rw [← ef_3]; rfl).trans ((show f_1 13 = f 13 from by rw [← ef_1]; rfl).trans h0))) ((show f_5 10 = f_3 10 from by rw [← ef_5]; rfl).trans ((show f_3 10 = f_1 10 from by rw [← ef_3]; rfl).trans (show f_1 10 = 1 from by rw [← ef_1]; rfl))) ) (cwV 0 hg (kgV wt6_173 wt6_175 wp4_1 wt1_14 wt6_176) rfl rfl rfl (by decide +kernel) ⟨by decide, by decide⟩) hK hP hD hS hA mIs [] rfl (wr := []) rfl rfl rfl (fun i h => by cases h) 0 12 rfl rfl rfl hl.1 rfl (Nat.le_of_ble_eq_true rfl) dX12_readsAs_36 ⟨by decide, by decide⟩ (fun v8 u7 H locs hw6 hP hD hS => ?_)
  obtain ⟨f9, a10, g11⟩ := u7
  have hP : va_P D vwCl (mW K o r f9 a10 g11) H := hP
  have hD : va_D A (mW K o r f9 a10 g11) := hD
  refine k_top (z := 0) (hw6) ?_
  exact kI_ret (v := 0) hx hb hr hlocks (by decide +kernel) hK hS dX12_readsAs_39 (f9, a10, g11) hP hD rfl
set_option maxHeartbeats 4000000 in
set_option maxRecDepth 100000 in
theorem c_law (l : Launch) {D : va_G} {K : Nat → ClassId} (o : Nat) (r : Nat → Nat) (f : Nat → Int32) (a : Nat → Nat → Int32) (g : Nat → Int64) (h0 : f 13 = 0) (h1 : a 2 105 = 0)   : kI l yX12_law (Cond.code yX12_law cX12_law 1 (some .int) :: kG) (rmD 8 0 0) D (tysK K) [.ref o] (mW K o r f a g) (fun v (u : mS) => v = (-6)) (fun u => mW K o r u.1 u.2.1 u.2.2) 0 0 := by
  refine kI.of (cc := cX12_law) (maxL := 1) (ret := (some .int)) (by decide) rfl (Nat.le_of_ble_eq_true rfl) ?_
  intro p e s m below meth c A hx hb hr hml hown hts hlocks hnm hK hP hD hS hA ls hl
  have hg : ∀ w ∈ kG, w.before _ s = true := fun w h => hts w (List.mem_cons_of_mem _ h)
  have hown : s.vm.findClass RX12 = some m.cls := hown
  have hl : lv_has ls 1 [(0, .ref o)] := hl
  refine lv_aload_n hx hb dX12_law_0 rfl (lv_at hl 0 rfl) ?_
  refine va_get (D := D) (ci := 12) (v := .ref (r 2)) (C := RX12) (T := TX12) (N := 48) hx hb hg inC12 hown hK hP 0 rfl rfl 2 (by decide) (hg _ wt5_162) (fun _ h9 => h9) rfl dX12_law_1 ?_
  refine lv_bipush (v := 105) hx hb dX12_law_4 (by decide) ?_
  refine va_iald hx hb hK hP 2 0 rfl rfl (k_in (by decide +kernel)) dX12_law_6 ?_
  refine k_top (z := 0) (by rw [cl_105]; exact h1) ?_
  refine lv_bipush (v := 6) hx hb dX12_law_7 (by decide) ?_
  refine lv_icmp_ne (tgt := 24) hx hb dX12_law_9 (by decide) (fun c1 => ?_) (fun c1 => absurd c1 (by decide +kernel))
  refine lv_aload_n hx hb dX12_law_24 rfl (lv_at hl 0 rfl) ?_
  refine lv_iconst (v := 0) hx hb dX12_law_25 (by decide) ?_
  refine kI.callV (As := [.int 0]) (rest := []) ⟨hx, hb, hml, hown, hg⟩ (c_readsAs0 l o r f a g h0 ) (cwV 1 hg (kgV wt6_169 wt6_171 wp4_0 wt1_14 wt6_172) rfl rfl rfl (by decide +kernel) ⟨by decide, by decide⟩) hK hP hD hS hA mIs [] rfl (wr := []) rfl rfl rfl (fun i h => by cases h) 0 12 rfl rfl rfl hl.1 rfl (Nat.le_of_ble_eq_true rfl) dX12_law_26 ⟨by decide, by decide⟩ (fun v4 u3 H locs hw2 hP hD hS => ?_)
  obtain ⟨f5, a6, g7⟩ := u3
  have hP : va_P D vwCl (mW K o r f5 a6 g7) H := hP
  have hD : va_D A (mW K o r f5 a6 g7) := hD
  refine k_top (z := 0) (hw2) ?_
  refine lv_if_ne (tgt := 39) hx hb dX12_law_29 (by decide) (fun c8 => absurd (by decide +kernel) c8) (fun c8 => ?_)
  refine lv_aload_n hx hb dX12_law_32 rfl (lv_at hl 0 rfl) ?_
  refine lv_bipush (v := (-6)) hx hb dX12_law_33 (by decide) ?_
  refine kI.callV (As := [.int (-6)]) (rest := []) ⟨hx, hb, hml, hown, hg⟩ (c_refuses6 l o r f5 a6 g7  ) (cwV 1 hg (kgV wt6_72 wt6_74 wp3_5 wt1_14 wt6_75) rfl rfl rfl (by decide +kernel) ⟨by decide, by decide⟩) hK hP hD hS hA mIs [] rfl (wr := []) rfl rfl rfl (fun i h => by cases h) 0 12 rfl rfl rfl hl.1 rfl (Nat.le_of_ble_eq_true rfl) dX12_law_35 ⟨by decide, by decide⟩ (fun v11 u10 H locs hw9 hP hD hS => ?_)
  obtain ⟨f12, a13, g14⟩ := u10
  have hP : va_P D vwCl (mW K o r f12 a13 g14) H := hP
  have hD : va_D A (mW K o r f12 a13 g14) := hD
  refine k_top (z := (-6)) (hw9) ?_
  exact kI_ret (v := (-6)) hx hb hr hlocks rfl hK hS dX12_law_38 (f12, a13, g14) hP hD rfl
set_option maxHeartbeats 4000000 in
set_option maxRecDepth 100000 in
theorem c_orders (l : Launch) {D : va_G} {K : Nat → ClassId} (o : Nat) (r : Nat → Nat) (f : Nat → Int32) (a : Nat → Nat → Int32) (g : Nat → Int64) (h0 : f 13 = 0)   : kI l yX12_orders (Cond.code yX12_orders cX12_orders 5 (some .int) :: kG) (rmD 8 0 0) D (tysK K) [.ref o] (mW K o r f a g) (fun v (u : mS) => v = (-6)) (fun u => mW K o r u.1 u.2.1 u.2.2) 0 0 := by
  refine kI.of (cc := cX12_orders) (maxL := 5) (ret := (some .int)) (by decide) rfl (Nat.le_of_ble_eq_true rfl) ?_
  intro p e s m below meth c A hx hb hr hml hown hts hlocks hnm hK hP hD hS hA ls hl
  have hg : ∀ w ∈ kG, w.before _ s = true := fun w h => hts w (List.mem_cons_of_mem _ h)
  have hown : s.vm.findClass RX12 = some m.cls := hown
  have hl : lv_has ls 5 [(0, .ref o)] := hl
  refine lv_aload_n hx hb dX12_orders_0 rfl (lv_at hl 0 rfl) ?_
  refine lv_iconst (v := (-1)) hx hb dX12_orders_1 (by decide) ?_
  refine va_put (D := D) (ci := 12) (v := .int (-1)) (ty := .int) (C := RX12) (T := TX12) (N := 48) hx hb hg inC12 tyX12 tyX12_ok nmX12 hown hK hP hD hS 0 rfl rfl 37 (by decide) (hg _ wt5_197) (fun _ h9 => h9) rfl (by decide +kernel) rfl rfl (Nat.le_of_ble_eq_true rfl) dX12_orders_2 (fun H locs hP hD hS => ?_)
  have hP : va_P D vwCl (mW K o r (upd f 37 (-1)) a g) H := hP
  have hD : va_D A (mW K o r (upd f 37 (-1)) a g) := hD
  generalize ef_1 : upd f 37 (-1) = f_1 at hP hD
  refine lv_aload_n hx hb dX12_orders_5 rfl (lv_at hl 0 rfl) ?_
  refine lv_iconst (v := 1) hx hb dX12_orders_6 (by decide) ?_
  refine kI.callV (As := [.int 1]) (rest := []) ⟨hx, hb, hml, hown, hg⟩ (c_readsAs1 l o r f_1 a g ((show f_1 13 = f 13 from by rw [← ef_1]; rfl).trans h0) ) (cwV 1 hg (kgV wt6_169 wt6_171 wp4_0 wt1_14 wt6_172) rfl rfl rfl (by decide +kernel) ⟨by decide, by decide⟩) hK hP hD hS hA mIs [] rfl (wr := []) rfl rfl rfl (fun i h => by cases h) 0 12 rfl rfl rfl hl.1 rfl (Nat.le_of_ble_eq_true rfl) dX12_orders_7 ⟨by decide, by decide⟩ (fun v4 u3 H locs hw2 hP hD hS => ?_)
  obtain ⟨f5, a6, g7⟩ := u3
  have hP : va_P D vwCl (mW K o r f5 a6 g7) H := hP
  have hD : va_D A (mW K o r f5 a6 g7) := hD
  refine k_top (z := 0) (hw2) ?_
  refine lv_if_ne (tgt := 20) hx hb dX12_orders_10 (by decide) (fun c8 => absurd (by decide +kernel) c8) (fun c8 => ?_)
  refine lv_aload_n hx hb dX12_orders_13 rfl (lv_at hl 0 rfl) ?_
  refine lv_bipush (v := (-6)) hx hb dX12_orders_14 (by decide) ?_
  refine kI.callV (As := [.int (-6)]) (rest := []) ⟨hx, hb, hml, hown, hg⟩ (c_refuses6 l o r f5 a6 g7  ) (cwV 1 hg (kgV wt6_72 wt6_74 wp3_5 wt1_14 wt6_75) rfl rfl rfl (by decide +kernel) ⟨by decide, by decide⟩) hK hP hD hS hA mIs [] rfl (wr := []) rfl rfl rfl (fun i h => by cases h) 0 12 rfl rfl rfl hl.1 rfl (Nat.le_of_ble_eq_true rfl) dX12_orders_16 ⟨by decide, by decide⟩ (fun v11 u10 H locs hw9 hP hD hS => ?_)
  obtain ⟨f12, a13, g14⟩ := u10
  have hP : va_P D vwCl (mW K o r f12 a13 g14) H := hP
  have hD : va_D A (mW K o r f12 a13 g14) := hD
  refine k_top (z := (-6)) (hw9) ?_
  exact kI_ret (v := (-6)) hx hb hr hlocks rfl hK hS dX12_orders_19 (f12, a13, g14) hP hD rfl
set_option maxHeartbeats 4000000 in
set_option maxRecDepth 100000 in
theorem c_keeps3 (l : Launch) {D : va_G} {K : Nat → ClassId} (o : Nat) (r : Nat → Nat) (f : Nat → Int32) (a : Nat → Nat → Int32) (g : Nat → Int64) (h0 : a 2 102 = 0) (h1 : a 2 103 = 0) (h2 : a 2 22 = 0) (h3 : f 33 = 0)   : kV l yX12_keeps (Cond.code yX12_keeps cX12_keeps 4 none :: kG) (rmD 1 0 0) D (tysK K) [.ref o, .int 3] (mW K o r f a g) (fun (u : mS) => u.2.1 2 102 = 0 ∧ u.2.1 2 103 = 0 ∧ u.2.1 2 22 = 0) (fun u => mW K o r u.1 u.2.1 u.2.2) 0 0 := by
  refine kV.of (cc := cX12_keeps) (maxL := 4) (ret := none) (by decide) rfl (Nat.le_of_ble_eq_true rfl) ?_
  intro p e s m below meth c A hx hb hr hml hown hts hlocks hnm hK hP hD hS hA ls hl
  have hg : ∀ w ∈ kG, w.before _ s = true := fun w h => hts w (List.mem_cons_of_mem _ h)
  have hown : s.vm.findClass RX12 = some m.cls := hown
  have hl : lv_has ls 4 [(0, .ref o), (1, .int 3)] := hl
  refine lv_bipush (v := 24) hx hb dX12_keeps_0 (by decide) ?_
  refine lv_istore_n (lv' := [(2, .int 24), (0, .ref o), (1, .int 3)]) hx hb dX12_keeps_2 rfl hl (by decide) rfl (fun ls hl => ?_)
  refine lv_aload_n hx hb dX12_keeps_3 rfl (lv_at hl 1 rfl) ?_
  refine va_get (D := D) (ci := 12) (v := .int (f 33)) (C := RX12) (T := TX12) (N := 48) hx hb hg inC12 hown hK hP 0 rfl rfl 33 (by decide) (hg _ wt5_193) (fun _ h9 => h9) rfl dX12_keeps_4 ?_
  refine k_top (z := 0) h3 ?_
  refine lv_bipush (v := 16) hx hb dX12_keeps_7 (by decide) ?_
  refine lv_icmp_ne (tgt := 52) hx hb dX12_keeps_9 (by decide) (fun c1 => ?_) (fun c1 => absurd c1 (by decide +kernel))
  refine lv_iconst (v := 0) hx hb dX12_keeps_52 (by decide) ?_
  refine lv_istore_n (lv' := [(3, .int 0), (2, .int 24), (0, .ref o), (1, .int 3)]) hx hb dX12_keeps_53 rfl hl (by decide) rfl (fun ls hl => ?_)
  have lp2 : ∀ (n i : Nat) (F : Nat → Int32) (B : Nat → Nat → Int32) (G : Nat → Int64) (H : Heap) (locs : List Loc) (ls : Array Slot), i + n = 23 → B 2 102 = 0 → B 2 103 = 0 → B 2 22 = 0 → F 33 = 0 → va_P D vwCl (mW K o r F B G) H → va_D A (mW K o r F B G) → va_S A s.heap H locs → lv_has ls 4 [(3, .int (nI i)), (2, .int 24), (0, .ref o), (1, .int 3)] → W p l e (rmD 1 0 0) s m ([.ref o, .int 3] : List Value).toArray below meth c H locs 0 0 (kQv D (tysK K) (fun (u : mS) => u.2.1 2 102 = 0 ∧ u.2.1 2 103 = 0 ∧ u.2.1 2 22 = 0) (fun u => mW K o r u.1 u.2.1 u.2.2) A below ([.ref o, .int 3] : List Value).toArray s 0 0) (F0 m 54 ls []) := by
    intro n
    induction n with
    | zero =>
      intro i F B G H locs ls hin z0 z1 z2 z3 hP hD hS hl
      obtain rfl : 23 = i := by omega
      have hl : lv_has ls 4 [(3, .int 23), (2, .int 24), (0, .ref o), (1, .int 3)] := hl
      refine lv_iload_n hx hb dX12_keeps_54 rfl (lv_at hl 0 rfl) ?_
      refine lv_bipush (v := 23) hx hb dX12_keeps_55 (by decide) ?_
      refine lv_icmp_ge (tgt := 85) hx hb dX12_keeps_57 (by decide) (fun c3 => ?_) (fun c3 => absurd (by decide +kernel) c3)
      refine lv_aload_n hx hb dX12_keeps_85 rfl (lv_at hl 2 rfl) ?_
      refine va_get (D := D) (ci := 12) (v := .ref (r 31)) (C := RX12) (T := TX12) (N := 48) hx hb hg inC12 hown hK hP 0 rfl rfl 31 (by decide) (hg _ wt5_191) (fun _ h9 => h9) rfl dX12_keeps_86 ?_
      refine lv_iload_n hx hb dX12_keeps_89 rfl (lv_at hl 1 rfl) ?_
      refine lv_aload_n hx hb dX12_keeps_90 rfl (lv_at hl 2 rfl) ?_
      refine va_get (D := D) (ci := 12) (v := .int (F 33)) (C := RX12) (T := TX12) (N := 48) hx hb hg inC12 hown hK hP 0 rfl rfl 33 (by decide) (hg _ wt5_193) (fun _ h9 => h9) rfl dX12_keeps_91 ?_
      refine k_top (z := 0) z3 ?_
      refine lv_imul hx hb dX12_keeps_94 ?_
      refine k_top (z := 0) (by decide +kernel) ?_
      refine lv_bipush (v := 23) hx hb dX12_keeps_95 (by decide) ?_
      refine lv_iadd hx hb dX12_keeps_97 ?_
      refine k_top (z := 23) (by decide +kernel) ?_
      refine lv_iload_n hx hb dX12_keeps_98 rfl (lv_at hl 3 rfl) ?_
      refine va_iast hx hb hK hP hD hS 15 0 rfl rfl (k_in (by decide +kernel)) dX12_keeps_99 (fun H locs hP hD hS => ?_)
      rw [cl_23] at hP hD
      have hP : va_P D vwCl (mW K o r F (va_up B 31 (upd (B 31) 23 3)) G) H := hP
      have hD : va_D A (mW K o r F (va_up B 31 (upd (B 31) 23 3)) G) := hD
      generalize ea_4 : va_up B 31 (upd (B 31) 23 3) = a_4 at hP hD
      refine lv_aload_n hx hb dX12_keeps_100 rfl (lv_at hl 2 rfl) ?_
      refine lv_dup hx hb dX12_keeps_101 rfl ?_
      refine va_get (D := D) (ci := 12) (v := .int (F 33)) (C := RX12) (T := TX12) (N := 48) hx hb hg inC12 hown hK hP 0 rfl rfl 33 (by decide) (hg _ wt5_193) (fun _ h9 => h9) rfl dX12_keeps_102 ?_
      refine k_top (z := 0) z3 ?_
      refine lv_iconst (v := 1) hx hb dX12_keeps_105 (by decide) ?_
      refine lv_iadd hx hb dX12_keeps_106 ?_
      refine k_top (z := 1) (by decide +kernel) ?_
      refine va_put (D := D) (ci := 12) (v := .int 1) (ty := .int) (C := RX12) (T := TX12) (N := 48) hx hb hg inC12 tyX12 tyX12_ok nmX12 hown hK hP hD hS 0 rfl rfl 33 (by decide) (hg _ wt5_193) (fun _ h9 => h9) rfl (by decide +kernel) rfl rfl (Nat.le_of_ble_eq_true rfl) dX12_keeps_107 (fun H locs hP hD hS => ?_)
      have hP : va_P D vwCl (mW K o r (upd F 33 1) a_4 G) H := hP
      have hD : va_D A (mW K o r (upd F 33 1) a_4 G) := hD
      generalize ef_5 : upd F 33 1 = f_5 at hP hD
      exact kV_ret hx hb hr hlocks hK hS dX12_keeps_110 (f_5, a_4, G) hP hD ⟨((show a_4 2 102 = B 2 102 from by rw [← ea_4]; rfl).trans z0), ((show a_4 2 103 = B 2 103 from by rw [← ea_4]; rfl).trans z1), ((show a_4 2 22 = B 2 22 from by rw [← ea_4]; rfl).trans z2)⟩
    | succ n ih =>
      intro i F B G H locs ls hin z0 z1 z2 z3 hP hD hS hl
      have hlt : i < 23 := by omega
      refine lv_iload_n hx hb dX12_keeps_54 rfl (lv_at hl 0 rfl) ?_
      refine lv_bipush (v := 23) hx hb dX12_keeps_55 (by decide) ?_
      refine lv_icmp_ge (tgt := 85) hx hb dX12_keeps_57 (by decide) (fun c6 => absurd c6 (nI_ge (b := 23) hlt (by decide))) (fun c6 => ?_)
      refine lv_aload_n hx hb dX12_keeps_60 rfl (lv_at hl 2 rfl) ?_
      refine va_get (D := D) (ci := 12) (v := .ref (r 31)) (C := RX12) (T := TX12) (N := 48) hx hb hg inC12 hown hK hP 0 rfl rfl 31 (by decide) (hg _ wt5_191) (fun _ h9 => h9) rfl dX12_keeps_61 ?_
      refine lv_iload_n hx hb dX12_keeps_64 rfl (lv_at hl 1 rfl) ?_
      refine lv_aload_n hx hb dX12_keeps_65 rfl (lv_at hl 2 rfl) ?_
      refine va_get (D := D) (ci := 12) (v := .int (F 33)) (C := RX12) (T := TX12) (N := 48) hx hb hg inC12 hown hK hP 0 rfl rfl 33 (by decide) (hg _ wt5_193) (fun _ h9 => h9) rfl dX12_keeps_66 ?_
      refine k_top (z := 0) z3 ?_
      refine lv_imul hx hb dX12_keeps_69 ?_
      refine k_top (z := 0) (by decide +kernel) ?_
      refine lv_iload_n hx hb dX12_keeps_70 rfl (lv_at hl 0 rfl) ?_
      refine lv_iadd hx hb dX12_keeps_71 ?_
      refine k_top (z := nI (0 + i)) (nI_add 0 i) ?_
      refine lv_aload_n hx hb dX12_keeps_72 rfl (lv_at hl 2 rfl) ?_
      refine va_get (D := D) (ci := 12) (v := .ref (r 2)) (C := RX12) (T := TX12) (N := 48) hx hb hg inC12 hown hK hP 0 rfl rfl 2 (by decide) (hg _ wt5_162) (fun _ h9 => h9) rfl dX12_keeps_73 ?_
      refine lv_iload_n hx hb dX12_keeps_76 rfl (lv_at hl 0 rfl) ?_
      refine va_iald hx hb hK hP 2 0 rfl rfl (vp_in_nI (by omega) (by decide)) dX12_keeps_77 ?_
      refine lv_topi (fun t7 et7 => ?_)
      rw [nI_clamp (n := i) (by omega)] at et7
      refine va_iast hx hb hK hP hD hS 15 0 rfl rfl (vp_in_nI (by omega) (by decide)) dX12_keeps_78 (fun H locs hP hD hS => ?_)
      rw [nI_clamp (n := (0 + i)) (by omega)] at hP hD
      have hP : va_P D vwCl (mW K o r F (va_up B 31 (upd (B 31) (0 + i) t7)) G) H := hP
      have hD : va_D A (mW K o r F (va_up B 31 (upd (B 31) (0 + i) t7)) G) := hD
      generalize ea_8 : va_up B 31 (upd (B 31) (0 + i) t7) = a_8 at hP hD
      refine lv_iinc (v := nI (i + 1)) (lv' := [(3, .int (nI (i + 1))), (2, .int 24), (0, .ref o), (1, .int 3)]) hx hb dX12_keeps_79 hl (k := 0) rfl (nI_1 _) (by decide) rfl (fun ls hl => ?_)
      refine lv_goto (tgt := 54) hx hb dX12_keeps_82 (by decide) ?_
      exact ih (i + 1) F a_8 G _ _ _ (by omega) ((show a_8 2 102 = B 2 102 from by rw [← ea_8]; rfl).trans z0) ((show a_8 2 103 = B 2 103 from by rw [← ea_8]; rfl).trans z1) ((show a_8 2 22 = B 2 22 from by rw [← ea_8]; rfl).trans z2) z3 hP hD hS (lv_sub hl [0, 1, 2, 3] rfl)
  exact lp2 (23 - 0) 0 f a g _ _ _ (by omega) h0 h1 h2 h3 hP hD hS hl
set_option maxHeartbeats 4000000 in
set_option maxRecDepth 100000 in
theorem c_ticks (l : Launch) {D : va_G} {K : Nat → ClassId} (o : Nat) (r : Nat → Nat) (f : Nat → Int32) (a : Nat → Nat → Int32) (g : Nat → Int64) (h0 : a 2 102 = 0) (h1 : a 2 103 = 0) (h2 : a 2 104 = 0) (h3 : a 2 99 = 30) (h4 : a 2 100 = 2)   : kI l yX12_ticks (Cond.code yX12_ticks cX12_ticks 5 (some .int) :: kG) (rmD 2 0 0) D (tysK K) [.ref o, .int 0] (mW K o r f a g) (fun v (u : mS) => v = 0 ∧ u.2.1 2 102 = 0 ∧ u.2.1 2 103 = 0 ∧ u.2.1 2 104 = 0 ∧ u.2.1 2 99 = 30 ∧ u.2.1 2 100 = 2) (fun u => mW K o r u.1 u.2.1 u.2.2) 0 0 := by
  refine kI.of (cc := cX12_ticks) (maxL := 5) (ret := (some .int)) (by decide) rfl (Nat.le_of_ble_eq_true rfl) ?_
  intro p e s m below meth c A hx hb hr hml hown hts hlocks hnm hK hP hD hS hA ls hl
  have hg : ∀ w ∈ kG, w.before _ s = true := fun w h => hts w (List.mem_cons_of_mem _ h)
  have hown : s.vm.findClass RX12 = some m.cls := hown
  have hl : lv_has ls 5 [(0, .ref o), (1, .int 0)] := hl
  refine lv_aload_n hx hb dX12_ticks_0 rfl (lv_at hl 0 rfl) ?_
  refine kI.callV (As := []) (rest := []) ⟨hx, hb, hml, hown, hg⟩ (c_standing l o r f a g h0 ) (cwV 0 hg (kgV wt6_116 wt6_118 wp3_13 wt1_14 wt6_119) rfl rfl rfl (by decide +kernel) ⟨by decide, by decide⟩) hK hP hD hS hA mIs [] rfl (wr := []) rfl rfl rfl (fun i h => by cases h) 0 12 rfl rfl rfl hl.1 rfl (Nat.le_of_ble_eq_true rfl) dX12_ticks_1 ⟨by decide, by decide⟩ (fun v3 u2 H locs hw1 hP hD hS => ?_)
  have hP : va_P D vwCl (mW K o r f a g) H := hP
  have hD : va_D A (mW K o r f a g) := hD
  refine k_top (z := 0) (hw1) ?_
  refine lv_istore_n (lv' := [(2, .int 0), (0, .ref o), (1, .int 0)]) hx hb dX12_ticks_4 rfl hl (by decide) rfl (fun ls hl => ?_)
  refine lv_iconst (v := 0) hx hb dX12_ticks_5 (by decide) ?_
  refine lv_istore_n (lv' := [(3, .int 0), (2, .int 0), (0, .ref o), (1, .int 0)]) hx hb dX12_ticks_6 rfl hl (by decide) rfl (fun ls hl => ?_)
  refine lv_iload_n hx hb dX12_ticks_7 rfl (lv_at hl 0 rfl) ?_
  refine lv_aload_n hx hb dX12_ticks_8 rfl (lv_at hl 2 rfl) ?_
  refine va_get (D := D) (ci := 12) (v := .ref (r 2)) (C := RX12) (T := TX12) (N := 48) hx hb hg inC12 hown hK hP 0 rfl rfl 2 (by decide) (hg _ wt5_162) (fun _ h9 => h9) rfl dX12_ticks_9 ?_
  refine lv_bipush (v := 103) hx hb dX12_ticks_12 (by decide) ?_
  refine va_iald hx hb hK hP 2 0 rfl rfl (k_in (by decide +kernel)) dX12_ticks_14 ?_
  refine k_top (z := 0) (by rw [cl_103]; exact h1) ?_
  refine lv_icmp_ge (tgt := 111) hx hb dX12_ticks_15 (by decide) (fun c4 => ?_) (fun c4 => absurd (by decide +kernel) c4)
  refine lv_iconst (v := 0) hx hb dX12_ticks_111 (by decide) ?_
  refine lv_istore_n (lv' := [(3, .int 0), (2, .int 0), (0, .ref o), (1, .int 0)]) hx hb dX12_ticks_112 rfl hl (by decide) rfl (fun ls hl => ?_)
  refine lv_iload_n hx hb dX12_ticks_113 rfl (lv_at hl 0 rfl) ?_
  refine lv_aload_n hx hb dX12_ticks_114 rfl (lv_at hl 2 rfl) ?_
  refine va_get (D := D) (ci := 12) (v := .ref (r 2)) (C := RX12) (T := TX12) (N := 48) hx hb hg inC12 hown hK hP 0 rfl rfl 2 (by decide) (hg _ wt5_162) (fun _ h9 => h9) rfl dX12_ticks_115 ?_
  refine lv_bipush (v := 103) hx hb dX12_ticks_118 (by decide) ?_
  refine va_iald hx hb hK hP 2 0 rfl rfl (k_in (by decide +kernel)) dX12_ticks_120 ?_
  refine k_top (z := 0) (by rw [cl_103]; exact h1) ?_
  refine lv_icmp_ge (tgt := 221) hx hb dX12_ticks_121 (by decide) (fun c5 => ?_) (fun c5 => absurd (by decide +kernel) c5)
  refine lv_iconst (v := 0) hx hb dX12_ticks_221 (by decide) ?_
  refine lv_istore_n (lv' := [(3, .int 0), (2, .int 0), (0, .ref o), (1, .int 0)]) hx hb dX12_ticks_222 rfl hl (by decide) rfl (fun ls hl => ?_)
  refine lv_iload_n hx hb dX12_ticks_223 rfl (lv_at hl 0 rfl) ?_
  refine lv_aload_n hx hb dX12_ticks_224 rfl (lv_at hl 2 rfl) ?_
  refine va_get (D := D) (ci := 12) (v := .ref (r 2)) (C := RX12) (T := TX12) (N := 48) hx hb hg inC12 hown hK hP 0 rfl rfl 2 (by decide) (hg _ wt5_162) (fun _ h9 => h9) rfl dX12_ticks_225 ?_
  refine lv_bipush (v := 103) hx hb dX12_ticks_228 (by decide) ?_
  refine va_iald hx hb hK hP 2 0 rfl rfl (k_in (by decide +kernel)) dX12_ticks_230 ?_
  refine k_top (z := 0) (by rw [cl_103]; exact h1) ?_
  refine lv_icmp_ge (tgt := 279) hx hb dX12_ticks_231 (by decide) (fun c6 => ?_) (fun c6 => absurd (by decide +kernel) c6)
  refine lv_aload_n hx hb dX12_ticks_279 rfl (lv_at hl 2 rfl) ?_
  refine va_get (D := D) (ci := 12) (v := .ref (r 2)) (C := RX12) (T := TX12) (N := 48) hx hb hg inC12 hown hK hP 0 rfl rfl 2 (by decide) (hg _ wt5_162) (fun _ h9 => h9) rfl dX12_ticks_280 ?_
  refine lv_bipush (v := 22) hx hb dX12_ticks_283 (by decide) ?_
  refine lv_dup2_11 hx hb dX12_ticks_285 rfl rfl ?_
  refine va_iald hx hb hK hP 2 0 rfl rfl (k_in (by decide +kernel)) dX12_ticks_286 ?_
  refine lv_topi (fun t7 et7 => ?_)
  rw [cl_22] at et7
  refine lv_iconst (v := 1) hx hb dX12_ticks_287 (by decide) ?_
  refine lv_iadd hx hb dX12_ticks_288 ?_
  refine lv_topi (fun t8 et8 => ?_)
  refine va_iast hx hb hK hP hD hS 2 0 rfl rfl (k_in (by decide +kernel)) dX12_ticks_289 (fun H locs hP hD hS => ?_)
  rw [cl_22] at hP hD
  have hP : va_P D vwCl (mW K o r f (va_up a 2 (upd (a 2) 22 t8)) g) H := hP
  have hD : va_D A (mW K o r f (va_up a 2 (upd (a 2) 22 t8)) g) := hD
  generalize ea_9 : va_up a 2 (upd (a 2) 22 t8) = a_9 at hP hD
  refine lv_aload_n hx hb dX12_ticks_290 rfl (lv_at hl 2 rfl) ?_
  refine kI.callV (As := []) (rest := []) ⟨hx, hb, hml, hown, hg⟩ (c_standing l o r f a_9 g ((show a_9 2 102 = a 2 102 from by rw [← ea_9]; rfl).trans h0) ) (cwV 0 hg (kgV wt6_116 wt6_118 wp3_13 wt1_14 wt6_119) rfl rfl rfl (by decide +kernel) ⟨by decide, by decide⟩) hK hP hD hS hA mIs [] rfl (wr := []) rfl rfl rfl (fun i h => by cases h) 0 12 rfl rfl rfl hl.1 rfl (Nat.le_of_ble_eq_true rfl) dX12_ticks_291 ⟨by decide, by decide⟩ (fun v12 u11 H locs hw10 hP hD hS => ?_)
  have hP : va_P D vwCl (mW K o r f a_9 g) H := hP
  have hD : va_D A (mW K o r f a_9 g) := hD
  refine k_top (z := 0) (hw10) ?_
  refine lv_iload_n hx hb dX12_ticks_294 rfl (lv_at hl 1 rfl) ?_
  refine lv_iconst (v := (-1)) hx hb dX12_ticks_295 (by decide) ?_
  refine lv_ixor hx hb dX12_ticks_296 ?_
  refine k_top (z := (-1)) (by decide +kernel) ?_
  refine lv_iand hx hb dX12_ticks_297 ?_
  refine k_top (z := 0) (by decide +kernel) ?_
  refine kN.callS (As := [.int 0]) (rest := []) ⟨hx, hb, hml, hown, hg⟩ (c_ones0 l ) (va_cwS 1 hg (kgS wt7_71 wt7_72 wt1_14 wt7_73) rfl rfl rfl (by decide +kernel) ⟨by decide, by decide⟩) hP hS rfl hl.1 rfl (Nat.le_of_ble_eq_true rfl) dX12_ticks_298 ⟨by decide, by decide⟩ (fun v14 H locs hw13 hP hS => ?_)
  refine k_top (z := 0) (hw13) ?_
  exact kI_ret (v := 0) hx hb hr hlocks rfl hK hS dX12_ticks_301 (f, a_9, g) hP hD ⟨rfl, ((show a_9 2 102 = a 2 102 from by rw [← ea_9]; rfl).trans h0), ((show a_9 2 103 = a 2 103 from by rw [← ea_9]; rfl).trans h1), ((show a_9 2 104 = a 2 104 from by rw [← ea_9]; rfl).trans h2), ((show a_9 2 99 = a 2 99 from by rw [← ea_9]; rfl).trans h3), ((show a_9 2 100 = a 2 100 from by rw [← ea_9]; rfl).trans h4)⟩
set_option maxHeartbeats 4000000 in
set_option maxRecDepth 100000 in
theorem c_ticks1 (l : Launch) {D : va_G} {K : Nat → ClassId} (o : Nat) (r : Nat → Nat) (f : Nat → Int32) (a : Nat → Nat → Int32) (g : Nat → Int64) (h0 : a 2 102 = 0) (h1 : a 2 103 = 0)   : kI l yX12_ticks (Cond.code yX12_ticks cX12_ticks 5 (some .int) :: kG) (rmD 2 0 0) D (tysK K) [.ref o, .int 0] (mW K o r f a g) (fun v (u : mS) => v = 0 ∧ u.2.1 2 102 = 0 ∧ u.2.1 2 103 = 0) (fun u => mW K o r u.1 u.2.1 u.2.2) 0 0 := by
  refine kI.of (cc := cX12_ticks) (maxL := 5) (ret := (some .int)) (by decide) rfl (Nat.le_of_ble_eq_true rfl) ?_
  intro p e s m below meth c A hx hb hr hml hown hts hlocks hnm hK hP hD hS hA ls hl
  have hg : ∀ w ∈ kG, w.before _ s = true := fun w h => hts w (List.mem_cons_of_mem _ h)
  have hown : s.vm.findClass RX12 = some m.cls := hown
  have hl : lv_has ls 5 [(0, .ref o), (1, .int 0)] := hl
  refine lv_aload_n hx hb dX12_ticks_0 rfl (lv_at hl 0 rfl) ?_
  refine kI.callV (As := []) (rest := []) ⟨hx, hb, hml, hown, hg⟩ (c_standing l o r f a g h0 ) (cwV 0 hg (kgV wt6_116 wt6_118 wp3_13 wt1_14 wt6_119) rfl rfl rfl (by decide +kernel) ⟨by decide, by decide⟩) hK hP hD hS hA mIs [] rfl (wr := []) rfl rfl rfl (fun i h => by cases h) 0 12 rfl rfl rfl hl.1 rfl (Nat.le_of_ble_eq_true rfl) dX12_ticks_1 ⟨by decide, by decide⟩ (fun v3 u2 H locs hw1 hP hD hS => ?_)
  have hP : va_P D vwCl (mW K o r f a g) H := hP
  have hD : va_D A (mW K o r f a g) := hD
  refine k_top (z := 0) (hw1) ?_
  refine lv_istore_n (lv' := [(2, .int 0), (0, .ref o), (1, .int 0)]) hx hb dX12_ticks_4 rfl hl (by decide) rfl (fun ls hl => ?_)
  refine lv_iconst (v := 0) hx hb dX12_ticks_5 (by decide) ?_
  refine lv_istore_n (lv' := [(3, .int 0), (2, .int 0), (0, .ref o), (1, .int 0)]) hx hb dX12_ticks_6 rfl hl (by decide) rfl (fun ls hl => ?_)
  refine lv_iload_n hx hb dX12_ticks_7 rfl (lv_at hl 0 rfl) ?_
  refine lv_aload_n hx hb dX12_ticks_8 rfl (lv_at hl 2 rfl) ?_
  refine va_get (D := D) (ci := 12) (v := .ref (r 2)) (C := RX12) (T := TX12) (N := 48) hx hb hg inC12 hown hK hP 0 rfl rfl 2 (by decide) (hg _ wt5_162) (fun _ h9 => h9) rfl dX12_ticks_9 ?_
  refine lv_bipush (v := 103) hx hb dX12_ticks_12 (by decide) ?_
  refine va_iald hx hb hK hP 2 0 rfl rfl (k_in (by decide +kernel)) dX12_ticks_14 ?_
  refine k_top (z := 0) (by rw [cl_103]; exact h1) ?_
  refine lv_icmp_ge (tgt := 111) hx hb dX12_ticks_15 (by decide) (fun c4 => ?_) (fun c4 => absurd (by decide +kernel) c4)
  refine lv_iconst (v := 0) hx hb dX12_ticks_111 (by decide) ?_
  refine lv_istore_n (lv' := [(3, .int 0), (2, .int 0), (0, .ref o), (1, .int 0)]) hx hb dX12_ticks_112 rfl hl (by decide) rfl (fun ls hl => ?_)
  refine lv_iload_n hx hb dX12_ticks_113 rfl (lv_at hl 0 rfl) ?_
  refine lv_aload_n hx hb dX12_ticks_114 rfl (lv_at hl 2 rfl) ?_
  refine va_get (D := D) (ci := 12) (v := .ref (r 2)) (C := RX12) (T := TX12) (N := 48) hx hb hg inC12 hown hK hP 0 rfl rfl 2 (by decide) (hg _ wt5_162) (fun _ h9 => h9) rfl dX12_ticks_115 ?_
  refine lv_bipush (v := 103) hx hb dX12_ticks_118 (by decide) ?_
  refine va_iald hx hb hK hP 2 0 rfl rfl (k_in (by decide +kernel)) dX12_ticks_120 ?_
  refine k_top (z := 0) (by rw [cl_103]; exact h1) ?_
  refine lv_icmp_ge (tgt := 221) hx hb dX12_ticks_121 (by decide) (fun c5 => ?_) (fun c5 => absurd (by decide +kernel) c5)
  refine lv_iconst (v := 0) hx hb dX12_ticks_221 (by decide) ?_
  refine lv_istore_n (lv' := [(3, .int 0), (2, .int 0), (0, .ref o), (1, .int 0)]) hx hb dX12_ticks_222 rfl hl (by decide) rfl (fun ls hl => ?_)
  refine lv_iload_n hx hb dX12_ticks_223 rfl (lv_at hl 0 rfl) ?_
  refine lv_aload_n hx hb dX12_ticks_224 rfl (lv_at hl 2 rfl) ?_
  refine va_get (D := D) (ci := 12) (v := .ref (r 2)) (C := RX12) (T := TX12) (N := 48) hx hb hg inC12 hown hK hP 0 rfl rfl 2 (by decide) (hg _ wt5_162) (fun _ h9 => h9) rfl dX12_ticks_225 ?_
  refine lv_bipush (v := 103) hx hb dX12_ticks_228 (by decide) ?_
  refine va_iald hx hb hK hP 2 0 rfl rfl (k_in (by decide +kernel)) dX12_ticks_230 ?_
  refine k_top (z := 0) (by rw [cl_103]; exact h1) ?_
  refine lv_icmp_ge (tgt := 279) hx hb dX12_ticks_231 (by decide) (fun c6 => ?_) (fun c6 => absurd (by decide +kernel) c6)
  refine lv_aload_n hx hb dX12_ticks_279 rfl (lv_at hl 2 rfl) ?_
  refine va_get (D := D) (ci := 12) (v := .ref (r 2)) (C := RX12) (T := TX12) (N := 48) hx hb hg inC12 hown hK hP 0 rfl rfl 2 (by decide) (hg _ wt5_162) (fun _ h9 => h9) rfl dX12_ticks_280 ?_
  refine lv_bipush (v := 22) hx hb dX12_ticks_283 (by decide) ?_
  refine lv_dup2_11 hx hb dX12_ticks_285 rfl rfl ?_
  refine va_iald hx hb hK hP 2 0 rfl rfl (k_in (by decide +kernel)) dX12_ticks_286 ?_
  refine lv_topi (fun t7 et7 => ?_)
  rw [cl_22] at et7
  refine lv_iconst (v := 1) hx hb dX12_ticks_287 (by decide) ?_
  refine lv_iadd hx hb dX12_ticks_288 ?_
  refine lv_topi (fun t8 et8 => ?_)
  refine va_iast hx hb hK hP hD hS 2 0 rfl rfl (k_in (by decide +kernel)) dX12_ticks_289 (fun H locs hP hD hS => ?_)
  rw [cl_22] at hP hD
  have hP : va_P D vwCl (mW K o r f (va_up a 2 (upd (a 2) 22 t8)) g) H := hP
  have hD : va_D A (mW K o r f (va_up a 2 (upd (a 2) 22 t8)) g) := hD
  generalize ea_9 : va_up a 2 (upd (a 2) 22 t8) = a_9 at hP hD
  refine lv_aload_n hx hb dX12_ticks_290 rfl (lv_at hl 2 rfl) ?_
  refine kI.callV (As := []) (rest := []) ⟨hx, hb, hml, hown, hg⟩ (c_standing l o r f a_9 g ((show a_9 2 102 = a 2 102 from by rw [← ea_9]; rfl).trans h0) ) (cwV 0 hg (kgV wt6_116 wt6_118 wp3_13 wt1_14 wt6_119) rfl rfl rfl (by decide +kernel) ⟨by decide, by decide⟩) hK hP hD hS hA mIs [] rfl (wr := []) rfl rfl rfl (fun i h => by cases h) 0 12 rfl rfl rfl hl.1 rfl (Nat.le_of_ble_eq_true rfl) dX12_ticks_291 ⟨by decide, by decide⟩ (fun v12 u11 H locs hw10 hP hD hS => ?_)
  have hP : va_P D vwCl (mW K o r f a_9 g) H := hP
  have hD : va_D A (mW K o r f a_9 g) := hD
  refine k_top (z := 0) (hw10) ?_
  refine lv_iload_n hx hb dX12_ticks_294 rfl (lv_at hl 1 rfl) ?_
  refine lv_iconst (v := (-1)) hx hb dX12_ticks_295 (by decide) ?_
  refine lv_ixor hx hb dX12_ticks_296 ?_
  refine k_top (z := (-1)) (by decide +kernel) ?_
  refine lv_iand hx hb dX12_ticks_297 ?_
  refine k_top (z := 0) (by decide +kernel) ?_
  refine kN.callS (As := [.int 0]) (rest := []) ⟨hx, hb, hml, hown, hg⟩ (c_ones0 l ) (va_cwS 1 hg (kgS wt7_71 wt7_72 wt1_14 wt7_73) rfl rfl rfl (by decide +kernel) ⟨by decide, by decide⟩) hP hS rfl hl.1 rfl (Nat.le_of_ble_eq_true rfl) dX12_ticks_298 ⟨by decide, by decide⟩ (fun v14 H locs hw13 hP hS => ?_)
  refine k_top (z := 0) (hw13) ?_
  exact kI_ret (v := 0) hx hb hr hlocks rfl hK hS dX12_ticks_301 (f, a_9, g) hP hD ⟨rfl, ((show a_9 2 102 = a 2 102 from by rw [← ea_9]; rfl).trans h0), ((show a_9 2 103 = a 2 103 from by rw [← ea_9]; rfl).trans h1)⟩
set_option maxHeartbeats 4000000 in
set_option maxRecDepth 100000 in
theorem c_ticksKept (l : Launch) {D : va_G} {K : Nat → ClassId} (o : Nat) (r : Nat → Nat) (f : Nat → Int32) (a : Nat → Nat → Int32) (g : Nat → Int64) (h0 : a 2 102 = 0) (h1 : a 2 103 = 0) (h2 : a 2 22 = 0) (h3 : f 33 = 0)   : kI l yX12_ticksKept (Cond.code yX12_ticksKept cX12_ticksKept 1 (some .int) :: kG) (rmD 3 0 0) D (tysK K) [.ref o] (mW K o r f a g) (fun v (u : mS) => v = 0) (fun u => mW K o r u.1 u.2.1 u.2.2) 0 0 := by
  refine kI.of (cc := cX12_ticksKept) (maxL := 1) (ret := (some .int)) (by decide) rfl (Nat.le_of_ble_eq_true rfl) ?_
  intro p e s m below meth c A hx hb hr hml hown hts hlocks hnm hK hP hD hS hA ls hl
  have hg : ∀ w ∈ kG, w.before _ s = true := fun w h => hts w (List.mem_cons_of_mem _ h)
  have hown : s.vm.findClass RX12 = some m.cls := hown
  have hl : lv_has ls 1 [(0, .ref o)] := hl
  refine lv_aload_n hx hb dX12_ticksKept_0 rfl (lv_at hl 0 rfl) ?_
  refine va_get (D := D) (ci := 12) (v := .ref (r 2)) (C := RX12) (T := TX12) (N := 48) hx hb hg inC12 hown hK hP 0 rfl rfl 2 (by decide) (hg _ wt5_162) (fun _ h9 => h9) rfl dX12_ticksKept_1 ?_
  refine lv_bipush (v := 22) hx hb dX12_ticksKept_4 (by decide) ?_
  refine va_iald hx hb hK hP 2 0 rfl rfl (k_in (by decide +kernel)) dX12_ticksKept_6 ?_
  refine k_top (z := 0) (by rw [cl_22]; exact h2) ?_
  refine lv_sipush (v := 999) hx hb dX12_ticksKept_7 (by decide) ?_
  refine lv_icmp_ne (tgt := 16) hx hb dX12_ticksKept_10 (by decide) (fun c1 => ?_) (fun c1 => absurd c1 (by decide +kernel))
  refine lv_aload_n hx hb dX12_ticksKept_16 rfl (lv_at hl 0 rfl) ?_
  refine lv_iconst (v := 3) hx hb dX12_ticksKept_17 (by decide) ?_
  refine kV.callV (As := [.int 3]) (rest := []) ⟨hx, hb, hml, hown, hg⟩ (c_keeps3 l o r f a g h0 h1 h2 h3 ) (cwV 1 hg (kgV wt7_124 wt7_126 wp6_7 wt1_14 wt7_127) rfl rfl rfl (by decide +kernel) ⟨by decide, by decide⟩) hK hP hD hS hA mIs [] rfl (wr := []) rfl rfl rfl (fun i h => by cases h) 0 12 rfl rfl rfl hl.1 rfl (Nat.le_of_ble_eq_true rfl) dX12_ticksKept_18 ⟨by decide, by decide⟩ (fun u3 H locs hw2 hP hD hS => ?_)
  obtain ⟨f5, a6, g7⟩ := u3
  have hP : va_P D vwCl (mW K o r f5 a6 g7) H := hP
  have hD : va_D A (mW K o r f5 a6 g7) := hD
  refine lv_aload_n hx hb dX12_ticksKept_21 rfl (lv_at hl 0 rfl) ?_
  refine lv_aload_n hx hb dX12_ticksKept_22 rfl (lv_at hl 0 rfl) ?_
  refine kI.callV (As := []) (rest := [.ref o]) ⟨hx, hb, hml, hown, hg⟩ (c_allBuilders l o r f5 a6 g7 hw2.2.1 ) (cwV 0 hg (kgV wt7_164 wt7_166 wp6_14 wt1_14 wt7_167) rfl rfl rfl (by decide +kernel) ⟨by decide, by decide⟩) hK hP hD hS hA mIs [] rfl (wr := []) rfl rfl rfl (fun i h => by cases h) 0 12 rfl rfl rfl hl.1 rfl (Nat.le_of_ble_eq_true rfl) dX12_ticksKept_23 ⟨by decide, by decide⟩ (fun v10 u9 H locs hw8 hP hD hS => ?_)
  have hP : va_P D vwCl (mW K o r f5 a6 g7) H := hP
  have hD : va_D A (mW K o r f5 a6 g7) := hD
  refine k_top (z := 0) (hw8) ?_
  refine kI.callV (As := [.int 0]) (rest := []) ⟨hx, hb, hml, hown, hg⟩ (c_ticks1 l o r f5 a6 g7 hw2.1 hw2.2.1 ) (cwV 1 hg (kgV wt7_168 wt7_170 wp6_15 wt1_14 wt7_171) rfl rfl rfl (by decide +kernel) ⟨by decide, by decide⟩) hK hP hD hS hA mIs [] rfl (wr := []) rfl rfl rfl (fun i h => by cases h) 0 12 rfl rfl rfl hl.1 rfl (Nat.le_of_ble_eq_true rfl) dX12_ticksKept_26 ⟨by decide, by decide⟩ (fun v13 u12 H locs hw11 hP hD hS => ?_)
  obtain ⟨f14, a15, g16⟩ := u12
  have hP : va_P D vwCl (mW K o r f14 a15 g16) H := hP
  have hD : va_D A (mW K o r f14 a15 g16) := hD
  refine k_top (z := 0) (hw11.1) ?_
  exact kI_ret (v := 0) hx hb hr hlocks rfl hK hS dX12_ticksKept_29 (f14, a15, g16) hP hD rfl
set_option maxHeartbeats 4000000 in
set_option maxRecDepth 100000 in
theorem c_tick (l : Launch) {D : va_G} {K : Nat → ClassId} (o : Nat) (r : Nat → Nat) (f : Nat → Int32) (a : Nat → Nat → Int32) (g : Nat → Int64) (h0 : a 2 102 = 0) (h1 : a 2 103 = 0) (h2 : a 2 22 = 0) (h3 : f 33 = 0)   : kI l yX12_tick (Cond.code yX12_tick cX12_tick 1 (some .int) :: kG) (rmD 4 0 0) D (tysK K) [.ref o] (mW K o r f a g) (fun v (u : mS) => v = 0) (fun u => mW K o r u.1 u.2.1 u.2.2) 0 0 := by
  refine kI.of (cc := cX12_tick) (maxL := 1) (ret := (some .int)) (by decide) rfl (Nat.le_of_ble_eq_true rfl) ?_
  intro p e s m below meth c A hx hb hr hml hown hts hlocks hnm hK hP hD hS hA ls hl
  have hg : ∀ w ∈ kG, w.before _ s = true := fun w h => hts w (List.mem_cons_of_mem _ h)
  have hown : s.vm.findClass RX12 = some m.cls := hown
  have hl : lv_has ls 1 [(0, .ref o)] := hl
  refine lv_aload_n hx hb dX12_tick_0 rfl (lv_at hl 0 rfl) ?_
  refine lv_aload_n hx hb dX12_tick_1 rfl (lv_at hl 0 rfl) ?_
  refine kI.callV (As := []) (rest := [.ref o]) ⟨hx, hb, hml, hown, hg⟩ (c_ticksKept l o r f a g h0 h1 h2 h3 ) (cwV 0 hg (kgV wt7_160 wt7_162 wp6_13 wt1_14 wt7_163) rfl rfl rfl (by decide +kernel) ⟨by decide, by decide⟩) hK hP hD hS hA mIs [] rfl (wr := []) rfl rfl rfl (fun i h => by cases h) 0 12 rfl rfl rfl hl.1 rfl (Nat.le_of_ble_eq_true rfl) dX12_tick_2 ⟨by decide, by decide⟩ (fun v3 u2 H locs hw1 hP hD hS => ?_)
  obtain ⟨f4, a5, g6⟩ := u2
  have hP : va_P D vwCl (mW K o r f4 a5 g6) H := hP
  have hD : va_D A (mW K o r f4 a5 g6) := hD
  refine k_top (z := 0) (hw1) ?_
  refine kI.callV (As := [.int 0]) (rest := []) ⟨hx, hb, hml, hown, hg⟩ (c_goodOr0 l o r f4 a5 g6  ) (cwV 1 hg (kgV wt7_128 wt7_130 wp6_8 wt1_14 wt7_131) rfl rfl rfl (by decide +kernel) ⟨by decide, by decide⟩) hK hP hD hS hA mIs [] rfl (wr := []) rfl rfl rfl (fun i h => by cases h) 0 12 rfl rfl rfl hl.1 rfl (Nat.le_of_ble_eq_true rfl) dX12_tick_5 ⟨by decide, by decide⟩ (fun v9 u8 H locs hw7 hP hD hS => ?_)
  obtain ⟨f10, a11, g12⟩ := u8
  have hP : va_P D vwCl (mW K o r f10 a11 g12) H := hP
  have hD : va_D A (mW K o r f10 a11 g12) := hD
  refine k_top (z := 0) (hw7) ?_
  exact kI_ret (v := 0) hx hb hr hlocks rfl hK hS dX12_tick_8 (f10, a11, g12) hP hD rfl
set_option maxHeartbeats 4000000 in
set_option maxRecDepth 100000 in
theorem c_rows (l : Launch) {D : va_G} {K : Nat → ClassId} (o : Nat) (r : Nat → Nat) (f : Nat → Int32) (a : Nat → Nat → Int32) (g : Nat → Int64) (h0 : a 2 102 = 0) (x : Int32) (y : Int32)  : kI l yX12_rows (Cond.code yX12_rows cX12_rows 7 (some .int) :: kG) (rmD 3 0 0) D (tysK K) [.ref o, .int x, .int y] (mW K o r f a g) (fun v (u : mS) => v = (if x < (-1) then (-1 : Int32) else if x = (-1) then 1 else -1)) (fun u => mW K o r u.1 u.2.1 u.2.2) 0 0 := by
  refine kI.of (cc := cX12_rows) (maxL := 7) (ret := (some .int)) (by decide) rfl (Nat.le_of_ble_eq_true rfl) ?_
  intro p e s m below meth c A hx hb hr hml hown hts hlocks hnm hK hP hD hS hA ls hl
  have hg : ∀ w ∈ kG, w.before _ s = true := fun w h => hts w (List.mem_cons_of_mem _ h)
  have hown : s.vm.findClass RX12 = some m.cls := hown
  have hl : lv_has ls 7 [(0, .ref o), (1, .int x), (2, .int y)] := hl
  refine lv_iload_n hx hb dX12_rows_0 rfl (lv_at hl 1 rfl) ?_
  refine lv_iconst (v := (-1)) hx hb dX12_rows_1 (by decide) ?_
  refine lv_icmp_ge (tgt := 7) hx hb dX12_rows_2 (by decide) (fun c1 => ?_) (fun c1 => ?_)
  · refine lv_aload_n hx hb dX12_rows_7 rfl (lv_at hl 0 rfl) ?_
    refine kV.callV (As := []) (rest := []) ⟨hx, hb, hml, hown, hg⟩ (c_laysOrders l o r f a g h0 ) (cwV 0 hg (kgV wt7_183 wt7_185 wp7_0 wt1_14 wt7_186) rfl rfl rfl (by decide +kernel) ⟨by decide, by decide⟩) hK hP hD hS hA mIs [] rfl (wr := []) rfl rfl rfl (fun i h => by cases h) 0 12 rfl rfl rfl hl.1 rfl (Nat.le_of_ble_eq_true rfl) dX12_rows_8 ⟨by decide, by decide⟩ (fun u3 H locs hw2 hP hD hS => ?_)
    obtain ⟨f5, a6, g7⟩ := u3
    have hP : va_P D vwCl (mW K o r f5 a6 g7) H := hP
    have hD : va_D A (mW K o r f5 a6 g7) := hD
    refine lv_aload_n hx hb dX12_rows_11 rfl (lv_at hl 0 rfl) ?_
    refine kI.callV (As := []) (rest := []) ⟨hx, hb, hml, hown, hg⟩ (c_standing l o r f5 a6 g7 hw2.1 ) (cwV 0 hg (kgV wt6_116 wt6_118 wp3_13 wt1_14 wt6_119) rfl rfl rfl (by decide +kernel) ⟨by decide, by decide⟩) hK hP hD hS hA mIs [] rfl (wr := []) rfl rfl rfl (fun i h => by cases h) 0 12 rfl rfl rfl hl.1 rfl (Nat.le_of_ble_eq_true rfl) dX12_rows_12 ⟨by decide, by decide⟩ (fun v10 u9 H locs hw8 hP hD hS => ?_)
    have hP : va_P D vwCl (mW K o r f5 a6 g7) H := hP
    have hD : va_D A (mW K o r f5 a6 g7) := hD
    refine k_top (z := 0) (hw8) ?_
    refine lv_istore_n (lv' := [(3, .int 0), (0, .ref o), (1, .int x), (2, .int y)]) hx hb dX12_rows_15 rfl hl (by decide) rfl (fun ls hl => ?_)
    refine lv_iload_n hx hb dX12_rows_16 rfl (lv_at hl 2 rfl) ?_
    refine lv_iconst (v := (-1)) hx hb dX12_rows_17 (by decide) ?_
    refine lv_icmp_ne (tgt := 28) hx hb dX12_rows_18 (by decide) (fun c11 => ?_) (fun c11 => ?_)
    · refine lv_iload_n hx hb dX12_rows_28 rfl (lv_at hl 2 rfl) ?_
      refine lv_istore (lv' := [(4, .int x), (3, .int 0), (0, .ref o), (1, .int x), (2, .int y)]) hx hb dX12_rows_29 hl (by decide) rfl (fun ls hl => ?_)
      refine lv_iload_n hx hb dX12_rows_31 rfl (lv_at hl 3 rfl) ?_
      refine lv_aload_n hx hb dX12_rows_32 rfl (lv_at hl 2 rfl) ?_
      refine va_get (D := D) (ci := 12) (v := .ref (r 35)) (C := RX12) (T := TX12) (N := 48) hx hb hg inC12 hown hK hP 0 rfl rfl 35 (by decide) (hg _ wt5_195) (fun _ h9 => h9) rfl dX12_rows_33 ?_
      refine lv_iload_n hx hb dX12_rows_36 rfl (lv_at hl 1 rfl) ?_
      refine va_iald hx hb hK hP 18 0 rfl rfl (k_in (by decide +kernel)) dX12_rows_37 ?_
      refine k_top (z := 1) (by rw [cl_0]; exact hw2.2) ?_
      refine lv_icmp_ge (tgt := 63) hx hb dX12_rows_38 (by decide) (fun c12 => ?_) (fun c12 => ?_)
      · refine lv_iconst (v := (-1)) hx hb dX12_rows_63 (by decide) ?_
        exact kI_ret (v := (-1)) hx hb hr hlocks rfl hK hS dX12_rows_64 (f5, a6, g7) hP hD (by simp [c1, c11, c12])
      · refine lv_iload_n hx hb dX12_rows_41 rfl (lv_at hl 4 rfl) ?_
        refine lv_iconst (v := 0) hx hb dX12_rows_42 (by decide) ?_
        refine lv_aload_n hx hb dX12_rows_43 rfl (lv_at hl 2 rfl) ?_
        refine va_get (D := D) (ci := 12) (v := .ref (r 2)) (C := RX12) (T := TX12) (N := 48) hx hb hg inC12 hown hK hP 0 rfl rfl 2 (by decide) (hg _ wt5_162) (fun _ h9 => h9) rfl dX12_rows_44 ?_
        refine lv_bipush (v := 102) hx hb dX12_rows_47 (by decide) ?_
        refine va_iald hx hb hK hP 2 0 rfl rfl (k_in (by decide +kernel)) dX12_rows_49 ?_
        refine k_top (z := 0) (by rw [cl_102]; exact hw2.1) ?_
        refine lv_iload_n hx hb dX12_rows_50 rfl (lv_at hl 1 rfl) ?_
        refine kN.callS (As := [.int 0]) (rest := [.int 0, .int 0, .int y]) ⟨hx, hb, hml, hown, hg⟩ (c_ones0 l ) (va_cwS 1 hg (kgS wt7_71 wt7_72 wt1_14 wt7_73) rfl rfl rfl (by decide +kernel) ⟨by decide, by decide⟩) hP hS rfl hl.1 rfl (Nat.le_of_ble_eq_true rfl) dX12_rows_51 ⟨by decide, by decide⟩ (fun v14 H locs hw13 hP hS => ?_)
        refine k_top (z := 0) (hw13) ?_
        refine lv_isub hx hb dX12_rows_54 ?_
        refine k_top (z := 0) (by decide +kernel) ?_
        refine lv_iconst (v := 1) hx hb dX12_rows_55 (by decide) ?_
        refine lv_isub hx hb dX12_rows_56 ?_
        refine k_top (z := (-1)) (by decide +kernel) ?_
        refine kN.callS (As := [.int y, .int 0, .int (-1)]) (rest := []) ⟨hx, hb, hml, hown, hg⟩ (c_lies l y 0 (-1)) (va_cwS 3 hg (kgS wt6_69 wt6_70 wt1_14 wt6_71) rfl rfl rfl (by decide +kernel) ⟨by decide, by decide⟩) hP hS rfl hl.1 rfl (Nat.le_of_ble_eq_true rfl) dX12_rows_57 ⟨by decide, by decide⟩ (fun v16 H locs hw15 hP hS => ?_)
        refine k_top (z := 0) (hw15.trans (mLies_e (by decide +kernel))) ?_
        refine lv_if_ne (tgt := 65) hx hb dX12_rows_60 (by decide) (fun c17 => absurd (by decide +kernel) c17) (fun c17 => ?_)
        refine lv_iconst (v := (-1)) hx hb dX12_rows_63 (by decide) ?_
        exact kI_ret (v := (-1)) hx hb hr hlocks rfl hK hS dX12_rows_64 (f5, a6, g7) hP hD (by simp [c1, c11, c12])
    · refine lv_aload_n hx hb dX12_rows_21 rfl (lv_at hl 1 rfl) ?_
      refine va_get (D := D) (ci := 12) (v := .ref (r 35)) (C := RX12) (T := TX12) (N := 48) hx hb hg inC12 hown hK hP 0 rfl rfl 35 (by decide) (hg _ wt5_195) (fun _ h9 => h9) rfl dX12_rows_22 ?_
      refine lv_iload_n hx hb dX12_rows_25 rfl (lv_at hl 0 rfl) ?_
      refine va_iald hx hb hK hP 18 0 rfl rfl (k_in (by decide +kernel)) dX12_rows_26 ?_
      refine k_top (z := 1) (by rw [cl_0]; exact hw2.2) ?_
      exact kI_ret (v := 1) hx hb hr hlocks rfl hK hS dX12_rows_27 (f5, a6, g7) hP hD (by simp [c1, c11])
  · refine lv_iconst (v := (-1)) hx hb dX12_rows_5 (by decide) ?_
    exact kI_ret (v := (-1)) hx hb hr hlocks rfl hK hS dX12_rows_6 (f, a, g) hP hD (by simp [c1])
set_option maxHeartbeats 4000000 in
set_option maxRecDepth 100000 in
theorem c_plan (l : Launch) {D : va_G} {K : Nat → ClassId} (o : Nat) (r : Nat → Nat) (f : Nat → Int32) (a : Nat → Nat → Int32) (g : Nat → Int64) (h0 : a 2 102 = 0) (h1 : a 2 103 = 0) (h2 : a 2 104 = 0) (h3 : a 2 99 = 30) (h4 : a 2 100 = 2) (x : Int32)  : kI l yX12_plan (Cond.code yX12_plan cX12_plan 2 (some .int) :: kG) (rmD 4 0 0) D (tysK K) [.ref o, .int x] (mW K o r f a g) (fun v (u : mS) => v = (if x = (-1) then (0 : Int32) else -1) ∧ u.2.1 2 102 = 0 ∧ u.2.1 2 103 = 0 ∧ u.2.1 2 104 = 0 ∧ u.2.1 2 99 = 30 ∧ u.2.1 2 100 = 2) (fun u => mW K o r u.1 u.2.1 u.2.2) 0 0 := by
  refine kI.of (cc := cX12_plan) (maxL := 2) (ret := (some .int)) (by decide) rfl (Nat.le_of_ble_eq_true rfl) ?_
  intro p e s m below meth c A hx hb hr hml hown hts hlocks hnm hK hP hD hS hA ls hl
  have hg : ∀ w ∈ kG, w.before _ s = true := fun w h => hts w (List.mem_cons_of_mem _ h)
  have hown : s.vm.findClass RX12 = some m.cls := hown
  have hl : lv_has ls 2 [(0, .ref o), (1, .int x)] := hl
  by_cases q1 : x = (-1)
  · subst q1
    have hl : lv_has ls 2 [(0, .ref o), (1, .int (-1))] := hl
    refine lv_iload_n hx hb dX12_plan_0 rfl (lv_at hl 1 rfl) ?_
    refine lv_iconst (v := (-1)) hx hb dX12_plan_1 (by decide) ?_
    refine lv_icmp_eq (tgt := 15) hx hb dX12_plan_2 (by decide) (fun c2 => ?_) (fun c2 => absurd (by decide +kernel) c2)
    refine lv_aload_n hx hb dX12_plan_15 rfl (lv_at hl 0 rfl) ?_
    refine lv_aload_n hx hb dX12_plan_16 rfl (lv_at hl 0 rfl) ?_
    refine kI.callV (As := []) (rest := [.ref o]) ⟨hx, hb, hml, hown, hg⟩ (c_allBuilders l o r f a g h1 ) (cwV 0 hg (kgV wt7_164 wt7_166 wp6_14 wt1_14 wt7_167) rfl rfl rfl (by decide +kernel) ⟨by decide, by decide⟩) hK hP hD hS hA mIs [] rfl (wr := []) rfl rfl rfl (fun i h => by cases h) 0 12 rfl rfl rfl hl.1 rfl (Nat.le_of_ble_eq_true rfl) dX12_plan_17 ⟨by decide, by decide⟩ (fun v5 u4 H locs hw3 hP hD hS => ?_)
    have hP : va_P D vwCl (mW K o r f a g) H := hP
    have hD : va_D A (mW K o r f a g) := hD
    refine k_top (z := 0) (hw3) ?_
    refine lv_iload_n hx hb dX12_plan_20 rfl (lv_at hl 1 rfl) ?_
    refine lv_iconst (v := (-1)) hx hb dX12_plan_21 (by decide) ?_
    refine lv_icmp_ne (tgt := 32) hx hb dX12_plan_22 (by decide) (fun c6 => absurd (by decide +kernel) c6) (fun c6 => ?_)
    refine lv_aload_n hx hb dX12_plan_25 rfl (lv_at hl 0 rfl) ?_
    refine kI.callV (As := []) (rest := [.int 0, .ref o]) ⟨hx, hb, hml, hown, hg⟩ (c_allParts l o r f a g h0 ) (cwV 0 hg (kgV wt7_187 wt7_189 wp7_1 wt1_14 wt7_190) rfl rfl rfl (by decide +kernel) ⟨by decide, by decide⟩) hK hP hD hS hA mIs [] rfl (wr := []) rfl rfl rfl (fun i h => by cases h) 0 12 rfl rfl rfl hl.1 rfl (Nat.le_of_ble_eq_true rfl) dX12_plan_26 ⟨by decide, by decide⟩ (fun v9 u8 H locs hw7 hP hD hS => ?_)
    have hP : va_P D vwCl (mW K o r f a g) H := hP
    have hD : va_D A (mW K o r f a g) := hD
    refine k_top (z := 0) (hw7) ?_
    refine lv_goto (tgt := 35) hx hb dX12_plan_29 (by decide) ?_
    refine lv_sipush (v := 200) hx hb dX12_plan_35 (by decide) ?_
    refine kI.callV (As := [.int 0, .int 0, .int 200]) (rest := []) ⟨hx, hb, hml, hown, hg⟩ (c_planned200 l o r f a g h0 h1 h2 h3 h4 ) (cwV 3 hg (kgV wt7_199 wt7_201 wp7_3 wt1_14 wt7_202) rfl rfl rfl (by decide +kernel) ⟨by decide, by decide⟩) hK hP hD hS hA mIs [] rfl (wr := []) rfl rfl rfl (fun i h => by cases h) 0 12 rfl rfl rfl hl.1 rfl (Nat.le_of_ble_eq_true rfl) dX12_plan_38 ⟨by decide, by decide⟩ (fun v12 u11 H locs hw10 hP hD hS => ?_)
    obtain ⟨f13, a14, g15⟩ := u11
    have hP : va_P D vwCl (mW K o r f13 a14 g15) H := hP
    have hD : va_D A (mW K o r f13 a14 g15) := hD
    refine k_top (z := 0) (hw10.1) ?_
    exact kI_ret (v := 0) hx hb hr hlocks rfl hK hS dX12_plan_41 (f13, a14, g15) hP hD ⟨rfl, hw10.2.1, hw10.2.2.1, hw10.2.2.2.1, hw10.2.2.2.2.1, hw10.2.2.2.2.2⟩
  refine lv_iload_n hx hb dX12_plan_0 rfl (lv_at hl 1 rfl) ?_
  refine lv_iconst (v := (-1)) hx hb dX12_plan_1 (by decide) ?_
  refine lv_icmp_eq (tgt := 15) hx hb dX12_plan_2 (by decide) (fun c16 => ?_) (fun c16 => ?_)
  · refine lv_aload_n hx hb dX12_plan_15 rfl (lv_at hl 0 rfl) ?_
    refine lv_aload_n hx hb dX12_plan_16 rfl (lv_at hl 0 rfl) ?_
    refine kI.callV (As := []) (rest := [.ref o]) ⟨hx, hb, hml, hown, hg⟩ (c_allBuilders l o r f a g h1 ) (cwV 0 hg (kgV wt7_164 wt7_166 wp6_14 wt1_14 wt7_167) rfl rfl rfl (by decide +kernel) ⟨by decide, by decide⟩) hK hP hD hS hA mIs [] rfl (wr := []) rfl rfl rfl (fun i h => by cases h) 0 12 rfl rfl rfl hl.1 rfl (Nat.le_of_ble_eq_true rfl) dX12_plan_17 ⟨by decide, by decide⟩ (fun v19 u18 H locs hw17 hP hD hS => ?_)
    have hP : va_P D vwCl (mW K o r f a g) H := hP
    have hD : va_D A (mW K o r f a g) := hD
    refine k_top (z := 0) (hw17) ?_
    refine lv_iload_n hx hb dX12_plan_20 rfl (lv_at hl 1 rfl) ?_
    refine lv_iconst (v := (-1)) hx hb dX12_plan_21 (by decide) ?_
    refine lv_icmp_ne (tgt := 32) hx hb dX12_plan_22 (by decide) (fun c20 => absurd c16 c20) (fun c20 => ?_)
    refine lv_aload_n hx hb dX12_plan_25 rfl (lv_at hl 0 rfl) ?_
    refine kI.callV (As := []) (rest := [.int 0, .ref o]) ⟨hx, hb, hml, hown, hg⟩ (c_allParts l o r f a g h0 ) (cwV 0 hg (kgV wt7_187 wt7_189 wp7_1 wt1_14 wt7_190) rfl rfl rfl (by decide +kernel) ⟨by decide, by decide⟩) hK hP hD hS hA mIs [] rfl (wr := []) rfl rfl rfl (fun i h => by cases h) 0 12 rfl rfl rfl hl.1 rfl (Nat.le_of_ble_eq_true rfl) dX12_plan_26 ⟨by decide, by decide⟩ (fun v23 u22 H locs hw21 hP hD hS => ?_)
    have hP : va_P D vwCl (mW K o r f a g) H := hP
    have hD : va_D A (mW K o r f a g) := hD
    refine k_top (z := 0) (hw21) ?_
    refine lv_goto (tgt := 35) hx hb dX12_plan_29 (by decide) ?_
    refine lv_sipush (v := 200) hx hb dX12_plan_35 (by decide) ?_
    refine kI.callV (As := [.int 0, .int 0, .int 200]) (rest := []) ⟨hx, hb, hml, hown, hg⟩ (c_planned200 l o r f a g h0 h1 h2 h3 h4 ) (cwV 3 hg (kgV wt7_199 wt7_201 wp7_3 wt1_14 wt7_202) rfl rfl rfl (by decide +kernel) ⟨by decide, by decide⟩) hK hP hD hS hA mIs [] rfl (wr := []) rfl rfl rfl (fun i h => by cases h) 0 12 rfl rfl rfl hl.1 rfl (Nat.le_of_ble_eq_true rfl) dX12_plan_38 ⟨by decide, by decide⟩ (fun v26 u25 H locs hw24 hP hD hS => ?_)
    obtain ⟨f27, a28, g29⟩ := u25
    have hP : va_P D vwCl (mW K o r f27 a28 g29) H := hP
    have hD : va_D A (mW K o r f27 a28 g29) := hD
    refine k_top (z := 0) (hw24.1) ?_
    exact kI_ret (v := 0) hx hb hr hlocks rfl hK hS dX12_plan_41 (f27, a28, g29) hP hD ⟨(by simp [q1, c16]), hw24.2.1, hw24.2.2.1, hw24.2.2.2.1, hw24.2.2.2.2.1, hw24.2.2.2.2.2⟩
  · refine lv_aload_n hx hb dX12_plan_5 rfl (lv_at hl 0 rfl) ?_
    refine lv_iload_n hx hb dX12_plan_6 rfl (lv_at hl 1 rfl) ?_
    refine kI.callV (As := [.int x]) (rest := []) ⟨hx, hb, hml, hown, hg⟩ (c_isPart l o r f a g h0 x) (cwV 1 hg (kgV wt6_104 wt6_106 wp3_10 wt1_14 wt6_107) rfl rfl rfl (by decide +kernel) ⟨by decide, by decide⟩) hK hP hD hS hA mIs [] rfl (wr := []) rfl rfl rfl (fun i h => by cases h) 0 12 rfl rfl rfl hl.1 rfl (Nat.le_of_ble_eq_true rfl) dX12_plan_7 ⟨by decide, by decide⟩ (fun v32 u31 H locs hw30 hP hD hS => ?_)
    have hP : va_P D vwCl (mW K o r f a g) H := hP
    have hD : va_D A (mW K o r f a g) := hD
    refine k_top (z := 0) (hw30) ?_
    refine lv_if_ne (tgt := 15) hx hb dX12_plan_10 (by decide) (fun c33 => absurd (by decide +kernel) c33) (fun c33 => ?_)
    refine lv_iconst (v := (-1)) hx hb dX12_plan_13 (by decide) ?_
    exact kI_ret (v := (-1)) hx hb hr hlocks rfl hK hS dX12_plan_14 (f, a, g) hP hD ⟨(by simp [q1, c16]), h0, h1, h2, h3, h4⟩
set_option maxHeartbeats 4000000 in
set_option maxRecDepth 100000 in
theorem c_hands (l : Launch) {D : va_G} {K : Nat → ClassId} (o : Nat) (r : Nat → Nat) (f : Nat → Int32) (a : Nat → Nat → Int32) (g : Nat → Int64) (h0 : a 2 102 = 0) (h1 : a 2 103 = 0) (h2 : a 2 104 = 0) (h3 : a 2 99 = 30) (h4 : a 2 100 = 2) (x : Int32)  : kI l yX12_hands (Cond.code yX12_hands cX12_hands 4 (some .int) :: kG) (rmD 4 0 0) D (tysK K) [.ref o, .int x] (mW K o r f a g) (fun v (u : mS) => v = (if mLies x 0 1 = 0 then (-1 : Int32) else 0)) (fun u => mW K o r u.1 u.2.1 u.2.2) 0 0 := by
  refine kI.of (cc := cX12_hands) (maxL := 4) (ret := (some .int)) (by decide) rfl (Nat.le_of_ble_eq_true rfl) ?_
  intro p e s m below meth c A hx hb hr hml hown hts hlocks hnm hK hP hD hS hA ls hl
  have hg : ∀ w ∈ kG, w.before _ s = true := fun w h => hts w (List.mem_cons_of_mem _ h)
  have hown : s.vm.findClass RX12 = some m.cls := hown
  have hl : lv_has ls 4 [(0, .ref o), (1, .int x)] := hl
  refine lv_iload_n hx hb dX12_hands_0 rfl (lv_at hl 1 rfl) ?_
  refine lv_iconst (v := 0) hx hb dX12_hands_1 (by decide) ?_
  refine lv_iconst (v := 1) hx hb dX12_hands_2 (by decide) ?_
  refine kN.callS (As := [.int x, .int 0, .int 1]) (rest := []) ⟨hx, hb, hml, hown, hg⟩ (c_lies l x 0 1) (va_cwS 3 hg (kgS wt6_69 wt6_70 wt1_14 wt6_71) rfl rfl rfl (by decide +kernel) ⟨by decide, by decide⟩) hP hS rfl hl.1 rfl (Nat.le_of_ble_eq_true rfl) dX12_hands_3 ⟨by decide, by decide⟩ (fun v2 H locs hw1 hP hS => ?_)
  refine k_top (z := mLies x 0 1) hw1 ?_
  refine lv_if_ne (tgt := 11) hx hb dX12_hands_6 (by decide) (fun c3 => ?_) (fun c3 => ?_)
  · refine lv_iconst (v := (-1)) hx hb dX12_hands_11 (by decide) ?_
    refine lv_istore_n (lv' := [(2, .int (-1)), (0, .ref o), (1, .int x)]) hx hb dX12_hands_12 rfl hl (by decide) rfl (fun ls hl => ?_)
    refine lv_iconst (v := 0) hx hb dX12_hands_13 (by decide) ?_
    refine lv_istore_n (lv' := [(3, .int 0), (2, .int (-1)), (0, .ref o), (1, .int x)]) hx hb dX12_hands_14 rfl hl (by decide) rfl (fun ls hl => ?_)
    refine lv_iload_n hx hb dX12_hands_15 rfl (lv_at hl 0 rfl) ?_
    refine lv_aload_n hx hb dX12_hands_16 rfl (lv_at hl 2 rfl) ?_
    refine kI.callV (As := []) (rest := [.int 0]) ⟨hx, hb, hml, hown, hg⟩ (c_allBuilders l o r f a g h1 ) (cwV 0 hg (kgV wt7_164 wt7_166 wp6_14 wt1_14 wt7_167) rfl rfl rfl (by decide +kernel) ⟨by decide, by decide⟩) hK hP hD hS hA mIs [] rfl (wr := []) rfl rfl rfl (fun i h => by cases h) 0 12 rfl rfl rfl hl.1 rfl (Nat.le_of_ble_eq_true rfl) dX12_hands_17 ⟨by decide, by decide⟩ (fun v6 u5 H locs hw4 hP hD hS => ?_)
    have hP : va_P D vwCl (mW K o r f a g) H := hP
    have hD : va_D A (mW K o r f a g) := hD
    refine k_top (z := 0) (hw4) ?_
    refine lv_icmp_gt (tgt := 70) hx hb dX12_hands_20 (by decide) (fun c7 => absurd c7 (by decide +kernel)) (fun c7 => ?_)
    refine lv_iload_n hx hb dX12_hands_23 rfl (lv_at hl 1 rfl) ?_
    refine lv_iconst (v := (-1)) hx hb dX12_hands_24 (by decide) ?_
    refine lv_icmp_eq (tgt := 42) hx hb dX12_hands_25 (by decide) (fun c8 => ?_) (fun c8 => absurd (by decide +kernel) c8)
    refine lv_aload_n hx hb dX12_hands_42 rfl (lv_at hl 2 rfl) ?_
    refine lv_iload_n hx hb dX12_hands_43 rfl (lv_at hl 0 rfl) ?_
    refine lv_aload_n hx hb dX12_hands_44 rfl (lv_at hl 2 rfl) ?_
    refine kI.callV (As := []) (rest := [.int 0, .ref o]) ⟨hx, hb, hml, hown, hg⟩ (c_allParts l o r f a g h0 ) (cwV 0 hg (kgV wt7_187 wt7_189 wp7_1 wt1_14 wt7_190) rfl rfl rfl (by decide +kernel) ⟨by decide, by decide⟩) hK hP hD hS hA mIs [] rfl (wr := []) rfl rfl rfl (fun i h => by cases h) 0 12 rfl rfl rfl hl.1 rfl (Nat.le_of_ble_eq_true rfl) dX12_hands_45 ⟨by decide, by decide⟩ (fun v11 u10 H locs hw9 hP hD hS => ?_)
    have hP : va_P D vwCl (mW K o r f a g) H := hP
    have hD : va_D A (mW K o r f a g) := hD
    refine k_top (z := 0) (hw9) ?_
    refine lv_aload_n hx hb dX12_hands_48 rfl (lv_at hl 2 rfl) ?_
    refine va_get (D := D) (ci := 12) (v := .ref (r 2)) (C := RX12) (T := TX12) (N := 48) hx hb hg inC12 hown hK hP 0 rfl rfl 2 (by decide) (hg _ wt5_162) (fun _ h9 => h9) rfl dX12_hands_49 ?_
    refine lv_bipush (v := 99) hx hb dX12_hands_52 (by decide) ?_
    refine va_iald hx hb hK hP 2 0 rfl rfl (k_in (by decide +kernel)) dX12_hands_54 ?_
    refine k_top (z := 30) (by rw [cl_99]; exact h3) ?_
    refine kI.callV (As := [.int 0, .int 0, .int 30]) (rest := []) ⟨hx, hb, hml, hown, hg⟩ (c_planned30 l o r f a g h0 h1 h2 h3 h4 ) (cwV 3 hg (kgV wt7_199 wt7_201 wp7_3 wt1_14 wt7_202) rfl rfl rfl (by decide +kernel) ⟨by decide, by decide⟩) hK hP hD hS hA mIs [] rfl (wr := []) rfl rfl rfl (fun i h => by cases h) 0 12 rfl rfl rfl hl.1 rfl (Nat.le_of_ble_eq_true rfl) dX12_hands_55 ⟨by decide, by decide⟩ (fun v14 u13 H locs hw12 hP hD hS => ?_)
    obtain ⟨f15, a16, g17⟩ := u13
    have hP : va_P D vwCl (mW K o r f15 a16 g17) H := hP
    have hD : va_D A (mW K o r f15 a16 g17) := hD
    refine k_top (z := 0) (hw12.1) ?_
    refine lv_iconst (v := (-1)) hx hb dX12_hands_58 (by decide) ?_
    refine lv_icmp_eq (tgt := 64) hx hb dX12_hands_59 (by decide) (fun c18 => absurd c18 (by decide +kernel)) (fun c18 => ?_)
    refine lv_iload_n hx hb dX12_hands_62 rfl (lv_at hl 0 rfl) ?_
    refine lv_istore_n (lv' := [(2, .int 0), (3, .int 0), (0, .ref o), (1, .int x)]) hx hb dX12_hands_63 rfl hl (by decide) rfl (fun ls hl => ?_)
    refine lv_iinc (v := 1) (lv' := [(3, .int 1), (2, .int 0), (0, .ref o), (1, .int x)]) hx hb dX12_hands_64 hl (k := 1) rfl (by decide +kernel) (by decide) rfl (fun ls hl => ?_)
    refine lv_goto (tgt := 15) hx hb dX12_hands_67 (by decide) ?_
    refine lv_iload_n hx hb dX12_hands_15 rfl (lv_at hl 0 rfl) ?_
    refine lv_aload_n hx hb dX12_hands_16 rfl (lv_at hl 2 rfl) ?_
    refine kI.callV (As := []) (rest := [.int 1]) ⟨hx, hb, hml, hown, hg⟩ (c_allBuilders l o r f15 a16 g17 hw12.2.2.1 ) (cwV 0 hg (kgV wt7_164 wt7_166 wp6_14 wt1_14 wt7_167) rfl rfl rfl (by decide +kernel) ⟨by decide, by decide⟩) hK hP hD hS hA mIs [] rfl (wr := []) rfl rfl rfl (fun i h => by cases h) 0 12 rfl rfl rfl hl.1 rfl (Nat.le_of_ble_eq_true rfl) dX12_hands_17 ⟨by decide, by decide⟩ (fun v21 u20 H locs hw19 hP hD hS => ?_)
    have hP : va_P D vwCl (mW K o r f15 a16 g17) H := hP
    have hD : va_D A (mW K o r f15 a16 g17) := hD
    refine k_top (z := 0) (hw19) ?_
    refine lv_icmp_gt (tgt := 70) hx hb dX12_hands_20 (by decide) (fun c22 => ?_) (fun c22 => absurd (by decide +kernel) c22)
    refine lv_iload_n hx hb dX12_hands_70 rfl (lv_at hl 1 rfl) ?_
    refine lv_iconst (v := (-1)) hx hb dX12_hands_71 (by decide) ?_
    refine lv_icmp_eq (tgt := 80) hx hb dX12_hands_72 (by decide) (fun c23 => absurd c23 (by decide +kernel)) (fun c23 => ?_)
    refine lv_iload_n hx hb dX12_hands_75 rfl (lv_at hl 3 rfl) ?_
    refine lv_iconst (v := 1) hx hb dX12_hands_76 (by decide) ?_
    refine lv_icmp_ne (tgt := 84) hx hb dX12_hands_77 (by decide) (fun c24 => ?_) (fun c24 => ?_)
    · refine lv_iload_n hx hb dX12_hands_84 rfl (lv_at hl 1 rfl) ?_
      refine kN.callS (As := [.int 0]) (rest := []) ⟨hx, hb, hml, hown, hg⟩ (c_ones0 l ) (va_cwS 1 hg (kgS wt7_71 wt7_72 wt1_14 wt7_73) rfl rfl rfl (by decide +kernel) ⟨by decide, by decide⟩) hP hS rfl hl.1 rfl (Nat.le_of_ble_eq_true rfl) dX12_hands_85 ⟨by decide, by decide⟩ (fun v26 H locs hw25 hP hS => ?_)
      refine k_top (z := 0) (hw25) ?_
      exact kI_ret (v := 0) hx hb hr hlocks rfl hK hS dX12_hands_88 (f15, a16, g17) hP hD (by simp [c3])
    · refine lv_iload_n hx hb dX12_hands_80 rfl (lv_at hl 1 rfl) ?_
      refine lv_goto (tgt := 88) hx hb dX12_hands_81 (by decide) ?_
      exact kI_ret (v := 0) hx hb hr hlocks rfl hK hS dX12_hands_88 (f15, a16, g17) hP hD (by simp [c3])
  · refine lv_iconst (v := (-1)) hx hb dX12_hands_9 (by decide) ?_
    exact kI_ret (v := (-1)) hx hb hr hlocks rfl hK hS dX12_hands_10 (f, a, g) hP hD (by simp [c3])
set_option maxHeartbeats 4000000 in
set_option maxRecDepth 100000 in
theorem c_taught (l : Launch) {D : va_G} {K : Nat → ClassId} (o : Nat) (r : Nat → Nat) (f : Nat → Int32) (a : Nat → Nat → Int32) (g : Nat → Int64) (h0 : a 2 102 = 0) (h1 : a 2 103 = 0) (h2 : a 2 104 = 0) (h3 : a 2 99 = 30) (h4 : a 2 100 = 2) (x : Int32)  : kI l yX12_taught (Cond.code yX12_taught cX12_taught 8 (some .int) :: kG) (rmD 5 0 0) D (tysK K) [.ref o, .int x] (mW K o r f a g) (fun v (u : mS) => v = (-1)) (fun u => mW K o r u.1 u.2.1 u.2.2) 0 0 := by
  refine kI.of (cc := cX12_taught) (maxL := 8) (ret := (some .int)) (by decide) rfl (Nat.le_of_ble_eq_true rfl) ?_
  intro p e s m below meth c A hx hb hr hml hown hts hlocks hnm hK hP hD hS hA ls hl
  have hg : ∀ w ∈ kG, w.before _ s = true := fun w h => hts w (List.mem_cons_of_mem _ h)
  have hown : s.vm.findClass RX12 = some m.cls := hown
  have hl : lv_has ls 8 [(0, .ref o), (1, .int x)] := hl
  refine lv_iload_n hx hb dX12_taught_0 rfl (lv_at hl 1 rfl) ?_
  refine lv_iconst (v := 0) hx hb dX12_taught_1 (by decide) ?_
  refine lv_iconst (v := 2) hx hb dX12_taught_2 (by decide) ?_
  refine kN.callS (As := [.int x, .int 0, .int 2]) (rest := []) ⟨hx, hb, hml, hown, hg⟩ (c_lies l x 0 2) (va_cwS 3 hg (kgS wt6_69 wt6_70 wt1_14 wt6_71) rfl rfl rfl (by decide +kernel) ⟨by decide, by decide⟩) hP hS rfl hl.1 rfl (Nat.le_of_ble_eq_true rfl) dX12_taught_3 ⟨by decide, by decide⟩ (fun v2 H locs hw1 hP hS => ?_)
  refine k_top (z := mLies x 0 2) hw1 ?_
  refine lv_if_ne (tgt := 11) hx hb dX12_taught_6 (by decide) (fun c3 => ?_) (fun c3 => ?_)
  · refine lv_aload_n hx hb dX12_taught_11 rfl (lv_at hl 0 rfl) ?_
    refine lv_iconst (v := (-1)) hx hb dX12_taught_12 (by decide) ?_
    refine kI.callV (As := [.int (-1)]) (rest := []) ⟨hx, hb, hml, hown, hg⟩ (c_plan l o r f a g h0 h1 h2 h3 h4 (-1)) (cwV 1 hg (kgV wt7_235 wt7_196 wt7_197 wt1_14 wt7_198) rfl rfl rfl (by decide +kernel) ⟨by decide, by decide⟩) hK hP hD hS hA mIs [] rfl (wr := []) rfl rfl rfl (fun i h => by cases h) 0 12 rfl rfl rfl hl.1 rfl (Nat.le_of_ble_eq_true rfl) dX12_taught_13 ⟨by decide, by decide⟩ (fun v6 u5 H locs hw4 hP hD hS => ?_)
    obtain ⟨f7, a8, g9⟩ := u5
    have hP : va_P D vwCl (mW K o r f7 a8 g9) H := hP
    have hD : va_D A (mW K o r f7 a8 g9) := hD
    refine k_top (z := 0) (hw4.1.trans (if_pos rfl)) ?_
    refine lv_istore_n (lv' := [(2, .int 0), (0, .ref o), (1, .int x)]) hx hb dX12_taught_16 rfl hl (by decide) rfl (fun ls hl => ?_)
    refine lv_iload_n hx hb dX12_taught_17 rfl (lv_at hl 0 rfl) ?_
    refine lv_iconst (v := (-1)) hx hb dX12_taught_18 (by decide) ?_
    refine lv_icmp_ne (tgt := 27) hx hb dX12_taught_19 (by decide) (fun c10 => ?_) (fun c10 => absurd c10 (by decide +kernel))
    refine lv_iload_n hx hb dX12_taught_27 rfl (lv_at hl 0 rfl) ?_
    refine lv_istore_n (lv' := [(3, .int 0), (2, .int 0), (0, .ref o), (1, .int x)]) hx hb dX12_taught_28 rfl hl (by decide) rfl (fun ls hl => ?_)
    refine lv_iconst (v := (-1)) hx hb dX12_taught_29 (by decide) ?_
    refine lv_istore (lv' := [(4, .int (-1)), (3, .int 0), (2, .int 0), (0, .ref o), (1, .int x)]) hx hb dX12_taught_30 hl (by decide) rfl (fun ls hl => ?_)
    refine lv_iconst (v := 0) hx hb dX12_taught_32 (by decide) ?_
    refine lv_istore (lv' := [(5, .int 0), (4, .int (-1)), (3, .int 0), (2, .int 0), (0, .ref o), (1, .int x)]) hx hb dX12_taught_33 hl (by decide) rfl (fun ls hl => ?_)
    refine lv_iload hx hb dX12_taught_35 (lv_at hl 0 rfl) ?_
    refine lv_aload_n hx hb dX12_taught_37 rfl (lv_at hl 4 rfl) ?_
    refine va_get (D := D) (ci := 12) (v := .ref (r 2)) (C := RX12) (T := TX12) (N := 48) hx hb hg inC12 hown hK hP 0 rfl rfl 2 (by decide) (hg _ wt5_162) (fun _ h9 => h9) rfl dX12_taught_38 ?_
    refine lv_bipush (v := 103) hx hb dX12_taught_41 (by decide) ?_
    refine va_iald hx hb hK hP 2 0 rfl rfl (k_in (by decide +kernel)) dX12_taught_43 ?_
    refine k_top (z := 0) (by rw [cl_103]; exact hw4.2.2.1) ?_
    refine lv_icmp_ge (tgt := 120) hx hb dX12_taught_44 (by decide) (fun c11 => ?_) (fun c11 => absurd (by decide +kernel) c11)
    refine lv_iload hx hb dX12_taught_120 (lv_at hl 1 rfl) ?_
    refine lv_iconst (v := (-1)) hx hb dX12_taught_122 (by decide) ?_
    refine lv_icmp_ne (tgt := 128) hx hb dX12_taught_123 (by decide) (fun c12 => absurd (by decide +kernel) c12) (fun c12 => ?_)
    refine lv_iconst (v := (-1)) hx hb dX12_taught_126 (by decide) ?_
    exact kI_ret (v := (-1)) hx hb hr hlocks rfl hK hS dX12_taught_127 (f7, a8, g9) hP hD rfl
  · refine lv_iconst (v := (-1)) hx hb dX12_taught_9 (by decide) ?_
    exact kI_ret (v := (-1)) hx hb hr hlocks rfl hK hS dX12_taught_10 (f, a, g) hP hD rfl
set_option maxHeartbeats 4000000 in
set_option maxRecDepth 100000 in
theorem c_unseen (l : Launch) {D : va_G} {K : Nat → ClassId} (o : Nat) (r : Nat → Nat) (f : Nat → Int32) (a : Nat → Nat → Int32) (g : Nat → Int64) (h0 : a 2 102 = 0) (h1 : a 2 103 = 0) (h2 : a 2 104 = 0) (h3 : a 2 99 = 30) (h4 : a 2 100 = 2) (x : Int32)  : kL l yX12_unseen (Cond.code yX12_unseen cX12_unseen 6 (some .long) :: kG) (rmD 3 0 0) D (tysK K) [.ref o, .int x] (mW K o r f a g) (fun v (u : mS) => v = (if mLies x 0 99 = 0 then (-1 : Int64) else 1000000000000)) (fun u => mW K o r u.1 u.2.1 u.2.2) 0 0 := by
  refine kL.of (cc := cX12_unseen) (maxL := 6) (ret := (some .long)) (by decide) rfl (Nat.le_of_ble_eq_true rfl) ?_
  intro p e s m below meth c A hx hb hr hml hown hts hlocks hnm hK hP hD hS hA ls hl
  have hg : ∀ w ∈ kG, w.before _ s = true := fun w h => hts w (List.mem_cons_of_mem _ h)
  have hown : s.vm.findClass RX12 = some m.cls := hown
  have hl : lv_has ls 6 [(0, .ref o), (1, .int x)] := hl
  refine lv_iload_n hx hb dX12_unseen_0 rfl (lv_at hl 1 rfl) ?_
  refine lv_iconst (v := 0) hx hb dX12_unseen_1 (by decide) ?_
  refine lv_bipush (v := 99) hx hb dX12_unseen_2 (by decide) ?_
  refine kN.callS (As := [.int x, .int 0, .int 99]) (rest := []) ⟨hx, hb, hml, hown, hg⟩ (c_lies l x 0 99) (va_cwS 3 hg (kgS wt6_69 wt6_70 wt1_14 wt6_71) rfl rfl rfl (by decide +kernel) ⟨by decide, by decide⟩) hP hS rfl hl.1 rfl (Nat.le_of_ble_eq_true rfl) dX12_unseen_4 ⟨by decide, by decide⟩ (fun v2 H locs hw1 hP hS => ?_)
  refine k_top (z := mLies x 0 99) hw1 ?_
  refine lv_if_ne (tgt := 14) hx hb dX12_unseen_7 (by decide) (fun c3 => ?_) (fun c3 => ?_)
  · refine lv_aload_n hx hb dX12_unseen_14 rfl (lv_at hl 0 rfl) ?_
    refine kV.callV (As := []) (rest := []) ⟨hx, hb, hml, hown, hg⟩ (c_begins l o r f a g h0 h1 h2 h3 h4 ) (cwV 0 hg (kgV wt7_203 wt7_205 wp7_4 wt1_14 wt7_206) rfl rfl rfl (by decide +kernel) ⟨by decide, by decide⟩) hK hP hD hS hA mIs [] rfl (wr := []) rfl rfl rfl (fun i h => by cases h) 0 12 rfl rfl rfl hl.1 rfl (Nat.le_of_ble_eq_true rfl) dX12_unseen_15 ⟨by decide, by decide⟩ (fun u5 H locs hw4 hP hD hS => ?_)
    obtain ⟨f7, a8, g9⟩ := u5
    have hP : va_P D vwCl (mW K o r f7 a8 g9) H := hP
    have hD : va_D A (mW K o r f7 a8 g9) := hD
    refine lv_ldc2 (v := (1000000000000)) hx hb hown (hg _ wt8_5) dX12_unseen_18 ?_
    refine lv_lstore_n (lv' := [(2, .long (1000000000000)), (0, .ref o), (1, .int x)]) hx hb dX12_unseen_21 rfl hl (by decide) rfl (fun ls hl => ?_)
    refine lv_iconst (v := 0) hx hb dX12_unseen_22 (by decide) ?_
    refine lv_istore (lv' := [(4, .int 0), (2, .long (1000000000000)), (0, .ref o), (1, .int x)]) hx hb dX12_unseen_23 hl (by decide) rfl (fun ls hl => ?_)
    refine lv_iload hx hb dX12_unseen_25 (lv_at hl 0 rfl) ?_
    refine lv_iload_n hx hb dX12_unseen_27 rfl (lv_at hl 3 rfl) ?_
    refine lv_icmp_ge (tgt := 127) hx hb dX12_unseen_28 (by decide) (fun c10 => ?_) (fun c10 => ?_)
    · refine lv_aload_n hx hb dX12_unseen_127 rfl (lv_at hl 2 rfl) ?_
      refine lv_iconst (v := 0) hx hb dX12_unseen_128 (by decide) ?_
      refine kV.callV (As := [.int 0]) (rest := []) ⟨hx, hb, hml, hown, hg⟩ (c_takesBack0 l o r f7 a8 g9 hw4.1 hw4.2.1 hw4.2.2.1 hw4.2.2.2.1 hw4.2.2.2.2 ) (cwV 1 hg (kgV wt7_223 wt7_225 wp7_9 wt1_14 wt7_226) rfl rfl rfl (by decide +kernel) ⟨by decide, by decide⟩) hK hP hD hS hA mIs [] rfl (wr := []) rfl rfl rfl (fun i h => by cases h) 0 12 rfl rfl rfl hl.1 rfl (Nat.le_of_ble_eq_true rfl) dX12_unseen_129 ⟨by decide, by decide⟩ (fun u12 H locs hw11 hP hD hS => ?_)
      obtain ⟨f14, a15, g16⟩ := u12
      have hP : va_P D vwCl (mW K o r f14 a15 g16) H := hP
      have hD : va_D A (mW K o r f14 a15 g16) := hD
      refine lv_lload_n hx hb dX12_unseen_132 rfl (lv_at hl 1 rfl) ?_
      exact kL_ret (v := (1000000000000)) hx hb hr hlocks hK hS dX12_unseen_133 (f14, a15, g16) hP hD (by simp [c3, c10])
    · refine lv_aload_n hx hb dX12_unseen_31 rfl (lv_at hl 2 rfl) ?_
      refine lv_aload_n hx hb dX12_unseen_32 rfl (lv_at hl 2 rfl) ?_
      refine kI.callV (As := []) (rest := [.ref o]) ⟨hx, hb, hml, hown, hg⟩ (c_allParts l o r f7 a8 g9 hw4.1 ) (cwV 0 hg (kgV wt7_187 wt7_189 wp7_1 wt1_14 wt7_190) rfl rfl rfl (by decide +kernel) ⟨by decide, by decide⟩) hK hP hD hS hA mIs [] rfl (wr := []) rfl rfl rfl (fun i h => by cases h) 0 12 rfl rfl rfl hl.1 rfl (Nat.le_of_ble_eq_true rfl) dX12_unseen_33 ⟨by decide, by decide⟩ (fun v19 u18 H locs hw17 hP hD hS => ?_)
      have hP : va_P D vwCl (mW K o r f7 a8 g9) H := hP
      have hD : va_D A (mW K o r f7 a8 g9) := hD
      refine k_top (z := 0) (hw17) ?_
      refine kI.callV (As := [.int 0]) (rest := []) ⟨hx, hb, hml, hown, hg⟩ (c_areStanding l o r f7 a8 g9 hw4.1 ) (cwV 1 hg (kgV wt7_211 wt7_213 wp7_6 wt1_14 wt7_214) rfl rfl rfl (by decide +kernel) ⟨by decide, by decide⟩) hK hP hD hS hA mIs [] rfl (wr := []) rfl rfl rfl (fun i h => by cases h) 0 12 rfl rfl rfl hl.1 rfl (Nat.le_of_ble_eq_true rfl) dX12_unseen_36 ⟨by decide, by decide⟩ (fun v22 u21 H locs hw20 hP hD hS => ?_)
      have hP : va_P D vwCl (mW K o r f7 a8 g9) H := hP
      have hD : va_D A (mW K o r f7 a8 g9) := hD
      refine k_top (z := 1) (hw20) ?_
      refine lv_if_ne (tgt := 127) hx hb dX12_unseen_39 (by decide) (fun c23 => ?_) (fun c23 => absurd c23 (by decide +kernel))
      refine lv_aload_n hx hb dX12_unseen_127 rfl (lv_at hl 2 rfl) ?_
      refine lv_iconst (v := 0) hx hb dX12_unseen_128 (by decide) ?_
      refine kV.callV (As := [.int 0]) (rest := []) ⟨hx, hb, hml, hown, hg⟩ (c_takesBack0 l o r f7 a8 g9 hw4.1 hw4.2.1 hw4.2.2.1 hw4.2.2.2.1 hw4.2.2.2.2 ) (cwV 1 hg (kgV wt7_223 wt7_225 wp7_9 wt1_14 wt7_226) rfl rfl rfl (by decide +kernel) ⟨by decide, by decide⟩) hK hP hD hS hA mIs [] rfl (wr := []) rfl rfl rfl (fun i h => by cases h) 0 12 rfl rfl rfl hl.1 rfl (Nat.le_of_ble_eq_true rfl) dX12_unseen_129 ⟨by decide, by decide⟩ (fun u25 H locs hw24 hP hD hS => ?_)
      obtain ⟨f27, a28, g29⟩ := u25
      have hP : va_P D vwCl (mW K o r f27 a28 g29) H := hP
      have hD : va_D A (mW K o r f27 a28 g29) := hD
      refine lv_lload_n hx hb dX12_unseen_132 rfl (lv_at hl 1 rfl) ?_
      exact kL_ret (v := (1000000000000)) hx hb hr hlocks hK hS dX12_unseen_133 (f27, a28, g29) hP hD (by simp [c3, c10])
  · refine lv_ldc2 (v := (-1)) hx hb hown (hg _ wt8_4) dX12_unseen_10 ?_
    exact kL_ret (v := (-1)) hx hb hr hlocks hK hS dX12_unseen_13 (f, a, g) hP hD (by simp [c3])
set_option maxHeartbeats 4000000 in
set_option maxRecDepth 100000 in
theorem c_whose (l : Launch) {D : va_G} {K : Nat → ClassId} (o : Nat) (r : Nat → Nat) (f : Nat → Int32) (a : Nat → Nat → Int32) (g : Nat → Int64) (h0 : a 2 102 = 0) (h1 : a 2 103 = 0) (h2 : a 2 104 = 0) (h3 : a 2 99 = 30) (h4 : a 2 100 = 2) (x : Int32)  : kI l yX12_whose (Cond.code yX12_whose cX12_whose 4 (some .int) :: kG) (rmD 4 0 0) D (tysK K) [.ref o, .int x] (mW K o r f a g) (fun v (u : mS) => v = (if (-1) ≤ x then (if (0 : Int32) = x then (0 : Int32) else if x = (-1) then 1 else -1) else -1)) (fun u => mW K o r u.1 u.2.1 u.2.2) 0 0 := by
  refine kI.of (cc := cX12_whose) (maxL := 4) (ret := (some .int)) (by decide) rfl (Nat.le_of_ble_eq_true rfl) ?_
  intro p e s m below meth c A hx hb hr hml hown hts hlocks hnm hK hP hD hS hA ls hl
  have hg : ∀ w ∈ kG, w.before _ s = true := fun w h => hts w (List.mem_cons_of_mem _ h)
  have hown : s.vm.findClass RX12 = some m.cls := hown
  have hl : lv_has ls 4 [(0, .ref o), (1, .int x)] := hl
  refine lv_iload_n hx hb dX12_whose_0 rfl (lv_at hl 1 rfl) ?_
  refine lv_iconst (v := (-1)) hx hb dX12_whose_1 (by decide) ?_
  refine lv_icmp_ge (tgt := 7) hx hb dX12_whose_2 (by decide) (fun c1 => ?_) (fun c1 => ?_)
  · refine lv_iconst (v := 0) hx hb dX12_whose_7 (by decide) ?_
    refine lv_istore_n (lv' := [(2, .int 0), (0, .ref o), (1, .int x)]) hx hb dX12_whose_8 rfl hl (by decide) rfl (fun ls hl => ?_)
    refine lv_iconst (v := 0) hx hb dX12_whose_9 (by decide) ?_
    refine lv_istore_n (lv' := [(3, .int 0), (2, .int 0), (0, .ref o), (1, .int x)]) hx hb dX12_whose_10 rfl hl (by decide) rfl (fun ls hl => ?_)
    refine lv_iload_n hx hb dX12_whose_11 rfl (lv_at hl 0 rfl) ?_
    refine lv_aload_n hx hb dX12_whose_12 rfl (lv_at hl 2 rfl) ?_
    refine kI.callV (As := []) (rest := [.int 0]) ⟨hx, hb, hml, hown, hg⟩ (c_allBuilders l o r f a g h1 ) (cwV 0 hg (kgV wt7_164 wt7_166 wp6_14 wt1_14 wt7_167) rfl rfl rfl (by decide +kernel) ⟨by decide, by decide⟩) hK hP hD hS hA mIs [] rfl (wr := []) rfl rfl rfl (fun i h => by cases h) 0 12 rfl rfl rfl hl.1 rfl (Nat.le_of_ble_eq_true rfl) dX12_whose_13 ⟨by decide, by decide⟩ (fun v4 u3 H locs hw2 hP hD hS => ?_)
    have hP : va_P D vwCl (mW K o r f a g) H := hP
    have hD : va_D A (mW K o r f a g) := hD
    refine k_top (z := 0) (hw2) ?_
    refine lv_icmp_gt (tgt := 46) hx hb dX12_whose_16 (by decide) (fun c5 => absurd c5 (by decide +kernel)) (fun c5 => ?_)
    refine lv_aload_n hx hb dX12_whose_19 rfl (lv_at hl 2 rfl) ?_
    refine lv_iload_n hx hb dX12_whose_20 rfl (lv_at hl 0 rfl) ?_
    refine kI.callV (As := [.int 0]) (rest := []) ⟨hx, hb, hml, hown, hg⟩ (c_canBeWhose l o r f a g h0 h1 h2 h3 h4 ) (cwV 1 hg (kgV wt8_19 wt8_21 wp7_11 wt1_14 wt8_22) rfl rfl rfl (by decide +kernel) ⟨by decide, by decide⟩) hK hP hD hS hA mIs [] rfl (wr := []) rfl rfl rfl (fun i h => by cases h) 0 12 rfl rfl rfl hl.1 rfl (Nat.le_of_ble_eq_true rfl) dX12_whose_21 ⟨by decide, by decide⟩ (fun v8 u7 H locs hw6 hP hD hS => ?_)
    obtain ⟨f9, a10, g11⟩ := u7
    have hP : va_P D vwCl (mW K o r f9 a10 g11) H := hP
    have hD : va_D A (mW K o r f9 a10 g11) := hD
    refine k_top (z := 1) (hw6.1) ?_
    refine lv_if_ne (tgt := 30) hx hb dX12_whose_24 (by decide) (fun c12 => ?_) (fun c12 => absurd c12 (by decide +kernel))
    refine lv_iload_n hx hb dX12_whose_30 rfl (lv_at hl 1 rfl) ?_
    refine lv_iload_n hx hb dX12_whose_31 rfl (lv_at hl 3 rfl) ?_
    refine lv_icmp_ne (tgt := 37) hx hb dX12_whose_32 (by decide) (fun c13 => ?_) (fun c13 => ?_)
    · refine lv_iinc (v := 1) (lv' := [(2, .int 1), (3, .int 0), (0, .ref o), (1, .int x)]) hx hb dX12_whose_37 hl (k := 1) rfl (by decide +kernel) (by decide) rfl (fun ls hl => ?_)
      refine lv_iinc (v := 1) (lv' := [(3, .int 1), (2, .int 1), (0, .ref o), (1, .int x)]) hx hb dX12_whose_40 hl (k := 1) rfl (by decide +kernel) (by decide) rfl (fun ls hl => ?_)
      refine lv_goto (tgt := 11) hx hb dX12_whose_43 (by decide) ?_
      refine lv_iload_n hx hb dX12_whose_11 rfl (lv_at hl 0 rfl) ?_
      refine lv_aload_n hx hb dX12_whose_12 rfl (lv_at hl 2 rfl) ?_
      refine kI.callV (As := []) (rest := [.int 1]) ⟨hx, hb, hml, hown, hg⟩ (c_allBuilders l o r f9 a10 g11 hw6.2.2.1 ) (cwV 0 hg (kgV wt7_164 wt7_166 wp6_14 wt1_14 wt7_167) rfl rfl rfl (by decide +kernel) ⟨by decide, by decide⟩) hK hP hD hS hA mIs [] rfl (wr := []) rfl rfl rfl (fun i h => by cases h) 0 12 rfl rfl rfl hl.1 rfl (Nat.le_of_ble_eq_true rfl) dX12_whose_13 ⟨by decide, by decide⟩ (fun v16 u15 H locs hw14 hP hD hS => ?_)
      have hP : va_P D vwCl (mW K o r f9 a10 g11) H := hP
      have hD : va_D A (mW K o r f9 a10 g11) := hD
      refine k_top (z := 0) (hw14) ?_
      refine lv_icmp_gt (tgt := 46) hx hb dX12_whose_16 (by decide) (fun c17 => ?_) (fun c17 => absurd (by decide +kernel) c17)
      refine lv_iload_n hx hb dX12_whose_46 rfl (lv_at hl 3 rfl) ?_
      refine lv_iconst (v := (-1)) hx hb dX12_whose_47 (by decide) ?_
      refine lv_icmp_ne (tgt := 55) hx hb dX12_whose_48 (by decide) (fun c18 => ?_) (fun c18 => ?_)
      · refine lv_iconst (v := (-1)) hx hb dX12_whose_55 (by decide) ?_
        exact kI_ret (v := (-1)) hx hb hr hlocks rfl hK hS dX12_whose_56 (f9, a10, g11) hP hD (by rw [if_pos c1, if_neg c13, if_neg c18])
      · refine lv_iload_n hx hb dX12_whose_51 rfl (lv_at hl 1 rfl) ?_
        refine lv_goto (tgt := 56) hx hb dX12_whose_52 (by decide) ?_
        exact kI_ret (v := 1) hx hb hr hlocks rfl hK hS dX12_whose_56 (f9, a10, g11) hP hD (by rw [if_pos c1, if_neg c13, if_pos c18])
    · refine lv_iload_n hx hb dX12_whose_35 rfl (lv_at hl 0 rfl) ?_
      exact kI_ret (v := 0) hx hb hr hlocks rfl hK hS dX12_whose_36 (f9, a10, g11) hP hD (by rw [if_pos c1, if_pos c13])
  · refine lv_iconst (v := (-1)) hx hb dX12_whose_5 (by decide) ?_
    exact kI_ret (v := (-1)) hx hb hr hlocks rfl hK hS dX12_whose_6 (f, a, g) hP hD (by rw [if_neg c1])
end
section
set_option maxHeartbeats 4000000 in
set_option maxRecDepth 100000 in
theorem c_back (l : Launch) {D : va_G} {K : Nat → ClassId} (o : Nat) (r : Nat → Nat) (f : Nat → Int32) (a : Nat → Nat → Int32) (g : Nat → Int64) (h0 : a 4 0 = 0) (h1 : a 4 1 = 0) (x : Int32)  : kI l yX12_back (Cond.code yX12_back cX12_back 3 (some .int) :: kG) (rmD 2 0 0) D (tysK K) [.ref o, .int x] (mW K o r f a g) (fun v (u : mS) => v = (if mLies x 0 1 = 0 then (-1 : Int32) else -2)) (fun u => mW K o r u.1 u.2.1 u.2.2) 0 0 := by
  refine kI.of (cc := cX12_back) (maxL := 3) (ret := (some .int)) (by decide) rfl (Nat.le_of_ble_eq_true rfl) ?_
  intro p e s m below meth c A hx hb hr hml hown hts hlocks hnm hK hP hD hS hA ls hl
  have hg : ∀ w ∈ kG, w.before _ s = true := fun w h => hts w (List.mem_cons_of_mem _ h)
  have hown : s.vm.findClass RX12 = some m.cls := hown
  have hl : lv_has ls 3 [(0, .ref o), (1, .int x)] := hl
  by_cases q1 : x = 0
  · subst q1
    have hl : lv_has ls 3 [(0, .ref o), (1, .int 0)] := hl
    refine lv_iload_n hx hb dX12_back_0 rfl (lv_at hl 1 rfl) ?_
    refine lv_iconst (v := 0) hx hb dX12_back_1 (by decide) ?_
    refine lv_iconst (v := 1) hx hb dX12_back_2 (by decide) ?_
    refine kN.callS (As := [.int 0, .int 0, .int 1]) (rest := []) ⟨hx, hb, hml, hown, hg⟩ (c_lies l 0 0 1) (va_cwS 3 hg (kgS wt6_69 wt6_70 wt1_14 wt6_71) rfl rfl rfl (by decide +kernel) ⟨by decide, by decide⟩) hP hS rfl hl.1 rfl (Nat.le_of_ble_eq_true rfl) dX12_back_3 ⟨by decide, by decide⟩ (fun v3 H locs hw2 hP hS => ?_)
    refine k_top (z := 1) (hw2.trans (by decide +kernel)) ?_
    refine lv_if_ne (tgt := 15) hx hb dX12_back_6 (by decide) (fun c4 => ?_) (fun c4 => absurd c4 (by decide +kernel))
    refine lv_aload_n hx hb dX12_back_15 rfl (lv_at hl 0 rfl) ?_
    refine va_get (D := D) (ci := 12) (v := .ref (r 4)) (C := RX12) (T := TX12) (N := 48) hx hb hg inC12 hown hK hP 0 rfl rfl 4 (by decide) (hg _ wt5_164) (fun _ h9 => h9) rfl dX12_back_16 ?_
    refine lv_iload_n hx hb dX12_back_19 rfl (lv_at hl 1 rfl) ?_
    refine va_zald hx hb hK hP 4 2 rfl rfl (k_in (by decide +kernel)) dX12_back_20 ?_
    refine k_top (z := 0) (by rw [cl_0]; exact h0) ?_
    refine lv_if_ne (tgt := 31) hx hb dX12_back_21 (by decide) (fun c5 => absurd (by decide +kernel) c5) (fun c5 => ?_)
    refine lv_aload_n hx hb dX12_back_24 rfl (lv_at hl 0 rfl) ?_
    refine lv_bipush (v := (-2)) hx hb dX12_back_25 (by decide) ?_
    refine kI.callV (As := [.int (-2)]) (rest := []) ⟨hx, hb, hml, hown, hg⟩ (c_refuses2 l o r f a g  ) (cwV 1 hg (kgV wt6_72 wt6_74 wp3_5 wt1_14 wt6_75) rfl rfl rfl (by decide +kernel) ⟨by decide, by decide⟩) hK hP hD hS hA mIs [] rfl (wr := []) rfl rfl rfl (fun i h => by cases h) 0 12 rfl rfl rfl hl.1 rfl (Nat.le_of_ble_eq_true rfl) dX12_back_27 ⟨by decide, by decide⟩ (fun v8 u7 H locs hw6 hP hD hS => ?_)
    obtain ⟨f9, a10, g11⟩ := u7
    have hP : va_P D vwCl (mW K o r f9 a10 g11) H := hP
    have hD : va_D A (mW K o r f9 a10 g11) := hD
    refine k_top (z := (-2)) (hw6) ?_
    exact kI_ret (v := (-2)) hx hb hr hlocks rfl hK hS dX12_back_30 (f9, a10, g11) hP hD (by decide +kernel)
  by_cases q12 : x = 1
  · subst q12
    have hl : lv_has ls 3 [(0, .ref o), (1, .int 1)] := hl
    refine lv_iload_n hx hb dX12_back_0 rfl (lv_at hl 1 rfl) ?_
    refine lv_iconst (v := 0) hx hb dX12_back_1 (by decide) ?_
    refine lv_iconst (v := 1) hx hb dX12_back_2 (by decide) ?_
    refine kN.callS (As := [.int 1, .int 0, .int 1]) (rest := []) ⟨hx, hb, hml, hown, hg⟩ (c_lies l 1 0 1) (va_cwS 3 hg (kgS wt6_69 wt6_70 wt1_14 wt6_71) rfl rfl rfl (by decide +kernel) ⟨by decide, by decide⟩) hP hS rfl hl.1 rfl (Nat.le_of_ble_eq_true rfl) dX12_back_3 ⟨by decide, by decide⟩ (fun v14 H locs hw13 hP hS => ?_)
    refine k_top (z := 1) (hw13.trans (by decide +kernel)) ?_
    refine lv_if_ne (tgt := 15) hx hb dX12_back_6 (by decide) (fun c15 => ?_) (fun c15 => absurd c15 (by decide +kernel))
    refine lv_aload_n hx hb dX12_back_15 rfl (lv_at hl 0 rfl) ?_
    refine va_get (D := D) (ci := 12) (v := .ref (r 4)) (C := RX12) (T := TX12) (N := 48) hx hb hg inC12 hown hK hP 0 rfl rfl 4 (by decide) (hg _ wt5_164) (fun _ h9 => h9) rfl dX12_back_16 ?_
    refine lv_iload_n hx hb dX12_back_19 rfl (lv_at hl 1 rfl) ?_
    refine va_zald hx hb hK hP 4 2 rfl rfl (k_in (by decide +kernel)) dX12_back_20 ?_
    refine k_top (z := 0) (by rw [cl_1]; exact h1) ?_
    refine lv_if_ne (tgt := 31) hx hb dX12_back_21 (by decide) (fun c16 => absurd (by decide +kernel) c16) (fun c16 => ?_)
    refine lv_aload_n hx hb dX12_back_24 rfl (lv_at hl 0 rfl) ?_
    refine lv_bipush (v := (-2)) hx hb dX12_back_25 (by decide) ?_
    refine kI.callV (As := [.int (-2)]) (rest := []) ⟨hx, hb, hml, hown, hg⟩ (c_refuses2 l o r f a g  ) (cwV 1 hg (kgV wt6_72 wt6_74 wp3_5 wt1_14 wt6_75) rfl rfl rfl (by decide +kernel) ⟨by decide, by decide⟩) hK hP hD hS hA mIs [] rfl (wr := []) rfl rfl rfl (fun i h => by cases h) 0 12 rfl rfl rfl hl.1 rfl (Nat.le_of_ble_eq_true rfl) dX12_back_27 ⟨by decide, by decide⟩ (fun v19 u18 H locs hw17 hP hD hS => ?_)
    obtain ⟨f20, a21, g22⟩ := u18
    have hP : va_P D vwCl (mW K o r f20 a21 g22) H := hP
    have hD : va_D A (mW K o r f20 a21 g22) := hD
    refine k_top (z := (-2)) (hw17) ?_
    exact kI_ret (v := (-2)) hx hb hr hlocks rfl hK hS dX12_back_30 (f20, a21, g22) hP hD (by decide +kernel)
  refine lv_iload_n hx hb dX12_back_0 rfl (lv_at hl 1 rfl) ?_
  refine lv_iconst (v := 0) hx hb dX12_back_1 (by decide) ?_
  refine lv_iconst (v := 1) hx hb dX12_back_2 (by decide) ?_
  refine kN.callS (As := [.int x, .int 0, .int 1]) (rest := []) ⟨hx, hb, hml, hown, hg⟩ (c_lies l x 0 1) (va_cwS 3 hg (kgS wt6_69 wt6_70 wt1_14 wt6_71) rfl rfl rfl (by decide +kernel) ⟨by decide, by decide⟩) hP hS rfl hl.1 rfl (Nat.le_of_ble_eq_true rfl) dX12_back_3 ⟨by decide, by decide⟩ (fun v24 H locs hw23 hP hS => ?_)
  refine k_top (z := mLies x 0 1) hw23 ?_
  refine lv_if_ne (tgt := 15) hx hb dX12_back_6 (by decide) (fun c25 => absurd (mLies_q q1 q12) c25) (fun c25 => ?_)
  refine lv_aload_n hx hb dX12_back_9 rfl (lv_at hl 0 rfl) ?_
  refine lv_iconst (v := (-1)) hx hb dX12_back_10 (by decide) ?_
  refine kI.callV (As := [.int (-1)]) (rest := []) ⟨hx, hb, hml, hown, hg⟩ (c_refuses1 l o r f a g  ) (cwV 1 hg (kgV wt6_72 wt6_74 wp3_5 wt1_14 wt6_75) rfl rfl rfl (by decide +kernel) ⟨by decide, by decide⟩) hK hP hD hS hA mIs [] rfl (wr := []) rfl rfl rfl (fun i h => by cases h) 0 12 rfl rfl rfl hl.1 rfl (Nat.le_of_ble_eq_true rfl) dX12_back_11 ⟨by decide, by decide⟩ (fun v28 u27 H locs hw26 hP hD hS => ?_)
  obtain ⟨f29, a30, g31⟩ := u27
  have hP : va_P D vwCl (mW K o r f29 a30 g31) H := hP
  have hD : va_D A (mW K o r f29 a30 g31) := hD
  refine k_top (z := (-1)) (hw26) ?_
  exact kI_ret (v := (-1)) hx hb hr hlocks rfl hK hS dX12_back_14 (f29, a30, g31) hP hD (by rw [if_pos (mLies_q q1 q12)])
set_option maxHeartbeats 4000000 in
set_option maxRecDepth 100000 in
theorem c_image (l : Launch) {D : va_G} {K : Nat → ClassId} (o : Nat) (r : Nat → Nat) (f : Nat → Int32) (a : Nat → Nat → Int32) (g : Nat → Int64)  (x : Int32)  : kI l yX12_image (Cond.code yX12_image cX12_image 3 (some .int) :: kG) (rmD 2 0 0) D (tysK K) [.ref o, .int x] (mW K o r f a g) (fun v (u : mS) => v = (if mLies x 0 1 = 0 then (-1 : Int32) else 0)) (fun u => mW K o r u.1 u.2.1 u.2.2) 0 0 := by
  refine kI.of (cc := cX12_image) (maxL := 3) (ret := (some .int)) (by decide) rfl (Nat.le_of_ble_eq_true rfl) ?_
  intro p e s m below meth c A hx hb hr hml hown hts hlocks hnm hK hP hD hS hA ls hl
  have hg : ∀ w ∈ kG, w.before _ s = true := fun w h => hts w (List.mem_cons_of_mem _ h)
  have hown : s.vm.findClass RX12 = some m.cls := hown
  have hl : lv_has ls 3 [(0, .ref o), (1, .int x)] := hl
  by_cases q1 : x = 0
  · subst q1
    have hl : lv_has ls 3 [(0, .ref o), (1, .int 0)] := hl
    refine lv_iload_n hx hb dX12_image_0 rfl (lv_at hl 1 rfl) ?_
    refine lv_iconst (v := 0) hx hb dX12_image_1 (by decide) ?_
    refine lv_iconst (v := 1) hx hb dX12_image_2 (by decide) ?_
    refine kN.callS (As := [.int 0, .int 0, .int 1]) (rest := []) ⟨hx, hb, hml, hown, hg⟩ (c_lies l 0 0 1) (va_cwS 3 hg (kgS wt6_69 wt6_70 wt1_14 wt6_71) rfl rfl rfl (by decide +kernel) ⟨by decide, by decide⟩) hP hS rfl hl.1 rfl (Nat.le_of_ble_eq_true rfl) dX12_image_3 ⟨by decide, by decide⟩ (fun v3 H locs hw2 hP hS => ?_)
    refine k_top (z := 1) (hw2.trans (by decide +kernel)) ?_
    refine lv_if_ne (tgt := 15) hx hb dX12_image_6 (by decide) (fun c4 => ?_) (fun c4 => absurd c4 (by decide +kernel))
    refine lv_iconst (v := 0) hx hb dX12_image_15 (by decide) ?_
    refine lv_istore_n (lv' := [(2, .int 0), (0, .ref o), (1, .int 0)]) hx hb dX12_image_16 rfl hl (by decide) rfl (fun ls hl => ?_)
    have lp5 : ∀ (n i : Nat) (F : Nat → Int32) (B : Nat → Nat → Int32) (G : Nat → Int64) (H : Heap) (locs : List Loc) (ls : Array Slot), i + n = 5714 →  va_P D vwCl (mW K o r F B G) H → va_D A (mW K o r F B G) → va_S A s.heap H locs → lv_has ls 3 [(2, .int (nI i)), (0, .ref o), (1, .int 0)] → W p l e (rmD 2 0 0) s m ([.ref o, .int 0] : List Value).toArray below meth c H locs 0 0 (kQi D (tysK K) (fun v (u : mS) => v = (if mLies 0 0 1 = 0 then (-1 : Int32) else 0)) (fun u => mW K o r u.1 u.2.1 u.2.2) A below ([.ref o, .int 0] : List Value).toArray s 0 0) (F0 m 17 ls []) := by
      intro n
      induction n with
      | zero =>
        intro i F B G H locs ls hin  hP hD hS hl
        obtain rfl : 5714 = i := by omega
        have hl : lv_has ls 3 [(2, .int 5714), (0, .ref o), (1, .int 0)] := hl
        refine lv_iload_n hx hb dX12_image_17 rfl (lv_at hl 0 rfl) ?_
        refine lv_sipush (v := 5714) hx hb dX12_image_18 (by decide) ?_
        refine lv_icmp_ge (tgt := 48) hx hb dX12_image_21 (by decide) (fun c6 => ?_) (fun c6 => absurd (by decide +kernel) c6)
        refine lv_aload_n hx hb dX12_image_48 rfl (lv_at hl 1 rfl) ?_
        refine va_get (D := D) (ci := 12) (v := .ref (r 4)) (C := RX12) (T := TX12) (N := 48) hx hb hg inC12 hown hK hP 0 rfl rfl 4 (by decide) (hg _ wt5_164) (fun _ h9 => h9) rfl dX12_image_49 ?_
        refine lv_iload_n hx hb dX12_image_52 rfl (lv_at hl 2 rfl) ?_
        refine lv_iconst (v := 1) hx hb dX12_image_53 (by decide) ?_
        refine va_zast hx hb hK hP hD hS 4 2 rfl rfl (k_in (by decide +kernel)) dX12_image_54 (fun H locs hP hD hS => ?_)
        rw [cl_0] at hP hD
        have hP : va_P D vwCl (mW K o r F (va_up B 4 (upd (B 4) 0 (vp_nar .boolean 1))) G) H := hP
        have hD : va_D A (mW K o r F (va_up B 4 (upd (B 4) 0 (vp_nar .boolean 1))) G) := hD
        generalize ea_7 : va_up B 4 (upd (B 4) 0 (vp_nar .boolean 1)) = a_7 at hP hD
        refine lv_aload_n hx hb dX12_image_55 rfl (lv_at hl 1 rfl) ?_
        refine lv_iconst (v := 0) hx hb dX12_image_56 (by decide) ?_
        refine kI.callV (As := [.int 0]) (rest := []) ⟨hx, hb, hml, hown, hg⟩ (c_good l o r F a_7 G  0) (cwV 1 hg (kgV wt6_76 wt6_78 wp3_6 wt1_14 wt6_79) rfl rfl rfl (by decide +kernel) ⟨by decide, by decide⟩) hK hP hD hS hA mIs [] rfl (wr := []) rfl rfl rfl (fun i h => by cases h) 0 12 rfl rfl rfl hl.1 rfl (Nat.le_of_ble_eq_true rfl) dX12_image_57 ⟨by decide, by decide⟩ (fun v10 u9 H locs hw8 hP hD hS => ?_)
        obtain ⟨f11, a12, g13⟩ := u9
        have hP : va_P D vwCl (mW K o r f11 a12 g13) H := hP
        have hD : va_D A (mW K o r f11 a12 g13) := hD
        refine k_top (z := 0) (hw8) ?_
        exact kI_ret (v := 0) hx hb hr hlocks rfl hK hS dX12_image_60 (f11, a12, g13) hP hD (by decide +kernel)
      | succ n ih =>
        intro i F B G H locs ls hin  hP hD hS hl
        have hlt : i < 5714 := by omega
        refine lv_iload_n hx hb dX12_image_17 rfl (lv_at hl 0 rfl) ?_
        refine lv_sipush (v := 5714) hx hb dX12_image_18 (by decide) ?_
        refine lv_icmp_ge (tgt := 48) hx hb dX12_image_21 (by decide) (fun c14 => absurd c14 (nI_ge (b := 5714) hlt (by decide))) (fun c14 => ?_)
        refine lv_aload_n hx hb dX12_image_24 rfl (lv_at hl 1 rfl) ?_
        refine va_get (D := D) (ci := 12) (v := .ref (r 3)) (C := RX12) (T := TX12) (N := 48) hx hb hg inC12 hown hK hP 0 rfl rfl 3 (by decide) (hg _ wt5_163) (fun _ h9 => h9) rfl dX12_image_25 ?_
        refine lv_sipush (v := 5714) hx hb dX12_image_28 (by decide) ?_
        refine lv_iload_n hx hb dX12_image_31 rfl (lv_at hl 2 rfl) ?_
        refine lv_imul hx hb dX12_image_32 ?_
        refine k_top (z := 0) (by decide +kernel) ?_
        refine lv_iload_n hx hb dX12_image_33 rfl (lv_at hl 0 rfl) ?_
        refine lv_iadd hx hb dX12_image_34 ?_
        refine k_top (z := nI (0 + i)) (nI_add 0 i) ?_
        refine lv_aload_n hx hb dX12_image_35 rfl (lv_at hl 1 rfl) ?_
        refine va_get (D := D) (ci := 12) (v := .ref (r 2)) (C := RX12) (T := TX12) (N := 48) hx hb hg inC12 hown hK hP 0 rfl rfl 2 (by decide) (hg _ wt5_162) (fun _ h9 => h9) rfl dX12_image_36 ?_
        refine lv_iload_n hx hb dX12_image_39 rfl (lv_at hl 0 rfl) ?_
        refine va_iald hx hb hK hP 2 0 rfl rfl (vp_in_nI (by omega) (by decide)) dX12_image_40 ?_
        refine lv_topi (fun t15 et15 => ?_)
        rw [nI_clamp (n := i) (by omega)] at et15
        refine va_iast hx hb hK hP hD hS 3 0 rfl rfl (vp_in_nI (by omega) (by decide)) dX12_image_41 (fun H locs hP hD hS => ?_)
        rw [nI_clamp (n := (0 + i)) (by omega)] at hP hD
        have hP : va_P D vwCl (mW K o r F (va_up B 3 (upd (B 3) (0 + i) t15)) G) H := hP
        have hD : va_D A (mW K o r F (va_up B 3 (upd (B 3) (0 + i) t15)) G) := hD
        generalize ea_16 : va_up B 3 (upd (B 3) (0 + i) t15) = a_16 at hP hD
        refine lv_iinc (v := nI (i + 1)) (lv' := [(2, .int (nI (i + 1))), (0, .ref o), (1, .int 0)]) hx hb dX12_image_42 hl (k := 0) rfl (nI_1 _) (by decide) rfl (fun ls hl => ?_)
        refine lv_goto (tgt := 17) hx hb dX12_image_45 (by decide) ?_
        exact ih (i + 1) F a_16 G _ _ _ (by omega)  hP hD hS (lv_sub hl [0, 1, 2] rfl)
    exact lp5 (5714 - 0) 0 f a g _ _ _ (by omega)  hP hD hS hl
  by_cases q17 : x = 1
  · subst q17
    have hl : lv_has ls 3 [(0, .ref o), (1, .int 1)] := hl
    refine lv_iload_n hx hb dX12_image_0 rfl (lv_at hl 1 rfl) ?_
    refine lv_iconst (v := 0) hx hb dX12_image_1 (by decide) ?_
    refine lv_iconst (v := 1) hx hb dX12_image_2 (by decide) ?_
    refine kN.callS (As := [.int 1, .int 0, .int 1]) (rest := []) ⟨hx, hb, hml, hown, hg⟩ (c_lies l 1 0 1) (va_cwS 3 hg (kgS wt6_69 wt6_70 wt1_14 wt6_71) rfl rfl rfl (by decide +kernel) ⟨by decide, by decide⟩) hP hS rfl hl.1 rfl (Nat.le_of_ble_eq_true rfl) dX12_image_3 ⟨by decide, by decide⟩ (fun v19 H locs hw18 hP hS => ?_)
    refine k_top (z := 1) (hw18.trans (by decide +kernel)) ?_
    refine lv_if_ne (tgt := 15) hx hb dX12_image_6 (by decide) (fun c20 => ?_) (fun c20 => absurd c20 (by decide +kernel))
    refine lv_iconst (v := 0) hx hb dX12_image_15 (by decide) ?_
    refine lv_istore_n (lv' := [(2, .int 0), (0, .ref o), (1, .int 1)]) hx hb dX12_image_16 rfl hl (by decide) rfl (fun ls hl => ?_)
    have lp21 : ∀ (n i : Nat) (F : Nat → Int32) (B : Nat → Nat → Int32) (G : Nat → Int64) (H : Heap) (locs : List Loc) (ls : Array Slot), i + n = 5714 →  va_P D vwCl (mW K o r F B G) H → va_D A (mW K o r F B G) → va_S A s.heap H locs → lv_has ls 3 [(2, .int (nI i)), (0, .ref o), (1, .int 1)] → W p l e (rmD 2 0 0) s m ([.ref o, .int 1] : List Value).toArray below meth c H locs 0 0 (kQi D (tysK K) (fun v (u : mS) => v = (if mLies 1 0 1 = 0 then (-1 : Int32) else 0)) (fun u => mW K o r u.1 u.2.1 u.2.2) A below ([.ref o, .int 1] : List Value).toArray s 0 0) (F0 m 17 ls []) := by
      intro n
      induction n with
      | zero =>
        intro i F B G H locs ls hin  hP hD hS hl
        obtain rfl : 5714 = i := by omega
        have hl : lv_has ls 3 [(2, .int 5714), (0, .ref o), (1, .int 1)] := hl
        refine lv_iload_n hx hb dX12_image_17 rfl (lv_at hl 0 rfl) ?_
        refine lv_sipush (v := 5714) hx hb dX12_image_18 (by decide) ?_
        refine lv_icmp_ge (tgt := 48) hx hb dX12_image_21 (by decide) (fun c22 => ?_) (fun c22 => absurd (by decide +kernel) c22)
        refine lv_aload_n hx hb dX12_image_48 rfl (lv_at hl 1 rfl) ?_
        refine va_get (D := D) (ci := 12) (v := .ref (r 4)) (C := RX12) (T := TX12) (N := 48) hx hb hg inC12 hown hK hP 0 rfl rfl 4 (by decide) (hg _ wt5_164) (fun _ h9 => h9) rfl dX12_image_49 ?_
        refine lv_iload_n hx hb dX12_image_52 rfl (lv_at hl 2 rfl) ?_
        refine lv_iconst (v := 1) hx hb dX12_image_53 (by decide) ?_
        refine va_zast hx hb hK hP hD hS 4 2 rfl rfl (k_in (by decide +kernel)) dX12_image_54 (fun H locs hP hD hS => ?_)
        rw [cl_1] at hP hD
        have hP : va_P D vwCl (mW K o r F (va_up B 4 (upd (B 4) 1 (vp_nar .boolean 1))) G) H := hP
        have hD : va_D A (mW K o r F (va_up B 4 (upd (B 4) 1 (vp_nar .boolean 1))) G) := hD
        generalize ea_23 : va_up B 4 (upd (B 4) 1 (vp_nar .boolean 1)) = a_23 at hP hD
        refine lv_aload_n hx hb dX12_image_55 rfl (lv_at hl 1 rfl) ?_
        refine lv_iconst (v := 0) hx hb dX12_image_56 (by decide) ?_
        refine kI.callV (As := [.int 0]) (rest := []) ⟨hx, hb, hml, hown, hg⟩ (c_good l o r F a_23 G  0) (cwV 1 hg (kgV wt6_76 wt6_78 wp3_6 wt1_14 wt6_79) rfl rfl rfl (by decide +kernel) ⟨by decide, by decide⟩) hK hP hD hS hA mIs [] rfl (wr := []) rfl rfl rfl (fun i h => by cases h) 0 12 rfl rfl rfl hl.1 rfl (Nat.le_of_ble_eq_true rfl) dX12_image_57 ⟨by decide, by decide⟩ (fun v26 u25 H locs hw24 hP hD hS => ?_)
        obtain ⟨f27, a28, g29⟩ := u25
        have hP : va_P D vwCl (mW K o r f27 a28 g29) H := hP
        have hD : va_D A (mW K o r f27 a28 g29) := hD
        refine k_top (z := 0) (hw24) ?_
        exact kI_ret (v := 0) hx hb hr hlocks rfl hK hS dX12_image_60 (f27, a28, g29) hP hD (by decide +kernel)
      | succ n ih =>
        intro i F B G H locs ls hin  hP hD hS hl
        have hlt : i < 5714 := by omega
        refine lv_iload_n hx hb dX12_image_17 rfl (lv_at hl 0 rfl) ?_
        refine lv_sipush (v := 5714) hx hb dX12_image_18 (by decide) ?_
        refine lv_icmp_ge (tgt := 48) hx hb dX12_image_21 (by decide) (fun c30 => absurd c30 (nI_ge (b := 5714) hlt (by decide))) (fun c30 => ?_)
        refine lv_aload_n hx hb dX12_image_24 rfl (lv_at hl 1 rfl) ?_
        refine va_get (D := D) (ci := 12) (v := .ref (r 3)) (C := RX12) (T := TX12) (N := 48) hx hb hg inC12 hown hK hP 0 rfl rfl 3 (by decide) (hg _ wt5_163) (fun _ h9 => h9) rfl dX12_image_25 ?_
        refine lv_sipush (v := 5714) hx hb dX12_image_28 (by decide) ?_
        refine lv_iload_n hx hb dX12_image_31 rfl (lv_at hl 2 rfl) ?_
        refine lv_imul hx hb dX12_image_32 ?_
        refine k_top (z := 5714) (by decide +kernel) ?_
        refine lv_iload_n hx hb dX12_image_33 rfl (lv_at hl 0 rfl) ?_
        refine lv_iadd hx hb dX12_image_34 ?_
        refine k_top (z := nI (5714 + i)) (nI_add 5714 i) ?_
        refine lv_aload_n hx hb dX12_image_35 rfl (lv_at hl 1 rfl) ?_
        refine va_get (D := D) (ci := 12) (v := .ref (r 2)) (C := RX12) (T := TX12) (N := 48) hx hb hg inC12 hown hK hP 0 rfl rfl 2 (by decide) (hg _ wt5_162) (fun _ h9 => h9) rfl dX12_image_36 ?_
        refine lv_iload_n hx hb dX12_image_39 rfl (lv_at hl 0 rfl) ?_
        refine va_iald hx hb hK hP 2 0 rfl rfl (vp_in_nI (by omega) (by decide)) dX12_image_40 ?_
        refine lv_topi (fun t31 et31 => ?_)
        rw [nI_clamp (n := i) (by omega)] at et31
        refine va_iast hx hb hK hP hD hS 3 0 rfl rfl (vp_in_nI (by omega) (by decide)) dX12_image_41 (fun H locs hP hD hS => ?_)
        rw [nI_clamp (n := (5714 + i)) (by omega)] at hP hD
        have hP : va_P D vwCl (mW K o r F (va_up B 3 (upd (B 3) (5714 + i) t31)) G) H := hP
        have hD : va_D A (mW K o r F (va_up B 3 (upd (B 3) (5714 + i) t31)) G) := hD
        generalize ea_32 : va_up B 3 (upd (B 3) (5714 + i) t31) = a_32 at hP hD
        refine lv_iinc (v := nI (i + 1)) (lv' := [(2, .int (nI (i + 1))), (0, .ref o), (1, .int 1)]) hx hb dX12_image_42 hl (k := 0) rfl (nI_1 _) (by decide) rfl (fun ls hl => ?_)
        refine lv_goto (tgt := 17) hx hb dX12_image_45 (by decide) ?_
        exact ih (i + 1) F a_32 G _ _ _ (by omega)  hP hD hS (lv_sub hl [0, 1, 2] rfl)
    exact lp21 (5714 - 0) 0 f a g _ _ _ (by omega)  hP hD hS hl
  refine lv_iload_n hx hb dX12_image_0 rfl (lv_at hl 1 rfl) ?_
  refine lv_iconst (v := 0) hx hb dX12_image_1 (by decide) ?_
  refine lv_iconst (v := 1) hx hb dX12_image_2 (by decide) ?_
  refine kN.callS (As := [.int x, .int 0, .int 1]) (rest := []) ⟨hx, hb, hml, hown, hg⟩ (c_lies l x 0 1) (va_cwS 3 hg (kgS wt6_69 wt6_70 wt1_14 wt6_71) rfl rfl rfl (by decide +kernel) ⟨by decide, by decide⟩) hP hS rfl hl.1 rfl (Nat.le_of_ble_eq_true rfl) dX12_image_3 ⟨by decide, by decide⟩ (fun v34 H locs hw33 hP hS => ?_)
  refine k_top (z := mLies x 0 1) hw33 ?_
  refine lv_if_ne (tgt := 15) hx hb dX12_image_6 (by decide) (fun c35 => absurd (mLies_q q1 q17) c35) (fun c35 => ?_)
  refine lv_aload_n hx hb dX12_image_9 rfl (lv_at hl 0 rfl) ?_
  refine lv_iconst (v := (-1)) hx hb dX12_image_10 (by decide) ?_
  refine kI.callV (As := [.int (-1)]) (rest := []) ⟨hx, hb, hml, hown, hg⟩ (c_refuses1 l o r f a g  ) (cwV 1 hg (kgV wt6_72 wt6_74 wp3_5 wt1_14 wt6_75) rfl rfl rfl (by decide +kernel) ⟨by decide, by decide⟩) hK hP hD hS hA mIs [] rfl (wr := []) rfl rfl rfl (fun i h => by cases h) 0 12 rfl rfl rfl hl.1 rfl (Nat.le_of_ble_eq_true rfl) dX12_image_11 ⟨by decide, by decide⟩ (fun v38 u37 H locs hw36 hP hD hS => ?_)
  obtain ⟨f39, a40, g41⟩ := u37
  have hP : va_P D vwCl (mW K o r f39 a40 g41) H := hP
  have hD : va_D A (mW K o r f39 a40 g41) := hD
  refine k_top (z := (-1)) (hw36) ?_
  exact kI_ret (v := (-1)) hx hb hr hlocks rfl hK hS dX12_image_14 (f39, a40, g41) hP hD (by rw [if_pos (mLies_q q1 q17)])
set_option maxHeartbeats 4000000 in
set_option maxRecDepth 100000 in
theorem c_count (l : Launch) {D : va_G} {K : Nat → ClassId} (o : Nat) (r : Nat → Nat) (f : Nat → Int32) (a : Nat → Nat → Int32) (g : Nat → Int64) (h0 : a 2 102 = 0) (h1 : a 2 103 = 0) (h2 : a 2 104 = 0) (h3 : a 2 105 = 0) (h4 : f 33 = 0) (h5 : f 13 = 0) (h6 : a 1 1 = 0) (h7 : a 1 2 = 0) (h8 : a 1 3 = 0) (h9 : a 1 5 = 0) (h10 : a 1 6 = 0) (h11 : a 2 106 = (-1)) (h12 : a 2 22 = 0) (h13 : a 2 99 = 30) (h14 : a 2 100 = 2) (h15 : a 2 101 = 0) (x : Int32)  : kI l yX12_count (Cond.code yX12_count cX12_count 2 (some .int) :: kG) (rmD 2 0 0) D (tysK K) [.ref o, .int x] (mW K o r f a g) (fun v (_ : Unit) => v = mCount x) (fun _ => mW K o r f a g) 0 0 := by
  refine kI.of (cc := cX12_count) (maxL := 2) (ret := (some .int)) (by decide) rfl (Nat.le_of_ble_eq_true rfl) ?_
  intro p e s m below meth c A hx hb hr hml hown hts hlocks hnm hK hP hD hS hA ls hl
  have hg : ∀ w ∈ kG, w.before _ s = true := fun w h => hts w (List.mem_cons_of_mem _ h)
  have hown : s.vm.findClass RX12 = some m.cls := hown
  have hl : lv_has ls 2 [(0, .ref o), (1, .int x)] := hl
  refine lv_iload_n hx hb dX12_count_0 rfl (lv_at hl 1 rfl) ?_
  by_cases q1 : x = 0
  · subst q1
    refine lv_tableIn (tgt := 84) hx hb dX12_count_1 (by decide +kernel) (by decide +kernel) (by rfl) (by decide) ?_
    refine lv_aload_n hx hb dX12_count_84 rfl (lv_at hl 0 rfl) ?_
    refine va_get (D := D) (ci := 12) (v := .ref (r 2)) (C := RX12) (T := TX12) (N := 48) hx hb hg inC12 hown hK hP 0 rfl rfl 2 (by decide) (hg _ wt5_162) (fun _ h9 => h9) rfl dX12_count_85 ?_
    refine lv_bipush (v := 102) hx hb dX12_count_88 (by decide) ?_
    refine va_iald hx hb hK hP 2 0 rfl rfl (k_in (by decide +kernel)) dX12_count_90 ?_
    refine k_top (z := 0) (by rw [cl_102]; exact h0) ?_
    exact kI_ret (v := 0) hx hb hr hlocks rfl hK hS dX12_count_91 () hP hD (by decide +kernel)
  by_cases q2 : x = 1
  · subst q2
    refine lv_tableIn (tgt := 92) hx hb dX12_count_1 (by decide +kernel) (by decide +kernel) (by rfl) (by decide) ?_
    refine lv_aload_n hx hb dX12_count_92 rfl (lv_at hl 0 rfl) ?_
    refine kI.callV (As := []) (rest := []) ⟨hx, hb, hml, hown, hg⟩ (c_standing l o r f a g h0 ) (cwV 0 hg (kgV wt6_116 wt6_118 wp3_13 wt1_14 wt6_119) rfl rfl rfl (by decide +kernel) ⟨by decide, by decide⟩) hK hP hD hS hA mIs [] rfl (wr := []) rfl rfl rfl (fun i h => by cases h) 0 12 rfl rfl rfl hl.1 rfl (Nat.le_of_ble_eq_true rfl) dX12_count_93 ⟨by decide, by decide⟩ (fun v5 u4 H locs hw3 hP hD hS => ?_)
    have hP : va_P D vwCl (mW K o r f a g) H := hP
    have hD : va_D A (mW K o r f a g) := hD
    refine k_top (z := 0) (hw3) ?_
    refine kN.callS (As := [.int 0]) (rest := []) ⟨hx, hb, hml, hown, hg⟩ (c_ones0 l ) (va_cwS 1 hg (kgS wt7_71 wt7_72 wt1_14 wt7_73) rfl rfl rfl (by decide +kernel) ⟨by decide, by decide⟩) hP hS rfl hl.1 rfl (Nat.le_of_ble_eq_true rfl) dX12_count_96 ⟨by decide, by decide⟩ (fun v7 H locs hw6 hP hS => ?_)
    refine k_top (z := 0) (hw6) ?_
    exact kI_ret (v := 0) hx hb hr hlocks rfl hK hS dX12_count_99 () hP hD (by decide +kernel)
  by_cases q8 : x = 2
  · subst q8
    refine lv_tableIn (tgt := 100) hx hb dX12_count_1 (by decide +kernel) (by decide +kernel) (by rfl) (by decide) ?_
    refine lv_aload_n hx hb dX12_count_100 rfl (lv_at hl 0 rfl) ?_
    refine va_get (D := D) (ci := 12) (v := .ref (r 2)) (C := RX12) (T := TX12) (N := 48) hx hb hg inC12 hown hK hP 0 rfl rfl 2 (by decide) (hg _ wt5_162) (fun _ h9 => h9) rfl dX12_count_101 ?_
    refine lv_bipush (v := 103) hx hb dX12_count_104 (by decide) ?_
    refine va_iald hx hb hK hP 2 0 rfl rfl (k_in (by decide +kernel)) dX12_count_106 ?_
    refine k_top (z := 0) (by rw [cl_103]; exact h1) ?_
    exact kI_ret (v := 0) hx hb hr hlocks rfl hK hS dX12_count_107 () hP hD (by decide +kernel)
  by_cases q9 : x = 3
  · subst q9
    refine lv_tableIn (tgt := 108) hx hb dX12_count_1 (by decide +kernel) (by decide +kernel) (by rfl) (by decide) ?_
    refine lv_aload_n hx hb dX12_count_108 rfl (lv_at hl 0 rfl) ?_
    refine va_get (D := D) (ci := 12) (v := .ref (r 2)) (C := RX12) (T := TX12) (N := 48) hx hb hg inC12 hown hK hP 0 rfl rfl 2 (by decide) (hg _ wt5_162) (fun _ h9 => h9) rfl dX12_count_109 ?_
    refine lv_bipush (v := 104) hx hb dX12_count_112 (by decide) ?_
    refine va_iald hx hb hK hP 2 0 rfl rfl (k_in (by decide +kernel)) dX12_count_114 ?_
    refine k_top (z := 0) (by rw [cl_104]; exact h2) ?_
    exact kI_ret (v := 0) hx hb hr hlocks rfl hK hS dX12_count_115 () hP hD (by decide +kernel)
  by_cases q10 : x = 4
  · subst q10
    refine lv_tableIn (tgt := 116) hx hb dX12_count_1 (by decide +kernel) (by decide +kernel) (by rfl) (by decide) ?_
    refine lv_aload_n hx hb dX12_count_116 rfl (lv_at hl 0 rfl) ?_
    refine va_get (D := D) (ci := 12) (v := .ref (r 2)) (C := RX12) (T := TX12) (N := 48) hx hb hg inC12 hown hK hP 0 rfl rfl 2 (by decide) (hg _ wt5_162) (fun _ h9 => h9) rfl dX12_count_117 ?_
    refine lv_bipush (v := 105) hx hb dX12_count_120 (by decide) ?_
    refine va_iald hx hb hK hP 2 0 rfl rfl (k_in (by decide +kernel)) dX12_count_122 ?_
    refine k_top (z := 0) (by rw [cl_105]; exact h3) ?_
    exact kI_ret (v := 0) hx hb hr hlocks rfl hK hS dX12_count_123 () hP hD (by decide +kernel)
  by_cases q11 : x = 5
  · subst q11
    refine lv_tableIn (tgt := 124) hx hb dX12_count_1 (by decide +kernel) (by decide +kernel) (by rfl) (by decide) ?_
    refine lv_aload_n hx hb dX12_count_124 rfl (lv_at hl 0 rfl) ?_
    refine va_get (D := D) (ci := 12) (v := .int (f 33)) (C := RX12) (T := TX12) (N := 48) hx hb hg inC12 hown hK hP 0 rfl rfl 33 (by decide) (hg _ wt5_193) (fun _ h9 => h9) rfl dX12_count_125 ?_
    refine k_top (z := 0) h4 ?_
    exact kI_ret (v := 0) hx hb hr hlocks rfl hK hS dX12_count_128 () hP hD (by decide +kernel)
  by_cases q12 : x = 6
  · subst q12
    refine lv_tableIn (tgt := 129) hx hb dX12_count_1 (by decide +kernel) (by decide +kernel) (by rfl) (by decide) ?_
    refine lv_aload_n hx hb dX12_count_129 rfl (lv_at hl 0 rfl) ?_
    refine va_get (D := D) (ci := 12) (v := .int (f 13)) (C := RX12) (T := TX12) (N := 48) hx hb hg inC12 hown hK hP 0 rfl rfl 13 (by decide) (hg _ wt5_173) (fun _ h9 => h9) rfl dX12_count_130 ?_
    refine k_top (z := 0) h5 ?_
    exact kI_ret (v := 0) hx hb hr hlocks rfl hK hS dX12_count_133 () hP hD (by decide +kernel)
  by_cases q13 : x = 7
  · subst q13
    refine lv_tableIn (tgt := 134) hx hb dX12_count_1 (by decide +kernel) (by decide +kernel) (by rfl) (by decide) ?_
    refine lv_aload_n hx hb dX12_count_134 rfl (lv_at hl 0 rfl) ?_
    refine va_get (D := D) (ci := 12) (v := .ref (r 1)) (C := RX12) (T := TX12) (N := 48) hx hb hg inC12 hown hK hP 0 rfl rfl 1 (by decide) (hg _ wt5_161) (fun _ h9 => h9) rfl dX12_count_135 ?_
    refine lv_iload_n hx hb dX12_count_138 rfl (lv_at hl 1 rfl) ?_
    refine lv_bipush (v := 6) hx hb dX12_count_139 (by decide) ?_
    refine lv_isub hx hb dX12_count_141 ?_
    refine k_top (z := 1) (by decide +kernel) ?_
    refine va_iald hx hb hK hP 1 0 rfl rfl (k_in (by decide +kernel)) dX12_count_142 ?_
    refine k_top (z := 0) (by rw [cl_1]; exact h6) ?_
    exact kI_ret (v := 0) hx hb hr hlocks rfl hK hS dX12_count_143 () hP hD (by decide +kernel)
  by_cases q14 : x = 8
  · subst q14
    refine lv_tableIn (tgt := 134) hx hb dX12_count_1 (by decide +kernel) (by decide +kernel) (by rfl) (by decide) ?_
    refine lv_aload_n hx hb dX12_count_134 rfl (lv_at hl 0 rfl) ?_
    refine va_get (D := D) (ci := 12) (v := .ref (r 1)) (C := RX12) (T := TX12) (N := 48) hx hb hg inC12 hown hK hP 0 rfl rfl 1 (by decide) (hg _ wt5_161) (fun _ h9 => h9) rfl dX12_count_135 ?_
    refine lv_iload_n hx hb dX12_count_138 rfl (lv_at hl 1 rfl) ?_
    refine lv_bipush (v := 6) hx hb dX12_count_139 (by decide) ?_
    refine lv_isub hx hb dX12_count_141 ?_
    refine k_top (z := 2) (by decide +kernel) ?_
    refine va_iald hx hb hK hP 1 0 rfl rfl (k_in (by decide +kernel)) dX12_count_142 ?_
    refine k_top (z := 0) (by rw [cl_2]; exact h7) ?_
    exact kI_ret (v := 0) hx hb hr hlocks rfl hK hS dX12_count_143 () hP hD (by decide +kernel)
  by_cases q15 : x = 9
  · subst q15
    refine lv_tableIn (tgt := 134) hx hb dX12_count_1 (by decide +kernel) (by decide +kernel) (by rfl) (by decide) ?_
    refine lv_aload_n hx hb dX12_count_134 rfl (lv_at hl 0 rfl) ?_
    refine va_get (D := D) (ci := 12) (v := .ref (r 1)) (C := RX12) (T := TX12) (N := 48) hx hb hg inC12 hown hK hP 0 rfl rfl 1 (by decide) (hg _ wt5_161) (fun _ h9 => h9) rfl dX12_count_135 ?_
    refine lv_iload_n hx hb dX12_count_138 rfl (lv_at hl 1 rfl) ?_
    refine lv_bipush (v := 6) hx hb dX12_count_139 (by decide) ?_
    refine lv_isub hx hb dX12_count_141 ?_
    refine k_top (z := 3) (by decide +kernel) ?_
    refine va_iald hx hb hK hP 1 0 rfl rfl (k_in (by decide +kernel)) dX12_count_142 ?_
    refine k_top (z := 0) (by rw [cl_3]; exact h8) ?_
    exact kI_ret (v := 0) hx hb hr hlocks rfl hK hS dX12_count_143 () hP hD (by decide +kernel)
  by_cases q16 : x = 10
  · subst q16
    refine lv_tableIn (tgt := 144) hx hb dX12_count_1 (by decide +kernel) (by decide +kernel) (by rfl) (by decide) ?_
    refine lv_aload_n hx hb dX12_count_144 rfl (lv_at hl 0 rfl) ?_
    refine va_get (D := D) (ci := 12) (v := .ref (r 1)) (C := RX12) (T := TX12) (N := 48) hx hb hg inC12 hown hK hP 0 rfl rfl 1 (by decide) (hg _ wt5_161) (fun _ h9 => h9) rfl dX12_count_145 ?_
    refine lv_iconst (v := 5) hx hb dX12_count_148 (by decide) ?_
    refine va_iald hx hb hK hP 1 0 rfl rfl (k_in (by decide +kernel)) dX12_count_149 ?_
    refine k_top (z := 0) (by rw [cl_5]; exact h9) ?_
    exact kI_ret (v := 0) hx hb hr hlocks rfl hK hS dX12_count_150 () hP hD (by decide +kernel)
  by_cases q17 : x = 11
  · subst q17
    refine lv_tableIn (tgt := 151) hx hb dX12_count_1 (by decide +kernel) (by decide +kernel) (by rfl) (by decide) ?_
    refine lv_aload_n hx hb dX12_count_151 rfl (lv_at hl 0 rfl) ?_
    refine va_get (D := D) (ci := 12) (v := .ref (r 1)) (C := RX12) (T := TX12) (N := 48) hx hb hg inC12 hown hK hP 0 rfl rfl 1 (by decide) (hg _ wt5_161) (fun _ h9 => h9) rfl dX12_count_152 ?_
    refine lv_bipush (v := 6) hx hb dX12_count_155 (by decide) ?_
    refine va_iald hx hb hK hP 1 0 rfl rfl (k_in (by decide +kernel)) dX12_count_157 ?_
    refine k_top (z := 0) (by rw [cl_6]; exact h10) ?_
    exact kI_ret (v := 0) hx hb hr hlocks rfl hK hS dX12_count_158 () hP hD (by decide +kernel)
  by_cases q18 : x = 12
  · subst q18
    refine lv_tableIn (tgt := 159) hx hb dX12_count_1 (by decide +kernel) (by decide +kernel) (by rfl) (by decide) ?_
    refine lv_aload_n hx hb dX12_count_159 rfl (lv_at hl 0 rfl) ?_
    refine va_get (D := D) (ci := 12) (v := .ref (r 2)) (C := RX12) (T := TX12) (N := 48) hx hb hg inC12 hown hK hP 0 rfl rfl 2 (by decide) (hg _ wt5_162) (fun _ h9 => h9) rfl dX12_count_160 ?_
    refine lv_bipush (v := 106) hx hb dX12_count_163 (by decide) ?_
    refine va_iald hx hb hK hP 2 0 rfl rfl (k_in (by decide +kernel)) dX12_count_165 ?_
    refine k_top (z := (-1)) (by rw [cl_106]; exact h11) ?_
    exact kI_ret (v := (-1)) hx hb hr hlocks rfl hK hS dX12_count_166 () hP hD (by decide +kernel)
  by_cases q19 : x = 13
  · subst q19
    refine lv_tableIn (tgt := 167) hx hb dX12_count_1 (by decide +kernel) (by decide +kernel) (by rfl) (by decide) ?_
    refine lv_aload_n hx hb dX12_count_167 rfl (lv_at hl 0 rfl) ?_
    refine va_get (D := D) (ci := 12) (v := .ref (r 2)) (C := RX12) (T := TX12) (N := 48) hx hb hg inC12 hown hK hP 0 rfl rfl 2 (by decide) (hg _ wt5_162) (fun _ h9 => h9) rfl dX12_count_168 ?_
    refine lv_bipush (v := 22) hx hb dX12_count_171 (by decide) ?_
    refine va_iald hx hb hK hP 2 0 rfl rfl (k_in (by decide +kernel)) dX12_count_173 ?_
    refine k_top (z := 0) (by rw [cl_22]; exact h12) ?_
    exact kI_ret (v := 0) hx hb hr hlocks rfl hK hS dX12_count_174 () hP hD (by decide +kernel)
  by_cases q20 : x = 14
  · subst q20
    refine lv_tableIn (tgt := 175) hx hb dX12_count_1 (by decide +kernel) (by decide +kernel) (by rfl) (by decide) ?_
    refine lv_aload_n hx hb dX12_count_175 rfl (lv_at hl 0 rfl) ?_
    refine va_get (D := D) (ci := 12) (v := .ref (r 2)) (C := RX12) (T := TX12) (N := 48) hx hb hg inC12 hown hK hP 0 rfl rfl 2 (by decide) (hg _ wt5_162) (fun _ h9 => h9) rfl dX12_count_176 ?_
    refine lv_bipush (v := 99) hx hb dX12_count_179 (by decide) ?_
    refine lv_iload_n hx hb dX12_count_181 rfl (lv_at hl 1 rfl) ?_
    refine lv_iadd hx hb dX12_count_182 ?_
    refine k_top (z := 113) (by decide +kernel) ?_
    refine lv_bipush (v := 14) hx hb dX12_count_183 (by decide) ?_
    refine lv_isub hx hb dX12_count_185 ?_
    refine k_top (z := 99) (by decide +kernel) ?_
    refine va_iald hx hb hK hP 2 0 rfl rfl (k_in (by decide +kernel)) dX12_count_186 ?_
    refine k_top (z := 30) (by rw [cl_99]; exact h13) ?_
    exact kI_ret (v := 30) hx hb hr hlocks rfl hK hS dX12_count_187 () hP hD (by decide +kernel)
  by_cases q21 : x = 15
  · subst q21
    refine lv_tableIn (tgt := 175) hx hb dX12_count_1 (by decide +kernel) (by decide +kernel) (by rfl) (by decide) ?_
    refine lv_aload_n hx hb dX12_count_175 rfl (lv_at hl 0 rfl) ?_
    refine va_get (D := D) (ci := 12) (v := .ref (r 2)) (C := RX12) (T := TX12) (N := 48) hx hb hg inC12 hown hK hP 0 rfl rfl 2 (by decide) (hg _ wt5_162) (fun _ h9 => h9) rfl dX12_count_176 ?_
    refine lv_bipush (v := 99) hx hb dX12_count_179 (by decide) ?_
    refine lv_iload_n hx hb dX12_count_181 rfl (lv_at hl 1 rfl) ?_
    refine lv_iadd hx hb dX12_count_182 ?_
    refine k_top (z := 114) (by decide +kernel) ?_
    refine lv_bipush (v := 14) hx hb dX12_count_183 (by decide) ?_
    refine lv_isub hx hb dX12_count_185 ?_
    refine k_top (z := 100) (by decide +kernel) ?_
    refine va_iald hx hb hK hP 2 0 rfl rfl (k_in (by decide +kernel)) dX12_count_186 ?_
    refine k_top (z := 2) (by rw [cl_100]; exact h14) ?_
    exact kI_ret (v := 2) hx hb hr hlocks rfl hK hS dX12_count_187 () hP hD (by decide +kernel)
  by_cases q22 : x = 16
  · subst q22
    refine lv_tableIn (tgt := 175) hx hb dX12_count_1 (by decide +kernel) (by decide +kernel) (by rfl) (by decide) ?_
    refine lv_aload_n hx hb dX12_count_175 rfl (lv_at hl 0 rfl) ?_
    refine va_get (D := D) (ci := 12) (v := .ref (r 2)) (C := RX12) (T := TX12) (N := 48) hx hb hg inC12 hown hK hP 0 rfl rfl 2 (by decide) (hg _ wt5_162) (fun _ h9 => h9) rfl dX12_count_176 ?_
    refine lv_bipush (v := 99) hx hb dX12_count_179 (by decide) ?_
    refine lv_iload_n hx hb dX12_count_181 rfl (lv_at hl 1 rfl) ?_
    refine lv_iadd hx hb dX12_count_182 ?_
    refine k_top (z := 115) (by decide +kernel) ?_
    refine lv_bipush (v := 14) hx hb dX12_count_183 (by decide) ?_
    refine lv_isub hx hb dX12_count_185 ?_
    refine k_top (z := 101) (by decide +kernel) ?_
    refine va_iald hx hb hK hP 2 0 rfl rfl (k_in (by decide +kernel)) dX12_count_186 ?_
    refine k_top (z := 0) (by rw [cl_101]; exact h15) ?_
    exact kI_ret (v := 0) hx hb hr hlocks rfl hK hS dX12_count_187 () hP hD (by decide +kernel)
  refine lv_tableOut (tgt := 188) hx hb dX12_count_1 (by have gq1 := lv_neT q1 (a := 0) (by decide +kernel); have gq2 := lv_neT q2 (a := 1) (by decide +kernel); have gq8 := lv_neT q8 (a := 2) (by decide +kernel); have gq9 := lv_neT q9 (a := 3) (by decide +kernel); have gq10 := lv_neT q10 (a := 4) (by decide +kernel); have gq11 := lv_neT q11 (a := 5) (by decide +kernel); have gq12 := lv_neT q12 (a := 6) (by decide +kernel); have gq13 := lv_neT q13 (a := 7) (by decide +kernel); have gq14 := lv_neT q14 (a := 8) (by decide +kernel); have gq15 := lv_neT q15 (a := 9) (by decide +kernel); have gq16 := lv_neT q16 (a := 10) (by decide +kernel); have gq17 := lv_neT q17 (a := 11) (by decide +kernel); have gq18 := lv_neT q18 (a := 12) (by decide +kernel); have gq19 := lv_neT q19 (a := 13) (by decide +kernel); have gq20 := lv_neT q20 (a := 14) (by decide +kernel); have gq21 := lv_neT q21 (a := 15) (by decide +kernel); have gq22 := lv_neT q22 (a := 16) (by decide +kernel); omega) (by decide) ?_
  refine lv_iconst (v := (-1)) hx hb dX12_count_188 (by decide) ?_
  exact kI_ret (v := (-1)) hx hb hr hlocks rfl hK hS dX12_count_189 () hP hD (by simp [mCount, q1, q2, q8, q9, q10, q11, q12, q13, q14, q15, q16, q17, q18, q19, q20, q21, q22])
set_option maxHeartbeats 4000000 in
set_option maxRecDepth 100000 in
theorem c_draws (l : Launch) {D : va_G} {K : Nat → ClassId} (o : Nat) (r : Nat → Nat) (f : Nat → Int32) (a : Nat → Nat → Int32) (g : Nat → Int64) (h0 : a 2 102 = 0) (h1 : a 2 103 = 0) (h2 : a 2 104 = 0) (h3 : a 2 99 = 30) (h4 : a 2 100 = 2)   : kI l yX12_draws (Cond.code yX12_draws cX12_draws 2 (some .int) :: kG) (rmD 1 0 0) D (tysK K) [.ref o, .int 10] (mW K o r f a g) (fun v (u : mS) => v = v ∧ u.2.1 2 102 = 0 ∧ u.2.1 2 103 = 0 ∧ u.2.1 2 104 = 0 ∧ u.2.1 2 99 = 30 ∧ u.2.1 2 100 = 2) (fun u => mW K o r u.1 u.2.1 u.2.2) 0 0 := by
  refine kI.of (cc := cX12_draws) (maxL := 2) (ret := (some .int)) (by decide) rfl (Nat.le_of_ble_eq_true rfl) ?_
  intro p e s m below meth c A hx hb hr hml hown hts hlocks hnm hK hP hD hS hA ls hl
  have hg : ∀ w ∈ kG, w.before _ s = true := fun w h => hts w (List.mem_cons_of_mem _ h)
  have hown : s.vm.findClass RX12 = some m.cls := hown
  have hl : lv_has ls 2 [(0, .ref o), (1, .int 10)] := hl
  refine lv_aload_n hx hb dX12_draws_0 rfl (lv_at hl 0 rfl) ?_
  refine lv_ldc2 (v := (1103)) hx hb hown (hg _ wt8_75) dX12_draws_1 ?_
  refine lv_aload_n hx hb dX12_draws_4 rfl (lv_at hl 0 rfl) ?_
  refine va_get (D := D) (ci := 12) (v := .int (f 47)) (C := RX12) (T := TX12) (N := 48) hx hb hg inC12 hown hK hP 0 rfl rfl 47 (by decide) (hg _ wt5_207) (fun _ h9 => h9) rfl dX12_draws_5 ?_
  refine lv_topi (fun t1 et1 => ?_)
  refine lv_i2l hx hb dX12_draws_8 rfl ?_
  refine lv_topl (fun t2 et2 => ?_)
  refine lv_lmul hx hb dX12_draws_9 ?_
  refine lv_topl (fun t3 et3 => ?_)
  refine lv_ldc2 (v := (12345)) hx hb hown (hg _ wt8_76) dX12_draws_10 ?_
  refine lv_ladd hx hb dX12_draws_13 ?_
  refine lv_topl (fun t4 et4 => ?_)
  refine lv_ldc2 (v := (1000003)) hx hb hown (hg _ wt8_77) dX12_draws_14 ?_
  refine lv_lrem hx hb dX12_draws_17 (by decide +kernel) ?_
  refine lv_topl (fun t5 et5 => ?_)
  refine lv_l2i hx hb dX12_draws_18 rfl ?_
  refine lv_topi (fun t6 et6 => ?_)
  refine va_put (D := D) (ci := 12) (v := .int t6) (ty := .int) (C := RX12) (T := TX12) (N := 48) hx hb hg inC12 tyX12 tyX12_ok nmX12 hown hK hP hD hS 0 rfl rfl 47 (by decide) (hg _ wt5_207) (fun _ h9 => h9) rfl (by decide +kernel) rfl rfl (Nat.le_of_ble_eq_true rfl) dX12_draws_19 (fun H locs hP hD hS => ?_)
  have hP : va_P D vwCl (mW K o r (upd f 47 t6) a g) H := hP
  have hD : va_D A (mW K o r (upd f 47 t6) a g) := hD
  generalize ef_7 : upd f 47 t6 = f_7 at hP hD
  refine lv_aload_n hx hb dX12_draws_22 rfl (lv_at hl 0 rfl) ?_
  refine va_get (D := D) (ci := 12) (v := .int (f_7 47)) (C := RX12) (T := TX12) (N := 48) hx hb hg inC12 hown hK hP 0 rfl rfl 47 (by decide) (hg _ wt5_207) (fun _ h9 => h9) rfl dX12_draws_23 ?_
  refine k_top (z := t6) (show f_7 47 = t6 from by rw [← ef_7]; rfl) ?_
  refine lv_iload_n hx hb dX12_draws_26 rfl (lv_at hl 1 rfl) ?_
  refine lv_irem hx hb dX12_draws_27 (by decide +kernel) ?_
  refine lv_topi (fun t8 et8 => ?_)
  exact kI_ret (v := t8) hx hb hr hlocks rfl hK hS dX12_draws_28 (f_7, a, g) hP hD ⟨rfl, h0, h1, h2, h3, h4⟩
set_option maxHeartbeats 4000000 in
set_option maxRecDepth 100000 in
theorem c_sendsAll (l : Launch) {D : va_G} {K : Nat → ClassId} (o : Nat) (r : Nat → Nat) (f : Nat → Int32) (a : Nat → Nat → Int32) (g : Nat → Int64) (h0 : a 2 102 = 0) (h1 : a 2 103 = 0)   : kV l yX12_sendsAll (Cond.code yX12_sendsAll cX12_sendsAll 3 none :: kG) (rmD 2 0 0) D (tysK K) [.ref o, .int 0] (mW K o r f a g) (fun (_ : Unit) => True) (fun _ => mW K o r f a g) 0 0 := by
  refine kV.of (cc := cX12_sendsAll) (maxL := 3) (ret := none) (by decide) rfl (Nat.le_of_ble_eq_true rfl) ?_
  intro p e s m below meth c A hx hb hr hml hown hts hlocks hnm hK hP hD hS hA ls hl
  have hg : ∀ w ∈ kG, w.before _ s = true := fun w h => hts w (List.mem_cons_of_mem _ h)
  have hown : s.vm.findClass RX12 = some m.cls := hown
  have hl : lv_has ls 3 [(0, .ref o), (1, .int 0)] := hl
  refine lv_aload_n hx hb dX12_sendsAll_0 rfl (lv_at hl 0 rfl) ?_
  refine kV.callV (As := []) (rest := []) ⟨hx, hb, hml, hown, hg⟩ (c_laysChains l o r f a g h0 ) (cwV 0 hg (kgV wt6_120 wt6_122 wp3_14 wt1_14 wt6_123) rfl rfl rfl (by decide +kernel) ⟨by decide, by decide⟩) hK hP hD hS hA mIs [] rfl (wr := []) rfl rfl rfl (fun i h => by cases h) 0 12 rfl rfl rfl hl.1 rfl (Nat.le_of_ble_eq_true rfl) dX12_sendsAll_1 ⟨by decide, by decide⟩ (fun u2 H locs hw1 hP hD hS => ?_)
  have hP : va_P D vwCl (mW K o r f a g) H := hP
  have hD : va_D A (mW K o r f a g) := hD
  refine lv_iconst (v := 0) hx hb dX12_sendsAll_4 (by decide) ?_
  refine lv_istore_n (lv' := [(2, .int 0), (0, .ref o), (1, .int 0)]) hx hb dX12_sendsAll_5 rfl hl (by decide) rfl (fun ls hl => ?_)
  refine lv_iload_n hx hb dX12_sendsAll_6 rfl (lv_at hl 0 rfl) ?_
  refine lv_aload_n hx hb dX12_sendsAll_7 rfl (lv_at hl 1 rfl) ?_
  refine va_get (D := D) (ci := 12) (v := .ref (r 2)) (C := RX12) (T := TX12) (N := 48) hx hb hg inC12 hown hK hP 0 rfl rfl 2 (by decide) (hg _ wt5_162) (fun _ h9 => h9) rfl dX12_sendsAll_8 ?_
  refine lv_bipush (v := 103) hx hb dX12_sendsAll_11 (by decide) ?_
  refine va_iald hx hb hK hP 2 0 rfl rfl (k_in (by decide +kernel)) dX12_sendsAll_13 ?_
  refine k_top (z := 0) (by rw [cl_103]; exact h1) ?_
  refine lv_icmp_ge (tgt := 58) hx hb dX12_sendsAll_14 (by decide) (fun c4 => ?_) (fun c4 => absurd (by decide +kernel) c4)
  exact kV_ret hx hb hr hlocks hK hS dX12_sendsAll_58 () hP hD trivial
set_option maxHeartbeats 4000000 in
set_option maxRecDepth 100000 in
theorem c_nights (l : Launch) {D : va_G} {K : Nat → ClassId} (o : Nat) (r : Nat → Nat) (f : Nat → Int32) (a : Nat → Nat → Int32) (g : Nat → Int64) (h0 : a 2 102 = 0) (h1 : a 2 103 = 0) (h2 : a 2 104 = 0) (h3 : a 2 99 = 30) (h4 : a 2 100 = 2) (x : Int32) (y : Int32)  : kI l yX12_nights (Cond.code yX12_nights cX12_nights 6 (some .int) :: kG) (rmD 3 0 0) D (tysK K) [.ref o, .int x, .int y] (mW K o r f a g) (fun v (u : mS) => v = (if mLies x 0 1000000 = 0 then (-1 : Int32) else if mLies y 1 20 = 0 then -1 else y)) (fun u => mW K o r u.1 u.2.1 u.2.2) 0 0 := by
  refine kI.of (cc := cX12_nights) (maxL := 6) (ret := (some .int)) (by decide) rfl (Nat.le_of_ble_eq_true rfl) ?_
  intro p e s m below meth c A hx hb hr hml hown hts hlocks hnm hK hP hD hS hA ls hl
  have hg : ∀ w ∈ kG, w.before _ s = true := fun w h => hts w (List.mem_cons_of_mem _ h)
  have hown : s.vm.findClass RX12 = some m.cls := hown
  have hl : lv_has ls 6 [(0, .ref o), (1, .int x), (2, .int y)] := hl
  refine lv_iload_n hx hb dX12_nights_0 rfl (lv_at hl 1 rfl) ?_
  refine lv_iconst (v := 0) hx hb dX12_nights_1 (by decide) ?_
  refine lv_ldc (v := (1000000)) hx hb hown (hg _ wt6_191) dX12_nights_2 ?_
  refine kN.callS (As := [.int x, .int 0, .int 1000000]) (rest := []) ⟨hx, hb, hml, hown, hg⟩ (c_lies l x 0 1000000) (va_cwS 3 hg (kgS wt6_69 wt6_70 wt1_14 wt6_71) rfl rfl rfl (by decide +kernel) ⟨by decide, by decide⟩) hP hS rfl hl.1 rfl (Nat.le_of_ble_eq_true rfl) dX12_nights_4 ⟨by decide, by decide⟩ (fun v2 H locs hw1 hP hS => ?_)
  refine k_top (z := mLies x 0 1000000) hw1 ?_
  refine lv_if_eq (tgt := 20) hx hb dX12_nights_7 (by decide) (fun c3 => ?_) (fun c3 => ?_)
  · refine lv_aload_n hx hb dX12_nights_20 rfl (lv_at hl 0 rfl) ?_
    refine lv_iconst (v := (-1)) hx hb dX12_nights_21 (by decide) ?_
    refine kI.callV (As := [.int (-1)]) (rest := []) ⟨hx, hb, hml, hown, hg⟩ (c_refuses1 l o r f a g  ) (cwV 1 hg (kgV wt6_72 wt6_74 wp3_5 wt1_14 wt6_75) rfl rfl rfl (by decide +kernel) ⟨by decide, by decide⟩) hK hP hD hS hA mIs [] rfl (wr := []) rfl rfl rfl (fun i h => by cases h) 0 12 rfl rfl rfl hl.1 rfl (Nat.le_of_ble_eq_true rfl) dX12_nights_22 ⟨by decide, by decide⟩ (fun v6 u5 H locs hw4 hP hD hS => ?_)
    obtain ⟨f7, a8, g9⟩ := u5
    have hP : va_P D vwCl (mW K o r f7 a8 g9) H := hP
    have hD : va_D A (mW K o r f7 a8 g9) := hD
    refine k_top (z := (-1)) (hw4) ?_
    exact kI_ret (v := (-1)) hx hb hr hlocks rfl hK hS dX12_nights_25 (f7, a8, g9) hP hD (by simp [c3])
  · refine lv_iload_n hx hb dX12_nights_10 rfl (lv_at hl 2 rfl) ?_
    refine lv_iconst (v := 1) hx hb dX12_nights_11 (by decide) ?_
    refine lv_bipush (v := 20) hx hb dX12_nights_12 (by decide) ?_
    refine kN.callS (As := [.int y, .int 1, .int 20]) (rest := []) ⟨hx, hb, hml, hown, hg⟩ (c_lies l y 1 20) (va_cwS 3 hg (kgS wt6_69 wt6_70 wt1_14 wt6_71) rfl rfl rfl (by decide +kernel) ⟨by decide, by decide⟩) hP hS rfl hl.1 rfl (Nat.le_of_ble_eq_true rfl) dX12_nights_14 ⟨by decide, by decide⟩ (fun v11 H locs hw10 hP hS => ?_)
    refine k_top (z := mLies y 1 20) hw10 ?_
    refine lv_if_ne (tgt := 26) hx hb dX12_nights_17 (by decide) (fun c12 => ?_) (fun c12 => ?_)
    · obtain ⟨N, hN, rfl⟩ := mLies_N c12
      refine lv_aload_n hx hb dX12_nights_26 rfl (lv_at hl 0 rfl) ?_
      refine lv_iload_n hx hb dX12_nights_27 rfl (lv_at hl 1 rfl) ?_
      refine va_put (D := D) (ci := 12) (v := .int x) (ty := .int) (C := RX12) (T := TX12) (N := 48) hx hb hg inC12 tyX12 tyX12_ok nmX12 hown hK hP hD hS 0 rfl rfl 47 (by decide) (hg _ wt5_207) (fun _ h9 => h9) rfl (by decide +kernel) rfl rfl (Nat.le_of_ble_eq_true rfl) dX12_nights_28 (fun H locs hP hD hS => ?_)
      have hP : va_P D vwCl (mW K o r (upd f 47 x) a g) H := hP
      have hD : va_D A (mW K o r (upd f 47 x) a g) := hD
      generalize ef_13 : upd f 47 x = f_13 at hP hD
      refine lv_aload_n hx hb dX12_nights_31 rfl (lv_at hl 0 rfl) ?_
      refine lv_aload_n hx hb dX12_nights_32 rfl (lv_at hl 0 rfl) ?_
      refine va_get (D := D) (ci := 12) (v := .ref (r 2)) (C := RX12) (T := TX12) (N := 48) hx hb hg inC12 hown hK hP 0 rfl rfl 2 (by decide) (hg _ wt5_162) (fun _ h9 => h9) rfl dX12_nights_33 ?_
      refine lv_bipush (v := 102) hx hb dX12_nights_36 (by decide) ?_
      refine va_iald hx hb hK hP 2 0 rfl rfl (k_in (by decide +kernel)) dX12_nights_38 ?_
      refine k_top (z := 0) (by rw [cl_102]; exact h0) ?_
      refine va_put (D := D) (ci := 12) (v := .int 0) (ty := .int) (C := RX12) (T := TX12) (N := 48) hx hb hg inC12 tyX12 tyX12_ok nmX12 hown hK hP hD hS 0 rfl rfl 45 (by decide) (hg _ wt5_205) (fun _ h9 => h9) rfl (by decide +kernel) rfl rfl (Nat.le_of_ble_eq_true rfl) dX12_nights_39 (fun H locs hP hD hS => ?_)
      have hP : va_P D vwCl (mW K o r (upd f_13 45 0) a g) H := hP
      have hD : va_D A (mW K o r (upd f_13 45 0) a g) := hD
      generalize ef_14 : upd f_13 45 0 = f_14 at hP hD
      refine lv_aload_n hx hb dX12_nights_42 rfl (lv_at hl 0 rfl) ?_
      refine lv_aload_n hx hb dX12_nights_43 rfl (lv_at hl 0 rfl) ?_
      refine va_get (D := D) (ci := 12) (v := .ref (r 2)) (C := RX12) (T := TX12) (N := 48) hx hb hg inC12 hown hK hP 0 rfl rfl 2 (by decide) (hg _ wt5_162) (fun _ h9 => h9) rfl dX12_nights_44 ?_
      refine lv_bipush (v := 103) hx hb dX12_nights_47 (by decide) ?_
      refine va_iald hx hb hK hP 2 0 rfl rfl (k_in (by decide +kernel)) dX12_nights_49 ?_
      refine k_top (z := 0) (by rw [cl_103]; exact h1) ?_
      refine va_put (D := D) (ci := 12) (v := .int 0) (ty := .int) (C := RX12) (T := TX12) (N := 48) hx hb hg inC12 tyX12 tyX12_ok nmX12 hown hK hP hD hS 0 rfl rfl 46 (by decide) (hg _ wt5_206) (fun _ h9 => h9) rfl (by decide +kernel) rfl rfl (Nat.le_of_ble_eq_true rfl) dX12_nights_50 (fun H locs hP hD hS => ?_)
      have hP : va_P D vwCl (mW K o r (upd f_14 46 0) a g) H := hP
      have hD : va_D A (mW K o r (upd f_14 46 0) a g) := hD
      generalize ef_15 : upd f_14 46 0 = f_15 at hP hD
      refine lv_iconst (v := 0) hx hb dX12_nights_53 (by decide) ?_
      refine lv_istore_n (lv' := [(3, .int 0), (0, .ref o), (1, .int x), (2, .int (nI N))]) hx hb dX12_nights_54 rfl hl (by decide) rfl (fun ls hl => ?_)
      refine lv_iconst (v := 0) hx hb dX12_nights_55 (by decide) ?_
      refine lv_istore (lv' := [(4, .int 0), (3, .int 0), (0, .ref o), (1, .int x), (2, .int (nI N))]) hx hb dX12_nights_56 hl (by decide) rfl (fun ls hl => ?_)
      have lp16 : ∀ (n i : Nat) (F : Nat → Int32) (B : Nat → Nat → Int32) (G : Nat → Int64) (H : Heap) (locs : List Loc) (ls : Array Slot), i + n = N → B 2 102 = 0 → B 2 103 = 0 → B 2 104 = 0 → B 2 99 = 30 → B 2 100 = 2 → va_P D vwCl (mW K o r F B G) H → va_D A (mW K o r F B G) → va_S A s.heap H locs → lv_has ls 6 [(4, .int (nI i)), (3, .int (nI i)), (0, .ref o), (1, .int x), (2, .int (nI N))] → W p l e (rmD 3 0 0) s m ([.ref o, .int x, .int (nI N)] : List Value).toArray below meth c H locs 0 0 (kQi D (tysK K) (fun v (u : mS) => v = (if mLies x 0 1000000 = 0 then (-1 : Int32) else if mLies (nI N) 1 20 = 0 then -1 else (nI N))) (fun u => mW K o r u.1 u.2.1 u.2.2) A below ([.ref o, .int x, .int (nI N)] : List Value).toArray s 0 0) (F0 m 58 ls []) := by
        intro n
        induction n with
        | zero =>
          intro i F B G H locs ls hin z0 z1 z2 z3 z4 hP hD hS hl
          obtain rfl : N = i := by omega
          refine lv_iload hx hb dX12_nights_58 (lv_at hl 0 rfl) ?_
          refine lv_iload_n hx hb dX12_nights_60 rfl (lv_at hl 4 rfl) ?_
          refine lv_icmp_ge (tgt := 196) hx hb dX12_nights_61 (by decide) (fun c17 => ?_) (fun c17 => absurd (nI_le (Nat.le_refl N) (by omega)) c17)
          refine lv_aload_n hx hb dX12_nights_196 rfl (lv_at hl 2 rfl) ?_
          refine lv_iload_n hx hb dX12_nights_197 rfl (lv_at hl 1 rfl) ?_
          refine kI.callV (As := [.int (nI N)]) (rest := []) ⟨hx, hb, hml, hown, hg⟩ (c_good l o r F B G  (nI N)) (cwV 1 hg (kgV wt6_76 wt6_78 wp3_6 wt1_14 wt6_79) rfl rfl rfl (by decide +kernel) ⟨by decide, by decide⟩) hK hP hD hS hA mIs [] rfl (wr := []) rfl rfl rfl (fun i h => by cases h) 0 12 rfl rfl rfl hl.1 rfl (Nat.le_of_ble_eq_true rfl) dX12_nights_198 ⟨by decide, by decide⟩ (fun v20 u19 H locs hw18 hP hD hS => ?_)
          obtain ⟨f21, a22, g23⟩ := u19
          have hP : va_P D vwCl (mW K o r f21 a22 g23) H := hP
          have hD : va_D A (mW K o r f21 a22 g23) := hD
          refine k_top (z := (nI N)) hw18 ?_
          exact kI_ret (v := (nI N)) hx hb hr hlocks rfl hK hS dX12_nights_201 (f21, a22, g23) hP hD (by simp [c3, c12])
        | succ n ih =>
          intro i F B G H locs ls hin z0 z1 z2 z3 z4 hP hD hS hl
          have hlt : i < N := by omega
          refine lv_iload hx hb dX12_nights_58 (lv_at hl 0 rfl) ?_
          refine lv_iload_n hx hb dX12_nights_60 rfl (lv_at hl 4 rfl) ?_
          refine lv_icmp_ge (tgt := 196) hx hb dX12_nights_61 (by decide) (fun c24 => absurd c24 (nI_ge hlt (by omega))) (fun c24 => ?_)
          refine lv_aload_n hx hb dX12_nights_64 rfl (lv_at hl 2 rfl) ?_
          refine kV.callV (As := []) (rest := []) ⟨hx, hb, hml, hown, hg⟩ (c_begins l o r F B G z0 z1 z2 z3 z4 ) (cwV 0 hg (kgV wt7_203 wt7_205 wp7_4 wt1_14 wt7_206) rfl rfl rfl (by decide +kernel) ⟨by decide, by decide⟩) hK hP hD hS hA mIs [] rfl (wr := []) rfl rfl rfl (fun i h => by cases h) 0 12 rfl rfl rfl hl.1 rfl (Nat.le_of_ble_eq_true rfl) dX12_nights_65 ⟨by decide, by decide⟩ (fun u26 H locs hw25 hP hD hS => ?_)
          obtain ⟨f28, a29, g30⟩ := u26
          have hP : va_P D vwCl (mW K o r f28 a29 g30) H := hP
          have hD : va_D A (mW K o r f28 a29 g30) := hD
          refine lv_iconst (v := 0) hx hb dX12_nights_68 (by decide) ?_
          refine lv_istore (lv' := [(5, .int 0), (4, .int (nI i)), (3, .int (nI i)), (0, .ref o), (1, .int x), (2, .int (nI N))]) hx hb dX12_nights_69 hl (by decide) rfl (fun ls hl => ?_)
          have lp31 : ∀ (n2 i2 : Nat) (F2 : Nat → Int32) (B2 : Nat → Nat → Int32) (G2 : Nat → Int64) (H : Heap) (locs : List Loc) (ls : Array Slot), i2 + n2 = 30 → B2 2 102 = 0 → B2 2 103 = 0 → B2 2 104 = 0 → B2 2 99 = 30 → B2 2 100 = 2 → va_P D vwCl (mW K o r F2 B2 G2) H → va_D A (mW K o r F2 B2 G2) → va_S A s.heap H locs → lv_has ls 6 [(5, .int (nI i2)), (4, .int (nI i)), (3, .int (nI i)), (0, .ref o), (1, .int x), (2, .int (nI N))] → W p l e (rmD 3 0 0) s m ([.ref o, .int x, .int (nI N)] : List Value).toArray below meth c H locs 0 0 (kQi D (tysK K) (fun v (u : mS) => v = (if mLies x 0 1000000 = 0 then (-1 : Int32) else if mLies (nI N) 1 20 = 0 then -1 else (nI N))) (fun u => mW K o r u.1 u.2.1 u.2.2) A below ([.ref o, .int x, .int (nI N)] : List Value).toArray s 0 0) (F0 m 71 ls []) := by
            intro n2
            induction n2 with
            | zero =>
              intro i2 F2 B2 G2 H locs ls hin2 z20 z21 z22 z23 z24 hP hD hS hl
              obtain rfl : 30 = i2 := by omega
              have hl : lv_has ls 6 [(5, .int 30), (4, .int (nI i)), (3, .int (nI i)), (0, .ref o), (1, .int x), (2, .int (nI N))] := hl
              refine lv_iload hx hb dX12_nights_71 (lv_at hl 0 rfl) ?_
              refine lv_aload_n hx hb dX12_nights_73 rfl (lv_at hl 3 rfl) ?_
              refine va_get (D := D) (ci := 12) (v := .ref (r 2)) (C := RX12) (T := TX12) (N := 48) hx hb hg inC12 hown hK hP 0 rfl rfl 2 (by decide) (hg _ wt5_162) (fun _ h9 => h9) rfl dX12_nights_74 ?_
              refine lv_bipush (v := 99) hx hb dX12_nights_77 (by decide) ?_
              refine va_iald hx hb hK hP 2 0 rfl rfl (k_in (by decide +kernel)) dX12_nights_79 ?_
              refine k_top (z := 30) (by rw [cl_99]; exact z23) ?_
              refine lv_icmp_ge (tgt := 136) hx hb dX12_nights_80 (by decide) (fun c32 => ?_) (fun c32 => absurd (by decide +kernel) c32)
              refine lv_iload_n hx hb dX12_nights_136 rfl (lv_at hl 2 rfl) ?_
              refine lv_aload_n hx hb dX12_nights_137 rfl (lv_at hl 3 rfl) ?_
              refine lv_aload_n hx hb dX12_nights_138 rfl (lv_at hl 3 rfl) ?_
              refine kI.callV (As := []) (rest := [.ref o, .int (nI i)]) ⟨hx, hb, hml, hown, hg⟩ (c_allParts l o r F2 B2 G2 z20 ) (cwV 0 hg (kgV wt7_187 wt7_189 wp7_1 wt1_14 wt7_190) rfl rfl rfl (by decide +kernel) ⟨by decide, by decide⟩) hK hP hD hS hA mIs [] rfl (wr := []) rfl rfl rfl (fun i h => by cases h) 0 12 rfl rfl rfl hl.1 rfl (Nat.le_of_ble_eq_true rfl) dX12_nights_139 ⟨by decide, by decide⟩ (fun v35 u34 H locs hw33 hP hD hS => ?_)
              have hP : va_P D vwCl (mW K o r F2 B2 G2) H := hP
              have hD : va_D A (mW K o r F2 B2 G2) := hD
              refine k_top (z := 0) (hw33) ?_
              refine kI.callV (As := [.int 0]) (rest := [.int (nI i)]) ⟨hx, hb, hml, hown, hg⟩ (c_areStanding l o r F2 B2 G2 z20 ) (cwV 1 hg (kgV wt7_211 wt7_213 wp7_6 wt1_14 wt7_214) rfl rfl rfl (by decide +kernel) ⟨by decide, by decide⟩) hK hP hD hS hA mIs [] rfl (wr := []) rfl rfl rfl (fun i h => by cases h) 0 12 rfl rfl rfl hl.1 rfl (Nat.le_of_ble_eq_true rfl) dX12_nights_142 ⟨by decide, by decide⟩ (fun v38 u37 H locs hw36 hP hD hS => ?_)
              have hP : va_P D vwCl (mW K o r F2 B2 G2) H := hP
              have hD : va_D A (mW K o r F2 B2 G2) := hD
              refine k_top (z := 1) (hw36) ?_
              refine lv_if_eq (tgt := 152) hx hb dX12_nights_145 (by decide) (fun c39 => absurd c39 (by decide +kernel)) (fun c39 => ?_)
              refine lv_iconst (v := 1) hx hb dX12_nights_148 (by decide) ?_
              refine lv_goto (tgt := 153) hx hb dX12_nights_149 (by decide) ?_
              refine lv_iadd hx hb dX12_nights_153 ?_
              refine k_top (z := nI (i + 1)) (nI_add i 1) ?_
              refine lv_istore_n (lv' := [(3, .int (nI (i + 1))), (5, .int 30), (4, .int (nI i)), (0, .ref o), (1, .int x), (2, .int (nI N))]) hx hb dX12_nights_154 rfl hl (by decide) rfl (fun ls hl => ?_)
              refine lv_iconst (v := 0) hx hb dX12_nights_155 (by decide) ?_
              refine lv_istore (lv' := [(5, .int 0), (3, .int (nI (i + 1))), (4, .int (nI i)), (0, .ref o), (1, .int x), (2, .int (nI N))]) hx hb dX12_nights_156 hl (by decide) rfl (fun ls hl => ?_)
              have lp40 : ∀ (n3 i3 : Nat) (F3 : Nat → Int32) (B3 : Nat → Nat → Int32) (G3 : Nat → Int64) (H : Heap) (locs : List Loc) (ls : Array Slot), i3 + n3 = 23 → B3 2 102 = 0 → B3 2 103 = 0 → B3 2 104 = 0 → B3 2 99 = 30 → B3 2 100 = 2 → va_P D vwCl (mW K o r F3 B3 G3) H → va_D A (mW K o r F3 B3 G3) → va_S A s.heap H locs → lv_has ls 6 [(5, .int (nI i3)), (3, .int (nI (i + 1))), (4, .int (nI i)), (0, .ref o), (1, .int x), (2, .int (nI N))] → W p l e (rmD 3 0 0) s m ([.ref o, .int x, .int (nI N)] : List Value).toArray below meth c H locs 0 0 (kQi D (tysK K) (fun v (u : mS) => v = (if mLies x 0 1000000 = 0 then (-1 : Int32) else if mLies (nI N) 1 20 = 0 then -1 else (nI N))) (fun u => mW K o r u.1 u.2.1 u.2.2) A below ([.ref o, .int x, .int (nI N)] : List Value).toArray s 0 0) (F0 m 158 ls []) := by
                intro n3
                induction n3 with
                | zero =>
                  intro i3 F3 B3 G3 H locs ls hin3 z30 z31 z32 z33 z34 hP hD hS hl
                  obtain rfl : 23 = i3 := by omega
                  have hl : lv_has ls 6 [(5, .int 23), (3, .int (nI (i + 1))), (4, .int (nI i)), (0, .ref o), (1, .int x), (2, .int (nI N))] := hl
                  refine lv_iload hx hb dX12_nights_158 (lv_at hl 0 rfl) ?_
                  refine lv_bipush (v := 23) hx hb dX12_nights_160 (by decide) ?_
                  refine lv_icmp_ge (tgt := 185) hx hb dX12_nights_162 (by decide) (fun c41 => ?_) (fun c41 => absurd (by decide +kernel) c41)
                  refine lv_aload_n hx hb dX12_nights_185 rfl (lv_at hl 3 rfl) ?_
                  refine lv_iconst (v := 0) hx hb dX12_nights_186 (by decide) ?_
                  refine kV.callV (As := [.int 0]) (rest := []) ⟨hx, hb, hml, hown, hg⟩ (c_takesBack0 l o r F3 B3 G3 z30 z31 z32 z33 z34 ) (cwV 1 hg (kgV wt7_223 wt7_225 wp7_9 wt1_14 wt7_226) rfl rfl rfl (by decide +kernel) ⟨by decide, by decide⟩) hK hP hD hS hA mIs [] rfl (wr := []) rfl rfl rfl (fun i h => by cases h) 0 12 rfl rfl rfl hl.1 rfl (Nat.le_of_ble_eq_true rfl) dX12_nights_187 ⟨by decide, by decide⟩ (fun u43 H locs hw42 hP hD hS => ?_)
                  obtain ⟨f45, a46, g47⟩ := u43
                  have hP : va_P D vwCl (mW K o r f45 a46 g47) H := hP
                  have hD : va_D A (mW K o r f45 a46 g47) := hD
                  refine lv_iinc (v := nI (i + 1)) (lv' := [(4, .int (nI (i + 1))), (5, .int 23), (3, .int (nI (i + 1))), (0, .ref o), (1, .int x), (2, .int (nI N))]) hx hb dX12_nights_190 hl (k := 2) rfl (nI_1 _) (by decide) rfl (fun ls hl => ?_)
                  refine lv_goto (tgt := 58) hx hb dX12_nights_193 (by decide) ?_
                  exact ih (i + 1) f45 a46 g47 _ _ _ (by omega) hw42.1 hw42.2.1 hw42.2.2.1 hw42.2.2.2.1 hw42.2.2.2.2 hP hD hS (lv_sub hl [0, 2, 3, 4, 5] rfl)
                | succ n3 ih3 =>
                  intro i3 F3 B3 G3 H locs ls hin3 z30 z31 z32 z33 z34 hP hD hS hl
                  have hlt3 : i3 < 23 := by omega
                  refine lv_iload hx hb dX12_nights_158 (lv_at hl 0 rfl) ?_
                  refine lv_bipush (v := 23) hx hb dX12_nights_160 (by decide) ?_
                  refine lv_icmp_ge (tgt := 185) hx hb dX12_nights_162 (by decide) (fun c48 => absurd c48 (nI_ge (b := 23) hlt3 (by decide))) (fun c48 => ?_)
                  refine lv_aload_n hx hb dX12_nights_165 rfl (lv_at hl 3 rfl) ?_
                  refine va_get (D := D) (ci := 12) (v := .ref (r 44)) (C := RX12) (T := TX12) (N := 48) hx hb hg inC12 hown hK hP 0 rfl rfl 44 (by decide) (hg _ wt5_204) (fun _ h9 => h9) rfl dX12_nights_166 ?_
                  refine lv_iload hx hb dX12_nights_169 (lv_at hl 0 rfl) ?_
                  refine lv_aload_n hx hb dX12_nights_171 rfl (lv_at hl 3 rfl) ?_
                  refine va_get (D := D) (ci := 12) (v := .ref (r 2)) (C := RX12) (T := TX12) (N := 48) hx hb hg inC12 hown hK hP 0 rfl rfl 2 (by decide) (hg _ wt5_162) (fun _ h9 => h9) rfl dX12_nights_172 ?_
                  refine lv_iload hx hb dX12_nights_175 (lv_at hl 0 rfl) ?_
                  refine va_iald hx hb hK hP 2 0 rfl rfl (vp_in_nI (by omega) (by decide)) dX12_nights_177 ?_
                  refine lv_topi (fun t49 et49 => ?_)
                  rw [nI_clamp (n := i3) (by omega)] at et49
                  refine va_iast hx hb hK hP hD hS 21 0 rfl rfl (vp_in_nI (by omega) (by decide)) dX12_nights_178 (fun H locs hP hD hS => ?_)
                  rw [nI_clamp (n := i3) (by omega)] at hP hD
                  have hP : va_P D vwCl (mW K o r F3 (va_up B3 44 (upd (B3 44) i3 t49)) G3) H := hP
                  have hD : va_D A (mW K o r F3 (va_up B3 44 (upd (B3 44) i3 t49)) G3) := hD
                  generalize ea_50 : va_up B3 44 (upd (B3 44) i3 t49) = a_50 at hP hD
                  refine lv_iinc (v := nI (i3 + 1)) (lv' := [(5, .int (nI (i3 + 1))), (3, .int (nI (i + 1))), (4, .int (nI i)), (0, .ref o), (1, .int x), (2, .int (nI N))]) hx hb dX12_nights_179 hl (k := 0) rfl (nI_1 _) (by decide) rfl (fun ls hl => ?_)
                  refine lv_goto (tgt := 158) hx hb dX12_nights_182 (by decide) ?_
                  exact ih3 (i3 + 1) F3 a_50 G3 _ _ _ (by omega) ((show a_50 2 102 = B3 2 102 from by rw [← ea_50]; rfl).trans z30) ((show a_50 2 103 = B3 2 103 from by rw [← ea_50]; rfl).trans z31) ((show a_50 2 104 = B3 2 104 from by rw [← ea_50]; rfl).trans z32) ((show a_50 2 99 = B3 2 99 from by rw [← ea_50]; rfl).trans z33) ((show a_50 2 100 = B3 2 100 from by rw [← ea_50]; rfl).trans z34) hP hD hS (lv_sub hl [0, 1, 2, 3, 4, 5] rfl)
              exact lp40 (23 - 0) 0 F2 B2 G2 _ _ _ (by omega) z20 z21 z22 z23 z24 hP hD hS hl
            | succ n2 ih2 =>
              intro i2 F2 B2 G2 H locs ls hin2 z20 z21 z22 z23 z24 hP hD hS hl
              have hlt2 : i2 < 30 := by omega
              refine lv_iload hx hb dX12_nights_71 (lv_at hl 0 rfl) ?_
              refine lv_aload_n hx hb dX12_nights_73 rfl (lv_at hl 3 rfl) ?_
              refine va_get (D := D) (ci := 12) (v := .ref (r 2)) (C := RX12) (T := TX12) (N := 48) hx hb hg inC12 hown hK hP 0 rfl rfl 2 (by decide) (hg _ wt5_162) (fun _ h9 => h9) rfl dX12_nights_74 ?_
              refine lv_bipush (v := 99) hx hb dX12_nights_77 (by decide) ?_
              refine va_iald hx hb hK hP 2 0 rfl rfl (k_in (by decide +kernel)) dX12_nights_79 ?_
              refine k_top (z := 30) (by rw [cl_99]; exact z23) ?_
              refine lv_icmp_ge (tgt := 136) hx hb dX12_nights_80 (by decide) (fun c51 => absurd c51 (nI_ge (b := 30) hlt2 (by decide))) (fun c51 => ?_)
              refine lv_aload_n hx hb dX12_nights_83 rfl (lv_at hl 3 rfl) ?_
              refine lv_aload_n hx hb dX12_nights_84 rfl (lv_at hl 3 rfl) ?_
              refine kI.callV (As := []) (rest := [.ref o]) ⟨hx, hb, hml, hown, hg⟩ (c_allBuilders l o r F2 B2 G2 z21 ) (cwV 0 hg (kgV wt7_164 wt7_166 wp6_14 wt1_14 wt7_167) rfl rfl rfl (by decide +kernel) ⟨by decide, by decide⟩) hK hP hD hS hA mIs [] rfl (wr := []) rfl rfl rfl (fun i h => by cases h) 0 12 rfl rfl rfl hl.1 rfl (Nat.le_of_ble_eq_true rfl) dX12_nights_85 ⟨by decide, by decide⟩ (fun v54 u53 H locs hw52 hP hD hS => ?_)
              have hP : va_P D vwCl (mW K o r F2 B2 G2) H := hP
              have hD : va_D A (mW K o r F2 B2 G2) := hD
              refine k_top (z := 0) (hw52) ?_
              refine kV.callV (As := [.int 0]) (rest := []) ⟨hx, hb, hml, hown, hg⟩ (c_sendsAll l o r F2 B2 G2 z20 z21 ) (cwV 1 hg (kgV wt7_215 wt7_217 wp7_7 wt1_14 wt7_218) rfl rfl rfl (by decide +kernel) ⟨by decide, by decide⟩) hK hP hD hS hA mIs [] rfl (wr := []) rfl rfl rfl (fun i h => by cases h) 0 12 rfl rfl rfl hl.1 rfl (Nat.le_of_ble_eq_true rfl) dX12_nights_88 ⟨by decide, by decide⟩ (fun u56 H locs hw55 hP hD hS => ?_)
              have hP : va_P D vwCl (mW K o r F2 B2 G2) H := hP
              have hD : va_D A (mW K o r F2 B2 G2) := hD
              refine lv_aload_n hx hb dX12_nights_91 rfl (lv_at hl 3 rfl) ?_
              refine lv_bipush (v := 10) hx hb dX12_nights_92 (by decide) ?_
              refine kI.callV (As := [.int 10]) (rest := []) ⟨hx, hb, hml, hown, hg⟩ (c_draws l o r F2 B2 G2 z20 z21 z22 z23 z24 ) (cwV 1 hg (kgV wt8_71 wt8_73 wp8_3 wt1_14 wt8_74) rfl rfl rfl (by decide +kernel) ⟨by decide, by decide⟩) hK hP hD hS hA mIs [] rfl (wr := []) rfl rfl rfl (fun i h => by cases h) 0 12 rfl rfl rfl hl.1 rfl (Nat.le_of_ble_eq_true rfl) dX12_nights_94 ⟨by decide, by decide⟩ (fun v60 u59 H locs hw58 hP hD hS => ?_)
              obtain ⟨f61, a62, g63⟩ := u59
              have hP : va_P D vwCl (mW K o r f61 a62 g63) H := hP
              have hD : va_D A (mW K o r f61 a62 g63) := hD
              refine lv_aload_n hx hb dX12_nights_97 rfl (lv_at hl 3 rfl) ?_
              refine va_get (D := D) (ci := 12) (v := .ref (r 2)) (C := RX12) (T := TX12) (N := 48) hx hb hg inC12 hown hK hP 0 rfl rfl 2 (by decide) (hg _ wt5_162) (fun _ h9 => h9) rfl dX12_nights_98 ?_
              refine lv_bipush (v := 100) hx hb dX12_nights_101 (by decide) ?_
              refine va_iald hx hb hK hP 2 0 rfl rfl (k_in (by decide +kernel)) dX12_nights_103 ?_
              refine k_top (z := 2) (by rw [cl_100]; exact hw58.2.2.2.2.2) ?_
              refine lv_icmp_ge (tgt := 121) hx hb dX12_nights_104 (by decide) (fun c64 => ?_) (fun c64 => ?_)
              · refine lv_aload_n hx hb dX12_nights_121 rfl (lv_at hl 3 rfl) ?_
                refine lv_aload_n hx hb dX12_nights_122 rfl (lv_at hl 3 rfl) ?_
                refine kI.callV (As := []) (rest := [.ref o]) ⟨hx, hb, hml, hown, hg⟩ (c_allBuilders l o r f61 a62 g63 hw58.2.2.1 ) (cwV 0 hg (kgV wt7_164 wt7_166 wp6_14 wt1_14 wt7_167) rfl rfl rfl (by decide +kernel) ⟨by decide, by decide⟩) hK hP hD hS hA mIs [] rfl (wr := []) rfl rfl rfl (fun i h => by cases h) 0 12 rfl rfl rfl hl.1 rfl (Nat.le_of_ble_eq_true rfl) dX12_nights_123 ⟨by decide, by decide⟩ (fun v67 u66 H locs hw65 hP hD hS => ?_)
                have hP : va_P D vwCl (mW K o r f61 a62 g63) H := hP
                have hD : va_D A (mW K o r f61 a62 g63) := hD
                refine k_top (z := 0) (hw65) ?_
                refine kI.callV (As := [.int 0]) (rest := []) ⟨hx, hb, hml, hown, hg⟩ (c_ticks l o r f61 a62 g63 hw58.2.1 hw58.2.2.1 hw58.2.2.2.1 hw58.2.2.2.2.1 hw58.2.2.2.2.2 ) (cwV 1 hg (kgV wt7_168 wt7_170 wp6_15 wt1_14 wt7_171) rfl rfl rfl (by decide +kernel) ⟨by decide, by decide⟩) hK hP hD hS hA mIs [] rfl (wr := []) rfl rfl rfl (fun i h => by cases h) 0 12 rfl rfl rfl hl.1 rfl (Nat.le_of_ble_eq_true rfl) dX12_nights_126 ⟨by decide, by decide⟩ (fun v70 u69 H locs hw68 hP hD hS => ?_)
                obtain ⟨f71, a72, g73⟩ := u69
                have hP : va_P D vwCl (mW K o r f71 a72 g73) H := hP
                have hD : va_D A (mW K o r f71 a72 g73) := hD
                refine k_top (z := 0) (hw68.1) ?_
                refine lv_pop hx hb dX12_nights_129 rfl ?_
                refine lv_iinc (v := nI (i2 + 1)) (lv' := [(5, .int (nI (i2 + 1))), (4, .int (nI i)), (3, .int (nI i)), (0, .ref o), (1, .int x), (2, .int (nI N))]) hx hb dX12_nights_130 hl (k := 0) rfl (nI_1 _) (by decide) rfl (fun ls hl => ?_)
                refine lv_goto (tgt := 71) hx hb dX12_nights_133 (by decide) ?_
                exact ih2 (i2 + 1) f71 a72 g73 _ _ _ (by omega) hw68.2.1 hw68.2.2.1 hw68.2.2.2.1 hw68.2.2.2.2.1 hw68.2.2.2.2.2 hP hD hS (lv_sub hl [0, 1, 2, 3, 4, 5] rfl)
              · refine lv_aload_n hx hb dX12_nights_107 rfl (lv_at hl 3 rfl) ?_
                refine va_get (D := D) (ci := 12) (v := .ref (r 2)) (C := RX12) (T := TX12) (N := 48) hx hb hg inC12 hown hK hP 0 rfl rfl 2 (by decide) (hg _ wt5_162) (fun _ h9 => h9) rfl dX12_nights_108 ?_
                refine lv_bipush (v := 22) hx hb dX12_nights_111 (by decide) ?_
                refine lv_dup2_11 hx hb dX12_nights_113 rfl rfl ?_
                refine va_iald hx hb hK hP 2 0 rfl rfl (k_in (by decide +kernel)) dX12_nights_114 ?_
                refine lv_topi (fun t74 et74 => ?_)
                rw [cl_22] at et74
                refine lv_iconst (v := 1) hx hb dX12_nights_115 (by decide) ?_
                refine lv_iadd hx hb dX12_nights_116 ?_
                refine lv_topi (fun t75 et75 => ?_)
                refine va_iast hx hb hK hP hD hS 2 0 rfl rfl (k_in (by decide +kernel)) dX12_nights_117 (fun H locs hP hD hS => ?_)
                rw [cl_22] at hP hD
                have hP : va_P D vwCl (mW K o r f61 (va_up a62 2 (upd (a62 2) 22 t75)) g63) H := hP
                have hD : va_D A (mW K o r f61 (va_up a62 2 (upd (a62 2) 22 t75)) g63) := hD
                generalize ea_76 : va_up a62 2 (upd (a62 2) 22 t75) = a_76 at hP hD
                refine lv_goto (tgt := 130) hx hb dX12_nights_118 (by decide) ?_
                refine lv_iinc (v := nI (i2 + 1)) (lv' := [(5, .int (nI (i2 + 1))), (4, .int (nI i)), (3, .int (nI i)), (0, .ref o), (1, .int x), (2, .int (nI N))]) hx hb dX12_nights_130 hl (k := 0) rfl (nI_1 _) (by decide) rfl (fun ls hl => ?_)
                refine lv_goto (tgt := 71) hx hb dX12_nights_133 (by decide) ?_
                exact ih2 (i2 + 1) f61 a_76 g63 _ _ _ (by omega) ((show a_76 2 102 = a62 2 102 from by rw [← ea_76]; rfl).trans hw58.2.1) ((show a_76 2 103 = a62 2 103 from by rw [← ea_76]; rfl).trans hw58.2.2.1) ((show a_76 2 104 = a62 2 104 from by rw [← ea_76]; rfl).trans hw58.2.2.2.1) ((show a_76 2 99 = a62 2 99 from by rw [← ea_76]; rfl).trans hw58.2.2.2.2.1) ((show a_76 2 100 = a62 2 100 from by rw [← ea_76]; rfl).trans hw58.2.2.2.2.2) hP hD hS (lv_sub hl [0, 1, 2, 3, 4, 5] rfl)
          exact lp31 (30 - 0) 0 f28 a29 g30 _ _ _ (by omega) hw25.1 hw25.2.1 hw25.2.2.1 hw25.2.2.2.1 hw25.2.2.2.2 hP hD hS hl
      exact lp16 (N - 0) 0 f_15 a g _ _ _ (by omega) h0 h1 h2 h3 h4 hP hD hS hl
    · refine lv_aload_n hx hb dX12_nights_20 rfl (lv_at hl 0 rfl) ?_
      refine lv_iconst (v := (-1)) hx hb dX12_nights_21 (by decide) ?_
      refine kI.callV (As := [.int (-1)]) (rest := []) ⟨hx, hb, hml, hown, hg⟩ (c_refuses1 l o r f a g  ) (cwV 1 hg (kgV wt6_72 wt6_74 wp3_5 wt1_14 wt6_75) rfl rfl rfl (by decide +kernel) ⟨by decide, by decide⟩) hK hP hD hS hA mIs [] rfl (wr := []) rfl rfl rfl (fun i h => by cases h) 0 12 rfl rfl rfl hl.1 rfl (Nat.le_of_ble_eq_true rfl) dX12_nights_22 ⟨by decide, by decide⟩ (fun v79 u78 H locs hw77 hP hD hS => ?_)
      obtain ⟨f80, a81, g82⟩ := u78
      have hP : va_P D vwCl (mW K o r f80 a81 g82) H := hP
      have hD : va_D A (mW K o r f80 a81 g82) := hD
      refine k_top (z := (-1)) (hw77) ?_
      exact kI_ret (v := (-1)) hx hb hr hlocks rfl hK hS dX12_nights_25 (f80, a81, g82) hP hD (by simp [c3, c12])
set_option maxHeartbeats 4000000 in
set_option maxRecDepth 100000 in
theorem c_goesOn (l : Launch) {D : va_G} {K : Nat → ClassId} (o : Nat) (r : Nat → Nat) (f : Nat → Int32) (a : Nat → Nat → Int32) (g : Nat → Int64) (h0 : a 2 102 = 0)   : kV l yX12_goesOn (Cond.code yX12_goesOn cX12_goesOn 2 none :: kG) (rmD 3 0 0) D (tysK K) [.ref o, .int 0] (mW K o r f a g) (fun (_ : Unit) => True) (fun _ => mW K o r f a g) 0 0 := by
  refine kV.of (cc := cX12_goesOn) (maxL := 2) (ret := none) (by decide) rfl (Nat.le_of_ble_eq_true rfl) ?_
  intro p e s m below meth c A hx hb hr hml hown hts hlocks hnm hK hP hD hS hA ls hl
  have hg : ∀ w ∈ kG, w.before _ s = true := fun w h => hts w (List.mem_cons_of_mem _ h)
  have hown : s.vm.findClass RX12 = some m.cls := hown
  have hl : lv_has ls 2 [(0, .ref o), (1, .int 0)] := hl
  refine lv_aload_n hx hb dX12_goesOn_0 rfl (lv_at hl 0 rfl) ?_
  refine lv_aload_n hx hb dX12_goesOn_1 rfl (lv_at hl 0 rfl) ?_
  refine kI.callV (As := []) (rest := [.ref o]) ⟨hx, hb, hml, hown, hg⟩ (c_allParts l o r f a g h0 ) (cwV 0 hg (kgV wt7_187 wt7_189 wp7_1 wt1_14 wt7_190) rfl rfl rfl (by decide +kernel) ⟨by decide, by decide⟩) hK hP hD hS hA mIs [] rfl (wr := []) rfl rfl rfl (fun i h => by cases h) 0 12 rfl rfl rfl hl.1 rfl (Nat.le_of_ble_eq_true rfl) dX12_goesOn_2 ⟨by decide, by decide⟩ (fun v3 u2 H locs hw1 hP hD hS => ?_)
  have hP : va_P D vwCl (mW K o r f a g) H := hP
  have hD : va_D A (mW K o r f a g) := hD
  refine k_top (z := 0) (hw1) ?_
  refine kI.callV (As := [.int 0]) (rest := []) ⟨hx, hb, hml, hown, hg⟩ (c_areStanding l o r f a g h0 ) (cwV 1 hg (kgV wt7_211 wt7_213 wp7_6 wt1_14 wt7_214) rfl rfl rfl (by decide +kernel) ⟨by decide, by decide⟩) hK hP hD hS hA mIs [] rfl (wr := []) rfl rfl rfl (fun i h => by cases h) 0 12 rfl rfl rfl hl.1 rfl (Nat.le_of_ble_eq_true rfl) dX12_goesOn_5 ⟨by decide, by decide⟩ (fun v6 u5 H locs hw4 hP hD hS => ?_)
  have hP : va_P D vwCl (mW K o r f a g) H := hP
  have hD : va_D A (mW K o r f a g) := hD
  refine k_top (z := 1) (hw4) ?_
  refine lv_if_eq (tgt := 12) hx hb dX12_goesOn_8 (by decide) (fun c7 => absurd c7 (by decide +kernel)) (fun c7 => ?_)
  exact kV_ret hx hb hr hlocks hK hS dX12_goesOn_11 () hP hD trivial
set_option maxHeartbeats 4000000 in
set_option maxRecDepth 100000 in
theorem c_greater (l : Launch) (x : Int32) (y : Int32)  : kN l yX12_greater (Cond.code yX12_greater cX12_greater 2 (some .int) :: kG) (rmD 1 0 0) [.int x, .int y] (fun v => v = (if x ≤ y then y else x)) := by
  refine kN.of (cc := cX12_greater) (maxL := 2) (ret := (some .int)) (by decide) rfl (Nat.le_of_ble_eq_true rfl) ?_
  intro p e s m below meth c hx hb hr hml hown hts hlocks hS ls hl
  have hg : ∀ w ∈ kG, w.before _ s = true := fun w h => hts w (List.mem_cons_of_mem _ h)
  have hown : s.vm.findClass RX12 = some m.cls := hown
  have hl : lv_has ls 2 [(0, .int x), (1, .int y)] := hl
  refine lv_iload_n hx hb dX12_greater_0 rfl (lv_at hl 0 rfl) ?_
  refine lv_iload_n hx hb dX12_greater_1 rfl (lv_at hl 1 rfl) ?_
  refine lv_icmp_le (tgt := 9) hx hb dX12_greater_2 (by decide) (fun c1 => ?_) (fun c1 => ?_)
  · refine lv_iload_n hx hb dX12_greater_9 rfl (lv_at hl 1 rfl) ?_
    exact kN_ret (v := y) hx hb hr hlocks rfl hS dX12_greater_10 (by rw [if_pos c1])
  · refine lv_iload_n hx hb dX12_greater_5 rfl (lv_at hl 0 rfl) ?_
    refine lv_goto (tgt := 10) hx hb dX12_greater_6 (by decide) ?_
    exact kN_ret (v := x) hx hb hr hlocks rfl hS dX12_greater_10 (by rw [if_neg c1])
set_option maxHeartbeats 4000000 in
set_option maxRecDepth 100000 in
theorem c_laysAside0s (l : Launch) {D : va_G} {K : Nat → ClassId} (o : Nat) (r : Nat → Nat) (f : Nat → Int32) (a : Nat → Nat → Int32) (g : Nat → Int64) (h0 : a 2 102 = 0) (h1 : a 2 103 = 0) (h2 : a 2 104 = 0) (h3 : a 2 99 = 30) (h4 : a 2 100 = 2)   : kV l yX12_laysAside (Cond.code yX12_laysAside cX12_laysAside 3 none :: kG) (rmD 1 0 0) D (tysK K) [.ref o, .int 0] (mW K o r f a g) (fun (u : mS) => u.2.1 2 102 = 0 ∧ u.2.1 2 103 = 0 ∧ u.2.1 2 104 = 0 ∧ u.2.1 2 99 = 30 ∧ u.2.1 2 100 = 2 ∧ u.2.1 36 = a 36) (fun u => mW K o r u.1 u.2.1 u.2.2) 0 0 := by
  refine kV.of (cc := cX12_laysAside) (maxL := 3) (ret := none) (by decide) rfl (Nat.le_of_ble_eq_true rfl) ?_
  intro p e s m below meth c A hx hb hr hml hown hts hlocks hnm hK hP hD hS hA ls hl
  have hg : ∀ w ∈ kG, w.before _ s = true := fun w h => hts w (List.mem_cons_of_mem _ h)
  have hown : s.vm.findClass RX12 = some m.cls := hown
  have hl : lv_has ls 3 [(0, .ref o), (1, .int 0)] := hl
  refine lv_iconst (v := 0) hx hb dX12_laysAside_0 (by decide) ?_
  refine lv_istore_n (lv' := [(2, .int 0), (0, .ref o), (1, .int 0)]) hx hb dX12_laysAside_1 rfl hl (by decide) rfl (fun ls hl => ?_)
  have lp1 : ∀ (n i : Nat) (F : Nat → Int32) (B : Nat → Nat → Int32) (G : Nat → Int64) (H : Heap) (locs : List Loc) (ls : Array Slot), i + n = 23 → B 2 102 = 0 → B 2 103 = 0 → B 2 104 = 0 → B 2 99 = 30 → B 2 100 = 2 → B 36 = a 36 → va_P D vwCl (mW K o r F B G) H → va_D A (mW K o r F B G) → va_S A s.heap H locs → lv_has ls 3 [(2, .int (nI i)), (0, .ref o), (1, .int 0)] → W p l e (rmD 1 0 0) s m ([.ref o, .int 0] : List Value).toArray below meth c H locs 0 0 (kQv D (tysK K) (fun (u : mS) => u.2.1 2 102 = 0 ∧ u.2.1 2 103 = 0 ∧ u.2.1 2 104 = 0 ∧ u.2.1 2 99 = 30 ∧ u.2.1 2 100 = 2 ∧ u.2.1 36 = a 36) (fun u => mW K o r u.1 u.2.1 u.2.2) A below ([.ref o, .int 0] : List Value).toArray s 0 0) (F0 m 2 ls []) := by
    intro n
    induction n with
    | zero =>
      intro i F B G H locs ls hin z0 z1 z2 z3 z4 z5 hP hD hS hl
      obtain rfl : 23 = i := by omega
      have hl : lv_has ls 3 [(2, .int 23), (0, .ref o), (1, .int 0)] := hl
      refine lv_iload_n hx hb dX12_laysAside_2 rfl (lv_at hl 0 rfl) ?_
      refine lv_bipush (v := 23) hx hb dX12_laysAside_3 (by decide) ?_
      refine lv_icmp_ge (tgt := 31) hx hb dX12_laysAside_5 (by decide) (fun c2 => ?_) (fun c2 => absurd (by decide +kernel) c2)
      exact kV_ret hx hb hr hlocks hK hS dX12_laysAside_31 (F, B, G) hP hD ⟨z0, z1, z2, z3, z4, z5⟩
    | succ n ih =>
      intro i F B G H locs ls hin z0 z1 z2 z3 z4 z5 hP hD hS hl
      have hlt : i < 23 := by omega
      refine lv_iload_n hx hb dX12_laysAside_2 rfl (lv_at hl 0 rfl) ?_
      refine lv_bipush (v := 23) hx hb dX12_laysAside_3 (by decide) ?_
      refine lv_icmp_ge (tgt := 31) hx hb dX12_laysAside_5 (by decide) (fun c3 => absurd c3 (nI_ge (b := 23) hlt (by decide))) (fun c3 => ?_)
      refine lv_aload_n hx hb dX12_laysAside_8 rfl (lv_at hl 1 rfl) ?_
      refine va_get (D := D) (ci := 12) (v := .ref (r 5)) (C := RX12) (T := TX12) (N := 48) hx hb hg inC12 hown hK hP 0 rfl rfl 5 (by decide) (hg _ wt5_165) (fun _ h9 => h9) rfl dX12_laysAside_9 ?_
      refine lv_bipush (v := 23) hx hb dX12_laysAside_12 (by decide) ?_
      refine lv_iload_n hx hb dX12_laysAside_14 rfl (lv_at hl 2 rfl) ?_
      refine lv_imul hx hb dX12_laysAside_15 ?_
      refine k_top (z := 0) (by decide +kernel) ?_
      refine lv_iload_n hx hb dX12_laysAside_16 rfl (lv_at hl 0 rfl) ?_
      refine lv_iadd hx hb dX12_laysAside_17 ?_
      refine k_top (z := nI (0 + i)) (nI_add 0 i) ?_
      refine lv_aload_n hx hb dX12_laysAside_18 rfl (lv_at hl 1 rfl) ?_
      refine va_get (D := D) (ci := 12) (v := .ref (r 2)) (C := RX12) (T := TX12) (N := 48) hx hb hg inC12 hown hK hP 0 rfl rfl 2 (by decide) (hg _ wt5_162) (fun _ h9 => h9) rfl dX12_laysAside_19 ?_
      refine lv_iload_n hx hb dX12_laysAside_22 rfl (lv_at hl 0 rfl) ?_
      refine va_iald hx hb hK hP 2 0 rfl rfl (vp_in_nI (by omega) (by decide)) dX12_laysAside_23 ?_
      refine lv_topi (fun t4 et4 => ?_)
      rw [nI_clamp (n := i) (by omega)] at et4
      refine va_iast hx hb hK hP hD hS 5 0 rfl rfl (vp_in_nI (by omega) (by decide)) dX12_laysAside_24 (fun H locs hP hD hS => ?_)
      rw [nI_clamp (n := (0 + i)) (by omega)] at hP hD
      have hP : va_P D vwCl (mW K o r F (va_up B 5 (upd (B 5) (0 + i) t4)) G) H := hP
      have hD : va_D A (mW K o r F (va_up B 5 (upd (B 5) (0 + i) t4)) G) := hD
      generalize ea_5 : va_up B 5 (upd (B 5) (0 + i) t4) = a_5 at hP hD
      refine lv_iinc (v := nI (i + 1)) (lv' := [(2, .int (nI (i + 1))), (0, .ref o), (1, .int 0)]) hx hb dX12_laysAside_25 hl (k := 0) rfl (nI_1 _) (by decide) rfl (fun ls hl => ?_)
      refine lv_goto (tgt := 2) hx hb dX12_laysAside_28 (by decide) ?_
      exact ih (i + 1) F a_5 G _ _ _ (by omega) ((show a_5 2 102 = B 2 102 from by rw [← ea_5]; rfl).trans z0) ((show a_5 2 103 = B 2 103 from by rw [← ea_5]; rfl).trans z1) ((show a_5 2 104 = B 2 104 from by rw [← ea_5]; rfl).trans z2) ((show a_5 2 99 = B 2 99 from by rw [← ea_5]; rfl).trans z3) ((show a_5 2 100 = B 2 100 from by rw [← ea_5]; rfl).trans z4) ((show a_5 36 = B 36 from by rw [← ea_5]; rfl).trans z5) hP hD hS (lv_sub hl [0, 1, 2] rfl)
  exact lp1 (23 - 0) 0 f a g _ _ _ (by omega) h0 h1 h2 h3 h4 rfl hP hD hS hl
set_option maxHeartbeats 4000000 in
set_option maxRecDepth 100000 in
theorem c_takesBack0s (l : Launch) {D : va_G} {K : Nat → ClassId} (o : Nat) (r : Nat → Nat) (f : Nat → Int32) (a : Nat → Nat → Int32) (g : Nat → Int64) (h0 : a 2 102 = 0) (h1 : a 2 103 = 0) (h2 : a 2 104 = 0) (h3 : a 2 99 = 30) (h4 : a 2 100 = 2)   : kV l yX12_takesBack (Cond.code yX12_takesBack cX12_takesBack 3 none :: kG) (rmD 1 0 0) D (tysK K) [.ref o, .int 0] (mW K o r f a g) (fun (u : mS) => u.2.1 2 102 = 0 ∧ u.2.1 2 103 = 0 ∧ u.2.1 2 104 = 0 ∧ u.2.1 2 99 = 30 ∧ u.2.1 2 100 = 2 ∧ u.2.1 36 = a 36) (fun u => mW K o r u.1 u.2.1 u.2.2) 0 0 := by
  refine kV.of (cc := cX12_takesBack) (maxL := 3) (ret := none) (by decide) rfl (Nat.le_of_ble_eq_true rfl) ?_
  intro p e s m below meth c A hx hb hr hml hown hts hlocks hnm hK hP hD hS hA ls hl
  have hg : ∀ w ∈ kG, w.before _ s = true := fun w h => hts w (List.mem_cons_of_mem _ h)
  have hown : s.vm.findClass RX12 = some m.cls := hown
  have hl : lv_has ls 3 [(0, .ref o), (1, .int 0)] := hl
  refine lv_iconst (v := 0) hx hb dX12_takesBack_0 (by decide) ?_
  refine lv_istore_n (lv' := [(2, .int 0), (0, .ref o), (1, .int 0)]) hx hb dX12_takesBack_1 rfl hl (by decide) rfl (fun ls hl => ?_)
  have lp1 : ∀ (n i : Nat) (F : Nat → Int32) (B : Nat → Nat → Int32) (G : Nat → Int64) (H : Heap) (locs : List Loc) (ls : Array Slot), i + n = 23 → B 2 102 = 0 → B 2 103 = 0 → B 2 104 = 0 → B 2 99 = 30 → B 2 100 = 2 → B 36 = a 36 → va_P D vwCl (mW K o r F B G) H → va_D A (mW K o r F B G) → va_S A s.heap H locs → lv_has ls 3 [(2, .int (nI i)), (0, .ref o), (1, .int 0)] → W p l e (rmD 1 0 0) s m ([.ref o, .int 0] : List Value).toArray below meth c H locs 0 0 (kQv D (tysK K) (fun (u : mS) => u.2.1 2 102 = 0 ∧ u.2.1 2 103 = 0 ∧ u.2.1 2 104 = 0 ∧ u.2.1 2 99 = 30 ∧ u.2.1 2 100 = 2 ∧ u.2.1 36 = a 36) (fun u => mW K o r u.1 u.2.1 u.2.2) A below ([.ref o, .int 0] : List Value).toArray s 0 0) (F0 m 2 ls []) := by
    intro n
    induction n with
    | zero =>
      intro i F B G H locs ls hin z0 z1 z2 z3 z4 z5 hP hD hS hl
      obtain rfl : 23 = i := by omega
      have hl : lv_has ls 3 [(2, .int 23), (0, .ref o), (1, .int 0)] := hl
      refine lv_iload_n hx hb dX12_takesBack_2 rfl (lv_at hl 0 rfl) ?_
      refine lv_bipush (v := 23) hx hb dX12_takesBack_3 (by decide) ?_
      refine lv_icmp_ge (tgt := 31) hx hb dX12_takesBack_5 (by decide) (fun c2 => ?_) (fun c2 => absurd (by decide +kernel) c2)
      exact kV_ret hx hb hr hlocks hK hS dX12_takesBack_31 (F, B, G) hP hD ⟨z0, z1, z2, z3, z4, z5⟩
    | succ n ih =>
      intro i F B G H locs ls hin z0 z1 z2 z3 z4 z5 hP hD hS hl
      have hlt : i < 23 := by omega
      refine lv_iload_n hx hb dX12_takesBack_2 rfl (lv_at hl 0 rfl) ?_
      refine lv_bipush (v := 23) hx hb dX12_takesBack_3 (by decide) ?_
      refine lv_icmp_ge (tgt := 31) hx hb dX12_takesBack_5 (by decide) (fun c3 => absurd c3 (nI_ge (b := 23) hlt (by decide))) (fun c3 => ?_)
      refine lv_aload_n hx hb dX12_takesBack_8 rfl (lv_at hl 1 rfl) ?_
      refine va_get (D := D) (ci := 12) (v := .ref (r 2)) (C := RX12) (T := TX12) (N := 48) hx hb hg inC12 hown hK hP 0 rfl rfl 2 (by decide) (hg _ wt5_162) (fun _ h9 => h9) rfl dX12_takesBack_9 ?_
      refine lv_iload_n hx hb dX12_takesBack_12 rfl (lv_at hl 0 rfl) ?_
      refine lv_aload_n hx hb dX12_takesBack_13 rfl (lv_at hl 1 rfl) ?_
      refine va_get (D := D) (ci := 12) (v := .ref (r 5)) (C := RX12) (T := TX12) (N := 48) hx hb hg inC12 hown hK hP 0 rfl rfl 5 (by decide) (hg _ wt5_165) (fun _ h9 => h9) rfl dX12_takesBack_14 ?_
      refine lv_bipush (v := 23) hx hb dX12_takesBack_17 (by decide) ?_
      refine lv_iload_n hx hb dX12_takesBack_19 rfl (lv_at hl 2 rfl) ?_
      refine lv_imul hx hb dX12_takesBack_20 ?_
      refine k_top (z := 0) (by decide +kernel) ?_
      refine lv_iload_n hx hb dX12_takesBack_21 rfl (lv_at hl 0 rfl) ?_
      refine lv_iadd hx hb dX12_takesBack_22 ?_
      refine k_top (z := nI (0 + i)) (nI_add 0 i) ?_
      refine va_iald hx hb hK hP 5 0 rfl rfl (vp_in_nI (by omega) (by decide)) dX12_takesBack_23 ?_
      refine lv_topi (fun t4 et4 => ?_)
      rw [nI_clamp (n := (0 + i)) (by omega)] at et4
      refine va_iast hx hb hK hP hD hS 2 0 rfl rfl (vp_in_nI (by omega) (by decide)) dX12_takesBack_24 (fun H locs hP hD hS => ?_)
      rw [nI_clamp (n := i) (by omega)] at hP hD
      have hP : va_P D vwCl (mW K o r F (va_up B 2 (upd (B 2) i t4)) G) H := hP
      have hD : va_D A (mW K o r F (va_up B 2 (upd (B 2) i t4)) G) := hD
      generalize ea_5 : va_up B 2 (upd (B 2) i t4) = a_5 at hP hD
      refine lv_iinc (v := nI (i + 1)) (lv' := [(2, .int (nI (i + 1))), (0, .ref o), (1, .int 0)]) hx hb dX12_takesBack_25 hl (k := 0) rfl (nI_1 _) (by decide) rfl (fun ls hl => ?_)
      refine lv_goto (tgt := 2) hx hb dX12_takesBack_28 (by decide) ?_
      exact ih (i + 1) F a_5 G _ _ _ (by omega) ((show a_5 2 102 = B 2 102 from by rw [← ea_5]; exact pk_un (by omega)).trans z0) ((show a_5 2 103 = B 2 103 from by rw [← ea_5]; exact pk_un (by omega)).trans z1) ((show a_5 2 104 = B 2 104 from by rw [← ea_5]; exact pk_un (by omega)).trans z2) ((show a_5 2 99 = B 2 99 from by rw [← ea_5]; exact pk_un (by omega)).trans z3) ((show a_5 2 100 = B 2 100 from by rw [← ea_5]; exact pk_un (by omega)).trans z4) ((show a_5 36 = B 36 from by rw [← ea_5]; rfl).trans z5) hP hD hS (lv_sub hl [0, 1, 2] rfl)
  exact lp1 (23 - 0) 0 f a g _ _ _ (by omega) h0 h1 h2 h3 h4 rfl hP hD hS hl
end
section
set_option maxHeartbeats 4000000 in
set_option maxRecDepth 100000 in
theorem c_beginsS (l : Launch) {D : va_G} {K : Nat → ClassId} (o : Nat) (r : Nat → Nat) (f : Nat → Int32) (a : Nat → Nat → Int32) (g : Nat → Int64) (h0 : a 2 102 = 0) (h1 : a 2 103 = 0) (h2 : a 2 104 = 0) (h3 : a 2 99 = 30) (h4 : a 2 100 = 2)   : kV l yX12_begins (Cond.code yX12_begins cX12_begins 2 none :: kG) (rmD 2 0 0) D (tysK K) [.ref o] (mW K o r f a g) (fun (u : mS) => u.2.1 2 102 = 0 ∧ u.2.1 2 103 = 0 ∧ u.2.1 2 104 = 0 ∧ u.2.1 2 99 = 30 ∧ u.2.1 2 100 = 2 ∧ u.2.1 36 = a 36) (fun u => mW K o r u.1 u.2.1 u.2.2) 0 0 := by
  refine kV.of (cc := cX12_begins) (maxL := 2) (ret := none) (by decide) rfl (Nat.le_of_ble_eq_true rfl) ?_
  intro p e s m below meth c A hx hb hr hml hown hts hlocks hnm hK hP hD hS hA ls hl
  have hg : ∀ w ∈ kG, w.before _ s = true := fun w h => hts w (List.mem_cons_of_mem _ h)
  have hown : s.vm.findClass RX12 = some m.cls := hown
  have hl : lv_has ls 2 [(0, .ref o)] := hl
  refine lv_aload_n hx hb dX12_begins_0 rfl (lv_at hl 0 rfl) ?_
  refine lv_iconst (v := 0) hx hb dX12_begins_1 (by decide) ?_
  refine kV.callV (As := [.int 0]) (rest := []) ⟨hx, hb, hml, hown, hg⟩ (c_laysAside0s l o r f a g h0 h1 h2 h3 h4 ) (cwV 1 hg (kgV wt7_207 wt7_209 wp7_5 wt1_14 wt7_210) rfl rfl rfl (by decide +kernel) ⟨by decide, by decide⟩) hK hP hD hS hA mIs [] rfl (wr := []) rfl rfl rfl (fun i h => by cases h) 0 12 rfl rfl rfl hl.1 rfl (Nat.le_of_ble_eq_true rfl) dX12_begins_2 ⟨by decide, by decide⟩ (fun u2 H locs hw1 hP hD hS => ?_)
  obtain ⟨f4, a5, g6⟩ := u2
  have hP : va_P D vwCl (mW K o r f4 a5 g6) H := hP
  have hD : va_D A (mW K o r f4 a5 g6) := hD
  refine lv_iconst (v := 0) hx hb dX12_begins_5 (by decide) ?_
  refine lv_istore_n (lv' := [(1, .int 0), (0, .ref o)]) hx hb dX12_begins_6 rfl hl (by decide) rfl (fun ls hl => ?_)
  have lp7 : ∀ (n i : Nat) (F : Nat → Int32) (B : Nat → Nat → Int32) (G : Nat → Int64) (H : Heap) (locs : List Loc) (ls : Array Slot), i + n = 6 → B 2 102 = 0 → B 2 103 = 0 → B 2 104 = 0 → B 2 99 = 30 → B 2 100 = 2 → B 36 = a 36 → va_P D vwCl (mW K o r F B G) H → va_D A (mW K o r F B G) → va_S A s.heap H locs → lv_has ls 2 [(1, .int (nI i)), (0, .ref o)] → W p l e (rmD 2 0 0) s m ([.ref o] : List Value).toArray below meth c H locs 0 0 (kQv D (tysK K) (fun (u : mS) => u.2.1 2 102 = 0 ∧ u.2.1 2 103 = 0 ∧ u.2.1 2 104 = 0 ∧ u.2.1 2 99 = 30 ∧ u.2.1 2 100 = 2 ∧ u.2.1 36 = a 36) (fun u => mW K o r u.1 u.2.1 u.2.2) A below ([.ref o] : List Value).toArray s 0 0) (F0 m 7 ls []) := by
    intro n
    induction n with
    | zero =>
      intro i F B G H locs ls hin z0 z1 z2 z3 z4 z5 hP hD hS hl
      obtain rfl : 6 = i := by omega
      have hl : lv_has ls 2 [(1, .int 6), (0, .ref o)] := hl
      refine lv_iload_n hx hb dX12_begins_7 rfl (lv_at hl 0 rfl) ?_
      refine lv_bipush (v := 6) hx hb dX12_begins_8 (by decide) ?_
      refine lv_icmp_ge (tgt := 29) hx hb dX12_begins_10 (by decide) (fun c8 => ?_) (fun c8 => absurd (by decide +kernel) c8)
      exact kV_ret hx hb hr hlocks hK hS dX12_begins_29 (F, B, G) hP hD ⟨z0, z1, z2, z3, z4, z5⟩
    | succ n ih =>
      intro i F B G H locs ls hin z0 z1 z2 z3 z4 z5 hP hD hS hl
      have hlt : i < 6 := by omega
      refine lv_iload_n hx hb dX12_begins_7 rfl (lv_at hl 0 rfl) ?_
      refine lv_bipush (v := 6) hx hb dX12_begins_8 (by decide) ?_
      refine lv_icmp_ge (tgt := 29) hx hb dX12_begins_10 (by decide) (fun c9 => absurd c9 (nI_ge (b := 6) hlt (by decide))) (fun c9 => ?_)
      refine lv_aload_n hx hb dX12_begins_13 rfl (lv_at hl 1 rfl) ?_
      refine va_get (D := D) (ci := 12) (v := .ref (r 2)) (C := RX12) (T := TX12) (N := 48) hx hb hg inC12 hown hK hP 0 rfl rfl 2 (by decide) (hg _ wt5_162) (fun _ h9 => h9) rfl dX12_begins_14 ?_
      refine lv_bipush (v := 16) hx hb dX12_begins_17 (by decide) ?_
      refine lv_iload_n hx hb dX12_begins_19 rfl (lv_at hl 0 rfl) ?_
      refine lv_iadd hx hb dX12_begins_20 ?_
      refine k_top (z := nI (16 + i)) (nI_add 16 i) ?_
      refine lv_iconst (v := (-1)) hx hb dX12_begins_21 (by decide) ?_
      refine va_iast hx hb hK hP hD hS 2 0 rfl rfl (vp_in_nI (by omega) (by decide)) dX12_begins_22 (fun H locs hP hD hS => ?_)
      rw [nI_clamp (n := (16 + i)) (by omega)] at hP hD
      have hP : va_P D vwCl (mW K o r F (va_up B 2 (upd (B 2) (16 + i) (-1))) G) H := hP
      have hD : va_D A (mW K o r F (va_up B 2 (upd (B 2) (16 + i) (-1))) G) := hD
      generalize ea_10 : va_up B 2 (upd (B 2) (16 + i) (-1)) = a_10 at hP hD
      refine lv_iinc (v := nI (i + 1)) (lv' := [(1, .int (nI (i + 1))), (0, .ref o)]) hx hb dX12_begins_23 hl (k := 0) rfl (nI_1 _) (by decide) rfl (fun ls hl => ?_)
      refine lv_goto (tgt := 7) hx hb dX12_begins_26 (by decide) ?_
      exact ih (i + 1) F a_10 G _ _ _ (by omega) ((show a_10 2 102 = B 2 102 from by rw [← ea_10]; exact pk_un (by omega)).trans z0) ((show a_10 2 103 = B 2 103 from by rw [← ea_10]; exact pk_un (by omega)).trans z1) ((show a_10 2 104 = B 2 104 from by rw [← ea_10]; exact pk_un (by omega)).trans z2) ((show a_10 2 99 = B 2 99 from by rw [← ea_10]; exact pk_un (by omega)).trans z3) ((show a_10 2 100 = B 2 100 from by rw [← ea_10]; exact pk_un (by omega)).trans z4) ((show a_10 36 = B 36 from by rw [← ea_10]; rfl).trans z5) hP hD hS (lv_sub hl [0, 1] rfl)
  exact lp7 (6 - 0) 0 f4 a5 g6 _ _ _ (by omega) hw1.1 hw1.2.1 hw1.2.2.1 hw1.2.2.2.1 hw1.2.2.2.2.1 hw1.2.2.2.2.2 hP hD hS hl
set_option maxHeartbeats 4000000 in
set_option maxRecDepth 100000 in
theorem c_canBeWhoseS (l : Launch) {D : va_G} {K : Nat → ClassId} (o : Nat) (r : Nat → Nat) (f : Nat → Int32) (a : Nat → Nat → Int32) (g : Nat → Int64) (h0 : a 2 102 = 0) (h1 : a 2 103 = 0) (h2 : a 2 104 = 0) (h3 : a 2 99 = 30) (h4 : a 2 100 = 2)   : kI l yX12_canBeWhose (Cond.code yX12_canBeWhose cX12_canBeWhose 5 (some .boolean) :: kG) (rmD 3 0 0) D (tysK K) [.ref o, .int 0] (mW K o r f a g) (fun v (u : mS) => v = 1 ∧ u.2.1 2 102 = 0 ∧ u.2.1 2 103 = 0 ∧ u.2.1 2 104 = 0 ∧ u.2.1 2 99 = 30 ∧ u.2.1 2 100 = 2 ∧ u.2.1 36 = a 36) (fun u => mW K o r u.1 u.2.1 u.2.2) 0 0 := by
  refine kI.of (cc := cX12_canBeWhose) (maxL := 5) (ret := (some .boolean)) (by decide) rfl (Nat.le_of_ble_eq_true rfl) ?_
  intro p e s m below meth c A hx hb hr hml hown hts hlocks hnm hK hP hD hS hA ls hl
  have hg : ∀ w ∈ kG, w.before _ s = true := fun w h => hts w (List.mem_cons_of_mem _ h)
  have hown : s.vm.findClass RX12 = some m.cls := hown
  have hl : lv_has ls 5 [(0, .ref o), (1, .int 0)] := hl
  refine lv_aload_n hx hb dX12_canBeWhose_0 rfl (lv_at hl 0 rfl) ?_
  refine kV.callV (As := []) (rest := []) ⟨hx, hb, hml, hown, hg⟩ (c_beginsS l o r f a g h0 h1 h2 h3 h4 ) (cwV 0 hg (kgV wt7_203 wt7_205 wp7_4 wt1_14 wt7_206) rfl rfl rfl (by decide +kernel) ⟨by decide, by decide⟩) hK hP hD hS hA mIs [] rfl (wr := []) rfl rfl rfl (fun i h => by cases h) 0 12 rfl rfl rfl hl.1 rfl (Nat.le_of_ble_eq_true rfl) dX12_canBeWhose_1 ⟨by decide, by decide⟩ (fun u2 H locs hw1 hP hD hS => ?_)
  obtain ⟨f4, a5, g6⟩ := u2
  have hP : va_P D vwCl (mW K o r f4 a5 g6) H := hP
  have hD : va_D A (mW K o r f4 a5 g6) := hD
  refine lv_aload_n hx hb dX12_canBeWhose_4 rfl (lv_at hl 0 rfl) ?_
  refine kI.callV (As := []) (rest := []) ⟨hx, hb, hml, hown, hg⟩ (c_lastSight l o r f4 a5 g6 hw1.2.2.1 ) (cwV 0 hg (kgV wt8_23 wt8_25 wp7_12 wt1_14 wt8_26) rfl rfl rfl (by decide +kernel) ⟨by decide, by decide⟩) hK hP hD hS hA mIs [] rfl (wr := []) rfl rfl rfl (fun i h => by cases h) 0 12 rfl rfl rfl hl.1 rfl (Nat.le_of_ble_eq_true rfl) dX12_canBeWhose_5 ⟨by decide, by decide⟩ (fun v9 u8 H locs hw7 hP hD hS => ?_)
  have hP : va_P D vwCl (mW K o r f4 a5 g6) H := hP
  have hD : va_D A (mW K o r f4 a5 g6) := hD
  refine k_top (z := 0) (hw7) ?_
  refine lv_istore_n (lv' := [(2, .int 0), (0, .ref o), (1, .int 0)]) hx hb dX12_canBeWhose_8 rfl hl (by decide) rfl (fun ls hl => ?_)
  refine lv_aload_n hx hb dX12_canBeWhose_9 rfl (lv_at hl 1 rfl) ?_
  refine lv_iconst (v := 0) hx hb dX12_canBeWhose_10 (by decide) ?_
  refine kI.callV (As := [.int 0]) (rest := []) ⟨hx, hb, hml, hown, hg⟩ (c_areSo l o r f4 a5 g6 hw1.2.2.1 0) (cwV 1 hg (kgV wt8_27 wt8_29 wp7_13 wt1_14 wt8_30) rfl rfl rfl (by decide +kernel) ⟨by decide, by decide⟩) hK hP hD hS hA mIs [] rfl (wr := []) rfl rfl rfl (fun i h => by cases h) 0 12 rfl rfl rfl hl.1 rfl (Nat.le_of_ble_eq_true rfl) dX12_canBeWhose_11 ⟨by decide, by decide⟩ (fun v12 u11 H locs hw10 hP hD hS => ?_)
  have hP : va_P D vwCl (mW K o r f4 a5 g6) H := hP
  have hD : va_D A (mW K o r f4 a5 g6) := hD
  refine k_top (z := 1) (hw10) ?_
  refine lv_istore_n (lv' := [(3, .int 1), (2, .int 0), (0, .ref o), (1, .int 0)]) hx hb dX12_canBeWhose_14 rfl hl (by decide) rfl (fun ls hl => ?_)
  refine lv_iconst (v := 1) hx hb dX12_canBeWhose_15 (by decide) ?_
  refine lv_istore (lv' := [(4, .int 1), (3, .int 1), (2, .int 0), (0, .ref o), (1, .int 0)]) hx hb dX12_canBeWhose_16 hl (by decide) rfl (fun ls hl => ?_)
  refine lv_iload hx hb dX12_canBeWhose_18 (lv_at hl 0 rfl) ?_
  refine lv_iload_n hx hb dX12_canBeWhose_20 rfl (lv_at hl 2 rfl) ?_
  refine lv_icmp_gt (tgt := 46) hx hb dX12_canBeWhose_21 (by decide) (fun c13 => ?_) (fun c13 => absurd (by decide +kernel) c13)
  refine lv_aload_n hx hb dX12_canBeWhose_46 rfl (lv_at hl 3 rfl) ?_
  refine lv_iconst (v := 0) hx hb dX12_canBeWhose_47 (by decide) ?_
  refine kV.callV (As := [.int 0]) (rest := []) ⟨hx, hb, hml, hown, hg⟩ (c_takesBack0s l o r f4 a5 g6 hw1.1 hw1.2.1 hw1.2.2.1 hw1.2.2.2.1 hw1.2.2.2.2.1 ) (cwV 1 hg (kgV wt7_223 wt7_225 wp7_9 wt1_14 wt7_226) rfl rfl rfl (by decide +kernel) ⟨by decide, by decide⟩) hK hP hD hS hA mIs [] rfl (wr := []) rfl rfl rfl (fun i h => by cases h) 0 12 rfl rfl rfl hl.1 rfl (Nat.le_of_ble_eq_true rfl) dX12_canBeWhose_48 ⟨by decide, by decide⟩ (fun u15 H locs hw14 hP hD hS => ?_)
  obtain ⟨f17, a18, g19⟩ := u15
  have hP : va_P D vwCl (mW K o r f17 a18 g19) H := hP
  have hD : va_D A (mW K o r f17 a18 g19) := hD
  refine lv_iload_n hx hb dX12_canBeWhose_51 rfl (lv_at hl 1 rfl) ?_
  exact kI_ret (v := 1) hx hb hr hlocks (by decide +kernel) hK hS dX12_canBeWhose_52 (f17, a18, g19) hP hD ⟨rfl, hw14.1, hw14.2.1, hw14.2.2.1, hw14.2.2.2.1, hw14.2.2.2.2.1, (hw14.2.2.2.2.2.trans hw1.2.2.2.2.2)⟩
set_option maxHeartbeats 4000000 in
set_option maxRecDepth 100000 in
theorem c_shows (l : Launch) {D : va_G} {K : Nat → ClassId} (o : Nat) (r : Nat → Nat) (f : Nat → Int32) (a : Nat → Nat → Int32) (g : Nat → Int64) (h0 : a 2 102 = 0) (h1 : a 2 103 = 0) (h2 : a 2 104 = 0) (h3 : a 2 99 = 30) (h4 : a 2 100 = 2)   (hz : ∀ j, j < 451 → a 36 j = 0) : kV l yX12_shows (Cond.code yX12_shows cX12_shows 3 none :: kG) (rmD 4 0 0) D (tysK K) [.ref o, .int 0] (mW K o r f a g) (fun (u : mS) => u.2.1 2 102 = 0 ∧ u.2.1 2 103 = 0 ∧ u.2.1 2 104 = 0 ∧ u.2.1 2 99 = 30 ∧ u.2.1 2 100 = 2 ∧ ∀ j, j < 451 → u.2.1 36 j = mSh 41 j) (fun u => mW K o r u.1 u.2.1 u.2.2) 0 0 := by
  refine kV.of (cc := cX12_shows) (maxL := 3) (ret := none) (by decide) rfl (Nat.le_of_ble_eq_true rfl) ?_
  intro p e s m below meth c A hx hb hr hml hown hts hlocks hnm hK hP hD hS hA ls hl
  have hg : ∀ w ∈ kG, w.before _ s = true := fun w h => hts w (List.mem_cons_of_mem _ h)
  have hown : s.vm.findClass RX12 = some m.cls := hown
  have hl : lv_has ls 3 [(0, .ref o), (1, .int 0)] := hl
  refine lv_aload_n hx hb dX12_shows_0 rfl (lv_at hl 0 rfl) ?_
  refine kV.callV (As := []) (rest := []) ⟨hx, hb, hml, hown, hg⟩ (c_beginsS l o r f a g h0 h1 h2 h3 h4 ) (cwV 0 hg (kgV wt7_203 wt7_205 wp7_4 wt1_14 wt7_206) rfl rfl rfl (by decide +kernel) ⟨by decide, by decide⟩) hK hP hD hS hA mIs [] rfl (wr := []) rfl rfl rfl (fun i h => by cases h) 0 12 rfl rfl rfl hl.1 rfl (Nat.le_of_ble_eq_true rfl) dX12_shows_1 ⟨by decide, by decide⟩ (fun u2 H locs hw1 hP hD hS => ?_)
  obtain ⟨f4, a5, g6⟩ := u2
  have hP : va_P D vwCl (mW K o r f4 a5 g6) H := hP
  have hD : va_D A (mW K o r f4 a5 g6) := hD
  refine lv_iconst (v := 0) hx hb dX12_shows_4 (by decide) ?_
  refine lv_istore_n (lv' := [(2, .int 0), (0, .ref o), (1, .int 0)]) hx hb dX12_shows_5 rfl hl (by decide) rfl (fun ls hl => ?_)
  have lp7 : ∀ (n i : Nat) (F : Nat → Int32) (B : Nat → Nat → Int32) (G : Nat → Int64) (H : Heap) (locs : List Loc) (ls : Array Slot), i + n = 41 → B 2 102 = 0 → B 2 103 = 0 → B 2 104 = 0 → B 2 99 = 30 → B 2 100 = 2 → (∀ j, j < 451 → B 36 j = mSh i j) → va_P D vwCl (mW K o r F B G) H → va_D A (mW K o r F B G) → va_S A s.heap H locs → lv_has ls 3 [(2, .int (nI i)), (0, .ref o), (1, .int 0)] → W p l e (rmD 4 0 0) s m ([.ref o, .int 0] : List Value).toArray below meth c H locs 0 0 (kQv D (tysK K) (fun (u : mS) => u.2.1 2 102 = 0 ∧ u.2.1 2 103 = 0 ∧ u.2.1 2 104 = 0 ∧ u.2.1 2 99 = 30 ∧ u.2.1 2 100 = 2 ∧ ∀ j, j < 451 → u.2.1 36 j = mSh 41 j) (fun u => mW K o r u.1 u.2.1 u.2.2) A below ([.ref o, .int 0] : List Value).toArray s 0 0) (F0 m 6 ls []) := by
    intro n
    induction n with
    | zero =>
      intro i F B G H locs ls hin z0 z1 z2 z3 z4 zi hP hD hS hl
      obtain rfl : 41 = i := by omega
      have hl : lv_has ls 3 [(2, .int 41), (0, .ref o), (1, .int 0)] := hl
      refine lv_iload_n hx hb dX12_shows_6 rfl (lv_at hl 0 rfl) ?_
      refine lv_bipush (v := 40) hx hb dX12_shows_7 (by decide) ?_
      refine lv_icmp_gt (tgt := 44) hx hb dX12_shows_9 (by decide) (fun c8 => ?_) (fun c8 => absurd (by decide +kernel) c8)
      refine lv_aload_n hx hb dX12_shows_44 rfl (lv_at hl 1 rfl) ?_
      refine lv_iconst (v := 0) hx hb dX12_shows_45 (by decide) ?_
      refine kV.callV (As := [.int 0]) (rest := []) ⟨hx, hb, hml, hown, hg⟩ (c_takesBack0s l o r F B G z0 z1 z2 z3 z4 ) (cwV 1 hg (kgV wt7_223 wt7_225 wp7_9 wt1_14 wt7_226) rfl rfl rfl (by decide +kernel) ⟨by decide, by decide⟩) hK hP hD hS hA mIs [] rfl (wr := []) rfl rfl rfl (fun i h => by cases h) 0 12 rfl rfl rfl hl.1 rfl (Nat.le_of_ble_eq_true rfl) dX12_shows_46 ⟨by decide, by decide⟩ (fun u10 H locs hw9 hP hD hS => ?_)
      obtain ⟨f12, a13, g14⟩ := u10
      have hP : va_P D vwCl (mW K o r f12 a13 g14) H := hP
      have hD : va_D A (mW K o r f12 a13 g14) := hD
      exact kV_ret hx hb hr hlocks hK hS dX12_shows_49 (f12, a13, g14) hP hD ⟨hw9.1, hw9.2.1, hw9.2.2.1, hw9.2.2.2.1, hw9.2.2.2.2.1, (fun j hj => (congrFun hw9.2.2.2.2.2 j).trans (zi j hj))⟩
    | succ n ih =>
      intro i F B G H locs ls hin z0 z1 z2 z3 z4 zi hP hD hS hl
      have hlt : i < 41 := by omega
      refine lv_iload_n hx hb dX12_shows_6 rfl (lv_at hl 0 rfl) ?_
      refine lv_bipush (v := 40) hx hb dX12_shows_7 (by decide) ?_
      refine lv_icmp_gt (tgt := 44) hx hb dX12_shows_9 (by decide) (fun c15 => absurd c15 (nI_nlt (a := 40) (b := i) (by omega) (by decide))) (fun c15 => ?_)
      refine lv_aload_n hx hb dX12_shows_12 rfl (lv_at hl 1 rfl) ?_
      refine va_get (D := D) (ci := 12) (v := .ref (r 36)) (C := RX12) (T := TX12) (N := 48) hx hb hg inC12 hown hK hP 0 rfl rfl 36 (by decide) (hg _ wt5_196) (fun _ h9 => h9) rfl dX12_shows_13 ?_
      refine lv_bipush (v := 11) hx hb dX12_shows_16 (by decide) ?_
      refine lv_iload_n hx hb dX12_shows_18 rfl (lv_at hl 0 rfl) ?_
      refine lv_imul hx hb dX12_shows_19 ?_
      refine k_top (z := nI (11 * i)) (pk_mul 11 i) ?_
      refine lv_aload_n hx hb dX12_shows_20 rfl (lv_at hl 1 rfl) ?_
      refine kI.callV (As := []) (rest := [.int (nI (11 * i)), .ref (r 36)]) ⟨hx, hb, hml, hown, hg⟩ (c_standing l o r F B G z0 ) (cwV 0 hg (kgV wt6_116 wt6_118 wp3_13 wt1_14 wt6_119) rfl rfl rfl (by decide +kernel) ⟨by decide, by decide⟩) hK hP hD hS hA mIs [] rfl (wr := []) rfl rfl rfl (fun i h => by cases h) 0 12 rfl rfl rfl hl.1 rfl (Nat.le_of_ble_eq_true rfl) dX12_shows_21 ⟨by decide, by decide⟩ (fun v18 u17 H locs hw16 hP hD hS => ?_)
      have hP : va_P D vwCl (mW K o r F B G) H := hP
      have hD : va_D A (mW K o r F B G) := hD
      refine k_top (z := 0) (hw16) ?_
      refine kN.callS (As := [.int 0]) (rest := [.int (nI (11 * i)), .ref (r 36)]) ⟨hx, hb, hml, hown, hg⟩ (c_ones0 l ) (va_cwS 1 hg (kgS wt7_71 wt7_72 wt1_14 wt7_73) rfl rfl rfl (by decide +kernel) ⟨by decide, by decide⟩) hP hS rfl hl.1 rfl (Nat.le_of_ble_eq_true rfl) dX12_shows_24 ⟨by decide, by decide⟩ (fun v20 H locs hw19 hP hS => ?_)
      refine k_top (z := 0) (hw19) ?_
      refine lv_iadd hx hb dX12_shows_27 ?_
      refine k_top (z := nI ((11 * i) + 0)) (nI_add (11 * i) 0) ?_
      refine lv_dup2_11 hx hb dX12_shows_28 rfl rfl ?_
      refine va_iald hx hb hK hP 19 0 rfl rfl (vp_in_nI (by omega) (by decide)) dX12_shows_29 ?_
      refine lv_topi (fun t21 et21 => ?_)
      rw [nI_clamp (n := ((11 * i) + 0)) (by omega)] at et21
      have et21 : t21 = 0 := et21.trans ((zi _ (by omega)).trans ks_at)
      subst et21
      refine lv_iconst (v := 1) hx hb dX12_shows_30 (by decide) ?_
      refine lv_iadd hx hb dX12_shows_31 ?_
      refine k_top (z := 1) (by decide +kernel) ?_
      refine va_iast hx hb hK hP hD hS 19 0 rfl rfl (vp_in_nI (by omega) (by decide)) dX12_shows_32 (fun H locs hP hD hS => ?_)
      rw [nI_clamp (n := ((11 * i) + 0)) (by omega)] at hP hD
      have hP : va_P D vwCl (mW K o r F (va_up B 36 (upd (B 36) ((11 * i) + 0) 1)) G) H := hP
      have hD : va_D A (mW K o r F (va_up B 36 (upd (B 36) ((11 * i) + 0) 1)) G) := hD
      generalize ea_22 : va_up B 36 (upd (B 36) ((11 * i) + 0) 1) = a_22 at hP hD
      refine lv_aload_n hx hb dX12_shows_33 rfl (lv_at hl 1 rfl) ?_
      refine lv_iload_n hx hb dX12_shows_34 rfl (lv_at hl 2 rfl) ?_
      refine kV.callV (As := [.int 0]) (rest := []) ⟨hx, hb, hml, hown, hg⟩ (c_goesOn l o r F a_22 G ((show a_22 2 102 = B 2 102 from by rw [← ea_22]; rfl).trans z0) ) (cwV 1 hg (kgV wt8_31 wt8_33 wp7_14 wt1_14 wt8_34) rfl rfl rfl (by decide +kernel) ⟨by decide, by decide⟩) hK hP hD hS hA mIs [] rfl (wr := []) rfl rfl rfl (fun i h => by cases h) 0 12 rfl rfl rfl hl.1 rfl (Nat.le_of_ble_eq_true rfl) dX12_shows_35 ⟨by decide, by decide⟩ (fun u24 H locs hw23 hP hD hS => ?_)
      have hP : va_P D vwCl (mW K o r F a_22 G) H := hP
      have hD : va_D A (mW K o r F a_22 G) := hD
      refine lv_iinc (v := nI (i + 1)) (lv' := [(2, .int (nI (i + 1))), (0, .ref o), (1, .int 0)]) hx hb dX12_shows_38 hl (k := 0) rfl (nI_1 _) (by decide) rfl (fun ls hl => ?_)
      refine lv_goto (tgt := 6) hx hb dX12_shows_41 (by decide) ?_
      exact ih (i + 1) F a_22 G _ _ _ (by omega) ((show a_22 2 102 = B 2 102 from by rw [← ea_22]; rfl).trans z0) ((show a_22 2 103 = B 2 103 from by rw [← ea_22]; rfl).trans z1) ((show a_22 2 104 = B 2 104 from by rw [← ea_22]; rfl).trans z2) ((show a_22 2 99 = B 2 99 from by rw [← ea_22]; rfl).trans z3) ((show a_22 2 100 = B 2 100 from by rw [← ea_22]; rfl).trans z4) (by rw [← ea_22]; exact ks_step zi rfl) hP hD hS (lv_sub hl [0, 1, 2] rfl)
  exact lp7 (41 - 0) 0 f4 a5 g6 _ _ _ (by omega) hw1.1 hw1.2.1 hw1.2.2.1 hw1.2.2.2.1 hw1.2.2.2.2.1 (fun j hj => (congrFun hw1.2.2.2.2.2 j).trans ((hz j hj).trans (mSh_0 j).symm)) hP hD hS hl
set_option maxHeartbeats 4000000 in
set_option maxRecDepth 100000 in
theorem c_look (l : Launch) {D : va_G} {K : Nat → ClassId} (o : Nat) (r : Nat → Nat) (f : Nat → Int32) (a : Nat → Nat → Int32) (g : Nat → Int64) (h0 : a 2 102 = 0) (h1 : a 2 103 = 0) (h2 : a 2 104 = 0) (h3 : a 2 99 = 30) (h4 : a 2 100 = 2) (x : Int32)  : kI l yX12_look (Cond.code yX12_look cX12_look 8 (some .int) :: kG) (rmD 5 0 0) D (tysK K) [.ref o, .int x] (mW K o r f a g) (fun v (u : mS) => v = (if mLies x 0 1 = 0 then (-1 : Int32) else if x = 0 then 0 else 1)) (fun u => mW K o r u.1 u.2.1 u.2.2) 0 0 := by
  refine kI.of (cc := cX12_look) (maxL := 8) (ret := (some .int)) (by decide) rfl (Nat.le_of_ble_eq_true rfl) ?_
  intro p e s m below meth c A hx hb hr hml hown hts hlocks hnm hK hP hD hS hA ls hl
  have hg : ∀ w ∈ kG, w.before _ s = true := fun w h => hts w (List.mem_cons_of_mem _ h)
  have hown : s.vm.findClass RX12 = some m.cls := hown
  have hl : lv_has ls 8 [(0, .ref o), (1, .int x)] := hl
  refine lv_iload_n hx hb dX12_look_0 rfl (lv_at hl 1 rfl) ?_
  refine lv_iconst (v := 0) hx hb dX12_look_1 (by decide) ?_
  refine lv_iconst (v := 1) hx hb dX12_look_2 (by decide) ?_
  refine kN.callS (As := [.int x, .int 0, .int 1]) (rest := []) ⟨hx, hb, hml, hown, hg⟩ (c_lies l x 0 1) (va_cwS 3 hg (kgS wt6_69 wt6_70 wt1_14 wt6_71) rfl rfl rfl (by decide +kernel) ⟨by decide, by decide⟩) hP hS rfl hl.1 rfl (Nat.le_of_ble_eq_true rfl) dX12_look_3 ⟨by decide, by decide⟩ (fun v2 H locs hw1 hP hS => ?_)
  refine k_top (z := mLies x 0 1) hw1 ?_
  refine lv_if_ne (tgt := 11) hx hb dX12_look_6 (by decide) (fun c3 => ?_) (fun c3 => ?_)
  · refine lv_iconst (v := 0) hx hb dX12_look_11 (by decide) ?_
    refine lv_istore_n (lv' := [(2, .int 0), (0, .ref o), (1, .int x)]) hx hb dX12_look_12 rfl hl (by decide) rfl (fun ls hl => ?_)
    refine lv_iconst (v := 0) hx hb dX12_look_13 (by decide) ?_
    refine lv_istore_n (lv' := [(3, .int 0), (2, .int 0), (0, .ref o), (1, .int x)]) hx hb dX12_look_14 rfl hl (by decide) rfl (fun ls hl => ?_)
    have lp4 : ∀ (n i : Nat) (F : Nat → Int32) (B : Nat → Nat → Int32) (G : Nat → Int64) (H : Heap) (locs : List Loc) (ls : Array Slot), i + n = 451 → B 2 102 = 0 → B 2 103 = 0 → B 2 104 = 0 → B 2 99 = 30 → B 2 100 = 2 → (∀ j, j < i → B 36 j = 0) → va_P D vwCl (mW K o r F B G) H → va_D A (mW K o r F B G) → va_S A s.heap H locs → lv_has ls 8 [(3, .int (nI i)), (2, .int 0), (0, .ref o), (1, .int x)] → W p l e (rmD 5 0 0) s m ([.ref o, .int x] : List Value).toArray below meth c H locs 0 0 (kQi D (tysK K) (fun v (u : mS) => v = (if mLies x 0 1 = 0 then (-1 : Int32) else if x = 0 then 0 else 1)) (fun u => mW K o r u.1 u.2.1 u.2.2) A below ([.ref o, .int x] : List Value).toArray s 0 0) (F0 m 15 ls []) := by
      intro n
      induction n with
      | zero =>
        intro i F B G H locs ls hin z0 z1 z2 z3 z4 zi hP hD hS hl
        obtain rfl : 451 = i := by omega
        have hl : lv_has ls 8 [(3, .int 451), (2, .int 0), (0, .ref o), (1, .int x)] := hl
        refine lv_iload_n hx hb dX12_look_15 rfl (lv_at hl 0 rfl) ?_
        refine lv_sipush (v := 451) hx hb dX12_look_16 (by decide) ?_
        refine lv_icmp_ge (tgt := 35) hx hb dX12_look_19 (by decide) (fun c5 => ?_) (fun c5 => absurd (by decide +kernel) c5)
        refine lv_iconst (v := 0) hx hb dX12_look_35 (by decide) ?_
        refine lv_istore_n (lv' := [(3, .int 0), (2, .int 0), (0, .ref o), (1, .int x)]) hx hb dX12_look_36 rfl hl (by decide) rfl (fun ls hl => ?_)
        refine lv_iload_n hx hb dX12_look_37 rfl (lv_at hl 0 rfl) ?_
        refine lv_aload_n hx hb dX12_look_38 rfl (lv_at hl 2 rfl) ?_
        refine kI.callV (As := []) (rest := [.int 0]) ⟨hx, hb, hml, hown, hg⟩ (c_allBuilders l o r F B G z1 ) (cwV 0 hg (kgV wt7_164 wt7_166 wp6_14 wt1_14 wt7_167) rfl rfl rfl (by decide +kernel) ⟨by decide, by decide⟩) hK hP hD hS hA mIs [] rfl (wr := []) rfl rfl rfl (fun i h => by cases h) 0 12 rfl rfl rfl hl.1 rfl (Nat.le_of_ble_eq_true rfl) dX12_look_39 ⟨by decide, by decide⟩ (fun v8 u7 H locs hw6 hP hD hS => ?_)
        have hP : va_P D vwCl (mW K o r F B G) H := hP
        have hD : va_D A (mW K o r F B G) := hD
        refine k_top (z := 0) (hw6) ?_
        refine lv_icmp_gt (tgt := 70) hx hb dX12_look_42 (by decide) (fun c9 => absurd c9 (by decide +kernel)) (fun c9 => ?_)
        refine lv_aload_n hx hb dX12_look_45 rfl (lv_at hl 2 rfl) ?_
        refine lv_iload_n hx hb dX12_look_46 rfl (lv_at hl 0 rfl) ?_
        refine kI.callV (As := [.int 0]) (rest := []) ⟨hx, hb, hml, hown, hg⟩ (c_canBeWhoseS l o r F B G z0 z1 z2 z3 z4 ) (cwV 1 hg (kgV wt8_19 wt8_21 wp7_11 wt1_14 wt8_22) rfl rfl rfl (by decide +kernel) ⟨by decide, by decide⟩) hK hP hD hS hA mIs [] rfl (wr := []) rfl rfl rfl (fun i h => by cases h) 0 12 rfl rfl rfl hl.1 rfl (Nat.le_of_ble_eq_true rfl) dX12_look_47 ⟨by decide, by decide⟩ (fun v12 u11 H locs hw10 hP hD hS => ?_)
        obtain ⟨f13, a14, g15⟩ := u11
        have hP : va_P D vwCl (mW K o r f13 a14 g15) H := hP
        have hD : va_D A (mW K o r f13 a14 g15) := hD
        refine k_top (z := 1) (hw10.1) ?_
        refine lv_if_ne (tgt := 56) hx hb dX12_look_50 (by decide) (fun c16 => ?_) (fun c16 => absurd c16 (by decide +kernel))
        refine lv_iinc (v := 1) (lv' := [(2, .int 1), (3, .int 0), (0, .ref o), (1, .int x)]) hx hb dX12_look_56 hl (k := 1) rfl (by decide +kernel) (by decide) rfl (fun ls hl => ?_)
        refine lv_aload_n hx hb dX12_look_59 rfl (lv_at hl 2 rfl) ?_
        refine lv_iload_n hx hb dX12_look_60 rfl (lv_at hl 1 rfl) ?_
        refine kV.callV (As := [.int 0]) (rest := []) ⟨hx, hb, hml, hown, hg⟩ (c_shows l o r f13 a14 g15 hw10.2.1 hw10.2.2.1 hw10.2.2.2.1 hw10.2.2.2.2.1 hw10.2.2.2.2.2.1 (fun j hj => (congrFun hw10.2.2.2.2.2.2 j).trans (zi j hj))) (cwV 1 hg (kgV wt8_39 wt8_41 wp7_15 wt1_14 wt8_42) rfl rfl rfl (by decide +kernel) ⟨by decide, by decide⟩) hK hP hD hS hA mIs [] rfl (wr := []) rfl rfl rfl (fun i h => by cases h) 0 12 rfl rfl rfl hl.1 rfl (Nat.le_of_ble_eq_true rfl) dX12_look_61 ⟨by decide, by decide⟩ (fun u18 H locs hw17 hP hD hS => ?_)
        obtain ⟨f20, a21, g22⟩ := u18
        have hP : va_P D vwCl (mW K o r f20 a21 g22) H := hP
        have hD : va_D A (mW K o r f20 a21 g22) := hD
        refine lv_iinc (v := 1) (lv' := [(3, .int 1), (2, .int 1), (0, .ref o), (1, .int x)]) hx hb dX12_look_64 hl (k := 1) rfl (by decide +kernel) (by decide) rfl (fun ls hl => ?_)
        refine lv_goto (tgt := 37) hx hb dX12_look_67 (by decide) ?_
        refine lv_iload_n hx hb dX12_look_37 rfl (lv_at hl 0 rfl) ?_
        refine lv_aload_n hx hb dX12_look_38 rfl (lv_at hl 2 rfl) ?_
        refine kI.callV (As := []) (rest := [.int 1]) ⟨hx, hb, hml, hown, hg⟩ (c_allBuilders l o r f20 a21 g22 hw17.2.1 ) (cwV 0 hg (kgV wt7_164 wt7_166 wp6_14 wt1_14 wt7_167) rfl rfl rfl (by decide +kernel) ⟨by decide, by decide⟩) hK hP hD hS hA mIs [] rfl (wr := []) rfl rfl rfl (fun i h => by cases h) 0 12 rfl rfl rfl hl.1 rfl (Nat.le_of_ble_eq_true rfl) dX12_look_39 ⟨by decide, by decide⟩ (fun v25 u24 H locs hw23 hP hD hS => ?_)
        have hP : va_P D vwCl (mW K o r f20 a21 g22) H := hP
        have hD : va_D A (mW K o r f20 a21 g22) := hD
        refine k_top (z := 0) (hw23) ?_
        refine lv_icmp_gt (tgt := 70) hx hb dX12_look_42 (by decide) (fun c26 => ?_) (fun c26 => absurd (by decide +kernel) c26)
        refine lv_iconst (v := (-1)) hx hb dX12_look_70 (by decide) ?_
        refine lv_istore_n (lv' := [(3, .int (-1)), (2, .int 1), (0, .ref o), (1, .int x)]) hx hb dX12_look_71 rfl hl (by decide) rfl (fun ls hl => ?_)
        refine lv_ldc (v := (1000000)) hx hb hown (hg _ wt6_191) dX12_look_72 ?_
        refine lv_istore (lv' := [(4, .int 1000000), (3, .int (-1)), (2, .int 1), (0, .ref o), (1, .int x)]) hx hb dX12_look_74 hl (by decide) rfl (fun ls hl => ?_)
        refine lv_iconst (v := 0) hx hb dX12_look_76 (by decide) ?_
        refine lv_istore (lv' := [(5, .int 0), (4, .int 1000000), (3, .int (-1)), (2, .int 1), (0, .ref o), (1, .int x)]) hx hb dX12_look_77 hl (by decide) rfl (fun ls hl => ?_)
        refine lv_iload hx hb dX12_look_79 (lv_at hl 0 rfl) ?_
        refine lv_bipush (v := 40) hx hb dX12_look_81 (by decide) ?_
        refine lv_icmp_gt (tgt := 152) hx hb dX12_look_83 (by decide) (fun c27 => absurd c27 (by decide +kernel)) (fun c27 => ?_)
        refine lv_iload_n hx hb dX12_look_86 rfl (lv_at hl 3 rfl) ?_
        refine lv_if_le (tgt := 152) hx hb dX12_look_87 (by decide) (fun c28 => absurd c28 (by decide +kernel)) (fun c28 => ?_)
        refine lv_iconst (v := 0) hx hb dX12_look_90 (by decide) ?_
        refine lv_istore (lv' := [(6, .int 0), (5, .int 0), (4, .int 1000000), (3, .int (-1)), (2, .int 1), (0, .ref o), (1, .int x)]) hx hb dX12_look_91 hl (by decide) rfl (fun ls hl => ?_)
        refine lv_iconst (v := 0) hx hb dX12_look_93 (by decide) ?_
        refine lv_istore (lv' := [(7, .int 0), (6, .int 0), (5, .int 0), (4, .int 1000000), (3, .int (-1)), (2, .int 1), (0, .ref o), (1, .int x)]) hx hb dX12_look_94 hl (by decide) rfl (fun ls hl => ?_)
        refine lv_iload hx hb dX12_look_96 (lv_at hl 0 rfl) ?_
        refine lv_bipush (v := 10) hx hb dX12_look_98 (by decide) ?_
        refine lv_icmp_gt (tgt := 129) hx hb dX12_look_100 (by decide) (fun c29 => absurd c29 (by decide +kernel)) (fun c29 => ?_)
        refine lv_iload hx hb dX12_look_103 (lv_at hl 1 rfl) ?_
        refine lv_aload_n hx hb dX12_look_105 rfl (lv_at hl 6 rfl) ?_
        refine va_get (D := D) (ci := 12) (v := .ref (r 36)) (C := RX12) (T := TX12) (N := 48) hx hb hg inC12 hown hK hP 0 rfl rfl 36 (by decide) (hg _ wt5_196) (fun _ h9 => h9) rfl dX12_look_106 ?_
        refine lv_bipush (v := 11) hx hb dX12_look_109 (by decide) ?_
        refine lv_iload hx hb dX12_look_111 (lv_at hl 2 rfl) ?_
        refine lv_imul hx hb dX12_look_113 ?_
        refine k_top (z := 0) (by decide +kernel) ?_
        refine lv_iload hx hb dX12_look_114 (lv_at hl 0 rfl) ?_
        refine lv_iadd hx hb dX12_look_116 ?_
        refine k_top (z := 0) (by decide +kernel) ?_
        refine va_iald hx hb hK hP 19 0 rfl rfl (k_in (by decide +kernel)) dX12_look_117 ?_
        refine lv_topi (fun t30 et30 => ?_)
        rw [cl_0] at et30
        have et30 : t30 = 1 := et30.trans ((hw17.2.2.2.2.2 0 (by decide)).trans (by decide +kernel))
        subst et30
        refine kN.callS (As := [.int 0, .int 1]) (rest := []) ⟨hx, hb, hml, hown, hg⟩ (c_greater l 0 1) (va_cwS 2 hg (kgS wt6_127 wt6_128 wt1_14 wt6_129) rfl rfl rfl (by decide +kernel) ⟨by decide, by decide⟩) hP hS rfl hl.1 rfl (Nat.le_of_ble_eq_true rfl) dX12_look_118 ⟨by decide, by decide⟩ (fun v32 H locs hw31 hP hS => ?_)
        refine k_top (z := 1) (hw31.trans (by decide +kernel)) ?_
        refine lv_istore (lv' := [(6, .int 1), (7, .int 0), (5, .int 0), (4, .int 1000000), (3, .int (-1)), (2, .int 1), (0, .ref o), (1, .int x)]) hx hb dX12_look_121 hl (by decide) rfl (fun ls hl => ?_)
        refine lv_iinc (v := 1) (lv' := [(7, .int 1), (6, .int 1), (5, .int 0), (4, .int 1000000), (3, .int (-1)), (2, .int 1), (0, .ref o), (1, .int x)]) hx hb dX12_look_123 hl (k := 1) rfl (by decide +kernel) (by decide) rfl (fun ls hl => ?_)
        refine lv_goto (tgt := 96) hx hb dX12_look_126 (by decide) ?_
        refine lv_iload hx hb dX12_look_96 (lv_at hl 0 rfl) ?_
        refine lv_bipush (v := 10) hx hb dX12_look_98 (by decide) ?_
        refine lv_icmp_gt (tgt := 129) hx hb dX12_look_100 (by decide) (fun c33 => absurd c33 (by decide +kernel)) (fun c33 => ?_)
        refine lv_iload hx hb dX12_look_103 (lv_at hl 1 rfl) ?_
        refine lv_aload_n hx hb dX12_look_105 rfl (lv_at hl 6 rfl) ?_
        refine va_get (D := D) (ci := 12) (v := .ref (r 36)) (C := RX12) (T := TX12) (N := 48) hx hb hg inC12 hown hK hP 0 rfl rfl 36 (by decide) (hg _ wt5_196) (fun _ h9 => h9) rfl dX12_look_106 ?_
        refine lv_bipush (v := 11) hx hb dX12_look_109 (by decide) ?_
        refine lv_iload hx hb dX12_look_111 (lv_at hl 2 rfl) ?_
        refine lv_imul hx hb dX12_look_113 ?_
        refine k_top (z := 0) (by decide +kernel) ?_
        refine lv_iload hx hb dX12_look_114 (lv_at hl 0 rfl) ?_
        refine lv_iadd hx hb dX12_look_116 ?_
        refine k_top (z := 1) (by decide +kernel) ?_
        refine va_iald hx hb hK hP 19 0 rfl rfl (k_in (by decide +kernel)) dX12_look_117 ?_
        refine lv_topi (fun t34 et34 => ?_)
        rw [cl_1] at et34
        have et34 : t34 = 0 := et34.trans ((hw17.2.2.2.2.2 1 (by decide)).trans (by decide +kernel))
        subst et34
        refine kN.callS (As := [.int 1, .int 0]) (rest := []) ⟨hx, hb, hml, hown, hg⟩ (c_greater l 1 0) (va_cwS 2 hg (kgS wt6_127 wt6_128 wt1_14 wt6_129) rfl rfl rfl (by decide +kernel) ⟨by decide, by decide⟩) hP hS rfl hl.1 rfl (Nat.le_of_ble_eq_true rfl) dX12_look_118 ⟨by decide, by decide⟩ (fun v36 H locs hw35 hP hS => ?_)
        refine k_top (z := 1) (hw35.trans (by decide +kernel)) ?_
        refine lv_istore (lv' := [(6, .int 1), (7, .int 1), (5, .int 0), (4, .int 1000000), (3, .int (-1)), (2, .int 1), (0, .ref o), (1, .int x)]) hx hb dX12_look_121 hl (by decide) rfl (fun ls hl => ?_)
        refine lv_iinc (v := 2) (lv' := [(7, .int 2), (6, .int 1), (5, .int 0), (4, .int 1000000), (3, .int (-1)), (2, .int 1), (0, .ref o), (1, .int x)]) hx hb dX12_look_123 hl (k := 1) rfl (by decide +kernel) (by decide) rfl (fun ls hl => ?_)
        refine lv_goto (tgt := 96) hx hb dX12_look_126 (by decide) ?_
        refine lv_iload hx hb dX12_look_96 (lv_at hl 0 rfl) ?_
        refine lv_bipush (v := 10) hx hb dX12_look_98 (by decide) ?_
        refine lv_icmp_gt (tgt := 129) hx hb dX12_look_100 (by decide) (fun c37 => absurd c37 (by decide +kernel)) (fun c37 => ?_)
        refine lv_iload hx hb dX12_look_103 (lv_at hl 1 rfl) ?_
        refine lv_aload_n hx hb dX12_look_105 rfl (lv_at hl 6 rfl) ?_
        refine va_get (D := D) (ci := 12) (v := .ref (r 36)) (C := RX12) (T := TX12) (N := 48) hx hb hg inC12 hown hK hP 0 rfl rfl 36 (by decide) (hg _ wt5_196) (fun _ h9 => h9) rfl dX12_look_106 ?_
        refine lv_bipush (v := 11) hx hb dX12_look_109 (by decide) ?_
        refine lv_iload hx hb dX12_look_111 (lv_at hl 2 rfl) ?_
        refine lv_imul hx hb dX12_look_113 ?_
        refine k_top (z := 0) (by decide +kernel) ?_
        refine lv_iload hx hb dX12_look_114 (lv_at hl 0 rfl) ?_
        refine lv_iadd hx hb dX12_look_116 ?_
        refine k_top (z := 2) (by decide +kernel) ?_
        refine va_iald hx hb hK hP 19 0 rfl rfl (k_in (by decide +kernel)) dX12_look_117 ?_
        refine lv_topi (fun t38 et38 => ?_)
        rw [cl_2] at et38
        have et38 : t38 = 0 := et38.trans ((hw17.2.2.2.2.2 2 (by decide)).trans (by decide +kernel))
        subst et38
        refine kN.callS (As := [.int 1, .int 0]) (rest := []) ⟨hx, hb, hml, hown, hg⟩ (c_greater l 1 0) (va_cwS 2 hg (kgS wt6_127 wt6_128 wt1_14 wt6_129) rfl rfl rfl (by decide +kernel) ⟨by decide, by decide⟩) hP hS rfl hl.1 rfl (Nat.le_of_ble_eq_true rfl) dX12_look_118 ⟨by decide, by decide⟩ (fun v40 H locs hw39 hP hS => ?_)
        refine k_top (z := 1) (hw39.trans (by decide +kernel)) ?_
        refine lv_istore (lv' := [(6, .int 1), (7, .int 2), (5, .int 0), (4, .int 1000000), (3, .int (-1)), (2, .int 1), (0, .ref o), (1, .int x)]) hx hb dX12_look_121 hl (by decide) rfl (fun ls hl => ?_)
        refine lv_iinc (v := 3) (lv' := [(7, .int 3), (6, .int 1), (5, .int 0), (4, .int 1000000), (3, .int (-1)), (2, .int 1), (0, .ref o), (1, .int x)]) hx hb dX12_look_123 hl (k := 1) rfl (by decide +kernel) (by decide) rfl (fun ls hl => ?_)
        refine lv_goto (tgt := 96) hx hb dX12_look_126 (by decide) ?_
        refine lv_iload hx hb dX12_look_96 (lv_at hl 0 rfl) ?_
        refine lv_bipush (v := 10) hx hb dX12_look_98 (by decide) ?_
        refine lv_icmp_gt (tgt := 129) hx hb dX12_look_100 (by decide) (fun c41 => absurd c41 (by decide +kernel)) (fun c41 => ?_)
        refine lv_iload hx hb dX12_look_103 (lv_at hl 1 rfl) ?_
        refine lv_aload_n hx hb dX12_look_105 rfl (lv_at hl 6 rfl) ?_
        refine va_get (D := D) (ci := 12) (v := .ref (r 36)) (C := RX12) (T := TX12) (N := 48) hx hb hg inC12 hown hK hP 0 rfl rfl 36 (by decide) (hg _ wt5_196) (fun _ h9 => h9) rfl dX12_look_106 ?_
        refine lv_bipush (v := 11) hx hb dX12_look_109 (by decide) ?_
        refine lv_iload hx hb dX12_look_111 (lv_at hl 2 rfl) ?_
        refine lv_imul hx hb dX12_look_113 ?_
        refine k_top (z := 0) (by decide +kernel) ?_
        refine lv_iload hx hb dX12_look_114 (lv_at hl 0 rfl) ?_
        refine lv_iadd hx hb dX12_look_116 ?_
        refine k_top (z := 3) (by decide +kernel) ?_
        refine va_iald hx hb hK hP 19 0 rfl rfl (k_in (by decide +kernel)) dX12_look_117 ?_
        refine lv_topi (fun t42 et42 => ?_)
        rw [cl_3] at et42
        have et42 : t42 = 0 := et42.trans ((hw17.2.2.2.2.2 3 (by decide)).trans (by decide +kernel))
        subst et42
        refine kN.callS (As := [.int 1, .int 0]) (rest := []) ⟨hx, hb, hml, hown, hg⟩ (c_greater l 1 0) (va_cwS 2 hg (kgS wt6_127 wt6_128 wt1_14 wt6_129) rfl rfl rfl (by decide +kernel) ⟨by decide, by decide⟩) hP hS rfl hl.1 rfl (Nat.le_of_ble_eq_true rfl) dX12_look_118 ⟨by decide, by decide⟩ (fun v44 H locs hw43 hP hS => ?_)
        refine k_top (z := 1) (hw43.trans (by decide +kernel)) ?_
        refine lv_istore (lv' := [(6, .int 1), (7, .int 3), (5, .int 0), (4, .int 1000000), (3, .int (-1)), (2, .int 1), (0, .ref o), (1, .int x)]) hx hb dX12_look_121 hl (by decide) rfl (fun ls hl => ?_)
        refine lv_iinc (v := 4) (lv' := [(7, .int 4), (6, .int 1), (5, .int 0), (4, .int 1000000), (3, .int (-1)), (2, .int 1), (0, .ref o), (1, .int x)]) hx hb dX12_look_123 hl (k := 1) rfl (by decide +kernel) (by decide) rfl (fun ls hl => ?_)
        refine lv_goto (tgt := 96) hx hb dX12_look_126 (by decide) ?_
        refine lv_iload hx hb dX12_look_96 (lv_at hl 0 rfl) ?_
        refine lv_bipush (v := 10) hx hb dX12_look_98 (by decide) ?_
        refine lv_icmp_gt (tgt := 129) hx hb dX12_look_100 (by decide) (fun c45 => absurd c45 (by decide +kernel)) (fun c45 => ?_)
        refine lv_iload hx hb dX12_look_103 (lv_at hl 1 rfl) ?_
        refine lv_aload_n hx hb dX12_look_105 rfl (lv_at hl 6 rfl) ?_
        refine va_get (D := D) (ci := 12) (v := .ref (r 36)) (C := RX12) (T := TX12) (N := 48) hx hb hg inC12 hown hK hP 0 rfl rfl 36 (by decide) (hg _ wt5_196) (fun _ h9 => h9) rfl dX12_look_106 ?_
        refine lv_bipush (v := 11) hx hb dX12_look_109 (by decide) ?_
        refine lv_iload hx hb dX12_look_111 (lv_at hl 2 rfl) ?_
        refine lv_imul hx hb dX12_look_113 ?_
        refine k_top (z := 0) (by decide +kernel) ?_
        refine lv_iload hx hb dX12_look_114 (lv_at hl 0 rfl) ?_
        refine lv_iadd hx hb dX12_look_116 ?_
        refine k_top (z := 4) (by decide +kernel) ?_
        refine va_iald hx hb hK hP 19 0 rfl rfl (k_in (by decide +kernel)) dX12_look_117 ?_
        refine lv_topi (fun t46 et46 => ?_)
        rw [cl_4] at et46
        have et46 : t46 = 0 := et46.trans ((hw17.2.2.2.2.2 4 (by decide)).trans (by decide +kernel))
        subst et46
        refine kN.callS (As := [.int 1, .int 0]) (rest := []) ⟨hx, hb, hml, hown, hg⟩ (c_greater l 1 0) (va_cwS 2 hg (kgS wt6_127 wt6_128 wt1_14 wt6_129) rfl rfl rfl (by decide +kernel) ⟨by decide, by decide⟩) hP hS rfl hl.1 rfl (Nat.le_of_ble_eq_true rfl) dX12_look_118 ⟨by decide, by decide⟩ (fun v48 H locs hw47 hP hS => ?_)
        refine k_top (z := 1) (hw47.trans (by decide +kernel)) ?_
        refine lv_istore (lv' := [(6, .int 1), (7, .int 4), (5, .int 0), (4, .int 1000000), (3, .int (-1)), (2, .int 1), (0, .ref o), (1, .int x)]) hx hb dX12_look_121 hl (by decide) rfl (fun ls hl => ?_)
        refine lv_iinc (v := 5) (lv' := [(7, .int 5), (6, .int 1), (5, .int 0), (4, .int 1000000), (3, .int (-1)), (2, .int 1), (0, .ref o), (1, .int x)]) hx hb dX12_look_123 hl (k := 1) rfl (by decide +kernel) (by decide) rfl (fun ls hl => ?_)
        refine lv_goto (tgt := 96) hx hb dX12_look_126 (by decide) ?_
        refine lv_iload hx hb dX12_look_96 (lv_at hl 0 rfl) ?_
        refine lv_bipush (v := 10) hx hb dX12_look_98 (by decide) ?_
        refine lv_icmp_gt (tgt := 129) hx hb dX12_look_100 (by decide) (fun c49 => absurd c49 (by decide +kernel)) (fun c49 => ?_)
        refine lv_iload hx hb dX12_look_103 (lv_at hl 1 rfl) ?_
        refine lv_aload_n hx hb dX12_look_105 rfl (lv_at hl 6 rfl) ?_
        refine va_get (D := D) (ci := 12) (v := .ref (r 36)) (C := RX12) (T := TX12) (N := 48) hx hb hg inC12 hown hK hP 0 rfl rfl 36 (by decide) (hg _ wt5_196) (fun _ h9 => h9) rfl dX12_look_106 ?_
        refine lv_bipush (v := 11) hx hb dX12_look_109 (by decide) ?_
        refine lv_iload hx hb dX12_look_111 (lv_at hl 2 rfl) ?_
        refine lv_imul hx hb dX12_look_113 ?_
        refine k_top (z := 0) (by decide +kernel) ?_
        refine lv_iload hx hb dX12_look_114 (lv_at hl 0 rfl) ?_
        refine lv_iadd hx hb dX12_look_116 ?_
        refine k_top (z := 5) (by decide +kernel) ?_
        refine va_iald hx hb hK hP 19 0 rfl rfl (k_in (by decide +kernel)) dX12_look_117 ?_
        refine lv_topi (fun t50 et50 => ?_)
        rw [cl_5] at et50
        have et50 : t50 = 0 := et50.trans ((hw17.2.2.2.2.2 5 (by decide)).trans (by decide +kernel))
        subst et50
        refine kN.callS (As := [.int 1, .int 0]) (rest := []) ⟨hx, hb, hml, hown, hg⟩ (c_greater l 1 0) (va_cwS 2 hg (kgS wt6_127 wt6_128 wt1_14 wt6_129) rfl rfl rfl (by decide +kernel) ⟨by decide, by decide⟩) hP hS rfl hl.1 rfl (Nat.le_of_ble_eq_true rfl) dX12_look_118 ⟨by decide, by decide⟩ (fun v52 H locs hw51 hP hS => ?_)
        refine k_top (z := 1) (hw51.trans (by decide +kernel)) ?_
        refine lv_istore (lv' := [(6, .int 1), (7, .int 5), (5, .int 0), (4, .int 1000000), (3, .int (-1)), (2, .int 1), (0, .ref o), (1, .int x)]) hx hb dX12_look_121 hl (by decide) rfl (fun ls hl => ?_)
        refine lv_iinc (v := 6) (lv' := [(7, .int 6), (6, .int 1), (5, .int 0), (4, .int 1000000), (3, .int (-1)), (2, .int 1), (0, .ref o), (1, .int x)]) hx hb dX12_look_123 hl (k := 1) rfl (by decide +kernel) (by decide) rfl (fun ls hl => ?_)
        refine lv_goto (tgt := 96) hx hb dX12_look_126 (by decide) ?_
        refine lv_iload hx hb dX12_look_96 (lv_at hl 0 rfl) ?_
        refine lv_bipush (v := 10) hx hb dX12_look_98 (by decide) ?_
        refine lv_icmp_gt (tgt := 129) hx hb dX12_look_100 (by decide) (fun c53 => absurd c53 (by decide +kernel)) (fun c53 => ?_)
        refine lv_iload hx hb dX12_look_103 (lv_at hl 1 rfl) ?_
        refine lv_aload_n hx hb dX12_look_105 rfl (lv_at hl 6 rfl) ?_
        refine va_get (D := D) (ci := 12) (v := .ref (r 36)) (C := RX12) (T := TX12) (N := 48) hx hb hg inC12 hown hK hP 0 rfl rfl 36 (by decide) (hg _ wt5_196) (fun _ h9 => h9) rfl dX12_look_106 ?_
        refine lv_bipush (v := 11) hx hb dX12_look_109 (by decide) ?_
        refine lv_iload hx hb dX12_look_111 (lv_at hl 2 rfl) ?_
        refine lv_imul hx hb dX12_look_113 ?_
        refine k_top (z := 0) (by decide +kernel) ?_
        refine lv_iload hx hb dX12_look_114 (lv_at hl 0 rfl) ?_
        refine lv_iadd hx hb dX12_look_116 ?_
        refine k_top (z := 6) (by decide +kernel) ?_
        refine va_iald hx hb hK hP 19 0 rfl rfl (k_in (by decide +kernel)) dX12_look_117 ?_
        refine lv_topi (fun t54 et54 => ?_)
        rw [cl_6] at et54
        have et54 : t54 = 0 := et54.trans ((hw17.2.2.2.2.2 6 (by decide)).trans (by decide +kernel))
        subst et54
        refine kN.callS (As := [.int 1, .int 0]) (rest := []) ⟨hx, hb, hml, hown, hg⟩ (c_greater l 1 0) (va_cwS 2 hg (kgS wt6_127 wt6_128 wt1_14 wt6_129) rfl rfl rfl (by decide +kernel) ⟨by decide, by decide⟩) hP hS rfl hl.1 rfl (Nat.le_of_ble_eq_true rfl) dX12_look_118 ⟨by decide, by decide⟩ (fun v56 H locs hw55 hP hS => ?_)
        refine k_top (z := 1) (hw55.trans (by decide +kernel)) ?_
        refine lv_istore (lv' := [(6, .int 1), (7, .int 6), (5, .int 0), (4, .int 1000000), (3, .int (-1)), (2, .int 1), (0, .ref o), (1, .int x)]) hx hb dX12_look_121 hl (by decide) rfl (fun ls hl => ?_)
        refine lv_iinc (v := 7) (lv' := [(7, .int 7), (6, .int 1), (5, .int 0), (4, .int 1000000), (3, .int (-1)), (2, .int 1), (0, .ref o), (1, .int x)]) hx hb dX12_look_123 hl (k := 1) rfl (by decide +kernel) (by decide) rfl (fun ls hl => ?_)
        refine lv_goto (tgt := 96) hx hb dX12_look_126 (by decide) ?_
        refine lv_iload hx hb dX12_look_96 (lv_at hl 0 rfl) ?_
        refine lv_bipush (v := 10) hx hb dX12_look_98 (by decide) ?_
        refine lv_icmp_gt (tgt := 129) hx hb dX12_look_100 (by decide) (fun c57 => absurd c57 (by decide +kernel)) (fun c57 => ?_)
        refine lv_iload hx hb dX12_look_103 (lv_at hl 1 rfl) ?_
        refine lv_aload_n hx hb dX12_look_105 rfl (lv_at hl 6 rfl) ?_
        refine va_get (D := D) (ci := 12) (v := .ref (r 36)) (C := RX12) (T := TX12) (N := 48) hx hb hg inC12 hown hK hP 0 rfl rfl 36 (by decide) (hg _ wt5_196) (fun _ h9 => h9) rfl dX12_look_106 ?_
        refine lv_bipush (v := 11) hx hb dX12_look_109 (by decide) ?_
        refine lv_iload hx hb dX12_look_111 (lv_at hl 2 rfl) ?_
        refine lv_imul hx hb dX12_look_113 ?_
        refine k_top (z := 0) (by decide +kernel) ?_
        refine lv_iload hx hb dX12_look_114 (lv_at hl 0 rfl) ?_
        refine lv_iadd hx hb dX12_look_116 ?_
        refine k_top (z := 7) (by decide +kernel) ?_
        refine va_iald hx hb hK hP 19 0 rfl rfl (k_in (by decide +kernel)) dX12_look_117 ?_
        refine lv_topi (fun t58 et58 => ?_)
        rw [cl_7] at et58
        have et58 : t58 = 0 := et58.trans ((hw17.2.2.2.2.2 7 (by decide)).trans (by decide +kernel))
        subst et58
        refine kN.callS (As := [.int 1, .int 0]) (rest := []) ⟨hx, hb, hml, hown, hg⟩ (c_greater l 1 0) (va_cwS 2 hg (kgS wt6_127 wt6_128 wt1_14 wt6_129) rfl rfl rfl (by decide +kernel) ⟨by decide, by decide⟩) hP hS rfl hl.1 rfl (Nat.le_of_ble_eq_true rfl) dX12_look_118 ⟨by decide, by decide⟩ (fun v60 H locs hw59 hP hS => ?_)
        refine k_top (z := 1) (hw59.trans (by decide +kernel)) ?_
        refine lv_istore (lv' := [(6, .int 1), (7, .int 7), (5, .int 0), (4, .int 1000000), (3, .int (-1)), (2, .int 1), (0, .ref o), (1, .int x)]) hx hb dX12_look_121 hl (by decide) rfl (fun ls hl => ?_)
        refine lv_iinc (v := 8) (lv' := [(7, .int 8), (6, .int 1), (5, .int 0), (4, .int 1000000), (3, .int (-1)), (2, .int 1), (0, .ref o), (1, .int x)]) hx hb dX12_look_123 hl (k := 1) rfl (by decide +kernel) (by decide) rfl (fun ls hl => ?_)
        refine lv_goto (tgt := 96) hx hb dX12_look_126 (by decide) ?_
        refine lv_iload hx hb dX12_look_96 (lv_at hl 0 rfl) ?_
        refine lv_bipush (v := 10) hx hb dX12_look_98 (by decide) ?_
        refine lv_icmp_gt (tgt := 129) hx hb dX12_look_100 (by decide) (fun c61 => absurd c61 (by decide +kernel)) (fun c61 => ?_)
        refine lv_iload hx hb dX12_look_103 (lv_at hl 1 rfl) ?_
        refine lv_aload_n hx hb dX12_look_105 rfl (lv_at hl 6 rfl) ?_
        refine va_get (D := D) (ci := 12) (v := .ref (r 36)) (C := RX12) (T := TX12) (N := 48) hx hb hg inC12 hown hK hP 0 rfl rfl 36 (by decide) (hg _ wt5_196) (fun _ h9 => h9) rfl dX12_look_106 ?_
        refine lv_bipush (v := 11) hx hb dX12_look_109 (by decide) ?_
        refine lv_iload hx hb dX12_look_111 (lv_at hl 2 rfl) ?_
        refine lv_imul hx hb dX12_look_113 ?_
        refine k_top (z := 0) (by decide +kernel) ?_
        refine lv_iload hx hb dX12_look_114 (lv_at hl 0 rfl) ?_
        refine lv_iadd hx hb dX12_look_116 ?_
        refine k_top (z := 8) (by decide +kernel) ?_
        refine va_iald hx hb hK hP 19 0 rfl rfl (k_in (by decide +kernel)) dX12_look_117 ?_
        refine lv_topi (fun t62 et62 => ?_)
        rw [cl_8] at et62
        have et62 : t62 = 0 := et62.trans ((hw17.2.2.2.2.2 8 (by decide)).trans (by decide +kernel))
        subst et62
        refine kN.callS (As := [.int 1, .int 0]) (rest := []) ⟨hx, hb, hml, hown, hg⟩ (c_greater l 1 0) (va_cwS 2 hg (kgS wt6_127 wt6_128 wt1_14 wt6_129) rfl rfl rfl (by decide +kernel) ⟨by decide, by decide⟩) hP hS rfl hl.1 rfl (Nat.le_of_ble_eq_true rfl) dX12_look_118 ⟨by decide, by decide⟩ (fun v64 H locs hw63 hP hS => ?_)
        refine k_top (z := 1) (hw63.trans (by decide +kernel)) ?_
        refine lv_istore (lv' := [(6, .int 1), (7, .int 8), (5, .int 0), (4, .int 1000000), (3, .int (-1)), (2, .int 1), (0, .ref o), (1, .int x)]) hx hb dX12_look_121 hl (by decide) rfl (fun ls hl => ?_)
        refine lv_iinc (v := 9) (lv' := [(7, .int 9), (6, .int 1), (5, .int 0), (4, .int 1000000), (3, .int (-1)), (2, .int 1), (0, .ref o), (1, .int x)]) hx hb dX12_look_123 hl (k := 1) rfl (by decide +kernel) (by decide) rfl (fun ls hl => ?_)
        refine lv_goto (tgt := 96) hx hb dX12_look_126 (by decide) ?_
        refine lv_iload hx hb dX12_look_96 (lv_at hl 0 rfl) ?_
        refine lv_bipush (v := 10) hx hb dX12_look_98 (by decide) ?_
        refine lv_icmp_gt (tgt := 129) hx hb dX12_look_100 (by decide) (fun c65 => absurd c65 (by decide +kernel)) (fun c65 => ?_)
        refine lv_iload hx hb dX12_look_103 (lv_at hl 1 rfl) ?_
        refine lv_aload_n hx hb dX12_look_105 rfl (lv_at hl 6 rfl) ?_
        refine va_get (D := D) (ci := 12) (v := .ref (r 36)) (C := RX12) (T := TX12) (N := 48) hx hb hg inC12 hown hK hP 0 rfl rfl 36 (by decide) (hg _ wt5_196) (fun _ h9 => h9) rfl dX12_look_106 ?_
        refine lv_bipush (v := 11) hx hb dX12_look_109 (by decide) ?_
        refine lv_iload hx hb dX12_look_111 (lv_at hl 2 rfl) ?_
        refine lv_imul hx hb dX12_look_113 ?_
        refine k_top (z := 0) (by decide +kernel) ?_
        refine lv_iload hx hb dX12_look_114 (lv_at hl 0 rfl) ?_
        refine lv_iadd hx hb dX12_look_116 ?_
        refine k_top (z := 9) (by decide +kernel) ?_
        refine va_iald hx hb hK hP 19 0 rfl rfl (k_in (by decide +kernel)) dX12_look_117 ?_
        refine lv_topi (fun t66 et66 => ?_)
        rw [cl_9] at et66
        have et66 : t66 = 0 := et66.trans ((hw17.2.2.2.2.2 9 (by decide)).trans (by decide +kernel))
        subst et66
        refine kN.callS (As := [.int 1, .int 0]) (rest := []) ⟨hx, hb, hml, hown, hg⟩ (c_greater l 1 0) (va_cwS 2 hg (kgS wt6_127 wt6_128 wt1_14 wt6_129) rfl rfl rfl (by decide +kernel) ⟨by decide, by decide⟩) hP hS rfl hl.1 rfl (Nat.le_of_ble_eq_true rfl) dX12_look_118 ⟨by decide, by decide⟩ (fun v68 H locs hw67 hP hS => ?_)
        refine k_top (z := 1) (hw67.trans (by decide +kernel)) ?_
        refine lv_istore (lv' := [(6, .int 1), (7, .int 9), (5, .int 0), (4, .int 1000000), (3, .int (-1)), (2, .int 1), (0, .ref o), (1, .int x)]) hx hb dX12_look_121 hl (by decide) rfl (fun ls hl => ?_)
        refine lv_iinc (v := 10) (lv' := [(7, .int 10), (6, .int 1), (5, .int 0), (4, .int 1000000), (3, .int (-1)), (2, .int 1), (0, .ref o), (1, .int x)]) hx hb dX12_look_123 hl (k := 1) rfl (by decide +kernel) (by decide) rfl (fun ls hl => ?_)
        refine lv_goto (tgt := 96) hx hb dX12_look_126 (by decide) ?_
        refine lv_iload hx hb dX12_look_96 (lv_at hl 0 rfl) ?_
        refine lv_bipush (v := 10) hx hb dX12_look_98 (by decide) ?_
        refine lv_icmp_gt (tgt := 129) hx hb dX12_look_100 (by decide) (fun c69 => absurd c69 (by decide +kernel)) (fun c69 => ?_)
        refine lv_iload hx hb dX12_look_103 (lv_at hl 1 rfl) ?_
        refine lv_aload_n hx hb dX12_look_105 rfl (lv_at hl 6 rfl) ?_
        refine va_get (D := D) (ci := 12) (v := .ref (r 36)) (C := RX12) (T := TX12) (N := 48) hx hb hg inC12 hown hK hP 0 rfl rfl 36 (by decide) (hg _ wt5_196) (fun _ h9 => h9) rfl dX12_look_106 ?_
        refine lv_bipush (v := 11) hx hb dX12_look_109 (by decide) ?_
        refine lv_iload hx hb dX12_look_111 (lv_at hl 2 rfl) ?_
        refine lv_imul hx hb dX12_look_113 ?_
        refine k_top (z := 0) (by decide +kernel) ?_
        refine lv_iload hx hb dX12_look_114 (lv_at hl 0 rfl) ?_
        refine lv_iadd hx hb dX12_look_116 ?_
        refine k_top (z := 10) (by decide +kernel) ?_
        refine va_iald hx hb hK hP 19 0 rfl rfl (k_in (by decide +kernel)) dX12_look_117 ?_
        refine lv_topi (fun t70 et70 => ?_)
        rw [cl_10] at et70
        have et70 : t70 = 0 := et70.trans ((hw17.2.2.2.2.2 10 (by decide)).trans (by decide +kernel))
        subst et70
        refine kN.callS (As := [.int 1, .int 0]) (rest := []) ⟨hx, hb, hml, hown, hg⟩ (c_greater l 1 0) (va_cwS 2 hg (kgS wt6_127 wt6_128 wt1_14 wt6_129) rfl rfl rfl (by decide +kernel) ⟨by decide, by decide⟩) hP hS rfl hl.1 rfl (Nat.le_of_ble_eq_true rfl) dX12_look_118 ⟨by decide, by decide⟩ (fun v72 H locs hw71 hP hS => ?_)
        refine k_top (z := 1) (hw71.trans (by decide +kernel)) ?_
        refine lv_istore (lv' := [(6, .int 1), (7, .int 10), (5, .int 0), (4, .int 1000000), (3, .int (-1)), (2, .int 1), (0, .ref o), (1, .int x)]) hx hb dX12_look_121 hl (by decide) rfl (fun ls hl => ?_)
        refine lv_iinc (v := 11) (lv' := [(7, .int 11), (6, .int 1), (5, .int 0), (4, .int 1000000), (3, .int (-1)), (2, .int 1), (0, .ref o), (1, .int x)]) hx hb dX12_look_123 hl (k := 1) rfl (by decide +kernel) (by decide) rfl (fun ls hl => ?_)
        refine lv_goto (tgt := 96) hx hb dX12_look_126 (by decide) ?_
        refine lv_iload hx hb dX12_look_96 (lv_at hl 0 rfl) ?_
        refine lv_bipush (v := 10) hx hb dX12_look_98 (by decide) ?_
        refine lv_icmp_gt (tgt := 129) hx hb dX12_look_100 (by decide) (fun c73 => ?_) (fun c73 => absurd (by decide +kernel) c73)
        refine lv_iload hx hb dX12_look_129 (lv_at hl 1 rfl) ?_
        refine lv_iload hx hb dX12_look_131 (lv_at hl 3 rfl) ?_
        refine lv_icmp_lt (tgt := 139) hx hb dX12_look_133 (by decide) (fun c74 => ?_) (fun c74 => absurd (by decide +kernel) c74)
        refine lv_iload hx hb dX12_look_139 (lv_at hl 1 rfl) ?_
        refine lv_istore (lv' := [(4, .int 1), (7, .int 11), (6, .int 1), (5, .int 0), (3, .int (-1)), (2, .int 1), (0, .ref o), (1, .int x)]) hx hb dX12_look_141 hl (by decide) rfl (fun ls hl => ?_)
        refine lv_iload hx hb dX12_look_143 (lv_at hl 3 rfl) ?_
        refine lv_istore_n (lv' := [(3, .int 0), (4, .int 1), (7, .int 11), (6, .int 1), (5, .int 0), (2, .int 1), (0, .ref o), (1, .int x)]) hx hb dX12_look_145 rfl hl (by decide) rfl (fun ls hl => ?_)
        refine lv_iinc (v := 1) (lv' := [(5, .int 1), (3, .int 0), (4, .int 1), (7, .int 11), (6, .int 1), (2, .int 1), (0, .ref o), (1, .int x)]) hx hb dX12_look_146 hl (k := 4) rfl (by decide +kernel) (by decide) rfl (fun ls hl => ?_)
        refine lv_goto (tgt := 79) hx hb dX12_look_149 (by decide) ?_
        have lp75 : ∀ (n2 i2 : Nat) (F2 : Nat → Int32) (B2 : Nat → Nat → Int32) (G2 : Nat → Int64) (H : Heap) (locs : List Loc) (ls : Array Slot), i2 + n2 = 41 → (∀ j, j < 451 → B2 36 j = mSh 41 j) → va_P D vwCl (mW K o r F2 B2 G2) H → va_D A (mW K o r F2 B2 G2) → va_S A s.heap H locs → lv_has ls 8 [(5, .int (nI i2)), (3, .int 0), (4, .int 1), (7, .int 11), (6, .int 1), (2, .int 1), (0, .ref o), (1, .int x)] → W p l e (rmD 5 0 0) s m ([.ref o, .int x] : List Value).toArray below meth c H locs 0 0 (kQi D (tysK K) (fun v (u : mS) => v = (if mLies x 0 1 = 0 then (-1 : Int32) else if x = 0 then 0 else 1)) (fun u => mW K o r u.1 u.2.1 u.2.2) A below ([.ref o, .int x] : List Value).toArray s 0 0) (F0 m 79 ls []) := by
          intro n2
          induction n2 with
          | zero =>
            intro i2 F2 B2 G2 H locs ls hin2 zi2 hP hD hS hl
            obtain rfl : 41 = i2 := by omega
            have hl : lv_has ls 8 [(5, .int 41), (3, .int 0), (4, .int 1), (7, .int 11), (6, .int 1), (2, .int 1), (0, .ref o), (1, .int x)] := hl
            refine lv_iload hx hb dX12_look_79 (lv_at hl 0 rfl) ?_
            refine lv_bipush (v := 40) hx hb dX12_look_81 (by decide) ?_
            refine lv_icmp_gt (tgt := 152) hx hb dX12_look_83 (by decide) (fun c76 => ?_) (fun c76 => absurd (by decide +kernel) c76)
            refine lv_iload_n hx hb dX12_look_152 rfl (lv_at hl 1 rfl) ?_
            refine lv_iconst (v := (-1)) hx hb dX12_look_153 (by decide) ?_
            refine lv_icmp_eq (tgt := 161) hx hb dX12_look_154 (by decide) (fun c77 => absurd c77 (by decide +kernel)) (fun c77 => ?_)
            refine lv_iload_n hx hb dX12_look_157 rfl (lv_at hl 7 rfl) ?_
            refine lv_if_ne (tgt := 165) hx hb dX12_look_158 (by decide) (fun c78 => ?_) (fun c78 => ?_)
            · refine lv_iload hx hb dX12_look_165 (lv_at hl 2 rfl) ?_
              exact kI_ret (v := 1) hx hb hr hlocks rfl hK hS dX12_look_167 (F2, B2, G2) hP hD (by rw [if_neg c3, if_neg c78])
            · refine lv_iload_n hx hb dX12_look_161 rfl (lv_at hl 1 rfl) ?_
              refine lv_goto (tgt := 167) hx hb dX12_look_162 (by decide) ?_
              exact kI_ret (v := 0) hx hb hr hlocks rfl hK hS dX12_look_167 (F2, B2, G2) hP hD (by rw [if_neg c3, if_pos c78])
          | succ n2 ih2 =>
            intro i2 F2 B2 G2 H locs ls hin2 zi2 hP hD hS hl
            have hlt2 : i2 < 41 := by omega
            refine lv_iload hx hb dX12_look_79 (lv_at hl 0 rfl) ?_
            refine lv_bipush (v := 40) hx hb dX12_look_81 (by decide) ?_
            refine lv_icmp_gt (tgt := 152) hx hb dX12_look_83 (by decide) (fun c79 => absurd c79 (nI_nlt (a := 40) (b := i2) (by omega) (by decide))) (fun c79 => ?_)
            refine lv_iload_n hx hb dX12_look_86 rfl (lv_at hl 5 rfl) ?_
            refine lv_if_le (tgt := 152) hx hb dX12_look_87 (by decide) (fun c80 => absurd c80 (by decide +kernel)) (fun c80 => ?_)
            refine lv_iconst (v := 0) hx hb dX12_look_90 (by decide) ?_
            refine lv_istore (lv' := [(6, .int 0), (5, .int (nI i2)), (3, .int 0), (4, .int 1), (7, .int 11), (2, .int 1), (0, .ref o), (1, .int x)]) hx hb dX12_look_91 hl (by decide) rfl (fun ls hl => ?_)
            refine lv_iconst (v := 0) hx hb dX12_look_93 (by decide) ?_
            refine lv_istore (lv' := [(7, .int 0), (6, .int 0), (5, .int (nI i2)), (3, .int 0), (4, .int 1), (2, .int 1), (0, .ref o), (1, .int x)]) hx hb dX12_look_94 hl (by decide) rfl (fun ls hl => ?_)
            refine lv_iload hx hb dX12_look_96 (lv_at hl 0 rfl) ?_
            refine lv_bipush (v := 10) hx hb dX12_look_98 (by decide) ?_
            refine lv_icmp_gt (tgt := 129) hx hb dX12_look_100 (by decide) (fun c81 => absurd c81 (by decide +kernel)) (fun c81 => ?_)
            refine lv_iload hx hb dX12_look_103 (lv_at hl 1 rfl) ?_
            refine lv_aload_n hx hb dX12_look_105 rfl (lv_at hl 6 rfl) ?_
            refine va_get (D := D) (ci := 12) (v := .ref (r 36)) (C := RX12) (T := TX12) (N := 48) hx hb hg inC12 hown hK hP 0 rfl rfl 36 (by decide) (hg _ wt5_196) (fun _ h9 => h9) rfl dX12_look_106 ?_
            refine lv_bipush (v := 11) hx hb dX12_look_109 (by decide) ?_
            refine lv_iload hx hb dX12_look_111 (lv_at hl 2 rfl) ?_
            refine lv_imul hx hb dX12_look_113 ?_
            refine k_top (z := nI (11 * i2)) (pk_mul 11 i2) ?_
            refine lv_iload hx hb dX12_look_114 (lv_at hl 0 rfl) ?_
            refine lv_iadd hx hb dX12_look_116 ?_
            refine k_top (z := nI ((11 * i2) + 0)) (nI_add (11 * i2) 0) ?_
            refine va_iald hx hb hK hP 19 0 rfl rfl (vp_in_nI (by omega) (by decide)) dX12_look_117 ?_
            refine lv_topi (fun t82 et82 => ?_)
            rw [nI_clamp (n := ((11 * i2) + 0)) (by omega)] at et82
            have et82 : t82 = 1 := et82.trans ((zi2 _ (by omega)).trans (ks_one (by omega)))
            subst et82
            refine kN.callS (As := [.int 0, .int 1]) (rest := []) ⟨hx, hb, hml, hown, hg⟩ (c_greater l 0 1) (va_cwS 2 hg (kgS wt6_127 wt6_128 wt1_14 wt6_129) rfl rfl rfl (by decide +kernel) ⟨by decide, by decide⟩) hP hS rfl hl.1 rfl (Nat.le_of_ble_eq_true rfl) dX12_look_118 ⟨by decide, by decide⟩ (fun v84 H locs hw83 hP hS => ?_)
            refine k_top (z := 1) (hw83.trans (by decide +kernel)) ?_
            refine lv_istore (lv' := [(6, .int 1), (7, .int 0), (5, .int (nI i2)), (3, .int 0), (4, .int 1), (2, .int 1), (0, .ref o), (1, .int x)]) hx hb dX12_look_121 hl (by decide) rfl (fun ls hl => ?_)
            refine lv_iinc (v := 1) (lv' := [(7, .int 1), (6, .int 1), (5, .int (nI i2)), (3, .int 0), (4, .int 1), (2, .int 1), (0, .ref o), (1, .int x)]) hx hb dX12_look_123 hl (k := 1) rfl (by decide +kernel) (by decide) rfl (fun ls hl => ?_)
            refine lv_goto (tgt := 96) hx hb dX12_look_126 (by decide) ?_
            refine lv_iload hx hb dX12_look_96 (lv_at hl 0 rfl) ?_
            refine lv_bipush (v := 10) hx hb dX12_look_98 (by decide) ?_
            refine lv_icmp_gt (tgt := 129) hx hb dX12_look_100 (by decide) (fun c85 => absurd c85 (by decide +kernel)) (fun c85 => ?_)
            refine lv_iload hx hb dX12_look_103 (lv_at hl 1 rfl) ?_
            refine lv_aload_n hx hb dX12_look_105 rfl (lv_at hl 6 rfl) ?_
            refine va_get (D := D) (ci := 12) (v := .ref (r 36)) (C := RX12) (T := TX12) (N := 48) hx hb hg inC12 hown hK hP 0 rfl rfl 36 (by decide) (hg _ wt5_196) (fun _ h9 => h9) rfl dX12_look_106 ?_
            refine lv_bipush (v := 11) hx hb dX12_look_109 (by decide) ?_
            refine lv_iload hx hb dX12_look_111 (lv_at hl 2 rfl) ?_
            refine lv_imul hx hb dX12_look_113 ?_
            refine k_top (z := nI (11 * i2)) (pk_mul 11 i2) ?_
            refine lv_iload hx hb dX12_look_114 (lv_at hl 0 rfl) ?_
            refine lv_iadd hx hb dX12_look_116 ?_
            refine k_top (z := nI ((11 * i2) + 1)) (nI_add (11 * i2) 1) ?_
            refine va_iald hx hb hK hP 19 0 rfl rfl (vp_in_nI (by omega) (by decide)) dX12_look_117 ?_
            refine lv_topi (fun t86 et86 => ?_)
            rw [nI_clamp (n := ((11 * i2) + 1)) (by omega)] at et86
            have et86 : t86 = 0 := et86.trans ((zi2 _ (by omega)).trans (ks_nil (by decide) (by decide)))
            subst et86
            refine kN.callS (As := [.int 1, .int 0]) (rest := []) ⟨hx, hb, hml, hown, hg⟩ (c_greater l 1 0) (va_cwS 2 hg (kgS wt6_127 wt6_128 wt1_14 wt6_129) rfl rfl rfl (by decide +kernel) ⟨by decide, by decide⟩) hP hS rfl hl.1 rfl (Nat.le_of_ble_eq_true rfl) dX12_look_118 ⟨by decide, by decide⟩ (fun v88 H locs hw87 hP hS => ?_)
            refine k_top (z := 1) (hw87.trans (by decide +kernel)) ?_
            refine lv_istore (lv' := [(6, .int 1), (7, .int 1), (5, .int (nI i2)), (3, .int 0), (4, .int 1), (2, .int 1), (0, .ref o), (1, .int x)]) hx hb dX12_look_121 hl (by decide) rfl (fun ls hl => ?_)
            refine lv_iinc (v := 2) (lv' := [(7, .int 2), (6, .int 1), (5, .int (nI i2)), (3, .int 0), (4, .int 1), (2, .int 1), (0, .ref o), (1, .int x)]) hx hb dX12_look_123 hl (k := 1) rfl (by decide +kernel) (by decide) rfl (fun ls hl => ?_)
            refine lv_goto (tgt := 96) hx hb dX12_look_126 (by decide) ?_
            refine lv_iload hx hb dX12_look_96 (lv_at hl 0 rfl) ?_
            refine lv_bipush (v := 10) hx hb dX12_look_98 (by decide) ?_
            refine lv_icmp_gt (tgt := 129) hx hb dX12_look_100 (by decide) (fun c89 => absurd c89 (by decide +kernel)) (fun c89 => ?_)
            refine lv_iload hx hb dX12_look_103 (lv_at hl 1 rfl) ?_
            refine lv_aload_n hx hb dX12_look_105 rfl (lv_at hl 6 rfl) ?_
            refine va_get (D := D) (ci := 12) (v := .ref (r 36)) (C := RX12) (T := TX12) (N := 48) hx hb hg inC12 hown hK hP 0 rfl rfl 36 (by decide) (hg _ wt5_196) (fun _ h9 => h9) rfl dX12_look_106 ?_
            refine lv_bipush (v := 11) hx hb dX12_look_109 (by decide) ?_
            refine lv_iload hx hb dX12_look_111 (lv_at hl 2 rfl) ?_
            refine lv_imul hx hb dX12_look_113 ?_
            refine k_top (z := nI (11 * i2)) (pk_mul 11 i2) ?_
            refine lv_iload hx hb dX12_look_114 (lv_at hl 0 rfl) ?_
            refine lv_iadd hx hb dX12_look_116 ?_
            refine k_top (z := nI ((11 * i2) + 2)) (nI_add (11 * i2) 2) ?_
            refine va_iald hx hb hK hP 19 0 rfl rfl (vp_in_nI (by omega) (by decide)) dX12_look_117 ?_
            refine lv_topi (fun t90 et90 => ?_)
            rw [nI_clamp (n := ((11 * i2) + 2)) (by omega)] at et90
            have et90 : t90 = 0 := et90.trans ((zi2 _ (by omega)).trans (ks_nil (by decide) (by decide)))
            subst et90
            refine kN.callS (As := [.int 1, .int 0]) (rest := []) ⟨hx, hb, hml, hown, hg⟩ (c_greater l 1 0) (va_cwS 2 hg (kgS wt6_127 wt6_128 wt1_14 wt6_129) rfl rfl rfl (by decide +kernel) ⟨by decide, by decide⟩) hP hS rfl hl.1 rfl (Nat.le_of_ble_eq_true rfl) dX12_look_118 ⟨by decide, by decide⟩ (fun v92 H locs hw91 hP hS => ?_)
            refine k_top (z := 1) (hw91.trans (by decide +kernel)) ?_
            refine lv_istore (lv' := [(6, .int 1), (7, .int 2), (5, .int (nI i2)), (3, .int 0), (4, .int 1), (2, .int 1), (0, .ref o), (1, .int x)]) hx hb dX12_look_121 hl (by decide) rfl (fun ls hl => ?_)
            refine lv_iinc (v := 3) (lv' := [(7, .int 3), (6, .int 1), (5, .int (nI i2)), (3, .int 0), (4, .int 1), (2, .int 1), (0, .ref o), (1, .int x)]) hx hb dX12_look_123 hl (k := 1) rfl (by decide +kernel) (by decide) rfl (fun ls hl => ?_)
            refine lv_goto (tgt := 96) hx hb dX12_look_126 (by decide) ?_
            refine lv_iload hx hb dX12_look_96 (lv_at hl 0 rfl) ?_
            refine lv_bipush (v := 10) hx hb dX12_look_98 (by decide) ?_
            refine lv_icmp_gt (tgt := 129) hx hb dX12_look_100 (by decide) (fun c93 => absurd c93 (by decide +kernel)) (fun c93 => ?_)
            refine lv_iload hx hb dX12_look_103 (lv_at hl 1 rfl) ?_
            refine lv_aload_n hx hb dX12_look_105 rfl (lv_at hl 6 rfl) ?_
            refine va_get (D := D) (ci := 12) (v := .ref (r 36)) (C := RX12) (T := TX12) (N := 48) hx hb hg inC12 hown hK hP 0 rfl rfl 36 (by decide) (hg _ wt5_196) (fun _ h9 => h9) rfl dX12_look_106 ?_
            refine lv_bipush (v := 11) hx hb dX12_look_109 (by decide) ?_
            refine lv_iload hx hb dX12_look_111 (lv_at hl 2 rfl) ?_
            refine lv_imul hx hb dX12_look_113 ?_
            refine k_top (z := nI (11 * i2)) (pk_mul 11 i2) ?_
            refine lv_iload hx hb dX12_look_114 (lv_at hl 0 rfl) ?_
            refine lv_iadd hx hb dX12_look_116 ?_
            refine k_top (z := nI ((11 * i2) + 3)) (nI_add (11 * i2) 3) ?_
            refine va_iald hx hb hK hP 19 0 rfl rfl (vp_in_nI (by omega) (by decide)) dX12_look_117 ?_
            refine lv_topi (fun t94 et94 => ?_)
            rw [nI_clamp (n := ((11 * i2) + 3)) (by omega)] at et94
            have et94 : t94 = 0 := et94.trans ((zi2 _ (by omega)).trans (ks_nil (by decide) (by decide)))
            subst et94
            refine kN.callS (As := [.int 1, .int 0]) (rest := []) ⟨hx, hb, hml, hown, hg⟩ (c_greater l 1 0) (va_cwS 2 hg (kgS wt6_127 wt6_128 wt1_14 wt6_129) rfl rfl rfl (by decide +kernel) ⟨by decide, by decide⟩) hP hS rfl hl.1 rfl (Nat.le_of_ble_eq_true rfl) dX12_look_118 ⟨by decide, by decide⟩ (fun v96 H locs hw95 hP hS => ?_)
            refine k_top (z := 1) (hw95.trans (by decide +kernel)) ?_
            refine lv_istore (lv' := [(6, .int 1), (7, .int 3), (5, .int (nI i2)), (3, .int 0), (4, .int 1), (2, .int 1), (0, .ref o), (1, .int x)]) hx hb dX12_look_121 hl (by decide) rfl (fun ls hl => ?_)
            refine lv_iinc (v := 4) (lv' := [(7, .int 4), (6, .int 1), (5, .int (nI i2)), (3, .int 0), (4, .int 1), (2, .int 1), (0, .ref o), (1, .int x)]) hx hb dX12_look_123 hl (k := 1) rfl (by decide +kernel) (by decide) rfl (fun ls hl => ?_)
            refine lv_goto (tgt := 96) hx hb dX12_look_126 (by decide) ?_
            refine lv_iload hx hb dX12_look_96 (lv_at hl 0 rfl) ?_
            refine lv_bipush (v := 10) hx hb dX12_look_98 (by decide) ?_
            refine lv_icmp_gt (tgt := 129) hx hb dX12_look_100 (by decide) (fun c97 => absurd c97 (by decide +kernel)) (fun c97 => ?_)
            refine lv_iload hx hb dX12_look_103 (lv_at hl 1 rfl) ?_
            refine lv_aload_n hx hb dX12_look_105 rfl (lv_at hl 6 rfl) ?_
            refine va_get (D := D) (ci := 12) (v := .ref (r 36)) (C := RX12) (T := TX12) (N := 48) hx hb hg inC12 hown hK hP 0 rfl rfl 36 (by decide) (hg _ wt5_196) (fun _ h9 => h9) rfl dX12_look_106 ?_
            refine lv_bipush (v := 11) hx hb dX12_look_109 (by decide) ?_
            refine lv_iload hx hb dX12_look_111 (lv_at hl 2 rfl) ?_
            refine lv_imul hx hb dX12_look_113 ?_
            refine k_top (z := nI (11 * i2)) (pk_mul 11 i2) ?_
            refine lv_iload hx hb dX12_look_114 (lv_at hl 0 rfl) ?_
            refine lv_iadd hx hb dX12_look_116 ?_
            refine k_top (z := nI ((11 * i2) + 4)) (nI_add (11 * i2) 4) ?_
            refine va_iald hx hb hK hP 19 0 rfl rfl (vp_in_nI (by omega) (by decide)) dX12_look_117 ?_
            refine lv_topi (fun t98 et98 => ?_)
            rw [nI_clamp (n := ((11 * i2) + 4)) (by omega)] at et98
            have et98 : t98 = 0 := et98.trans ((zi2 _ (by omega)).trans (ks_nil (by decide) (by decide)))
            subst et98
            refine kN.callS (As := [.int 1, .int 0]) (rest := []) ⟨hx, hb, hml, hown, hg⟩ (c_greater l 1 0) (va_cwS 2 hg (kgS wt6_127 wt6_128 wt1_14 wt6_129) rfl rfl rfl (by decide +kernel) ⟨by decide, by decide⟩) hP hS rfl hl.1 rfl (Nat.le_of_ble_eq_true rfl) dX12_look_118 ⟨by decide, by decide⟩ (fun v100 H locs hw99 hP hS => ?_)
            refine k_top (z := 1) (hw99.trans (by decide +kernel)) ?_
            refine lv_istore (lv' := [(6, .int 1), (7, .int 4), (5, .int (nI i2)), (3, .int 0), (4, .int 1), (2, .int 1), (0, .ref o), (1, .int x)]) hx hb dX12_look_121 hl (by decide) rfl (fun ls hl => ?_)
            refine lv_iinc (v := 5) (lv' := [(7, .int 5), (6, .int 1), (5, .int (nI i2)), (3, .int 0), (4, .int 1), (2, .int 1), (0, .ref o), (1, .int x)]) hx hb dX12_look_123 hl (k := 1) rfl (by decide +kernel) (by decide) rfl (fun ls hl => ?_)
            refine lv_goto (tgt := 96) hx hb dX12_look_126 (by decide) ?_
            refine lv_iload hx hb dX12_look_96 (lv_at hl 0 rfl) ?_
            refine lv_bipush (v := 10) hx hb dX12_look_98 (by decide) ?_
            refine lv_icmp_gt (tgt := 129) hx hb dX12_look_100 (by decide) (fun c101 => absurd c101 (by decide +kernel)) (fun c101 => ?_)
            refine lv_iload hx hb dX12_look_103 (lv_at hl 1 rfl) ?_
            refine lv_aload_n hx hb dX12_look_105 rfl (lv_at hl 6 rfl) ?_
            refine va_get (D := D) (ci := 12) (v := .ref (r 36)) (C := RX12) (T := TX12) (N := 48) hx hb hg inC12 hown hK hP 0 rfl rfl 36 (by decide) (hg _ wt5_196) (fun _ h9 => h9) rfl dX12_look_106 ?_
            refine lv_bipush (v := 11) hx hb dX12_look_109 (by decide) ?_
            refine lv_iload hx hb dX12_look_111 (lv_at hl 2 rfl) ?_
            refine lv_imul hx hb dX12_look_113 ?_
            refine k_top (z := nI (11 * i2)) (pk_mul 11 i2) ?_
            refine lv_iload hx hb dX12_look_114 (lv_at hl 0 rfl) ?_
            refine lv_iadd hx hb dX12_look_116 ?_
            refine k_top (z := nI ((11 * i2) + 5)) (nI_add (11 * i2) 5) ?_
            refine va_iald hx hb hK hP 19 0 rfl rfl (vp_in_nI (by omega) (by decide)) dX12_look_117 ?_
            refine lv_topi (fun t102 et102 => ?_)
            rw [nI_clamp (n := ((11 * i2) + 5)) (by omega)] at et102
            have et102 : t102 = 0 := et102.trans ((zi2 _ (by omega)).trans (ks_nil (by decide) (by decide)))
            subst et102
            refine kN.callS (As := [.int 1, .int 0]) (rest := []) ⟨hx, hb, hml, hown, hg⟩ (c_greater l 1 0) (va_cwS 2 hg (kgS wt6_127 wt6_128 wt1_14 wt6_129) rfl rfl rfl (by decide +kernel) ⟨by decide, by decide⟩) hP hS rfl hl.1 rfl (Nat.le_of_ble_eq_true rfl) dX12_look_118 ⟨by decide, by decide⟩ (fun v104 H locs hw103 hP hS => ?_)
            refine k_top (z := 1) (hw103.trans (by decide +kernel)) ?_
            refine lv_istore (lv' := [(6, .int 1), (7, .int 5), (5, .int (nI i2)), (3, .int 0), (4, .int 1), (2, .int 1), (0, .ref o), (1, .int x)]) hx hb dX12_look_121 hl (by decide) rfl (fun ls hl => ?_)
            refine lv_iinc (v := 6) (lv' := [(7, .int 6), (6, .int 1), (5, .int (nI i2)), (3, .int 0), (4, .int 1), (2, .int 1), (0, .ref o), (1, .int x)]) hx hb dX12_look_123 hl (k := 1) rfl (by decide +kernel) (by decide) rfl (fun ls hl => ?_)
            refine lv_goto (tgt := 96) hx hb dX12_look_126 (by decide) ?_
            refine lv_iload hx hb dX12_look_96 (lv_at hl 0 rfl) ?_
            refine lv_bipush (v := 10) hx hb dX12_look_98 (by decide) ?_
            refine lv_icmp_gt (tgt := 129) hx hb dX12_look_100 (by decide) (fun c105 => absurd c105 (by decide +kernel)) (fun c105 => ?_)
            refine lv_iload hx hb dX12_look_103 (lv_at hl 1 rfl) ?_
            refine lv_aload_n hx hb dX12_look_105 rfl (lv_at hl 6 rfl) ?_
            refine va_get (D := D) (ci := 12) (v := .ref (r 36)) (C := RX12) (T := TX12) (N := 48) hx hb hg inC12 hown hK hP 0 rfl rfl 36 (by decide) (hg _ wt5_196) (fun _ h9 => h9) rfl dX12_look_106 ?_
            refine lv_bipush (v := 11) hx hb dX12_look_109 (by decide) ?_
            refine lv_iload hx hb dX12_look_111 (lv_at hl 2 rfl) ?_
            refine lv_imul hx hb dX12_look_113 ?_
            refine k_top (z := nI (11 * i2)) (pk_mul 11 i2) ?_
            refine lv_iload hx hb dX12_look_114 (lv_at hl 0 rfl) ?_
            refine lv_iadd hx hb dX12_look_116 ?_
            refine k_top (z := nI ((11 * i2) + 6)) (nI_add (11 * i2) 6) ?_
            refine va_iald hx hb hK hP 19 0 rfl rfl (vp_in_nI (by omega) (by decide)) dX12_look_117 ?_
            refine lv_topi (fun t106 et106 => ?_)
            rw [nI_clamp (n := ((11 * i2) + 6)) (by omega)] at et106
            have et106 : t106 = 0 := et106.trans ((zi2 _ (by omega)).trans (ks_nil (by decide) (by decide)))
            subst et106
            refine kN.callS (As := [.int 1, .int 0]) (rest := []) ⟨hx, hb, hml, hown, hg⟩ (c_greater l 1 0) (va_cwS 2 hg (kgS wt6_127 wt6_128 wt1_14 wt6_129) rfl rfl rfl (by decide +kernel) ⟨by decide, by decide⟩) hP hS rfl hl.1 rfl (Nat.le_of_ble_eq_true rfl) dX12_look_118 ⟨by decide, by decide⟩ (fun v108 H locs hw107 hP hS => ?_)
            refine k_top (z := 1) (hw107.trans (by decide +kernel)) ?_
            refine lv_istore (lv' := [(6, .int 1), (7, .int 6), (5, .int (nI i2)), (3, .int 0), (4, .int 1), (2, .int 1), (0, .ref o), (1, .int x)]) hx hb dX12_look_121 hl (by decide) rfl (fun ls hl => ?_)
            refine lv_iinc (v := 7) (lv' := [(7, .int 7), (6, .int 1), (5, .int (nI i2)), (3, .int 0), (4, .int 1), (2, .int 1), (0, .ref o), (1, .int x)]) hx hb dX12_look_123 hl (k := 1) rfl (by decide +kernel) (by decide) rfl (fun ls hl => ?_)
            refine lv_goto (tgt := 96) hx hb dX12_look_126 (by decide) ?_
            refine lv_iload hx hb dX12_look_96 (lv_at hl 0 rfl) ?_
            refine lv_bipush (v := 10) hx hb dX12_look_98 (by decide) ?_
            refine lv_icmp_gt (tgt := 129) hx hb dX12_look_100 (by decide) (fun c109 => absurd c109 (by decide +kernel)) (fun c109 => ?_)
            refine lv_iload hx hb dX12_look_103 (lv_at hl 1 rfl) ?_
            refine lv_aload_n hx hb dX12_look_105 rfl (lv_at hl 6 rfl) ?_
            refine va_get (D := D) (ci := 12) (v := .ref (r 36)) (C := RX12) (T := TX12) (N := 48) hx hb hg inC12 hown hK hP 0 rfl rfl 36 (by decide) (hg _ wt5_196) (fun _ h9 => h9) rfl dX12_look_106 ?_
            refine lv_bipush (v := 11) hx hb dX12_look_109 (by decide) ?_
            refine lv_iload hx hb dX12_look_111 (lv_at hl 2 rfl) ?_
            refine lv_imul hx hb dX12_look_113 ?_
            refine k_top (z := nI (11 * i2)) (pk_mul 11 i2) ?_
            refine lv_iload hx hb dX12_look_114 (lv_at hl 0 rfl) ?_
            refine lv_iadd hx hb dX12_look_116 ?_
            refine k_top (z := nI ((11 * i2) + 7)) (nI_add (11 * i2) 7) ?_
            refine va_iald hx hb hK hP 19 0 rfl rfl (vp_in_nI (by omega) (by decide)) dX12_look_117 ?_
            refine lv_topi (fun t110 et110 => ?_)
            rw [nI_clamp (n := ((11 * i2) + 7)) (by omega)] at et110
            have et110 : t110 = 0 := et110.trans ((zi2 _ (by omega)).trans (ks_nil (by decide) (by decide)))
            subst et110
            refine kN.callS (As := [.int 1, .int 0]) (rest := []) ⟨hx, hb, hml, hown, hg⟩ (c_greater l 1 0) (va_cwS 2 hg (kgS wt6_127 wt6_128 wt1_14 wt6_129) rfl rfl rfl (by decide +kernel) ⟨by decide, by decide⟩) hP hS rfl hl.1 rfl (Nat.le_of_ble_eq_true rfl) dX12_look_118 ⟨by decide, by decide⟩ (fun v112 H locs hw111 hP hS => ?_)
            refine k_top (z := 1) (hw111.trans (by decide +kernel)) ?_
            refine lv_istore (lv' := [(6, .int 1), (7, .int 7), (5, .int (nI i2)), (3, .int 0), (4, .int 1), (2, .int 1), (0, .ref o), (1, .int x)]) hx hb dX12_look_121 hl (by decide) rfl (fun ls hl => ?_)
            refine lv_iinc (v := 8) (lv' := [(7, .int 8), (6, .int 1), (5, .int (nI i2)), (3, .int 0), (4, .int 1), (2, .int 1), (0, .ref o), (1, .int x)]) hx hb dX12_look_123 hl (k := 1) rfl (by decide +kernel) (by decide) rfl (fun ls hl => ?_)
            refine lv_goto (tgt := 96) hx hb dX12_look_126 (by decide) ?_
            refine lv_iload hx hb dX12_look_96 (lv_at hl 0 rfl) ?_
            refine lv_bipush (v := 10) hx hb dX12_look_98 (by decide) ?_
            refine lv_icmp_gt (tgt := 129) hx hb dX12_look_100 (by decide) (fun c113 => absurd c113 (by decide +kernel)) (fun c113 => ?_)
            refine lv_iload hx hb dX12_look_103 (lv_at hl 1 rfl) ?_
            refine lv_aload_n hx hb dX12_look_105 rfl (lv_at hl 6 rfl) ?_
            refine va_get (D := D) (ci := 12) (v := .ref (r 36)) (C := RX12) (T := TX12) (N := 48) hx hb hg inC12 hown hK hP 0 rfl rfl 36 (by decide) (hg _ wt5_196) (fun _ h9 => h9) rfl dX12_look_106 ?_
            refine lv_bipush (v := 11) hx hb dX12_look_109 (by decide) ?_
            refine lv_iload hx hb dX12_look_111 (lv_at hl 2 rfl) ?_
            refine lv_imul hx hb dX12_look_113 ?_
            refine k_top (z := nI (11 * i2)) (pk_mul 11 i2) ?_
            refine lv_iload hx hb dX12_look_114 (lv_at hl 0 rfl) ?_
            refine lv_iadd hx hb dX12_look_116 ?_
            refine k_top (z := nI ((11 * i2) + 8)) (nI_add (11 * i2) 8) ?_
            refine va_iald hx hb hK hP 19 0 rfl rfl (vp_in_nI (by omega) (by decide)) dX12_look_117 ?_
            refine lv_topi (fun t114 et114 => ?_)
            rw [nI_clamp (n := ((11 * i2) + 8)) (by omega)] at et114
            have et114 : t114 = 0 := et114.trans ((zi2 _ (by omega)).trans (ks_nil (by decide) (by decide)))
            subst et114
            refine kN.callS (As := [.int 1, .int 0]) (rest := []) ⟨hx, hb, hml, hown, hg⟩ (c_greater l 1 0) (va_cwS 2 hg (kgS wt6_127 wt6_128 wt1_14 wt6_129) rfl rfl rfl (by decide +kernel) ⟨by decide, by decide⟩) hP hS rfl hl.1 rfl (Nat.le_of_ble_eq_true rfl) dX12_look_118 ⟨by decide, by decide⟩ (fun v116 H locs hw115 hP hS => ?_)
            refine k_top (z := 1) (hw115.trans (by decide +kernel)) ?_
            refine lv_istore (lv' := [(6, .int 1), (7, .int 8), (5, .int (nI i2)), (3, .int 0), (4, .int 1), (2, .int 1), (0, .ref o), (1, .int x)]) hx hb dX12_look_121 hl (by decide) rfl (fun ls hl => ?_)
            refine lv_iinc (v := 9) (lv' := [(7, .int 9), (6, .int 1), (5, .int (nI i2)), (3, .int 0), (4, .int 1), (2, .int 1), (0, .ref o), (1, .int x)]) hx hb dX12_look_123 hl (k := 1) rfl (by decide +kernel) (by decide) rfl (fun ls hl => ?_)
            refine lv_goto (tgt := 96) hx hb dX12_look_126 (by decide) ?_
            refine lv_iload hx hb dX12_look_96 (lv_at hl 0 rfl) ?_
            refine lv_bipush (v := 10) hx hb dX12_look_98 (by decide) ?_
            refine lv_icmp_gt (tgt := 129) hx hb dX12_look_100 (by decide) (fun c117 => absurd c117 (by decide +kernel)) (fun c117 => ?_)
            refine lv_iload hx hb dX12_look_103 (lv_at hl 1 rfl) ?_
            refine lv_aload_n hx hb dX12_look_105 rfl (lv_at hl 6 rfl) ?_
            refine va_get (D := D) (ci := 12) (v := .ref (r 36)) (C := RX12) (T := TX12) (N := 48) hx hb hg inC12 hown hK hP 0 rfl rfl 36 (by decide) (hg _ wt5_196) (fun _ h9 => h9) rfl dX12_look_106 ?_
            refine lv_bipush (v := 11) hx hb dX12_look_109 (by decide) ?_
            refine lv_iload hx hb dX12_look_111 (lv_at hl 2 rfl) ?_
            refine lv_imul hx hb dX12_look_113 ?_
            refine k_top (z := nI (11 * i2)) (pk_mul 11 i2) ?_
            refine lv_iload hx hb dX12_look_114 (lv_at hl 0 rfl) ?_
            refine lv_iadd hx hb dX12_look_116 ?_
            refine k_top (z := nI ((11 * i2) + 9)) (nI_add (11 * i2) 9) ?_
            refine va_iald hx hb hK hP 19 0 rfl rfl (vp_in_nI (by omega) (by decide)) dX12_look_117 ?_
            refine lv_topi (fun t118 et118 => ?_)
            rw [nI_clamp (n := ((11 * i2) + 9)) (by omega)] at et118
            have et118 : t118 = 0 := et118.trans ((zi2 _ (by omega)).trans (ks_nil (by decide) (by decide)))
            subst et118
            refine kN.callS (As := [.int 1, .int 0]) (rest := []) ⟨hx, hb, hml, hown, hg⟩ (c_greater l 1 0) (va_cwS 2 hg (kgS wt6_127 wt6_128 wt1_14 wt6_129) rfl rfl rfl (by decide +kernel) ⟨by decide, by decide⟩) hP hS rfl hl.1 rfl (Nat.le_of_ble_eq_true rfl) dX12_look_118 ⟨by decide, by decide⟩ (fun v120 H locs hw119 hP hS => ?_)
            refine k_top (z := 1) (hw119.trans (by decide +kernel)) ?_
            refine lv_istore (lv' := [(6, .int 1), (7, .int 9), (5, .int (nI i2)), (3, .int 0), (4, .int 1), (2, .int 1), (0, .ref o), (1, .int x)]) hx hb dX12_look_121 hl (by decide) rfl (fun ls hl => ?_)
            refine lv_iinc (v := 10) (lv' := [(7, .int 10), (6, .int 1), (5, .int (nI i2)), (3, .int 0), (4, .int 1), (2, .int 1), (0, .ref o), (1, .int x)]) hx hb dX12_look_123 hl (k := 1) rfl (by decide +kernel) (by decide) rfl (fun ls hl => ?_)
            refine lv_goto (tgt := 96) hx hb dX12_look_126 (by decide) ?_
            refine lv_iload hx hb dX12_look_96 (lv_at hl 0 rfl) ?_
            refine lv_bipush (v := 10) hx hb dX12_look_98 (by decide) ?_
            refine lv_icmp_gt (tgt := 129) hx hb dX12_look_100 (by decide) (fun c121 => absurd c121 (by decide +kernel)) (fun c121 => ?_)
            refine lv_iload hx hb dX12_look_103 (lv_at hl 1 rfl) ?_
            refine lv_aload_n hx hb dX12_look_105 rfl (lv_at hl 6 rfl) ?_
            refine va_get (D := D) (ci := 12) (v := .ref (r 36)) (C := RX12) (T := TX12) (N := 48) hx hb hg inC12 hown hK hP 0 rfl rfl 36 (by decide) (hg _ wt5_196) (fun _ h9 => h9) rfl dX12_look_106 ?_
            refine lv_bipush (v := 11) hx hb dX12_look_109 (by decide) ?_
            refine lv_iload hx hb dX12_look_111 (lv_at hl 2 rfl) ?_
            refine lv_imul hx hb dX12_look_113 ?_
            refine k_top (z := nI (11 * i2)) (pk_mul 11 i2) ?_
            refine lv_iload hx hb dX12_look_114 (lv_at hl 0 rfl) ?_
            refine lv_iadd hx hb dX12_look_116 ?_
            refine k_top (z := nI ((11 * i2) + 10)) (nI_add (11 * i2) 10) ?_
            refine va_iald hx hb hK hP 19 0 rfl rfl (vp_in_nI (by omega) (by decide)) dX12_look_117 ?_
            refine lv_topi (fun t122 et122 => ?_)
            rw [nI_clamp (n := ((11 * i2) + 10)) (by omega)] at et122
            have et122 : t122 = 0 := et122.trans ((zi2 _ (by omega)).trans (ks_nil (by decide) (by decide)))
            subst et122
            refine kN.callS (As := [.int 1, .int 0]) (rest := []) ⟨hx, hb, hml, hown, hg⟩ (c_greater l 1 0) (va_cwS 2 hg (kgS wt6_127 wt6_128 wt1_14 wt6_129) rfl rfl rfl (by decide +kernel) ⟨by decide, by decide⟩) hP hS rfl hl.1 rfl (Nat.le_of_ble_eq_true rfl) dX12_look_118 ⟨by decide, by decide⟩ (fun v124 H locs hw123 hP hS => ?_)
            refine k_top (z := 1) (hw123.trans (by decide +kernel)) ?_
            refine lv_istore (lv' := [(6, .int 1), (7, .int 10), (5, .int (nI i2)), (3, .int 0), (4, .int 1), (2, .int 1), (0, .ref o), (1, .int x)]) hx hb dX12_look_121 hl (by decide) rfl (fun ls hl => ?_)
            refine lv_iinc (v := 11) (lv' := [(7, .int 11), (6, .int 1), (5, .int (nI i2)), (3, .int 0), (4, .int 1), (2, .int 1), (0, .ref o), (1, .int x)]) hx hb dX12_look_123 hl (k := 1) rfl (by decide +kernel) (by decide) rfl (fun ls hl => ?_)
            refine lv_goto (tgt := 96) hx hb dX12_look_126 (by decide) ?_
            refine lv_iload hx hb dX12_look_96 (lv_at hl 0 rfl) ?_
            refine lv_bipush (v := 10) hx hb dX12_look_98 (by decide) ?_
            refine lv_icmp_gt (tgt := 129) hx hb dX12_look_100 (by decide) (fun c125 => ?_) (fun c125 => absurd (by decide +kernel) c125)
            refine lv_iload hx hb dX12_look_129 (lv_at hl 1 rfl) ?_
            refine lv_iload hx hb dX12_look_131 (lv_at hl 4 rfl) ?_
            refine lv_icmp_lt (tgt := 139) hx hb dX12_look_133 (by decide) (fun c126 => absurd c126 (by decide +kernel)) (fun c126 => ?_)
            refine lv_goto (tgt := 146) hx hb dX12_look_136 (by decide) ?_
            refine lv_iinc (v := nI (i2 + 1)) (lv' := [(5, .int (nI (i2 + 1))), (7, .int 11), (6, .int 1), (3, .int 0), (4, .int 1), (2, .int 1), (0, .ref o), (1, .int x)]) hx hb dX12_look_146 hl (k := 2) rfl (nI_1 _) (by decide) rfl (fun ls hl => ?_)
            refine lv_goto (tgt := 79) hx hb dX12_look_149 (by decide) ?_
            exact ih2 (i2 + 1) F2 B2 G2 _ _ _ (by omega) zi2 hP hD hS (lv_sub hl [0, 3, 4, 1, 2, 5, 6, 7] rfl)
        exact lp75 (41 - 1) 1 f20 a21 g22 _ _ _ (by omega) hw17.2.2.2.2.2 hP hD hS hl
      | succ n ih =>
        intro i F B G H locs ls hin z0 z1 z2 z3 z4 zi hP hD hS hl
        have hlt : i < 451 := by omega
        refine lv_iload_n hx hb dX12_look_15 rfl (lv_at hl 0 rfl) ?_
        refine lv_sipush (v := 451) hx hb dX12_look_16 (by decide) ?_
        refine lv_icmp_ge (tgt := 35) hx hb dX12_look_19 (by decide) (fun c127 => absurd c127 (nI_ge (b := 451) hlt (by decide))) (fun c127 => ?_)
        refine lv_aload_n hx hb dX12_look_22 rfl (lv_at hl 2 rfl) ?_
        refine va_get (D := D) (ci := 12) (v := .ref (r 36)) (C := RX12) (T := TX12) (N := 48) hx hb hg inC12 hown hK hP 0 rfl rfl 36 (by decide) (hg _ wt5_196) (fun _ h9 => h9) rfl dX12_look_23 ?_
        refine lv_iload_n hx hb dX12_look_26 rfl (lv_at hl 0 rfl) ?_
        refine lv_iconst (v := 0) hx hb dX12_look_27 (by decide) ?_
        refine va_iast hx hb hK hP hD hS 19 0 rfl rfl (vp_in_nI (by omega) (by decide)) dX12_look_28 (fun H locs hP hD hS => ?_)
        rw [nI_clamp (n := i) (by omega)] at hP hD
        have hP : va_P D vwCl (mW K o r F (va_up B 36 (upd (B 36) i 0)) G) H := hP
        have hD : va_D A (mW K o r F (va_up B 36 (upd (B 36) i 0)) G) := hD
        generalize ea_128 : va_up B 36 (upd (B 36) i 0) = a_128 at hP hD
        refine lv_iinc (v := nI (i + 1)) (lv' := [(3, .int (nI (i + 1))), (2, .int 0), (0, .ref o), (1, .int x)]) hx hb dX12_look_29 hl (k := 0) rfl (nI_1 _) (by decide) rfl (fun ls hl => ?_)
        refine lv_goto (tgt := 15) hx hb dX12_look_32 (by decide) ?_
        exact ih (i + 1) F a_128 G _ _ _ (by omega) ((show a_128 2 102 = B 2 102 from by rw [← ea_128]; rfl).trans z0) ((show a_128 2 103 = B 2 103 from by rw [← ea_128]; rfl).trans z1) ((show a_128 2 104 = B 2 104 from by rw [← ea_128]; rfl).trans z2) ((show a_128 2 99 = B 2 99 from by rw [← ea_128]; rfl).trans z3) ((show a_128 2 100 = B 2 100 from by rw [← ea_128]; rfl).trans z4) (by rw [← ea_128]; exact kz_step zi) hP hD hS (lv_sub hl [0, 1, 2, 3] rfl)
    exact lp4 (451 - 0) 0 f a g _ _ _ (by omega) h0 h1 h2 h3 h4 (fun j hj => absurd hj (Nat.not_lt_zero j)) hP hD hS hl
  · refine lv_iconst (v := (-1)) hx hb dX12_look_9 (by decide) ?_
    exact kI_ret (v := (-1)) hx hb hr hlocks rfl hK hS dX12_look_10 (f, a, g) hP hD (by rw [if_pos c3])
end
section
section KWALK2
variable {p : Program} {l : Launch} {e : Env} {R : Room} {s : State} {m : MethodId} {args : Array Value} {below : List Frame} {meth : Method} {c : Code} {H : Heap} {locs : List Loc} {cells slots : Nat} {Q : State → Prop} {pc : Nat} {ls : Array Slot} {rest st0 : List Value} {cc : ByteArray}
variable {y : MethodName} {bytes : ByteArray} {maxL nL mc ms n index : Nat} {ret : Option FieldType} {wd : List Cond} {rm : Room} {Ts : List Cond} {own C : String} {b : Addr} {As : List Value} {D : va_G} {tys : List (ClassId × FieldType)} {ws : va_W} {S : Type} {w2 : S → va_W} {A : Nat → Prop}
theorem kwFree {H0 : Heap} (hD : va_D A ws) (hS : va_S A H0 H locs) (hA : ∀ q, H0.size ≤ q → A q) : ∀ q, va_A ws H.size q → A q := by
  intro q h
  rcases h with ⟨k, e, h⟩ | h
  · exact hD.2 k (q, e) h
  · exact hA q (Nat.le_trans hS.1 h)
/-- an instance method, over the whole world -/
theorem kI.callW {post : Int32 → S → Prop} (F : CallFix p m c cc nL s args Ts own) (hc : kI l y wd rm D tys (.ref b :: As) ws post w2 mc ms) (cw : CallW R s args own C index y bytes maxL ret wd rm mc ms n) (hK : va_K D vwCl tys s) (hP : va_P D vwCl ws H) (hD : va_D A ws) (hS : va_S A s.heap H locs) (hA : ∀ q, s.heap.size ≤ q → A q)
    (q0 ci : Nat) {T : u_T} {N : Nat} {fs : List Value} (hcl : vwCl[ci]? = some (C, T, N)) (he : ws[q0]? = some (b, .inr (ci, fs)))
    (hn : As.length = n) (hsize : ls.size = nL) (hstack : st0 = As.reverse ++ .ref b :: rest) (hW : (rest.map fun v => v.category).sum ≤ 8) (hdg : decode cc pc = .ok (.invokevirtual index, 3)) (hf : cells + mc ≤ R.cells ∧ slots + ms ≤ R.slots)
    (kk : ∀ (r : Int32) (u : S) (H1 : Heap) (locs1 : List Loc), post r u → va_P D vwCl (w2 u) H1 → va_D A (w2 u) → va_S A s.heap H1 locs1 → W p l e R s m args below meth c H1 locs1 (cells + mc) (slots + ms) Q (F0 m (pc + 3) ls (.int r :: rest))) : W p l e R s m args below meth c H locs cells slots Q (F0 m pc ls st0) := by
  have hFc := kwFree hD hS hA
  refine va_calli (va_runV (As := As) (rest := rest) F (hc H.size) cw ⟨kblind, va_recv hK hP hcl he, fun U hU hW => ⟨rfl, by rw [hU], by rw [hU]; exact hP, va_K.moved hW.alike hK, hD.weaken (fun _ _ _ _ => trivial)⟩⟩ rfl hn hsize hstack (lv_room hW) hdg hf) hS (fun q _ h => hFc q h) hFc (fun r u t H1 locs ht hvm hw hB hz1 hk1 hS => ?_)
  obtain ⟨hP1, hK1, hD1⟩ := hB
  rw [ht] at hP1
  exact kk r u H1 locs hw hP1 (hD1.weaken (fun k q _ h => hFc q.1 h)) hS
theorem kV.callW {post : S → Prop} (F : CallFix p m c cc nL s args Ts own) (hc : kV l y wd rm D tys (.ref b :: As) ws post w2 mc ms) (cw : CallW R s args own C index y bytes maxL ret wd rm mc ms n) (hK : va_K D vwCl tys s) (hP : va_P D vwCl ws H) (hD : va_D A ws) (hS : va_S A s.heap H locs) (hA : ∀ q, s.heap.size ≤ q → A q)
    (q0 ci : Nat) {T : u_T} {N : Nat} {fs : List Value} (hcl : vwCl[ci]? = some (C, T, N)) (he : ws[q0]? = some (b, .inr (ci, fs)))
    (hn : As.length = n) (hsize : ls.size = nL) (hstack : st0 = As.reverse ++ .ref b :: rest) (hW : (rest.map fun v => v.category).sum ≤ 8) (hdg : decode cc pc = .ok (.invokevirtual index, 3)) (hf : cells + mc ≤ R.cells ∧ slots + ms ≤ R.slots)
    (kk : ∀ (u : S) (H1 : Heap) (locs1 : List Loc), post u → va_P D vwCl (w2 u) H1 → va_D A (w2 u) → va_S A s.heap H1 locs1 → W p l e R s m args below meth c H1 locs1 (cells + mc) (slots + ms) Q (F0 m (pc + 3) ls rest)) : W p l e R s m args below meth c H locs cells slots Q (F0 m pc ls st0) := by
  have hFc := kwFree hD hS hA
  refine va_callv (va_runV (As := As) (rest := rest) F (hc H.size) cw ⟨kblind, va_recv hK hP hcl he, fun U hU hW => ⟨rfl, by rw [hU], by rw [hU]; exact hP, va_K.moved hW.alike hK, hD.weaken (fun _ _ _ _ => trivial)⟩⟩ rfl hn hsize hstack (lv_room hW) hdg hf) hS (fun q _ h => hFc q h) hFc (fun u t H1 locs ht hvm hw hB hz1 hk1 hS => ?_)
  obtain ⟨hP1, hK1, hD1⟩ := hB
  rw [ht] at hP1
  exact kk u H1 locs hw hP1 (hD1.weaken (fun k q _ h => hFc q.1 h)) hS
theorem kL.callW {post : Int64 → S → Prop} (F : CallFix p m c cc nL s args Ts own) (hc : kL l y wd rm D tys (.ref b :: As) ws post w2 mc ms) (cw : CallW R s args own C index y bytes maxL ret wd rm mc ms n) (hK : va_K D vwCl tys s) (hP : va_P D vwCl ws H) (hD : va_D A ws) (hS : va_S A s.heap H locs) (hA : ∀ q, s.heap.size ≤ q → A q)
    (q0 ci : Nat) {T : u_T} {N : Nat} {fs : List Value} (hcl : vwCl[ci]? = some (C, T, N)) (he : ws[q0]? = some (b, .inr (ci, fs)))
    (hn : As.length = n) (hsize : ls.size = nL) (hstack : st0 = As.reverse ++ .ref b :: rest) (hW : (rest.map fun v => v.category).sum ≤ 8) (hdg : decode cc pc = .ok (.invokevirtual index, 3)) (hf : cells + mc ≤ R.cells ∧ slots + ms ≤ R.slots)
    (kk : ∀ (r : Int64) (u : S) (H1 : Heap) (locs1 : List Loc), post r u → va_P D vwCl (w2 u) H1 → va_D A (w2 u) → va_S A s.heap H1 locs1 → W p l e R s m args below meth c H1 locs1 (cells + mc) (slots + ms) Q (F0 m (pc + 3) ls (.long r :: rest))) : W p l e R s m args below meth c H locs cells slots Q (F0 m pc ls st0) := by
  have hFc := kwFree hD hS hA
  refine va_calll (va_runV (As := As) (rest := rest) F (hc H.size) cw ⟨kblind, va_recv hK hP hcl he, fun U hU hW => ⟨rfl, by rw [hU], by rw [hU]; exact hP, va_K.moved hW.alike hK, hD.weaken (fun _ _ _ _ => trivial)⟩⟩ rfl hn hsize hstack (lv_room hW) hdg hf) hS (fun q _ h => hFc q h) hFc (fun r u t H1 locs ht hvm hw hB hz1 hk1 hS => ?_)
  obtain ⟨hP1, hK1, hD1⟩ := hB
  rw [ht] at hP1
  exact kk r u H1 locs hw hP1 (hD1.weaken (fun k q _ h => hFc q.1 h)) hS
/-- a static method over one row of the world (void): the row comes back changed, at its place -/
theorem kV.callA {post : S → Prop} {nw : S → va_E} {b0 : Nat} {e0 : va_E} {q0 : Nat} (F : CallFix p m c cc nL s args Ts own) (hc : kV l y wd rm D tys As [(b0, e0)] post (fun u => [(b0, nw u)]) 0 0) (cw : CallB R s args own index y bytes maxL ret wd rm 0 0 n ∧ (Cond.static y).before args s = true) (hK : va_K D vwCl tys s) (hP : va_P D vwCl ws H) (hD : va_D A ws) (hS : va_S A s.heap H locs) (hA : ∀ q, s.heap.size ≤ q → A q)
    (he : ws[q0]? = some (b0, e0)) (hn : As.length = n) (hsize : ls.size = nL) (hstack : st0 = As.reverse ++ rest) (hW : (rest.map fun v => v.category).sum ≤ 8) (hdg : decode cc pc = .ok (.invokestatic index, 3)) (hf : cells + 0 ≤ R.cells ∧ slots + 0 ≤ R.slots)
    (kk : ∀ (u : S) (H1 : Heap) (locs1 : List Loc), post u → va_P D vwCl (ws.set q0 (b0, nw u)) H1 → va_D A (ws.set q0 (b0, nw u)) → va_S A s.heap H1 locs1 → W p l e R s m args below meth c H1 locs1 cells slots Q (F0 m (pc + 3) ls rest)) : W p l e R s m args below meth c H locs cells slots Q (F0 m pc ls st0) := by
  have hPc : va_P D vwCl [(b0, e0)] H := hP.sub [q0] (by simp [he])
  have hDc : va_D A [(b0, e0)] := hD.sub [q0] rfl (by simp [he])
  have hFc : ∀ q, va_A [(b0, e0)] H.size q → A q := kwFree hDc hS hA
  refine va_callv (va_runS (As := As) (rest := rest) F (hc H.size) cw ⟨kblind, fun U hU hW => ⟨rfl, by rw [hU], by rw [hU]; exact hPc, va_K.moved hW.alike hK, hDc.weaken (fun _ _ _ _ => trivial)⟩⟩ rfl hn hsize hstack (lv_room hW) hdg hf) hS (fun q _ h => hFc q h) hFc (fun u t H1 locs ht hvm hw hB hz1 hk1 hS => ?_)
  obtain ⟨hP1, hK1, hD1⟩ := hB
  rw [ht] at hP1
  refine kk u H1 locs hw ?_ (hD.set he) hS
  intro k q hq
  by_cases hk : k = q0
  · subst hk
    have hlt : k < ws.length := (List.getElem?_eq_some_iff.mp he).1
    rw [List.getElem?_set_self hlt] at hq
    cases hq
    exact hP1 0 _ rfl
  · rw [List.getElem?_set_ne (Ne.symm hk)] at hq
    have hlt := (hP k q hq).lt
    refine (hP k q hq).kept (hk1 q.1 hlt ?_)
    intro h
    rcases h with ⟨j, e, h⟩ | h
    · cases j with
      | zero =>
        have e1 : (b0, e0) = (q.1, e) := Option.some.inj h
        have e2 : b0 = q.1 := congrArg Prod.fst e1
        exact hk (hD.1 k q0 q (b0, e0) hq he e2.symm)
      | succ j => exact absurd h (by simp)
    · omega
theorem k_topn {x : Option Nat} (h : x = none) (k : W p l e R s m args below meth c H locs cells slots Q (F0 m pc ls (.null :: rest))) : W p l e R s m args below meth c H locs cells slots Q (F0 m pc ls (va_rf x :: rest)) := by rw [h]; exact k
end KWALK2
end
section
theorem dX0_sendBuilder_0 : decode cX0_sendBuilder 0 = .ok (.aload_n 0, 1) := by decide +kernel
theorem dX0_sendBuilder_1 : decode cX0_sendBuilder 1 = .ok (.getfield 9, 3) := by decide +kernel
theorem dX0_sendBuilder_4 : decode cX0_sendBuilder 4 = .ok (.iload_n 1, 1) := by decide +kernel
theorem dX0_sendBuilder_5 : decode cX0_sendBuilder 5 = .ok (.invokevirtual 19, 3) := by decide +kernel
theorem dX0_sendBuilder_8 : decode cX0_sendBuilder 8 = .ok (.ifCond .eq 14, 3) := by decide +kernel
theorem dX0_sendBuilder_22 : decode cX0_sendBuilder 22 = .ok (.bipush (-2), 2) := by decide +kernel
theorem dX0_sendBuilder_24 : decode cX0_sendBuilder 24 = .ok (.ireturn, 1) := by decide +kernel
theorem dX0_restBuilder_0 : decode cX0_restBuilder 0 = .ok (.aload_n 0, 1) := by decide +kernel
theorem dX0_restBuilder_1 : decode cX0_restBuilder 1 = .ok (.getfield 9, 3) := by decide +kernel
theorem dX0_restBuilder_4 : decode cX0_restBuilder 4 = .ok (.iload_n 1, 1) := by decide +kernel
theorem dX0_restBuilder_5 : decode cX0_restBuilder 5 = .ok (.invokevirtual 19, 3) := by decide +kernel
theorem dX0_restBuilder_8 : decode cX0_restBuilder 8 = .ok (.ifCond .ne 6, 3) := by decide +kernel
theorem dX0_restBuilder_11 : decode cX0_restBuilder 11 = .ok (.bipush (-2), 2) := by decide +kernel
theorem dX0_restBuilder_13 : decode cX0_restBuilder 13 = .ok (.ireturn, 1) := by decide +kernel
theorem dX0_razePart_0 : decode cX0_razePart 0 = .ok (.aload_n 0, 1) := by decide +kernel
theorem dX0_razePart_1 : decode cX0_razePart 1 = .ok (.getfield 9, 3) := by decide +kernel
theorem dX0_razePart_4 : decode cX0_razePart 4 = .ok (.iload_n 1, 1) := by decide +kernel
theorem dX0_razePart_5 : decode cX0_razePart 5 = .ok (.invokevirtual 25, 3) := by decide +kernel
theorem dX0_razePart_8 : decode cX0_razePart 8 = .ok (.ifCond .ne 6, 3) := by decide +kernel
theorem dX0_razePart_11 : decode cX0_razePart 11 = .ok (.bipush (-2), 2) := by decide +kernel
theorem dX0_razePart_13 : decode cX0_razePart 13 = .ok (.ireturn, 1) := by decide +kernel
theorem dX1_endOf_0 : decode cX1_endOf 0 = .ok (.iload_n 2, 1) := by decide +kernel
theorem dX1_endOf_1 : decode cX1_endOf 1 = .ok (.ifCond .ne 28, 3) := by decide +kernel
theorem dX1_endOf_4 : decode cX1_endOf 4 = .ok (.iload_n 1, 1) := by decide +kernel
theorem dX1_endOf_5 : decode cX1_endOf 5 = .ok (.ifCond .lt 24, 3) := by decide +kernel
theorem dX1_endOf_8 : decode cX1_endOf 8 = .ok (.iload_n 1, 1) := by decide +kernel
theorem dX1_endOf_9 : decode cX1_endOf 9 = .ok (.aload_n 0, 1) := by decide +kernel
theorem dX1_endOf_10 : decode cX1_endOf 10 = .ok (.getfield 9, 3) := by decide +kernel
theorem dX1_endOf_13 : decode cX1_endOf 13 = .ok (.if_icmp .ge 16, 3) := by decide +kernel
theorem dX1_endOf_29 : decode cX1_endOf 29 = .ok (.iload_n 2, 1) := by decide +kernel
theorem dX1_endOf_30 : decode cX1_endOf 30 = .ok (.iconst 1, 1) := by decide +kernel
theorem dX1_endOf_31 : decode cX1_endOf 31 = .ok (.if_icmp .ne 30, 3) := by decide +kernel
theorem dX1_endOf_34 : decode cX1_endOf 34 = .ok (.iload_n 1, 1) := by decide +kernel
theorem dX1_endOf_35 : decode cX1_endOf 35 = .ok (.ifCond .lt 26, 3) := by decide +kernel
theorem dX1_endOf_38 : decode cX1_endOf 38 = .ok (.iload_n 1, 1) := by decide +kernel
theorem dX1_endOf_39 : decode cX1_endOf 39 = .ok (.aload_n 0, 1) := by decide +kernel
theorem dX1_endOf_40 : decode cX1_endOf 40 = .ok (.getfield 15, 3) := by decide +kernel
theorem dX1_endOf_43 : decode cX1_endOf 43 = .ok (.if_icmp .ge 18, 3) := by decide +kernel
theorem dX1_endOf_61 : decode cX1_endOf 61 = .ok (.iconst (-1), 1) := by decide +kernel
theorem dX1_endOf_62 : decode cX1_endOf 62 = .ok (.ireturn, 1) := by decide +kernel
theorem dX2_clear_0 : decode cX2_clear 0 = .ok (.aload_n 0, 1) := by decide +kernel
theorem dX2_clear_1 : decode cX2_clear 1 = .ok (.iconst 0, 1) := by decide +kernel
theorem dX2_clear_2 : decode cX2_clear 2 = .ok (.putfield 11, 3) := by decide +kernel
theorem dX2_clear_5 : decode cX2_clear 5 = .ok (.aload_n 0, 1) := by decide +kernel
theorem dX2_clear_6 : decode cX2_clear 6 = .ok (.iconst 0, 1) := by decide +kernel
theorem dX2_clear_7 : decode cX2_clear 7 = .ok (.putfield 15, 3) := by decide +kernel
theorem dX2_clear_10 : decode cX2_clear 10 = .ok (.return_, 1) := by decide +kernel
theorem dX2_restoreLatest_0 : decode cX2_restoreLatest 0 = .ok (.aload_n 0, 1) := by decide +kernel
theorem dX2_restoreLatest_1 : decode cX2_restoreLatest 1 = .ok (.getfield 11, 3) := by decide +kernel
theorem dX2_restoreLatest_4 : decode cX2_restoreLatest 4 = .ok (.ifCond .gt 6, 3) := by decide +kernel
theorem dX2_restoreLatest_7 : decode cX2_restoreLatest 7 = .ok (.bipush (-3), 2) := by decide +kernel
theorem dX2_restoreLatest_9 : decode cX2_restoreLatest 9 = .ok (.ireturn, 1) := by decide +kernel
theorem dX6_clear_0 : decode cX6_clear 0 = .ok (.aload_n 0, 1) := by decide +kernel
theorem dX6_clear_1 : decode cX6_clear 1 = .ok (.iconst 0, 1) := by decide +kernel
theorem dX6_clear_2 : decode cX6_clear 2 = .ok (.putfield 15, 3) := by decide +kernel
theorem dX6_clear_5 : decode cX6_clear 5 = .ok (.return_, 1) := by decide +kernel
theorem dX7_hasPart_0 : decode cX7_hasPart 0 = .ok (.iload_n 1, 1) := by decide +kernel
theorem dX7_hasPart_1 : decode cX7_hasPart 1 = .ok (.ifCond .lt 21, 3) := by decide +kernel
theorem dX7_hasPart_4 : decode cX7_hasPart 4 = .ok (.iload_n 1, 1) := by decide +kernel
theorem dX7_hasPart_5 : decode cX7_hasPart 5 = .ok (.aload_n 0, 1) := by decide +kernel
theorem dX7_hasPart_6 : decode cX7_hasPart 6 = .ok (.getfield 9, 3) := by decide +kernel
theorem dX7_hasPart_9 : decode cX7_hasPart 9 = .ok (.if_icmp .ge 13, 3) := by decide +kernel
theorem dX7_hasPart_22 : decode cX7_hasPart 22 = .ok (.iconst 0, 1) := by decide +kernel
theorem dX7_hasPart_23 : decode cX7_hasPart 23 = .ok (.ireturn, 1) := by decide +kernel
theorem dX7_hasBuilder_0 : decode cX7_hasBuilder 0 = .ok (.iload_n 1, 1) := by decide +kernel
theorem dX7_hasBuilder_1 : decode cX7_hasBuilder 1 = .ok (.ifCond .lt 21, 3) := by decide +kernel
theorem dX7_hasBuilder_4 : decode cX7_hasBuilder 4 = .ok (.iload_n 1, 1) := by decide +kernel
theorem dX7_hasBuilder_5 : decode cX7_hasBuilder 5 = .ok (.aload_n 0, 1) := by decide +kernel
theorem dX7_hasBuilder_6 : decode cX7_hasBuilder 6 = .ok (.getfield 31, 3) := by decide +kernel
theorem dX7_hasBuilder_9 : decode cX7_hasBuilder 9 = .ok (.if_icmp .ge 13, 3) := by decide +kernel
theorem dX7_hasBuilder_22 : decode cX7_hasBuilder 22 = .ok (.iconst 0, 1) := by decide +kernel
theorem dX7_hasBuilder_23 : decode cX7_hasBuilder 23 = .ok (.ireturn, 1) := by decide +kernel
theorem dX7_upMask_0 : decode cX7_upMask 0 = .ok (.iconst 0, 1) := by decide +kernel
theorem dX7_upMask_1 : decode cX7_upMask 1 = .ok (.istore_n 1, 1) := by decide +kernel
theorem dX7_upMask_2 : decode cX7_upMask 2 = .ok (.iconst 0, 1) := by decide +kernel
theorem dX7_upMask_3 : decode cX7_upMask 3 = .ok (.istore_n 2, 1) := by decide +kernel
theorem dX7_upMask_4 : decode cX7_upMask 4 = .ok (.iload_n 2, 1) := by decide +kernel
theorem dX7_upMask_5 : decode cX7_upMask 5 = .ok (.aload_n 0, 1) := by decide +kernel
theorem dX7_upMask_6 : decode cX7_upMask 6 = .ok (.getfield 9, 3) := by decide +kernel
theorem dX7_upMask_9 : decode cX7_upMask 9 = .ok (.if_icmp .ge 30, 3) := by decide +kernel
theorem dX7_upMask_39 : decode cX7_upMask 39 = .ok (.iload_n 1, 1) := by decide +kernel
theorem dX7_upMask_40 : decode cX7_upMask 40 = .ok (.ireturn, 1) := by decide +kernel
theorem dX7_readyMask_0 : decode cX7_readyMask 0 = .ok (.aload_n 0, 1) := by decide +kernel
theorem dX7_readyMask_1 : decode cX7_readyMask 1 = .ok (.invokevirtual 94, 3) := by decide +kernel
theorem dX7_readyMask_4 : decode cX7_readyMask 4 = .ok (.istore_n 1, 1) := by decide +kernel
theorem dX7_readyMask_5 : decode cX7_readyMask 5 = .ok (.iconst 0, 1) := by decide +kernel
theorem dX7_readyMask_6 : decode cX7_readyMask 6 = .ok (.istore_n 2, 1) := by decide +kernel
theorem dX7_readyMask_7 : decode cX7_readyMask 7 = .ok (.iconst 0, 1) := by decide +kernel
theorem dX7_readyMask_8 : decode cX7_readyMask 8 = .ok (.istore_n 3, 1) := by decide +kernel
theorem dX7_readyMask_9 : decode cX7_readyMask 9 = .ok (.iload_n 3, 1) := by decide +kernel
theorem dX7_readyMask_10 : decode cX7_readyMask 10 = .ok (.aload_n 0, 1) := by decide +kernel
theorem dX7_readyMask_11 : decode cX7_readyMask 11 = .ok (.getfield 9, 3) := by decide +kernel
theorem dX7_readyMask_14 : decode cX7_readyMask 14 = .ok (.if_icmp .ge 43, 3) := by decide +kernel
theorem dX7_readyMask_57 : decode cX7_readyMask 57 = .ok (.iload_n 2, 1) := by decide +kernel
theorem dX7_readyMask_58 : decode cX7_readyMask 58 = .ok (.ireturn, 1) := by decide +kernel
theorem dX7_reckonChains_0 : decode cX7_reckonChains 0 = .ok (.iconst 0, 1) := by decide +kernel
theorem dX7_reckonChains_1 : decode cX7_reckonChains 1 = .ok (.istore_n 1, 1) := by decide +kernel
theorem dX7_reckonChains_2 : decode cX7_reckonChains 2 = .ok (.aload_n 0, 1) := by decide +kernel
theorem dX7_reckonChains_3 : decode cX7_reckonChains 3 = .ok (.getfield 9, 3) := by decide +kernel
theorem dX7_reckonChains_6 : decode cX7_reckonChains 6 = .ok (.bipush 10, 2) := by decide +kernel
theorem dX7_reckonChains_8 : decode cX7_reckonChains 8 = .ok (.invokestatic 98, 3) := by decide +kernel
theorem dX7_reckonChains_11 : decode cX7_reckonChains 11 = .ok (.iconst 1, 1) := by decide +kernel
theorem dX7_reckonChains_12 : decode cX7_reckonChains 12 = .ok (.isub, 1) := by decide +kernel
theorem dX7_reckonChains_13 : decode cX7_reckonChains 13 = .ok (.istore_n 2, 1) := by decide +kernel
theorem dX7_reckonChains_14 : decode cX7_reckonChains 14 = .ok (.iload_n 2, 1) := by decide +kernel
theorem dX7_reckonChains_15 : decode cX7_reckonChains 15 = .ok (.ifCond .lt 119, 3) := by decide +kernel
theorem dX7_reckonChains_134 : decode cX7_reckonChains 134 = .ok (.iload_n 1, 1) := by decide +kernel
theorem dX7_reckonChains_135 : decode cX7_reckonChains 135 = .ok (.ireturn, 1) := by decide +kernel
theorem dX9_clear_0 : decode cX9_clear 0 = .ok (.aload_n 0, 1) := by decide +kernel
theorem dX9_clear_1 : decode cX9_clear 1 = .ok (.getfield 11, 3) := by decide +kernel
theorem dX9_clear_4 : decode cX9_clear 4 = .ok (.iconst 0, 1) := by decide +kernel
theorem dX9_clear_5 : decode cX9_clear 5 = .ok (.bipush (-2), 2) := by decide +kernel
theorem dX9_clear_7 : decode cX9_clear 7 = .ok (.iastore, 1) := by decide +kernel
theorem dX9_clear_8 : decode cX9_clear 8 = .ok (.aload_n 0, 1) := by decide +kernel
theorem dX9_clear_9 : decode cX9_clear 9 = .ok (.iconst 0, 1) := by decide +kernel
theorem dX9_clear_10 : decode cX9_clear 10 = .ok (.putfield 23, 3) := by decide +kernel
theorem dX9_clear_13 : decode cX9_clear 13 = .ok (.aload_n 0, 1) := by decide +kernel
theorem dX9_clear_14 : decode cX9_clear 14 = .ok (.iconst 0, 1) := by decide +kernel
theorem dX9_clear_15 : decode cX9_clear 15 = .ok (.putfield 27, 3) := by decide +kernel
theorem dX9_clear_18 : decode cX9_clear 18 = .ok (.return_, 1) := by decide +kernel
theorem dX11_of_0 : decode cX11_of 0 = .ok (.aload_n 0, 1) := by decide +kernel
theorem dX11_of_1 : decode cX11_of 1 = .ok (.getfield 10, 3) := by decide +kernel
theorem dX11_of_4 : decode cX11_of 4 = .ok (.iload_n 1, 1) := by decide +kernel
theorem dX11_of_5 : decode cX11_of 5 = .ok (.invokevirtual 124, 3) := by decide +kernel
theorem dX11_of_8 : decode cX11_of 8 = .ok (.ifCond .ne 5, 3) := by decide +kernel
theorem dX11_of_11 : decode cX11_of 11 = .ok (.iconst (-1), 1) := by decide +kernel
theorem dX11_of_12 : decode cX11_of 12 = .ok (.ireturn, 1) := by decide +kernel
theorem dX11_at_0 : decode cX11_at 0 = .ok (.aload_n 0, 1) := by decide +kernel
theorem dX11_at_1 : decode cX11_at 1 = .ok (.getfield 10, 3) := by decide +kernel
theorem dX11_at_4 : decode cX11_at 4 = .ok (.iload_n 1, 1) := by decide +kernel
theorem dX11_at_5 : decode cX11_at 5 = .ok (.invokevirtual 163, 3) := by decide +kernel
theorem dX11_at_8 : decode cX11_at 8 = .ok (.ifCond .ne 5, 3) := by decide +kernel
theorem dX11_at_11 : decode cX11_at 11 = .ok (.iconst (-1), 1) := by decide +kernel
theorem dX11_at_12 : decode cX11_at 12 = .ok (.ireturn, 1) := by decide +kernel
theorem dX11_asks_0 : decode cX11_asks 0 = .ok (.aload_n 0, 1) := by decide +kernel
theorem dX11_asks_1 : decode cX11_asks 1 = .ok (.getfield 10, 3) := by decide +kernel
theorem dX11_asks_4 : decode cX11_asks 4 = .ok (.iload_n 1, 1) := by decide +kernel
theorem dX11_asks_5 : decode cX11_asks 5 = .ok (.invokevirtual 163, 3) := by decide +kernel
theorem dX11_asks_8 : decode cX11_asks 8 = .ok (.ifCond .eq 26, 3) := by decide +kernel
theorem dX11_asks_34 : decode cX11_asks 34 = .ok (.iconst (-1), 1) := by decide +kernel
theorem dX11_asks_35 : decode cX11_asks 35 = .ok (.ireturn, 1) := by decide +kernel
theorem dX11_end_0 : decode cX11_end 0 = .ok (.iload_n 1, 1) := by decide +kernel
theorem dX11_end_1 : decode cX11_end 1 = .ok (.ifCond .lt 11, 3) := by decide +kernel
theorem dX11_end_4 : decode cX11_end 4 = .ok (.iload_n 1, 1) := by decide +kernel
theorem dX11_end_5 : decode cX11_end 5 = .ok (.aload_n 0, 1) := by decide +kernel
theorem dX11_end_6 : decode cX11_end 6 = .ok (.getfield 94, 3) := by decide +kernel
theorem dX11_end_9 : decode cX11_end 9 = .ok (.if_icmp .le 5, 3) := by decide +kernel
theorem dX11_end_12 : decode cX11_end 12 = .ok (.iconst (-1), 1) := by decide +kernel
theorem dX11_end_13 : decode cX11_end 13 = .ok (.ireturn, 1) := by decide +kernel
theorem dX11_end_14 : decode cX11_end 14 = .ok (.aload_n 0, 1) := by decide +kernel
theorem dX11_end_15 : decode cX11_end 15 = .ok (.iload_n 1, 1) := by decide +kernel
theorem dX11_end_16 : decode cX11_end 16 = .ok (.putfield 94, 3) := by decide +kernel
theorem dX11_end_19 : decode cX11_end 19 = .ok (.iload_n 1, 1) := by decide +kernel
theorem dX11_end_20 : decode cX11_end 20 = .ok (.ireturn, 1) := by decide +kernel
theorem dX11_row_0 : decode cX11_row 0 = .ok (.aload_n 0, 1) := by decide +kernel
theorem dX11_row_1 : decode cX11_row 1 = .ok (.invokevirtual 198, 3) := by decide +kernel
theorem dX11_row_4 : decode cX11_row 4 = .ok (.istore_n 1, 1) := by decide +kernel
theorem dX11_row_5 : decode cX11_row 5 = .ok (.iload_n 1, 1) := by decide +kernel
theorem dX11_row_6 : decode cX11_row 6 = .ok (.ifCond .ne 10, 3) := by decide +kernel
theorem dX11_row_9 : decode cX11_row 9 = .ok (.aload_n 0, 1) := by decide +kernel
theorem dX11_row_10 : decode cX11_row 10 = .ok (.bipush (-6), 2) := by decide +kernel
theorem dX11_row_12 : decode cX11_row 12 = .ok (.invokevirtual 114, 3) := by decide +kernel
theorem dX11_row_15 : decode cX11_row 15 = .ok (.ireturn, 1) := by decide +kernel
theorem dX11_chaff_0 : decode cX11_chaff 0 = .ok (.aload_n 0, 1) := by decide +kernel
theorem dX11_chaff_1 : decode cX11_chaff 1 = .ok (.getfield 101, 3) := by decide +kernel
theorem dX11_chaff_4 : decode cX11_chaff 4 = .ok (.ireturn, 1) := by decide +kernel
theorem dX11_fault_0 : decode cX11_fault 0 = .ok (.aload_n 0, 1) := by decide +kernel
theorem dX11_fault_1 : decode cX11_fault 1 = .ok (.getfield 98, 3) := by decide +kernel
theorem dX11_fault_4 : decode cX11_fault 4 = .ok (.ireturn, 1) := by decide +kernel
theorem dX11_stopped_0 : decode cX11_stopped 0 = .ok (.aload_n 0, 1) := by decide +kernel
theorem dX11_stopped_1 : decode cX11_stopped 1 = .ok (.getfield 104, 3) := by decide +kernel
theorem dX11_stopped_4 : decode cX11_stopped 4 = .ok (.ireturn, 1) := by decide +kernel
theorem dX11_stands_0 : decode cX11_stands 0 = .ok (.iload_n 1, 1) := by decide +kernel
theorem dX11_stands_1 : decode cX11_stands 1 = .ok (.lookupswitch 43 #[(0, 27), (1, 35)], 27) := by decide +kernel
theorem dX11_stands_28 : decode cX11_stands 28 = .ok (.aload_n 0, 1) := by decide +kernel
theorem dX11_stands_29 : decode cX11_stands 29 = .ok (.getfield 10, 3) := by decide +kernel
theorem dX11_stands_32 : decode cX11_stands 32 = .ok (.invokevirtual 238, 3) := by decide +kernel
theorem dX11_stands_35 : decode cX11_stands 35 = .ok (.ireturn, 1) := by decide +kernel
theorem dX11_stands_36 : decode cX11_stands 36 = .ok (.aload_n 0, 1) := by decide +kernel
theorem dX11_stands_37 : decode cX11_stands 37 = .ok (.getfield 10, 3) := by decide +kernel
theorem dX11_stands_40 : decode cX11_stands 40 = .ok (.invokevirtual 143, 3) := by decide +kernel
theorem dX11_stands_43 : decode cX11_stands 43 = .ok (.ireturn, 1) := by decide +kernel
theorem dX11_stands_44 : decode cX11_stands 44 = .ok (.iconst (-1), 1) := by decide +kernel
theorem dX11_stands_45 : decode cX11_stands 45 = .ok (.ireturn, 1) := by decide +kernel
theorem dX11_send_0 : decode cX11_send 0 = .ok (.aload_n 0, 1) := by decide +kernel
theorem dX11_send_1 : decode cX11_send 1 = .ok (.aload_n 0, 1) := by decide +kernel
theorem dX11_send_2 : decode cX11_send 2 = .ok (.getfield 28, 3) := by decide +kernel
theorem dX11_send_5 : decode cX11_send 5 = .ok (.iload_n 1, 1) := by decide +kernel
theorem dX11_send_6 : decode cX11_send 6 = .ok (.iload_n 2, 1) := by decide +kernel
theorem dX11_send_7 : decode cX11_send 7 = .ok (.invokevirtual 241, 3) := by decide +kernel
theorem dX11_send_10 : decode cX11_send 10 = .ok (.invokevirtual 244, 3) := by decide +kernel
theorem dX11_send_13 : decode cX11_send 13 = .ok (.ireturn, 1) := by decide +kernel
theorem dX11_rest_0 : decode cX11_rest 0 = .ok (.aload_n 0, 1) := by decide +kernel
theorem dX11_rest_1 : decode cX11_rest 1 = .ok (.aload_n 0, 1) := by decide +kernel
theorem dX11_rest_2 : decode cX11_rest 2 = .ok (.getfield 28, 3) := by decide +kernel
theorem dX11_rest_5 : decode cX11_rest 5 = .ok (.iload_n 1, 1) := by decide +kernel
theorem dX11_rest_6 : decode cX11_rest 6 = .ok (.invokevirtual 247, 3) := by decide +kernel
theorem dX11_rest_9 : decode cX11_rest 9 = .ok (.invokevirtual 244, 3) := by decide +kernel
theorem dX11_rest_12 : decode cX11_rest 12 = .ok (.ireturn, 1) := by decide +kernel
theorem dX11_throwDown_0 : decode cX11_throwDown 0 = .ok (.aload_n 0, 1) := by decide +kernel
theorem dX11_throwDown_1 : decode cX11_throwDown 1 = .ok (.aload_n 0, 1) := by decide +kernel
theorem dX11_throwDown_2 : decode cX11_throwDown 2 = .ok (.getfield 28, 3) := by decide +kernel
theorem dX11_throwDown_5 : decode cX11_throwDown 5 = .ok (.iload_n 1, 1) := by decide +kernel
theorem dX11_throwDown_6 : decode cX11_throwDown 6 = .ok (.invokevirtual 250, 3) := by decide +kernel
theorem dX11_throwDown_9 : decode cX11_throwDown 9 = .ok (.invokevirtual 244, 3) := by decide +kernel
theorem dX11_throwDown_12 : decode cX11_throwDown 12 = .ok (.ireturn, 1) := by decide +kernel
theorem dX11_undo_0 : decode cX11_undo 0 = .ok (.aload_n 0, 1) := by decide +kernel
theorem dX11_undo_1 : decode cX11_undo 1 = .ok (.aload_n 0, 1) := by decide +kernel
theorem dX11_undo_2 : decode cX11_undo 2 = .ok (.getfield 19, 3) := by decide +kernel
theorem dX11_undo_5 : decode cX11_undo 5 = .ok (.aload_n 0, 1) := by decide +kernel
theorem dX11_undo_6 : decode cX11_undo 6 = .ok (.getfield 10, 3) := by decide +kernel
theorem dX11_undo_9 : decode cX11_undo 9 = .ok (.invokevirtual 256, 3) := by decide +kernel
theorem dX11_undo_12 : decode cX11_undo 12 = .ok (.invokevirtual 244, 3) := by decide +kernel
theorem dX11_undo_15 : decode cX11_undo 15 = .ok (.ireturn, 1) := by decide +kernel
theorem dX11_longest_0 : decode cX11_longest 0 = .ok (.aload_n 0, 1) := by decide +kernel
theorem dX11_longest_1 : decode cX11_longest 1 = .ok (.getfield 10, 3) := by decide +kernel
theorem dX11_longest_4 : decode cX11_longest 4 = .ok (.invokevirtual 147, 3) := by decide +kernel
theorem dX11_longest_7 : decode cX11_longest 7 = .ok (.ireturn, 1) := by decide +kernel
theorem dX11_status_0 : decode cX11_status 0 = .ok (.aload_n 0, 1) := by decide +kernel
theorem dX11_status_1 : decode cX11_status 1 = .ok (.getfield 107, 3) := by decide +kernel
theorem dX11_status_4 : decode cX11_status 4 = .ok (.ireturn, 1) := by decide +kernel
theorem dX11_refuse_0 : decode cX11_refuse 0 = .ok (.iload_n 1, 1) := by decide +kernel
theorem dX11_refuse_1 : decode cX11_refuse 1 = .ok (.bipush (-5), 2) := by decide +kernel
theorem dX11_refuse_3 : decode cX11_refuse 3 = .ok (.if_icmp .ne 7, 3) := by decide +kernel
theorem dX11_refuse_10 : decode cX11_refuse 10 = .ok (.iload_n 1, 1) := by decide +kernel
theorem dX11_refuse_11 : decode cX11_refuse 11 = .ok (.bipush (-6), 2) := by decide +kernel
theorem dX11_refuse_13 : decode cX11_refuse 13 = .ok (.if_icmp .ne 7, 3) := by decide +kernel
theorem dX11_refuse_16 : decode cX11_refuse 16 = .ok (.iconst 4, 1) := by decide +kernel
theorem dX11_refuse_17 : decode cX11_refuse 17 = .ok (.goto 7, 3) := by decide +kernel
theorem dX11_refuse_20 : decode cX11_refuse 20 = .ok (.iload_n 1, 1) := by decide +kernel
theorem dX11_refuse_21 : decode cX11_refuse 21 = .ok (.ineg, 1) := by decide +kernel
theorem dX11_refuse_22 : decode cX11_refuse 22 = .ok (.iconst 1, 1) := by decide +kernel
theorem dX11_refuse_23 : decode cX11_refuse 23 = .ok (.isub, 1) := by decide +kernel
theorem dX11_refuse_24 : decode cX11_refuse 24 = .ok (.istore_n 2, 1) := by decide +kernel
theorem dX11_refuse_25 : decode cX11_refuse 25 = .ok (.iload_n 2, 1) := by decide +kernel
theorem dX11_refuse_26 : decode cX11_refuse 26 = .ok (.ifCond .lt 22, 3) := by decide +kernel
theorem dX11_refuse_29 : decode cX11_refuse 29 = .ok (.iload_n 2, 1) := by decide +kernel
theorem dX11_refuse_30 : decode cX11_refuse 30 = .ok (.aload_n 0, 1) := by decide +kernel
theorem dX11_refuse_31 : decode cX11_refuse 31 = .ok (.getfield 90, 3) := by decide +kernel
theorem dX11_refuse_34 : decode cX11_refuse 34 = .ok (.arraylength, 1) := by decide +kernel
theorem dX11_refuse_35 : decode cX11_refuse 35 = .ok (.if_icmp .ge 13, 3) := by decide +kernel
theorem dX11_refuse_38 : decode cX11_refuse 38 = .ok (.aload_n 0, 1) := by decide +kernel
theorem dX11_refuse_39 : decode cX11_refuse 39 = .ok (.getfield 90, 3) := by decide +kernel
theorem dX11_refuse_42 : decode cX11_refuse 42 = .ok (.iload_n 2, 1) := by decide +kernel
theorem dX11_refuse_43 : decode cX11_refuse 43 = .ok (.dup2, 1) := by decide +kernel
theorem dX11_refuse_44 : decode cX11_refuse 44 = .ok (.iaload, 1) := by decide +kernel
theorem dX11_refuse_45 : decode cX11_refuse 45 = .ok (.iconst 1, 1) := by decide +kernel
theorem dX11_refuse_46 : decode cX11_refuse 46 = .ok (.iadd, 1) := by decide +kernel
theorem dX11_refuse_47 : decode cX11_refuse 47 = .ok (.iastore, 1) := by decide +kernel
theorem dX11_refuse_48 : decode cX11_refuse 48 = .ok (.aload_n 0, 1) := by decide +kernel
theorem dX11_refuse_49 : decode cX11_refuse 49 = .ok (.iload_n 1, 1) := by decide +kernel
theorem dX11_refuse_50 : decode cX11_refuse 50 = .ok (.putfield 107, 3) := by decide +kernel
theorem dX11_refuse_53 : decode cX11_refuse 53 = .ok (.iload_n 1, 1) := by decide +kernel
theorem dX11_refuse_54 : decode cX11_refuse 54 = .ok (.ireturn, 1) := by decide +kernel
theorem dX11_agree_0 : decode cX11_agree 0 = .ok (.aload_n 0, 1) := by decide +kernel
theorem dX11_agree_1 : decode cX11_agree 1 = .ok (.iconst 0, 1) := by decide +kernel
theorem dX11_agree_2 : decode cX11_agree 2 = .ok (.putfield 107, 3) := by decide +kernel
theorem dX11_agree_5 : decode cX11_agree 5 = .ok (.iload_n 1, 1) := by decide +kernel
theorem dX11_agree_6 : decode cX11_agree 6 = .ok (.ireturn, 1) := by decide +kernel
theorem dX11_agreeChanged_0 : decode cX11_agreeChanged 0 = .ok (.aload_n 0, 1) := by decide +kernel
theorem dX11_agreeChanged_1 : decode cX11_agreeChanged 1 = .ok (.getfield 62, 3) := by decide +kernel
theorem dX11_agreeChanged_4 : decode cX11_agreeChanged 4 = .ok (.invokevirtual 326, 3) := by decide +kernel
theorem dX11_agreeChanged_7 : decode cX11_agreeChanged 7 = .ok (.aload_n 0, 1) := by decide +kernel
theorem dX11_agreeChanged_8 : decode cX11_agreeChanged 8 = .ok (.getfield 69, 3) := by decide +kernel
theorem dX11_agreeChanged_11 : decode cX11_agreeChanged 11 = .ok (.invokevirtual 327, 3) := by decide +kernel
theorem dX11_agreeChanged_14 : decode cX11_agreeChanged 14 = .ok (.aload_n 0, 1) := by decide +kernel
theorem dX11_agreeChanged_15 : decode cX11_agreeChanged 15 = .ok (.iload_n 1, 1) := by decide +kernel
theorem dX11_agreeChanged_16 : decode cX11_agreeChanged 16 = .ok (.invokevirtual 225, 3) := by decide +kernel
theorem dX11_agreeChanged_19 : decode cX11_agreeChanged 19 = .ok (.ireturn, 1) := by decide +kernel
theorem dX11_settle_0 : decode cX11_settle 0 = .ok (.iload_n 1, 1) := by decide +kernel
theorem dX11_settle_1 : decode cX11_settle 1 = .ok (.ifCond .ge 11, 3) := by decide +kernel
theorem dX11_settle_4 : decode cX11_settle 4 = .ok (.aload_n 0, 1) := by decide +kernel
theorem dX11_settle_5 : decode cX11_settle 5 = .ok (.iload_n 1, 1) := by decide +kernel
theorem dX11_settle_6 : decode cX11_settle 6 = .ok (.invokevirtual 114, 3) := by decide +kernel
theorem dX11_settle_9 : decode cX11_settle 9 = .ok (.goto 8, 3) := by decide +kernel
theorem dX11_settle_12 : decode cX11_settle 12 = .ok (.aload_n 0, 1) := by decide +kernel
theorem dX11_settle_13 : decode cX11_settle 13 = .ok (.iload_n 1, 1) := by decide +kernel
theorem dX11_settle_14 : decode cX11_settle 14 = .ok (.invokevirtual 121, 3) := by decide +kernel
theorem dX11_settle_17 : decode cX11_settle 17 = .ok (.ireturn, 1) := by decide +kernel
theorem dX11_emptyTape_0 : decode cX11_emptyTape 0 = .ok (.aload_n 0, 1) := by decide +kernel
theorem dX11_emptyTape_1 : decode cX11_emptyTape 1 = .ok (.getfield 94, 3) := by decide +kernel
theorem dX11_emptyTape_4 : decode cX11_emptyTape 4 = .ok (.istore_n 1, 1) := by decide +kernel
theorem dX11_emptyTape_5 : decode cX11_emptyTape 5 = .ok (.aload_n 0, 1) := by decide +kernel
theorem dX11_emptyTape_6 : decode cX11_emptyTape 6 = .ok (.iconst 0, 1) := by decide +kernel
theorem dX11_emptyTape_7 : decode cX11_emptyTape 7 = .ok (.putfield 94, 3) := by decide +kernel
theorem dX11_emptyTape_10 : decode cX11_emptyTape 10 = .ok (.iload_n 1, 1) := by decide +kernel
theorem dX11_emptyTape_11 : decode cX11_emptyTape 11 = .ok (.ireturn, 1) := by decide +kernel
theorem dJ6_bitCount_0f7a4_0 : decode cJ6_bitCount_0f7a4 0 = .ok (.iload_n 0, 1) := by decide +kernel
theorem dJ6_bitCount_0f7a4_1 : decode cJ6_bitCount_0f7a4 1 = .ok (.iload_n 0, 1) := by decide +kernel
theorem dJ6_bitCount_0f7a4_2 : decode cJ6_bitCount_0f7a4 2 = .ok (.iconst 1, 1) := by decide +kernel
theorem dJ6_bitCount_0f7a4_3 : decode cJ6_bitCount_0f7a4 3 = .ok (.iushr, 1) := by decide +kernel
theorem dJ6_bitCount_0f7a4_4 : decode cJ6_bitCount_0f7a4 4 = .ok (.ldc_w 265, 3) := by decide +kernel
theorem dJ6_bitCount_0f7a4_7 : decode cJ6_bitCount_0f7a4 7 = .ok (.iand, 1) := by decide +kernel
theorem dJ6_bitCount_0f7a4_8 : decode cJ6_bitCount_0f7a4 8 = .ok (.isub, 1) := by decide +kernel
theorem dJ6_bitCount_0f7a4_9 : decode cJ6_bitCount_0f7a4 9 = .ok (.istore_n 0, 1) := by decide +kernel
theorem dJ6_bitCount_0f7a4_10 : decode cJ6_bitCount_0f7a4 10 = .ok (.iload_n 0, 1) := by decide +kernel
theorem dJ6_bitCount_0f7a4_11 : decode cJ6_bitCount_0f7a4 11 = .ok (.ldc_w 266, 3) := by decide +kernel
theorem dJ6_bitCount_0f7a4_14 : decode cJ6_bitCount_0f7a4 14 = .ok (.iand, 1) := by decide +kernel
theorem dJ6_bitCount_0f7a4_15 : decode cJ6_bitCount_0f7a4 15 = .ok (.iload_n 0, 1) := by decide +kernel
theorem dJ6_bitCount_0f7a4_16 : decode cJ6_bitCount_0f7a4 16 = .ok (.iconst 2, 1) := by decide +kernel
theorem dJ6_bitCount_0f7a4_17 : decode cJ6_bitCount_0f7a4 17 = .ok (.iushr, 1) := by decide +kernel
theorem dJ6_bitCount_0f7a4_18 : decode cJ6_bitCount_0f7a4 18 = .ok (.ldc_w 266, 3) := by decide +kernel
theorem dJ6_bitCount_0f7a4_21 : decode cJ6_bitCount_0f7a4 21 = .ok (.iand, 1) := by decide +kernel
theorem dJ6_bitCount_0f7a4_22 : decode cJ6_bitCount_0f7a4 22 = .ok (.iadd, 1) := by decide +kernel
theorem dJ6_bitCount_0f7a4_23 : decode cJ6_bitCount_0f7a4 23 = .ok (.istore_n 0, 1) := by decide +kernel
theorem dJ6_bitCount_0f7a4_24 : decode cJ6_bitCount_0f7a4 24 = .ok (.iload_n 0, 1) := by decide +kernel
theorem dJ6_bitCount_0f7a4_25 : decode cJ6_bitCount_0f7a4 25 = .ok (.iload_n 0, 1) := by decide +kernel
theorem dJ6_bitCount_0f7a4_26 : decode cJ6_bitCount_0f7a4 26 = .ok (.iconst 4, 1) := by decide +kernel
theorem dJ6_bitCount_0f7a4_27 : decode cJ6_bitCount_0f7a4 27 = .ok (.iushr, 1) := by decide +kernel
theorem dJ6_bitCount_0f7a4_28 : decode cJ6_bitCount_0f7a4 28 = .ok (.iadd, 1) := by decide +kernel
theorem dJ6_bitCount_0f7a4_29 : decode cJ6_bitCount_0f7a4 29 = .ok (.ldc_w 267, 3) := by decide +kernel
theorem dJ6_bitCount_0f7a4_32 : decode cJ6_bitCount_0f7a4 32 = .ok (.iand, 1) := by decide +kernel
theorem dJ6_bitCount_0f7a4_33 : decode cJ6_bitCount_0f7a4 33 = .ok (.istore_n 0, 1) := by decide +kernel
theorem dJ6_bitCount_0f7a4_34 : decode cJ6_bitCount_0f7a4 34 = .ok (.iload_n 0, 1) := by decide +kernel
theorem dJ6_bitCount_0f7a4_35 : decode cJ6_bitCount_0f7a4 35 = .ok (.iload_n 0, 1) := by decide +kernel
theorem dJ6_bitCount_0f7a4_36 : decode cJ6_bitCount_0f7a4 36 = .ok (.bipush 8, 2) := by decide +kernel
theorem dJ6_bitCount_0f7a4_38 : decode cJ6_bitCount_0f7a4 38 = .ok (.iushr, 1) := by decide +kernel
theorem dJ6_bitCount_0f7a4_39 : decode cJ6_bitCount_0f7a4 39 = .ok (.iadd, 1) := by decide +kernel
theorem dJ6_bitCount_0f7a4_40 : decode cJ6_bitCount_0f7a4 40 = .ok (.istore_n 0, 1) := by decide +kernel
theorem dJ6_bitCount_0f7a4_41 : decode cJ6_bitCount_0f7a4 41 = .ok (.iload_n 0, 1) := by decide +kernel
theorem dJ6_bitCount_0f7a4_42 : decode cJ6_bitCount_0f7a4 42 = .ok (.iload_n 0, 1) := by decide +kernel
theorem dJ6_bitCount_0f7a4_43 : decode cJ6_bitCount_0f7a4 43 = .ok (.bipush 16, 2) := by decide +kernel
theorem dJ6_bitCount_0f7a4_45 : decode cJ6_bitCount_0f7a4 45 = .ok (.iushr, 1) := by decide +kernel
theorem dJ6_bitCount_0f7a4_46 : decode cJ6_bitCount_0f7a4 46 = .ok (.iadd, 1) := by decide +kernel
theorem dJ6_bitCount_0f7a4_47 : decode cJ6_bitCount_0f7a4 47 = .ok (.istore_n 0, 1) := by decide +kernel
theorem dJ6_bitCount_0f7a4_48 : decode cJ6_bitCount_0f7a4 48 = .ok (.iload_n 0, 1) := by decide +kernel
theorem dJ6_bitCount_0f7a4_49 : decode cJ6_bitCount_0f7a4 49 = .ok (.bipush 63, 2) := by decide +kernel
theorem dJ6_bitCount_0f7a4_51 : decode cJ6_bitCount_0f7a4 51 = .ok (.iand, 1) := by decide +kernel
theorem dJ6_bitCount_0f7a4_52 : decode cJ6_bitCount_0f7a4 52 = .ok (.ireturn, 1) := by decide +kernel
end
section
theorem inC0 : ∀ w ∈ u_ws RX0 TX0 2, w ∈ kG := by
  intro w h
  obtain ⟨k, hk, rfl⟩ := List.mem_map.mp h
  have hk := List.mem_range.mp hk
  match k, hk with
  | 0, _ => exact kt1 224 rfl rfl
  | 1, _ => exact kt1 226 rfl rfl
  | k + 2, hk => exact absurd hk (by omega)
theorem inC1 : ∀ w ∈ u_ws RX1 TX1 5, w ∈ kG := by
  intro w h
  obtain ⟨k, hk, rfl⟩ := List.mem_map.mp h
  have hk := List.mem_range.mp hk
  match k, hk with
  | 0, _ => exact kt2 174 rfl rfl
  | 1, _ => exact kt2 176 rfl rfl
  | 2, _ => exact kt2 178 rfl rfl
  | 3, _ => exact kt2 180 rfl rfl
  | 4, _ => exact kt2 182 rfl rfl
  | k + 5, hk => exact absurd hk (by omega)
theorem inC11 : ∀ w ∈ u_ws RX11 TX11 17, w ∈ kG := by
  intro w h
  obtain ⟨k, hk, rfl⟩ := List.mem_map.mp h
  have hk := List.mem_range.mp hk
  match k, hk with
  | 0, _ => exact kt2 203 rfl rfl
  | 1, _ => exact kt2 205 rfl rfl
  | 2, _ => exact kt2 207 rfl rfl
  | 3, _ => exact kt2 209 rfl rfl
  | 4, _ => exact kt2 211 rfl rfl
  | 5, _ => exact kt2 213 rfl rfl
  | 6, _ => exact kt2 215 rfl rfl
  | 7, _ => exact kt2 217 rfl rfl
  | 8, _ => exact kt2 219 rfl rfl
  | 9, _ => exact kt2 221 rfl rfl
  | 10, _ => exact kt2 223 rfl rfl
  | 11, _ => exact kt2 225 rfl rfl
  | 12, _ => exact kt2 227 rfl rfl
  | 13, _ => exact kt2 229 rfl rfl
  | 14, _ => exact kt2 231 rfl rfl
  | 15, _ => exact kt2 233 rfl rfl
  | 16, _ => exact kt2 235 rfl rfl
  | k + 17, hk => exact absurd hk (by omega)
theorem inC2 : ∀ w ∈ u_ws RX2 TX2 3, w ∈ kG := by
  intro w h
  obtain ⟨k, hk, rfl⟩ := List.mem_map.mp h
  have hk := List.mem_range.mp hk
  match k, hk with
  | 0, _ => exact kt1 209 rfl rfl
  | 1, _ => exact kt1 211 rfl rfl
  | 2, _ => exact kt1 213 rfl rfl
  | k + 3, hk => exact absurd hk (by omega)
theorem inC6 : ∀ w ∈ u_ws RX6 TX6 3, w ∈ kG := by
  intro w h
  obtain ⟨k, hk, rfl⟩ := List.mem_map.mp h
  have hk := List.mem_range.mp hk
  match k, hk with
  | 0, _ => exact kt2 156 rfl rfl
  | 1, _ => exact kt2 158 rfl rfl
  | 2, _ => exact kt2 160 rfl rfl
  | k + 3, hk => exact absurd hk (by omega)
theorem inC7 : ∀ w ∈ u_ws RX7 TX7 20, w ∈ kG := by
  intro w h
  obtain ⟨k, hk, rfl⟩ := List.mem_map.mp h
  have hk := List.mem_range.mp hk
  match k, hk with
  | 0, _ => exact kt1 158 rfl rfl
  | 1, _ => exact kt1 160 rfl rfl
  | 2, _ => exact kt1 162 rfl rfl
  | 3, _ => exact kt1 164 rfl rfl
  | 4, _ => exact kt1 166 rfl rfl
  | 5, _ => exact kt1 168 rfl rfl
  | 6, _ => exact kt1 170 rfl rfl
  | 7, _ => exact kt1 172 rfl rfl
  | 8, _ => exact kt1 174 rfl rfl
  | 9, _ => exact kt1 176 rfl rfl
  | 10, _ => exact kt1 178 rfl rfl
  | 11, _ => exact kt1 180 rfl rfl
  | 12, _ => exact kt1 182 rfl rfl
  | 13, _ => exact kt1 184 rfl rfl
  | 14, _ => exact kt1 186 rfl rfl
  | 15, _ => exact kt1 188 rfl rfl
  | 16, _ => exact kt1 190 rfl rfl
  | 17, _ => exact kt1 192 rfl rfl
  | 18, _ => exact kt1 194 rfl rfl
  | 19, _ => exact kt1 196 rfl rfl
  | k + 20, hk => exact absurd hk (by omega)
theorem inC9 : ∀ w ∈ u_ws RX9 TX9 10, w ∈ kG := by
  intro w h
  obtain ⟨k, hk, rfl⟩ := List.mem_map.mp h
  have hk := List.mem_range.mp hk
  match k, hk with
  | 0, _ => exact kt2 125 rfl rfl
  | 1, _ => exact kt2 127 rfl rfl
  | 2, _ => exact kt2 129 rfl rfl
  | 3, _ => exact kt2 131 rfl rfl
  | 4, _ => exact kt2 133 rfl rfl
  | 5, _ => exact kt2 135 rfl rfl
  | 6, _ => exact kt2 137 rfl rfl
  | 7, _ => exact kt2 139 rfl rfl
  | 8, _ => exact kt2 141 rfl rfl
  | 9, _ => exact kt2 143 rfl rfl
  | k + 10, hk => exact absurd hk (by omega)
theorem wt4_101 : Cond.constant RJ6 265 (1431655765) ∈ kG := kt4 101 rfl rfl
theorem wt4_102 : Cond.constant RJ6 266 (858993459) ∈ kG := kt4 102 rfl rfl
theorem wt4_103 : Cond.constant RJ6 267 (252645135) ∈ kG := kt4 103 rfl rfl
theorem wt1_79 : Cond.fieldLink RX7 9 "SunriseRoof$Site" "parts" "I" ∈ kG := kt1 79 rfl rfl
theorem wt1_104 : Cond.fieldLink RX7 31 "SunriseRoof$Site" "builders" "I" ∈ kG := kt1 104 rfl rfl
theorem wt3_43 : Cond.methodLink RX7 94 yX7_upMask ∈ kG := kt3 43 rfl rfl
theorem wt3_44 : Cond.instanceMethod yX7_upMask ∈ kG := kt3 44 rfl rfl
theorem wt3_45 : Cond.selects RX7 yX7_upMask yX7_upMask ∈ kG := kt3 45 rfl rfl
theorem wt1_2 : Cond.initialized RX7 ∈ kG := kt1 2 rfl rfl
theorem wt3_46 : Cond.code yX7_upMask cX7_upMask 3 (some .int) ∈ kG := kt3 46 rfl rfl
theorem wt3_51 : Cond.methodLink RX7 98 Lib.Math.min.name ∈ kG := kt3 51 rfl rfl
theorem wt3_52 : Cond.static Lib.Math.min.name ∈ kG := kt3 52 rfl rfl
theorem wt1_9 : Cond.initialized "java/lang/Math" ∈ kG := kt1 9 rfl rfl
theorem wt3_53 : Cond.code Lib.Math.min.name Lib.Math.min.code 2 (some .int) ∈ kG := kt3 53 rfl rfl
theorem wt2_202 : Cond.fieldLink RX11 107 "SunriseRoof" "latestStatus" "I" ∈ kG := kt2 202 rfl rfl
theorem wt2_117 : Cond.fieldLink RX9 11 "SunriseRoof$Study" "planRow" "[I" ∈ kG := kt2 117 rfl rfl
theorem wt2_120 : Cond.fieldLink RX9 23 "SunriseRoof$Study" "horizon" "I" ∈ kG := kt2 120 rfl rfl
theorem wt2_121 : Cond.fieldLink RX9 27 "SunriseRoof$Study" "lessonKnown" "Z" ∈ kG := kt2 121 rfl rfl
theorem wt2_155 : Cond.fieldLink RX6 15 "SunriseRoof$Sequences" "known" "Z" ∈ kG := kt2 155 rfl rfl
theorem wt1_205 : Cond.fieldLink RX2 11 "SunriseRoof$Past" "kept" "I" ∈ kG := kt1 205 rfl rfl
theorem wt1_207 : Cond.fieldLink RX2 15 "SunriseRoof$Past" "next" "I" ∈ kG := kt1 207 rfl rfl
theorem wt2_192 : Cond.fieldLink RX11 62 "SunriseRoof" "study" "LSunriseRoof$Study;" ∈ kG := kt2 192 rfl rfl
theorem wt3_19 : Cond.methodLink RX11 326 yX9_clear ∈ kG := kt3 19 rfl rfl
theorem wt3_20 : Cond.instanceMethod yX9_clear ∈ kG := kt3 20 rfl rfl
theorem wt3_21 : Cond.selects RX9 yX9_clear yX9_clear ∈ kG := kt3 21 rfl rfl
theorem wt1_11 : Cond.initialized RX9 ∈ kG := kt1 11 rfl rfl
theorem wt3_22 : Cond.code yX9_clear cX9_clear 1 none ∈ kG := kt3 22 rfl rfl
theorem wt2_193 : Cond.fieldLink RX11 69 "SunriseRoof" "sequences" "LSunriseRoof$Sequences;" ∈ kG := kt2 193 rfl rfl
theorem wt3_23 : Cond.methodLink RX11 327 yX6_clear ∈ kG := kt3 23 rfl rfl
theorem wt3_24 : Cond.instanceMethod yX6_clear ∈ kG := kt3 24 rfl rfl
theorem wt3_25 : Cond.selects RX6 yX6_clear yX6_clear ∈ kG := kt3 25 rfl rfl
theorem wt1_12 : Cond.initialized RX6 ∈ kG := kt1 12 rfl rfl
theorem wt3_26 : Cond.code yX6_clear cX6_clear 1 none ∈ kG := kt3 26 rfl rfl
theorem wt3_27 : Cond.methodLink RX11 225 yX11_agree ∈ kG := kt3 27 rfl rfl
theorem wt3_29 : Cond.instanceMethod yX11_agree ∈ kG := kt3 29 rfl rfl
theorem wp1_2 : Cond.selects RX11 yX11_agree yX11_agree ∈ kG := kp1 2 rfl rfl
theorem wt1_1 : Cond.initialized RX11 ∈ kG := kt1 1 rfl rfl
theorem wt3_30 : Cond.code yX11_agree cX11_agree 2 (some .int) ∈ kG := kt3 30 rfl rfl
theorem wt2_197 : Cond.fieldLink RX11 90 "SunriseRoof" "refusals" "[I" ∈ kG := kt2 197 rfl rfl
theorem wt3_7 : Cond.methodLink RX11 114 yX11_refuse ∈ kG := kt3 7 rfl rfl
theorem wt3_9 : Cond.instanceMethod yX11_refuse ∈ kG := kt3 9 rfl rfl
theorem wp1_0 : Cond.selects RX11 yX11_refuse yX11_refuse ∈ kG := kp1 0 rfl rfl
theorem wt3_10 : Cond.code yX11_refuse cX11_refuse 3 (some .int) ∈ kG := kt3 10 rfl rfl
theorem wt3_15 : Cond.methodLink RX11 121 yX11_agreeChanged ∈ kG := kt3 15 rfl rfl
theorem wt3_17 : Cond.instanceMethod yX11_agreeChanged ∈ kG := kt3 17 rfl rfl
theorem wp1_1 : Cond.selects RX11 yX11_agreeChanged yX11_agreeChanged ∈ kG := kp1 1 rfl rfl
theorem wt3_18 : Cond.code yX11_agreeChanged cX11_agreeChanged 2 (some .int) ∈ kG := kt3 18 rfl rfl
theorem wt2_198 : Cond.fieldLink RX11 94 "SunriseRoof" "tapeSize" "I" ∈ kG := kt2 198 rfl rfl
theorem wt2_200 : Cond.fieldLink RX11 101 "SunriseRoof" "chaffCount" "I" ∈ kG := kt2 200 rfl rfl
theorem wt2_199 : Cond.fieldLink RX11 98 "SunriseRoof" "faultPlace" "I" ∈ kG := kt2 199 rfl rfl
theorem wt2_201 : Cond.fieldLink RX11 104 "SunriseRoof" "stoppedClause" "I" ∈ kG := kt2 201 rfl rfl
theorem wt2_186 : Cond.fieldLink RX11 10 "SunriseRoof" "now" "LSunriseRoof$Site;" ∈ kG := kt2 186 rfl rfl
theorem wt3_35 : Cond.methodLink RX11 124 yX7_hasPart ∈ kG := kt3 35 rfl rfl
theorem wt3_36 : Cond.instanceMethod yX7_hasPart ∈ kG := kt3 36 rfl rfl
theorem wt3_37 : Cond.selects RX7 yX7_hasPart yX7_hasPart ∈ kG := kt3 37 rfl rfl
theorem wt3_38 : Cond.code yX7_hasPart cX7_hasPart 2 (some .boolean) ∈ kG := kt3 38 rfl rfl
theorem wt3_67 : Cond.methodLink RX11 163 yX7_hasBuilder ∈ kG := kt3 67 rfl rfl
theorem wt3_68 : Cond.instanceMethod yX7_hasBuilder ∈ kG := kt3 68 rfl rfl
theorem wt3_69 : Cond.selects RX7 yX7_hasBuilder yX7_hasBuilder ∈ kG := kt3 69 rfl rfl
theorem wt3_70 : Cond.code yX7_hasBuilder cX7_hasBuilder 2 (some .boolean) ∈ kG := kt3 70 rfl rfl
theorem wt3_137 : Cond.methodLink RX11 198 yX11_emptyTape ∈ kG := kt3 137 rfl rfl
theorem wt3_139 : Cond.instanceMethod yX11_emptyTape ∈ kG := kt3 139 rfl rfl
theorem wp1_7 : Cond.selects RX11 yX11_emptyTape yX11_emptyTape ∈ kG := kp1 7 rfl rfl
theorem wt3_140 : Cond.code yX11_emptyTape cX11_emptyTape 2 (some .int) ∈ kG := kt3 140 rfl rfl
theorem wt4_164 : Cond.methodLink RX11 238 yX7_upMask ∈ kG := kt4 164 rfl rfl
theorem wt3_39 : Cond.methodLink RX11 143 yX7_readyMask ∈ kG := kt3 39 rfl rfl
theorem wt3_40 : Cond.instanceMethod yX7_readyMask ∈ kG := kt3 40 rfl rfl
theorem wt3_41 : Cond.selects RX7 yX7_readyMask yX7_readyMask ∈ kG := kt3 41 rfl rfl
theorem wt3_42 : Cond.code yX7_readyMask cX7_readyMask 4 (some .int) ∈ kG := kt3 42 rfl rfl
theorem wt1_222 : Cond.fieldLink RX0 9 "SunriseRoof$Deeds" "site" "LSunriseRoof$Site;" ∈ kG := kt1 222 rfl rfl
theorem wt4_113 : Cond.methodLink RX0 19 yX7_hasBuilder ∈ kG := kt4 113 rfl rfl
theorem wt4_114 : Cond.methodLink RX0 25 yX7_hasPart ∈ kG := kt4 114 rfl rfl
theorem wt2_188 : Cond.fieldLink RX11 28 "SunriseRoof" "deeds" "LSunriseRoof$Deeds;" ∈ kG := kt2 188 rfl rfl
theorem wt4_169 : Cond.methodLink RX11 241 yX0_sendBuilder ∈ kG := kt4 169 rfl rfl
theorem wt4_110 : Cond.instanceMethod yX0_sendBuilder ∈ kG := kt4 110 rfl rfl
theorem wt4_111 : Cond.selects RX0 yX0_sendBuilder yX0_sendBuilder ∈ kG := kt4 111 rfl rfl
theorem wt1_5 : Cond.initialized RX0 ∈ kG := kt1 5 rfl rfl
theorem wt4_112 : Cond.code yX0_sendBuilder cX0_sendBuilder 3 (some .int) ∈ kG := kt4 112 rfl rfl
theorem wt4_170 : Cond.methodLink RX11 244 yX11_settle ∈ kG := kt4 170 rfl rfl
theorem wt4_172 : Cond.instanceMethod yX11_settle ∈ kG := kt4 172 rfl rfl
theorem wp2_11 : Cond.selects RX11 yX11_settle yX11_settle ∈ kG := kp2 11 rfl rfl
theorem wt4_173 : Cond.code yX11_settle cX11_settle 2 (some .int) ∈ kG := kt4 173 rfl rfl
theorem wt4_178 : Cond.methodLink RX11 247 yX0_restBuilder ∈ kG := kt4 178 rfl rfl
theorem wt4_123 : Cond.instanceMethod yX0_restBuilder ∈ kG := kt4 123 rfl rfl
theorem wt4_124 : Cond.selects RX0 yX0_restBuilder yX0_restBuilder ∈ kG := kt4 124 rfl rfl
theorem wt4_125 : Cond.code yX0_restBuilder cX0_restBuilder 3 (some .int) ∈ kG := kt4 125 rfl rfl
theorem wt4_183 : Cond.methodLink RX11 250 yX0_razePart ∈ kG := kt4 183 rfl rfl
theorem wt4_127 : Cond.instanceMethod yX0_razePart ∈ kG := kt4 127 rfl rfl
theorem wt4_128 : Cond.selects RX0 yX0_razePart yX0_razePart ∈ kG := kt4 128 rfl rfl
theorem wt4_129 : Cond.code yX0_razePart cX0_razePart 2 (some .int) ∈ kG := kt4 129 rfl rfl
theorem wt2_187 : Cond.fieldLink RX11 19 "SunriseRoof" "past" "LSunriseRoof$Past;" ∈ kG := kt2 187 rfl rfl
theorem wt4_193 : Cond.methodLink RX11 256 yX2_restoreLatest ∈ kG := kt4 193 rfl rfl
theorem wt4_194 : Cond.instanceMethod yX2_restoreLatest ∈ kG := kt4 194 rfl rfl
theorem wt4_195 : Cond.selects RX2 yX2_restoreLatest yX2_restoreLatest ∈ kG := kt4 195 rfl rfl
theorem wt1_4 : Cond.initialized RX2 ∈ kG := kt1 4 rfl rfl
theorem wt4_196 : Cond.code yX2_restoreLatest cX2_restoreLatest 3 (some .int) ∈ kG := kt4 196 rfl rfl
theorem wt3_47 : Cond.methodLink RX11 147 yX7_reckonChains ∈ kG := kt3 47 rfl rfl
theorem wt3_48 : Cond.instanceMethod yX7_reckonChains ∈ kG := kt3 48 rfl rfl
theorem wt3_49 : Cond.selects RX7 yX7_reckonChains yX7_reckonChains ∈ kG := kt3 49 rfl rfl
theorem wt3_50 : Cond.code yX7_reckonChains cX7_reckonChains 5 (some .int) ∈ kG := kt3 50 rfl rfl
theorem wt2_171 : Cond.fieldLink RX1 15 "SunriseRoof$Draws" "builders" "I" ∈ kG := kt2 171 rfl rfl
theorem wt2_170 : Cond.fieldLink RX1 9 "SunriseRoof$Draws" "parts" "I" ∈ kG := kt2 170 rfl rfl
end
section
abbrev xG : Type := (Nat → Nat → Int64) × (Nat → Nat → Option Nat)
abbrev xS : Type := (Nat → Int32) × (Nat → Nat → Int32) × xG
/-- the class's cells, in the order in which they are made -/
def xW (K : Nat → ClassId) (r : Nat → Nat) (f : Nat → Int32) (a : Nat → Nat → Int32) (g : xG) : va_W := [
  (r 0, .inr (11, [.ref (r 1), .ref (r 22), .ref (r 24), .ref (r 25), .ref (r 50), .ref (r 58), .ref (r 80), .ref (r 87), .ref (r 89), .ref (r 92), .ref (r 93), .ref (r 94), .int (f 12), .int (f 13), .int (f 14), .int (f 15), .int (f 16)])),
  (r 1, .inr (7, [.int (f 32), .ref (r 2), .ref (r 3), .ref (r 4), .ref (r 5), .ref (r 6), .int (f 38), .ref (r 7), .ref (r 8), .ref (r 9), .ref (r 10), .ref (r 11), .int (f 44), .ref (r 12), .ref (r 13), .ref (r 14), .ref (r 15), .int (f 49), .int (f 50), .ref (r 16)])),
  (r 2, .inl (K 0, 10, .inl (a 2))),
  (r 3, .inl (K 0, 10, .inl (a 3))),
  (r 4, .inl (K 0, 10, .inl (a 4))),
  (r 5, .inl (K 0, 10, .inl (a 5))),
  (r 6, .inl (K 0, 10, .inl (a 6))),
  (r 7, .inl (K 0, 6, .inl (a 7))),
  (r 8, .inl (K 0, 6, .inl (a 8))),
  (r 9, .inl (K 0, 6, .inl (a 9))),
  (r 10, .inl (K 0, 6, .inl (a 10))),
  (r 11, .inl (K 0, 4, .inl (a 11))),
  (r 12, .inl (K 0, 8, .inl (a 12))),
  (r 13, .inl (K 0, 8, .inl (a 13))),
  (r 14, .inl (K 0, 8, .inl (a 14))),
  (r 15, .inl (K 5, 6, .inr (.inr (.inr (.inr (g.2 15)))))),
  (r 16, .inr (8, [.ref (r 17), .ref (r 18), .ref (r 19), .ref (r 20), .ref (r 21)])),
  (r 17, .inl (K 3, 10, .inr (.inl (g.1 17)))),
  (r 18, .inl (K 3, 32, .inr (.inl (g.1 18)))),
  (r 19, .inl (K 0, 6, .inl (a 19))),
  (r 20, .inl (K 0, 6, .inl (a 20))),
  (r 21, .inl (K 0, 10, .inl (a 21))),
  (r 22, .inr (2, [.int (f 704), .int (f 705), .ref (r 23)])),
  (r 23, .inl (K 0, 384, .inl (a 23))),
  (r 24, .inr (0, [.ref (r 1), .ref (r 22)])),
  (r 25, .inr (5, [.ref (r 1), .ref (r 22), .ref (r 24), .ref (r 26), .ref (r 47), .ref (r 49), .int (f 806), .int (f 807)])),
  (r 26, .inr (7, [.int (f 832), .ref (r 27), .ref (r 28), .ref (r 29), .ref (r 30), .ref (r 31), .int (f 838), .ref (r 32), .ref (r 33), .ref (r 34), .ref (r 35), .ref (r 36), .int (f 844), .ref (r 37), .ref (r 38), .ref (r 39), .ref (r 40), .int (f 849), .int (f 850), .ref (r 41)])),
  (r 27, .inl (K 0, 10, .inl (a 27))),
  (r 28, .inl (K 0, 10, .inl (a 28))),
  (r 29, .inl (K 0, 10, .inl (a 29))),
  (r 30, .inl (K 0, 10, .inl (a 30))),
  (r 31, .inl (K 0, 10, .inl (a 31))),
  (r 32, .inl (K 0, 6, .inl (a 32))),
  (r 33, .inl (K 0, 6, .inl (a 33))),
  (r 34, .inl (K 0, 6, .inl (a 34))),
  (r 35, .inl (K 0, 6, .inl (a 35))),
  (r 36, .inl (K 0, 4, .inl (a 36))),
  (r 37, .inl (K 0, 8, .inl (a 37))),
  (r 38, .inl (K 0, 8, .inl (a 38))),
  (r 39, .inl (K 0, 8, .inl (a 39))),
  (r 40, .inl (K 5, 6, .inr (.inr (.inr (.inr (g.2 40)))))),
  (r 41, .inr (8, [.ref (r 42), .ref (r 43), .ref (r 44), .ref (r 45), .ref (r 46)])),
  (r 42, .inl (K 3, 10, .inr (.inl (g.1 42)))),
  (r 43, .inl (K 3, 32, .inr (.inl (g.1 43)))),
  (r 44, .inl (K 0, 6, .inl (a 44))),
  (r 45, .inl (K 0, 6, .inl (a 45))),
  (r 46, .inl (K 0, 10, .inl (a 46))),
  (r 47, .inr (2, [.int (f 1504), .int (f 1505), .ref (r 48)])),
  (r 48, .inl (K 0, 384, .inl (a 48))),
  (r 49, .inl (K 3, 26, .inr (.inl (g.1 49)))),
  (r 50, .inr (4, [.ref (r 51), .ref (r 56), .ref (r 57), .int (f 1603), .int (f 1604), .int (f 1605), .int (f 1606)])),
  (r 51, .inr (10, [.int (f 1632), .ref (r 52), .ref (r 53), .ref (r 54), .ref (r 55), .int (f 1637)])),
  (r 52, .inl (K 0, 12, .inl (a 52))),
  (r 53, .inl (K 0, 12, .inl (a 53))),
  (r 54, .inl (K 0, 37, .inl (a 54))),
  (r 55, .inl (K 0, 400, .inl (a 55))),
  (r 56, .inl (K 0, 401, .inl (a 56))),
  (r 57, .inl (K 0, 401, .inl (a 57))),
  (r 58, .inr (3, [.ref (r 59), .ref (r 1), .int (f 1858), .int (f 1859)])),
  (r 59, .inr (7, [.int (f 1888), .ref (r 60), .ref (r 61), .ref (r 62), .ref (r 63), .ref (r 64), .int (f 1894), .ref (r 65), .ref (r 66), .ref (r 67), .ref (r 68), .ref (r 69), .int (f 1900), .ref (r 70), .ref (r 71), .ref (r 72), .ref (r 73), .int (f 1905), .int (f 1906), .ref (r 74)])),
  (r 60, .inl (K 0, 10, .inl (a 60))),
  (r 61, .inl (K 0, 10, .inl (a 61))),
  (r 62, .inl (K 0, 10, .inl (a 62))),
  (r 63, .inl (K 0, 10, .inl (a 63))),
  (r 64, .inl (K 0, 10, .inl (a 64))),
  (r 65, .inl (K 0, 6, .inl (a 65))),
  (r 66, .inl (K 0, 6, .inl (a 66))),
  (r 67, .inl (K 0, 6, .inl (a 67))),
  (r 68, .inl (K 0, 6, .inl (a 68))),
  (r 69, .inl (K 0, 4, .inl (a 69))),
  (r 70, .inl (K 0, 8, .inl (a 70))),
  (r 71, .inl (K 0, 8, .inl (a 71))),
  (r 72, .inl (K 0, 8, .inl (a 72))),
  (r 73, .inl (K 5, 6, .inr (.inr (.inr (.inr (g.2 73)))))),
  (r 74, .inr (8, [.ref (r 75), .ref (r 76), .ref (r 77), .ref (r 78), .ref (r 79)])),
  (r 75, .inl (K 3, 10, .inr (.inl (g.1 75)))),
  (r 76, .inl (K 3, 32, .inr (.inl (g.1 76)))),
  (r 77, .inl (K 0, 6, .inl (a 77))),
  (r 78, .inl (K 0, 6, .inl (a 78))),
  (r 79, .inl (K 0, 10, .inl (a 79))),
  (r 80, .inr (9, [.ref (r 1), .ref (r 58), .ref (r 81), .ref (r 82), .ref (r 83), .int (f 2565), .int (f 2566), .ref (r 84), .ref (r 85), .ref (r 86)])),
  (r 81, .inl (K 0, 11, .inl (a 81))),
  (r 82, .inl (K 0, 11, .inl (a 82))),
  (r 83, .inl (K 0, 704, .inl (a 83))),
  (r 84, .inl (K 0, 3, .inl (a 84))),
  (r 85, .inl (K 2, 64, .inl (a 85))),
  (r 86, .inl (K 0, 11, .inl (a 86))),
  (r 87, .inr (6, [.ref (r 1), .ref (r 88), .int (f 2786)])),
  (r 88, .inl (K 0, 1024, .inl (a 88))),
  (r 89, .inr (1, [.ref (r 58), .int (f 2849), .int (f 2850), .ref (r 90), .ref (r 91)])),
  (r 90, .inl (K 0, 10, .inl (a 90))),
  (r 91, .inl (K 0, 6, .inl (a 91))),
  (r 92, .inl (K 4, 2, .inr (.inr (.inr (.inr (g.2 92)))))),
  (r 93, .inl (K 1, 400, .inl (a 93))),
  (r 94, .inl (K 0, 5, .inl (a 94)))]
end
section
set_option maxHeartbeats 4000000 in
set_option maxRecDepth 100000 in
theorem x_bitCount0 (l : Launch)   : kN l yJ6_bitCount_0f7a4 (Cond.code yJ6_bitCount_0f7a4 cJ6_bitCount_0f7a4 1 (some .int) :: kG) (rmD 1 0 0) [.int 0] (fun v => v = 0) := by
  refine kN.of (cc := cJ6_bitCount_0f7a4) (maxL := 1) (ret := (some .int)) (by decide) rfl (Nat.le_of_ble_eq_true rfl) ?_
  intro p e s m below meth c hx hb hr hml hown hts hlocks hS ls hl
  have hg : ∀ w ∈ kG, w.before _ s = true := fun w h => hts w (List.mem_cons_of_mem _ h)
  have hown : s.vm.findClass RJ6 = some m.cls := hown
  have hl : lv_has ls 1 [(0, .int 0)] := hl
  refine lv_iload_n hx hb dJ6_bitCount_0f7a4_0 rfl (lv_at hl 0 rfl) ?_
  refine lv_iload_n hx hb dJ6_bitCount_0f7a4_1 rfl (lv_at hl 0 rfl) ?_
  refine lv_iconst (v := 1) hx hb dJ6_bitCount_0f7a4_2 (by decide) ?_
  refine lv_iushr (v := 0) hx hb dJ6_bitCount_0f7a4_3 (by decide +kernel) ?_
  refine lv_ldcw (v := (1431655765)) hx hb hown (hg _ wt4_101) dJ6_bitCount_0f7a4_4 ?_
  refine lv_iand hx hb dJ6_bitCount_0f7a4_7 ?_
  refine k_top (z := 0) (by decide +kernel) ?_
  refine lv_isub hx hb dJ6_bitCount_0f7a4_8 ?_
  refine k_top (z := 0) (by decide +kernel) ?_
  refine lv_istore_n (lv' := [(0, .int 0)]) hx hb dJ6_bitCount_0f7a4_9 rfl hl (by decide) rfl (fun ls hl => ?_)
  refine lv_iload_n hx hb dJ6_bitCount_0f7a4_10 rfl (lv_at hl 0 rfl) ?_
  refine lv_ldcw (v := (858993459)) hx hb hown (hg _ wt4_102) dJ6_bitCount_0f7a4_11 ?_
  refine lv_iand hx hb dJ6_bitCount_0f7a4_14 ?_
  refine k_top (z := 0) (by decide +kernel) ?_
  refine lv_iload_n hx hb dJ6_bitCount_0f7a4_15 rfl (lv_at hl 0 rfl) ?_
  refine lv_iconst (v := 2) hx hb dJ6_bitCount_0f7a4_16 (by decide) ?_
  refine lv_iushr (v := 0) hx hb dJ6_bitCount_0f7a4_17 (by decide +kernel) ?_
  refine lv_ldcw (v := (858993459)) hx hb hown (hg _ wt4_102) dJ6_bitCount_0f7a4_18 ?_
  refine lv_iand hx hb dJ6_bitCount_0f7a4_21 ?_
  refine k_top (z := 0) (by decide +kernel) ?_
  refine lv_iadd hx hb dJ6_bitCount_0f7a4_22 ?_
  refine k_top (z := 0) (by decide +kernel) ?_
  refine lv_istore_n (lv' := [(0, .int 0)]) hx hb dJ6_bitCount_0f7a4_23 rfl hl (by decide) rfl (fun ls hl => ?_)
  refine lv_iload_n hx hb dJ6_bitCount_0f7a4_24 rfl (lv_at hl 0 rfl) ?_
  refine lv_iload_n hx hb dJ6_bitCount_0f7a4_25 rfl (lv_at hl 0 rfl) ?_
  refine lv_iconst (v := 4) hx hb dJ6_bitCount_0f7a4_26 (by decide) ?_
  refine lv_iushr (v := 0) hx hb dJ6_bitCount_0f7a4_27 (by decide +kernel) ?_
  refine lv_iadd hx hb dJ6_bitCount_0f7a4_28 ?_
  refine k_top (z := 0) (by decide +kernel) ?_
  refine lv_ldcw (v := (252645135)) hx hb hown (hg _ wt4_103) dJ6_bitCount_0f7a4_29 ?_
  refine lv_iand hx hb dJ6_bitCount_0f7a4_32 ?_
  refine k_top (z := 0) (by decide +kernel) ?_
  refine lv_istore_n (lv' := [(0, .int 0)]) hx hb dJ6_bitCount_0f7a4_33 rfl hl (by decide) rfl (fun ls hl => ?_)
  refine lv_iload_n hx hb dJ6_bitCount_0f7a4_34 rfl (lv_at hl 0 rfl) ?_
  refine lv_iload_n hx hb dJ6_bitCount_0f7a4_35 rfl (lv_at hl 0 rfl) ?_
  refine lv_bipush (v := 8) hx hb dJ6_bitCount_0f7a4_36 (by decide) ?_
  refine lv_iushr (v := 0) hx hb dJ6_bitCount_0f7a4_38 (by decide +kernel) ?_
  refine lv_iadd hx hb dJ6_bitCount_0f7a4_39 ?_
  refine k_top (z := 0) (by decide +kernel) ?_
  refine lv_istore_n (lv' := [(0, .int 0)]) hx hb dJ6_bitCount_0f7a4_40 rfl hl (by decide) rfl (fun ls hl => ?_)
  refine lv_iload_n hx hb dJ6_bitCount_0f7a4_41 rfl (lv_at hl 0 rfl) ?_
  refine lv_iload_n hx hb dJ6_bitCount_0f7a4_42 rfl (lv_at hl 0 rfl) ?_
  refine lv_bipush (v := 16) hx hb dJ6_bitCount_0f7a4_43 (by decide) ?_
  refine lv_iushr (v := 0) hx hb dJ6_bitCount_0f7a4_45 (by decide +kernel) ?_
  refine lv_iadd hx hb dJ6_bitCount_0f7a4_46 ?_
  refine k_top (z := 0) (by decide +kernel) ?_
  refine lv_istore_n (lv' := [(0, .int 0)]) hx hb dJ6_bitCount_0f7a4_47 rfl hl (by decide) rfl (fun ls hl => ?_)
  refine lv_iload_n hx hb dJ6_bitCount_0f7a4_48 rfl (lv_at hl 0 rfl) ?_
  refine lv_bipush (v := 63) hx hb dJ6_bitCount_0f7a4_49 (by decide) ?_
  refine lv_iand hx hb dJ6_bitCount_0f7a4_51 ?_
  refine k_top (z := 0) (by decide +kernel) ?_
  exact kN_ret (v := 0) hx hb hr hlocks rfl hS dJ6_bitCount_0f7a4_52 rfl
set_option maxHeartbeats 4000000 in
set_option maxRecDepth 100000 in
theorem x_hasPart_now (l : Launch) {D : va_G} {K : Nat → ClassId} (r : Nat → Nat) (f : Nat → Int32) (a : Nat → Nat → Int32) (g : xG) (h0 : f 32 = 0) (x : Int32)  : kI l yX7_hasPart (Cond.code yX7_hasPart cX7_hasPart 2 (some .boolean) :: kG) (rmD 1 0 0) D (tysK K) [.ref (r 1), .int x] (xW K r f a g) (fun v (_ : Unit) => v = 0) (fun _ => xW K r f a g) 0 0 := by
  refine kI.of (cc := cX7_hasPart) (maxL := 2) (ret := (some .boolean)) (by decide) rfl (Nat.le_of_ble_eq_true rfl) ?_
  intro p e s m below meth c A hx hb hr hml hown hts hlocks hnm hK hP hD hS hA ls hl
  have hg : ∀ w ∈ kG, w.before _ s = true := fun w h => hts w (List.mem_cons_of_mem _ h)
  have hown : s.vm.findClass RX7 = some m.cls := hown
  have hl : lv_has ls 2 [(0, .ref (r 1)), (1, .int x)] := hl
  refine lv_iload_n hx hb dX7_hasPart_0 rfl (lv_at hl 1 rfl) ?_
  refine lv_if_lt (tgt := 22) hx hb dX7_hasPart_1 (by decide) (fun c1 => ?_) (fun c1 => ?_)
  · refine lv_iconst (v := 0) hx hb dX7_hasPart_22 (by decide) ?_
    exact kI_ret (v := 0) hx hb hr hlocks (by decide +kernel) hK hS dX7_hasPart_23 () hP hD rfl
  · refine lv_iload_n hx hb dX7_hasPart_4 rfl (lv_at hl 1 rfl) ?_
    refine lv_aload_n hx hb dX7_hasPart_5 rfl (lv_at hl 0 rfl) ?_
    refine va_get (D := D) (ci := 7) (v := .int (f 32)) (C := RX7) (T := TX7) (N := 20) hx hb hg inC7 hown hK hP 1 rfl rfl 0 (by decide) (hg _ wt1_79) (fun _ h9 => h9) rfl dX7_hasPart_6 ?_
    refine k_top (z := 0) h0 ?_
    refine lv_icmp_ge (tgt := 22) hx hb dX7_hasPart_9 (by decide) (fun c2 => ?_) (fun c2 => absurd (Int32.not_lt.mp c1) c2)
    refine lv_iconst (v := 0) hx hb dX7_hasPart_22 (by decide) ?_
    exact kI_ret (v := 0) hx hb hr hlocks (by decide +kernel) hK hS dX7_hasPart_23 () hP hD rfl
set_option maxHeartbeats 4000000 in
set_option maxRecDepth 100000 in
theorem x_hasBuilder_now (l : Launch) {D : va_G} {K : Nat → ClassId} (r : Nat → Nat) (f : Nat → Int32) (a : Nat → Nat → Int32) (g : xG) (h0 : f 38 = 0) (x : Int32)  : kI l yX7_hasBuilder (Cond.code yX7_hasBuilder cX7_hasBuilder 2 (some .boolean) :: kG) (rmD 1 0 0) D (tysK K) [.ref (r 1), .int x] (xW K r f a g) (fun v (_ : Unit) => v = 0) (fun _ => xW K r f a g) 0 0 := by
  refine kI.of (cc := cX7_hasBuilder) (maxL := 2) (ret := (some .boolean)) (by decide) rfl (Nat.le_of_ble_eq_true rfl) ?_
  intro p e s m below meth c A hx hb hr hml hown hts hlocks hnm hK hP hD hS hA ls hl
  have hg : ∀ w ∈ kG, w.before _ s = true := fun w h => hts w (List.mem_cons_of_mem _ h)
  have hown : s.vm.findClass RX7 = some m.cls := hown
  have hl : lv_has ls 2 [(0, .ref (r 1)), (1, .int x)] := hl
  refine lv_iload_n hx hb dX7_hasBuilder_0 rfl (lv_at hl 1 rfl) ?_
  refine lv_if_lt (tgt := 22) hx hb dX7_hasBuilder_1 (by decide) (fun c1 => ?_) (fun c1 => ?_)
  · refine lv_iconst (v := 0) hx hb dX7_hasBuilder_22 (by decide) ?_
    exact kI_ret (v := 0) hx hb hr hlocks (by decide +kernel) hK hS dX7_hasBuilder_23 () hP hD rfl
  · refine lv_iload_n hx hb dX7_hasBuilder_4 rfl (lv_at hl 1 rfl) ?_
    refine lv_aload_n hx hb dX7_hasBuilder_5 rfl (lv_at hl 0 rfl) ?_
    refine va_get (D := D) (ci := 7) (v := .int (f 38)) (C := RX7) (T := TX7) (N := 20) hx hb hg inC7 hown hK hP 1 rfl rfl 6 (by decide) (hg _ wt1_104) (fun _ h9 => h9) rfl dX7_hasBuilder_6 ?_
    refine k_top (z := 0) h0 ?_
    refine lv_icmp_ge (tgt := 22) hx hb dX7_hasBuilder_9 (by decide) (fun c2 => ?_) (fun c2 => absurd (Int32.not_lt.mp c1) c2)
    refine lv_iconst (v := 0) hx hb dX7_hasBuilder_22 (by decide) ?_
    exact kI_ret (v := 0) hx hb hr hlocks (by decide +kernel) hK hS dX7_hasBuilder_23 () hP hD rfl
set_option maxHeartbeats 4000000 in
set_option maxRecDepth 100000 in
theorem x_upMask_now (l : Launch) {D : va_G} {K : Nat → ClassId} (r : Nat → Nat) (f : Nat → Int32) (a : Nat → Nat → Int32) (g : xG) (h0 : f 32 = 0)   : kI l yX7_upMask (Cond.code yX7_upMask cX7_upMask 3 (some .int) :: kG) (rmD 1 0 0) D (tysK K) [.ref (r 1)] (xW K r f a g) (fun v (_ : Unit) => v = 0) (fun _ => xW K r f a g) 0 0 := by
  refine kI.of (cc := cX7_upMask) (maxL := 3) (ret := (some .int)) (by decide) rfl (Nat.le_of_ble_eq_true rfl) ?_
  intro p e s m below meth c A hx hb hr hml hown hts hlocks hnm hK hP hD hS hA ls hl
  have hg : ∀ w ∈ kG, w.before _ s = true := fun w h => hts w (List.mem_cons_of_mem _ h)
  have hown : s.vm.findClass RX7 = some m.cls := hown
  have hl : lv_has ls 3 [(0, .ref (r 1))] := hl
  refine lv_iconst (v := 0) hx hb dX7_upMask_0 (by decide) ?_
  refine lv_istore_n (lv' := [(1, .int 0), (0, .ref (r 1))]) hx hb dX7_upMask_1 rfl hl (by decide) rfl (fun ls hl => ?_)
  refine lv_iconst (v := 0) hx hb dX7_upMask_2 (by decide) ?_
  refine lv_istore_n (lv' := [(2, .int 0), (1, .int 0), (0, .ref (r 1))]) hx hb dX7_upMask_3 rfl hl (by decide) rfl (fun ls hl => ?_)
  refine lv_iload_n hx hb dX7_upMask_4 rfl (lv_at hl 0 rfl) ?_
  refine lv_aload_n hx hb dX7_upMask_5 rfl (lv_at hl 2 rfl) ?_
  refine va_get (D := D) (ci := 7) (v := .int (f 32)) (C := RX7) (T := TX7) (N := 20) hx hb hg inC7 hown hK hP 1 rfl rfl 0 (by decide) (hg _ wt1_79) (fun _ h9 => h9) rfl dX7_upMask_6 ?_
  refine k_top (z := 0) h0 ?_
  refine lv_icmp_ge (tgt := 39) hx hb dX7_upMask_9 (by decide) (fun c1 => ?_) (fun c1 => absurd (by decide +kernel) c1)
  refine lv_iload_n hx hb dX7_upMask_39 rfl (lv_at hl 1 rfl) ?_
  exact kI_ret (v := 0) hx hb hr hlocks rfl hK hS dX7_upMask_40 () hP hD rfl
set_option maxHeartbeats 4000000 in
set_option maxRecDepth 100000 in
theorem x_readyMask_now (l : Launch) {D : va_G} {K : Nat → ClassId} (r : Nat → Nat) (f : Nat → Int32) (a : Nat → Nat → Int32) (g : xG) (h0 : f 32 = 0)   : kI l yX7_readyMask (Cond.code yX7_readyMask cX7_readyMask 4 (some .int) :: kG) (rmD 2 0 0) D (tysK K) [.ref (r 1)] (xW K r f a g) (fun v (_ : Unit) => v = 0) (fun _ => xW K r f a g) 0 0 := by
  refine kI.of (cc := cX7_readyMask) (maxL := 4) (ret := (some .int)) (by decide) rfl (Nat.le_of_ble_eq_true rfl) ?_
  intro p e s m below meth c A hx hb hr hml hown hts hlocks hnm hK hP hD hS hA ls hl
  have hg : ∀ w ∈ kG, w.before _ s = true := fun w h => hts w (List.mem_cons_of_mem _ h)
  have hown : s.vm.findClass RX7 = some m.cls := hown
  have hl : lv_has ls 4 [(0, .ref (r 1))] := hl
  refine lv_aload_n hx hb dX7_readyMask_0 rfl (lv_at hl 0 rfl) ?_
  refine kI.callW (As := []) (rest := []) ⟨hx, hb, hml, hown, hg⟩ (x_upMask_now l r f a g h0 ) (cwV 0 hg (kgV wt3_43 wt3_44 wt3_45 wt1_2 wt3_46) rfl rfl rfl (by decide +kernel) ⟨by decide, by decide⟩) hK hP hD hS hA 1 7 rfl rfl rfl hl.1 rfl (Nat.le_of_ble_eq_true rfl) dX7_readyMask_1 ⟨by decide, by decide⟩ (fun v3 u2 H locs hw1 hP hD hS => ?_)
  have hP : va_P D vwCl (xW K r f a g) H := hP
  have hD : va_D A (xW K r f a g) := hD
  refine k_top (z := 0) (hw1) ?_
  refine lv_istore_n (lv' := [(1, .int 0), (0, .ref (r 1))]) hx hb dX7_readyMask_4 rfl hl (by decide) rfl (fun ls hl => ?_)
  refine lv_iconst (v := 0) hx hb dX7_readyMask_5 (by decide) ?_
  refine lv_istore_n (lv' := [(2, .int 0), (1, .int 0), (0, .ref (r 1))]) hx hb dX7_readyMask_6 rfl hl (by decide) rfl (fun ls hl => ?_)
  refine lv_iconst (v := 0) hx hb dX7_readyMask_7 (by decide) ?_
  refine lv_istore_n (lv' := [(3, .int 0), (2, .int 0), (1, .int 0), (0, .ref (r 1))]) hx hb dX7_readyMask_8 rfl hl (by decide) rfl (fun ls hl => ?_)
  refine lv_iload_n hx hb dX7_readyMask_9 rfl (lv_at hl 0 rfl) ?_
  refine lv_aload_n hx hb dX7_readyMask_10 rfl (lv_at hl 3 rfl) ?_
  refine va_get (D := D) (ci := 7) (v := .int (f 32)) (C := RX7) (T := TX7) (N := 20) hx hb hg inC7 hown hK hP 1 rfl rfl 0 (by decide) (hg _ wt1_79) (fun _ h9 => h9) rfl dX7_readyMask_11 ?_
  refine k_top (z := 0) h0 ?_
  refine lv_icmp_ge (tgt := 57) hx hb dX7_readyMask_14 (by decide) (fun c4 => ?_) (fun c4 => absurd (by decide +kernel) c4)
  refine lv_iload_n hx hb dX7_readyMask_57 rfl (lv_at hl 1 rfl) ?_
  exact kI_ret (v := 0) hx hb hr hlocks rfl hK hS dX7_readyMask_58 () hP hD rfl
set_option maxHeartbeats 4000000 in
set_option maxRecDepth 100000 in
theorem x_reckonChains_now (l : Launch) {D : va_G} {K : Nat → ClassId} (r : Nat → Nat) (f : Nat → Int32) (a : Nat → Nat → Int32) (g : xG) (h0 : f 32 = 0)   : kI l yX7_reckonChains (Cond.code yX7_reckonChains cX7_reckonChains 5 (some .int) :: kG) (rmD 2 0 0) D (tysK K) [.ref (r 1)] (xW K r f a g) (fun v (_ : Unit) => v = 0) (fun _ => xW K r f a g) 0 0 := by
  refine kI.of (cc := cX7_reckonChains) (maxL := 5) (ret := (some .int)) (by decide) rfl (Nat.le_of_ble_eq_true rfl) ?_
  intro p e s m below meth c A hx hb hr hml hown hts hlocks hnm hK hP hD hS hA ls hl
  have hg : ∀ w ∈ kG, w.before _ s = true := fun w h => hts w (List.mem_cons_of_mem _ h)
  have hown : s.vm.findClass RX7 = some m.cls := hown
  have hl : lv_has ls 5 [(0, .ref (r 1))] := hl
  refine lv_iconst (v := 0) hx hb dX7_reckonChains_0 (by decide) ?_
  refine lv_istore_n (lv' := [(1, .int 0), (0, .ref (r 1))]) hx hb dX7_reckonChains_1 rfl hl (by decide) rfl (fun ls hl => ?_)
  refine lv_aload_n hx hb dX7_reckonChains_2 rfl (lv_at hl 1 rfl) ?_
  refine va_get (D := D) (ci := 7) (v := .int (f 32)) (C := RX7) (T := TX7) (N := 20) hx hb hg inC7 hown hK hP 1 rfl rfl 0 (by decide) (hg _ wt1_79) (fun _ h9 => h9) rfl dX7_reckonChains_3 ?_
  refine k_top (z := 0) h0 ?_
  refine lv_bipush (v := 10) hx hb dX7_reckonChains_6 (by decide) ?_
  refine va_mmin hx hb (hml.trans hl.1.symm) hown (hg _ wt3_51) (hg _ wt3_52) (hg _ wt1_9) (hg _ wt3_53) (by decide) (Nat.le_of_ble_eq_true rfl) (by decide) (by decide) dX7_reckonChains_8 ?_
  refine k_top (z := 0) (by decide +kernel) ?_
  refine lv_iconst (v := 1) hx hb dX7_reckonChains_11 (by decide) ?_
  refine lv_isub hx hb dX7_reckonChains_12 ?_
  refine k_top (z := (-1)) (by decide +kernel) ?_
  refine lv_istore_n (lv' := [(2, .int (-1)), (1, .int 0), (0, .ref (r 1))]) hx hb dX7_reckonChains_13 rfl hl (by decide) rfl (fun ls hl => ?_)
  refine lv_iload_n hx hb dX7_reckonChains_14 rfl (lv_at hl 0 rfl) ?_
  refine lv_if_lt (tgt := 134) hx hb dX7_reckonChains_15 (by decide) (fun c1 => ?_) (fun c1 => absurd (by decide +kernel) c1)
  refine lv_iload_n hx hb dX7_reckonChains_134 rfl (lv_at hl 1 rfl) ?_
  exact kI_ret (v := 0) hx hb hr hlocks rfl hK hS dX7_reckonChains_135 () hP hD rfl
set_option maxHeartbeats 4000000 in
set_option maxRecDepth 100000 in
theorem x_hasBuilder_paper (l : Launch) {D : va_G} {K : Nat → ClassId} (r : Nat → Nat) (f : Nat → Int32) (a : Nat → Nat → Int32) (g : xG) (h0 : f 1894 = 0) (x : Int32)  : kI l yX7_hasBuilder (Cond.code yX7_hasBuilder cX7_hasBuilder 2 (some .boolean) :: kG) (rmD 1 0 0) D (tysK K) [.ref (r 59), .int x] (xW K r f a g) (fun v (_ : Unit) => v = 0) (fun _ => xW K r f a g) 0 0 := by
  refine kI.of (cc := cX7_hasBuilder) (maxL := 2) (ret := (some .boolean)) (by decide) rfl (Nat.le_of_ble_eq_true rfl) ?_
  intro p e s m below meth c A hx hb hr hml hown hts hlocks hnm hK hP hD hS hA ls hl
  have hg : ∀ w ∈ kG, w.before _ s = true := fun w h => hts w (List.mem_cons_of_mem _ h)
  have hown : s.vm.findClass RX7 = some m.cls := hown
  have hl : lv_has ls 2 [(0, .ref (r 59)), (1, .int x)] := hl
  refine lv_iload_n hx hb dX7_hasBuilder_0 rfl (lv_at hl 1 rfl) ?_
  refine lv_if_lt (tgt := 22) hx hb dX7_hasBuilder_1 (by decide) (fun c1 => ?_) (fun c1 => ?_)
  · refine lv_iconst (v := 0) hx hb dX7_hasBuilder_22 (by decide) ?_
    exact kI_ret (v := 0) hx hb hr hlocks (by decide +kernel) hK hS dX7_hasBuilder_23 () hP hD rfl
  · refine lv_iload_n hx hb dX7_hasBuilder_4 rfl (lv_at hl 1 rfl) ?_
    refine lv_aload_n hx hb dX7_hasBuilder_5 rfl (lv_at hl 0 rfl) ?_
    refine va_get (D := D) (ci := 7) (v := .int (f 1894)) (C := RX7) (T := TX7) (N := 20) hx hb hg inC7 hown hK hP 59 rfl rfl 6 (by decide) (hg _ wt1_104) (fun _ h9 => h9) rfl dX7_hasBuilder_6 ?_
    refine k_top (z := 0) h0 ?_
    refine lv_icmp_ge (tgt := 22) hx hb dX7_hasBuilder_9 (by decide) (fun c2 => ?_) (fun c2 => absurd (Int32.not_lt.mp c1) c2)
    refine lv_iconst (v := 0) hx hb dX7_hasBuilder_22 (by decide) ?_
    exact kI_ret (v := 0) hx hb hr hlocks (by decide +kernel) hK hS dX7_hasBuilder_23 () hP hD rfl
set_option maxHeartbeats 4000000 in
set_option maxRecDepth 100000 in
theorem x_upMask_paper (l : Launch) {D : va_G} {K : Nat → ClassId} (r : Nat → Nat) (f : Nat → Int32) (a : Nat → Nat → Int32) (g : xG) (h0 : f 1888 = 0)   : kI l yX7_upMask (Cond.code yX7_upMask cX7_upMask 3 (some .int) :: kG) (rmD 1 0 0) D (tysK K) [.ref (r 59)] (xW K r f a g) (fun v (_ : Unit) => v = 0) (fun _ => xW K r f a g) 0 0 := by
  refine kI.of (cc := cX7_upMask) (maxL := 3) (ret := (some .int)) (by decide) rfl (Nat.le_of_ble_eq_true rfl) ?_
  intro p e s m below meth c A hx hb hr hml hown hts hlocks hnm hK hP hD hS hA ls hl
  have hg : ∀ w ∈ kG, w.before _ s = true := fun w h => hts w (List.mem_cons_of_mem _ h)
  have hown : s.vm.findClass RX7 = some m.cls := hown
  have hl : lv_has ls 3 [(0, .ref (r 59))] := hl
  refine lv_iconst (v := 0) hx hb dX7_upMask_0 (by decide) ?_
  refine lv_istore_n (lv' := [(1, .int 0), (0, .ref (r 59))]) hx hb dX7_upMask_1 rfl hl (by decide) rfl (fun ls hl => ?_)
  refine lv_iconst (v := 0) hx hb dX7_upMask_2 (by decide) ?_
  refine lv_istore_n (lv' := [(2, .int 0), (1, .int 0), (0, .ref (r 59))]) hx hb dX7_upMask_3 rfl hl (by decide) rfl (fun ls hl => ?_)
  refine lv_iload_n hx hb dX7_upMask_4 rfl (lv_at hl 0 rfl) ?_
  refine lv_aload_n hx hb dX7_upMask_5 rfl (lv_at hl 2 rfl) ?_
  refine va_get (D := D) (ci := 7) (v := .int (f 1888)) (C := RX7) (T := TX7) (N := 20) hx hb hg inC7 hown hK hP 59 rfl rfl 0 (by decide) (hg _ wt1_79) (fun _ h9 => h9) rfl dX7_upMask_6 ?_
  refine k_top (z := 0) h0 ?_
  refine lv_icmp_ge (tgt := 39) hx hb dX7_upMask_9 (by decide) (fun c1 => ?_) (fun c1 => absurd (by decide +kernel) c1)
  refine lv_iload_n hx hb dX7_upMask_39 rfl (lv_at hl 1 rfl) ?_
  exact kI_ret (v := 0) hx hb hr hlocks rfl hK hS dX7_upMask_40 () hP hD rfl
set_option maxHeartbeats 4000000 in
set_option maxRecDepth 100000 in
theorem x_agree (l : Launch) {D : va_G} {K : Nat → ClassId} (r : Nat → Nat) (f : Nat → Int32) (a : Nat → Nat → Int32) (g : xG)  (x : Int32)  : kI l yX11_agree (Cond.code yX11_agree cX11_agree 2 (some .int) :: kG) (rmD 1 0 0) D (tysK K) [.ref (r 0), .int x] (xW K r f a g) (fun v (u : xS) => v = x) (fun u => xW K r u.1 u.2.1 u.2.2) 0 0 := by
  refine kI.of (cc := cX11_agree) (maxL := 2) (ret := (some .int)) (by decide) rfl (Nat.le_of_ble_eq_true rfl) ?_
  intro p e s m below meth c A hx hb hr hml hown hts hlocks hnm hK hP hD hS hA ls hl
  have hg : ∀ w ∈ kG, w.before _ s = true := fun w h => hts w (List.mem_cons_of_mem _ h)
  have hown : s.vm.findClass RX11 = some m.cls := hown
  have hl : lv_has ls 2 [(0, .ref (r 0)), (1, .int x)] := hl
  refine lv_aload_n hx hb dX11_agree_0 rfl (lv_at hl 0 rfl) ?_
  refine lv_iconst (v := 0) hx hb dX11_agree_1 (by decide) ?_
  refine va_put (D := D) (ci := 11) (v := .int 0) (ty := .int) (C := RX11) (T := TX11) (N := 17) hx hb hg inC11 tyX11 tyX11_ok nmX11 hown hK hP hD hS 0 rfl rfl 16 (by decide) (hg _ wt2_202) (fun _ h9 => h9) rfl (by decide +kernel) rfl rfl (Nat.le_of_ble_eq_true rfl) dX11_agree_2 (fun H locs hP hD hS => ?_)
  have hP : va_P D vwCl (xW K r (upd f 16 0) a g) H := hP
  have hD : va_D A (xW K r (upd f 16 0) a g) := hD
  generalize ef_1 : upd f 16 0 = f_1 at hP hD
  refine lv_iload_n hx hb dX11_agree_5 rfl (lv_at hl 1 rfl) ?_
  exact kI_ret (v := x) hx hb hr hlocks rfl hK hS dX11_agree_6 (f_1, a, g) hP hD rfl
set_option maxHeartbeats 4000000 in
set_option maxRecDepth 100000 in
theorem x_studyClear (l : Launch) {D : va_G} {K : Nat → ClassId} (r : Nat → Nat) (f : Nat → Int32) (a : Nat → Nat → Int32) (g : xG)    : kV l yX9_clear (Cond.code yX9_clear cX9_clear 1 none :: kG) (rmD 1 0 0) D (tysK K) [.ref (r 80)] (xW K r f a g) (fun (u : xS) => True) (fun u => xW K r u.1 u.2.1 u.2.2) 0 0 := by
  refine kV.of (cc := cX9_clear) (maxL := 1) (ret := none) (by decide) rfl (Nat.le_of_ble_eq_true rfl) ?_
  intro p e s m below meth c A hx hb hr hml hown hts hlocks hnm hK hP hD hS hA ls hl
  have hg : ∀ w ∈ kG, w.before _ s = true := fun w h => hts w (List.mem_cons_of_mem _ h)
  have hown : s.vm.findClass RX9 = some m.cls := hown
  have hl : lv_has ls 1 [(0, .ref (r 80))] := hl
  refine lv_aload_n hx hb dX9_clear_0 rfl (lv_at hl 0 rfl) ?_
  refine va_get (D := D) (ci := 9) (v := .ref (r 81)) (C := RX9) (T := TX9) (N := 10) hx hb hg inC9 hown hK hP 80 rfl rfl 2 (by decide) (hg _ wt2_117) (fun _ h9 => h9) rfl dX9_clear_1 ?_
  refine lv_iconst (v := 0) hx hb dX9_clear_4 (by decide) ?_
  refine lv_bipush (v := (-2)) hx hb dX9_clear_5 (by decide) ?_
  refine va_iast hx hb hK hP hD hS 81 0 rfl rfl (k_in (by decide +kernel)) dX9_clear_7 (fun H locs hP hD hS => ?_)
  rw [cl_0] at hP hD
  have hP : va_P D vwCl (xW K r f (va_up a 81 (upd (a 81) 0 (-2))) g) H := hP
  have hD : va_D A (xW K r f (va_up a 81 (upd (a 81) 0 (-2))) g) := hD
  generalize ea_1 : va_up a 81 (upd (a 81) 0 (-2)) = a_1 at hP hD
  refine lv_aload_n hx hb dX9_clear_8 rfl (lv_at hl 0 rfl) ?_
  refine lv_iconst (v := 0) hx hb dX9_clear_9 (by decide) ?_
  refine va_put (D := D) (ci := 9) (v := .int 0) (ty := .int) (C := RX9) (T := TX9) (N := 10) hx hb hg inC9 tyX9 tyX9_ok nmX9 hown hK hP hD hS 80 rfl rfl 5 (by decide) (hg _ wt2_120) (fun _ h9 => h9) rfl (by decide +kernel) rfl rfl (Nat.le_of_ble_eq_true rfl) dX9_clear_10 (fun H locs hP hD hS => ?_)
  have hP : va_P D vwCl (xW K r (upd f 2565 0) a_1 g) H := hP
  have hD : va_D A (xW K r (upd f 2565 0) a_1 g) := hD
  generalize ef_2 : upd f 2565 0 = f_2 at hP hD
  refine lv_aload_n hx hb dX9_clear_13 rfl (lv_at hl 0 rfl) ?_
  refine lv_iconst (v := 0) hx hb dX9_clear_14 (by decide) ?_
  refine va_put (D := D) (ci := 9) (v := .int 0) (ty := .boolean) (C := RX9) (T := TX9) (N := 10) hx hb hg inC9 tyX9 tyX9_ok nmX9 hown hK hP hD hS 80 rfl rfl 6 (by decide) (hg _ wt2_121) (fun _ h9 => h9) rfl (by decide +kernel) rfl rfl (Nat.le_of_ble_eq_true rfl) dX9_clear_15 (fun H locs hP hD hS => ?_)
  have hP : va_P D vwCl (xW K r (upd f_2 2566 0) a_1 g) H := hP
  have hD : va_D A (xW K r (upd f_2 2566 0) a_1 g) := hD
  generalize ef_3 : upd f_2 2566 0 = f_3 at hP hD
  exact kV_ret hx hb hr hlocks hK hS dX9_clear_18 (f_3, a_1, g) hP hD trivial
set_option maxHeartbeats 4000000 in
set_option maxRecDepth 100000 in
theorem x_seqClear (l : Launch) {D : va_G} {K : Nat → ClassId} (r : Nat → Nat) (f : Nat → Int32) (a : Nat → Nat → Int32) (g : xG)    : kV l yX6_clear (Cond.code yX6_clear cX6_clear 1 none :: kG) (rmD 1 0 0) D (tysK K) [.ref (r 87)] (xW K r f a g) (fun (u : xS) => True) (fun u => xW K r u.1 u.2.1 u.2.2) 0 0 := by
  refine kV.of (cc := cX6_clear) (maxL := 1) (ret := none) (by decide) rfl (Nat.le_of_ble_eq_true rfl) ?_
  intro p e s m below meth c A hx hb hr hml hown hts hlocks hnm hK hP hD hS hA ls hl
  have hg : ∀ w ∈ kG, w.before _ s = true := fun w h => hts w (List.mem_cons_of_mem _ h)
  have hown : s.vm.findClass RX6 = some m.cls := hown
  have hl : lv_has ls 1 [(0, .ref (r 87))] := hl
  refine lv_aload_n hx hb dX6_clear_0 rfl (lv_at hl 0 rfl) ?_
  refine lv_iconst (v := 0) hx hb dX6_clear_1 (by decide) ?_
  refine va_put (D := D) (ci := 6) (v := .int 0) (ty := .boolean) (C := RX6) (T := TX6) (N := 3) hx hb hg inC6 tyX6 tyX6_ok nmX6 hown hK hP hD hS 87 rfl rfl 2 (by decide) (hg _ wt2_155) (fun _ h9 => h9) rfl (by decide +kernel) rfl rfl (Nat.le_of_ble_eq_true rfl) dX6_clear_2 (fun H locs hP hD hS => ?_)
  have hP : va_P D vwCl (xW K r (upd f 2786 0) a g) H := hP
  have hD : va_D A (xW K r (upd f 2786 0) a g) := hD
  generalize ef_1 : upd f 2786 0 = f_1 at hP hD
  exact kV_ret hx hb hr hlocks hK hS dX6_clear_5 (f_1, a, g) hP hD trivial
set_option maxHeartbeats 4000000 in
set_option maxRecDepth 100000 in
theorem x_pastClear (l : Launch) {D : va_G} {K : Nat → ClassId} (r : Nat → Nat) (f : Nat → Int32) (a : Nat → Nat → Int32) (g : xG)    : kV l yX2_clear (Cond.code yX2_clear cX2_clear 1 none :: kG) (rmD 1 0 0) D (tysK K) [.ref (r 22)] (xW K r f a g) (fun (u : xS) => True) (fun u => xW K r u.1 u.2.1 u.2.2) 0 0 := by
  refine kV.of (cc := cX2_clear) (maxL := 1) (ret := none) (by decide) rfl (Nat.le_of_ble_eq_true rfl) ?_
  intro p e s m below meth c A hx hb hr hml hown hts hlocks hnm hK hP hD hS hA ls hl
  have hg : ∀ w ∈ kG, w.before _ s = true := fun w h => hts w (List.mem_cons_of_mem _ h)
  have hown : s.vm.findClass RX2 = some m.cls := hown
  have hl : lv_has ls 1 [(0, .ref (r 22))] := hl
  refine lv_aload_n hx hb dX2_clear_0 rfl (lv_at hl 0 rfl) ?_
  refine lv_iconst (v := 0) hx hb dX2_clear_1 (by decide) ?_
  refine va_put (D := D) (ci := 2) (v := .int 0) (ty := .int) (C := RX2) (T := TX2) (N := 3) hx hb hg inC2 tyX2 tyX2_ok nmX2 hown hK hP hD hS 22 rfl rfl 0 (by decide) (hg _ wt1_205) (fun _ h9 => h9) rfl (by decide +kernel) rfl rfl (Nat.le_of_ble_eq_true rfl) dX2_clear_2 (fun H locs hP hD hS => ?_)
  have hP : va_P D vwCl (xW K r (upd f 704 0) a g) H := hP
  have hD : va_D A (xW K r (upd f 704 0) a g) := hD
  generalize ef_1 : upd f 704 0 = f_1 at hP hD
  refine lv_aload_n hx hb dX2_clear_5 rfl (lv_at hl 0 rfl) ?_
  refine lv_iconst (v := 0) hx hb dX2_clear_6 (by decide) ?_
  refine va_put (D := D) (ci := 2) (v := .int 0) (ty := .int) (C := RX2) (T := TX2) (N := 3) hx hb hg inC2 tyX2 tyX2_ok nmX2 hown hK hP hD hS 22 rfl rfl 1 (by decide) (hg _ wt1_207) (fun _ h9 => h9) rfl (by decide +kernel) rfl rfl (Nat.le_of_ble_eq_true rfl) dX2_clear_7 (fun H locs hP hD hS => ?_)
  have hP : va_P D vwCl (xW K r (upd f_1 705 0) a g) H := hP
  have hD : va_D A (xW K r (upd f_1 705 0) a g) := hD
  generalize ef_2 : upd f_1 705 0 = f_2 at hP hD
  exact kV_ret hx hb hr hlocks hK hS dX2_clear_10 (f_2, a, g) hP hD trivial
set_option maxHeartbeats 4000000 in
set_option maxRecDepth 100000 in
theorem x_agreeChanged (l : Launch) {D : va_G} {K : Nat → ClassId} (r : Nat → Nat) (f : Nat → Int32) (a : Nat → Nat → Int32) (g : xG)  (x : Int32)  : kI l yX11_agreeChanged (Cond.code yX11_agreeChanged cX11_agreeChanged 2 (some .int) :: kG) (rmD 2 0 0) D (tysK K) [.ref (r 0), .int x] (xW K r f a g) (fun v (u : xS) => v = x) (fun u => xW K r u.1 u.2.1 u.2.2) 0 0 := by
  refine kI.of (cc := cX11_agreeChanged) (maxL := 2) (ret := (some .int)) (by decide) rfl (Nat.le_of_ble_eq_true rfl) ?_
  intro p e s m below meth c A hx hb hr hml hown hts hlocks hnm hK hP hD hS hA ls hl
  have hg : ∀ w ∈ kG, w.before _ s = true := fun w h => hts w (List.mem_cons_of_mem _ h)
  have hown : s.vm.findClass RX11 = some m.cls := hown
  have hl : lv_has ls 2 [(0, .ref (r 0)), (1, .int x)] := hl
  refine lv_aload_n hx hb dX11_agreeChanged_0 rfl (lv_at hl 0 rfl) ?_
  refine va_get (D := D) (ci := 11) (v := .ref (r 80)) (C := RX11) (T := TX11) (N := 17) hx hb hg inC11 hown hK hP 0 rfl rfl 6 (by decide) (hg _ wt2_192) (fun _ h9 => h9) rfl dX11_agreeChanged_1 ?_
  refine kV.callW (As := []) (rest := []) ⟨hx, hb, hml, hown, hg⟩ (x_studyClear l r f a g  ) (cwV 0 hg (kgV wt3_19 wt3_20 wt3_21 wt1_11 wt3_22) rfl rfl rfl (by decide +kernel) ⟨by decide, by decide⟩) hK hP hD hS hA 80 9 rfl rfl rfl hl.1 rfl (Nat.le_of_ble_eq_true rfl) dX11_agreeChanged_4 ⟨by decide, by decide⟩ (fun u2 H locs hw1 hP hD hS => ?_)
  obtain ⟨f4, a5, g6⟩ := u2
  have hP : va_P D vwCl (xW K r f4 a5 g6) H := hP
  have hD : va_D A (xW K r f4 a5 g6) := hD
  refine lv_aload_n hx hb dX11_agreeChanged_7 rfl (lv_at hl 0 rfl) ?_
  refine va_get (D := D) (ci := 11) (v := .ref (r 87)) (C := RX11) (T := TX11) (N := 17) hx hb hg inC11 hown hK hP 0 rfl rfl 7 (by decide) (hg _ wt2_193) (fun _ h9 => h9) rfl dX11_agreeChanged_8 ?_
  refine kV.callW (As := []) (rest := []) ⟨hx, hb, hml, hown, hg⟩ (x_seqClear l r f4 a5 g6  ) (cwV 0 hg (kgV wt3_23 wt3_24 wt3_25 wt1_12 wt3_26) rfl rfl rfl (by decide +kernel) ⟨by decide, by decide⟩) hK hP hD hS hA 87 6 rfl rfl rfl hl.1 rfl (Nat.le_of_ble_eq_true rfl) dX11_agreeChanged_11 ⟨by decide, by decide⟩ (fun u8 H locs hw7 hP hD hS => ?_)
  obtain ⟨f10, a11, g12⟩ := u8
  have hP : va_P D vwCl (xW K r f10 a11 g12) H := hP
  have hD : va_D A (xW K r f10 a11 g12) := hD
  refine lv_aload_n hx hb dX11_agreeChanged_14 rfl (lv_at hl 0 rfl) ?_
  refine lv_iload_n hx hb dX11_agreeChanged_15 rfl (lv_at hl 1 rfl) ?_
  refine kI.callW (As := [.int x]) (rest := []) ⟨hx, hb, hml, hown, hg⟩ (x_agree l r f10 a11 g12  x) (cwV 1 hg (kgV wt3_27 wt3_29 wp1_2 wt1_1 wt3_30) rfl rfl rfl (by decide +kernel) ⟨by decide, by decide⟩) hK hP hD hS hA 0 11 rfl rfl rfl hl.1 rfl (Nat.le_of_ble_eq_true rfl) dX11_agreeChanged_16 ⟨by decide, by decide⟩ (fun v15 u14 H locs hw13 hP hD hS => ?_)
  obtain ⟨f16, a17, g18⟩ := u14
  have hP : va_P D vwCl (xW K r f16 a17 g18) H := hP
  have hD : va_D A (xW K r f16 a17 g18) := hD
  refine k_top (z := x) hw13 ?_
  exact kI_ret (v := x) hx hb hr hlocks rfl hK hS dX11_agreeChanged_19 (f16, a17, g18) hP hD rfl
set_option maxHeartbeats 4000000 in
set_option maxRecDepth 100000 in
theorem x_refuse1 (l : Launch) {D : va_G} {K : Nat → ClassId} (r : Nat → Nat) (f : Nat → Int32) (a : Nat → Nat → Int32) (g : xG)    : kI l yX11_refuse (Cond.code yX11_refuse cX11_refuse 3 (some .int) :: kG) (rmD 1 0 0) D (tysK K) [.ref (r 0), .int (-1)] (xW K r f a g) (fun v (u : xS) => v = (-1)) (fun u => xW K r u.1 u.2.1 u.2.2) 0 0 := by
  refine kI.of (cc := cX11_refuse) (maxL := 3) (ret := (some .int)) (by decide) rfl (Nat.le_of_ble_eq_true rfl) ?_
  intro p e s m below meth c A hx hb hr hml hown hts hlocks hnm hK hP hD hS hA ls hl
  have hg : ∀ w ∈ kG, w.before _ s = true := fun w h => hts w (List.mem_cons_of_mem _ h)
  have hown : s.vm.findClass RX11 = some m.cls := hown
  have hl : lv_has ls 3 [(0, .ref (r 0)), (1, .int (-1))] := hl
  refine lv_iload_n hx hb dX11_refuse_0 rfl (lv_at hl 1 rfl) ?_
  refine lv_bipush (v := (-5)) hx hb dX11_refuse_1 (by decide) ?_
  refine lv_icmp_ne (tgt := 10) hx hb dX11_refuse_3 (by decide) (fun c1 => ?_) (fun c1 => absurd c1 (by decide +kernel))
  refine lv_iload_n hx hb dX11_refuse_10 rfl (lv_at hl 1 rfl) ?_
  refine lv_bipush (v := (-6)) hx hb dX11_refuse_11 (by decide) ?_
  refine lv_icmp_ne (tgt := 20) hx hb dX11_refuse_13 (by decide) (fun c2 => ?_) (fun c2 => absurd c2 (by decide +kernel))
  refine lv_iload_n hx hb dX11_refuse_20 rfl (lv_at hl 1 rfl) ?_
  refine lv_ineg hx hb dX11_refuse_21 ?_
  refine k_top (z := 1) (by decide +kernel) ?_
  refine lv_iconst (v := 1) hx hb dX11_refuse_22 (by decide) ?_
  refine lv_isub hx hb dX11_refuse_23 ?_
  refine k_top (z := 0) (by decide +kernel) ?_
  refine lv_istore_n (lv' := [(2, .int 0), (0, .ref (r 0)), (1, .int (-1))]) hx hb dX11_refuse_24 rfl hl (by decide) rfl (fun ls hl => ?_)
  refine lv_iload_n hx hb dX11_refuse_25 rfl (lv_at hl 0 rfl) ?_
  refine lv_if_lt (tgt := 48) hx hb dX11_refuse_26 (by decide) (fun c3 => absurd c3 (by decide +kernel)) (fun c3 => ?_)
  refine lv_iload_n hx hb dX11_refuse_29 rfl (lv_at hl 0 rfl) ?_
  refine lv_aload_n hx hb dX11_refuse_30 rfl (lv_at hl 1 rfl) ?_
  refine va_get (D := D) (ci := 11) (v := .ref (r 94)) (C := RX11) (T := TX11) (N := 17) hx hb hg inC11 hown hK hP 0 rfl rfl 11 (by decide) (hg _ wt2_197) (fun _ h9 => h9) rfl dX11_refuse_31 ?_
  refine va_alen (v := 5) hx hb hK hP 94 0 rfl rfl rfl dX11_refuse_34 ?_
  refine lv_icmp_ge (tgt := 48) hx hb dX11_refuse_35 (by decide) (fun c4 => absurd c4 (by decide +kernel)) (fun c4 => ?_)
  refine lv_aload_n hx hb dX11_refuse_38 rfl (lv_at hl 1 rfl) ?_
  refine va_get (D := D) (ci := 11) (v := .ref (r 94)) (C := RX11) (T := TX11) (N := 17) hx hb hg inC11 hown hK hP 0 rfl rfl 11 (by decide) (hg _ wt2_197) (fun _ h9 => h9) rfl dX11_refuse_39 ?_
  refine lv_iload_n hx hb dX11_refuse_42 rfl (lv_at hl 0 rfl) ?_
  refine lv_dup2_11 hx hb dX11_refuse_43 rfl rfl ?_
  refine va_iald hx hb hK hP 94 0 rfl rfl (k_in (by decide +kernel)) dX11_refuse_44 ?_
  refine lv_topi (fun t5 et5 => ?_)
  rw [cl_0] at et5
  refine lv_iconst (v := 1) hx hb dX11_refuse_45 (by decide) ?_
  refine lv_iadd hx hb dX11_refuse_46 ?_
  refine lv_topi (fun t6 et6 => ?_)
  refine va_iast hx hb hK hP hD hS 94 0 rfl rfl (k_in (by decide +kernel)) dX11_refuse_47 (fun H locs hP hD hS => ?_)
  rw [cl_0] at hP hD
  have hP : va_P D vwCl (xW K r f (va_up a 94 (upd (a 94) 0 t6)) g) H := hP
  have hD : va_D A (xW K r f (va_up a 94 (upd (a 94) 0 t6)) g) := hD
  generalize ea_7 : va_up a 94 (upd (a 94) 0 t6) = a_7 at hP hD
  refine lv_aload_n hx hb dX11_refuse_48 rfl (lv_at hl 1 rfl) ?_
  refine lv_iload_n hx hb dX11_refuse_49 rfl (lv_at hl 2 rfl) ?_
  refine va_put (D := D) (ci := 11) (v := .int (-1)) (ty := .int) (C := RX11) (T := TX11) (N := 17) hx hb hg inC11 tyX11 tyX11_ok nmX11 hown hK hP hD hS 0 rfl rfl 16 (by decide) (hg _ wt2_202) (fun _ h9 => h9) rfl (by decide +kernel) rfl rfl (Nat.le_of_ble_eq_true rfl) dX11_refuse_50 (fun H locs hP hD hS => ?_)
  have hP : va_P D vwCl (xW K r (upd f 16 (-1)) a_7 g) H := hP
  have hD : va_D A (xW K r (upd f 16 (-1)) a_7 g) := hD
  generalize ef_8 : upd f 16 (-1) = f_8 at hP hD
  refine lv_iload_n hx hb dX11_refuse_53 rfl (lv_at hl 2 rfl) ?_
  exact kI_ret (v := (-1)) hx hb hr hlocks rfl hK hS dX11_refuse_54 (f_8, a_7, g) hP hD rfl
set_option maxHeartbeats 4000000 in
set_option maxRecDepth 100000 in
theorem x_refuse2 (l : Launch) {D : va_G} {K : Nat → ClassId} (r : Nat → Nat) (f : Nat → Int32) (a : Nat → Nat → Int32) (g : xG)    : kI l yX11_refuse (Cond.code yX11_refuse cX11_refuse 3 (some .int) :: kG) (rmD 1 0 0) D (tysK K) [.ref (r 0), .int (-2)] (xW K r f a g) (fun v (u : xS) => v = (-2)) (fun u => xW K r u.1 u.2.1 u.2.2) 0 0 := by
  refine kI.of (cc := cX11_refuse) (maxL := 3) (ret := (some .int)) (by decide) rfl (Nat.le_of_ble_eq_true rfl) ?_
  intro p e s m below meth c A hx hb hr hml hown hts hlocks hnm hK hP hD hS hA ls hl
  have hg : ∀ w ∈ kG, w.before _ s = true := fun w h => hts w (List.mem_cons_of_mem _ h)
  have hown : s.vm.findClass RX11 = some m.cls := hown
  have hl : lv_has ls 3 [(0, .ref (r 0)), (1, .int (-2))] := hl
  refine lv_iload_n hx hb dX11_refuse_0 rfl (lv_at hl 1 rfl) ?_
  refine lv_bipush (v := (-5)) hx hb dX11_refuse_1 (by decide) ?_
  refine lv_icmp_ne (tgt := 10) hx hb dX11_refuse_3 (by decide) (fun c1 => ?_) (fun c1 => absurd c1 (by decide +kernel))
  refine lv_iload_n hx hb dX11_refuse_10 rfl (lv_at hl 1 rfl) ?_
  refine lv_bipush (v := (-6)) hx hb dX11_refuse_11 (by decide) ?_
  refine lv_icmp_ne (tgt := 20) hx hb dX11_refuse_13 (by decide) (fun c2 => ?_) (fun c2 => absurd c2 (by decide +kernel))
  refine lv_iload_n hx hb dX11_refuse_20 rfl (lv_at hl 1 rfl) ?_
  refine lv_ineg hx hb dX11_refuse_21 ?_
  refine k_top (z := 2) (by decide +kernel) ?_
  refine lv_iconst (v := 1) hx hb dX11_refuse_22 (by decide) ?_
  refine lv_isub hx hb dX11_refuse_23 ?_
  refine k_top (z := 1) (by decide +kernel) ?_
  refine lv_istore_n (lv' := [(2, .int 1), (0, .ref (r 0)), (1, .int (-2))]) hx hb dX11_refuse_24 rfl hl (by decide) rfl (fun ls hl => ?_)
  refine lv_iload_n hx hb dX11_refuse_25 rfl (lv_at hl 0 rfl) ?_
  refine lv_if_lt (tgt := 48) hx hb dX11_refuse_26 (by decide) (fun c3 => absurd c3 (by decide +kernel)) (fun c3 => ?_)
  refine lv_iload_n hx hb dX11_refuse_29 rfl (lv_at hl 0 rfl) ?_
  refine lv_aload_n hx hb dX11_refuse_30 rfl (lv_at hl 1 rfl) ?_
  refine va_get (D := D) (ci := 11) (v := .ref (r 94)) (C := RX11) (T := TX11) (N := 17) hx hb hg inC11 hown hK hP 0 rfl rfl 11 (by decide) (hg _ wt2_197) (fun _ h9 => h9) rfl dX11_refuse_31 ?_
  refine va_alen (v := 5) hx hb hK hP 94 0 rfl rfl rfl dX11_refuse_34 ?_
  refine lv_icmp_ge (tgt := 48) hx hb dX11_refuse_35 (by decide) (fun c4 => absurd c4 (by decide +kernel)) (fun c4 => ?_)
  refine lv_aload_n hx hb dX11_refuse_38 rfl (lv_at hl 1 rfl) ?_
  refine va_get (D := D) (ci := 11) (v := .ref (r 94)) (C := RX11) (T := TX11) (N := 17) hx hb hg inC11 hown hK hP 0 rfl rfl 11 (by decide) (hg _ wt2_197) (fun _ h9 => h9) rfl dX11_refuse_39 ?_
  refine lv_iload_n hx hb dX11_refuse_42 rfl (lv_at hl 0 rfl) ?_
  refine lv_dup2_11 hx hb dX11_refuse_43 rfl rfl ?_
  refine va_iald hx hb hK hP 94 0 rfl rfl (k_in (by decide +kernel)) dX11_refuse_44 ?_
  refine lv_topi (fun t5 et5 => ?_)
  rw [cl_1] at et5
  refine lv_iconst (v := 1) hx hb dX11_refuse_45 (by decide) ?_
  refine lv_iadd hx hb dX11_refuse_46 ?_
  refine lv_topi (fun t6 et6 => ?_)
  refine va_iast hx hb hK hP hD hS 94 0 rfl rfl (k_in (by decide +kernel)) dX11_refuse_47 (fun H locs hP hD hS => ?_)
  rw [cl_1] at hP hD
  have hP : va_P D vwCl (xW K r f (va_up a 94 (upd (a 94) 1 t6)) g) H := hP
  have hD : va_D A (xW K r f (va_up a 94 (upd (a 94) 1 t6)) g) := hD
  generalize ea_7 : va_up a 94 (upd (a 94) 1 t6) = a_7 at hP hD
  refine lv_aload_n hx hb dX11_refuse_48 rfl (lv_at hl 1 rfl) ?_
  refine lv_iload_n hx hb dX11_refuse_49 rfl (lv_at hl 2 rfl) ?_
  refine va_put (D := D) (ci := 11) (v := .int (-2)) (ty := .int) (C := RX11) (T := TX11) (N := 17) hx hb hg inC11 tyX11 tyX11_ok nmX11 hown hK hP hD hS 0 rfl rfl 16 (by decide) (hg _ wt2_202) (fun _ h9 => h9) rfl (by decide +kernel) rfl rfl (Nat.le_of_ble_eq_true rfl) dX11_refuse_50 (fun H locs hP hD hS => ?_)
  have hP : va_P D vwCl (xW K r (upd f 16 (-2)) a_7 g) H := hP
  have hD : va_D A (xW K r (upd f 16 (-2)) a_7 g) := hD
  generalize ef_8 : upd f 16 (-2) = f_8 at hP hD
  refine lv_iload_n hx hb dX11_refuse_53 rfl (lv_at hl 2 rfl) ?_
  exact kI_ret (v := (-2)) hx hb hr hlocks rfl hK hS dX11_refuse_54 (f_8, a_7, g) hP hD rfl
set_option maxHeartbeats 4000000 in
set_option maxRecDepth 100000 in
theorem x_refuse3 (l : Launch) {D : va_G} {K : Nat → ClassId} (r : Nat → Nat) (f : Nat → Int32) (a : Nat → Nat → Int32) (g : xG)    : kI l yX11_refuse (Cond.code yX11_refuse cX11_refuse 3 (some .int) :: kG) (rmD 1 0 0) D (tysK K) [.ref (r 0), .int (-3)] (xW K r f a g) (fun v (u : xS) => v = (-3)) (fun u => xW K r u.1 u.2.1 u.2.2) 0 0 := by
  refine kI.of (cc := cX11_refuse) (maxL := 3) (ret := (some .int)) (by decide) rfl (Nat.le_of_ble_eq_true rfl) ?_
  intro p e s m below meth c A hx hb hr hml hown hts hlocks hnm hK hP hD hS hA ls hl
  have hg : ∀ w ∈ kG, w.before _ s = true := fun w h => hts w (List.mem_cons_of_mem _ h)
  have hown : s.vm.findClass RX11 = some m.cls := hown
  have hl : lv_has ls 3 [(0, .ref (r 0)), (1, .int (-3))] := hl
  refine lv_iload_n hx hb dX11_refuse_0 rfl (lv_at hl 1 rfl) ?_
  refine lv_bipush (v := (-5)) hx hb dX11_refuse_1 (by decide) ?_
  refine lv_icmp_ne (tgt := 10) hx hb dX11_refuse_3 (by decide) (fun c1 => ?_) (fun c1 => absurd c1 (by decide +kernel))
  refine lv_iload_n hx hb dX11_refuse_10 rfl (lv_at hl 1 rfl) ?_
  refine lv_bipush (v := (-6)) hx hb dX11_refuse_11 (by decide) ?_
  refine lv_icmp_ne (tgt := 20) hx hb dX11_refuse_13 (by decide) (fun c2 => ?_) (fun c2 => absurd c2 (by decide +kernel))
  refine lv_iload_n hx hb dX11_refuse_20 rfl (lv_at hl 1 rfl) ?_
  refine lv_ineg hx hb dX11_refuse_21 ?_
  refine k_top (z := 3) (by decide +kernel) ?_
  refine lv_iconst (v := 1) hx hb dX11_refuse_22 (by decide) ?_
  refine lv_isub hx hb dX11_refuse_23 ?_
  refine k_top (z := 2) (by decide +kernel) ?_
  refine lv_istore_n (lv' := [(2, .int 2), (0, .ref (r 0)), (1, .int (-3))]) hx hb dX11_refuse_24 rfl hl (by decide) rfl (fun ls hl => ?_)
  refine lv_iload_n hx hb dX11_refuse_25 rfl (lv_at hl 0 rfl) ?_
  refine lv_if_lt (tgt := 48) hx hb dX11_refuse_26 (by decide) (fun c3 => absurd c3 (by decide +kernel)) (fun c3 => ?_)
  refine lv_iload_n hx hb dX11_refuse_29 rfl (lv_at hl 0 rfl) ?_
  refine lv_aload_n hx hb dX11_refuse_30 rfl (lv_at hl 1 rfl) ?_
  refine va_get (D := D) (ci := 11) (v := .ref (r 94)) (C := RX11) (T := TX11) (N := 17) hx hb hg inC11 hown hK hP 0 rfl rfl 11 (by decide) (hg _ wt2_197) (fun _ h9 => h9) rfl dX11_refuse_31 ?_
  refine va_alen (v := 5) hx hb hK hP 94 0 rfl rfl rfl dX11_refuse_34 ?_
  refine lv_icmp_ge (tgt := 48) hx hb dX11_refuse_35 (by decide) (fun c4 => absurd c4 (by decide +kernel)) (fun c4 => ?_)
  refine lv_aload_n hx hb dX11_refuse_38 rfl (lv_at hl 1 rfl) ?_
  refine va_get (D := D) (ci := 11) (v := .ref (r 94)) (C := RX11) (T := TX11) (N := 17) hx hb hg inC11 hown hK hP 0 rfl rfl 11 (by decide) (hg _ wt2_197) (fun _ h9 => h9) rfl dX11_refuse_39 ?_
  refine lv_iload_n hx hb dX11_refuse_42 rfl (lv_at hl 0 rfl) ?_
  refine lv_dup2_11 hx hb dX11_refuse_43 rfl rfl ?_
  refine va_iald hx hb hK hP 94 0 rfl rfl (k_in (by decide +kernel)) dX11_refuse_44 ?_
  refine lv_topi (fun t5 et5 => ?_)
  rw [cl_2] at et5
  refine lv_iconst (v := 1) hx hb dX11_refuse_45 (by decide) ?_
  refine lv_iadd hx hb dX11_refuse_46 ?_
  refine lv_topi (fun t6 et6 => ?_)
  refine va_iast hx hb hK hP hD hS 94 0 rfl rfl (k_in (by decide +kernel)) dX11_refuse_47 (fun H locs hP hD hS => ?_)
  rw [cl_2] at hP hD
  have hP : va_P D vwCl (xW K r f (va_up a 94 (upd (a 94) 2 t6)) g) H := hP
  have hD : va_D A (xW K r f (va_up a 94 (upd (a 94) 2 t6)) g) := hD
  generalize ea_7 : va_up a 94 (upd (a 94) 2 t6) = a_7 at hP hD
  refine lv_aload_n hx hb dX11_refuse_48 rfl (lv_at hl 1 rfl) ?_
  refine lv_iload_n hx hb dX11_refuse_49 rfl (lv_at hl 2 rfl) ?_
  refine va_put (D := D) (ci := 11) (v := .int (-3)) (ty := .int) (C := RX11) (T := TX11) (N := 17) hx hb hg inC11 tyX11 tyX11_ok nmX11 hown hK hP hD hS 0 rfl rfl 16 (by decide) (hg _ wt2_202) (fun _ h9 => h9) rfl (by decide +kernel) rfl rfl (Nat.le_of_ble_eq_true rfl) dX11_refuse_50 (fun H locs hP hD hS => ?_)
  have hP : va_P D vwCl (xW K r (upd f 16 (-3)) a_7 g) H := hP
  have hD : va_D A (xW K r (upd f 16 (-3)) a_7 g) := hD
  generalize ef_8 : upd f 16 (-3) = f_8 at hP hD
  refine lv_iload_n hx hb dX11_refuse_53 rfl (lv_at hl 2 rfl) ?_
  exact kI_ret (v := (-3)) hx hb hr hlocks rfl hK hS dX11_refuse_54 (f_8, a_7, g) hP hD rfl
set_option maxHeartbeats 4000000 in
set_option maxRecDepth 100000 in
theorem x_refuse6 (l : Launch) {D : va_G} {K : Nat → ClassId} (r : Nat → Nat) (f : Nat → Int32) (a : Nat → Nat → Int32) (g : xG)    : kI l yX11_refuse (Cond.code yX11_refuse cX11_refuse 3 (some .int) :: kG) (rmD 1 0 0) D (tysK K) [.ref (r 0), .int (-6)] (xW K r f a g) (fun v (u : xS) => v = (-6)) (fun u => xW K r u.1 u.2.1 u.2.2) 0 0 := by
  refine kI.of (cc := cX11_refuse) (maxL := 3) (ret := (some .int)) (by decide) rfl (Nat.le_of_ble_eq_true rfl) ?_
  intro p e s m below meth c A hx hb hr hml hown hts hlocks hnm hK hP hD hS hA ls hl
  have hg : ∀ w ∈ kG, w.before _ s = true := fun w h => hts w (List.mem_cons_of_mem _ h)
  have hown : s.vm.findClass RX11 = some m.cls := hown
  have hl : lv_has ls 3 [(0, .ref (r 0)), (1, .int (-6))] := hl
  refine lv_iload_n hx hb dX11_refuse_0 rfl (lv_at hl 1 rfl) ?_
  refine lv_bipush (v := (-5)) hx hb dX11_refuse_1 (by decide) ?_
  refine lv_icmp_ne (tgt := 10) hx hb dX11_refuse_3 (by decide) (fun c1 => ?_) (fun c1 => absurd c1 (by decide +kernel))
  refine lv_iload_n hx hb dX11_refuse_10 rfl (lv_at hl 1 rfl) ?_
  refine lv_bipush (v := (-6)) hx hb dX11_refuse_11 (by decide) ?_
  refine lv_icmp_ne (tgt := 20) hx hb dX11_refuse_13 (by decide) (fun c2 => absurd (by decide +kernel) c2) (fun c2 => ?_)
  refine lv_iconst (v := 4) hx hb dX11_refuse_16 (by decide) ?_
  refine lv_goto (tgt := 24) hx hb dX11_refuse_17 (by decide) ?_
  refine lv_istore_n (lv' := [(2, .int 4), (0, .ref (r 0)), (1, .int (-6))]) hx hb dX11_refuse_24 rfl hl (by decide) rfl (fun ls hl => ?_)
  refine lv_iload_n hx hb dX11_refuse_25 rfl (lv_at hl 0 rfl) ?_
  refine lv_if_lt (tgt := 48) hx hb dX11_refuse_26 (by decide) (fun c3 => absurd c3 (by decide +kernel)) (fun c3 => ?_)
  refine lv_iload_n hx hb dX11_refuse_29 rfl (lv_at hl 0 rfl) ?_
  refine lv_aload_n hx hb dX11_refuse_30 rfl (lv_at hl 1 rfl) ?_
  refine va_get (D := D) (ci := 11) (v := .ref (r 94)) (C := RX11) (T := TX11) (N := 17) hx hb hg inC11 hown hK hP 0 rfl rfl 11 (by decide) (hg _ wt2_197) (fun _ h9 => h9) rfl dX11_refuse_31 ?_
  refine va_alen (v := 5) hx hb hK hP 94 0 rfl rfl rfl dX11_refuse_34 ?_
  refine lv_icmp_ge (tgt := 48) hx hb dX11_refuse_35 (by decide) (fun c4 => absurd c4 (by decide +kernel)) (fun c4 => ?_)
  refine lv_aload_n hx hb dX11_refuse_38 rfl (lv_at hl 1 rfl) ?_
  refine va_get (D := D) (ci := 11) (v := .ref (r 94)) (C := RX11) (T := TX11) (N := 17) hx hb hg inC11 hown hK hP 0 rfl rfl 11 (by decide) (hg _ wt2_197) (fun _ h9 => h9) rfl dX11_refuse_39 ?_
  refine lv_iload_n hx hb dX11_refuse_42 rfl (lv_at hl 0 rfl) ?_
  refine lv_dup2_11 hx hb dX11_refuse_43 rfl rfl ?_
  refine va_iald hx hb hK hP 94 0 rfl rfl (k_in (by decide +kernel)) dX11_refuse_44 ?_
  refine lv_topi (fun t5 et5 => ?_)
  rw [cl_4] at et5
  refine lv_iconst (v := 1) hx hb dX11_refuse_45 (by decide) ?_
  refine lv_iadd hx hb dX11_refuse_46 ?_
  refine lv_topi (fun t6 et6 => ?_)
  refine va_iast hx hb hK hP hD hS 94 0 rfl rfl (k_in (by decide +kernel)) dX11_refuse_47 (fun H locs hP hD hS => ?_)
  rw [cl_4] at hP hD
  have hP : va_P D vwCl (xW K r f (va_up a 94 (upd (a 94) 4 t6)) g) H := hP
  have hD : va_D A (xW K r f (va_up a 94 (upd (a 94) 4 t6)) g) := hD
  generalize ea_7 : va_up a 94 (upd (a 94) 4 t6) = a_7 at hP hD
  refine lv_aload_n hx hb dX11_refuse_48 rfl (lv_at hl 1 rfl) ?_
  refine lv_iload_n hx hb dX11_refuse_49 rfl (lv_at hl 2 rfl) ?_
  refine va_put (D := D) (ci := 11) (v := .int (-6)) (ty := .int) (C := RX11) (T := TX11) (N := 17) hx hb hg inC11 tyX11 tyX11_ok nmX11 hown hK hP hD hS 0 rfl rfl 16 (by decide) (hg _ wt2_202) (fun _ h9 => h9) rfl (by decide +kernel) rfl rfl (Nat.le_of_ble_eq_true rfl) dX11_refuse_50 (fun H locs hP hD hS => ?_)
  have hP : va_P D vwCl (xW K r (upd f 16 (-6)) a_7 g) H := hP
  have hD : va_D A (xW K r (upd f 16 (-6)) a_7 g) := hD
  generalize ef_8 : upd f 16 (-6) = f_8 at hP hD
  refine lv_iload_n hx hb dX11_refuse_53 rfl (lv_at hl 2 rfl) ?_
  exact kI_ret (v := (-6)) hx hb hr hlocks rfl hK hS dX11_refuse_54 (f_8, a_7, g) hP hD rfl
set_option maxHeartbeats 4000000 in
set_option maxRecDepth 100000 in
theorem x_settle2 (l : Launch) {D : va_G} {K : Nat → ClassId} (r : Nat → Nat) (f : Nat → Int32) (a : Nat → Nat → Int32) (g : xG)    : kI l yX11_settle (Cond.code yX11_settle cX11_settle 2 (some .int) :: kG) (rmD 2 0 0) D (tysK K) [.ref (r 0), .int (-2)] (xW K r f a g) (fun v (u : xS) => v = (-2)) (fun u => xW K r u.1 u.2.1 u.2.2) 0 0 := by
  refine kI.of (cc := cX11_settle) (maxL := 2) (ret := (some .int)) (by decide) rfl (Nat.le_of_ble_eq_true rfl) ?_
  intro p e s m below meth c A hx hb hr hml hown hts hlocks hnm hK hP hD hS hA ls hl
  have hg : ∀ w ∈ kG, w.before _ s = true := fun w h => hts w (List.mem_cons_of_mem _ h)
  have hown : s.vm.findClass RX11 = some m.cls := hown
  have hl : lv_has ls 2 [(0, .ref (r 0)), (1, .int (-2))] := hl
  refine lv_iload_n hx hb dX11_settle_0 rfl (lv_at hl 1 rfl) ?_
  refine lv_if_ge (tgt := 12) hx hb dX11_settle_1 (by decide) (fun c1 => absurd c1 (by decide +kernel)) (fun c1 => ?_)
  refine lv_aload_n hx hb dX11_settle_4 rfl (lv_at hl 0 rfl) ?_
  refine lv_iload_n hx hb dX11_settle_5 rfl (lv_at hl 1 rfl) ?_
  refine kI.callW (As := [.int (-2)]) (rest := []) ⟨hx, hb, hml, hown, hg⟩ (x_refuse2 l r f a g  ) (cwV 1 hg (kgV wt3_7 wt3_9 wp1_0 wt1_1 wt3_10) rfl rfl rfl (by decide +kernel) ⟨by decide, by decide⟩) hK hP hD hS hA 0 11 rfl rfl rfl hl.1 rfl (Nat.le_of_ble_eq_true rfl) dX11_settle_6 ⟨by decide, by decide⟩ (fun v4 u3 H locs hw2 hP hD hS => ?_)
  obtain ⟨f5, a6, g7⟩ := u3
  have hP : va_P D vwCl (xW K r f5 a6 g7) H := hP
  have hD : va_D A (xW K r f5 a6 g7) := hD
  refine k_top (z := (-2)) (hw2) ?_
  refine lv_goto (tgt := 17) hx hb dX11_settle_9 (by decide) ?_
  exact kI_ret (v := (-2)) hx hb hr hlocks rfl hK hS dX11_settle_17 (f5, a6, g7) hP hD rfl
set_option maxHeartbeats 4000000 in
set_option maxRecDepth 100000 in
theorem x_settle3 (l : Launch) {D : va_G} {K : Nat → ClassId} (r : Nat → Nat) (f : Nat → Int32) (a : Nat → Nat → Int32) (g : xG)    : kI l yX11_settle (Cond.code yX11_settle cX11_settle 2 (some .int) :: kG) (rmD 2 0 0) D (tysK K) [.ref (r 0), .int (-3)] (xW K r f a g) (fun v (u : xS) => v = (-3)) (fun u => xW K r u.1 u.2.1 u.2.2) 0 0 := by
  refine kI.of (cc := cX11_settle) (maxL := 2) (ret := (some .int)) (by decide) rfl (Nat.le_of_ble_eq_true rfl) ?_
  intro p e s m below meth c A hx hb hr hml hown hts hlocks hnm hK hP hD hS hA ls hl
  have hg : ∀ w ∈ kG, w.before _ s = true := fun w h => hts w (List.mem_cons_of_mem _ h)
  have hown : s.vm.findClass RX11 = some m.cls := hown
  have hl : lv_has ls 2 [(0, .ref (r 0)), (1, .int (-3))] := hl
  refine lv_iload_n hx hb dX11_settle_0 rfl (lv_at hl 1 rfl) ?_
  refine lv_if_ge (tgt := 12) hx hb dX11_settle_1 (by decide) (fun c1 => absurd c1 (by decide +kernel)) (fun c1 => ?_)
  refine lv_aload_n hx hb dX11_settle_4 rfl (lv_at hl 0 rfl) ?_
  refine lv_iload_n hx hb dX11_settle_5 rfl (lv_at hl 1 rfl) ?_
  refine kI.callW (As := [.int (-3)]) (rest := []) ⟨hx, hb, hml, hown, hg⟩ (x_refuse3 l r f a g  ) (cwV 1 hg (kgV wt3_7 wt3_9 wp1_0 wt1_1 wt3_10) rfl rfl rfl (by decide +kernel) ⟨by decide, by decide⟩) hK hP hD hS hA 0 11 rfl rfl rfl hl.1 rfl (Nat.le_of_ble_eq_true rfl) dX11_settle_6 ⟨by decide, by decide⟩ (fun v4 u3 H locs hw2 hP hD hS => ?_)
  obtain ⟨f5, a6, g7⟩ := u3
  have hP : va_P D vwCl (xW K r f5 a6 g7) H := hP
  have hD : va_D A (xW K r f5 a6 g7) := hD
  refine k_top (z := (-3)) (hw2) ?_
  refine lv_goto (tgt := 17) hx hb dX11_settle_9 (by decide) ?_
  exact kI_ret (v := (-3)) hx hb hr hlocks rfl hK hS dX11_settle_17 (f5, a6, g7) hP hD rfl
set_option maxHeartbeats 4000000 in
set_option maxRecDepth 100000 in
theorem x_settle0 (l : Launch) {D : va_G} {K : Nat → ClassId} (r : Nat → Nat) (f : Nat → Int32) (a : Nat → Nat → Int32) (g : xG)    : kI l yX11_settle (Cond.code yX11_settle cX11_settle 2 (some .int) :: kG) (rmD 3 0 0) D (tysK K) [.ref (r 0), .int 0] (xW K r f a g) (fun v (u : xS) => v = 0) (fun u => xW K r u.1 u.2.1 u.2.2) 0 0 := by
  refine kI.of (cc := cX11_settle) (maxL := 2) (ret := (some .int)) (by decide) rfl (Nat.le_of_ble_eq_true rfl) ?_
  intro p e s m below meth c A hx hb hr hml hown hts hlocks hnm hK hP hD hS hA ls hl
  have hg : ∀ w ∈ kG, w.before _ s = true := fun w h => hts w (List.mem_cons_of_mem _ h)
  have hown : s.vm.findClass RX11 = some m.cls := hown
  have hl : lv_has ls 2 [(0, .ref (r 0)), (1, .int 0)] := hl
  refine lv_iload_n hx hb dX11_settle_0 rfl (lv_at hl 1 rfl) ?_
  refine lv_if_ge (tgt := 12) hx hb dX11_settle_1 (by decide) (fun c1 => ?_) (fun c1 => absurd (by decide +kernel) c1)
  refine lv_aload_n hx hb dX11_settle_12 rfl (lv_at hl 0 rfl) ?_
  refine lv_iload_n hx hb dX11_settle_13 rfl (lv_at hl 1 rfl) ?_
  refine kI.callW (As := [.int 0]) (rest := []) ⟨hx, hb, hml, hown, hg⟩ (x_agreeChanged l r f a g  0) (cwV 1 hg (kgV wt3_15 wt3_17 wp1_1 wt1_1 wt3_18) rfl rfl rfl (by decide +kernel) ⟨by decide, by decide⟩) hK hP hD hS hA 0 11 rfl rfl rfl hl.1 rfl (Nat.le_of_ble_eq_true rfl) dX11_settle_14 ⟨by decide, by decide⟩ (fun v4 u3 H locs hw2 hP hD hS => ?_)
  obtain ⟨f5, a6, g7⟩ := u3
  have hP : va_P D vwCl (xW K r f5 a6 g7) H := hP
  have hD : va_D A (xW K r f5 a6 g7) := hD
  refine k_top (z := 0) (hw2) ?_
  exact kI_ret (v := 0) hx hb hr hlocks rfl hK hS dX11_settle_17 (f5, a6, g7) hP hD rfl
set_option maxHeartbeats 4000000 in
set_option maxRecDepth 100000 in
theorem x_emptyTape (l : Launch) {D : va_G} {K : Nat → ClassId} (r : Nat → Nat) (f : Nat → Int32) (a : Nat → Nat → Int32) (g : xG) (h0 : f 12 = 0)   : kI l yX11_emptyTape (Cond.code yX11_emptyTape cX11_emptyTape 2 (some .int) :: kG) (rmD 1 0 0) D (tysK K) [.ref (r 0)] (xW K r f a g) (fun v (u : xS) => v = 0 ∧ u.1 12 = 0) (fun u => xW K r u.1 u.2.1 u.2.2) 0 0 := by
  refine kI.of (cc := cX11_emptyTape) (maxL := 2) (ret := (some .int)) (by decide) rfl (Nat.le_of_ble_eq_true rfl) ?_
  intro p e s m below meth c A hx hb hr hml hown hts hlocks hnm hK hP hD hS hA ls hl
  have hg : ∀ w ∈ kG, w.before _ s = true := fun w h => hts w (List.mem_cons_of_mem _ h)
  have hown : s.vm.findClass RX11 = some m.cls := hown
  have hl : lv_has ls 2 [(0, .ref (r 0))] := hl
  refine lv_aload_n hx hb dX11_emptyTape_0 rfl (lv_at hl 0 rfl) ?_
  refine va_get (D := D) (ci := 11) (v := .int (f 12)) (C := RX11) (T := TX11) (N := 17) hx hb hg inC11 hown hK hP 0 rfl rfl 12 (by decide) (hg _ wt2_198) (fun _ h9 => h9) rfl dX11_emptyTape_1 ?_
  refine k_top (z := 0) h0 ?_
  refine lv_istore_n (lv' := [(1, .int 0), (0, .ref (r 0))]) hx hb dX11_emptyTape_4 rfl hl (by decide) rfl (fun ls hl => ?_)
  refine lv_aload_n hx hb dX11_emptyTape_5 rfl (lv_at hl 1 rfl) ?_
  refine lv_iconst (v := 0) hx hb dX11_emptyTape_6 (by decide) ?_
  refine va_put (D := D) (ci := 11) (v := .int 0) (ty := .int) (C := RX11) (T := TX11) (N := 17) hx hb hg inC11 tyX11 tyX11_ok nmX11 hown hK hP hD hS 0 rfl rfl 12 (by decide) (hg _ wt2_198) (fun _ h9 => h9) rfl (by decide +kernel) rfl rfl (Nat.le_of_ble_eq_true rfl) dX11_emptyTape_7 (fun H locs hP hD hS => ?_)
  have hP : va_P D vwCl (xW K r (upd f 12 0) a g) H := hP
  have hD : va_D A (xW K r (upd f 12 0) a g) := hD
  generalize ef_1 : upd f 12 0 = f_1 at hP hD
  refine lv_iload_n hx hb dX11_emptyTape_10 rfl (lv_at hl 0 rfl) ?_
  exact kI_ret (v := 0) hx hb hr hlocks rfl hK hS dX11_emptyTape_11 (f_1, a, g) hP hD ⟨rfl, (show f_1 12 = 0 from by rw [← ef_1]; rfl)⟩
set_option maxHeartbeats 4000000 in
set_option maxRecDepth 100000 in
theorem x_chaff (l : Launch) {D : va_G} {K : Nat → ClassId} (r : Nat → Nat) (f : Nat → Int32) (a : Nat → Nat → Int32) (g : xG) (h0 : f 14 = 0)   : kI l yX11_chaff (Cond.code yX11_chaff cX11_chaff 1 (some .int) :: kG) (rmD 1 0 0) D (tysK K) [.ref (r 0)] (xW K r f a g) (fun v (_ : Unit) => v = 0) (fun _ => xW K r f a g) 0 0 := by
  refine kI.of (cc := cX11_chaff) (maxL := 1) (ret := (some .int)) (by decide) rfl (Nat.le_of_ble_eq_true rfl) ?_
  intro p e s m below meth c A hx hb hr hml hown hts hlocks hnm hK hP hD hS hA ls hl
  have hg : ∀ w ∈ kG, w.before _ s = true := fun w h => hts w (List.mem_cons_of_mem _ h)
  have hown : s.vm.findClass RX11 = some m.cls := hown
  have hl : lv_has ls 1 [(0, .ref (r 0))] := hl
  refine lv_aload_n hx hb dX11_chaff_0 rfl (lv_at hl 0 rfl) ?_
  refine va_get (D := D) (ci := 11) (v := .int (f 14)) (C := RX11) (T := TX11) (N := 17) hx hb hg inC11 hown hK hP 0 rfl rfl 14 (by decide) (hg _ wt2_200) (fun _ h9 => h9) rfl dX11_chaff_1 ?_
  refine k_top (z := 0) h0 ?_
  exact kI_ret (v := 0) hx hb hr hlocks rfl hK hS dX11_chaff_4 () hP hD rfl
set_option maxHeartbeats 4000000 in
set_option maxRecDepth 100000 in
theorem x_fault (l : Launch) {D : va_G} {K : Nat → ClassId} (r : Nat → Nat) (f : Nat → Int32) (a : Nat → Nat → Int32) (g : xG) (h0 : f 13 = (-1))   : kI l yX11_fault (Cond.code yX11_fault cX11_fault 1 (some .int) :: kG) (rmD 1 0 0) D (tysK K) [.ref (r 0)] (xW K r f a g) (fun v (_ : Unit) => v = (-1)) (fun _ => xW K r f a g) 0 0 := by
  refine kI.of (cc := cX11_fault) (maxL := 1) (ret := (some .int)) (by decide) rfl (Nat.le_of_ble_eq_true rfl) ?_
  intro p e s m below meth c A hx hb hr hml hown hts hlocks hnm hK hP hD hS hA ls hl
  have hg : ∀ w ∈ kG, w.before _ s = true := fun w h => hts w (List.mem_cons_of_mem _ h)
  have hown : s.vm.findClass RX11 = some m.cls := hown
  have hl : lv_has ls 1 [(0, .ref (r 0))] := hl
  refine lv_aload_n hx hb dX11_fault_0 rfl (lv_at hl 0 rfl) ?_
  refine va_get (D := D) (ci := 11) (v := .int (f 13)) (C := RX11) (T := TX11) (N := 17) hx hb hg inC11 hown hK hP 0 rfl rfl 13 (by decide) (hg _ wt2_199) (fun _ h9 => h9) rfl dX11_fault_1 ?_
  refine k_top (z := (-1)) h0 ?_
  exact kI_ret (v := (-1)) hx hb hr hlocks rfl hK hS dX11_fault_4 () hP hD rfl
set_option maxHeartbeats 4000000 in
set_option maxRecDepth 100000 in
theorem x_stopped (l : Launch) {D : va_G} {K : Nat → ClassId} (r : Nat → Nat) (f : Nat → Int32) (a : Nat → Nat → Int32) (g : xG) (h0 : f 15 = (-1))   : kI l yX11_stopped (Cond.code yX11_stopped cX11_stopped 1 (some .int) :: kG) (rmD 1 0 0) D (tysK K) [.ref (r 0)] (xW K r f a g) (fun v (_ : Unit) => v = (-1)) (fun _ => xW K r f a g) 0 0 := by
  refine kI.of (cc := cX11_stopped) (maxL := 1) (ret := (some .int)) (by decide) rfl (Nat.le_of_ble_eq_true rfl) ?_
  intro p e s m below meth c A hx hb hr hml hown hts hlocks hnm hK hP hD hS hA ls hl
  have hg : ∀ w ∈ kG, w.before _ s = true := fun w h => hts w (List.mem_cons_of_mem _ h)
  have hown : s.vm.findClass RX11 = some m.cls := hown
  have hl : lv_has ls 1 [(0, .ref (r 0))] := hl
  refine lv_aload_n hx hb dX11_stopped_0 rfl (lv_at hl 0 rfl) ?_
  refine va_get (D := D) (ci := 11) (v := .int (f 15)) (C := RX11) (T := TX11) (N := 17) hx hb hg inC11 hown hK hP 0 rfl rfl 15 (by decide) (hg _ wt2_201) (fun _ h9 => h9) rfl dX11_stopped_1 ?_
  refine k_top (z := (-1)) h0 ?_
  exact kI_ret (v := (-1)) hx hb hr hlocks rfl hK hS dX11_stopped_4 () hP hD rfl
set_option maxHeartbeats 4000000 in
set_option maxRecDepth 100000 in
theorem x_status (l : Launch) {D : va_G} {K : Nat → ClassId} (r : Nat → Nat) (f : Nat → Int32) (a : Nat → Nat → Int32) (g : xG) (h0 : f 16 = 0)   : kI l yX11_status (Cond.code yX11_status cX11_status 1 (some .int) :: kG) (rmD 1 0 0) D (tysK K) [.ref (r 0)] (xW K r f a g) (fun v (_ : Unit) => v = 0) (fun _ => xW K r f a g) 0 0 := by
  refine kI.of (cc := cX11_status) (maxL := 1) (ret := (some .int)) (by decide) rfl (Nat.le_of_ble_eq_true rfl) ?_
  intro p e s m below meth c A hx hb hr hml hown hts hlocks hnm hK hP hD hS hA ls hl
  have hg : ∀ w ∈ kG, w.before _ s = true := fun w h => hts w (List.mem_cons_of_mem _ h)
  have hown : s.vm.findClass RX11 = some m.cls := hown
  have hl : lv_has ls 1 [(0, .ref (r 0))] := hl
  refine lv_aload_n hx hb dX11_status_0 rfl (lv_at hl 0 rfl) ?_
  refine va_get (D := D) (ci := 11) (v := .int (f 16)) (C := RX11) (T := TX11) (N := 17) hx hb hg inC11 hown hK hP 0 rfl rfl 16 (by decide) (hg _ wt2_202) (fun _ h9 => h9) rfl dX11_status_1 ?_
  refine k_top (z := 0) h0 ?_
  exact kI_ret (v := 0) hx hb hr hlocks rfl hK hS dX11_status_4 () hP hD rfl
set_option maxHeartbeats 4000000 in
set_option maxRecDepth 100000 in
theorem x_of (l : Launch) {D : va_G} {K : Nat → ClassId} (r : Nat → Nat) (f : Nat → Int32) (a : Nat → Nat → Int32) (g : xG) (h0 : f 32 = 0) (x : Int32) (y : Int32)  : kI l yX11_of (Cond.code yX11_of cX11_of 3 (some .int) :: kG) (rmD 2 0 0) D (tysK K) [.ref (r 0), .int x, .int y] (xW K r f a g) (fun v (_ : Unit) => v = (-1)) (fun _ => xW K r f a g) 0 0 := by
  refine kI.of (cc := cX11_of) (maxL := 3) (ret := (some .int)) (by decide) rfl (Nat.le_of_ble_eq_true rfl) ?_
  intro p e s m below meth c A hx hb hr hml hown hts hlocks hnm hK hP hD hS hA ls hl
  have hg : ∀ w ∈ kG, w.before _ s = true := fun w h => hts w (List.mem_cons_of_mem _ h)
  have hown : s.vm.findClass RX11 = some m.cls := hown
  have hl : lv_has ls 3 [(0, .ref (r 0)), (1, .int x), (2, .int y)] := hl
  refine lv_aload_n hx hb dX11_of_0 rfl (lv_at hl 0 rfl) ?_
  refine va_get (D := D) (ci := 11) (v := .ref (r 1)) (C := RX11) (T := TX11) (N := 17) hx hb hg inC11 hown hK hP 0 rfl rfl 0 (by decide) (hg _ wt2_186) (fun _ h9 => h9) rfl dX11_of_1 ?_
  refine lv_iload_n hx hb dX11_of_4 rfl (lv_at hl 1 rfl) ?_
  refine kI.callW (As := [.int x]) (rest := []) ⟨hx, hb, hml, hown, hg⟩ (x_hasPart_now l r f a g h0 x) (cwV 1 hg (kgV wt3_35 wt3_36 wt3_37 wt1_2 wt3_38) rfl rfl rfl (by decide +kernel) ⟨by decide, by decide⟩) hK hP hD hS hA 1 7 rfl rfl rfl hl.1 rfl (Nat.le_of_ble_eq_true rfl) dX11_of_5 ⟨by decide, by decide⟩ (fun v3 u2 H locs hw1 hP hD hS => ?_)
  have hP : va_P D vwCl (xW K r f a g) H := hP
  have hD : va_D A (xW K r f a g) := hD
  refine k_top (z := 0) (hw1) ?_
  refine lv_if_ne (tgt := 13) hx hb dX11_of_8 (by decide) (fun c4 => absurd (by decide +kernel) c4) (fun c4 => ?_)
  refine lv_iconst (v := (-1)) hx hb dX11_of_11 (by decide) ?_
  exact kI_ret (v := (-1)) hx hb hr hlocks rfl hK hS dX11_of_12 () hP hD rfl
set_option maxHeartbeats 4000000 in
set_option maxRecDepth 100000 in
theorem x_at (l : Launch) {D : va_G} {K : Nat → ClassId} (r : Nat → Nat) (f : Nat → Int32) (a : Nat → Nat → Int32) (g : xG) (h0 : f 38 = 0) (x : Int32) (y : Int32)  : kI l yX11_at (Cond.code yX11_at cX11_at 3 (some .int) :: kG) (rmD 2 0 0) D (tysK K) [.ref (r 0), .int x, .int y] (xW K r f a g) (fun v (_ : Unit) => v = (-1)) (fun _ => xW K r f a g) 0 0 := by
  refine kI.of (cc := cX11_at) (maxL := 3) (ret := (some .int)) (by decide) rfl (Nat.le_of_ble_eq_true rfl) ?_
  intro p e s m below meth c A hx hb hr hml hown hts hlocks hnm hK hP hD hS hA ls hl
  have hg : ∀ w ∈ kG, w.before _ s = true := fun w h => hts w (List.mem_cons_of_mem _ h)
  have hown : s.vm.findClass RX11 = some m.cls := hown
  have hl : lv_has ls 3 [(0, .ref (r 0)), (1, .int x), (2, .int y)] := hl
  refine lv_aload_n hx hb dX11_at_0 rfl (lv_at hl 0 rfl) ?_
  refine va_get (D := D) (ci := 11) (v := .ref (r 1)) (C := RX11) (T := TX11) (N := 17) hx hb hg inC11 hown hK hP 0 rfl rfl 0 (by decide) (hg _ wt2_186) (fun _ h9 => h9) rfl dX11_at_1 ?_
  refine lv_iload_n hx hb dX11_at_4 rfl (lv_at hl 1 rfl) ?_
  refine kI.callW (As := [.int x]) (rest := []) ⟨hx, hb, hml, hown, hg⟩ (x_hasBuilder_now l r f a g h0 x) (cwV 1 hg (kgV wt3_67 wt3_68 wt3_69 wt1_2 wt3_70) rfl rfl rfl (by decide +kernel) ⟨by decide, by decide⟩) hK hP hD hS hA 1 7 rfl rfl rfl hl.1 rfl (Nat.le_of_ble_eq_true rfl) dX11_at_5 ⟨by decide, by decide⟩ (fun v3 u2 H locs hw1 hP hD hS => ?_)
  have hP : va_P D vwCl (xW K r f a g) H := hP
  have hD : va_D A (xW K r f a g) := hD
  refine k_top (z := 0) (hw1) ?_
  refine lv_if_ne (tgt := 13) hx hb dX11_at_8 (by decide) (fun c4 => absurd (by decide +kernel) c4) (fun c4 => ?_)
  refine lv_iconst (v := (-1)) hx hb dX11_at_11 (by decide) ?_
  exact kI_ret (v := (-1)) hx hb hr hlocks rfl hK hS dX11_at_12 () hP hD rfl
set_option maxHeartbeats 4000000 in
set_option maxRecDepth 100000 in
theorem x_asks (l : Launch) {D : va_G} {K : Nat → ClassId} (r : Nat → Nat) (f : Nat → Int32) (a : Nat → Nat → Int32) (g : xG) (h0 : f 38 = 0) (x : Int32) (y : Int32) (z : Int32)  : kI l yX11_asks (Cond.code yX11_asks cX11_asks 4 (some .int) :: kG) (rmD 2 0 0) D (tysK K) [.ref (r 0), .int x, .int y, .int z] (xW K r f a g) (fun v (_ : Unit) => v = (-1)) (fun _ => xW K r f a g) 0 0 := by
  refine kI.of (cc := cX11_asks) (maxL := 4) (ret := (some .int)) (by decide) rfl (Nat.le_of_ble_eq_true rfl) ?_
  intro p e s m below meth c A hx hb hr hml hown hts hlocks hnm hK hP hD hS hA ls hl
  have hg : ∀ w ∈ kG, w.before _ s = true := fun w h => hts w (List.mem_cons_of_mem _ h)
  have hown : s.vm.findClass RX11 = some m.cls := hown
  have hl : lv_has ls 4 [(0, .ref (r 0)), (1, .int x), (2, .int y), (3, .int z)] := hl
  refine lv_aload_n hx hb dX11_asks_0 rfl (lv_at hl 0 rfl) ?_
  refine va_get (D := D) (ci := 11) (v := .ref (r 1)) (C := RX11) (T := TX11) (N := 17) hx hb hg inC11 hown hK hP 0 rfl rfl 0 (by decide) (hg _ wt2_186) (fun _ h9 => h9) rfl dX11_asks_1 ?_
  refine lv_iload_n hx hb dX11_asks_4 rfl (lv_at hl 1 rfl) ?_
  refine kI.callW (As := [.int x]) (rest := []) ⟨hx, hb, hml, hown, hg⟩ (x_hasBuilder_now l r f a g h0 x) (cwV 1 hg (kgV wt3_67 wt3_68 wt3_69 wt1_2 wt3_70) rfl rfl rfl (by decide +kernel) ⟨by decide, by decide⟩) hK hP hD hS hA 1 7 rfl rfl rfl hl.1 rfl (Nat.le_of_ble_eq_true rfl) dX11_asks_5 ⟨by decide, by decide⟩ (fun v3 u2 H locs hw1 hP hD hS => ?_)
  have hP : va_P D vwCl (xW K r f a g) H := hP
  have hD : va_D A (xW K r f a g) := hD
  refine k_top (z := 0) (hw1) ?_
  refine lv_if_eq (tgt := 34) hx hb dX11_asks_8 (by decide) (fun c4 => ?_) (fun c4 => absurd (by decide +kernel) c4)
  refine lv_iconst (v := (-1)) hx hb dX11_asks_34 (by decide) ?_
  exact kI_ret (v := (-1)) hx hb hr hlocks rfl hK hS dX11_asks_35 () hP hD rfl
end
section
set_option maxHeartbeats 4000000 in
set_option maxRecDepth 100000 in
theorem x_end (l : Launch) {D : va_G} {K : Nat → ClassId} (r : Nat → Nat) (f : Nat → Int32) (a : Nat → Nat → Int32) (g : xG) (h0 : f 12 = 0) (x : Int32)  : kI l yX11_end (Cond.code yX11_end cX11_end 2 (some .int) :: kG) (rmD 1 0 0) D (tysK K) [.ref (r 0), .int x] (xW K r f a g) (fun v (u : xS) => v = (if x < 0 then (-1 : Int32) else if x ≤ 0 then x else -1)) (fun u => xW K r u.1 u.2.1 u.2.2) 0 0 := by
  refine kI.of (cc := cX11_end) (maxL := 2) (ret := (some .int)) (by decide) rfl (Nat.le_of_ble_eq_true rfl) ?_
  intro p e s m below meth c A hx hb hr hml hown hts hlocks hnm hK hP hD hS hA ls hl
  have hg : ∀ w ∈ kG, w.before _ s = true := fun w h => hts w (List.mem_cons_of_mem _ h)
  have hown : s.vm.findClass RX11 = some m.cls := hown
  have hl : lv_has ls 2 [(0, .ref (r 0)), (1, .int x)] := hl
  refine lv_iload_n hx hb dX11_end_0 rfl (lv_at hl 1 rfl) ?_
  refine lv_if_lt (tgt := 12) hx hb dX11_end_1 (by decide) (fun c1 => ?_) (fun c1 => ?_)
  · refine lv_iconst (v := (-1)) hx hb dX11_end_12 (by decide) ?_
    exact kI_ret (v := (-1)) hx hb hr hlocks rfl hK hS dX11_end_13 (f, a, g) hP hD (by rw [if_pos c1])
  · refine lv_iload_n hx hb dX11_end_4 rfl (lv_at hl 1 rfl) ?_
    refine lv_aload_n hx hb dX11_end_5 rfl (lv_at hl 0 rfl) ?_
    refine va_get (D := D) (ci := 11) (v := .int (f 12)) (C := RX11) (T := TX11) (N := 17) hx hb hg inC11 hown hK hP 0 rfl rfl 12 (by decide) (hg _ wt2_198) (fun _ h9 => h9) rfl dX11_end_6 ?_
    refine k_top (z := 0) h0 ?_
    refine lv_icmp_le (tgt := 14) hx hb dX11_end_9 (by decide) (fun c2 => ?_) (fun c2 => ?_)
    · refine lv_aload_n hx hb dX11_end_14 rfl (lv_at hl 0 rfl) ?_
      refine lv_iload_n hx hb dX11_end_15 rfl (lv_at hl 1 rfl) ?_
      refine va_put (D := D) (ci := 11) (v := .int x) (ty := .int) (C := RX11) (T := TX11) (N := 17) hx hb hg inC11 tyX11 tyX11_ok nmX11 hown hK hP hD hS 0 rfl rfl 12 (by decide) (hg _ wt2_198) (fun _ h9 => h9) rfl (by decide +kernel) rfl rfl (Nat.le_of_ble_eq_true rfl) dX11_end_16 (fun H locs hP hD hS => ?_)
      have hP : va_P D vwCl (xW K r (upd f 12 x) a g) H := hP
      have hD : va_D A (xW K r (upd f 12 x) a g) := hD
      generalize ef_3 : upd f 12 x = f_3 at hP hD
      refine lv_iload_n hx hb dX11_end_19 rfl (lv_at hl 1 rfl) ?_
      exact kI_ret (v := x) hx hb hr hlocks rfl hK hS dX11_end_20 (f_3, a, g) hP hD (by rw [if_neg c1, if_pos c2])
    · refine lv_iconst (v := (-1)) hx hb dX11_end_12 (by decide) ?_
      exact kI_ret (v := (-1)) hx hb hr hlocks rfl hK hS dX11_end_13 (f, a, g) hP hD (by rw [if_neg c1, if_neg c2])
set_option maxHeartbeats 4000000 in
set_option maxRecDepth 100000 in
theorem x_row (l : Launch) {D : va_G} {K : Nat → ClassId} (r : Nat → Nat) (f : Nat → Int32) (a : Nat → Nat → Int32) (g : xG) (h0 : f 12 = 0)   : kI l yX11_row (Cond.code yX11_row cX11_row 5 (some .int) :: kG) (rmD 2 0 0) D (tysK K) [.ref (r 0)] (xW K r f a g) (fun v (u : xS) => v = (-6)) (fun u => xW K r u.1 u.2.1 u.2.2) 0 0 := by
  refine kI.of (cc := cX11_row) (maxL := 5) (ret := (some .int)) (by decide) rfl (Nat.le_of_ble_eq_true rfl) ?_
  intro p e s m below meth c A hx hb hr hml hown hts hlocks hnm hK hP hD hS hA ls hl
  have hg : ∀ w ∈ kG, w.before _ s = true := fun w h => hts w (List.mem_cons_of_mem _ h)
  have hown : s.vm.findClass RX11 = some m.cls := hown
  have hl : lv_has ls 5 [(0, .ref (r 0))] := hl
  refine lv_aload_n hx hb dX11_row_0 rfl (lv_at hl 0 rfl) ?_
  refine kI.callW (As := []) (rest := []) ⟨hx, hb, hml, hown, hg⟩ (x_emptyTape l r f a g h0 ) (cwV 0 hg (kgV wt3_137 wt3_139 wp1_7 wt1_1 wt3_140) rfl rfl rfl (by decide +kernel) ⟨by decide, by decide⟩) hK hP hD hS hA 0 11 rfl rfl rfl hl.1 rfl (Nat.le_of_ble_eq_true rfl) dX11_row_1 ⟨by decide, by decide⟩ (fun v3 u2 H locs hw1 hP hD hS => ?_)
  obtain ⟨f4, a5, g6⟩ := u2
  have hP : va_P D vwCl (xW K r f4 a5 g6) H := hP
  have hD : va_D A (xW K r f4 a5 g6) := hD
  refine k_top (z := 0) (hw1.1) ?_
  refine lv_istore_n (lv' := [(1, .int 0), (0, .ref (r 0))]) hx hb dX11_row_4 rfl hl (by decide) rfl (fun ls hl => ?_)
  refine lv_iload_n hx hb dX11_row_5 rfl (lv_at hl 0 rfl) ?_
  refine lv_if_ne (tgt := 16) hx hb dX11_row_6 (by decide) (fun c7 => absurd (by decide +kernel) c7) (fun c7 => ?_)
  refine lv_aload_n hx hb dX11_row_9 rfl (lv_at hl 1 rfl) ?_
  refine lv_bipush (v := (-6)) hx hb dX11_row_10 (by decide) ?_
  refine kI.callW (As := [.int (-6)]) (rest := []) ⟨hx, hb, hml, hown, hg⟩ (x_refuse6 l r f4 a5 g6  ) (cwV 1 hg (kgV wt3_7 wt3_9 wp1_0 wt1_1 wt3_10) rfl rfl rfl (by decide +kernel) ⟨by decide, by decide⟩) hK hP hD hS hA 0 11 rfl rfl rfl hl.1 rfl (Nat.le_of_ble_eq_true rfl) dX11_row_12 ⟨by decide, by decide⟩ (fun v10 u9 H locs hw8 hP hD hS => ?_)
  obtain ⟨f11, a12, g13⟩ := u9
  have hP : va_P D vwCl (xW K r f11 a12 g13) H := hP
  have hD : va_D A (xW K r f11 a12 g13) := hD
  refine k_top (z := (-6)) (hw8) ?_
  exact kI_ret (v := (-6)) hx hb hr hlocks rfl hK hS dX11_row_15 (f11, a12, g13) hP hD rfl
set_option maxHeartbeats 4000000 in
set_option maxRecDepth 100000 in
theorem x_stands (l : Launch) {D : va_G} {K : Nat → ClassId} (r : Nat → Nat) (f : Nat → Int32) (a : Nat → Nat → Int32) (g : xG) (h0 : f 32 = 0) (x : Int32)  : kI l yX11_stands (Cond.code yX11_stands cX11_stands 2 (some .int) :: kG) (rmD 3 0 0) D (tysK K) [.ref (r 0), .int x] (xW K r f a g) (fun v (_ : Unit) => v = (if x = 0 then (0 : Int32) else if x = 1 then 0 else -1)) (fun _ => xW K r f a g) 0 0 := by
  refine kI.of (cc := cX11_stands) (maxL := 2) (ret := (some .int)) (by decide) rfl (Nat.le_of_ble_eq_true rfl) ?_
  intro p e s m below meth c A hx hb hr hml hown hts hlocks hnm hK hP hD hS hA ls hl
  have hg : ∀ w ∈ kG, w.before _ s = true := fun w h => hts w (List.mem_cons_of_mem _ h)
  have hown : s.vm.findClass RX11 = some m.cls := hown
  have hl : lv_has ls 2 [(0, .ref (r 0)), (1, .int x)] := hl
  refine lv_iload_n hx hb dX11_stands_0 rfl (lv_at hl 1 rfl) ?_
  by_cases q1 : x = 0
  · subst q1
    refine lv_lookup (tgt := 28) (off := 27) hx hb dX11_stands_1 (by decide +kernel) (by decide +kernel) (by decide) ?_
    refine lv_aload_n hx hb dX11_stands_28 rfl (lv_at hl 0 rfl) ?_
    refine va_get (D := D) (ci := 11) (v := .ref (r 1)) (C := RX11) (T := TX11) (N := 17) hx hb hg inC11 hown hK hP 0 rfl rfl 0 (by decide) (hg _ wt2_186) (fun _ h9 => h9) rfl dX11_stands_29 ?_
    refine kI.callW (As := []) (rest := []) ⟨hx, hb, hml, hown, hg⟩ (x_upMask_now l r f a g h0 ) (cwV 0 hg (kgV wt4_164 wt3_44 wt3_45 wt1_2 wt3_46) rfl rfl rfl (by decide +kernel) ⟨by decide, by decide⟩) hK hP hD hS hA 1 7 rfl rfl rfl hl.1 rfl (Nat.le_of_ble_eq_true rfl) dX11_stands_32 ⟨by decide, by decide⟩ (fun v4 u3 H locs hw2 hP hD hS => ?_)
    have hP : va_P D vwCl (xW K r f a g) H := hP
    have hD : va_D A (xW K r f a g) := hD
    refine k_top (z := 0) (hw2) ?_
    exact kI_ret (v := 0) hx hb hr hlocks rfl hK hS dX11_stands_35 () hP hD rfl
  by_cases q5 : x = 1
  · subst q5
    refine lv_lookup (tgt := 36) (off := 35) hx hb dX11_stands_1 (by decide +kernel) (by decide +kernel) (by decide) ?_
    refine lv_aload_n hx hb dX11_stands_36 rfl (lv_at hl 0 rfl) ?_
    refine va_get (D := D) (ci := 11) (v := .ref (r 1)) (C := RX11) (T := TX11) (N := 17) hx hb hg inC11 hown hK hP 0 rfl rfl 0 (by decide) (hg _ wt2_186) (fun _ h9 => h9) rfl dX11_stands_37 ?_
    refine kI.callW (As := []) (rest := []) ⟨hx, hb, hml, hown, hg⟩ (x_readyMask_now l r f a g h0 ) (cwV 0 hg (kgV wt3_39 wt3_40 wt3_41 wt1_2 wt3_42) rfl rfl rfl (by decide +kernel) ⟨by decide, by decide⟩) hK hP hD hS hA 1 7 rfl rfl rfl hl.1 rfl (Nat.le_of_ble_eq_true rfl) dX11_stands_40 ⟨by decide, by decide⟩ (fun v8 u7 H locs hw6 hP hD hS => ?_)
    have hP : va_P D vwCl (xW K r f a g) H := hP
    have hD : va_D A (xW K r f a g) := hD
    refine k_top (z := 0) (hw6) ?_
    exact kI_ret (v := 0) hx hb hr hlocks rfl hK hS dX11_stands_43 () hP hD rfl
  refine lv_lookup (tgt := 44) (off := 43) hx hb dX11_stands_1 (by decide +kernel) ((lv_osw q1 (by decide +kernel)).trans ((lv_osw q5 (by decide +kernel)).trans rfl)) (by decide) ?_
  refine lv_iconst (v := (-1)) hx hb dX11_stands_44 (by decide) ?_
  exact kI_ret (v := (-1)) hx hb hr hlocks rfl hK hS dX11_stands_45 () hP hD (by simp [q1, q5])
set_option maxHeartbeats 4000000 in
set_option maxRecDepth 100000 in
theorem x_sendBuilder (l : Launch) {D : va_G} {K : Nat → ClassId} (r : Nat → Nat) (f : Nat → Int32) (a : Nat → Nat → Int32) (g : xG) (h0 : f 38 = 0) (x : Int32) (y : Int32)  : kI l yX0_sendBuilder (Cond.code yX0_sendBuilder cX0_sendBuilder 3 (some .int) :: kG) (rmD 2 0 0) D (tysK K) [.ref (r 24), .int x, .int y] (xW K r f a g) (fun v (_ : Unit) => v = (-2)) (fun _ => xW K r f a g) 0 0 := by
  refine kI.of (cc := cX0_sendBuilder) (maxL := 3) (ret := (some .int)) (by decide) rfl (Nat.le_of_ble_eq_true rfl) ?_
  intro p e s m below meth c A hx hb hr hml hown hts hlocks hnm hK hP hD hS hA ls hl
  have hg : ∀ w ∈ kG, w.before _ s = true := fun w h => hts w (List.mem_cons_of_mem _ h)
  have hown : s.vm.findClass RX0 = some m.cls := hown
  have hl : lv_has ls 3 [(0, .ref (r 24)), (1, .int x), (2, .int y)] := hl
  refine lv_aload_n hx hb dX0_sendBuilder_0 rfl (lv_at hl 0 rfl) ?_
  refine va_get (D := D) (ci := 0) (v := .ref (r 1)) (C := RX0) (T := TX0) (N := 2) hx hb hg inC0 hown hK hP 24 rfl rfl 0 (by decide) (hg _ wt1_222) (fun _ h9 => h9) rfl dX0_sendBuilder_1 ?_
  refine lv_iload_n hx hb dX0_sendBuilder_4 rfl (lv_at hl 1 rfl) ?_
  refine kI.callW (As := [.int x]) (rest := []) ⟨hx, hb, hml, hown, hg⟩ (x_hasBuilder_now l r f a g h0 x) (cwV 1 hg (kgV wt4_113 wt3_68 wt3_69 wt1_2 wt3_70) rfl rfl rfl (by decide +kernel) ⟨by decide, by decide⟩) hK hP hD hS hA 1 7 rfl rfl rfl hl.1 rfl (Nat.le_of_ble_eq_true rfl) dX0_sendBuilder_5 ⟨by decide, by decide⟩ (fun v3 u2 H locs hw1 hP hD hS => ?_)
  have hP : va_P D vwCl (xW K r f a g) H := hP
  have hD : va_D A (xW K r f a g) := hD
  refine k_top (z := 0) (hw1) ?_
  refine lv_if_eq (tgt := 22) hx hb dX0_sendBuilder_8 (by decide) (fun c4 => ?_) (fun c4 => absurd (by decide +kernel) c4)
  refine lv_bipush (v := (-2)) hx hb dX0_sendBuilder_22 (by decide) ?_
  exact kI_ret (v := (-2)) hx hb hr hlocks rfl hK hS dX0_sendBuilder_24 () hP hD rfl
set_option maxHeartbeats 4000000 in
set_option maxRecDepth 100000 in
theorem x_restBuilder (l : Launch) {D : va_G} {K : Nat → ClassId} (r : Nat → Nat) (f : Nat → Int32) (a : Nat → Nat → Int32) (g : xG) (h0 : f 38 = 0) (x : Int32)  : kI l yX0_restBuilder (Cond.code yX0_restBuilder cX0_restBuilder 3 (some .int) :: kG) (rmD 2 0 0) D (tysK K) [.ref (r 24), .int x] (xW K r f a g) (fun v (_ : Unit) => v = (-2)) (fun _ => xW K r f a g) 0 0 := by
  refine kI.of (cc := cX0_restBuilder) (maxL := 3) (ret := (some .int)) (by decide) rfl (Nat.le_of_ble_eq_true rfl) ?_
  intro p e s m below meth c A hx hb hr hml hown hts hlocks hnm hK hP hD hS hA ls hl
  have hg : ∀ w ∈ kG, w.before _ s = true := fun w h => hts w (List.mem_cons_of_mem _ h)
  have hown : s.vm.findClass RX0 = some m.cls := hown
  have hl : lv_has ls 3 [(0, .ref (r 24)), (1, .int x)] := hl
  refine lv_aload_n hx hb dX0_restBuilder_0 rfl (lv_at hl 0 rfl) ?_
  refine va_get (D := D) (ci := 0) (v := .ref (r 1)) (C := RX0) (T := TX0) (N := 2) hx hb hg inC0 hown hK hP 24 rfl rfl 0 (by decide) (hg _ wt1_222) (fun _ h9 => h9) rfl dX0_restBuilder_1 ?_
  refine lv_iload_n hx hb dX0_restBuilder_4 rfl (lv_at hl 1 rfl) ?_
  refine kI.callW (As := [.int x]) (rest := []) ⟨hx, hb, hml, hown, hg⟩ (x_hasBuilder_now l r f a g h0 x) (cwV 1 hg (kgV wt4_113 wt3_68 wt3_69 wt1_2 wt3_70) rfl rfl rfl (by decide +kernel) ⟨by decide, by decide⟩) hK hP hD hS hA 1 7 rfl rfl rfl hl.1 rfl (Nat.le_of_ble_eq_true rfl) dX0_restBuilder_5 ⟨by decide, by decide⟩ (fun v3 u2 H locs hw1 hP hD hS => ?_)
  have hP : va_P D vwCl (xW K r f a g) H := hP
  have hD : va_D A (xW K r f a g) := hD
  refine k_top (z := 0) (hw1) ?_
  refine lv_if_ne (tgt := 14) hx hb dX0_restBuilder_8 (by decide) (fun c4 => absurd (by decide +kernel) c4) (fun c4 => ?_)
  refine lv_bipush (v := (-2)) hx hb dX0_restBuilder_11 (by decide) ?_
  exact kI_ret (v := (-2)) hx hb hr hlocks rfl hK hS dX0_restBuilder_13 () hP hD rfl
set_option maxHeartbeats 4000000 in
set_option maxRecDepth 100000 in
theorem x_razePart (l : Launch) {D : va_G} {K : Nat → ClassId} (r : Nat → Nat) (f : Nat → Int32) (a : Nat → Nat → Int32) (g : xG) (h0 : f 32 = 0) (x : Int32)  : kI l yX0_razePart (Cond.code yX0_razePart cX0_razePart 2 (some .int) :: kG) (rmD 2 0 0) D (tysK K) [.ref (r 24), .int x] (xW K r f a g) (fun v (_ : Unit) => v = (-2)) (fun _ => xW K r f a g) 0 0 := by
  refine kI.of (cc := cX0_razePart) (maxL := 2) (ret := (some .int)) (by decide) rfl (Nat.le_of_ble_eq_true rfl) ?_
  intro p e s m below meth c A hx hb hr hml hown hts hlocks hnm hK hP hD hS hA ls hl
  have hg : ∀ w ∈ kG, w.before _ s = true := fun w h => hts w (List.mem_cons_of_mem _ h)
  have hown : s.vm.findClass RX0 = some m.cls := hown
  have hl : lv_has ls 2 [(0, .ref (r 24)), (1, .int x)] := hl
  refine lv_aload_n hx hb dX0_razePart_0 rfl (lv_at hl 0 rfl) ?_
  refine va_get (D := D) (ci := 0) (v := .ref (r 1)) (C := RX0) (T := TX0) (N := 2) hx hb hg inC0 hown hK hP 24 rfl rfl 0 (by decide) (hg _ wt1_222) (fun _ h9 => h9) rfl dX0_razePart_1 ?_
  refine lv_iload_n hx hb dX0_razePart_4 rfl (lv_at hl 1 rfl) ?_
  refine kI.callW (As := [.int x]) (rest := []) ⟨hx, hb, hml, hown, hg⟩ (x_hasPart_now l r f a g h0 x) (cwV 1 hg (kgV wt4_114 wt3_36 wt3_37 wt1_2 wt3_38) rfl rfl rfl (by decide +kernel) ⟨by decide, by decide⟩) hK hP hD hS hA 1 7 rfl rfl rfl hl.1 rfl (Nat.le_of_ble_eq_true rfl) dX0_razePart_5 ⟨by decide, by decide⟩ (fun v3 u2 H locs hw1 hP hD hS => ?_)
  have hP : va_P D vwCl (xW K r f a g) H := hP
  have hD : va_D A (xW K r f a g) := hD
  refine k_top (z := 0) (hw1) ?_
  refine lv_if_ne (tgt := 14) hx hb dX0_razePart_8 (by decide) (fun c4 => absurd (by decide +kernel) c4) (fun c4 => ?_)
  refine lv_bipush (v := (-2)) hx hb dX0_razePart_11 (by decide) ?_
  exact kI_ret (v := (-2)) hx hb hr hlocks rfl hK hS dX0_razePart_13 () hP hD rfl
set_option maxHeartbeats 4000000 in
set_option maxRecDepth 100000 in
theorem x_send (l : Launch) {D : va_G} {K : Nat → ClassId} (r : Nat → Nat) (f : Nat → Int32) (a : Nat → Nat → Int32) (g : xG) (h0 : f 38 = 0) (x : Int32) (y : Int32)  : kI l yX11_send (Cond.code yX11_send cX11_send 3 (some .int) :: kG) (rmD 3 0 0) D (tysK K) [.ref (r 0), .int x, .int y] (xW K r f a g) (fun v (u : xS) => v = (-2)) (fun u => xW K r u.1 u.2.1 u.2.2) 0 0 := by
  refine kI.of (cc := cX11_send) (maxL := 3) (ret := (some .int)) (by decide) rfl (Nat.le_of_ble_eq_true rfl) ?_
  intro p e s m below meth c A hx hb hr hml hown hts hlocks hnm hK hP hD hS hA ls hl
  have hg : ∀ w ∈ kG, w.before _ s = true := fun w h => hts w (List.mem_cons_of_mem _ h)
  have hown : s.vm.findClass RX11 = some m.cls := hown
  have hl : lv_has ls 3 [(0, .ref (r 0)), (1, .int x), (2, .int y)] := hl
  refine lv_aload_n hx hb dX11_send_0 rfl (lv_at hl 0 rfl) ?_
  refine lv_aload_n hx hb dX11_send_1 rfl (lv_at hl 0 rfl) ?_
  refine va_get (D := D) (ci := 11) (v := .ref (r 24)) (C := RX11) (T := TX11) (N := 17) hx hb hg inC11 hown hK hP 0 rfl rfl 2 (by decide) (hg _ wt2_188) (fun _ h9 => h9) rfl dX11_send_2 ?_
  refine lv_iload_n hx hb dX11_send_5 rfl (lv_at hl 1 rfl) ?_
  refine lv_iload_n hx hb dX11_send_6 rfl (lv_at hl 2 rfl) ?_
  refine kI.callW (As := [.int x, .int y]) (rest := [.ref (r 0)]) ⟨hx, hb, hml, hown, hg⟩ (x_sendBuilder l r f a g h0 x y) (cwV 2 hg (kgV wt4_169 wt4_110 wt4_111 wt1_5 wt4_112) rfl rfl rfl (by decide +kernel) ⟨by decide, by decide⟩) hK hP hD hS hA 24 0 rfl rfl rfl hl.1 rfl (Nat.le_of_ble_eq_true rfl) dX11_send_7 ⟨by decide, by decide⟩ (fun v3 u2 H locs hw1 hP hD hS => ?_)
  have hP : va_P D vwCl (xW K r f a g) H := hP
  have hD : va_D A (xW K r f a g) := hD
  refine k_top (z := (-2)) (hw1) ?_
  refine kI.callW (As := [.int (-2)]) (rest := []) ⟨hx, hb, hml, hown, hg⟩ (x_settle2 l r f a g  ) (cwV 1 hg (kgV wt4_170 wt4_172 wp2_11 wt1_1 wt4_173) rfl rfl rfl (by decide +kernel) ⟨by decide, by decide⟩) hK hP hD hS hA 0 11 rfl rfl rfl hl.1 rfl (Nat.le_of_ble_eq_true rfl) dX11_send_10 ⟨by decide, by decide⟩ (fun v6 u5 H locs hw4 hP hD hS => ?_)
  obtain ⟨f7, a8, g9⟩ := u5
  have hP : va_P D vwCl (xW K r f7 a8 g9) H := hP
  have hD : va_D A (xW K r f7 a8 g9) := hD
  refine k_top (z := (-2)) (hw4) ?_
  exact kI_ret (v := (-2)) hx hb hr hlocks rfl hK hS dX11_send_13 (f7, a8, g9) hP hD rfl
set_option maxHeartbeats 4000000 in
set_option maxRecDepth 100000 in
theorem x_rest (l : Launch) {D : va_G} {K : Nat → ClassId} (r : Nat → Nat) (f : Nat → Int32) (a : Nat → Nat → Int32) (g : xG) (h0 : f 38 = 0) (x : Int32)  : kI l yX11_rest (Cond.code yX11_rest cX11_rest 2 (some .int) :: kG) (rmD 3 0 0) D (tysK K) [.ref (r 0), .int x] (xW K r f a g) (fun v (u : xS) => v = (-2)) (fun u => xW K r u.1 u.2.1 u.2.2) 0 0 := by
  refine kI.of (cc := cX11_rest) (maxL := 2) (ret := (some .int)) (by decide) rfl (Nat.le_of_ble_eq_true rfl) ?_
  intro p e s m below meth c A hx hb hr hml hown hts hlocks hnm hK hP hD hS hA ls hl
  have hg : ∀ w ∈ kG, w.before _ s = true := fun w h => hts w (List.mem_cons_of_mem _ h)
  have hown : s.vm.findClass RX11 = some m.cls := hown
  have hl : lv_has ls 2 [(0, .ref (r 0)), (1, .int x)] := hl
  refine lv_aload_n hx hb dX11_rest_0 rfl (lv_at hl 0 rfl) ?_
  refine lv_aload_n hx hb dX11_rest_1 rfl (lv_at hl 0 rfl) ?_
  refine va_get (D := D) (ci := 11) (v := .ref (r 24)) (C := RX11) (T := TX11) (N := 17) hx hb hg inC11 hown hK hP 0 rfl rfl 2 (by decide) (hg _ wt2_188) (fun _ h9 => h9) rfl dX11_rest_2 ?_
  refine lv_iload_n hx hb dX11_rest_5 rfl (lv_at hl 1 rfl) ?_
  refine kI.callW (As := [.int x]) (rest := [.ref (r 0)]) ⟨hx, hb, hml, hown, hg⟩ (x_restBuilder l r f a g h0 x) (cwV 1 hg (kgV wt4_178 wt4_123 wt4_124 wt1_5 wt4_125) rfl rfl rfl (by decide +kernel) ⟨by decide, by decide⟩) hK hP hD hS hA 24 0 rfl rfl rfl hl.1 rfl (Nat.le_of_ble_eq_true rfl) dX11_rest_6 ⟨by decide, by decide⟩ (fun v3 u2 H locs hw1 hP hD hS => ?_)
  have hP : va_P D vwCl (xW K r f a g) H := hP
  have hD : va_D A (xW K r f a g) := hD
  refine k_top (z := (-2)) (hw1) ?_
  refine kI.callW (As := [.int (-2)]) (rest := []) ⟨hx, hb, hml, hown, hg⟩ (x_settle2 l r f a g  ) (cwV 1 hg (kgV wt4_170 wt4_172 wp2_11 wt1_1 wt4_173) rfl rfl rfl (by decide +kernel) ⟨by decide, by decide⟩) hK hP hD hS hA 0 11 rfl rfl rfl hl.1 rfl (Nat.le_of_ble_eq_true rfl) dX11_rest_9 ⟨by decide, by decide⟩ (fun v6 u5 H locs hw4 hP hD hS => ?_)
  obtain ⟨f7, a8, g9⟩ := u5
  have hP : va_P D vwCl (xW K r f7 a8 g9) H := hP
  have hD : va_D A (xW K r f7 a8 g9) := hD
  refine k_top (z := (-2)) (hw4) ?_
  exact kI_ret (v := (-2)) hx hb hr hlocks rfl hK hS dX11_rest_12 (f7, a8, g9) hP hD rfl
set_option maxHeartbeats 4000000 in
set_option maxRecDepth 100000 in
theorem x_throwDown (l : Launch) {D : va_G} {K : Nat → ClassId} (r : Nat → Nat) (f : Nat → Int32) (a : Nat → Nat → Int32) (g : xG) (h0 : f 32 = 0) (x : Int32)  : kI l yX11_throwDown (Cond.code yX11_throwDown cX11_throwDown 2 (some .int) :: kG) (rmD 3 0 0) D (tysK K) [.ref (r 0), .int x] (xW K r f a g) (fun v (u : xS) => v = (-2)) (fun u => xW K r u.1 u.2.1 u.2.2) 0 0 := by
  refine kI.of (cc := cX11_throwDown) (maxL := 2) (ret := (some .int)) (by decide) rfl (Nat.le_of_ble_eq_true rfl) ?_
  intro p e s m below meth c A hx hb hr hml hown hts hlocks hnm hK hP hD hS hA ls hl
  have hg : ∀ w ∈ kG, w.before _ s = true := fun w h => hts w (List.mem_cons_of_mem _ h)
  have hown : s.vm.findClass RX11 = some m.cls := hown
  have hl : lv_has ls 2 [(0, .ref (r 0)), (1, .int x)] := hl
  refine lv_aload_n hx hb dX11_throwDown_0 rfl (lv_at hl 0 rfl) ?_
  refine lv_aload_n hx hb dX11_throwDown_1 rfl (lv_at hl 0 rfl) ?_
  refine va_get (D := D) (ci := 11) (v := .ref (r 24)) (C := RX11) (T := TX11) (N := 17) hx hb hg inC11 hown hK hP 0 rfl rfl 2 (by decide) (hg _ wt2_188) (fun _ h9 => h9) rfl dX11_throwDown_2 ?_
  refine lv_iload_n hx hb dX11_throwDown_5 rfl (lv_at hl 1 rfl) ?_
  refine kI.callW (As := [.int x]) (rest := [.ref (r 0)]) ⟨hx, hb, hml, hown, hg⟩ (x_razePart l r f a g h0 x) (cwV 1 hg (kgV wt4_183 wt4_127 wt4_128 wt1_5 wt4_129) rfl rfl rfl (by decide +kernel) ⟨by decide, by decide⟩) hK hP hD hS hA 24 0 rfl rfl rfl hl.1 rfl (Nat.le_of_ble_eq_true rfl) dX11_throwDown_6 ⟨by decide, by decide⟩ (fun v3 u2 H locs hw1 hP hD hS => ?_)
  have hP : va_P D vwCl (xW K r f a g) H := hP
  have hD : va_D A (xW K r f a g) := hD
  refine k_top (z := (-2)) (hw1) ?_
  refine kI.callW (As := [.int (-2)]) (rest := []) ⟨hx, hb, hml, hown, hg⟩ (x_settle2 l r f a g  ) (cwV 1 hg (kgV wt4_170 wt4_172 wp2_11 wt1_1 wt4_173) rfl rfl rfl (by decide +kernel) ⟨by decide, by decide⟩) hK hP hD hS hA 0 11 rfl rfl rfl hl.1 rfl (Nat.le_of_ble_eq_true rfl) dX11_throwDown_9 ⟨by decide, by decide⟩ (fun v6 u5 H locs hw4 hP hD hS => ?_)
  obtain ⟨f7, a8, g9⟩ := u5
  have hP : va_P D vwCl (xW K r f7 a8 g9) H := hP
  have hD : va_D A (xW K r f7 a8 g9) := hD
  refine k_top (z := (-2)) (hw4) ?_
  exact kI_ret (v := (-2)) hx hb hr hlocks rfl hK hS dX11_throwDown_12 (f7, a8, g9) hP hD rfl
set_option maxHeartbeats 4000000 in
set_option maxRecDepth 100000 in
theorem x_restoreLatest (l : Launch) {D : va_G} {K : Nat → ClassId} (r : Nat → Nat) (f : Nat → Int32) (a : Nat → Nat → Int32) (g : xG) (h0 : f 704 = 0)   : kI l yX2_restoreLatest (Cond.code yX2_restoreLatest cX2_restoreLatest 3 (some .int) :: kG) (rmD 1 0 0) D (tysK K) [.ref (r 22), .ref (r 1)] (xW K r f a g) (fun v (_ : Unit) => v = (-3)) (fun _ => xW K r f a g) 0 0 := by
  refine kI.of (cc := cX2_restoreLatest) (maxL := 3) (ret := (some .int)) (by decide) rfl (Nat.le_of_ble_eq_true rfl) ?_
  intro p e s m below meth c A hx hb hr hml hown hts hlocks hnm hK hP hD hS hA ls hl
  have hg : ∀ w ∈ kG, w.before _ s = true := fun w h => hts w (List.mem_cons_of_mem _ h)
  have hown : s.vm.findClass RX2 = some m.cls := hown
  have hl : lv_has ls 3 [(0, .ref (r 22)), (1, .ref (r 1))] := hl
  refine lv_aload_n hx hb dX2_restoreLatest_0 rfl (lv_at hl 0 rfl) ?_
  refine va_get (D := D) (ci := 2) (v := .int (f 704)) (C := RX2) (T := TX2) (N := 3) hx hb hg inC2 hown hK hP 22 rfl rfl 0 (by decide) (hg _ wt1_205) (fun _ h9 => h9) rfl dX2_restoreLatest_1 ?_
  refine k_top (z := 0) h0 ?_
  refine lv_if_gt (tgt := 10) hx hb dX2_restoreLatest_4 (by decide) (fun c1 => absurd c1 (by decide +kernel)) (fun c1 => ?_)
  refine lv_bipush (v := (-3)) hx hb dX2_restoreLatest_7 (by decide) ?_
  exact kI_ret (v := (-3)) hx hb hr hlocks rfl hK hS dX2_restoreLatest_9 () hP hD rfl
set_option maxHeartbeats 4000000 in
set_option maxRecDepth 100000 in
theorem x_undo (l : Launch) {D : va_G} {K : Nat → ClassId} (r : Nat → Nat) (f : Nat → Int32) (a : Nat → Nat → Int32) (g : xG) (h0 : f 704 = 0)   : kI l yX11_undo (Cond.code yX11_undo cX11_undo 1 (some .int) :: kG) (rmD 3 0 0) D (tysK K) [.ref (r 0)] (xW K r f a g) (fun v (u : xS) => v = (-3)) (fun u => xW K r u.1 u.2.1 u.2.2) 0 0 := by
  refine kI.of (cc := cX11_undo) (maxL := 1) (ret := (some .int)) (by decide) rfl (Nat.le_of_ble_eq_true rfl) ?_
  intro p e s m below meth c A hx hb hr hml hown hts hlocks hnm hK hP hD hS hA ls hl
  have hg : ∀ w ∈ kG, w.before _ s = true := fun w h => hts w (List.mem_cons_of_mem _ h)
  have hown : s.vm.findClass RX11 = some m.cls := hown
  have hl : lv_has ls 1 [(0, .ref (r 0))] := hl
  refine lv_aload_n hx hb dX11_undo_0 rfl (lv_at hl 0 rfl) ?_
  refine lv_aload_n hx hb dX11_undo_1 rfl (lv_at hl 0 rfl) ?_
  refine va_get (D := D) (ci := 11) (v := .ref (r 22)) (C := RX11) (T := TX11) (N := 17) hx hb hg inC11 hown hK hP 0 rfl rfl 1 (by decide) (hg _ wt2_187) (fun _ h9 => h9) rfl dX11_undo_2 ?_
  refine lv_aload_n hx hb dX11_undo_5 rfl (lv_at hl 0 rfl) ?_
  refine va_get (D := D) (ci := 11) (v := .ref (r 1)) (C := RX11) (T := TX11) (N := 17) hx hb hg inC11 hown hK hP 0 rfl rfl 0 (by decide) (hg _ wt2_186) (fun _ h9 => h9) rfl dX11_undo_6 ?_
  refine kI.callW (As := [.ref (r 1)]) (rest := [.ref (r 0)]) ⟨hx, hb, hml, hown, hg⟩ (x_restoreLatest l r f a g h0 ) (cwV 1 hg (kgV wt4_193 wt4_194 wt4_195 wt1_4 wt4_196) rfl rfl rfl (by decide +kernel) ⟨by decide, by decide⟩) hK hP hD hS hA 22 2 rfl rfl rfl hl.1 rfl (Nat.le_of_ble_eq_true rfl) dX11_undo_9 ⟨by decide, by decide⟩ (fun v3 u2 H locs hw1 hP hD hS => ?_)
  have hP : va_P D vwCl (xW K r f a g) H := hP
  have hD : va_D A (xW K r f a g) := hD
  refine k_top (z := (-3)) (hw1) ?_
  refine kI.callW (As := [.int (-3)]) (rest := []) ⟨hx, hb, hml, hown, hg⟩ (x_settle3 l r f a g  ) (cwV 1 hg (kgV wt4_170 wt4_172 wp2_11 wt1_1 wt4_173) rfl rfl rfl (by decide +kernel) ⟨by decide, by decide⟩) hK hP hD hS hA 0 11 rfl rfl rfl hl.1 rfl (Nat.le_of_ble_eq_true rfl) dX11_undo_12 ⟨by decide, by decide⟩ (fun v6 u5 H locs hw4 hP hD hS => ?_)
  obtain ⟨f7, a8, g9⟩ := u5
  have hP : va_P D vwCl (xW K r f7 a8 g9) H := hP
  have hD : va_D A (xW K r f7 a8 g9) := hD
  refine k_top (z := (-3)) (hw4) ?_
  exact kI_ret (v := (-3)) hx hb hr hlocks rfl hK hS dX11_undo_15 (f7, a8, g9) hP hD rfl
set_option maxHeartbeats 4000000 in
set_option maxRecDepth 100000 in
theorem x_longest (l : Launch) {D : va_G} {K : Nat → ClassId} (r : Nat → Nat) (f : Nat → Int32) (a : Nat → Nat → Int32) (g : xG) (h0 : f 32 = 0)   : kI l yX11_longest (Cond.code yX11_longest cX11_longest 1 (some .int) :: kG) (rmD 3 0 0) D (tysK K) [.ref (r 0)] (xW K r f a g) (fun v (_ : Unit) => v = 0) (fun _ => xW K r f a g) 0 0 := by
  refine kI.of (cc := cX11_longest) (maxL := 1) (ret := (some .int)) (by decide) rfl (Nat.le_of_ble_eq_true rfl) ?_
  intro p e s m below meth c A hx hb hr hml hown hts hlocks hnm hK hP hD hS hA ls hl
  have hg : ∀ w ∈ kG, w.before _ s = true := fun w h => hts w (List.mem_cons_of_mem _ h)
  have hown : s.vm.findClass RX11 = some m.cls := hown
  have hl : lv_has ls 1 [(0, .ref (r 0))] := hl
  refine lv_aload_n hx hb dX11_longest_0 rfl (lv_at hl 0 rfl) ?_
  refine va_get (D := D) (ci := 11) (v := .ref (r 1)) (C := RX11) (T := TX11) (N := 17) hx hb hg inC11 hown hK hP 0 rfl rfl 0 (by decide) (hg _ wt2_186) (fun _ h9 => h9) rfl dX11_longest_1 ?_
  refine kI.callW (As := []) (rest := []) ⟨hx, hb, hml, hown, hg⟩ (x_reckonChains_now l r f a g h0 ) (cwV 0 hg (kgV wt3_47 wt3_48 wt3_49 wt1_2 wt3_50) rfl rfl rfl (by decide +kernel) ⟨by decide, by decide⟩) hK hP hD hS hA 1 7 rfl rfl rfl hl.1 rfl (Nat.le_of_ble_eq_true rfl) dX11_longest_4 ⟨by decide, by decide⟩ (fun v3 u2 H locs hw1 hP hD hS => ?_)
  have hP : va_P D vwCl (xW K r f a g) H := hP
  have hD : va_D A (xW K r f a g) := hD
  refine k_top (z := 0) (hw1) ?_
  exact kI_ret (v := 0) hx hb hr hlocks rfl hK hS dX11_longest_7 () hP hD rfl
set_option maxHeartbeats 4000000 in
set_option maxRecDepth 100000 in
theorem x_endOf (l : Launch) {D : va_G} {K : Nat → ClassId} (r : Nat → Nat) (f : Nat → Int32) (a : Nat → Nat → Int32) (g : xG) (h0 : f 2849 = 0) (h1 : f 2850 = 0) (x : Int32) (y : Int32)  : kI l yX1_endOf (Cond.code yX1_endOf cX1_endOf 3 (some .int) :: kG) (rmD 1 0 0) D (tysK K) [.ref (r 89), .int x, .int y] (xW K r f a g) (fun v (_ : Unit) => v = (-1)) (fun _ => xW K r f a g) 0 0 := by
  refine kI.of (cc := cX1_endOf) (maxL := 3) (ret := (some .int)) (by decide) rfl (Nat.le_of_ble_eq_true rfl) ?_
  intro p e s m below meth c A hx hb hr hml hown hts hlocks hnm hK hP hD hS hA ls hl
  have hg : ∀ w ∈ kG, w.before _ s = true := fun w h => hts w (List.mem_cons_of_mem _ h)
  have hown : s.vm.findClass RX1 = some m.cls := hown
  have hl : lv_has ls 3 [(0, .ref (r 89)), (1, .int x), (2, .int y)] := hl
  refine lv_iload_n hx hb dX1_endOf_0 rfl (lv_at hl 2 rfl) ?_
  refine lv_if_ne (tgt := 29) hx hb dX1_endOf_1 (by decide) (fun c1 => ?_) (fun c1 => ?_)
  · refine lv_iload_n hx hb dX1_endOf_29 rfl (lv_at hl 2 rfl) ?_
    refine lv_iconst (v := 1) hx hb dX1_endOf_30 (by decide) ?_
    refine lv_icmp_ne (tgt := 61) hx hb dX1_endOf_31 (by decide) (fun c2 => ?_) (fun c2 => ?_)
    · refine lv_iconst (v := (-1)) hx hb dX1_endOf_61 (by decide) ?_
      exact kI_ret (v := (-1)) hx hb hr hlocks rfl hK hS dX1_endOf_62 () hP hD rfl
    · refine lv_iload_n hx hb dX1_endOf_34 rfl (lv_at hl 1 rfl) ?_
      refine lv_if_lt (tgt := 61) hx hb dX1_endOf_35 (by decide) (fun c3 => ?_) (fun c3 => ?_)
      · refine lv_iconst (v := (-1)) hx hb dX1_endOf_61 (by decide) ?_
        exact kI_ret (v := (-1)) hx hb hr hlocks rfl hK hS dX1_endOf_62 () hP hD rfl
      · refine lv_iload_n hx hb dX1_endOf_38 rfl (lv_at hl 1 rfl) ?_
        refine lv_aload_n hx hb dX1_endOf_39 rfl (lv_at hl 0 rfl) ?_
        refine va_get (D := D) (ci := 1) (v := .int (f 2850)) (C := RX1) (T := TX1) (N := 5) hx hb hg inC1 hown hK hP 89 rfl rfl 2 (by decide) (hg _ wt2_171) (fun _ h9 => h9) rfl dX1_endOf_40 ?_
        refine k_top (z := 0) h1 ?_
        refine lv_icmp_ge (tgt := 61) hx hb dX1_endOf_43 (by decide) (fun c4 => ?_) (fun c4 => absurd (Int32.not_lt.mp c3) c4)
        refine lv_iconst (v := (-1)) hx hb dX1_endOf_61 (by decide) ?_
        exact kI_ret (v := (-1)) hx hb hr hlocks rfl hK hS dX1_endOf_62 () hP hD rfl
  · refine lv_iload_n hx hb dX1_endOf_4 rfl (lv_at hl 1 rfl) ?_
    refine lv_if_lt (tgt := 29) hx hb dX1_endOf_5 (by decide) (fun c5 => ?_) (fun c5 => ?_)
    · refine lv_iload_n hx hb dX1_endOf_29 rfl (lv_at hl 2 rfl) ?_
      refine lv_iconst (v := 1) hx hb dX1_endOf_30 (by decide) ?_
      refine lv_icmp_ne (tgt := 61) hx hb dX1_endOf_31 (by decide) (fun c6 => ?_) (fun c6 => ?_)
      · refine lv_iconst (v := (-1)) hx hb dX1_endOf_61 (by decide) ?_
        exact kI_ret (v := (-1)) hx hb hr hlocks rfl hK hS dX1_endOf_62 () hP hD rfl
      · refine lv_iload_n hx hb dX1_endOf_34 rfl (lv_at hl 1 rfl) ?_
        refine lv_if_lt (tgt := 61) hx hb dX1_endOf_35 (by decide) (fun c7 => ?_) (fun c7 => absurd c5 c7)
        refine lv_iconst (v := (-1)) hx hb dX1_endOf_61 (by decide) ?_
        exact kI_ret (v := (-1)) hx hb hr hlocks rfl hK hS dX1_endOf_62 () hP hD rfl
    · refine lv_iload_n hx hb dX1_endOf_8 rfl (lv_at hl 1 rfl) ?_
      refine lv_aload_n hx hb dX1_endOf_9 rfl (lv_at hl 0 rfl) ?_
      refine va_get (D := D) (ci := 1) (v := .int (f 2849)) (C := RX1) (T := TX1) (N := 5) hx hb hg inC1 hown hK hP 89 rfl rfl 1 (by decide) (hg _ wt2_170) (fun _ h9 => h9) rfl dX1_endOf_10 ?_
      refine k_top (z := 0) h0 ?_
      refine lv_icmp_ge (tgt := 29) hx hb dX1_endOf_13 (by decide) (fun c8 => ?_) (fun c8 => absurd (Int32.not_lt.mp c5) c8)
      refine lv_iload_n hx hb dX1_endOf_29 rfl (lv_at hl 2 rfl) ?_
      refine lv_iconst (v := 1) hx hb dX1_endOf_30 (by decide) ?_
      refine lv_icmp_ne (tgt := 61) hx hb dX1_endOf_31 (by decide) (fun c9 => ?_) (fun c9 => ?_)
      · refine lv_iconst (v := (-1)) hx hb dX1_endOf_61 (by decide) ?_
        exact kI_ret (v := (-1)) hx hb hr hlocks rfl hK hS dX1_endOf_62 () hP hD rfl
      · refine lv_iload_n hx hb dX1_endOf_34 rfl (lv_at hl 1 rfl) ?_
        refine lv_if_lt (tgt := 61) hx hb dX1_endOf_35 (by decide) (fun c10 => absurd c10 c5) (fun c10 => ?_)
        refine lv_iload_n hx hb dX1_endOf_38 rfl (lv_at hl 1 rfl) ?_
        refine lv_aload_n hx hb dX1_endOf_39 rfl (lv_at hl 0 rfl) ?_
        refine va_get (D := D) (ci := 1) (v := .int (f 2850)) (C := RX1) (T := TX1) (N := 5) hx hb hg inC1 hown hK hP 89 rfl rfl 2 (by decide) (hg _ wt2_171) (fun _ h9 => h9) rfl dX1_endOf_40 ?_
        refine k_top (z := 0) h1 ?_
        refine lv_icmp_ge (tgt := 61) hx hb dX1_endOf_43 (by decide) (fun c11 => ?_) (fun c11 => absurd (Int32.not_lt.mp c5) c11)
        refine lv_iconst (v := (-1)) hx hb dX1_endOf_61 (by decide) ?_
        exact kI_ret (v := (-1)) hx hb hr hlocks rfl hK hS dX1_endOf_62 () hP hD rfl
end
section
theorem cl_17 : (17 : Int32).toNatClampNeg = 17 := by decide +kernel
theorem cl_18 : (18 : Int32).toNatClampNeg = 18 := by decide +kernel
theorem cl_19 : (19 : Int32).toNatClampNeg = 19 := by decide +kernel
theorem cl_20 : (20 : Int32).toNatClampNeg = 20 := by decide +kernel
theorem cl_21 : (21 : Int32).toNatClampNeg = 21 := by decide +kernel
set_option maxHeartbeats 4000000 in
set_option maxRecDepth 100000 in
theorem t_begins (l : Launch) {D : va_G} {K : Nat → ClassId} (o : Nat) (r : Nat → Nat) (f : Nat → Int32) (a : Nat → Nat → Int32) (g : Nat → Int64) (h0 : a 2 102 = 0) (h1 : a 2 103 = 0) (h2 : a 2 104 = 0) (h3 : a 2 99 = 30) (h4 : a 2 100 = 2)   : kV l yX12_begins (Cond.code yX12_begins cX12_begins 2 none :: kG) (rmD 2 0 0) D (tysK K) [.ref o] (mW K o r f a g) (fun (u : mS) => u.2.1 2 102 = 0 ∧ u.2.1 2 103 = 0 ∧ u.2.1 2 104 = 0 ∧ u.2.1 2 99 = 30 ∧ u.2.1 2 100 = 2) (fun u => mW K o r u.1 u.2.1 u.2.2) 0 0 := by
  refine kV.of (cc := cX12_begins) (maxL := 2) (ret := none) (by decide) rfl (Nat.le_of_ble_eq_true rfl) ?_
  intro p e s m below meth c A hx hb hr hml hown hts hlocks hnm hK hP hD hS hA ls hl
  have hg : ∀ w ∈ kG, w.before _ s = true := fun w h => hts w (List.mem_cons_of_mem _ h)
  have hown : s.vm.findClass RX12 = some m.cls := hown
  have hl : lv_has ls 2 [(0, .ref o)] := hl
  refine lv_aload_n hx hb dX12_begins_0 rfl (lv_at hl 0 rfl) ?_
  refine lv_iconst (v := 0) hx hb dX12_begins_1 (by decide) ?_
  refine kV.callV (As := [.int 0]) (rest := []) ⟨hx, hb, hml, hown, hg⟩ (c_laysAside0 l o r f a g h0 h1 h2 h3 h4 ) (cwV 1 hg (kgV wt7_207 wt7_209 wp7_5 wt1_14 wt7_210) rfl rfl rfl (by decide +kernel) ⟨by decide, by decide⟩) hK hP hD hS hA mIs [] rfl (wr := []) rfl rfl rfl (fun i h => by cases h) 0 12 rfl rfl rfl hl.1 rfl (Nat.le_of_ble_eq_true rfl) dX12_begins_2 ⟨by decide, by decide⟩ (fun u2 H locs hw1 hP hD hS => ?_)
  obtain ⟨f4, a5, g6⟩ := u2
  have hP : va_P D vwCl (mW K o r f4 a5 g6) H := hP
  have hD : va_D A (mW K o r f4 a5 g6) := hD
  refine lv_iconst (v := 0) hx hb dX12_begins_5 (by decide) ?_
  refine lv_istore_n (lv' := [(1, .int 0), (0, .ref o)]) hx hb dX12_begins_6 rfl hl (by decide) rfl (fun ls hl => ?_)
  refine lv_iload_n hx hb dX12_begins_7 rfl (lv_at hl 0 rfl) ?_
  refine lv_bipush (v := 6) hx hb dX12_begins_8 (by decide) ?_
  refine lv_icmp_ge (tgt := 29) hx hb dX12_begins_10 (by decide) (fun c7 => absurd c7 (by decide +kernel)) (fun c7 => ?_)
  refine lv_aload_n hx hb dX12_begins_13 rfl (lv_at hl 1 rfl) ?_
  refine va_get (D := D) (ci := 12) (v := .ref (r 2)) (C := RX12) (T := TX12) (N := 48) hx hb hg inC12 hown hK hP 0 rfl rfl 2 (by decide) (hg _ wt5_162) (fun _ h9 => h9) rfl dX12_begins_14 ?_
  refine lv_bipush (v := 16) hx hb dX12_begins_17 (by decide) ?_
  refine lv_iload_n hx hb dX12_begins_19 rfl (lv_at hl 0 rfl) ?_
  refine lv_iadd hx hb dX12_begins_20 ?_
  refine k_top (z := 16) (by decide +kernel) ?_
  refine lv_iconst (v := (-1)) hx hb dX12_begins_21 (by decide) ?_
  refine va_iast hx hb hK hP hD hS 2 0 rfl rfl (k_in (by decide +kernel)) dX12_begins_22 (fun H locs hP hD hS => ?_)
  rw [cl_16] at hP hD
  have hP : va_P D vwCl (mW K o r f4 (va_up a5 2 (upd (a5 2) 16 (-1))) g6) H := hP
  have hD : va_D A (mW K o r f4 (va_up a5 2 (upd (a5 2) 16 (-1))) g6) := hD
  generalize ea_8 : va_up a5 2 (upd (a5 2) 16 (-1)) = a_8 at hP hD
  refine lv_iinc (v := 1) (lv' := [(1, .int 1), (0, .ref o)]) hx hb dX12_begins_23 hl (k := 0) rfl (by decide +kernel) (by decide) rfl (fun ls hl => ?_)
  refine lv_goto (tgt := 7) hx hb dX12_begins_26 (by decide) ?_
  refine lv_iload_n hx hb dX12_begins_7 rfl (lv_at hl 0 rfl) ?_
  refine lv_bipush (v := 6) hx hb dX12_begins_8 (by decide) ?_
  refine lv_icmp_ge (tgt := 29) hx hb dX12_begins_10 (by decide) (fun c9 => absurd c9 (by decide +kernel)) (fun c9 => ?_)
  refine lv_aload_n hx hb dX12_begins_13 rfl (lv_at hl 1 rfl) ?_
  refine va_get (D := D) (ci := 12) (v := .ref (r 2)) (C := RX12) (T := TX12) (N := 48) hx hb hg inC12 hown hK hP 0 rfl rfl 2 (by decide) (hg _ wt5_162) (fun _ h9 => h9) rfl dX12_begins_14 ?_
  refine lv_bipush (v := 16) hx hb dX12_begins_17 (by decide) ?_
  refine lv_iload_n hx hb dX12_begins_19 rfl (lv_at hl 0 rfl) ?_
  refine lv_iadd hx hb dX12_begins_20 ?_
  refine k_top (z := 17) (by decide +kernel) ?_
  refine lv_iconst (v := (-1)) hx hb dX12_begins_21 (by decide) ?_
  refine va_iast hx hb hK hP hD hS 2 0 rfl rfl (k_in (by decide +kernel)) dX12_begins_22 (fun H locs hP hD hS => ?_)
  rw [cl_17] at hP hD
  have hP : va_P D vwCl (mW K o r f4 (va_up a_8 2 (upd (a_8 2) 17 (-1))) g6) H := hP
  have hD : va_D A (mW K o r f4 (va_up a_8 2 (upd (a_8 2) 17 (-1))) g6) := hD
  generalize ea_10 : va_up a_8 2 (upd (a_8 2) 17 (-1)) = a_10 at hP hD
  refine lv_iinc (v := 2) (lv' := [(1, .int 2), (0, .ref o)]) hx hb dX12_begins_23 hl (k := 0) rfl (by decide +kernel) (by decide) rfl (fun ls hl => ?_)
  refine lv_goto (tgt := 7) hx hb dX12_begins_26 (by decide) ?_
  refine lv_iload_n hx hb dX12_begins_7 rfl (lv_at hl 0 rfl) ?_
  refine lv_bipush (v := 6) hx hb dX12_begins_8 (by decide) ?_
  refine lv_icmp_ge (tgt := 29) hx hb dX12_begins_10 (by decide) (fun c11 => absurd c11 (by decide +kernel)) (fun c11 => ?_)
  refine lv_aload_n hx hb dX12_begins_13 rfl (lv_at hl 1 rfl) ?_
  refine va_get (D := D) (ci := 12) (v := .ref (r 2)) (C := RX12) (T := TX12) (N := 48) hx hb hg inC12 hown hK hP 0 rfl rfl 2 (by decide) (hg _ wt5_162) (fun _ h9 => h9) rfl dX12_begins_14 ?_
  refine lv_bipush (v := 16) hx hb dX12_begins_17 (by decide) ?_
  refine lv_iload_n hx hb dX12_begins_19 rfl (lv_at hl 0 rfl) ?_
  refine lv_iadd hx hb dX12_begins_20 ?_
  refine k_top (z := 18) (by decide +kernel) ?_
  refine lv_iconst (v := (-1)) hx hb dX12_begins_21 (by decide) ?_
  refine va_iast hx hb hK hP hD hS 2 0 rfl rfl (k_in (by decide +kernel)) dX12_begins_22 (fun H locs hP hD hS => ?_)
  rw [cl_18] at hP hD
  have hP : va_P D vwCl (mW K o r f4 (va_up a_10 2 (upd (a_10 2) 18 (-1))) g6) H := hP
  have hD : va_D A (mW K o r f4 (va_up a_10 2 (upd (a_10 2) 18 (-1))) g6) := hD
  generalize ea_12 : va_up a_10 2 (upd (a_10 2) 18 (-1)) = a_12 at hP hD
  refine lv_iinc (v := 3) (lv' := [(1, .int 3), (0, .ref o)]) hx hb dX12_begins_23 hl (k := 0) rfl (by decide +kernel) (by decide) rfl (fun ls hl => ?_)
  refine lv_goto (tgt := 7) hx hb dX12_begins_26 (by decide) ?_
  refine lv_iload_n hx hb dX12_begins_7 rfl (lv_at hl 0 rfl) ?_
  refine lv_bipush (v := 6) hx hb dX12_begins_8 (by decide) ?_
  refine lv_icmp_ge (tgt := 29) hx hb dX12_begins_10 (by decide) (fun c13 => absurd c13 (by decide +kernel)) (fun c13 => ?_)
  refine lv_aload_n hx hb dX12_begins_13 rfl (lv_at hl 1 rfl) ?_
  refine va_get (D := D) (ci := 12) (v := .ref (r 2)) (C := RX12) (T := TX12) (N := 48) hx hb hg inC12 hown hK hP 0 rfl rfl 2 (by decide) (hg _ wt5_162) (fun _ h9 => h9) rfl dX12_begins_14 ?_
  refine lv_bipush (v := 16) hx hb dX12_begins_17 (by decide) ?_
  refine lv_iload_n hx hb dX12_begins_19 rfl (lv_at hl 0 rfl) ?_
  refine lv_iadd hx hb dX12_begins_20 ?_
  refine k_top (z := 19) (by decide +kernel) ?_
  refine lv_iconst (v := (-1)) hx hb dX12_begins_21 (by decide) ?_
  refine va_iast hx hb hK hP hD hS 2 0 rfl rfl (k_in (by decide +kernel)) dX12_begins_22 (fun H locs hP hD hS => ?_)
  rw [cl_19] at hP hD
  have hP : va_P D vwCl (mW K o r f4 (va_up a_12 2 (upd (a_12 2) 19 (-1))) g6) H := hP
  have hD : va_D A (mW K o r f4 (va_up a_12 2 (upd (a_12 2) 19 (-1))) g6) := hD
  generalize ea_14 : va_up a_12 2 (upd (a_12 2) 19 (-1)) = a_14 at hP hD
  refine lv_iinc (v := 4) (lv' := [(1, .int 4), (0, .ref o)]) hx hb dX12_begins_23 hl (k := 0) rfl (by decide +kernel) (by decide) rfl (fun ls hl => ?_)
  refine lv_goto (tgt := 7) hx hb dX12_begins_26 (by decide) ?_
  refine lv_iload_n hx hb dX12_begins_7 rfl (lv_at hl 0 rfl) ?_
  refine lv_bipush (v := 6) hx hb dX12_begins_8 (by decide) ?_
  refine lv_icmp_ge (tgt := 29) hx hb dX12_begins_10 (by decide) (fun c15 => absurd c15 (by decide +kernel)) (fun c15 => ?_)
  refine lv_aload_n hx hb dX12_begins_13 rfl (lv_at hl 1 rfl) ?_
  refine va_get (D := D) (ci := 12) (v := .ref (r 2)) (C := RX12) (T := TX12) (N := 48) hx hb hg inC12 hown hK hP 0 rfl rfl 2 (by decide) (hg _ wt5_162) (fun _ h9 => h9) rfl dX12_begins_14 ?_
  refine lv_bipush (v := 16) hx hb dX12_begins_17 (by decide) ?_
  refine lv_iload_n hx hb dX12_begins_19 rfl (lv_at hl 0 rfl) ?_
  refine lv_iadd hx hb dX12_begins_20 ?_
  refine k_top (z := 20) (by decide +kernel) ?_
  refine lv_iconst (v := (-1)) hx hb dX12_begins_21 (by decide) ?_
  refine va_iast hx hb hK hP hD hS 2 0 rfl rfl (k_in (by decide +kernel)) dX12_begins_22 (fun H locs hP hD hS => ?_)
  rw [cl_20] at hP hD
  have hP : va_P D vwCl (mW K o r f4 (va_up a_14 2 (upd (a_14 2) 20 (-1))) g6) H := hP
  have hD : va_D A (mW K o r f4 (va_up a_14 2 (upd (a_14 2) 20 (-1))) g6) := hD
  generalize ea_16 : va_up a_14 2 (upd (a_14 2) 20 (-1)) = a_16 at hP hD
  refine lv_iinc (v := 5) (lv' := [(1, .int 5), (0, .ref o)]) hx hb dX12_begins_23 hl (k := 0) rfl (by decide +kernel) (by decide) rfl (fun ls hl => ?_)
  refine lv_goto (tgt := 7) hx hb dX12_begins_26 (by decide) ?_
  refine lv_iload_n hx hb dX12_begins_7 rfl (lv_at hl 0 rfl) ?_
  refine lv_bipush (v := 6) hx hb dX12_begins_8 (by decide) ?_
  refine lv_icmp_ge (tgt := 29) hx hb dX12_begins_10 (by decide) (fun c17 => absurd c17 (by decide +kernel)) (fun c17 => ?_)
  refine lv_aload_n hx hb dX12_begins_13 rfl (lv_at hl 1 rfl) ?_
  refine va_get (D := D) (ci := 12) (v := .ref (r 2)) (C := RX12) (T := TX12) (N := 48) hx hb hg inC12 hown hK hP 0 rfl rfl 2 (by decide) (hg _ wt5_162) (fun _ h9 => h9) rfl dX12_begins_14 ?_
  refine lv_bipush (v := 16) hx hb dX12_begins_17 (by decide) ?_
  refine lv_iload_n hx hb dX12_begins_19 rfl (lv_at hl 0 rfl) ?_
  refine lv_iadd hx hb dX12_begins_20 ?_
  refine k_top (z := 21) (by decide +kernel) ?_
  refine lv_iconst (v := (-1)) hx hb dX12_begins_21 (by decide) ?_
  refine va_iast hx hb hK hP hD hS 2 0 rfl rfl (k_in (by decide +kernel)) dX12_begins_22 (fun H locs hP hD hS => ?_)
  rw [cl_21] at hP hD
  have hP : va_P D vwCl (mW K o r f4 (va_up a_16 2 (upd (a_16 2) 21 (-1))) g6) H := hP
  have hD : va_D A (mW K o r f4 (va_up a_16 2 (upd (a_16 2) 21 (-1))) g6) := hD
  generalize ea_18 : va_up a_16 2 (upd (a_16 2) 21 (-1)) = a_18 at hP hD
  refine lv_iinc (v := 6) (lv' := [(1, .int 6), (0, .ref o)]) hx hb dX12_begins_23 hl (k := 0) rfl (by decide +kernel) (by decide) rfl (fun ls hl => ?_)
  refine lv_goto (tgt := 7) hx hb dX12_begins_26 (by decide) ?_
  refine lv_iload_n hx hb dX12_begins_7 rfl (lv_at hl 0 rfl) ?_
  refine lv_bipush (v := 6) hx hb dX12_begins_8 (by decide) ?_
  refine lv_icmp_ge (tgt := 29) hx hb dX12_begins_10 (by decide) (fun c19 => ?_) (fun c19 => absurd (by decide +kernel) c19)
  exact kV_ret hx hb hr hlocks hK hS dX12_begins_29 (f4, a_18, g6) hP hD ⟨((show a_18 2 102 = a_16 2 102 from by rw [← ea_18]; rfl).trans ((show a_16 2 102 = a_14 2 102 from by rw [← ea_16]; rfl).trans ((show a_14 2 102 = a_12 2 102 from by rw [← ea_14]; rfl).trans ((show a_12 2 102 = a_10 2 102 from by rw [← ea_12]; rfl).trans ((show a_10 2 102 = a_8 2 102 from by rw [← ea_10]; rfl).trans ((show a_8 2 102 = a5 2 102 from by rw [← ea_8]; rfl).trans hw1.1)))))), ((show a_18 2 103 = a_16 2 103 from by rw [← ea_18]; rfl).trans ((show a_16 2 103 = a_14 2 103 from by rw [← ea_16]; rfl).trans ((show a_14 2 103 = a_12 2 103 from by rw [← ea_14]; rfl).trans ((show a_12 2 103 = a_10 2 103 from by rw [← ea_12]; rfl).trans ((show a_10 2 103 = a_8 2 103 from by rw [← ea_10]; rfl).trans ((show a_8 2 103 = a5 2 103 from by rw [← ea_8]; rfl).trans hw1.2.1)))))), ((show a_18 2 104 = a_16 2 104 from by rw [← ea_18]; rfl).trans ((show a_16 2 104 = a_14 2 104 from by rw [← ea_16]; rfl).trans ((show a_14 2 104 = a_12 2 104 from by rw [← ea_14]; rfl).trans ((show a_12 2 104 = a_10 2 104 from by rw [← ea_12]; rfl).trans ((show a_10 2 104 = a_8 2 104 from by rw [← ea_10]; rfl).trans ((show a_8 2 104 = a5 2 104 from by rw [← ea_8]; rfl).trans hw1.2.2.1)))))), ((show a_18 2 99 = a_16 2 99 from by rw [← ea_18]; rfl).trans ((show a_16 2 99 = a_14 2 99 from by rw [← ea_16]; rfl).trans ((show a_14 2 99 = a_12 2 99 from by rw [← ea_14]; rfl).trans ((show a_12 2 99 = a_10 2 99 from by rw [← ea_12]; rfl).trans ((show a_10 2 99 = a_8 2 99 from by rw [← ea_10]; rfl).trans ((show a_8 2 99 = a5 2 99 from by rw [← ea_8]; rfl).trans hw1.2.2.2.1)))))), ((show a_18 2 100 = a_16 2 100 from by rw [← ea_18]; rfl).trans ((show a_16 2 100 = a_14 2 100 from by rw [← ea_16]; rfl).trans ((show a_14 2 100 = a_12 2 100 from by rw [← ea_14]; rfl).trans ((show a_12 2 100 = a_10 2 100 from by rw [← ea_12]; rfl).trans ((show a_10 2 100 = a_8 2 100 from by rw [← ea_10]; rfl).trans ((show a_8 2 100 = a5 2 100 from by rw [← ea_8]; rfl).trans hw1.2.2.2.2))))))⟩
end
